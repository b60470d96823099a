/-! 84: the model's tests (walks laid by wip/whole/p84.py) -/
theorem okt_log {g : Bool} : ∀ {l : List Nat}, py_okt g l true → ∀ x, x ∈ l → 9 ≤ x ∧ x ≤ 12
  | [], _, x, hx => by cases hx
  | y :: l, h, x, hx => by
    rw [py_okt] at h
    by_cases h1 : ar y = true
    · rw [if_pos h1] at h; cases h.1
    rw [if_neg h1] at h
    by_cases h2 : cm y = true
    · rw [if_pos h2] at h; cases h.1
    rw [if_neg h2] at h
    rcases List.mem_cons.mp hx with rfl | hx
    · exact h.1
    · exact okt_log h.2.2 x hx
/-- what is open behind a fact -/
theorem opn4 {n : Nat} {y : PS} (hy : pok n y) (h0 : pF y = 0) (hs : pZ y = 7 ∨ pZ y = 8) : (∀ x, x ∈ py_dw 4 (pL y) → 9 ≤ x ∧ x ≤ 12) ∧ py_adj (py_dw 4 (pL y)) ∧ py_lo 4 (py_dw 4 (pL y)) := by
  have hI := hy.1 h0
  have hadj : py_adj (pL y) := hI.2.2.1.2.2.2
  refine ⟨?_, py_adj_dw 4 _ hadj, py_lo_dw 4 _⟩
  obtain ⟨-, -, -, ⟨t0, t1, t2, t3, t4, t5, t6, t7, t8, t9⟩, -⟩ := hI
  have hu : ∃ c, py_okt true (pL y) c ∧ tyL (pB y) [] = some (c :: py_sty (pL y)) := by
    rcases hs with h | h
    · exact ⟨false, t8 h⟩
    · exact ⟨true, t9 h⟩
  obtain ⟨c, u1, u2⟩ := hu
  obtain ⟨c', a1, -, -⟩ := py_set (r := 4) (by decide) (pL y) c (pB y) u1 u2
  have hlo := py_lo_dw 4 (pL y)
  revert a1 hlo
  cases py_dw 4 (pL y) with
  | nil => intro _ _ x hx; cases hx
  | cons z l =>
    intro a1 hlo
    have hz : py_rk z < 4 := hlo
    have : c' = true := by
      rw [py_okt] at a1
      by_cases z1 : ar z = true
      · have := py_rk_ar z1; omega
      rw [if_neg z1] at a1
      by_cases z2 : cm z = true
      · have := py_rk_cm z2; omega
      rw [if_neg z2] at a1
      exact a1.2.1
    rw [this] at a1
    exact okt_log a1
theorem pop_tw {k r : Nat} (hk : (k = 9 ∧ r = 3) ∨ (k = 10 ∧ r = 2) ∨ (k = 11 ∧ r = 1)) : ∀ {l : List Nat}, (∀ x, x ∈ l → 9 ≤ x ∧ x ≤ 12) → py_adj l → py_lo (r + 1) l → pop k l = py_tw r l ∧ rst k l = py_dw r l
  | [], _, _, _ => ⟨rfl, rfl⟩
  | x :: l, h, ha, hlo => by
    have hx := h x (List.mem_cons_self ..)
    have hx4 : x = 9 ∨ x = 10 ∨ x = 11 ∨ x = 12 := by omega
    have hrk : py_rk k = r := by rcases hk with ⟨rfl, rfl⟩ | ⟨rfl, rfl⟩ | ⟨rfl, rfl⟩ <;> rfl
    have hxr : py_rk x < r + 1 := hlo
    by_cases e : x = k
    · subst e
      have hl2 : py_lo (r + 1) l := by
        refine py_lo.le ha.1 ?_
        rcases hk with ⟨rfl, rfl⟩ | ⟨rfl, rfl⟩ | ⟨rfl, rfl⟩ <;> decide
      obtain ⟨p1, p2⟩ := pop_tw hk (fun y hy => h y (List.mem_cons_of_mem _ hy)) ha.2 hl2
      rw [pop_y, rst_y, py_tw_y (by omega), py_dw_y (by omega), p1, p2]
      exact ⟨rfl, rfl⟩
    · have hn : ¬ r ≤ py_rk x := by
        rcases hk with ⟨rfl, rfl⟩ | ⟨rfl, rfl⟩ | ⟨rfl, rfl⟩ <;> rcases hx4 with rfl | rfl | rfl | rfl <;> first | (exact absurd rfl e) | (revert hxr; decide)
      rw [pop_n e, rst_n e, py_tw_n hn, py_dw_n hn]
      exact ⟨rfl, rfl⟩
theorem nt_pop9 : ∀ l : List Nat, py_nt (pop 9 l) = (pop 9 l).length
  | [] => rfl
  | x :: l => by
    by_cases e : x = 9
    · subst e
      rw [pop_y, py_nt_cons, nt_pop9 l, if_pos rfl]; rfl
    · rw [pop_n e]; rfl
theorem nt_pop {k : Nat} (hk : k ≠ 9) : ∀ l : List Nat, py_nt (pop k l) = 0
  | [] => rfl
  | x :: l => by
    by_cases e : x = k
    · subst e
      rw [pop_y, py_nt_cons, nt_pop hk l, if_neg hk]
    · rw [pop_n e]; rfl
theorem nt_app (a b : List Nat) : py_nt (a ++ b) = py_nt a + py_nt b := List.countP_append
theorem tk_app (a b : List Nat) : py_tk (a ++ b) = py_tk a ++ py_tk b := List.map_append
/-- one more kind answered -/
theorem ans_st {t : Nat → Nat} {n r p pa de : Nat} {E : List Tk} {pl : List Nat} {k lev hi : Nat} {T : Md} (hk : (k = 9 ∧ lev = 3 ∧ hi = 4) ∨ (k = 10 ∧ lev = 2 ∧ hi = 3) ∨ (k = 11 ∧ lev = 1 ∧ hi = 2)) (hva : ∀ x, x ∈ py_dw hi pl → 9 ≤ x ∧ x ≤ 12) (hadj : py_adj (py_dw hi pl)) (hm : mr t n r (E ++ py_tk (py_tw hi pl) ++ py_tk (pop k (py_dw hi pl))) p pa (de - py_nt (py_tw hi pl) - (if k = 9 then (pop k (py_dw hi pl)).length else 0)) (rst k (py_dw hi pl)) T) : mr t n r (E ++ py_tk (py_tw lev pl)) p pa (de - py_nt (py_tw lev pl)) (py_dw lev pl) T ∧ (∀ x, x ∈ py_dw lev pl → 9 ≤ x ∧ x ≤ 12) ∧ py_adj (py_dw lev pl) := by
  have hh : hi = lev + 1 := by omega
  obtain ⟨p1, p2⟩ := pop_tw (k := k) (r := lev) (by omega) hva hadj (by rw [hh]; exact py_lo_dw _ _)
  obtain ⟨q1, q2⟩ := py_two (r := hi) (s := lev) (by omega) pl
  have hnt : (if k = 9 then (pop k (py_dw hi pl)).length else 0) = py_nt (pop k (py_dw hi pl)) := by
    by_cases e : k = 9
    · rw [if_pos e, e, nt_pop9]
    · rw [if_neg e, nt_pop e]
  rw [hnt, p1, p2, ← q2, List.append_assoc, ← tk_app, ← q1, Nat.sub_sub, ← nt_app, ← q1] at hm
  refine ⟨hm, fun x hx => hva x ?_, ?_⟩
  · rw [q2] at hx
    exact (List.dropWhile_suffix _).mem hx
  · rw [q2]; exact py_adj_dw _ _ hadj
theorem fct_step {t : Nat → Nat} {n k : Nat} {y : PS} (hz : pZ y = 7 ∨ pZ y = 8) (hk : tx_k t n (tx_fr t n (pP y)) = k) (har : pZ y = 7 → ¬ (k = 2 ∨ k = 3 ∨ k = 13)) : py_at t n (pP y) y = py_fact k (tx_fr t n (pP y)) (tx_e t n (tx_fr t n (pP y))) y := by
  obtain ⟨st, p, fl, pa, de, br, D, A, B, pl⟩ := y
  have hz' : st = 7 ∨ st = 8 := hz
  unfold py_at
  rw [hk]
  rcases hz' with rfl | rfl
  · exact if_neg (har rfl)
  · rfl
theorem fct_join {t : Nat → Nat} {n k : Nat} {y : PS} (hk : k = 10 ∨ k = 11) {a e : Nat} : ∃ z, py_fact k a e y = z ∧ pF z = 0 ∧ pZ z = 3 ∧ pP z = e ∧ pPa z = pPa y ∧ pDe z = pDe y - py_nt (py_tw (py_rk k) (pL y)) ∧ pD z = pD y ∧ pA z = pA y ∧ pL z = k :: py_dw (py_rk k) (pL y) ∧ pE z = pE y ++ py_tk (py_tw (py_rk k) (pL y)) := by
  obtain ⟨st, p, fl, pa, de, br, D, A, B, pl⟩ := y
  refine ⟨_, rfl, ?_⟩
  rw [show py_fact k a e (st, p, fl, pa, de, br, D, A, B, pl) = py_join 3 k e (st, p, fl, pa, de, br, D, A, B, pl) from if_pos hk]
  refine ⟨rfl, rfl, rfl, rfl, rfl, rfl, rfl, rfl, ?_⟩
  show ent D ++ A ++ (B ++ py_tk (py_tw (py_rk k) pl)) = ent D ++ A ++ B ++ py_tk (py_tw (py_rk k) pl)
  simp
theorem fct_brk {k : Nat} {y : PS} {a e : Nat} (hk : ¬ (k = 10 ∨ k = 11)) (hb : pBr y ≠ 0) : (k ≠ 16 → py_fact k a e y = py_fail 0 a y) ∧ (k = 16 → ∃ z, py_fact k a e y = z ∧ pF z = 0 ∧ pZ z = 8 ∧ pP z = e ∧ pPa z = pPa y ∧ pDe z = pDe y - py_nt (py_tw 1 (pL y)) - 1 ∧ pD z = pD y ∧ pA z = pA y ∧ pL z = (py_dw 1 (pL y)).tail ∧ pE z = pE y ++ py_tk (py_tw 1 (pL y))) := by
  obtain ⟨st, p, fl, pa, de, br, D, A, B, pl⟩ := y
  have hb' : ¬ br = 0 := hb
  refine ⟨fun h => (if_neg hk).trans ((if_neg hb').trans (if_neg h)), fun h => ⟨_, rfl, ?_⟩⟩
  rw [show py_fact k a e (st, p, fl, pa, de, br, D, A, B, pl) = (8, e, 0, pa, de - py_nt (py_tw 1 pl) - 1, br - 1, D, A, B ++ py_tk (py_tw 1 pl), (py_dw 1 pl).tail) from (if_neg hk).trans ((if_neg hb').trans (if_pos h))]
  refine ⟨rfl, rfl, rfl, rfl, rfl, rfl, rfl, rfl, ?_⟩
  show ent D ++ A ++ (B ++ py_tk (py_tw 1 pl)) = ent D ++ A ++ B ++ py_tk (py_tw 1 pl)
  simp
/-- behind a fact -/
def bq (t : Nat → Nat) (n r : Nat) (y : PS) (S : Md) : Prop := pF y = 0 ∧ (pZ y = 7 ∨ pZ y = 8) ∧ (pZ y = 7 → nar t n y) ∧ mr t n r (pE y ++ py_tk (py_tw 4 (pL y))) (pP y) (pPa y) (pDe y) (py_dw 4 (pL y)) S
