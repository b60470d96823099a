/-! 67: what the machine keeps -/
/-- an operand of this kind can be settled down the pile -/
def py_okt (g : Bool) : List Nat → Bool → Prop
  | [], c => c = g
  | x :: l, c => if ar x = true then c = false ∧ py_okt g l false else if cm x = true then c = false ∧ py_okt g l true else (9 ≤ x ∧ x ≤ 12) ∧ c = true ∧ py_okt g l true
/-- the left side of a comparison is being read -/
def py_okl : List Nat → Prop
  | [] => True
  | x :: l => if ar x = true then py_okl l else py_okt true (x :: l) true
/-- the kinds that wait below the operand -/
def py_sty : List Nat → List Bool
  | [] => []
  | x :: l => if ar x = true ∨ cm x = true then false :: py_sty l else if lg x = true then true :: py_sty l else py_sty l
def py_adj : List Nat → Prop
  | [] => True
  | x :: l => py_lo (if x = 9 ∨ x = 12 then 4 else py_rk x) l ∧ py_adj l
def py_bh (st : Nat) : Nat := if st = 2 ∨ st = 5 ∨ st = 7 ∨ st = 8 then 1 else 0
def py_ty (st : Nat) (A B : List Tk) (pl : List Nat) : Prop := (st = 0 ∨ st = 9 → A = [] ∧ B = [] ∧ pl = []) ∧ (st = 1 → B = [] ∧ py_okt false pl false ∧ tyL A [] = some (py_sty pl)) ∧ (st = 2 → B = [] ∧ py_okt false pl false ∧ tyL A [] = some (false :: py_sty pl)) ∧ (3 ≤ st ∧ st ≤ 8 → tyL A [] = some [false]) ∧ (st = 3 → py_okt true pl true ∧ tyL B [] = some (py_sty pl)) ∧ (st = 4 → py_okl pl ∧ tyL B [] = some (py_sty pl)) ∧ (st = 5 → py_okl pl ∧ tyL B [] = some (false :: py_sty pl)) ∧ (st = 6 → py_okt true pl false ∧ tyL B [] = some (py_sty pl)) ∧ (st = 7 → py_okt true pl false ∧ tyL B [] = some (false :: py_sty pl)) ∧ (st = 8 → py_okt true pl true ∧ tyL B [] = some (true :: py_sty pl))
def py_I (n st p pa de br : Nat) (D : List Cl) (A B : List Tk) (pl : List Nat) : Prop := (pa ≤ 60 ∧ pcL (ent D ++ A ++ B) ≤ pa) ∧ (∃ N, 3 * N ≤ p ∧ (ent D ++ A ++ B).length + py_op pl + py_bh st ≤ 2 * pcL (ent D ++ A ++ B) + N) ∧ (de = py_dp pl ∧ de ≤ 10 ∧ br = py_br pl ∧ py_adj pl) ∧ py_ty st A B pl ∧ ((∀ c, c ∈ D → cl_w c) ∧ D.length + (if st = 0 ∨ st = 9 then 0 else 1) ≤ 12) ∧ (p ≤ n + 1 ∧ (st ≠ 9 → p ≤ n) ∧ st ≤ 9)
def py_inv (n : Nat) (x : PS) : Prop := x.2.2.1 = 0 → py_I n x.1 x.2.1 x.2.2.2.1 x.2.2.2.2.1 x.2.2.2.2.2.1 x.2.2.2.2.2.2.1 x.2.2.2.2.2.2.2.1 x.2.2.2.2.2.2.2.2.1 x.2.2.2.2.2.2.2.2.2
theorem py_rk_ar {x : Nat} (h : ar x = true) : 5 ≤ py_rk x ∧ py_rk x ≤ 6 ∧ 2 ≤ x ∧ x ≤ 13 ∧ x ≠ 9 ∧ x ≠ 12 := by
  rcases ar_k h with rfl | rfl | rfl <;> decide
theorem py_rk_cm {x : Nat} (h : cm x = true) : py_rk x = 4 ∧ 2 ≤ x ∧ x ≤ 13 ∧ x ≠ 9 ∧ x ≠ 12 := by
  obtain ⟨h1, h2⟩ := cm_k h
  have : x = 4 ∨ x = 5 ∨ x = 6 ∨ x = 7 ∨ x = 8 := by omega
  rcases this with rfl | rfl | rfl | rfl | rfl <;> decide
theorem py_rk_lo {x : Nat} (h : 9 ≤ x ∧ x ≤ 12) : py_rk x ≤ 3 := by
  have : x = 9 ∨ x = 10 ∨ x = 11 ∨ x = 12 := by omega
  rcases this with rfl | rfl | rfl | rfl <;> decide
theorem py_rk_b (x : Nat) : py_rk x ≤ 6 ∧ (x ≠ 9 → py_rk x ≠ 3) ∧ (x ≠ 12 → 1 ≤ py_rk x) ∧ (x = 9 → py_rk x = 3) ∧ (x = 12 → py_rk x = 0) := by
  unfold py_rk
  repeat' split
  all_goals omega
theorem py_okt_va {g : Bool} : ∀ {l : List Nat} {c : Bool}, py_okt g l c → ∀ x, x ∈ l → 2 ≤ x ∧ x ≤ 13
  | [], _, _, x, hx => by cases hx
  | y :: l, c, h, x, hx => by
    rw [py_okt] at h
    rcases List.mem_cons.mp hx with rfl | hx
    · by_cases h1 : ar x = true
      · exact ⟨(py_rk_ar h1).2.2.1, (py_rk_ar h1).2.2.2.1⟩
      · rw [if_neg h1] at h
        by_cases h2 : cm x = true
        · exact ⟨(py_rk_cm h2).2.1, (py_rk_cm h2).2.2.1⟩
        · rw [if_neg h2] at h; omega
    · by_cases h1 : ar y = true
      · rw [if_pos h1] at h; exact py_okt_va h.2 x hx
      · rw [if_neg h1] at h
        by_cases h2 : cm y = true
        · rw [if_pos h2] at h; exact py_okt_va h.2 x hx
        · rw [if_neg h2] at h; exact py_okt_va h.2.2 x hx
theorem py_okl_va : ∀ {l : List Nat}, py_okl l → ∀ x, x ∈ l → 2 ≤ x ∧ x ≤ 13
  | [], _, x, hx => by cases hx
  | y :: l, h, x, hx => by
    rw [py_okl] at h
    by_cases h1 : ar y = true
    · rw [if_pos h1] at h
      rcases List.mem_cons.mp hx with rfl | hx
      · exact ⟨(py_rk_ar h1).2.2.1, (py_rk_ar h1).2.2.2.1⟩
      · exact py_okl_va h x hx
    · rw [if_neg h1] at h; exact py_okt_va h x hx
theorem tyL_snoc {L : List Tk} {t : Tk} {s s' : List Bool} (h : tyL L [] = some s) (h' : tyT t s = some s') : tyL (L ++ [t]) [] = some s' := by
  rw [tyL_app, h]
  show (match tyT t s with
    | none => none
    | some b => some b) = _
  rw [h']
theorem tyT_ar {x : Nat} (h : ar x = true) (s : List Bool) : tyT (x, 0) (false :: false :: s) = some (false :: s) := by
  rcases ar_k h with rfl | rfl | rfl <;> rfl
theorem tyT_cm {x : Nat} (h : cm x = true) (s : List Bool) : tyT (x, 0) (false :: false :: s) = some (true :: s) := by
  obtain ⟨h1, h2⟩ := cm_k h
  have : x = 4 ∨ x = 5 ∨ x = 6 ∨ x = 7 ∨ x = 8 := by omega
  rcases this with rfl | rfl | rfl | rfl | rfl <;> rfl
theorem py_sty_ar {x : Nat} {l : List Nat} (h : ar x = true ∨ cm x = true) : py_sty (x :: l) = false :: py_sty l := by rw [py_sty, if_pos h]
theorem py_tk_cons (x : Nat) (l : List Nat) (L : List Tk) : L ++ py_tk (x :: l) = (L ++ [(x, 0)]) ++ py_tk l := by
  rw [List.append_assoc]; rfl
theorem py_set {g : Bool} {r : Nat} (hr : 1 ≤ r) : ∀ (l : List Nat) (c : Bool) (L : List Tk), py_okt g l c → tyL L [] = some (c :: py_sty l) → ∃ c', py_okt g (py_dw r l) c' ∧ tyL (L ++ py_tk (py_tw r l)) [] = some (c' :: py_sty (py_dw r l)) ∧ (5 ≤ r → c = false → c' = false)
  | [], c, L, h, hl => ⟨c, h, by rw [py_tw_0]; exact (congrArg (fun z => tyL z []) (List.append_nil L)).trans hl, fun _ z => z⟩
  | x :: l, c, L, h, hl => by
    by_cases hx : r ≤ py_rk x
    · rw [py_tw_y hx, py_dw_y hx, py_tk_cons]
      rw [py_okt] at h
      by_cases h1 : ar x = true
      · rw [if_pos h1] at h
        obtain ⟨rfl, h⟩ := h
        rw [py_sty_ar (Or.inl h1)] at hl
        obtain ⟨c', a1, a2, a3⟩ := py_set hr l false (L ++ [(x, 0)]) h (tyL_snoc hl (tyT_ar h1 _))
        exact ⟨c', a1, a2, a3⟩
      · rw [if_neg h1] at h
        by_cases h2 : cm x = true
        · rw [if_pos h2] at h
          obtain ⟨rfl, h⟩ := h
          rw [py_sty_ar (Or.inr h2)] at hl
          obtain ⟨c', a1, a2, a3⟩ := py_set hr l true (L ++ [(x, 0)]) h (tyL_snoc hl (tyT_cm h2 _))
          exact ⟨c', a1, a2, fun z => absurd z (by have := (py_rk_cm h2).1; omega)⟩
        · rw [if_neg h2] at h
          obtain ⟨hk, rfl, h⟩ := h
          have h9 : x = 9 ∨ x = 10 ∨ x = 11 := by
            have : x ≠ 12 := fun z => by rw [z] at hx; exact absurd hx (by have : py_rk 12 = 0 := rfl; omega)
            omega
          have hs : tyT (x, 0) (true :: py_sty (x :: l)) = some (true :: py_sty l) := by
            rcases h9 with rfl | rfl | rfl <;> rfl
          obtain ⟨c', a1, a2, a3⟩ := py_set hr l true (L ++ [(x, 0)]) h (tyL_snoc hl hs)
          exact ⟨c', a1, a2, fun z => absurd z (by have := py_rk_lo hk; omega)⟩
    · rw [py_tw_n hx, py_dw_n hx]
      exact ⟨c, h, (congrArg (fun z => tyL z []) (List.append_nil L)).trans hl, fun _ z => z⟩
theorem py_setl {r : Nat} (hr : 4 ≤ r) : ∀ (l : List Nat) (L : List Tk), py_okl l → tyL L [] = some (false :: py_sty l) → py_okl (py_dw r l) ∧ tyL (L ++ py_tk (py_tw r l)) [] = some (false :: py_sty (py_dw r l)) ∧ (r = 4 → py_okt true (py_dw r l) true)
  | [], L, h, hl => ⟨h, by rw [py_tw_0]; exact (congrArg (fun z => tyL z []) (List.append_nil L)).trans hl, fun _ => rfl⟩
  | x :: l, L, h, hl => by
    have h' := h
    rw [py_okl] at h
    by_cases h1 : ar x = true
    · rw [if_pos h1] at h
      by_cases hx : r ≤ py_rk x
      · rw [py_tw_y hx, py_dw_y hx, py_tk_cons]
        rw [py_sty_ar (Or.inl h1)] at hl
        exact py_setl hr l (L ++ [(x, 0)]) h (tyL_snoc hl (tyT_ar h1 _))
      · rw [py_tw_n hx, py_dw_n hx]
        exact ⟨h', (congrArg (fun z => tyL z []) (List.append_nil L)).trans hl, fun z => absurd hx (by have := (py_rk_ar h1).1; omega)⟩
    · rw [if_neg h1] at h
      have hx : ¬ r ≤ py_rk x := by
        rw [py_okt, if_neg h1] at h
        by_cases h2 : cm x = true
        · rw [if_pos h2] at h; exact absurd h.1 (by decide)
        · rw [if_neg h2] at h; have := py_rk_lo h.1; omega
      rw [py_tw_n hx, py_dw_n hx]
      exact ⟨h', (congrArg (fun z => tyL z []) (List.append_nil L)).trans hl, fun _ => h⟩
theorem py_cnt {r : Nat} (hr : 1 ≤ r) : ∀ l : List Nat, py_op l = (py_tw r l).length + py_op (py_dw r l) ∧ py_dp l = py_nt (py_tw r l) + py_dp (py_dw r l) ∧ py_br l = py_br (py_dw r l)
  | [] => ⟨rfl, rfl, rfl⟩
  | x :: l => by
    obtain ⟨h1, h2, h3⟩ := py_cnt hr l
    by_cases hx : r ≤ py_rk x
    · have h12 : x ≠ 12 := fun z => by rw [z] at hx; exact absurd hx (by have : py_rk 12 = 0 := rfl; omega)
      rw [py_tw_y hx, py_dw_y hx]
      unfold py_op py_dp py_br py_nt at *
      rw [List.countP_cons, List.countP_cons, List.countP_cons, List.countP_cons, List.length_cons, h1, h2, h3]
      by_cases h9 : x = 9
      · subst h9; simp; omega
      · simp [h12, h9]; omega
    · rw [py_tw_n hx, py_dw_n hx]
      refine ⟨by simp, by unfold py_nt; simp, rfl⟩
theorem py_pc {r : Nat} {l : List Nat} (h : ∀ x, x ∈ l → 2 ≤ x ∧ x ≤ 13) : pcL (py_tk (py_tw r l)) = 0 := by
  have : ∀ l : List Nat, (∀ x, x ∈ l → 2 ≤ x ∧ x ≤ 13) → pcL (py_tk l) = 0 := by
    intro l
    induction l with
    | nil => intro _; rfl
    | cons x l ih =>
      intro h
      show (if x ≤ 1 then 1 else 0) + pcL (py_tk l) = 0
      rw [ih (fun y hy => h y (List.mem_cons_of_mem _ hy)), if_neg (by have := h x (List.mem_cons_self ..); omega)]
  exact this _ (fun x hx => h x ((List.takeWhile_prefix _).mem hx))
theorem py_adj_dw (r : Nat) : ∀ l : List Nat, py_adj l → py_adj (py_dw r l)
  | [], h => h
  | x :: l, h => by
    by_cases hx : r ≤ py_rk x
    · rw [py_dw_y hx]; exact py_adj_dw r l h.2
    · rw [py_dw_n hx]; exact h
def py_g (l : List Nat) : Nat := match l with
  | [] => 0
  | x :: _ => if x = 9 ∨ x = 12 then 0 else if py_rk x ≤ 2 then py_rk x else py_rk x - 1
theorem py_len : ∀ l : List Nat, py_adj l → l.length ≤ 3 * py_dp l + py_g l ∧ py_g l ≤ 5
  | [], _ => ⟨Nat.zero_le _, Nat.zero_le _⟩
  | x :: l, h => by
    obtain ⟨h1, h2⟩ := py_len l h.2
    have hlo := h.1
    obtain ⟨b1, b2, b3, b4, b5⟩ := py_rk_b x
    have hd : py_dp (x :: l) = py_dp l + if x = 9 ∨ x = 12 then 1 else 0 := by
      unfold py_dp
      rw [List.countP_cons]
      by_cases h9 : x = 9 ∨ x = 12
      · rw [if_pos (decide_eq_true h9), if_pos h9]
      · rw [if_neg (fun z => h9 (of_decide_eq_true z)), if_neg h9]
    rw [hd, List.length_cons]
    show _ ≤ _ + (if x = 9 ∨ x = 12 then 0 else if py_rk x ≤ 2 then py_rk x else py_rk x - 1) ∧ (if x = 9 ∨ x = 12 then 0 else if py_rk x ≤ 2 then py_rk x else py_rk x - 1) ≤ 5
    cases l with
    | nil =>
      have : ([] : List Nat).length = 0 := rfl
      have hd0 : py_dp [] = 0 := rfl
      repeat' split
      all_goals omega
    | cons y l =>
      obtain ⟨c1, c2, c3, c4, c5⟩ := py_rk_b y
      have hg : py_g (y :: l) = if y = 9 ∨ y = 12 then 0 else if py_rk y ≤ 2 then py_rk y else py_rk y - 1 := rfl
      rw [hg] at h1
      have hlo2 : py_rk y < (if x = 9 ∨ x = 12 then 4 else py_rk x) := hlo
      by_cases hx : x = 9 ∨ x = 12
      · rw [if_pos hx] at hlo2 ⊢
        rw [if_pos hx]
        revert h1
        repeat' split
        all_goals intros
        all_goals omega
      · rw [if_neg hx] at hlo2 ⊢
        rw [if_neg hx]
        revert h1
        repeat' split
        all_goals intros
        all_goals omega
theorem ent_app : ∀ (D : List Cl) (c : Cl), ent (D ++ [c]) = ent D ++ c.1 ++ c.2
  | [], c => by show c.1 ++ c.2 ++ [] = [] ++ c.1 ++ c.2; simp
  | d :: D, c => by
    show d.1 ++ d.2 ++ ent (D ++ [c]) = d.1 ++ d.2 ++ ent D ++ c.1 ++ c.2
    rw [ent_app D c]
    simp [List.append_assoc]
