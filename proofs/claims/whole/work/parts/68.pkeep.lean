/-! 68: every step keeps it -/
theorem py_I.mk0 {n st p pa de br : Nat} {D : List Cl} {A B : List Tk} {pl : List Nat} (h1 : pa ≤ 60 ∧ pcL (ent D ++ A ++ B) ≤ pa) (h2 : ∃ N, 3 * N ≤ p ∧ (ent D ++ A ++ B).length + py_op pl + py_bh st ≤ 2 * pcL (ent D ++ A ++ B) + N) (h3 : de = py_dp pl ∧ de ≤ 10 ∧ br = py_br pl ∧ py_adj pl) (h4 : py_ty st A B pl) (h5 : (∀ c, c ∈ D → cl_w c) ∧ D.length + (if st = 0 ∨ st = 9 then 0 else 1) ≤ 12) (h6 : p ≤ n + 1 ∧ (st ≠ 9 → p ≤ n) ∧ st ≤ 9) : py_I n st p pa de br D A B pl := ⟨h1, h2, h3, h4, h5, h6⟩
theorem py_failI {n c a : Nat} {x : PS} : py_inv n (py_fail c a x) := by
  obtain ⟨st, p, fl, pa, de, br, D, A, B, pl⟩ := x
  intro h
  exact absurd h (by show ¬ 1 + 8 * a + c = 0; omega)
theorem tyT_val {k v : Nat} (hk : k = 0 ∨ k = 1) (h0 : k = 0 → v ≤ 99999) (h1 : k = 1 → v < 10) (s : List Bool) : tyT (k, v) s = some (false :: s) := by
  rcases hk with rfl | rfl
  · show (if v ≤ 99999 then some (false :: s) else none) = _
    rw [if_pos (h0 rfl)]
  · show (if v < 10 then some (false :: s) else none) = _
    rw [if_pos (h1 rfl)]
theorem pcL_one {k v : Nat} (hk : k = 0 ∨ k = 1) : pcL [(k, v)] = 1 := by
  show (if k ≤ 1 then 1 else 0) + 0 = 1
  rw [if_pos (by omega)]
theorem py_putI {n s st k v a e p fl pa de br : Nat} {D : List Cl} {A B : List Tk} {pl : List Nat} (hs : (st = 1 ∧ s = 2) ∨ (st = 3 ∧ s = 5) ∨ (st = 4 ∧ s = 5) ∨ (st = 6 ∧ s = 7)) (hv0 : k = 0 → v ≤ 99999) (hv1 : k = 1 → v < 10) (hpa : p ≤ a) (hae : a + 1 ≤ e) (hle : k ≠ 18 → e ≤ n) (h : py_I n st p pa de br D A B pl) : py_inv n (py_put s k v a e (st, p, fl, pa, de, br, D, A, B, pl)) := by
  obtain ⟨⟨i1, i2⟩, ⟨N, i3, i4⟩, i5, i6, ⟨i7, i8⟩, i9⟩ := h
  unfold py_put
  show py_inv n (if k ≠ 0 ∧ k ≠ 1 then _ else _)
  by_cases h1 : k ≠ 0 ∧ k ≠ 1
  · rw [if_pos h1]; exact py_failI
  rw [if_neg h1]
  have hk : k = 0 ∨ k = 1 := by omega
  by_cases h2 : k = 0 ∧ 5 < e - a
  · rw [if_pos h2]; exact py_failI
  rw [if_neg h2]
  by_cases h3 : pa = 60
  · rw [if_pos h3]; exact py_failI
  rw [if_neg h3]
  have hbs : py_bh s = 1 := by rcases hs with ⟨-, rfl⟩ | ⟨-, rfl⟩ | ⟨-, rfl⟩ | ⟨-, rfl⟩ <;> rfl
  have hbt : py_bh st = 0 := by rcases hs with ⟨rfl, -⟩ | ⟨rfl, -⟩ | ⟨rfl, -⟩ | ⟨rfl, -⟩ <;> rfl
  have hc : ∀ L : List Tk, pcL (L ++ [(k, v)]) = pcL L + 1 := fun L => by rw [pcL_app, pcL_one hk]
  have h8 : D.length + 1 ≤ 12 := by
    rcases hs with ⟨rfl, -⟩ | ⟨rfl, -⟩ | ⟨rfl, -⟩ | ⟨rfl, -⟩ <;> exact i8
  obtain ⟨t0, t1, t2, t3, t4, t5, t6, t7, t8, t9⟩ := i6
  by_cases h4 : s = 2
  · rw [if_pos h4]
    subst h4
    have e1 : st = 1 := by omega
    obtain ⟨rfl, u2, u3⟩ := t1 e1
    intro _
    simp only [List.append_nil] at i2 i4
    have hA : ent D ++ (A ++ [(k, v)]) ++ [] = ent D ++ A ++ [(k, v)] := by simp
    refine py_I.mk0 ⟨by omega, ?_⟩ ⟨N, by omega, ?_⟩ i5 ?_ ⟨i7, h8⟩ ⟨by have := hle (by omega); omega, fun _ => hle (by omega), by omega⟩
    · rw [hA, hc]; omega
    · rw [hA, hc, List.length_append, hbs]
      show _ + 1 + _ + 1 ≤ _
      omega
    · exact ⟨fun z => absurd z (by decide), fun z => absurd z (by decide), fun _ => ⟨rfl, u2, tyL_snoc u3 (tyT_val hk hv0 hv1 _)⟩, fun z => absurd z (by decide), fun z => absurd z (by decide), fun z => absurd z (by decide), fun z => absurd z (by decide), fun z => absurd z (by decide), fun z => absurd z (by decide), fun z => absurd z (by decide)⟩
  · rw [if_neg h4]
    intro _
    have hA : ent D ++ A ++ (B ++ [(k, v)]) = ent D ++ A ++ B ++ [(k, v)] := by simp
    refine py_I.mk0 ⟨by omega, ?_⟩ ⟨N, by omega, ?_⟩ i5 ?_ ⟨i7, ?_⟩ ⟨by have := hle (by omega); omega, fun _ => hle (by omega), by omega⟩
    · rw [hA, hc]; omega
    · rw [hA, hc, List.length_append, hbs]
      show _ + 1 + _ + 1 ≤ _
      omega
    · rcases hs with ⟨rfl, rfl⟩ | ⟨rfl, rfl⟩ | ⟨rfl, rfl⟩ | ⟨rfl, rfl⟩
      · exact absurd rfl h4
      · obtain ⟨u1, u2⟩ := t4 rfl
        refine ⟨fun z => absurd z (by decide), fun z => absurd z (by decide), fun z => absurd z (by decide), fun _ => t3 (by decide), fun z => absurd z (by decide), fun z => absurd z (by decide), fun _ => ⟨?_, tyL_snoc u2 (tyT_val hk hv0 hv1 _)⟩, fun z => absurd z (by decide), fun z => absurd z (by decide), fun z => absurd z (by decide)⟩
        cases pl with
        | nil => trivial
        | cons x l =>
          rw [py_okl]
          by_cases hx : ar x = true
          · rw [py_okt, if_pos hx] at u1; exact absurd u1.1 (by decide)
          · rw [if_neg hx]; exact u1
      · obtain ⟨u1, u2⟩ := t5 rfl
        exact ⟨fun z => absurd z (by decide), fun z => absurd z (by decide), fun z => absurd z (by decide), fun _ => t3 (by decide), fun z => absurd z (by decide), fun z => absurd z (by decide), fun _ => ⟨u1, tyL_snoc u2 (tyT_val hk hv0 hv1 _)⟩, fun z => absurd z (by decide), fun z => absurd z (by decide), fun z => absurd z (by decide)⟩
      · obtain ⟨u1, u2⟩ := t7 rfl
        exact ⟨fun z => absurd z (by decide), fun z => absurd z (by decide), fun z => absurd z (by decide), fun _ => t3 (by decide), fun z => absurd z (by decide), fun z => absurd z (by decide), fun z => absurd z (by decide), fun z => absurd z (by decide), fun _ => ⟨u1, tyL_snoc u2 (tyT_val hk hv0 hv1 _)⟩, fun z => absurd z (by decide)⟩
    · have : (if s = 0 ∨ s = 9 then 0 else 1) = 1 := if_neg (by omega)
      rw [this]; exact h8
/-- what settling does to all but the kinds -/
theorem py_setc {n r st p pa de br : Nat} {D : List Cl} {A B : List Tk} {pl : List Nat} (hr : 1 ≤ r) (hva : ∀ x, x ∈ pl → 2 ≤ x ∧ x ≤ 13) (h : py_I n st p pa de br D A B pl) : pcL (ent D ++ A ++ B ++ py_tk (py_tw r pl)) = pcL (ent D ++ A ++ B) ∧ (ent D ++ A ++ B ++ py_tk (py_tw r pl)).length + py_op (py_dw r pl) = (ent D ++ A ++ B).length + py_op pl ∧ de - py_nt (py_tw r pl) = py_dp (py_dw r pl) ∧ py_dp (py_dw r pl) ≤ 10 ∧ br = py_br (py_dw r pl) ∧ py_adj (py_dw r pl) := by
  obtain ⟨-, -, ⟨i1, i2, i3, i4⟩, -⟩ := h
  obtain ⟨c1, c2, c3⟩ := py_cnt hr pl
  refine ⟨by rw [pcL_app, py_pc hva]; rfl, ?_, by omega, by omega, by omega, py_adj_dw r pl i4⟩
  rw [List.length_append]
  have : (py_tk (py_tw r pl)).length = (py_tw r pl).length := by unfold py_tk; rw [List.length_map]
  omega
theorem py_op_cons {k : Nat} {l : List Nat} (h : k ≠ 12) : py_op (k :: l) = py_op l + 1 := by
  unfold py_op
  rw [List.countP_cons, if_pos (decide_eq_true h)]
theorem py_dp_cons {k : Nat} {l : List Nat} (h : k ≠ 9 ∧ k ≠ 12) : py_dp (k :: l) = py_dp l := by
  unfold py_dp
  rw [List.countP_cons, if_neg (fun z => by have := of_decide_eq_true z; omega)]
  rfl
theorem py_br_cons {k : Nat} {l : List Nat} (h : k ≠ 12) : py_br (k :: l) = py_br l := by
  unfold py_br
  rw [List.countP_cons, if_neg (fun z => h (of_decide_eq_true z))]
  rfl
/-- which kinds are right behind a join -/
theorem py_joinT {st s k : Nat} {A B : List Tk} {pl : List Nat} (hk : (ar k = true ∧ ((st = 2 ∧ s = 1) ∨ (st = 5 ∧ s = 4) ∨ (st = 7 ∧ s = 6))) ∨ (cm k = true ∧ st = 5 ∧ s = 6) ∨ ((k = 10 ∨ k = 11) ∧ (st = 7 ∨ st = 8) ∧ s = 3)) (h : py_ty st A B pl) : py_ty s (if s = 1 then A ++ py_tk (py_tw (py_rk k) pl) else A) (if s = 1 then B else B ++ py_tk (py_tw (py_rk k) pl)) (k :: py_dw (py_rk k) pl) ∧ ∀ x, x ∈ pl → 2 ≤ x ∧ x ≤ 13 := by
  obtain ⟨t0, t1, t2, t3, t4, t5, t6, t7, t8, t9⟩ := h
  rcases hk with ⟨ha, hs⟩ | ⟨hc, rfl, rfl⟩ | ⟨hl, hst, rfl⟩
  · have hr := py_rk_ar ha
    have hst : ∀ l, py_sty (k :: l) = false :: py_sty l := fun l => py_sty_ar (Or.inl ha)
    rcases hs with ⟨rfl, rfl⟩ | ⟨rfl, rfl⟩ | ⟨rfl, rfl⟩
    · obtain ⟨u1, u2, u3⟩ := t2 rfl
      obtain ⟨c', a1, a2, a3⟩ := py_set (r := py_rk k) (by omega) pl false A u2 u3
      obtain rfl := a3 hr.1 rfl
      refine ⟨⟨fun z => absurd z (by decide), fun _ => ⟨u1, ?_, ?_⟩, fun z => absurd z (by decide), fun z => absurd z (by decide), fun z => absurd z (by decide), fun z => absurd z (by decide), fun z => absurd z (by decide), fun z => absurd z (by decide), fun z => absurd z (by decide), fun z => absurd z (by decide)⟩, py_okt_va u2⟩
      · rw [py_okt, if_pos ha]; exact ⟨rfl, a1⟩
      · rw [hst]; exact a2
    · obtain ⟨u1, u2⟩ := t6 rfl
      obtain ⟨a1, a2, -⟩ := py_setl (r := py_rk k) (by omega) pl B u1 u2
      refine ⟨⟨fun z => absurd z (by decide), fun z => absurd z (by decide), fun z => absurd z (by decide), fun _ => t3 (by decide), fun z => absurd z (by decide), fun _ => ⟨?_, ?_⟩, fun z => absurd z (by decide), fun z => absurd z (by decide), fun z => absurd z (by decide), fun z => absurd z (by decide)⟩, py_okl_va u1⟩
      · rw [py_okl, if_pos ha]; exact a1
      · rw [hst]; exact a2
    · obtain ⟨u1, u2⟩ := t8 rfl
      obtain ⟨c', a1, a2, a3⟩ := py_set (r := py_rk k) (by omega) pl false B u1 u2
      obtain rfl := a3 hr.1 rfl
      refine ⟨⟨fun z => absurd z (by decide), fun z => absurd z (by decide), fun z => absurd z (by decide), fun _ => t3 (by decide), fun z => absurd z (by decide), fun z => absurd z (by decide), fun z => absurd z (by decide), fun _ => ⟨?_, ?_⟩, fun z => absurd z (by decide), fun z => absurd z (by decide)⟩, py_okt_va u1⟩
      · rw [py_okt, if_pos ha]; exact ⟨rfl, a1⟩
      · rw [hst]; exact a2
  · have hr := py_rk_cm hc
    obtain ⟨u1, u2⟩ := t6 rfl
    obtain ⟨a1, a2, a3⟩ := py_setl (r := py_rk k) (by omega) pl B u1 u2
    refine ⟨⟨fun z => absurd z (by decide), fun z => absurd z (by decide), fun z => absurd z (by decide), fun _ => t3 (by decide), fun z => absurd z (by decide), fun z => absurd z (by decide), fun z => absurd z (by decide), fun _ => ⟨?_, ?_⟩, fun z => absurd z (by decide), fun z => absurd z (by decide)⟩, py_okl_va u1⟩
    · have hn : ¬ ar k = true := fun z => by have := py_rk_ar z; omega
      rw [py_okt, if_neg hn, if_pos hc]
      exact ⟨rfl, a3 hr.1⟩
    · rw [py_sty_ar (Or.inr hc)]; exact a2
  · have hu : ∃ c, py_okt true pl c ∧ tyL B [] = some (c :: py_sty pl) := by
      rcases hst with rfl | rfl
      · exact ⟨false, t8 rfl⟩
      · exact ⟨true, t9 rfl⟩
    obtain ⟨c, u1, u2⟩ := hu
    have h1 : 1 ≤ py_rk k ∧ py_rk k ≤ 2 := by rcases hl with rfl | rfl <;> decide
    obtain ⟨c', a1, a2, -⟩ := py_set (r := py_rk k) h1.1 pl c B u1 u2
    have hc : c' = true := by
      have hlo := py_lo_dw (py_rk k) pl
      revert hlo a1
      cases py_dw (py_rk k) pl with
      | nil => intro a1 _; exact a1
      | cons y l =>
        intro a1 hlo
        have hy : py_rk y < py_rk k := hlo
        rw [py_okt] at a1
        by_cases z1 : ar y = true
        · have := py_rk_ar z1; omega
        · rw [if_neg z1] at a1
          by_cases z2 : cm y = true
          · have := py_rk_cm z2; omega
          · rw [if_neg z2] at a1; exact a1.2.1
    subst hc
    have h3 : 3 ≤ st ∧ st ≤ 8 := by omega
    refine ⟨⟨fun z => absurd z (by decide), fun z => absurd z (by decide), fun z => absurd z (by decide), fun _ => t3 h3, fun _ => ⟨?_, ?_⟩, fun z => absurd z (by decide), fun z => absurd z (by decide), fun z => absurd z (by decide), fun z => absurd z (by decide), fun z => absurd z (by decide)⟩, py_okt_va u1⟩
    · rcases hl with rfl | rfl
      · exact ⟨by decide, rfl, a1⟩
      · exact ⟨by decide, rfl, a1⟩
    · rcases hl with rfl | rfl
      · exact a2
      · exact a2
theorem py_joinI {n s st k a e p fl pa de br : Nat} {D : List Cl} {A B : List Tk} {pl : List Nat} (hk : (ar k = true ∧ ((st = 2 ∧ s = 1) ∨ (st = 5 ∧ s = 4) ∨ (st = 7 ∧ s = 6))) ∨ (cm k = true ∧ st = 5 ∧ s = 6) ∨ ((k = 10 ∨ k = 11) ∧ (st = 7 ∨ st = 8) ∧ s = 3)) (hpa : p ≤ a) (hae : a + 1 ≤ e) (hle : e ≤ n) (h : py_I n st p pa de br D A B pl) : py_inv n (py_join s k e (st, p, fl, pa, de, br, D, A, B, pl)) := by
  have hk1 : 1 ≤ py_rk k ∧ k ≠ 9 ∧ k ≠ 12 ∧ (if s = 0 ∨ s = 9 then 0 else 1) = 1 ∧ py_bh st = 1 ∧ py_bh s = 0 ∧ st ≠ 0 ∧ st ≠ 9 ∧ s ≤ 8 := by
    rcases hk with ⟨ha, hs⟩ | ⟨hc, rfl, rfl⟩ | ⟨hl, hst, rfl⟩
    · have := py_rk_ar ha
      rcases hs with ⟨rfl, rfl⟩ | ⟨rfl, rfl⟩ | ⟨rfl, rfl⟩ <;> exact ⟨by omega, this.2.2.2.2.1, this.2.2.2.2.2, rfl, rfl, rfl, by decide, by decide, by decide⟩
    · have := py_rk_cm hc
      exact ⟨by omega, this.2.2.2.1, this.2.2.2.2, rfl, rfl, rfl, by decide, by decide, by decide⟩
    · rcases hl with rfl | rfl <;> rcases hst with rfl | rfl <;> decide
  obtain ⟨k1, k2, k3, k4, k5, k6, k7, k8, k9⟩ := hk1
  have h' := h
  obtain ⟨⟨i1, i2⟩, ⟨N, i3, i4⟩, i5, i6, ⟨i7, i8⟩, i9⟩ := h
  obtain ⟨hty, hva⟩ := py_joinT hk i6
  obtain ⟨c1, c2, c3, c4, c5, c6⟩ := py_setc (r := py_rk k) k1 hva h'
  rw [if_neg (by omega)] at i8
  rw [k5] at i4
  have hadj : py_adj (k :: py_dw (py_rk k) pl) := by
    refine ⟨?_, c6⟩
    rw [if_neg (by omega)]
    exact py_lo_dw _ _
  unfold py_join
  show py_inv n (if s = 1 then _ else _)
  by_cases hs : s = 1
  · rw [if_pos hs]
    rw [if_pos hs, if_pos hs] at hty
    have hB : B = [] := by
      obtain ⟨t0, t1, t2, -⟩ := i6
      rcases hk with ⟨ha, hs⟩ | ⟨hc, rfl, rfl⟩ | ⟨hl, hst, rfl⟩
      · exact (t2 (by omega)).1
      · cases hs
      · cases hs
    subst hB
    intro _
    rw [List.append_nil] at c1 c2 i2 i4
    have hA : ent D ++ (A ++ py_tk (py_tw (py_rk k) pl)) ++ [] = ent D ++ A ++ py_tk (py_tw (py_rk k) pl) := by simp
    refine py_I.mk0 ⟨i1, ?_⟩ ⟨N, by omega, ?_⟩ ⟨?_, ?_, ?_, hadj⟩ hty ⟨i7, by rw [k4]; exact i8⟩ ⟨by omega, fun _ => hle, by omega⟩
    · rw [hA, c1]; exact i2
    · rw [hA, c1, py_op_cons k3, k6]; rw [List.append_nil] at c2; omega
    · rw [py_dp_cons ⟨k2, k3⟩]; exact c3
    · rw [c3]; exact c4
    · rw [py_br_cons k3]; exact c5
  · rw [if_neg hs]
    rw [if_neg hs, if_neg hs] at hty
    intro _
    have hA : ent D ++ A ++ (B ++ py_tk (py_tw (py_rk k) pl)) = ent D ++ A ++ B ++ py_tk (py_tw (py_rk k) pl) := by simp
    refine py_I.mk0 ⟨i1, ?_⟩ ⟨N, by omega, ?_⟩ ⟨?_, ?_, ?_, hadj⟩ hty ⟨i7, by rw [k4]; exact i8⟩ ⟨by omega, fun _ => hle, by omega⟩
    · rw [hA, c1]; exact i2
    · rw [hA, c1, py_op_cons k3, k6]; omega
    · rw [py_dp_cons ⟨k2, k3⟩]; exact c3
    · rw [c3]; exact c4
    · rw [py_br_cons k3]; exact c5
/-- no bracket waits: settling to 1 leaves nothing -/
theorem py_dw1 : ∀ l : List Nat, py_br l = 0 → py_dw 1 l = []
  | [], _ => rfl
  | x :: l, h => by
    have hx : x ≠ 12 := fun z => by
      subst z
      unfold py_br at h
      rw [List.countP_cons, if_pos rfl] at h
      omega
    rw [py_dw_y ((py_rk_b x).2.2.1 hx)]
    exact py_dw1 l (by rw [py_br_cons hx] at h; exact h)
/-- a bracket waits: settling to 1 leaves it on top -/
theorem py_dw1b : ∀ l : List Nat, py_br l ≠ 0 → ∃ m, py_dw 1 l = 12 :: m
  | [], h => absurd rfl h
  | x :: l, h => by
    by_cases hx : x = 12
    · subst hx
      exact ⟨l, py_dw_n (by decide)⟩
    · rw [py_dw_y ((py_rk_b x).2.2.1 hx)]
      exact py_dw1b l (by rw [py_br_cons hx] at h; exact h)
theorem py_okt_br {l : List Nat} (h : py_okt false l false) : py_br l = 0 := by
  have : ∀ (l : List Nat), py_okt false l false → py_br l = 0 := by
    intro l
    induction l with
    | nil => intro _; rfl
    | cons x l ih =>
      intro h
      rw [py_okt] at h
      by_cases h1 : ar x = true
      · rw [if_pos h1] at h
        rw [py_br_cons (py_rk_ar h1).2.2.2.2.2]
        exact ih h.2
      · rw [if_neg h1] at h
        by_cases h2 : cm x = true
        · rw [if_pos h2] at h
          exfalso
          have : ∀ (l : List Nat), py_okt false l true → False := by
            intro l
            induction l with
            | nil => intro z; cases z
            | cons y l ih2 =>
              intro z
              rw [py_okt] at z
              by_cases z1 : ar y = true
              · rw [if_pos z1] at z; cases z.1
              · rw [if_neg z1] at z
                by_cases z2 : cm y = true
                · rw [if_pos z2] at z; cases z.1
                · rw [if_neg z2] at z; exact ih2 z.2.2
          exact this l h.2
        · rw [if_neg h2] at h; cases h.2.1
  exact this l h
theorem py_closeI {n st k a e p fl pa de br : Nat} {D : List Cl} {A B : List Tk} {pl : List Nat} (hst : st = 2 ∨ ((st = 7 ∨ st = 8) ∧ br = 0)) (hpa : p ≤ a) (hae : a + 1 ≤ e) (hle : k ≠ 18 → e ≤ n) (hle1 : e ≤ n + 1) (h : py_I n st p pa de br D A B pl) : py_inv n (py_close k a e (st, p, fl, pa, de, br, D, A, B, pl)) := by
  have h' := h
  obtain ⟨⟨i1, i2⟩, ⟨N, i3, i4⟩, i5, i6, ⟨i7, i8⟩, i9⟩ := h
  obtain ⟨t0, t1, t2, t3, t4, t5, t6, t7, t8, t9⟩ := i6
  unfold py_close
  show py_inv n (if k ≠ 17 ∧ k ≠ 18 then _ else _)
  by_cases h1 : k ≠ 17 ∧ k ≠ 18
  · rw [if_pos h1]; exact py_failI
  rw [if_neg h1]
  have hd : py_dw 1 pl = [] := by
    apply py_dw1
    rcases hst with rfl | ⟨hs, hb⟩
    · exact py_okt_br (t2 rfl).2.1
    · omega
  have hva : ∀ x, x ∈ pl → 2 ≤ x ∧ x ≤ 13 := by
    rcases hst with rfl | ⟨rfl | rfl, hb⟩
    · exact py_okt_va (t2 rfl).2.1
    · exact py_okt_va (t8 rfl).1
    · exact py_okt_va (t9 rfl).1
  obtain ⟨c1, c2, c3, c4, c5, c6⟩ := py_setc (r := 1) (Nat.le_refl _) hva h'
  have hw : cl_w (if st = 2 then (A ++ py_tk (py_tw 1 pl), B) else (A, B ++ py_tk (py_tw 1 pl))) ∧ ent (D ++ [if st = 2 then (A ++ py_tk (py_tw 1 pl), B) else (A, B ++ py_tk (py_tw 1 pl))]) = ent D ++ A ++ B ++ py_tk (py_tw 1 pl) := by
    rw [ent_app]
    rcases hst with rfl | ⟨hs, hb⟩
    · rw [if_pos rfl]
      obtain ⟨rfl, u2, u3⟩ := t2 rfl
      obtain ⟨c', a1, a2, -⟩ := py_set (r := 1) (Nat.le_refl _) pl false A u2 u3
      rw [hd] at a1 a2
      obtain rfl : c' = false := a1
      exact ⟨⟨a2, Or.inl rfl⟩, by simp⟩
    · rw [if_neg (by omega)]
      have hu : ∃ c, py_okt true pl c ∧ tyL B [] = some (c :: py_sty pl) := by
        rcases hs with rfl | rfl
        · exact ⟨false, t8 rfl⟩
        · exact ⟨true, t9 rfl⟩
      obtain ⟨c, u1, u2⟩ := hu
      obtain ⟨c', a1, a2, -⟩ := py_set (r := 1) (Nat.le_refl _) pl c B u1 u2
      rw [hd] at a1 a2
      obtain rfl : c' = true := a1
      exact ⟨⟨t3 (by omega), Or.inr a2⟩, by simp⟩
  have hb1 : py_bh st = 1 := by rcases hst with rfl | ⟨rfl | rfl, hb⟩ <;> rfl
  have hs0 : st ≠ 0 ∧ st ≠ 9 := by omega
  rw [if_neg (by omega)] at i8
  rw [hb1] at i4
  rw [hd] at c2 c3 c5
  intro _
  show py_I n (if k = 18 then 9 else 0) e pa (de - py_nt (py_tw 1 pl)) br (D ++ _) [] [] (py_dw 1 pl)
  have hst' : (if k = 18 then 9 else 0) = 9 ∨ (if k = 18 then 9 else 0) = 0 := by
    by_cases h18 : k = 18
    · rw [if_pos h18]; exact Or.inl rfl
    · rw [if_neg h18]; exact Or.inr rfl
  have hb2 : py_bh (if k = 18 then 9 else 0) = 0 := by rcases hst' with z | z <;> rw [z] <;> rfl
  rw [hd]
  refine py_I.mk0 ⟨i1, ?_⟩ ⟨N, by omega, ?_⟩ ⟨c3, by rw [c3]; decide, c5, trivial⟩ ?_ ⟨?_, ?_⟩ ⟨by omega, ?_, by omega⟩
  · rw [hw.2, List.append_nil, List.append_nil, c1]; exact i2
  · rw [hw.2, List.append_nil, List.append_nil, c1, hb2]; omega
  · refine ⟨fun _ => ⟨rfl, rfl, rfl⟩, fun z => absurd z (by omega), fun z => absurd z (by omega), fun z => absurd z (by omega), fun z => absurd z (by omega), fun z => absurd z (by omega), fun z => absurd z (by omega), fun z => absurd z (by omega), fun z => absurd z (by omega), fun z => absurd z (by omega)⟩
  · intro c hc
    rcases List.mem_append.mp hc with hc | hc
    · exact i7 c hc
    · rw [List.mem_singleton.mp hc]; exact hw.1
  · rw [List.length_append, if_pos (by omega)]
    exact i8
  · intro z
    exact hle (fun w => z (if_pos w))
theorem py_factI {n st k a e p fl pa de br : Nat} {D : List Cl} {A B : List Tk} {pl : List Nat} (hst : st = 7 ∨ st = 8) (hpa : p ≤ a) (hae : a + 1 ≤ e) (hle : k ≠ 18 → e ≤ n) (hle1 : e ≤ n + 1) (h : py_I n st p pa de br D A B pl) : py_inv n (py_fact k a e (st, p, fl, pa, de, br, D, A, B, pl)) := by
  unfold py_fact
  show py_inv n (if k = 10 ∨ k = 11 then _ else _)
  by_cases h1 : k = 10 ∨ k = 11
  · rw [if_pos h1]
    exact py_joinI (Or.inr (Or.inr ⟨h1, hst, rfl⟩)) hpa hae (hle (by omega)) h
  rw [if_neg h1]
  by_cases h2 : br = 0
  · rw [if_pos h2]
    exact py_closeI (Or.inr ⟨hst, h2⟩) hpa hae hle hle1 h
  rw [if_neg h2]
  by_cases h3 : k = 16
  · rw [if_pos h3]
    have h' := h
    obtain ⟨⟨i1, i2⟩, ⟨N, i3, i4⟩, ⟨i5, i5b, i5c, i5d⟩, i6, ⟨i7, i8⟩, i9⟩ := h
    obtain ⟨t0, t1, t2, t3, t4, t5, t6, t7, t8, t9⟩ := i6
    have hu : ∃ c, py_okt true pl c ∧ tyL B [] = some (c :: py_sty pl) := by
      rcases hst with rfl | rfl
      · exact ⟨false, t8 rfl⟩
      · exact ⟨true, t9 rfl⟩
    obtain ⟨c, u1, u2⟩ := hu
    obtain ⟨c', a1, a2, -⟩ := py_set (r := 1) (Nat.le_refl _) pl c B u1 u2
    obtain ⟨c1, c2, c3, c4, c5, c6⟩ := py_setc (r := 1) (Nat.le_refl _) (py_okt_va u1) h'
    obtain ⟨m, hm⟩ := py_dw1b pl (by omega)
    rw [hm] at a1 a2 c2 c3 c4 c5 c6
    have a1' : (9 ≤ 12 ∧ 12 ≤ 12) ∧ c' = true ∧ py_okt true m true := a1
    obtain ⟨-, rfl, a3⟩ := a1'
    have e1 : py_dp (12 :: m) = py_dp m + 1 := by unfold py_dp; rw [List.countP_cons]; rfl
    have e2 : py_br (12 :: m) = py_br m + 1 := by unfold py_br; rw [List.countP_cons]; rfl
    have e3 : py_op (12 :: m) = py_op m := by unfold py_op; rw [List.countP_cons]; rfl
    have hb1 : py_bh st = 1 := by rcases hst with rfl | rfl <;> rfl
    rw [if_neg (by omega)] at i8
    intro _
    show py_I n 8 e pa (de - py_nt (py_tw 1 pl) - 1) (br - 1) D A (B ++ py_tk (py_tw 1 pl)) (py_dw 1 pl).tail
    rw [hm]
    have hA : ent D ++ A ++ (B ++ py_tk (py_tw 1 pl)) = ent D ++ A ++ B ++ py_tk (py_tw 1 pl) := by simp
    refine py_I.mk0 ⟨i1, ?_⟩ ⟨N, by omega, ?_⟩ ⟨?_, ?_, ?_, c6.2⟩ ?_ ⟨i7, i8⟩ ⟨by omega, fun _ => hle (by omega), by decide⟩
    · rw [hA, c1]; exact i2
    · rw [hA, c1]
      show _ + py_op m + 1 ≤ _
      omega
    · show _ = py_dp m
      omega
    · omega
    · show _ = py_br m
      omega
    · exact ⟨fun z => absurd z (by decide), fun z => absurd z (by decide), fun z => absurd z (by decide), fun _ => t3 (by omega), fun z => absurd z (by decide), fun z => absurd z (by decide), fun z => absurd z (by decide), fun z => absurd z (by decide), fun z => absurd z (by decide), fun _ => ⟨a3, a2⟩⟩
  · rw [if_neg h3]; exact py_failI
theorem py_ar_i {k : Nat} (h : k = 2 ∨ k = 3 ∨ k = 13) : ar k = true := decide_eq_true h
theorem py_step1I {n k v a e : Nat} (hv0 : k = 0 → v ≤ 99999) (hv1 : k = 1 → v < 10) (hae : a + 1 ≤ e) (hle : k ≠ 18 → e ≤ n) (hle1 : e ≤ n + 1) (hno : k = 9 → a + 3 ≤ e) {x : PS} (hpa : x.2.1 ≤ a) (h : py_inv n x) (h0 : x.2.2.1 = 0) (h9 : x.1 ≠ 9) : py_inv n (py_step1 k v a e x) := by
  obtain ⟨st, p, fl, pa, de, br, D, A, B, pl⟩ := x
  have hI : py_I n st p pa de br D A B pl := h h0
  have h8 : st ≤ 9 := hI.2.2.2.2.2.2.2
  have hpa' : p ≤ a := hpa
  have h9' : st ≠ 9 := h9
  have : st = 0 ∨ st = 1 ∨ st = 2 ∨ st = 3 ∨ st = 4 ∨ st = 5 ∨ st = 6 ∨ st = 7 ∨ st = 8 := by omega
  rcases this with rfl | rfl | rfl | rfl | rfl | rfl | rfl | rfl | rfl
  · show py_inv n (if k ≠ 14 then _ else _)
    by_cases h1 : k ≠ 14
    · rw [if_pos h1]; exact py_failI
    rw [if_neg h1]
    by_cases h2 : D.length = 12
    · rw [if_pos h2]; exact py_failI
    rw [if_neg h2]
    obtain ⟨i1, ⟨N, i3, i4⟩, i5, i6, ⟨i7, i8⟩, i9⟩ := hI
    obtain ⟨rfl, rfl, rfl⟩ := i6.1 (Or.inl rfl)
    have i8' : D.length + 0 ≤ 12 := i8
    intro _
    exact py_I.mk0 i1 ⟨N, by omega, i4⟩ i5 ⟨fun z => absurd z (by decide), fun _ => ⟨rfl, rfl, rfl⟩, fun z => absurd z (by decide), fun z => absurd z (by decide), fun z => absurd z (by decide), fun z => absurd z (by decide), fun z => absurd z (by decide), fun z => absurd z (by decide), fun z => absurd z (by decide), fun z => absurd z (by decide)⟩ ⟨i7, by show D.length + 1 ≤ 12; omega⟩ ⟨hle1, fun _ => hle (by omega), by decide⟩
  · exact py_putI (Or.inl ⟨rfl, rfl⟩) hv0 hv1 hpa' hae hle hI
  · show py_inv n (if k = 2 ∨ k = 3 ∨ k = 13 then _ else _)
    by_cases h1 : k = 2 ∨ k = 3 ∨ k = 13
    · rw [if_pos h1]
      exact py_joinI (Or.inl ⟨py_ar_i h1, Or.inl ⟨rfl, rfl⟩⟩) hpa' hae (hle (by omega)) hI
    rw [if_neg h1]
    by_cases h2 : k = 15
    · rw [if_pos h2]
      have h' := hI
      obtain ⟨⟨i1, i2⟩, ⟨N, i3, i4⟩, i5, i6, ⟨i7, i8⟩, i9⟩ := hI
      obtain ⟨rfl, u2, u3⟩ := i6.2.2.1 rfl
      obtain ⟨c', a1, a2, -⟩ := py_set (r := 1) (Nat.le_refl _) pl false A u2 u3
      obtain ⟨c1, c2, c3, c4, c5, c6⟩ := py_setc (r := 1) (Nat.le_refl _) (py_okt_va u2) h'
      have hd := py_dw1 pl (py_okt_br u2)
      rw [hd] at a1 a2 c2 c3 c5
      obtain rfl : c' = false := a1
      have i4' : (ent D ++ A ++ []).length + py_op pl + 1 ≤ 2 * pcL (ent D ++ A ++ []) + N := i4
      rw [List.append_nil] at c1 c2 i2 i4'
      have hA : ent D ++ (A ++ py_tk (py_tw 1 pl)) ++ [] = ent D ++ A ++ py_tk (py_tw 1 pl) := by simp
      intro _
      show py_I n 3 e pa (de - py_nt (py_tw 1 pl)) br D (A ++ py_tk (py_tw 1 pl)) [] (py_dw 1 pl)
      rw [hd]
      refine py_I.mk0 ⟨i1, by rw [hA, c1]; exact i2⟩ ⟨N, by omega, ?_⟩ ⟨c3, by rw [c3]; decide, c5, trivial⟩ ⟨fun z => absurd z (by decide), fun z => absurd z (by decide), fun z => absurd z (by decide), fun _ => a2, fun _ => ⟨rfl, rfl⟩, fun z => absurd z (by decide), fun z => absurd z (by decide), fun z => absurd z (by decide), fun z => absurd z (by decide), fun z => absurd z (by decide)⟩ ⟨i7, i8⟩ ⟨hle1, fun _ => hle (by omega), by decide⟩
      rw [hA, c1]
      show _ + _ + 0 ≤ _
      omega
    · rw [if_neg h2]
      exact py_closeI (Or.inl rfl) hpa' hae hle hle1 hI
  · show py_inv n (if k ≠ 9 ∧ k ≠ 12 then _ else _)
    by_cases h1 : k ≠ 9 ∧ k ≠ 12
    · rw [if_pos h1]
      exact py_putI (Or.inr (Or.inl ⟨rfl, rfl⟩)) hv0 hv1 hpa' hae hle hI
    rw [if_neg h1]
    by_cases h2 : de = 10
    · rw [if_pos h2]; exact py_failI
    rw [if_neg h2]
    obtain ⟨i1, ⟨N, i3, i4⟩, ⟨i5, i5b, i5c, i5d⟩, i6, ⟨i7, i8⟩, i9⟩ := hI
    obtain ⟨t0, t1, t2, t3, t4, t5, t6, t7, t8, t9⟩ := i6
    obtain ⟨u1, u2⟩ := t4 rfl
    have hlo : py_lo 4 pl := by
      cases pl with
      | nil => trivial
      | cons y l =>
        show py_rk y < 4
        rw [py_okt] at u1
        by_cases z1 : ar y = true
        · rw [if_pos z1] at u1; cases u1.1
        · rw [if_neg z1] at u1
          by_cases z2 : cm y = true
          · rw [if_pos z2] at u1; cases u1.1
          · rw [if_neg z2] at u1; have := py_rk_lo u1.1; omega
    have i4' : (ent D ++ A ++ B).length + py_op pl + 0 ≤ 2 * pcL (ent D ++ A ++ B) + N := i4
    intro _
    have hk : k = 9 ∨ k = 12 := by omega
    rcases hk with rfl | rfl
    · have e1 : py_dp (9 :: pl) = py_dp pl + 1 := by unfold py_dp; rw [List.countP_cons]; rfl
      have e2 : py_br (9 :: pl) = py_br pl := py_br_cons (by decide)
      have e3 : py_op (9 :: pl) = py_op pl + 1 := py_op_cons (by decide)
      have e4 := hno rfl
      refine py_I.mk0 i1 ⟨N + 1, ?_, ?_⟩ ⟨?_, ?_, ?_, ?_, i5d⟩ ⟨fun z => absurd z (by decide), fun z => absurd z (by decide), fun z => absurd z (by decide), fun _ => t3 (by decide), fun _ => ⟨⟨by decide, rfl, u1⟩, u2⟩, fun z => absurd z (by decide), fun z => absurd z (by decide), fun z => absurd z (by decide), fun z => absurd z (by decide), fun z => absurd z (by decide)⟩ ⟨i7, i8⟩ ⟨hle1, fun _ => hle (by decide), by decide⟩
      · show 3 * (N + 1) ≤ e
        omega
      · show _ + py_op (9 :: pl) + 0 ≤ _
        rw [e3]; omega
      · show de + 1 = py_dp (9 :: pl)
        omega
      · show de + 1 ≤ 10
        omega
      · show br = py_br (9 :: pl)
        omega
      · exact hlo
    · have e1 : py_dp (12 :: pl) = py_dp pl + 1 := by unfold py_dp; rw [List.countP_cons]; rfl
      have e2 : py_br (12 :: pl) = py_br pl + 1 := by unfold py_br; rw [List.countP_cons]; rfl
      have e3 : py_op (12 :: pl) = py_op pl := by unfold py_op; rw [List.countP_cons]; rfl
      refine py_I.mk0 i1 ⟨N, ?_, ?_⟩ ⟨?_, ?_, ?_, ?_, i5d⟩ ⟨fun z => absurd z (by decide), fun z => absurd z (by decide), fun z => absurd z (by decide), fun _ => t3 (by decide), fun _ => ⟨⟨by decide, rfl, u1⟩, u2⟩, fun z => absurd z (by decide), fun z => absurd z (by decide), fun z => absurd z (by decide), fun z => absurd z (by decide), fun z => absurd z (by decide)⟩ ⟨i7, i8⟩ ⟨hle1, fun _ => hle (by decide), by decide⟩
      · show 3 * N ≤ e
        omega
      · show _ + py_op (12 :: pl) + 0 ≤ _
        rw [e3]; omega
      · show de + 1 = py_dp (12 :: pl)
        omega
      · show de + 1 ≤ 10
        omega
      · show br + 1 = py_br (12 :: pl)
        omega
      · exact hlo
  · exact py_putI (Or.inr (Or.inr (Or.inl ⟨rfl, rfl⟩))) hv0 hv1 hpa' hae hle hI
  · show py_inv n (if k = 2 ∨ k = 3 ∨ k = 13 then _ else _)
    by_cases h1 : k = 2 ∨ k = 3 ∨ k = 13
    · rw [if_pos h1]
      exact py_joinI (Or.inl ⟨py_ar_i h1, Or.inr (Or.inl ⟨rfl, rfl⟩)⟩) hpa' hae (hle (by omega)) hI
    rw [if_neg h1]
    by_cases h2 : ¬ (4 ≤ k ∧ k ≤ 8)
    · rw [if_pos h2]; exact py_failI
    rw [if_neg h2]
    by_cases h3 : pa = 60
    · rw [if_pos h3]; exact py_failI
    rw [if_neg h3]
    have h4 : 4 ≤ k ∧ k ≤ 8 := Classical.byContradiction h2
    refine py_joinI (Or.inr (Or.inl ⟨decide_eq_true h4, rfl, rfl⟩)) hpa' hae (hle (by omega)) ?_
    obtain ⟨⟨i1, i2⟩, i3⟩ := hI
    exact ⟨⟨by omega, by omega⟩, i3⟩
  · exact py_putI (Or.inr (Or.inr (Or.inr ⟨rfl, rfl⟩))) hv0 hv1 hpa' hae hle hI
  · show py_inv n (if k = 2 ∨ k = 3 ∨ k = 13 then _ else _)
    by_cases h1 : k = 2 ∨ k = 3 ∨ k = 13
    · rw [if_pos h1]
      exact py_joinI (Or.inl ⟨py_ar_i h1, Or.inr (Or.inr ⟨rfl, rfl⟩)⟩) hpa' hae (hle (by omega)) hI
    rw [if_neg h1]
    exact py_factI (Or.inl rfl) hpa' hae hle hle1 hI
  · exact py_factI (Or.inr rfl) hpa' hae hle hle1 hI
theorem tx_wk_1 {j : Nat} (h : tx_wk j = 1) : 5 ≤ j ∧ j < 15 := by
  unfold tx_wk at h
  revert h
  repeat' split
  all_goals intro h
  all_goals first | omega | cases h
theorem tx_wk_9 {j : Nat} (h : tx_wk j = 9) : j = 4 := by
  unfold tx_wk at h
  revert h
  repeat' split
  all_goals intro h
  all_goals first | omega | cases h
theorem tx_sk_no {c d k : Nat} (h : tx_sk c d = k) : k ≠ 0 ∧ k ≠ 1 ∧ k ≠ 9 ∧ k ≠ 10 ∧ k ≠ 11 ∧ k ≠ 14 ∧ k ≠ 15 ∧ k ≠ 18 := by
  subst h
  unfold tx_sk
  repeat' split
  all_goals decide
theorem tx_wk_no {j k : Nat} (h : tx_wk j = k) : k ≠ 0 ∧ k ≠ 18 := by
  subst h
  unfold tx_wk
  repeat' split
  all_goals decide
/-- of every token -/
theorem tx_tok {t : Nat → Nat} {n p : Nat} (hp : p ≤ n) : (tx_k t n (tx_fr t n p) = 0 → tx_v t n (tx_fr t n p) ≤ 99999) ∧ (tx_k t n (tx_fr t n p) = 1 → tx_v t n (tx_fr t n p) < 10) ∧ (tx_k t n (tx_fr t n p) ≠ 18 → tx_e t n (tx_fr t n p) ≤ n) ∧ tx_e t n (tx_fr t n p) ≤ n + 1 ∧ (tx_k t n (tx_fr t n p) = 9 → tx_fr t n p + 3 ≤ tx_e t n (tx_fr t n p)) := by
  have ha := tx_fr_le (t := t) hp
  generalize tx_fr t n p = a at ha ⊢
  by_cases hn : n ≤ a
  · have e1 : tx_k t n a = 18 := by unfold tx_k; rw [if_pos hn]
    have e2 : tx_e t n a = a + 1 := by unfold tx_e; rw [if_pos hn]
    rw [e1, e2]
    exact ⟨fun z => absurd z (by decide), fun z => absurd z (by decide), fun z => absurd rfl z, by omega, fun z => absurd z (by decide)⟩
  · have hle := tx_e_le (t := t) (n := n) (a := a) (by omega)
    refine ⟨fun h => ?_, fun h => ?_, fun _ => hle, by omega, fun h => ?_⟩
    · unfold tx_k at h
      rw [if_neg hn] at h
      by_cases hd : tx_dg t a = true
      · unfold tx_v
        rw [if_pos hd]
        obtain ⟨g1, -, -, g4, -⟩ := tx_ge (P := tx_dg t) (n := n) _ (a + 1) rfl
        refine (tx_nv_b _ (fun i hi => ?_)).1
        by_cases hi0 : i = 0
        · subst hi0; exact hd
        · exact g4 (a + i) (by omega) (by omega)
      · rw [if_neg hd] at h
        by_cases hl : tx_lt t a = true
        · rw [if_pos hl] at h; exact absurd rfl (tx_wk_no h).1
        · rw [if_neg hl] at h; exact absurd rfl (tx_sk_no h).1
    · unfold tx_k at h
      rw [if_neg hn] at h
      by_cases hd : tx_dg t a = true
      · rw [if_pos hd] at h; cases h
      · rw [if_neg hd] at h
        unfold tx_v
        rw [if_neg hd]
        by_cases hl : tx_lt t a = true
        · rw [if_pos hl] at h; have := tx_wk_1 h; omega
        · rw [if_neg hl] at h; exact absurd rfl (tx_sk_no h).2.1
    · unfold tx_k at h
      rw [if_neg hn] at h
      by_cases hd : tx_dg t a = true
      · rw [if_pos hd] at h; cases h
      · rw [if_neg hd] at h
        unfold tx_e
        rw [if_neg hn, if_neg hd]
        by_cases hl : tx_lt t a = true
        · rw [if_pos hl] at h ⊢
          have h4 := ((tx_spell (j := 4) (by decide)).mp (tx_wk_9 h)).1
          have : ai_sl.getD 4 0 = 3 := rfl
          omega
        · rw [if_neg hl] at h; exact absurd rfl (tx_sk_no h).2.2.1
theorem py_inv_at {t : Nat → Nat} {n : Nat} {x : PS} (h : py_inv n x) (h0 : x.2.2.1 = 0) (h9 : x.1 ≠ 9) : py_inv n (py_at t n x.2.1 x) := by
  have hp : x.2.1 ≤ n := (h h0).2.2.2.2.2.2.1 h9
  obtain ⟨a1, a2, a3, a4, a5⟩ := tx_tok (t := t) hp
  exact py_step1I a1 a2 tx_e_gt a3 a4 a5 tx_fr_ge h h0 h9
theorem py_inv_rch {t : Nat → Nat} {n : Nat} {x y : PS} (h : py_rch t n x y) (hx : py_inv n x) : py_inv n y := h.inv (fun _ a b c => py_inv_at a b c) hx
theorem py_inv_0 (n : Nat) : py_inv n py_x0 := by
  intro _
  exact py_I.mk0 ⟨by decide, by decide⟩ ⟨0, by decide, by decide⟩ ⟨rfl, by decide, rfl, trivial⟩ ⟨fun _ => ⟨rfl, rfl, rfl⟩, fun z => absurd z (by decide), fun z => absurd z (by decide), fun z => absurd z (by decide), fun z => absurd z (by decide), fun z => absurd z (by decide), fun z => absurd z (by decide), fun z => absurd z (by decide), fun z => absurd z (by decide), fun z => absurd z (by decide)⟩ ⟨fun c hc => by cases hc, by decide⟩ ⟨Nat.zero_le _, fun _ => Nat.zero_le _, by decide⟩
/-- the pile has room, the entries have room -/
theorem py_room {n st p pa de br : Nat} {D : List Cl} {A B : List Tk} {pl : List Nat} (hn : n ≤ 400) (h : py_I n st p pa de br D A B pl) : pl.length ≤ 35 ∧ (ent D ++ A ++ B).length + py_op pl + py_bh st ≤ 253 ∧ D.length ≤ 12 := by
  obtain ⟨⟨i1, i2⟩, ⟨N, i3, i4⟩, ⟨i5, i5b, i5c, i5d⟩, -, ⟨-, i8⟩, i9⟩ := h
  have := py_len pl i5d
  refine ⟨by omega, by omega, ?_⟩
  revert i8
  split
  · intro z; omega
  · intro z; omega
