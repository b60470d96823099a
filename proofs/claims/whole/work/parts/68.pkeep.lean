/-! 68: every step keeps it -/
theorem py_I.mk0 {n st p pa de br : Nat} {D : List Cl} {A B : List Tk} {pl : List Nat} (h1 : pa ≤ 60 ∧ pcL (ent D ++ A ++ B) ≤ pa) (h2 : ∃ N, 3 * N ≤ p ∧ (ent D ++ A ++ B).length + py_op pl + py_bh st ≤ 2 * pcL (ent D ++ A ++ B) + N) (h3 : de = py_dp pl ∧ de ≤ 10 ∧ br = py_br pl ∧ py_adj pl) (h4 : py_ty st A B pl) (h5 : (∀ c, c ∈ D → cl_w c) ∧ D.length + (if st = 0 ∨ st = 9 then 0 else 1) ≤ 12) (h6 : p ≤ n + 1 ∧ (st ≠ 9 → p ≤ n) ∧ st ≤ 9) : py_I n st p pa de br D A B pl := ⟨h1, h2, h3, h4, h5, h6⟩
theorem py_inv_i {n st p pa de br : Nat} {D : List Cl} {A B : List Tk} {pl : List Nat} (h : py_I n st p pa de br D A B pl) : py_inv n (st, p, 0, pa, de, br, D, A, B, pl) := fun _ => h
theorem py_failI {n c a : Nat} {x : PS} : py_inv n (py_fail c a x) := by
  obtain ⟨st, p, fl, pa, de, br, D, A, B, pl⟩ := x
  intro h
  exact absurd h (by show ¬ 1 + 8 * a + c = 0; omega)
theorem tyT_val {k v : Nat} (hk : k = 0 ∨ k = 1) (h0 : k = 0 → v ≤ 99999) (h1 : k = 1 → v < 10) (s : List Bool) : tyT (k, v) s = some (false :: s) := by
  rcases hk with rfl | rfl
  · show (if v ≤ 99999 then some (false :: s) else none) = _
    rw [if_pos (h0 rfl)]
  · show (if v < 10 then some (false :: s) else none) = _
    rw [if_pos (h1 rfl)]
theorem pcL_one {k v : Nat} (hk : k = 0 ∨ k = 1) : pcL [(k, v)] = 1 := by
  show (if k ≤ 1 then 1 else 0) + 0 = 1
  rw [if_pos (by omega)]
theorem py_putI {n s st k v a e p fl pa de br : Nat} {D : List Cl} {A B : List Tk} {pl : List Nat} (hs : (st = 1 ∧ s = 2) ∨ (st = 3 ∧ s = 5) ∨ (st = 4 ∧ s = 5) ∨ (st = 6 ∧ s = 7)) (hv0 : k = 0 → v ≤ 99999) (hv1 : k = 1 → v < 10) (hpa : p ≤ a) (hae : a + 1 ≤ e) (hle : k ≠ 18 → e ≤ n) (h : py_I n st p pa de br D A B pl) : py_inv n (py_put s k v a e (st, p, fl, pa, de, br, D, A, B, pl)) := by
  obtain ⟨⟨i1, i2⟩, ⟨N, i3, i4⟩, i5, i6, ⟨i7, i8⟩, i9⟩ := h
  unfold py_put
  show py_inv n (if k ≠ 0 ∧ k ≠ 1 then _ else _)
  by_cases h1 : k ≠ 0 ∧ k ≠ 1
  · rw [if_pos h1]; exact py_failI
  rw [if_neg h1]
  have hk : k = 0 ∨ k = 1 := by omega
  by_cases h2 : k = 0 ∧ 5 < e - a
  · rw [if_pos h2]; exact py_failI
  rw [if_neg h2]
  by_cases h3 : pa = 60
  · rw [if_pos h3]; exact py_failI
  rw [if_neg h3]
  have hbs : py_bh s = 1 := by rcases hs with ⟨-, rfl⟩ | ⟨-, rfl⟩ | ⟨-, rfl⟩ | ⟨-, rfl⟩ <;> rfl
  have hbt : py_bh st = 0 := by rcases hs with ⟨rfl, -⟩ | ⟨rfl, -⟩ | ⟨rfl, -⟩ | ⟨rfl, -⟩ <;> rfl
  have hc : ∀ L : List Tk, pcL (L ++ [(k, v)]) = pcL L + 1 := fun L => by rw [pcL_app, pcL_one hk]
  have h8 : D.length + 1 ≤ 12 := by
    rcases hs with ⟨rfl, -⟩ | ⟨rfl, -⟩ | ⟨rfl, -⟩ | ⟨rfl, -⟩ <;> exact i8
  rw [hbt] at i4
  have f1 : pa + 1 ≤ 60 := by omega
  have f2 : e ≤ n := hle (by omega)
  have f3 : 3 * N ≤ e := by omega
  have f4 : e ≤ n + 1 := by omega
  have f5 : s ≤ 9 := by omega
  have f6 : pcL (ent D ++ A ++ B) + 1 ≤ pa + 1 := by omega
  have f7 : (ent D ++ A ++ B).length + 1 + py_op pl + 1 ≤ 2 * (pcL (ent D ++ A ++ B) + 1) + N := by omega
  have f8 : s = 2 → st = 1 := by omega
  have f9 : (if s = 0 ∨ s = 9 then 0 else 1) = 1 := if_neg (by omega)
  have hv := tyT_val hk hv0 hv1
  clear i1 i2 i3 i4 i8 i9 h1 h2 h3 hle hpa hae hbt hv0 hv1 hk
  obtain ⟨t0, t1, t2, t3, t4, t5, t6, t7, t8, t9⟩ := i6
  by_cases h4 : s = 2
  · rw [if_pos h4]
    have e1 : st = 1 := f8 h4
    subst h4
    obtain ⟨rfl, u2, u3⟩ := t1 e1
    refine py_inv_i ?_
    rw [List.append_nil] at f6 f7
    have hA : ent D ++ (A ++ [(k, v)]) ++ [] = ent D ++ A ++ [(k, v)] := by simp
    refine py_I.mk0 ⟨f1, ?_⟩ ⟨N, f3, ?_⟩ i5 ?_ ⟨i7, h8⟩ ⟨f4, fun _ => f2, by decide⟩
    · rw [hA, hc]; exact f6
    · rw [hA, hc, List.length_append, hbs]
      exact f7
    · exact ⟨fun z => absurd z (by decide), fun z => absurd z (by decide), fun _ => ⟨rfl, u2, tyL_snoc u3 (hv _)⟩, fun z => absurd z (by decide), fun z => absurd z (by decide), fun z => absurd z (by decide), fun z => absurd z (by decide), fun z => absurd z (by decide), fun z => absurd z (by decide), fun z => absurd z (by decide)⟩
  · rw [if_neg h4]
    refine py_inv_i ?_
    have hA : ent D ++ A ++ (B ++ [(k, v)]) = ent D ++ A ++ B ++ [(k, v)] := by simp
    refine py_I.mk0 ⟨f1, ?_⟩ ⟨N, f3, ?_⟩ i5 ?_ ⟨i7, by rw [f9]; exact h8⟩ ⟨f4, fun _ => f2, f5⟩
    · rw [hA, hc]; exact f6
    · rw [hA, hc, List.length_append, hbs]
      exact f7
    · rcases hs with ⟨rfl, rfl⟩ | ⟨rfl, rfl⟩ | ⟨rfl, rfl⟩ | ⟨rfl, rfl⟩
      · exact absurd rfl h4
      · obtain ⟨u1, u2⟩ := t4 rfl
        refine ⟨fun z => absurd z (by decide), fun z => absurd z (by decide), fun z => absurd z (by decide), fun _ => t3 (by decide), fun z => absurd z (by decide), fun z => absurd z (by decide), fun _ => ⟨?_, tyL_snoc u2 (hv _)⟩, fun z => absurd z (by decide), fun z => absurd z (by decide), fun z => absurd z (by decide)⟩
        cases pl with
        | nil => trivial
        | cons x l =>
          rw [py_okl]
          by_cases hx : ar x = true
          · rw [py_okt, if_pos hx] at u1; exact absurd u1.1 (by decide)
          · rw [if_neg hx]; exact u1
      · obtain ⟨u1, u2⟩ := t5 rfl
        exact ⟨fun z => absurd z (by decide), fun z => absurd z (by decide), fun z => absurd z (by decide), fun _ => t3 (by decide), fun z => absurd z (by decide), fun z => absurd z (by decide), fun _ => ⟨u1, tyL_snoc u2 (hv _)⟩, fun z => absurd z (by decide), fun z => absurd z (by decide), fun z => absurd z (by decide)⟩
      · obtain ⟨u1, u2⟩ := t7 rfl
        exact ⟨fun z => absurd z (by decide), fun z => absurd z (by decide), fun z => absurd z (by decide), fun _ => t3 (by decide), fun z => absurd z (by decide), fun z => absurd z (by decide), fun z => absurd z (by decide), fun z => absurd z (by decide), fun _ => ⟨u1, tyL_snoc u2 (hv _)⟩, fun z => absurd z (by decide)⟩
/-- what settling does to all but the kinds -/
theorem py_setc {n r st p pa de br : Nat} {D : List Cl} {A B : List Tk} {pl : List Nat} (hr : 1 ≤ r) (hva : ∀ x, x ∈ pl → 2 ≤ x ∧ x ≤ 13) (h : py_I n st p pa de br D A B pl) : pcL (ent D ++ A ++ B ++ py_tk (py_tw r pl)) = pcL (ent D ++ A ++ B) ∧ (ent D ++ A ++ B ++ py_tk (py_tw r pl)).length + py_op (py_dw r pl) = (ent D ++ A ++ B).length + py_op pl ∧ de - py_nt (py_tw r pl) = py_dp (py_dw r pl) ∧ py_dp (py_dw r pl) ≤ 10 ∧ br = py_br (py_dw r pl) ∧ py_adj (py_dw r pl) := by
  obtain ⟨-, -, ⟨i1, i2, i3, i4⟩, -⟩ := h
  obtain ⟨c1, c2, c3⟩ := py_cnt hr pl
  refine ⟨by rw [pcL_app, py_pc hva]; rfl, ?_, by omega, by omega, by omega, py_adj_dw r pl i4⟩
  rw [List.length_append]
  have : (py_tk (py_tw r pl)).length = (py_tw r pl).length := by unfold py_tk; rw [List.length_map]
  omega
theorem py_op_cons {k : Nat} {l : List Nat} (h : k ≠ 12) : py_op (k :: l) = py_op l + 1 := by
  unfold py_op
  rw [List.countP_cons, if_pos (decide_eq_true h)]
theorem py_dp_cons {k : Nat} {l : List Nat} (h : k ≠ 9 ∧ k ≠ 12) : py_dp (k :: l) = py_dp l := by
  unfold py_dp
  rw [List.countP_cons, if_neg (fun z => by have := of_decide_eq_true z; omega)]
  rfl
theorem py_br_cons {k : Nat} {l : List Nat} (h : k ≠ 12) : py_br (k :: l) = py_br l := by
  unfold py_br
  rw [List.countP_cons, if_neg (fun z => h (of_decide_eq_true z))]
  rfl
/-- which kinds are right behind a join -/
theorem py_joinT {st s k : Nat} {A B : List Tk} {pl : List Nat} (hk : (ar k = true ∧ ((st = 2 ∧ s = 1) ∨ (st = 5 ∧ s = 4) ∨ (st = 7 ∧ s = 6))) ∨ (cm k = true ∧ st = 5 ∧ s = 6) ∨ ((k = 10 ∨ k = 11) ∧ (st = 7 ∨ st = 8) ∧ s = 3)) (h : py_ty st A B pl) : py_ty s (if s = 1 then A ++ py_tk (py_tw (py_rk k) pl) else A) (if s = 1 then B else B ++ py_tk (py_tw (py_rk k) pl)) (k :: py_dw (py_rk k) pl) ∧ ∀ x, x ∈ pl → 2 ≤ x ∧ x ≤ 13 := by
  obtain ⟨t0, t1, t2, t3, t4, t5, t6, t7, t8, t9⟩ := h
  rcases hk with ⟨ha, hs⟩ | ⟨hc, rfl, rfl⟩ | ⟨hl, hst, rfl⟩
  · have hr := py_rk_ar ha
    have hst : ∀ l, py_sty (k :: l) = false :: py_sty l := fun l => py_sty_ar (Or.inl ha)
    rcases hs with ⟨rfl, rfl⟩ | ⟨rfl, rfl⟩ | ⟨rfl, rfl⟩
    · obtain ⟨u1, u2, u3⟩ := t2 rfl
      obtain ⟨c', a1, a2, a3⟩ := py_set (r := py_rk k) (by omega) pl false A u2 u3
      obtain rfl := a3 hr.1 rfl
      refine ⟨⟨fun z => absurd z (by decide), fun _ => ⟨u1, ?_, ?_⟩, fun z => absurd z (by decide), fun z => absurd z (by decide), fun z => absurd z (by decide), fun z => absurd z (by decide), fun z => absurd z (by decide), fun z => absurd z (by decide), fun z => absurd z (by decide), fun z => absurd z (by decide)⟩, py_okt_va u2⟩
      · rw [py_okt, if_pos ha]; exact ⟨rfl, a1⟩
      · rw [hst]; exact a2
    · obtain ⟨u1, u2⟩ := t6 rfl
      obtain ⟨a1, a2, -⟩ := py_setl (r := py_rk k) (by omega) pl B u1 u2
      refine ⟨⟨fun z => absurd z (by decide), fun z => absurd z (by decide), fun z => absurd z (by decide), fun _ => t3 (by decide), fun z => absurd z (by decide), fun _ => ⟨?_, ?_⟩, fun z => absurd z (by decide), fun z => absurd z (by decide), fun z => absurd z (by decide), fun z => absurd z (by decide)⟩, py_okl_va u1⟩
      · rw [py_okl, if_pos ha]; exact a1
      · rw [hst]; exact a2
    · obtain ⟨u1, u2⟩ := t8 rfl
      obtain ⟨c', a1, a2, a3⟩ := py_set (r := py_rk k) (by omega) pl false B u1 u2
      obtain rfl := a3 hr.1 rfl
      refine ⟨⟨fun z => absurd z (by decide), fun z => absurd z (by decide), fun z => absurd z (by decide), fun _ => t3 (by decide), fun z => absurd z (by decide), fun z => absurd z (by decide), fun z => absurd z (by decide), fun _ => ⟨?_, ?_⟩, fun z => absurd z (by decide), fun z => absurd z (by decide)⟩, py_okt_va u1⟩
      · rw [py_okt, if_pos ha]; exact ⟨rfl, a1⟩
      · rw [hst]; exact a2
  · have hr := py_rk_cm hc
    obtain ⟨u1, u2⟩ := t6 rfl
    obtain ⟨a1, a2, a3⟩ := py_setl (r := py_rk k) (by omega) pl B u1 u2
    refine ⟨⟨fun z => absurd z (by decide), fun z => absurd z (by decide), fun z => absurd z (by decide), fun _ => t3 (by decide), fun z => absurd z (by decide), fun z => absurd z (by decide), fun z => absurd z (by decide), fun _ => ⟨?_, ?_⟩, fun z => absurd z (by decide), fun z => absurd z (by decide)⟩, py_okl_va u1⟩
    · have hn : ¬ ar k = true := fun z => by have := py_rk_ar z; omega
      rw [py_okt, if_neg hn, if_pos hc]
      exact ⟨rfl, a3 hr.1⟩
    · rw [py_sty_ar (Or.inr hc)]; exact a2
  · have hu : ∃ c, py_okt true pl c ∧ tyL B [] = some (c :: py_sty pl) := by
      rcases hst with rfl | rfl
      · exact ⟨false, t8 rfl⟩
      · exact ⟨true, t9 rfl⟩
    obtain ⟨c, u1, u2⟩ := hu
    have h1 : 1 ≤ py_rk k ∧ py_rk k ≤ 2 := by rcases hl with rfl | rfl <;> decide
    obtain ⟨c', a1, a2, -⟩ := py_set (r := py_rk k) h1.1 pl c B u1 u2
    have hc : c' = true := by
      have hlo := py_lo_dw (py_rk k) pl
      revert hlo a1
      cases py_dw (py_rk k) pl with
      | nil => intro a1 _; exact a1
      | cons y l =>
        intro a1 hlo
        have hy : py_rk y < py_rk k := hlo
        rw [py_okt] at a1
        by_cases z1 : ar y = true
        · have := py_rk_ar z1; omega
        · rw [if_neg z1] at a1
          by_cases z2 : cm y = true
          · have := py_rk_cm z2; omega
          · rw [if_neg z2] at a1; exact a1.2.1
    subst hc
    have h3 : 3 ≤ st ∧ st ≤ 8 := by omega
    refine ⟨⟨fun z => absurd z (by decide), fun z => absurd z (by decide), fun z => absurd z (by decide), fun _ => t3 h3, fun _ => ⟨?_, ?_⟩, fun z => absurd z (by decide), fun z => absurd z (by decide), fun z => absurd z (by decide), fun z => absurd z (by decide), fun z => absurd z (by decide)⟩, py_okt_va u1⟩
    · rcases hl with rfl | rfl
      · exact ⟨by decide, rfl, a1⟩
      · exact ⟨by decide, rfl, a1⟩
    · rcases hl with rfl | rfl
      · exact a2
      · exact a2
theorem py_joinI {n s st k a e p fl pa de br : Nat} {D : List Cl} {A B : List Tk} {pl : List Nat} (hk : (ar k = true ∧ ((st = 2 ∧ s = 1) ∨ (st = 5 ∧ s = 4) ∨ (st = 7 ∧ s = 6))) ∨ (cm k = true ∧ st = 5 ∧ s = 6) ∨ ((k = 10 ∨ k = 11) ∧ (st = 7 ∨ st = 8) ∧ s = 3)) (hpa : p ≤ a) (hae : a + 1 ≤ e) (hle : e ≤ n) (h : py_I n st p pa de br D A B pl) : py_inv n (py_join s k e (st, p, fl, pa, de, br, D, A, B, pl)) := by
  have hk1 : 1 ≤ py_rk k ∧ k ≠ 9 ∧ k ≠ 12 ∧ (if s = 0 ∨ s = 9 then 0 else 1) = 1 ∧ py_bh st = 1 ∧ py_bh s = 0 ∧ st ≠ 0 ∧ st ≠ 9 ∧ s ≤ 8 := by
    rcases hk with ⟨ha, hs⟩ | ⟨hc, rfl, rfl⟩ | ⟨hl, hst, rfl⟩
    · have := py_rk_ar ha
      rcases hs with ⟨rfl, rfl⟩ | ⟨rfl, rfl⟩ | ⟨rfl, rfl⟩ <;> exact ⟨by omega, this.2.2.2.2.1, this.2.2.2.2.2, rfl, rfl, rfl, by decide, by decide, by decide⟩
    · have := py_rk_cm hc
      exact ⟨by omega, this.2.2.2.1, this.2.2.2.2, rfl, rfl, rfl, by decide, by decide, by decide⟩
    · rcases hl with rfl | rfl <;> rcases hst with rfl | rfl <;> decide
  obtain ⟨k1, k2, k3, k4, k5, k6, k7, k8, k9⟩ := hk1
  have h' := h
  obtain ⟨⟨i1, i2⟩, ⟨N, i3, i4⟩, i5, i6, ⟨i7, i8⟩, i9⟩ := h
  obtain ⟨hty, hva⟩ := py_joinT hk i6
  obtain ⟨c1, c2, c3, c4, c5, c6⟩ := py_setc (r := py_rk k) k1 hva h'
  rw [if_neg (show ¬ (st = 0 ∨ st = 9) from fun z => z.elim k7 k8)] at i8
  rw [k5] at i4
  have hadj : py_adj (k :: py_dw (py_rk k) pl) := by
    refine ⟨?_, c6⟩
    rw [if_neg (show ¬ (k = 9 ∨ k = 12) from fun z => z.elim k2 k3)]
    exact py_lo_dw _ _
  have hB : s = 1 → B = [] := fun hs1 => by
    obtain ⟨t0, t1, t2, -⟩ := i6
    rcases hk with ⟨ha, ⟨rfl, rfl⟩ | ⟨rfl, rfl⟩ | ⟨rfl, rfl⟩⟩ | ⟨hc, rfl, rfl⟩ | ⟨hl, hst, rfl⟩
    · exact (t2 rfl).1
    · cases hs1
    · cases hs1
    · cases hs1
    · cases hs1
  clear hk i6
  have f1 : 3 * N ≤ e := by omega
  have f2 : e ≤ n + 1 := by omega
  have f3 : s ≤ 9 := by omega
  have f4 : (ent D ++ A ++ B ++ py_tk (py_tw (py_rk k) pl)).length + (py_op (py_dw (py_rk k) pl) + 1) + 0 ≤ 2 * pcL (ent D ++ A ++ B) + N := by omega
  unfold py_join
  show py_inv n (if s = 1 then _ else _)
  by_cases hs : s = 1
  · rw [if_pos hs]
    rw [if_pos hs, if_pos hs] at hty
    obtain rfl := hB hs
    refine py_inv_i ?_
    rw [List.append_nil] at c1 i2 f4
    have hA : ent D ++ (A ++ py_tk (py_tw (py_rk k) pl)) ++ [] = ent D ++ A ++ py_tk (py_tw (py_rk k) pl) := by simp
    refine py_I.mk0 ⟨i1, ?_⟩ ⟨N, f1, ?_⟩ ⟨?_, ?_, ?_, hadj⟩ hty ⟨i7, by rw [k4]; exact i8⟩ ⟨f2, fun _ => hle, f3⟩
    · rw [hA, c1]; exact i2
    · rw [hA, c1, py_op_cons k3, k6]; exact f4
    · rw [py_dp_cons ⟨k2, k3⟩]; exact c3
    · rw [c3]; exact c4
    · rw [py_br_cons k3]; exact c5
  · rw [if_neg hs]
    rw [if_neg hs, if_neg hs] at hty
    refine py_inv_i ?_
    have hA : ent D ++ A ++ (B ++ py_tk (py_tw (py_rk k) pl)) = ent D ++ A ++ B ++ py_tk (py_tw (py_rk k) pl) := by simp
    refine py_I.mk0 ⟨i1, ?_⟩ ⟨N, f1, ?_⟩ ⟨?_, ?_, ?_, hadj⟩ hty ⟨i7, by rw [k4]; exact i8⟩ ⟨f2, fun _ => hle, f3⟩
    · rw [hA, c1]; exact i2
    · rw [hA, c1, py_op_cons k3, k6]; exact f4
    · rw [py_dp_cons ⟨k2, k3⟩]; exact c3
    · rw [c3]; exact c4
    · rw [py_br_cons k3]; exact c5
/-- no bracket waits: settling to 1 leaves nothing -/
theorem py_dw1 : ∀ l : List Nat, py_br l = 0 → py_dw 1 l = []
  | [], _ => rfl
  | x :: l, h => by
    have hx : x ≠ 12 := fun z => by
      subst z
      unfold py_br at h
      rw [List.countP_cons, if_pos (show decide (12 = 12) = true from rfl)] at h
      omega
    rw [py_dw_y ((py_rk_b x).2.2.1 hx)]
    exact py_dw1 l (by rw [py_br_cons hx] at h; exact h)
/-- a bracket waits: settling to 1 leaves it on top -/
theorem py_dw1b : ∀ l : List Nat, py_br l ≠ 0 → ∃ m, py_dw 1 l = 12 :: m
  | [], h => absurd rfl h
  | x :: l, h => by
    by_cases hx : x = 12
    · subst hx
      exact ⟨l, py_dw_n (by decide)⟩
    · rw [py_dw_y ((py_rk_b x).2.2.1 hx)]
      exact py_dw1b l (by rw [py_br_cons hx] at h; exact h)
theorem py_okt_br {l : List Nat} (h : py_okt false l false) : py_br l = 0 := by
  have : ∀ (l : List Nat), py_okt false l false → py_br l = 0 := by
    intro l
    induction l with
    | nil => intro _; rfl
    | cons x l ih =>
      intro h
      rw [py_okt] at h
      by_cases h1 : ar x = true
      · rw [if_pos h1] at h
        rw [py_br_cons (py_rk_ar h1).2.2.2.2.2]
        exact ih h.2
      · rw [if_neg h1] at h
        by_cases h2 : cm x = true
        · rw [if_pos h2] at h
          exfalso
          have : ∀ (l : List Nat), py_okt false l true → False := by
            intro l
            induction l with
            | nil => intro z; cases z
            | cons y l ih2 =>
              intro z
              rw [py_okt] at z
              by_cases z1 : ar y = true
              · rw [if_pos z1] at z; cases z.1
              · rw [if_neg z1] at z
                by_cases z2 : cm y = true
                · rw [if_pos z2] at z; cases z.1
                · rw [if_neg z2] at z; exact ih2 z.2.2
          exact this l h.2
        · rw [if_neg h2] at h; cases h.2.1
  exact this l h
