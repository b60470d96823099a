/-! 08b: more rules of the walk: comparisons of longs, heaps that differ at some cells, arraycopy, a string constant far in the pool -/
section FUSED
variable {M : ai_M} {pc : Nat} {ls st : List Value} {h h' : ai_H} {r : Option Value}
theorem wk_lcmp_lt {x y : Int64} {off : Int} {tgt : Nat} (d : decode M.2.1 pc = .ok (.lcmp, 1)) (d2 : decode M.2.1 (pc + 1) = .ok (.ifCond .lt off, 3)) (ht : ((pc + 1 : Nat) : Int) + off = (tgt : Int)) (kt : x < y → ai_R M tgt ls st h r h') (kf : ¬ x < y → ai_R M (pc + 1 + 3) ls st h r h') : ai_R M pc ls (.long y :: .long x :: st) h r h' :=
  rs_lcmp d (rs_if_lt d2 ht (fun z => kt ((lg_cmp_lt x y).mp z)) (fun z => kf (fun w => z ((lg_cmp_lt x y).mpr w))))
theorem wk_lcmp_le {x y : Int64} {off : Int} {tgt : Nat} (d : decode M.2.1 pc = .ok (.lcmp, 1)) (d2 : decode M.2.1 (pc + 1) = .ok (.ifCond .le off, 3)) (ht : ((pc + 1 : Nat) : Int) + off = (tgt : Int)) (kt : x ≤ y → ai_R M tgt ls st h r h') (kf : ¬ x ≤ y → ai_R M (pc + 1 + 3) ls st h r h') : ai_R M pc ls (.long y :: .long x :: st) h r h' :=
  rs_lcmp d (rs_if_le d2 ht (fun z => kt ((lg_cmp_le x y).mp z)) (fun z => kf (fun w => z ((lg_cmp_le x y).mpr w))))
theorem wk_lcmp_gt {x y : Int64} {off : Int} {tgt : Nat} (d : decode M.2.1 pc = .ok (.lcmp, 1)) (d2 : decode M.2.1 (pc + 1) = .ok (.ifCond .gt off, 3)) (ht : ((pc + 1 : Nat) : Int) + off = (tgt : Int)) (kt : y < x → ai_R M tgt ls st h r h') (kf : ¬ y < x → ai_R M (pc + 1 + 3) ls st h r h') : ai_R M pc ls (.long y :: .long x :: st) h r h' :=
  rs_lcmp d (rs_if_gt d2 ht (fun z => kt ((lg_cmp_gt x y).mp z)) (fun z => kf (fun w => z ((lg_cmp_gt x y).mpr w))))
theorem wk_lcmp_ge {x y : Int64} {off : Int} {tgt : Nat} (d : decode M.2.1 pc = .ok (.lcmp, 1)) (d2 : decode M.2.1 (pc + 1) = .ok (.ifCond .ge off, 3)) (ht : ((pc + 1 : Nat) : Int) + off = (tgt : Int)) (kt : y ≤ x → ai_R M tgt ls st h r h') (kf : ¬ y ≤ x → ai_R M (pc + 1 + 3) ls st h r h') : ai_R M pc ls (.long y :: .long x :: st) h r h' :=
  rs_lcmp d (rs_if_ge d2 ht (fun z => kt ((lg_cmp_ge x y).mp z)) (fun z => kf (fun w => z ((lg_cmp_ge x y).mpr w))))
theorem wk_lcmp_eq {x y : Int64} {off : Int} {tgt : Nat} (d : decode M.2.1 pc = .ok (.lcmp, 1)) (d2 : decode M.2.1 (pc + 1) = .ok (.ifCond .eq off, 3)) (ht : ((pc + 1 : Nat) : Int) + off = (tgt : Int)) (kt : x = y → ai_R M tgt ls st h r h') (kf : ¬ x = y → ai_R M (pc + 1 + 3) ls st h r h') : ai_R M pc ls (.long y :: .long x :: st) h r h' :=
  rs_lcmp d (rs_if_eq d2 ht (fun z => kt ((lg_cmp_eq x y).mp z)) (fun z => kf (fun w => z ((lg_cmp_eq x y).mpr w))))
theorem wk_lcmp_ne {x y : Int64} {off : Int} {tgt : Nat} (d : decode M.2.1 pc = .ok (.lcmp, 1)) (d2 : decode M.2.1 (pc + 1) = .ok (.ifCond .ne off, 3)) (ht : ((pc + 1 : Nat) : Int) + off = (tgt : Int)) (kt : ¬ x = y → ai_R M tgt ls st h r h') (kf : x = y → ai_R M (pc + 1 + 3) ls st h r h') : ai_R M pc ls (.long y :: .long x :: st) h r h' :=
  rs_lcmp d (rs_if_ne d2 ht (fun z => kt (fun w => z ((lg_cmp_eq x y).mpr w))) (fun z => kf ((lg_cmp_eq x y).mp z)))
/-- the heap behind a step gets a name -/
theorem wk_gen {E : ai_H} (k : ∀ h1 : ai_H, h1 = E → ai_R M pc ls st h1 r h') : ai_R M pc ls st E r h' := k E rfl
/-- a computed number gets a name -/
theorem wk_topi {x : Int32} (k : ∀ y : Int32, y = x → ai_R M pc ls (.int y :: st) h r h') : ai_R M pc ls (.int x :: st) h r h' := k x rfl
theorem wk_topl {x : Int64} (k : ∀ y : Int64, y = x → ai_R M pc ls (.long y :: st) h r h') : ai_R M pc ls (.long x :: st) h r h' := k x rfl
theorem rs_copy {idx q0 q1 n0 n1 : Nat} {f g : Nat → Int32} {sp dp n : Int32} (d : decode M.2.1 pc = .ok (.invokestatic idx, 3)) (hw : Cond.methodLink M.1.cls idx arraycopyName ∈ ai_T) (hw2 : Cond.native arraycopyName ∈ ai_T) (hw3 : Cond.static arraycopyName ∈ ai_T) (hw4 : Cond.initialized "java/lang/System" ∈ ai_T) (hq0 : q0 < h.1) (he0 : h.2.2 q0 = .inl (0, n0, .inl f)) (hq1 : q1 < h.1) (he1 : h.2.2 q1 = .inl (0, n1, .inl g)) (h1 : ¬ sp < 0) (h2 : ¬ dp < 0) (h3 : ¬ n < 0) (h4 : sp.toNatClampNeg + n.toNatClampNeg ≤ n0) (h5 : dp.toNatClampNeg + n.toNatClampNeg ≤ n1) (hfr : 1 ≤ M.2.2.2.2.1) (hlo : (st.map fun v => v.category).sum + (nativeFrameWords "java/lang/System" "arraycopy" 5 + 11) ≤ M.2.2.2.2.2) (kk : ai_R M (pc + 3) ls st (ai_set h q1 (.inl (0, n1, .inl (va_cpy f g sp.toNatClampNeg dp.toNatClampNeg n.toNatClampNeg)))) r h') : ai_R M pc ls (.int n :: .int dp :: .ref q1 :: .int sp :: .ref q0 :: st) h r h' := by
  refine ⟨kk.1, fun p l e s mid args below meth c dC dI cK aK aV ad0 c0 s0 A ad H locs lsm hC hG hL hst => ?_⟩
  have hT := hC.2.2.2.2.2.1
  have hw0 : (ai_w cK ad aK h)[q0]? = some (ad q0, .inl (cK 0, n0, .inl f)) := by rw [ai_w_get hq0, he0]; rfl
  have hw1 : (ai_w cK ad aK h)[q1]? = some (ad q1, .inl (cK 0, n1, .inl g)) := by rw [ai_w_get hq1, he1]; rfl
  refine va_copyi (ty := .int) hC.1 hC.2.1 (hC.2.2.2.1.trans hL.1.symm) hC.2.2.2.2.1 (hT _ hw) (hT _ hw2) (hT _ hw3) (hT _ hw4) hG.1 hG.2.2.2.1 hG.2.2.2.2.1 hG.2.2.2.2.2.1 q0 q1 0 0 hw0 hw1 rfl rfl rfl h1 h2 h3 h4 h5 (fun _ _ => rfl) hfr (by rw [ai_cat_sum]; exact hlo) d ?_
  intro H1 locs1 hP hD hS
  have e1 := ai_w_set (cK := cK) (ad := ad) (aK := aK) (h := h) (q := q1) (.inl (0, n1, .inl (va_cpy f g sp.toNatClampNeg dp.toNatClampNeg n.toNatClampNeg))) hq1
  rw [show (ad q1, Sum.inl (cK 0, n1, Sum.inl (va_cpy f g sp.toNatClampNeg dp.toNatClampNeg n.toNatClampNeg))) = ((ad q1, ai_e cK ad aK (.inl (0, n1, .inl (va_cpy f g sp.toNatClampNeg dp.toNatClampNeg n.toNatClampNeg)))) : Nat × va_E) from rfl, e1] at hP hD
  exact kk.2 p l e s mid args below meth c dC dI cK aK aV ad0 c0 s0 A ad H1 locs1 lsm hC
    ⟨hG.1, hG.2.1, hG.2.2.1, hP, hD, hS, hG.2.2.2.2.2.2.1, hG.2.2.2.2.2.2.2.1, hG.2.2.2.2.2.2.2.2.1, ai_wf_set hG.2.2.2.2.2.2.2.2.2 trivial⟩ hL (ai_b1 (ai_b2 (ai_b2 hst)))
theorem wk_copy {idx q0 q1 n0 n1 : Nat} {f g : Nat → Int32} {sp dp n : Int32} (d : decode M.2.1 pc = .ok (.invokestatic idx, 3)) (hw : Cond.methodLink M.1.cls idx arraycopyName ∈ ai_T) (hw2 : Cond.native arraycopyName ∈ ai_T) (hw3 : Cond.static arraycopyName ∈ ai_T) (hw4 : Cond.initialized "java/lang/System" ∈ ai_T) (hq0 : q0 < h.1) (he0 : h.2.2 q0 = .inl (0, n0, .inl f)) (hq1 : q1 < h.1) (he1 : h.2.2 q1 = .inl (0, n1, .inl g)) (h1 : ¬ sp < 0) (h2 : ¬ dp < 0) (h3 : ¬ n < 0) (h4 : sp.toNatClampNeg + n.toNatClampNeg ≤ n0) (h5 : dp.toNatClampNeg + n.toNatClampNeg ≤ n1) (hfr : 1 ≤ M.2.2.2.2.1) (hlo : (st.map fun v => v.category).sum + (nativeFrameWords "java/lang/System" "arraycopy" 5 + 11) ≤ M.2.2.2.2.2) (kk : ∀ h1 : ai_H, h1.1 = h.1 → h1.2.1 = h.2.1 → h1.2.2 q1 = .inl (0, n1, .inl (va_cpy f g sp.toNatClampNeg dp.toNatClampNeg n.toNatClampNeg)) → (∀ j, j ≠ q1 → h1.2.2 j = h.2.2 j) → h1 = ai_set h q1 (.inl (0, n1, .inl (va_cpy f g sp.toNatClampNeg dp.toNatClampNeg n.toNatClampNeg))) → ai_R M (pc + 3) ls st h1 r h') : ai_R M pc ls (.int n :: .int dp :: .ref q1 :: .int sp :: .ref q0 :: st) h r h' :=
  rs_copy d hw hw2 hw3 hw4 hq0 he0 hq1 he1 h1 h2 h3 h4 h5 hfr hlo (kk _ rfl rfl ai_set_get (fun _ => ai_set_ne) rfl)
end FUSED
theorem ai_heq {h g : ai_H} (h1 : h.1 = g.1) (h2 : h.2.1 = g.2.1) (h3 : ∀ j, h.2.2 j = g.2.2 j) : h = g := by
  obtain ⟨a, b, f⟩ := h
  obtain ⟨a', b', f'⟩ := g
  have g1 : a = a' := h1
  have g2 : b = b' := h2
  have g3 : f = f' := funext h3
  rw [g1, g2, g3]
/-- a heap that differs from h at q alone -/
theorem ai_is1 {h g : ai_H} {q : Nat} {e : va_E} (h1 : g.1 = h.1) (h2 : g.2.1 = h.2.1) (h3 : g.2.2 q = e) (h4 : ∀ j, j ≠ q → g.2.2 j = h.2.2 j) : ai_set h q e = g := by
  refine ai_heq h1.symm h2.symm fun j => ?_
  by_cases hj : j = q
  · subst hj; rw [ai_set_get, h3]
  · rw [ai_set_ne hj, h4 j hj]
theorem ai_is2 {h g : ai_H} {q p : Nat} {e e' : va_E} (h1 : g.1 = h.1) (h2 : g.2.1 = h.2.1) (h3 : g.2.2 q = e) (h3b : g.2.2 p = e') (h4 : ∀ j, j ≠ q → j ≠ p → g.2.2 j = h.2.2 j) : ai_set (ai_set h q e) p e' = g := by
  refine ai_heq h1.symm h2.symm fun j => ?_
  by_cases hj : j = p
  · subst hj; rw [ai_set_get, h3b]
  · rw [ai_set_ne hj]
    by_cases hq : j = q
    · subst hq; rw [ai_set_get, h3]
    · rw [ai_set_ne hq, h4 j hq hj]
theorem ai_is0 {h g : ai_H} (h1 : g.1 = h.1) (h2 : g.2.1 = h.2.1) (h4 : ∀ j, g.2.2 j = h.2.2 j) : h = g := ai_heq h1.symm h2.symm fun j => (h4 j).symm
theorem ai_e1 {h g : ai_H} {q : Nat} {e : va_E} (x : g = ai_set h q e) : g.1 = h.1 ∧ g.2.1 = h.2.1 ∧ g.2.2 q = e ∧ ∀ j, j ≠ q → g.2.2 j = h.2.2 j := by
  subst x; exact ⟨rfl, rfl, ai_set_get, fun _ => ai_set_ne⟩
theorem ai_e2 {h g : ai_H} {q p : Nat} {e e' : va_E} (hne : q ≠ p) (x : g = ai_set (ai_set h q e) p e') : g.1 = h.1 ∧ g.2.1 = h.2.1 ∧ g.2.2 q = e ∧ g.2.2 p = e' ∧ ∀ j, j ≠ q → j ≠ p → g.2.2 j = h.2.2 j := by
  subst x; exact ⟨rfl, rfl, by rw [ai_set_ne hne, ai_set_get], ai_set_get, fun j h1 h2 => by rw [ai_set_ne h2, ai_set_ne h1]⟩
