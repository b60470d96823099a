/-! 99b: the model's laws with one more (laid by wip/whole/p99b.py) -/
def totC : List Cl → Nat
  | [] => 0
  | c :: D => c.1.length + c.2.length + totC D
theorem MC_low {S T : Md} {r : Nat} (h1 : ∀ i, i < 300 * (r + 1) → T.2.2.1 31 i = S.2.2.1 31 i ∧ T.2.2.1 32 i = S.2.2.1 32 i) (h2 : ∀ i, i < 12 * (r + 1) → T.2.2.1 34 i = S.2.2.1 34 i ∧ T.2.2.1 35 i = S.2.2.1 35 i ∧ T.2.2.1 36 i = S.2.2.1 36 i) : ∀ (D : List Cl) (c0 o : Nat), c0 + D.length ≤ 12 → o + totC D ≤ 300 → MC S r c0 o D → MC T r c0 o D
  | [], _, _, _, _, _ => trivial
  | c :: D, c0, o, a, b, h => by
    have a' : c0 + (D.length + 1) ≤ 12 := a
    have b' : o + (c.1.length + c.2.length + totC D) ≤ 300 := b
    obtain ⟨z1, z2, z3, z4, z5, z6⟩ := h
    have q := h2 (12 * r + c0) (by omega)
    refine ⟨q.1.trans z1, q.2.1.trans z2, q.2.2.trans z3, fun k t hk => ?_, fun k t hk => ?_, MC_low h1 h2 D (c0 + 1) _ (by omega) (by omega) z6⟩
    · have l := (List.getElem?_eq_some_iff.mp hk).1
      have p := h1 (300 * r + (o + k)) (by omega)
      exact ⟨p.1.trans (z4 k t hk).1, p.2.trans (z4 k t hk).2⟩
    · have l := (List.getElem?_eq_some_iff.mp hk).1
      have p := h1 (300 * r + (o + c.1.length + k)) (by omega)
      exact ⟨p.1.trans (z5 k t hk).1, p.2.trans (z5 k t hk).2⟩
theorem totC_is : ∀ C : List Cl, totC C = (ent C).length
  | [] => rfl
  | c :: D => by
    show c.1.length + c.2.length + totC D = (c.1 ++ c.2 ++ ent D).length
    rw [totC_is D, List.length_append, List.length_append]
theorem MLS.more {S T : Md} {nl : Nat} {Ls : Nat → List Cl} {C : List Cl} (a : MLS S nl Ls) (l : lfr nl S T) (h25 : T.1 25 = nI (nl + 1)) (hn : nl < 10) (hC : ML T nl C) (ok : lwOK C) : MLS T (nl + 1) (fun r => if r = nl then C else Ls r) := by
  refine ⟨h25, by omega, fun r hr => ?_⟩
  by_cases e : r = nl
  · subst e
    simp only [if_pos]
    exact ⟨hC, ok⟩
  · simp only [if_neg e]
    obtain ⟨⟨b1, b2⟩, b3⟩ := a.2.2 r (by omega)
    exact ⟨⟨(l.2.2.2.2.2.1 r e).trans b1, MC_low (fun i hi => l.2.2.2.2.1 i (by omega)) (fun i hi => l.2.2.2.2.2.2 i (by omega)) _ 0 0 (by have := b3.2.2.1; omega) (by rw [totC_is]; have := b3.2.2.2; omega) b2⟩, b3⟩
