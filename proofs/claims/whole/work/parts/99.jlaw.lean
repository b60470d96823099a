/-! 99: a law more (laid by wip/whole/p99.py) -/
/-- the class's laws with one more -/
theorem LWT.more {h g : ai_H} {D : Nat → Nat} {nl : Nat} {Ls : Nat → List Cl} {L : Nat → Option Nat} {C : List Cl} {f : Nat → Int32} (a : LWT h D nl Ls) (hL : h.2.2 14 = .inl (5, 10, .inr (.inr (.inr (.inr L))))) (hn : nl < 10) (h3 : 361 < h.1) (m : g.1 = h.1 + 2) (o2 : ∀ j, 361 < j → j < h.1 → g.2.2 j = h.2.2 j) (h14 : g.2.2 14 = .inl (5, 10, .inr (.inr (.inr (.inr (va_up L nl (some h.1))))))) (hq : g.2.2 h.1 = .inr (3, [.ref (h.1 + 1)])) (hp : g.2.2 (h.1 + 1) = .inl (0, (stp C).length, .inl f)) (hf : ∀ k m, (stp C)[k]? = some m → f k = nI m) (hC : lwOK C) : LWT g (fun j => if h.1 ≤ j then 1 else D j) (nl + 1) (fun r => if r = nl then C else Ls r) := by
  obtain ⟨a1, L', a2, a3⟩ := a
  have eL : L' = L := by
    have z := a2.symm.trans hL
    injection z with z1
    injection z1 with _ z2
    injection z2 with _ z3
    injection z3 with z4
    injection z4 with z5
    injection z5 with z6
    injection z6 with z7
  subst eL
  refine ⟨by omega, _, h14, fun r hr => ?_⟩
  by_cases e : r = nl
  · subst e
    refine ⟨h.1, h.1 + 1, f, if_pos rfl, ?_, ?_, ?_, if_pos (by omega), if_pos (by omega)⟩
    · simp only [if_pos]
      exact ⟨by omega, by omega, by omega, by omega, hq, hp⟩
    · simp only [if_pos]
      exact hf
    · simp only [if_pos]
      exact hC
  · obtain ⟨q, p, f', b1, ⟨c1, c2, c3, c4, c5, c6⟩, b3, b4, b5, b6⟩ := a3 r (by omega)
    refine ⟨q, p, f', (if_neg e).trans b1, ?_, ?_, ?_, (if_neg (by omega)).trans b5, (if_neg (by omega)).trans b6⟩
    · simp only [if_neg e]
      exact ⟨c1, c2, by omega, by omega, (o2 q c1 c3).trans c5, (o2 p c2 c4).trans c6⟩
    · simp only [if_neg e]
      exact b3
    · simp only [if_neg e]
      exact b4
