/-! 95: class and model side by side (laid by wip/whole/p95.py) -/
/-- the class's laws; D tells what a late cell is for: 1 a law's, r + 2 the mark r's -/
def LWT (h : ai_H) (D : Nat → Nat) (nl : Nat) (Ls : Nat → List Cl) : Prop := nl ≤ 10 ∧ ∃ L : Nat → Option Nat, h.2.2 14 = .inl (5, 10, .inr (.inr (.inr (.inr L)))) ∧ ∀ r, r < nl → ∃ q p f, L r = some q ∧ law_at h q p (stp (Ls r)).length f ∧ (∀ k m, (stp (Ls r))[k]? = some m → f k = nI m) ∧ lwOK (Ls r) ∧ D q = 1 ∧ D p = 1
theorem LWT.lws {h : ai_H} {D : Nat → Nat} {nl : Nat} {Ls : Nat → List Cl} (a : LWT h D nl Ls) : LWS h nl Ls := by
  obtain ⟨a1, L, a2, a3⟩ := a
  refine ⟨a1, L, a2, fun r hr => ?_⟩
  obtain ⟨q, p, f, b1, b2, b3, b4, -⟩ := a3 r hr
  exact ⟨q, p, f, b1, b2, b3, b4⟩
theorem LWT.keep {h g : ai_H} {D E : Nat → Nat} {nl : Nat} {Ls : Nat → List Cl} (a : LWT h D nl Ls) (m : h.1 ≤ g.1) (o : g.2.2 14 = h.2.2 14) (hD : ∀ j, j < h.1 → E j = D j) (o2 : ∀ j, 361 < j → j < h.1 → D j = 1 → g.2.2 j = h.2.2 j) : LWT g E nl Ls := by
  obtain ⟨a1, L, a2, a3⟩ := a
  refine ⟨a1, L, o.trans a2, fun r hr => ?_⟩
  obtain ⟨q, p, f, b1, ⟨c1, c2, c3, c4, c5, c6⟩, b3, b4, b5, b6⟩ := a3 r hr
  exact ⟨q, p, f, b1, ⟨c1, c2, by omega, by omega, (o2 q c1 c3 b5).trans c5, (o2 p c2 c4 b6).trans c6⟩, b3, b4, (hD q c3).trans b5, (hD p c4).trans b6⟩
theorem bk_at.late {h g : ai_H} {q : Nat} {B : Bk} (a : bk_at h q B) (m : h.1 ≤ g.1) (o : ∀ j, q ≤ j → j ≤ q + 10 → g.2.2 j = h.2.2 j) : bk_at g q B := by
  unfold bk_at at a ⊢
  rw [o q (by omega) (by omega), o (q + 1) (by omega) (by omega), o (q + 2) (by omega) (by omega), o (q + 3) (by omega) (by omega), o (q + 4) (by omega) (by omega), o (q + 5) (by omega) (by omega), o (q + 6) (by omega) (by omega), o (q + 7) (by omega) (by omega), o (q + 8) (by omega) (by omega), o (q + 9) (by omega) (by omega), o (q + 10) (by omega) (by omega)]
  exact ⟨by omega, a.2⟩
/-- the marks of both -/
def MKT (h : ai_H) (D : Nat → Nat) (nl : Nat) (S : Md) : Prop := ∃ K : Nat → Option Nat, h.2.2 12 = .inl (6, 4, .inr (.inr (.inr (.inr K)))) ∧ ∀ r, r ≤ 3 → (K r = none ∧ S.2.2.1 70 r = 0) ∨ ∃ q C, K r = some q ∧ 361 < q ∧ bk_at h q C ∧ bk_ok C nl ∧ RB C (blk S r) ∧ ¬ S.2.2.1 70 r = 0 ∧ ∀ j, q ≤ j → j ≤ q + 10 → D j = r + 2
theorem blk_same {S T : Md} (h : T.2.2.1 68 = S.2.2.1 68) (r : Nat) : blk T r = blk S r := by
  unfold blk
  rw [h]
theorem MKT.keep {h g : ai_H} {D E : Nat → Nat} {nl ml : Nat} {S T : Md} (a : MKT h D nl S) (m : h.1 ≤ g.1) (hl : nl ≤ ml) (o : g.2.2 12 = h.2.2 12) (hD : ∀ j, j < h.1 → E j = D j) (o2 : ∀ j, 361 < j → j < h.1 → g.2.2 j = h.2.2 j) (h1 : T.2.2.1 68 = S.2.2.1 68) (h2 : T.2.2.1 70 = S.2.2.1 70) : MKT g E ml T := by
  obtain ⟨K, a1, a2⟩ := a
  refine ⟨K, o.trans a1, fun r hr => ?_⟩
  rw [h2, blk_same h1]
  rcases a2 r hr with z | ⟨q, C, b1, b2, b3, b4, b5, b6, b7⟩
  · exact Or.inl z
  · have hq : q + 10 < h.1 := b3.1
    exact Or.inr ⟨q, C, b1, b2, b3.late m (fun j h1 h2 => o2 j (by omega) (by omega)), b4.mono hl, b5, b6, fun j h1 h2 => (hD j (by omega)).trans (b7 j h1 h2)⟩
/-- class and model hold the same -/
def JI (h : ai_H) : Prop := ∃ (B : Bk) (S : Md) (D : Nat → Nat) (nl k : Nat) (Ls : Nat → List Cl) (f : Nat → Int32), x_at h (nI k) (nI nl) ∧ k ≤ 400 ∧ h.2.2 13 = .inl (0, 400, .inl f) ∧ bk_at h 1 B ∧ bk_ok B nl ∧ RB B S ∧ scr h ∧ LWT h D nl Ls ∧ MLS S nl Ls ∧ md_at h S ∧ S.1 22 = nI k ∧ tpr k f (S.2.2.1 30) ∧ MKT h D nl S
