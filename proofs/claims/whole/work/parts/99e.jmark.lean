/-! 99e: marks, both -/
theorem mkb_le : ∀ e, e ∈ mkb → mkf e.1 + e.2 ≤ 3900 := by decide +kernel
/-- a model whose rows of the book are the same as far as the book goes -/
theorem RB.near {B : Bk} {lm : Nat} {S T : Md} (h : RB B S) (hok : bk_ok B lm) (h1 : ∀ k, k = 1 ∨ k = 2 ∨ k = 3 ∨ k = 4 ∨ k = 5 ∨ k = 60 → T.1 k = S.1 k) (h2 : ∀ e, e ∈ mkb → ∀ i, i < e.2 → T.2.2.1 e.1 i = S.2.2.1 e.1 i) : RB B T := by
  obtain ⟨⟨a1, a2, a3, a4, a5, a6⟩, bo, bs, bn, br, bj⟩ := h
  have ko := hok.2.1.2.1
  have ks := hok.2.2.1.2.1
  have kn := hok.2.2.2.1.2.1
  have kr := hok.2.2.2.2.1.2.1
  have kj := hok.2.2.2.2.2.2.1
  have m : ∀ (k n : Nat), (k, n) ∈ mkb → ∀ i, i < n → T.2.2.1 k i = S.2.2.1 k i := fun k n hm i hi => h2 (k, n) hm i hi
  refine ⟨⟨(h1 1 (by omega)).trans a1, (h1 2 (by omega)).trans a2, (h1 3 (by omega)).trans a3, (h1 4 (by omega)).trans a4, (h1 5 (by omega)).trans a5, (h1 60 (by omega)).trans a6⟩, fun k hk => ?_, fun k hk => ?_, fun k hk => ?_, fun k hk => ?_, fun k hk => ?_⟩
  · obtain ⟨c1, c2⟩ := bo k hk
    exact ⟨(m 6 16 (by decide +kernel) k (by omega)).trans c1, (m 7 16 (by decide +kernel) k (by omega)).trans c2⟩
  · obtain ⟨c1, c2, c3⟩ := bs k hk
    exact ⟨(m 8 24 (by decide +kernel) k (by omega)).trans c1, (m 9 24 (by decide +kernel) k (by omega)).trans c2, (m 10 24 (by decide +kernel) k (by omega)).trans c3⟩
  · obtain ⟨c1, c2⟩ := bn k hk
    exact ⟨(m 11 80 (by decide +kernel) k (by omega)).trans c1, (m 12 80 (by decide +kernel) k (by omega)).trans c2⟩
  · obtain ⟨c1, c2, c3, c4, c5, c6, c7, c8, c9⟩ := br k hk
    exact ⟨(m 13 400 (by decide +kernel) k (by omega)).trans c1, (m 14 400 (by decide +kernel) k (by omega)).trans c2, (m 15 400 (by decide +kernel) k (by omega)).trans c3, (m 16 400 (by decide +kernel) k (by omega)).trans c4, (m 17 400 (by decide +kernel) k (by omega)).trans c5, (m 18 400 (by decide +kernel) k (by omega)).trans c6, (m 19 400 (by decide +kernel) k (by omega)).trans c7, (m 20 400 (by decide +kernel) k (by omega)).trans c8, (m 21 400 (by decide +kernel) k (by omega)).trans c9⟩
  · obtain ⟨c1, c2, c3⟩ := bj k hk
    exact ⟨(m 61 9 (by decide +kernel) k (by omega)).trans c1, (m 62 9 (by decide +kernel) k (by omega)).trans c2, (m 63 9 (by decide +kernel) k (by omega)).trans c3⟩
theorem blk_far {S T : Md} {r r' lm : Nat} {B : Bk} (hne : r' ≠ r) (h : ∀ t, (t < 3900 * r ∨ 3900 * r + 3900 ≤ t) → T.2.2.1 68 t = S.2.2.1 68 t) (hok : bk_ok B lm) (hRB : RB B (blk S r')) : RB B (blk T r') := by
  have hs : ∀ u, u < 3900 → T.2.2.1 68 (3900 * r' + u) = S.2.2.1 68 (3900 * r' + u) := fun u hu => h _ (by omega)
  refine hRB.near hok (fun k hk => ?_) (fun e he i hi => ?_)
  · exact hs (if k = 60 then 5 else k - 1) (by split <;> omega)
  · exact hs (mkf e.1 + i) (by have := mkb_le e he; omega)
theorem MLS.rows {S T : Md} {nl : Nat} {Ls : Nat → List Cl} (hM : MLS S nl Ls) (h1 : T.1 25 = S.1 25) (h2 : ∀ j, 31 ≤ j ∧ j ≤ 36 → T.2.2.1 j = S.2.2.1 j) : MLS T nl Ls := by
  refine ⟨h1.trans hM.1, hM.2.1, fun r hr => ?_⟩
  obtain ⟨⟨b1, b2⟩, b3⟩ := hM.2.2 r hr
  exact ⟨⟨by rw [h2 33 (by omega)]; exact b1, MC_ofr (fun k hk => h2 k hk) b2⟩, b3⟩
/-- the marks of both, told with the row of the class's marks -/
def MKR (h : ai_H) (D : Nat → Nat) (nl : Nat) (S : Md) (K : Nat → Option Nat) : Prop := ∀ r, r ≤ 3 → (K r = none ∧ S.2.2.1 70 r = 0) ∨ ∃ q C, K r = some q ∧ 361 < q ∧ bk_at h q C ∧ bk_ok C nl ∧ RB C (blk S r) ∧ ¬ S.2.2.1 70 r = 0 ∧ ∀ j, q ≤ j → j ≤ q + 10 → D j = r + 2
theorem tag_far {D E : Nat → Nat} {n q v w : Nat} (hE : ∀ j, j < n → E j = D j) (hEq : ∀ j, q ≤ j → j ≤ q + 10 → E j = v) {j : Nat} (hj : j < n) (hD : D j = w) (hw : w ≠ v) : j < q ∨ q + 10 < j := by
  rcases Nat.lt_or_ge j q with z | z
  · exact Or.inl z
  · rcases Nat.lt_or_ge (q + 10) j with y | y
    · exact Or.inr y
    · exact absurd ((hD.symm.trans (hE j hj).symm).trans (hEq j z y)) hw
theorem JI_mark {h h1 g : ai_H} {B X : Bk} {S W : Md} {D E : Nat → Nat} {nl k q r : Nat} {Ls : Nat → List Cl} {f : Nat → Int32} {K K' : Nat → Option Nat} (hx : x_at h (nI k) (nI nl)) (hk : k ≤ 400) (h13 : h.2.2 13 = .inl (0, 400, .inl f)) (hB : bk_at h 1 B) (hok : bk_ok B nl) (hRB : RB B S) (hs : scr h) (hL : LWT h D nl Ls) (hM : MLS S nl Ls) (h22 : S.1 22 = nI k) (htp : tpr k f (S.2.2.1 30)) (hKr : MKR h D nl S K) (hr : r ≤ 3) (hq : 361 < q) (m1 : h.1 ≤ h1.1) (o1 : ∀ j, j < h.1 → j ≠ 12 → (j < q ∨ q + 10 < j) → h1.2.2 j = h.2.2 j) (h12 : h1.2.2 12 = .inl (6, 4, .inr (.inr (.inr (.inr K'))))) (hK1 : K' r = some q) (hK2 : ∀ r', r' ≠ r → K' r' = K r') (hE : ∀ j, j < h.1 → E j = D j) (hEq : ∀ j, q ≤ j → j ≤ q + 10 → E j = r + 2) (hX : bk_at h1 q X) (c : cpd B X) (e : md_ext h1 g) (hmd : md_at g W) (hW : mkd S r W) : JI g := by
  have m : h.1 ≤ g.1 := Nat.le_trans m1 (Nat.le_of_eq e.1.symm)
  have h3 := hx.1
  have o : ∀ j, j < h.1 → j < 307 ∨ 361 < j → j ≠ 12 → (j < q ∨ q + 10 < j) → g.2.2 j = h.2.2 j := fun j a1 a2 a3 a4 => (e.2.2 j a2).trans (o1 j a1 a3 a4)
  obtain ⟨w1, w2, w3, w4, w5, w6, w7, w8⟩ := hW
  refine ⟨B, W, E, nl, k, Ls, f, ⟨by omega, (o 0 (by omega) (by omega) (by omega) (by omega)).trans hx.2⟩, hk, (o 13 (by omega) (by omega) (by omega) (by omega)).trans h13, hB.late m (fun j _ _ => o j (by omega) (by omega) (by omega) (by omega)), hok, hRB.of ⟨fun j hj => w1 j (by omega) (by omega), fun j hj => w4 j (by omega) (by omega) (by omega)⟩, hs.up m (fun j _ _ => o j (by omega) (by omega) (by omega) (by omega)), hL.keep m (o 14 (by omega) (by omega) (by omega) (by omega)) hE (fun j a1 a2 a3 => o j a2 (by omega) (by omega) (tag_far hE hEq a2 a3 (by omega))), hM.rows (w1 25 (by omega) (by omega)) (fun j hj => w4 j (by omega) (by omega) (by omega)), hmd, (w1 22 (by omega) (by omega)).trans h22, by rw [w4 30 (by omega) (by omega) (by omega)]; exact htp, K', (e.2.2 12 (by decide)).trans h12, fun r' hr' => ?_⟩
  by_cases er : r' = r
  · subst er
    refine Or.inr ⟨q, X, hK1, hq, hX.late (Nat.le_of_eq e.1.symm) (fun j _ _ => e.2.2 j (by omega)), c.ok hB hok, c.rb hB (hRB.near hok (fun j hj => w7 j hj) (fun e' he' i hi => w8 e' he' i hi)), ?_, hEq⟩
    rw [w5 r', if_pos rfl]
    decide
  · rw [hK2 r' er, w5 r', if_neg er]
    rcases hKr r' hr' with z | ⟨q', C, b1, b2, b3, b4, b5, b6, b7⟩
    · exact Or.inl z
    · have hb : q' + 10 < h.1 := b3.1
      exact Or.inr ⟨q', C, b1, b2, b3.late m (fun j y1 y2 => o j (by omega) (by omega) (by omega) (tag_far hE hEq (by omega) (b7 j y1 y2) (by omega))), b4, blk_far er w6 b4 b5, b6, fun j y1 y2 => (hE j (by omega)).trans (b7 j y1 y2)⟩
theorem JI_back {h h1 g : ai_H} {B C X : Bk} {S W : Md} {D : Nat → Nat} {nl k q r : Nat} {Ls : Nat → List Cl} {f : Nat → Int32} (hx : x_at h (nI k) (nI nl)) (hk : k ≤ 400) (h13 : h.2.2 13 = .inl (0, 400, .inl f)) (hs : scr h) (hL : LWT h D nl Ls) (hM : MLS S nl Ls) (h22 : S.1 22 = nI k) (htp : tpr k f (S.2.2.1 30)) (hK : MKT h D nl S) (m1 : h1.1 = h.1) (o1 : ∀ j, (j < 1 ∨ 11 < j) → h1.2.2 j = h.2.2 j) (hC : bk_at h q C) (hCok : bk_ok C nl) (hCR : RB C (blk S r)) (hX : bk_at h1 1 X) (c : cpd C X) (e : md_ext h1 g) (hmd : md_at g W) (hW : bkd S r W) : JI g := by
  have m : g.1 = h.1 := e.1.trans m1
  have h3 := hx.1
  have o : ∀ j, j < 307 ∨ 361 < j → (j < 1 ∨ 11 < j) → g.2.2 j = h.2.2 j := fun j a2 a3 => (e.2.2 j a2).trans (o1 j a3)
  obtain ⟨w1, w2, w3, w4, w5, w6⟩ := hW
  have ho : oth S W := ⟨fun j hj => w1 j (by omega) (by omega) (by omega) (by omega) (by omega) (by omega) (by omega) (by omega), fun j hj => w4 j (by omega) (by omega)⟩
  exact ⟨X, W, D, nl, k, Ls, f, hx.keep m (o 0 (by omega) (by omega)), hk, (o 13 (by omega) (by omega)).trans h13, hX.keep e.1 (fun j _ _ => e.2.2 j (by omega)), c.ok hC hCok, c.rb hC (hCR.near hCok w5 w6), hs.same m (fun j _ _ => o j (by omega) (by omega)), hL.keep (Nat.le_of_eq m.symm) (o 14 (by omega) (by omega)) (fun _ _ => rfl) (fun j _ _ _ => o j (by omega) (by omega)), hM.oth ho, hmd, by rw [ho.1 22 (by omega)]; exact h22, by rw [ho.2 30 (by omega)]; exact htp, hK.keep (Nat.le_of_eq m.symm) (Nat.le_refl _) (o 12 (by omega) (by omega)) (fun _ _ => rfl) (fun j _ _ => o j (by omega) (by omega)) (ho.2 68 (by omega)) (ho.2 70 (by omega))⟩
