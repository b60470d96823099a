/-! 98: tape, both (laid by wip/whole/p98.py) -/
theorem JI_tape {h h1 g : ai_H} {B : Bk} {S T : Md} {D : Nat → Nat} {nl k : Nat} {Ls : Nat → List Cl} {f : Nat → Int32} (hx : x_at h1 (nI k) (nI nl)) (hk : k ≤ 400) (h13 : h1.2.2 13 = .inl (0, 400, .inl f)) (m1 : h1.1 = h.1) (o1 : ∀ j, j ≠ 0 → j ≠ 13 → h1.2.2 j = h.2.2 j) (hB : bk_at h 1 B) (hok : bk_ok B nl) (hRB : RB B S) (hs : scr h) (hL : LWT h D nl Ls) (hM : MLS S nl Ls) (hT1 : ∀ j, j ≠ 22 → T.1 j = S.1 j) (hT2 : ∀ j, j ≠ 30 → T.2.2.1 j = S.2.2.1 j) (h22 : T.1 22 = nI k) (htp : tpr k f (T.2.2.1 30)) (hK : MKT h D nl S) (e : md_ext h1 g) (hmd : md_at g T) : JI g := by
  have m : g.1 = h.1 := e.1.trans m1
  have o : ∀ j, j < 307 ∨ 361 < j → j ≠ 0 → j ≠ 13 → g.2.2 j = h.2.2 j := fun j hj h0 h13 => (e.2.2 j hj).trans (o1 j h0 h13)
  have hM' : MLS T nl Ls := by
    refine ⟨by rw [hT1 25 (by omega)]; exact hM.1, hM.2.1, fun r hr => ?_⟩
    obtain ⟨⟨b1, b2⟩, b3⟩ := hM.2.2 r hr
    exact ⟨⟨by rw [hT2 33 (by omega)]; exact b1, MC_ofr (fun k hk => hT2 k (by omega)) b2⟩, b3⟩
  exact ⟨B, T, D, nl, k, Ls, f, hx.keep e.1 (e.2.2 0 (by decide)), hk, (e.2.2 13 (by decide)).trans h13, hB.keep m (fun j _ _ => o j (by omega) (by omega) (by omega)), hok, hRB.of ⟨fun j hj => hT1 j (by omega), fun j hj => hT2 j (by omega)⟩, hs.same m (fun j _ _ => o j (by omega) (by omega) (by omega)), hL.keep (Nat.le_of_eq m.symm) (o 14 (by decide) (by decide) (by decide)) (fun _ _ => rfl) (fun j _ _ _ => o j (by omega) (by omega) (by omega)), hM', hmd, h22, htp, hK.keep (Nat.le_of_eq m.symm) (Nat.le_refl _) (o 12 (by decide) (by decide) (by decide)) (fun _ _ => rfl) (fun j _ _ => o j (by omega) (by omega) (by omega)) (hT2 68 (by omega)) (hT2 70 (by omega))⟩
