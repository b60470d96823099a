/-! 99c: after a law, both (laid by wip/whole/p99c.py) -/
theorem scr.read {h g : ai_H} (hs : scr h) (m : h.1 ≤ g.1) (o : ∀ j, 15 ≤ j → j ≤ 306 → (j < 16 ∨ 19 < j) → g.2.2 j = h.2.2 j) (hr : ∃ T, rd_at 13 g T) : scr g := by
  have hs' : scr (g.1, g.2.1, fun j => if 16 ≤ j ∧ j ≤ 19 then h.2.2 j else g.2.2 j) := hs.up m (fun j h1 h2 => by
    show (if 16 ≤ j ∧ j ≤ 19 then h.2.2 j else g.2.2 j) = h.2.2 j
    by_cases c : 16 ≤ j ∧ j ≤ 19
    · rw [if_pos c]
    · rw [if_neg c]
      exact o j h1 h2 (by omega))
  generalize hk : ((g.1, g.2.1, fun j => if 16 ≤ j ∧ j ≤ 19 then h.2.2 j else g.2.2 j) : ai_H) = k at hs'
  have m2 : g.1 = k.1 := by rw [← hk]
  have o2 : ∀ j, (j < 16 ∨ 19 < j) → g.2.2 j = k.2.2 j := fun j hj => by
    rw [← hk]
    exact (if_neg (by omega)).symm
  obtain ⟨T, hT⟩ := hr
  obtain ⟨⟨f, a1⟩, -, ⟨S3, a3⟩, ⟨S4, a4⟩, ⟨T5, a5⟩, ⟨S6, a6⟩, ⟨S7, a7⟩, ⟨c, S8, t8, a8, a8', a8''⟩, ⟨t9, a9⟩⟩ := hs'
  exact ⟨⟨f, (o2 _ (by decide)).trans a1⟩, ⟨13, T, Or.inr rfl, hT⟩, ⟨S3, sc_keep a3 m2 (fun j _ _ => o2 j (by omega))⟩, ⟨S4, cl_keep a4 m2 (fun j _ _ => o2 j (by omega))⟩, ⟨T5, mt_keep a5 m2 (fun j _ _ => o2 j (by omega))⟩, ⟨S6, rp_keep a6 m2 (fun j _ _ => o2 j (by omega))⟩, ⟨S7, bo_keep a7 m2 (fun j _ _ => o2 j (by omega))⟩, ⟨c, S8, t8, a8, wo_keep a8' m2 (fun j _ _ => o2 j (by omega)), (o2 _ (by decide)).trans a8''⟩, ⟨t9, (o2 _ (by decide)).trans a9⟩⟩
theorem MLS.less {S T : Md} {nl : Nat} {Ls : Nat → List Cl} (a : MLS S nl Ls) (l : lfr nl S T) (h25 : T.1 25 = nI nl) : MLS T nl Ls := by
  refine ⟨h25, a.2.1, fun r hr => ?_⟩
  obtain ⟨⟨b1, b2⟩, b3⟩ := a.2.2 r hr
  exact ⟨⟨(l.2.2.2.2.2.1 r (by omega)).trans b1, MC_low (fun i hi => l.2.2.2.2.1 i (by omega)) (fun i hi => l.2.2.2.2.2.2 i (by omega)) _ 0 0 (by have := b3.2.2.1; omega) (by rw [totC_is]; have := b3.2.2.2; omega) b2⟩, b3⟩
theorem lfr.sb {S T : Md} {nl : Nat} (l : lfr nl S T) : sb S T := ⟨fun k hk => l.1 k (by omega), fun k hk => l.2.2.2.1 k (by omega)⟩
/-- both after a law that was refused -/
theorem JI_law0 {h h1 g : ai_H} {B : Bk} {S T : Md} {D : Nat → Nat} {nl : Nat} {Ls : Nat → List Cl} {f : Nat → Int32} (h13 : h.2.2 13 = .inl (0, 400, .inl f)) (hB : bk_at h 1 B) (hok : bk_ok B nl) (hRB : RB B S) (hs : scr h) (hL : LWT h D nl Ls) (hM : MLS S nl Ls) (hK : MKT h D nl S) (hx : x_at h1 0 (nI nl)) (m1 : h1.1 = h.1) (o1 : ∀ j, j ≠ 0 → (j < 16 ∨ 19 < j) → h1.2.2 j = h.2.2 j) (hr : ∃ T, rd_at 13 h1 T) (l : lfr nl S T) (h22 : T.1 22 = 0) (h25 : T.1 25 = nI nl) (e : md_ext h1 g) (hmd : md_at g T) : JI g := by
  have m : g.1 = h.1 := e.1.trans m1
  have o : ∀ j, j < 16 ∨ (19 < j ∧ j < 307) ∨ 361 < j → j ≠ 0 → g.2.2 j = h.2.2 j := fun j hj h0 => (e.2.2 j (by omega)).trans (o1 j h0 (by omega))
  have hs1 : scr h1 := hs.read (Nat.le_of_eq m1.symm) (fun j _ _ h3 => o1 j (by omega) h3) hr
  exact ⟨B, T, D, nl, 0, Ls, f, hx.keep e.1 (e.2.2 0 (by decide)), by omega, (o 13 (by decide) (by decide)).trans h13, hB.keep m (fun j _ _ => o j (by omega) (by omega)), hok, hRB.of l.sb, hs1.same e.1 (fun j _ _ => e.2.2 j (by omega)), hL.keep (Nat.le_of_eq m.symm) (o 14 (by decide) (by decide)) (fun _ _ => rfl) (fun j _ _ _ => o j (by omega) (by omega)), hM.less l h25, hmd, h22, fun q hq => absurd hq (by omega), hK.keep (Nat.le_of_eq m.symm) (Nat.le_refl _) (o 12 (by decide) (by decide)) (fun _ _ => rfl) (fun j _ _ => o j (by omega) (by omega)) (l.2.2.2.1 68 (by omega)) (l.2.2.2.1 70 (by omega))⟩
