/-! 99c: after a law, both (laid by wip/whole/p99c.py) -/
theorem scr.read {h g : ai_H} (hs : scr h) (m : h.1 ≤ g.1) (o : ∀ j, 15 ≤ j → j ≤ 304 → (j < 16 ∨ 19 < j) → g.2.2 j = h.2.2 j) (hr : ∃ T, rd_at 13 g T) : scr g := by
  have hs' : scr (g.1, g.2.1, fun j => if 16 ≤ j ∧ j ≤ 19 then h.2.2 j else g.2.2 j) := hs.up m (fun j h1 h2 => by
    show (if 16 ≤ j ∧ j ≤ 19 then h.2.2 j else g.2.2 j) = h.2.2 j
    by_cases c : 16 ≤ j ∧ j ≤ 19
    · rw [if_pos c]
    · rw [if_neg c]
      exact o j h1 h2 (by omega))
  generalize hk : ((g.1, g.2.1, fun j => if 16 ≤ j ∧ j ≤ 19 then h.2.2 j else g.2.2 j) : ai_H) = k at hs'
  have m2 : g.1 = k.1 := by rw [← hk]
  have o2 : ∀ j, (j < 16 ∨ 19 < j) → g.2.2 j = k.2.2 j := fun j hj => by
    rw [← hk]
    exact (if_neg (by omega)).symm
  obtain ⟨T, hT⟩ := hr
  obtain ⟨⟨f, a1⟩, -, ⟨S3, a3⟩, ⟨S4, a4⟩, ⟨T5, a5⟩, ⟨S6, a6⟩, ⟨S7, a7⟩, ⟨c, S8, t8, a8, a8', a8''⟩, ⟨t9, a9⟩⟩ := hs'
  exact ⟨⟨f, (o2 _ (by decide)).trans a1⟩, ⟨13, T, Or.inr rfl, hT⟩, ⟨S3, sc_keep a3 m2 (fun j _ _ => o2 j (by omega))⟩, ⟨S4, cl_keep a4 m2 (fun j _ _ => o2 j (by omega))⟩, ⟨T5, mt_keep a5 m2 (fun j _ _ => o2 j (by omega))⟩, ⟨S6, rp_keep a6 m2 (fun j _ _ => o2 j (by omega))⟩, ⟨S7, bo_keep a7 m2 (fun j _ _ => o2 j (by omega))⟩, ⟨c, S8, t8, a8, wo_keep a8' m2 (fun j _ _ => o2 j (by omega)), (o2 _ (by decide)).trans a8''⟩, ⟨t9, (o2 _ (by decide)).trans a9⟩⟩
