/-! 97: cells added, questions (laid by wip/whole/p97.py) -/
theorem mo_up {b c n : Nat} {fs : Md → List Value} {tab : List (Nat × Nat × Nat)} {h g : ai_H} {S : Md} (a : mo_at b c n fs tab h S) (m : h.1 ≤ g.1) (e : g.2.2 = h.2.2) : mo_at b c n fs tab g S := by
  unfold mo_at at a ⊢
  rw [e]
  exact ⟨Nat.lt_of_lt_of_le a.1 m, a.2⟩
theorem mt_up {h g : ai_H} {T : Nat → Ty} (a : mt_at h T) (m : h.1 ≤ g.1) (e : g.2.2 = h.2.2) : mt_at g T := by
  unfold mt_at at a ⊢
  rw [e]
  exact ⟨Nat.lt_of_lt_of_le a.1 m, a.2⟩
theorem scr.up {h g : ai_H} (hs : scr h) (m : h.1 ≤ g.1) (o : ∀ j, 15 ≤ j → j ≤ 306 → g.2.2 j = h.2.2 j) : scr g := by
  have hs' : scr (h.1, h.2.1, g.2.2) := hs.same rfl o
  have e : g.2.2 = ((h.1, h.2.1, g.2.2) : ai_H).2.2 := rfl
  have m' : ((h.1, h.2.1, g.2.2) : ai_H).1 ≤ g.1 := m
  obtain ⟨⟨f, a1⟩, ⟨t, S2, a2, a2'⟩, ⟨S3, a3⟩, ⟨S4, a4⟩, ⟨T5, a5⟩, ⟨S6, a6⟩, ⟨S7, a7⟩, ⟨c, S8, t8, a8, a8', a8''⟩, ⟨t9, a9⟩⟩ := hs'
  exact ⟨⟨f, a1⟩, ⟨t, S2, a2, mo_up a2' m' e⟩, ⟨S3, mo_up a3 m' e⟩, ⟨S4, mo_up a4 m' e⟩, ⟨T5, mt_up a5 m' e⟩, ⟨S6, mo_up a6 m' e⟩, ⟨S7, mo_up a7 m' e⟩, ⟨c, S8, t8, a8, mo_up a8' m' e, a8''⟩, ⟨t9, a9⟩⟩
/-- both after a question: cells 15 to 306 and the model's scratch may have changed -/
theorem JI_quest {h h1 g : ai_H} {B : Bk} {S T : Md} {D : Nat → Nat} {nl k : Nat} {Ls : Nat → List Cl} {f : Nat → Int32} (hx : x_at h (nI k) (nI nl)) (hk : k ≤ 400) (h13 : h.2.2 13 = .inl (0, 400, .inl f)) (hB : bk_at h 1 B) (hok : bk_ok B nl) (hRB : RB B S) (hL : LWT h D nl Ls) (hM : MLS S nl Ls) (ho : oth S T) (hsb : sb S T) (h22 : S.1 22 = nI k) (htp : tpr k f (S.2.2.1 30)) (hK : MKT h D nl S) (e1 : fr 15 306 h h1) (hs : scr h1) (e : md_ext h1 g) (hmd : md_at g T) : JI g := by
  have m : g.1 = h.1 := e.1.trans e1.1
  have o : ∀ j, j < 15 ∨ 361 < j → g.2.2 j = h.2.2 j := fun j hj => (e.2.2 j (by omega)).trans (e1.2.2 j (by omega))
  exact ⟨B, T, D, nl, k, Ls, f, hx.keep m (o 0 (by decide)), hk, (o 13 (by decide)).trans h13, hB.keep m (fun j _ _ => o j (by omega)), hok, hRB.of hsb, hs.same e.1 (fun j _ _ => e.2.2 j (by omega)), hL.keep (Nat.le_of_eq m.symm) (o 14 (by decide)) (fun _ _ => rfl) (fun j _ _ _ => o j (by omega)), hM.oth ho, hmd, by rw [ho.1 22 (by omega)]; exact h22, by rw [ho.2 30 (by omega)]; exact htp, hK.keep (Nat.le_of_eq m.symm) (Nat.le_refl _) (o 12 (by decide)) (fun _ _ => rfl) (fun j _ _ => o j (by omega)) (ho.2 68 (by omega)) (ho.2 70 (by omega))⟩
theorem mq.oth {S V : Md} (a : mq S V) : oth S V := ⟨fun j hj => a.1 j (by omega), fun j hj => a.2 j (by omega)⟩
theorem gvq.oth {S V : Md} (a : gvq S V) : oth S V := ⟨fun j _ => by rw [a.1], fun j _ => by rw [a.2.2.1]⟩
