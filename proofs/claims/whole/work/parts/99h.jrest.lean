/-! 99h: tape, law, marks, both -/
theorem JE_tape {h h1 g : ai_H} {B : Bk} {S T : Md} {D : Nat → Nat} {nl k : Nat} {Ls : Nat → List Cl} {f : Nat → Int32} {P : Value → Prop} {r1 r2 : Option Value} (p : ∃ v, P v ∧ r1 = some v ∧ r2 = some v) (hx : x_at h1 (nI k) (nI nl)) (hk : k ≤ 400) (h13 : h1.2.2 13 = .inl (0, 400, .inl f)) (m1 : h1.1 = h.1) (s1 : h1.2.1 = h.2.1) (o1 : ∀ j, j ≠ 0 → j ≠ 13 → h1.2.2 j = h.2.2 j) (hB : bk_at h 1 B) (hok : bk_ok B nl) (hRB : RB B S) (hs : scr h) (hL : LWT h D nl Ls) (hM : MLS S nl Ls) (hT1 : ∀ j, j ≠ 22 → T.1 j = S.1 j) (hT2 : ∀ j, j ≠ 30 → T.2.2.1 j = S.2.2.1 j) (h22 : T.1 22 = nI k) (htp : tpr k f (T.2.2.1 30)) (hK : MKT h D nl S) (e : md_ext h1 g) (hmd : md_at g T) : JE P h r1 r2 g :=
  ⟨p, JI_tape hx hk h13 m1 o1 hB hok hRB hs hL hM hT1 hT2 h22 htp hK e hmd, by have := e.1; omega, by have := e.2.1; omega⟩
theorem js_feed (a b c d e : Int32) : JS MX11_feed MX12_feed [.int a, .int b, .int c, .int d, .int e] isI := by
  refine JS_of (fun h J => ?_)
  obtain ⟨B, S, D, nl, k, Ls, f, hx, hk, h13, hB, hok, hRB, hs, hL, hM, hmd, h22, htp, hK⟩ := J
  have hc := c_X11_feed hk hx.1 hx.2 h13 a b c d e
  by_cases c2 : k + 20 ≤ 400
  · simp only [if_pos c2] at hc
    refine qm_mono (fun r1 h1 q => ?_) (qm_met hc)
    obtain ⟨rfl, rfl⟩ := q
    have o1 : ∀ j, j ≠ 0 → j ≠ 13 → (ai_set (ai_set h 0 (x_cell (nI (k + 20)) (nI nl))) 13 (.inl (0, 400, .inl (tp_put5 f k a b c d e)))).2.2 j = h.2.2 j := fun j z0 z13 => (if_neg z13).trans (if_neg z0)
    have hmd1 := md_keep (g := ai_set (ai_set h 0 (x_cell (nI (k + 20)) (nI nl))) 13 (.inl (0, 400, .inl (tp_put5 f k a b c d e)))) hmd (Nat.le_refl _) (fun j h1 _ => o1 j (by omega) (by omega)) md_tab_le
    refine ⟨⟨S, hmd1⟩, qm_mono (fun r2 h2 q => ?_) (c_X12_feed hk hmd1 h22 a b c d e)⟩
    obtain ⟨e', T, hT, ⟨-, rfl, t1, t22, -, -, t2, t30⟩ | ⟨no, -⟩⟩ := q
    · exact JE_tape (h := h) (h1 := ai_set (ai_set h 0 (x_cell (nI (k + 20)) (nI nl))) 13 (.inl (0, 400, .inl (tp_put5 f k a b c d e)))) ⟨_, ⟨_, rfl⟩, rfl, rfl⟩ ⟨hx.1, rfl⟩ c2 rfl rfl rfl o1 hB hok hRB hs hL hM t1 t2 t22 (by rw [t30]; exact tpr_20 htp a b c d e) hK e' hT
    · exact absurd c2 no
  · simp only [if_neg c2] at hc
    refine qm_mono (fun r1 h1 q => ?_) (qm_met hc)
    obtain ⟨rfl, rfl⟩ := q
    have o1 : ∀ j, j ≠ 0 → j ≠ 13 → (ai_set (ai_set h 0 (x_cell (nI k) (nI nl))) 13 (.inl (0, 400, .inl f))).2.2 j = h.2.2 j := fun j z0 z13 => (if_neg z13).trans (if_neg z0)
    have hmd1 := md_keep (g := ai_set (ai_set h 0 (x_cell (nI k) (nI nl))) 13 (.inl (0, 400, .inl f))) hmd (Nat.le_refl _) (fun j h1 _ => o1 j (by omega) (by omega)) md_tab_le
    refine ⟨⟨S, hmd1⟩, qm_mono (fun r2 h2 q => ?_) (c_X12_feed hk hmd1 h22 a b c d e)⟩
    obtain ⟨e', T, hT, ⟨yes, -⟩ | ⟨-, rfl, rfl⟩⟩ := q
    · exact absurd yes c2
    · exact JE_tape (h := h) (h1 := ai_set (ai_set h 0 (x_cell (nI k) (nI nl))) 13 (.inl (0, 400, .inl f))) ⟨_, ⟨_, rfl⟩, rfl, rfl⟩ ⟨hx.1, rfl⟩ hk rfl rfl rfl o1 hB hok hRB hs hL hM (fun _ _ => rfl) (fun _ _ => rfl) h22 htp hK e' hT
theorem js_end (n : Int32) : JS MX11_end MX12_end [.int n] isI := by
  refine JS_of (fun h J => ?_)
  obtain ⟨B, S, D, nl, k, Ls, f, hx, hk, h13, hB, hok, hRB, hs, hL, hM, hmd, h22, htp, hK⟩ := J
  obtain ⟨a1, alt⟩ := al_end h22 hk n
  obtain ⟨m, hm, em, t22, t1, t2⟩ : ∃ m, m ≤ k ∧ xs_endT (nI k) n = nI m ∧ (ms_endS S n).1 22 = nI m ∧ (∀ j, j ≠ 22 → (ms_endS S n).1 j = S.1 j) ∧ (ms_endS S n).2.2.1 = S.2.2.1 := by
    rcases alt with ⟨e1, e2⟩ | ⟨m, hm, rfl, e1, e2⟩
    · exact ⟨k, Nat.le_refl _, e2, by rw [e1]; exact h22, fun j _ => by rw [e1], by rw [e1]⟩
    · exact ⟨m, hm, e2, by rw [e1]; rfl, fun j hj => by rw [e1]; exact if_neg hj, by rw [e1]; rfl⟩
  have hc := c_X11_end hx n
  rw [em] at hc
  refine qm_mono (fun r1 h1 q => ?_) (qm_met hc)
  obtain ⟨rfl, rfl⟩ := q
  have o1 : ∀ j, j ≠ 0 → (ai_set h 0 (.inr (11, [.ref 1, .ref 12, .ref 13, .int (nI m), .ref 14, .int (nI nl), .ref 15, .ref 16, .ref 20, .ref 22, .ref 35, .ref 294, .ref 298, .ref 301, .ref 306]))).2.2 j = h.2.2 j := fun j z0 => if_neg z0
  have hmd1 := md_keep (g := ai_set h 0 (.inr (11, [.ref 1, .ref 12, .ref 13, .int (nI m), .ref 14, .int (nI nl), .ref 15, .ref 16, .ref 20, .ref 22, .ref 35, .ref 294, .ref 298, .ref 301, .ref 306]))) hmd (Nat.le_refl _) (fun j h1 _ => o1 j (by omega)) md_tab_le
  refine ⟨⟨S, hmd1⟩, qm_mono (fun r2 h2 q => ?_) (c_X12_end hmd1 n)⟩
  obtain ⟨rfl, e, hmd2⟩ := q
  exact JE_tape (h := h) (h1 := ai_set h 0 (.inr (11, [.ref 1, .ref 12, .ref 13, .int (nI m), .ref 14, .int (nI nl), .ref 15, .ref 16, .ref 20, .ref 22, .ref 35, .ref 294, .ref 298, .ref 301, .ref 306]))) ⟨_, ⟨_, rfl⟩, rfl, by rw [a1]⟩ ⟨hx.1, rfl⟩ (by omega) ((o1 13 (by decide)).trans h13) rfl rfl (fun j z0 _ => o1 j z0) hB hok hRB hs hL hM t1 (fun j _ => by rw [t2]) t22 (fun q hq => by rw [t2]; exact htp q (by omega)) hK e hmd2
theorem js_law : JS MX11_law MX12_law [] isI := by
  refine JS_of (fun h J => ?_)
  have J0 := J
  obtain ⟨B, S, D, nl, k, Ls, f, hx, hk, h13, hB, hok, hRB, hs, hL, hM, hmd, h22, htp, hK⟩ := J
  obtain ⟨t, ht⟩ := tpr_t htp
  obtain ⟨tc, Sr, -, hrd⟩ := hs.2.1
  have hx1 := hx.1
  have hm1 := hmd.1
  have htx : rd_tx t k h := ⟨hk, by omega, f, h13, fun q hq => ⟨(ht q hq).2.1, (ht q hq).1⟩⟩
  obtain ⟨L, hL14, -⟩ := hL.2
  have hm : ∀ h1, md_at h1 S → _ := fun h1 a => c_X12_law (t := t) a h22 hk hM.1 hM.2.1 (fun q hq => ⟨(ht q hq).1, (ht q hq).2.2⟩)
  refine qm_mono (fun r1 h1 q => ?_) (c_X11_law hx hL.1 hrd htx hL14)
  rcases q with ⟨hn, rfl, rfl⟩ | ⟨hn, y, y1, y2, y3, y4, hT, ⟨f0, rfl, hx2, m1, s1, o1⟩ | ⟨f0, rfl, hx2, m1, s1, o1, h14, hq, f2, hp, hf⟩⟩
  · refine ⟨⟨S, hmd⟩, qm_mono (fun r2 h2 q => ?_) (hm _ hmd)⟩
    rcases q with ⟨-, rfl, rfl⟩ | ⟨hn', -⟩
    · exact ⟨⟨_, ⟨_, rfl⟩, rfl, rfl⟩, J0, by omega, by omega⟩
    · exact absurd hn (by omega)
  · have hmd1 : md_at h1 S := md_keep hmd (Nat.le_of_eq m1.symm) (fun j a _ => o1 j (by omega) (by omega)) md_tab_le
    refine ⟨⟨S, hmd1⟩, qm_mono (fun r2 h2 q => ?_) (hm _ hmd1)⟩
    rcases q with ⟨hn', -⟩ | ⟨-, e, T, y', hT', z1, z2, z3, l, t22, alt⟩
    · exact absurd hn' (by omega)
    · have ey := y1.uniq z1 y2 z2
      subst ey
      rcases alt with ⟨-, rfl, t25⟩ | ⟨f0', -⟩
      · exact ⟨⟨_, ⟨_, rfl⟩, rfl, rfl⟩, JI_law0 h13 hB hok hRB hs hL hM hK hx2 m1 o1 hT l t22 t25 e hT', by have := e.1; omega, by have := e.2.1; omega⟩
      · exact absurd f0' f0
  · have hmd1 : md_at h1 S := md_keep hmd (by omega) (fun j a b => o1 j (by omega) (by omega) (by omega) (by omega)) md_tab_le
    refine ⟨⟨S, hmd1⟩, qm_mono (fun r2 h2 q => ?_) (hm _ hmd1)⟩
    rcases q with ⟨hn', -⟩ | ⟨-, e, T, y', hT', z1, z2, z3, l, t22, alt⟩
    · exact absurd hn' (by omega)
    · have ey := y1.uniq z1 y2 z2
      subst ey
      rcases alt with ⟨f0', -⟩ | ⟨-, rfl, t25, hML⟩
      · exact absurd f0 f0'
      · have h9 : pZ y = 9 := by
          rcases y2 with z | z
          · exact absurd f0 z
          · exact z
        exact ⟨⟨_, ⟨_, rfl⟩, rfl, rfl⟩, JI_law1 h13 hB hok hRB hs hL hM hK hL14 hn (by omega) hx2 m1 o1 h14 hq hp hf (lw_ok hk z3 f0 h9) hT l t22 t25 hML e hT', by have := e.1; omega, by have := e.2.1; omega⟩
theorem bi_in_3 {r : Nat} (h : r ≤ 3) : ¬ bi_in (nI r) 0 3 = 0 := by
  have z := bi_in_le (m := 3) h (by decide)
  intro y
  exact absurd (z.symm.trans y) (by decide)
theorem js_mark (k : Int32) : JS MX11_mark MX12_mark [.int k] isI := by
  refine JS_of (fun h J => ?_)
  obtain ⟨B, S, D, nl, kk, Ls, f, hx, hk, h13, hB, hok, hRB, hs, hL, hM, hmd, h22, htp, hK⟩ := J
  have hK0 := hK
  obtain ⟨K, hK12, hKr⟩ := hK
  have hm1 := hmd.1
  rcases bi_in_b k 0 3 with c | c
  · refine qm_mono (fun r1 h1 q => ?_) (c_X11_mark_f hx hB hK12 c)
    obtain ⟨rfl, rfl⟩ := q
    refine ⟨⟨S, hmd⟩, qm_mono (fun r2 h2 q => ?_) (c_X12_mark hmd k)⟩
    obtain ⟨e, ⟨-, rfl, V, hV, hq⟩ | ⟨r, hr, rfl, -⟩⟩ := q
    · exact JE_quest ⟨_, ⟨_, rfl⟩, rfl, rfl⟩ hx hk h13 hB hok hRB hL hM h22 htp hK0 hq ⟨rfl, rfl, fun _ _ => rfl⟩ hs e hV
    · exact absurd c (bi_in_3 hr)
  · obtain ⟨r, hr, rfl⟩ := bi_in_ex (x := k) (L := 3) (by decide) (fun z => absurd (c.symm.trans z) (by decide))
    rcases hKr r hr with ⟨kn, z0⟩ | ⟨q, C, b1, b2, b3, b4, b5, b6, b7⟩
    · refine qm_mono (fun r1 h1 q => ?_) (c_X11_mark_n hx hB hK12 hr kn c)
      obtain ⟨rfl, m1, s1, h12, o1, X, hX, cX⟩ := q
      have hmd1 : md_at h1 S := md_keep hmd (by omega) (fun j a b => o1 j (by omega) (by omega)) md_tab_le
      refine ⟨⟨S, hmd1⟩, qm_mono (fun r2 h2 q => ?_) (c_X12_mark hmd1 (nI r))⟩
      obtain ⟨e, ⟨c0, -⟩ | ⟨r', hr', er, rfl, W, hW, hmk⟩⟩ := q
      · exact absurd c0 (bi_in_3 hr)
      · have e1 := nI_inj (by omega) (by omega) er
        subst e1
        refine ⟨⟨_, ⟨_, rfl⟩, rfl, by rw [hRB.1.1]⟩, JI_mark (E := fun j => if h.1 ≤ j then r + 2 else D j) hx hk h13 hB hok hRB hs hL hM h22 htp hKr hr (by omega) (by omega) (fun j a b _ => o1 j a b) h12 (if_pos rfl) (fun r' hne => if_neg hne) (fun j hj => if_neg (by omega)) (fun j hj _ => if_pos hj) hX cX e hW hmk, by have := e.1; omega, by have := e.2.1; omega⟩
    · have hb : q + 10 < h.1 := b3.1
      refine qm_mono (fun r1 h1 q => ?_) (c_X11_mark_s hx hB hK12 hr b1 b3 b2 c)
      obtain ⟨rfl, m1, s1, o1, X, hX, cX⟩ := q
      have hmd1 : md_at h1 S := md_keep hmd (by omega) (fun j a b => o1 j (by omega)) md_tab_le
      refine ⟨⟨S, hmd1⟩, qm_mono (fun r2 h2 q => ?_) (c_X12_mark hmd1 (nI r))⟩
      obtain ⟨e, ⟨c0, -⟩ | ⟨r', hr', er, rfl, W, hW, hmk⟩⟩ := q
      · exact absurd c0 (bi_in_3 hr)
      · have e1 := nI_inj (by omega) (by omega) er
        subst e1
        refine ⟨⟨_, ⟨_, rfl⟩, rfl, by rw [hRB.1.1]⟩, JI_mark (E := D) hx hk h13 hB hok hRB hs hL hM h22 htp hKr hr b2 (by omega) (fun j _ _ a => o1 j a) ((o1 12 (by omega)).trans hK12) b1 (fun _ _ => rfl) (fun _ _ => rfl) b7 hX cX e hW hmk, by have := e.1; omega, by have := e.2.1; omega⟩
theorem js_back (k : Int32) : JS MX11_back MX12_back [.int k] isI := by
  refine JS_of (fun h J => ?_)
  obtain ⟨B, S, D, nl, kk, Ls, f, hx, hk, h13, hB, hok, hRB, hs, hL, hM, hmd, h22, htp, hK⟩ := J
  have hK0 := hK
  obtain ⟨K, hK12, hKr⟩ := hK
  have hm1 := hmd.1
  rcases bi_in_b k 0 3 with c | c
  · refine qm_mono (fun r1 h1 q => ?_) (c_X11_back_f hx hB hK12 c)
    obtain ⟨rfl, rfl⟩ := q
    refine ⟨⟨S, hmd⟩, qm_mono (fun r2 h2 q => ?_) (c_X12_back hmd k)⟩
    obtain ⟨e, ⟨-, rfl, V, hV, hq⟩ | ⟨r, hr, rfl, -⟩⟩ := q
    · exact JE_quest ⟨_, ⟨_, rfl⟩, rfl, rfl⟩ hx hk h13 hB hok hRB hL hM h22 htp hK0 hq ⟨rfl, rfl, fun _ _ => rfl⟩ hs e hV
    · exact absurd c (bi_in_3 hr)
  · obtain ⟨r, hr, rfl⟩ := bi_in_ex (x := k) (L := 3) (by decide) (fun z => absurd (c.symm.trans z) (by decide))
    rcases hKr r hr with ⟨kn, z0⟩ | ⟨q, C, b1, b2, b3, b4, b5, b6, b7⟩
    · refine qm_mono (fun r1 h1 q => ?_) (c_X11_back_n hx hB hK12 hr kn c)
      obtain ⟨rfl, rfl⟩ := q
      refine ⟨⟨S, hmd⟩, qm_mono (fun r2 h2 q => ?_) (c_X12_back hmd (nI r))⟩
      obtain ⟨e, ⟨-, rfl, V, hV, hq⟩ | ⟨r', hr', er, -, n0, -⟩⟩ := q
      · exact JE_quest ⟨_, ⟨_, rfl⟩, rfl, rfl⟩ hx hk h13 hB hok hRB hL hM h22 htp hK0 hq ⟨rfl, rfl, fun _ _ => rfl⟩ hs e hV
      · have e1 := nI_inj (by omega) (by omega) er
        subst e1
        exact absurd z0 n0
    · have hb : q + 10 < h.1 := b3.1
      refine qm_mono (fun r1 h1 q => ?_) (c_X11_back_s hx hB hK12 hr b1 b3 b2 c)
      obtain ⟨rfl, m1, s1, o1, X, hX, cX⟩ := q
      have hmd1 : md_at h1 S := md_keep hmd (by omega) (fun j a b => o1 j (by omega)) md_tab_le
      refine ⟨⟨S, hmd1⟩, qm_mono (fun r2 h2 q => ?_) (c_X12_back hmd1 (nI r))⟩
      obtain ⟨e, ⟨c0, -⟩ | ⟨r', hr', er, rfl, -, W, hW, hbk⟩⟩ := q
      · rw [nI_clamp (by omega)] at c0
        rcases c0 with z | z
        · exact absurd z (bi_in_3 hr)
        · exact absurd z b6
      · have e1 := nI_inj (by omega) (by omega) er
        subst e1
        exact ⟨⟨_, ⟨_, rfl⟩, rfl, by rw [b5.1.1]⟩, JI_back (B := B) hx hk h13 hs hL hM h22 htp hK0 m1 o1 b3 b4 b5 hX cX e hW hbk, by have := e.1; omega, by have := e.2.1; omega⟩
