/-! 96: calls that change the book alone, class and model (laid by wip/whole/p96.py) -/
theorem scr.same {h g : ai_H} (hs : scr h) (m : g.1 = h.1) (o : ∀ j, 15 ≤ j → j ≤ 306 → g.2.2 j = h.2.2 j) : scr g := by
  obtain ⟨⟨f, a1⟩, ⟨t, S2, a2, a2'⟩, ⟨S3, a3⟩, ⟨S4, a4⟩, ⟨T5, a5⟩, ⟨S6, a6⟩, ⟨S7, a7⟩, ⟨c, S8, t8, a8, a8', a8''⟩, ⟨t9, a9⟩⟩ := hs
  exact ⟨⟨f, (o _ (by decide) (by decide)).trans a1⟩, ⟨t, S2, a2, rd_keep a2' m (fun j _ _ => o j (by omega) (by omega))⟩, ⟨S3, sc_keep a3 m (fun j _ _ => o j (by omega) (by omega))⟩, ⟨S4, cl_keep a4 m (fun j _ _ => o j (by omega) (by omega))⟩, ⟨T5, mt_keep a5 m (fun j _ _ => o j (by omega) (by omega))⟩, ⟨S6, rp_keep a6 m (fun j _ _ => o j (by omega) (by omega))⟩, ⟨S7, bo_keep a7 m (fun j _ _ => o j (by omega) (by omega))⟩, ⟨c, S8, t8, a8, wo_keep a8' m (fun j _ _ => o j (by omega) (by omega)), (o _ (by decide) (by decide)).trans a8''⟩, ⟨t9, (o _ (by decide) (by decide)).trans a9⟩⟩
theorem bk_set_at {h : ai_H} {B : Bk} {nl : Nat} (hq : 11 < h.1) (hok : bk_ok B nl) : bk_at (bk_set h 1 B) 1 B := by
  have e : ∀ j, j ≤ 10 → (bk_set h 1 B).2.2 (1 + j) = bk_cell 1 B j := fun j hj => by
    show (if 1 ≤ 1 + j ∧ 1 + j ≤ 1 + 10 then bk_cell 1 B (1 + j - 1) else h.2.2 (1 + j)) = _
    rw [if_pos (by omega), Nat.add_sub_cancel_left]
  have k_o : tb_ok 16 2 (bk_o B).1 32 := by
    have a := hok.2.1.1
    have b := hok.2.1.2.1
    have c : (bk_o B).1.toInt = (nO B : Int) := by rw [a]; exact nI_toInt (by omega)
    refine ⟨by omega, ?_, by decide, by decide, by decide⟩
    show _ ≤ (16 : Int)
    omega
  have k_s : tb_ok 24 3 (bk_s B).1 72 := by
    have a := hok.2.2.1.1
    have b := hok.2.2.1.2.1
    have c : (bk_s B).1.toInt = (nS B : Int) := by rw [a]; exact nI_toInt (by omega)
    refine ⟨by omega, ?_, by decide, by decide, by decide⟩
    show _ ≤ (24 : Int)
    omega
  have k_n : tb_ok 80 2 (bk_n B).1 160 := by
    have a := hok.2.2.2.1.1
    have b := hok.2.2.2.1.2.1
    have c : (bk_n B).1.toInt = (nN B : Int) := by rw [a]; exact nI_toInt (by omega)
    refine ⟨by omega, ?_, by decide, by decide, by decide⟩
    show _ ≤ (80 : Int)
    omega
  have k_r : tb_ok 400 9 (bk_r B).1 3600 := by
    have a := hok.2.2.2.2.1.1
    have b := hok.2.2.2.2.1.2.1
    have c : (bk_r B).1.toInt = (nR B : Int) := by rw [a]; exact nI_toInt (by omega)
    refine ⟨by omega, ?_, by decide, by decide, by decide⟩
    show _ ≤ (400 : Int)
    omega
  have k_j : tb_ok 9 3 (bk_j B).1 27 := by
    have a := hok.2.2.2.2.2.1
    have b := hok.2.2.2.2.2.2.1
    have c : (bk_j B).1.toInt = (nJ B : Int) := by rw [a]; exact nI_toInt (by omega)
    refine ⟨by omega, ?_, by decide, by decide, by decide⟩
    show _ ≤ (9 : Int)
    omega
  exact ⟨hq, e 0 (by decide), ⟨e 1 (by decide), e 2 (by decide), k_o⟩, ⟨e 3 (by decide), e 4 (by decide), k_s⟩, ⟨e 5 (by decide), e 6 (by decide), k_n⟩, ⟨e 7 (by decide), e 8 (by decide), k_r⟩, ⟨e 9 (by decide), e 10 (by decide), k_j⟩⟩
theorem md_keep {h g : ai_H} {S : Md} (a : md_at h S) (m : h.1 ≤ g.1) (o : ∀ j, 307 ≤ j → j ≤ 361 → g.2.2 j = h.2.2 j) (hd : ∀ d q, md_tab[d]? = some q → d ≤ 53) : md_at g S := ⟨by have := a.1; omega, (o _ (by decide) (by decide)).trans a.2.1, fun d q hq => (o _ (by omega) (by have := hd d q hq; omega)).trans (a.2.2 d q hq)⟩
theorem MLS.oth {S T : Md} {nl : Nat} {Ls : Nat → List Cl} (a : MLS S nl Ls) (o : oth S T) : MLS T nl Ls := by
  refine ⟨by rw [o.1 25 (by omega)]; exact a.1, a.2.1, fun r hr => ?_⟩
  obtain ⟨⟨b1, b2⟩, b3⟩ := a.2.2 r hr
  exact ⟨⟨by rw [o.2 33 (by omega)]; exact b1, MC_ofr (fun k hk => o.2 k (by omega)) b2⟩, b3⟩
/-- both after a call that changed the book alone -/
theorem JI_book {h g : ai_H} {B' : Bk} {S T : Md} {D : Nat → Nat} {nl k : Nat} {Ls : Nat → List Cl} {f : Nat → Int32} (hx : x_at h (nI k) (nI nl)) (hk : k ≤ 400) (h13 : h.2.2 13 = .inl (0, 400, .inl f)) (hok' : bk_ok B' nl) (hRB' : RB B' T) (hs : scr h) (hL : LWT h D nl Ls) (hM : MLS S nl Ls) (ho : oth S T) (h22 : S.1 22 = nI k) (htp : tpr k f (S.2.2.1 30)) (hK : MKT h D nl S) (e : md_ext (bk_set h 1 B') g) (hmd : md_at g T) : JI g := by
  have m : g.1 = h.1 := e.1
  have o : ∀ j, j < 307 ∨ 361 < j → ¬ (1 ≤ j ∧ j ≤ 1 + 10) → g.2.2 j = h.2.2 j := fun j hj hn => (e.2.2 j hj).trans (if_neg hn)
  have hq := hx.1
  exact ⟨B', T, D, nl, k, Ls, f, hx.keep m (o 0 (by decide) (by decide)), hk, (o 13 (by decide) (by decide)).trans h13, (bk_set_at (h := h) (by omega) hok').keep e.1 (fun j h1 h2 => e.2.2 j (by omega)), hok', hRB', hs.same m (fun j h1 h2 => o j (by omega) (by omega)), hL.keep (Nat.le_of_eq m.symm) (o 14 (by decide) (by decide)) (fun _ _ => rfl) (fun j h1 _ _ => o j (by omega) (by omega)), hM.oth ho, hmd, by rw [ho.1 22 (by omega)]; exact h22, by rw [ho.2 30 (by omega)]; exact htp, hK.keep (Nat.le_of_eq m.symm) (Nat.le_refl _) (o 12 (by decide) (by decide)) (fun _ _ => rfl) (fun j h1 _ => o j (by omega) (by omega)) (ho.2 68 (by omega)) (ho.2 70 (by omega))⟩
