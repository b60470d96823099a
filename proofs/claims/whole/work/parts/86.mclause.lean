/-! 86: the model's clauses (walks laid by wip/whole/p86.py) -/
/-- what a clause changes -/
def pfc (r c : Nat) (S T : Md) : Prop := (∀ j, j ≠ 23 → j ≠ 24 → j ≠ 26 → j ≠ 27 → j ≠ 28 → j ≠ 29 → T.1 j = S.1 j) ∧ T.2.1 = S.2.1 ∧ T.2.2.2 = S.2.2.2 ∧ (∀ j, j ≠ 31 → j ≠ 32 → j ≠ 34 → j ≠ 35 → j ≠ 36 → j ≠ 37 → T.2.2.1 j = S.2.2.1 j) ∧ (∀ i, i < 300 * r → T.2.2.1 31 i = S.2.2.1 31 i ∧ T.2.2.1 32 i = S.2.2.1 32 i) ∧ ∀ i, i ≠ 12 * r + c → T.2.2.1 34 i = S.2.2.1 34 i ∧ T.2.2.1 35 i = S.2.2.1 35 i ∧ T.2.2.1 36 i = S.2.2.1 36 i
theorem pfc.rf {r c : Nat} {S : Md} : pfc r c S S := ⟨fun _ _ _ _ _ _ _ => rfl, rfl, rfl, fun _ _ _ _ _ _ _ => rfl, fun _ _ => ⟨rfl, rfl⟩, fun _ _ => ⟨rfl, rfl, rfl⟩⟩
theorem pfc.trans {r c : Nat} {S T V : Md} (a : pfc r c S T) (b : pfc r c T V) : pfc r c S V := ⟨fun j h1 h2 h3 h4 h5 h6 => (b.1 j h1 h2 h3 h4 h5 h6).trans (a.1 j h1 h2 h3 h4 h5 h6), b.2.1.trans a.2.1, b.2.2.1.trans a.2.2.1, fun j h1 h2 h3 h4 h5 h6 => (b.2.2.2.1 j h1 h2 h3 h4 h5 h6).trans (a.2.2.2.1 j h1 h2 h3 h4 h5 h6), fun i hi => ⟨(b.2.2.2.2.1 i hi).1.trans (a.2.2.2.2.1 i hi).1, (b.2.2.2.2.1 i hi).2.trans (a.2.2.2.2.1 i hi).2⟩, fun i hi => ⟨(b.2.2.2.2.2 i hi).1.trans (a.2.2.2.2.2 i hi).1, (b.2.2.2.2.2 i hi).2.1.trans (a.2.2.2.2.2 i hi).2.1, (b.2.2.2.2.2 i hi).2.2.trans (a.2.2.2.2.2 i hi).2.2⟩⟩
theorem pfm.c {r c : Nat} {S T : Md} (a : pfm r S T) : pfc r c S T := ⟨a.1, a.2.1, a.2.2.1, fun j h1 h2 _ _ _ h6 => a.2.2.2.1 j h1 h2 h6, a.2.2.2.2, fun i _ => by rw [a.2.2.2.1 34 (by decide) (by decide) (by decide), a.2.2.2.1 35 (by decide) (by decide) (by decide), a.2.2.2.1 36 (by decide) (by decide) (by decide)]; exact ⟨rfl, rfl, rfl⟩⟩
theorem row_c {r c k : Nat} {v : Int32} {S T : Md} (hk : k = 34 ∨ k = 35 ∨ k = 36) (e : T.2.2.1 k = upd (S.2.2.1 k) (12 * r + c) v) (a : T.1 = S.1) (b : T.2.1 = S.2.1) (b2 : T.2.2.2 = S.2.2.2) (d : ∀ j, j ≠ k → T.2.2.1 j = S.2.2.1 j) : pfc r c S T := by
  refine ⟨fun j _ _ _ _ _ _ => by rw [a], b, b2, fun j h1 h2 h3 h4 h5 h6 => d j (by omega), fun i _ => by rw [d 31 (by omega), d 32 (by omega)]; exact ⟨rfl, rfl⟩, fun i hi => ?_⟩
  rcases hk with rfl | rfl | rfl
  · rw [d 35 (by decide), d 36 (by decide), e]; exact ⟨pk_un hi, rfl, rfl⟩
  · rw [d 34 (by decide), d 36 (by decide), e]; exact ⟨rfl, pk_un hi, rfl⟩
  · rw [d 34 (by decide), d 35 (by decide), e]; exact ⟨rfl, rfl, pk_un hi⟩
theorem tx_m.row {t : Nat → Nat} {n r k : Nat} {S T : Md} (h : tx_m t n r S) (hk : k = 34 ∨ k = 35 ∨ k = 36) (a : T.1 = S.1) (d : ∀ j, j ≠ k → T.2.2.1 j = S.2.2.1 j) : tx_m t n r T := by
  unfold tx_m at h ⊢
  rw [a, d 30 (by omega)]
  exact h
theorem mr.row {t : Nat → Nat} {n r k p pa de : Nat} {E : List Tk} {O : List Nat} {S T : Md} (h : mr t n r E p pa de O S) (hk : k = 34 ∨ k = 35 ∨ k = 36) (a : T.1 = S.1) (d : ∀ j, j ≠ k → T.2.2.1 j = S.2.2.1 j) : mr t n r E p pa de O T := by
  obtain ⟨m0, m1, ⟨m2, m2'⟩, m3, m4, m5, m6⟩ := h
  rw [← a] at m0 m1 m2 m3 m4 m5
  exact ⟨m0, m1, ⟨m2, MT_cong m2' (fun i _ => by rw [d 31 (by omega), d 32 (by omega)]; exact ⟨rfl, rfl⟩)⟩, m3, m4, m5, by rw [d 37 (by omega)]; exact m6⟩
theorem ded.row {x : PS} {S T : Md} (h : ded x S) (a : T.1 = S.1) : ded x T := by
  unfold ded at h ⊢
  rw [a]
  exact h
def cn (y : PS) : Cl := if pZ y = 2 then (pA y ++ py_tk (py_tw 1 (pL y)), pB y) else (pA y, pB y ++ py_tk (py_tw 1 (pL y)))
/-- a clause is at its end -/
def ce (t : Nat → Nat) (n r c : Nat) (x y : PS) (T : Md) : Prop := pF y = 0 ∧ (pZ y = 2 ∨ pZ y = 7 ∨ pZ y = 8) ∧ py_at t n (pP y) y = py_close (tx_k t n (tx_fr t n (pP y))) (tx_fr t n (pP y)) (tx_e t n (tx_fr t n (pP y))) y ∧ pD y = pD x ∧ py_dw 1 (pL y) = [] ∧ (∃ O, mr t n r (pE y ++ py_tk (py_tw 1 (pL y))) (pP y) (pPa y) (pDe y - py_nt (py_tw 1 (pL y))) O T) ∧ T.2.2.1 34 (12 * r + c) = nI (ent (pD x)).length ∧ T.2.2.1 35 (12 * r + c) = nI ((ent (pD x)).length + (cn y).1.length) ∧ T.2.2.1 36 (12 * r + c) = nI ((ent (pD x)).length + (cn y).1.length + (cn y).2.length) ∧ pP x < pP y
theorem lean_step {t : Nat → Nat} {n : Nat} {x : PS} (hz : pZ x = 0) : (tx_k t n (tx_fr t n (pP x)) ≠ 14 → py_at t n (pP x) x = py_fail 0 (tx_fr t n (pP x)) x) ∧ (tx_k t n (tx_fr t n (pP x)) = 14 → (pD x).length = 12 → py_at t n (pP x) x = py_fail 4 (tx_fr t n (pP x)) x) ∧ (tx_k t n (tx_fr t n (pP x)) = 14 → (pD x).length ≠ 12 → ∃ y, py_at t n (pP x) x = y ∧ pF y = 0 ∧ pZ y = 1 ∧ pP y = tx_e t n (tx_fr t n (pP x)) ∧ pPa y = pPa x ∧ pDe y = pDe x ∧ pD y = pD x ∧ pL y = pL x ∧ pE y = pE x) := by
  obtain ⟨st, p, fl, pa, de, br, D, A, B, pl⟩ := x
  have hz' : st = 0 := hz
  subst hz'
  unfold py_at
  generalize tx_k t n (tx_fr t n (pP (0, p, fl, pa, de, br, D, A, B, pl))) = k
  refine ⟨fun h => if_pos h, fun h h2 => (if_neg (fun z => z h)).trans (if_pos h2), fun h h2 => ⟨_, rfl, ?_⟩⟩
  rw [show py_step1 k (tx_v t n (tx_fr t n (pP (0, p, fl, pa, de, br, D, A, B, pl)))) (tx_fr t n (pP (0, p, fl, pa, de, br, D, A, B, pl))) (tx_e t n (tx_fr t n (pP (0, p, fl, pa, de, br, D, A, B, pl)))) (0, p, fl, pa, de, br, D, A, B, pl) = (1, tx_e t n (tx_fr t n p), 0, pa, de, br, D, A, B, pl) from (if_neg (fun z => z h)).trans (if_neg h2)]
  exact ⟨rfl, rfl, rfl, rfl, rfl, rfl, rfl, rfl⟩
theorem if_step {t : Nat → Nat} {n : Nat} {y : PS} (hz : pZ y = 2) (hB : pB y = []) (hk : tx_k t n (tx_fr t n (pP y)) = 15) : ∃ z, py_at t n (pP y) y = z ∧ pF z = 0 ∧ pZ z = 3 ∧ pP z = tx_e t n (tx_fr t n (pP y)) ∧ pPa z = pPa y ∧ pDe z = pDe y - py_nt (py_tw 1 (pL y)) ∧ pD z = pD y ∧ pA z = pA y ++ py_tk (py_tw 1 (pL y)) ∧ pL z = py_dw 1 (pL y) ∧ pE z = pE y ++ py_tk (py_tw 1 (pL y)) := by
  obtain ⟨st, p, fl, pa, de, br, D, A, B, pl⟩ := y
  have hz' : st = 2 := hz
  have hB' : B = [] := hB
  subst hz' hB'
  unfold py_at
  rw [hk]
  refine ⟨_, rfl, ?_⟩
  rw [show py_step1 15 (tx_v t n (tx_fr t n (pP (2, p, fl, pa, de, br, D, A, ([] : List Tk), pl)))) (tx_fr t n (pP (2, p, fl, pa, de, br, D, A, ([] : List Tk), pl))) (tx_e t n (tx_fr t n (pP (2, p, fl, pa, de, br, D, A, ([] : List Tk), pl)))) (2, p, fl, pa, de, br, D, A, [], pl) = (3, tx_e t n (tx_fr t n p), 0, pa, de - py_nt (py_tw 1 pl), br, D, A ++ py_tk (py_tw 1 pl), [], py_dw 1 pl) from rfl]
  refine ⟨rfl, rfl, rfl, rfl, rfl, rfl, rfl, rfl, ?_⟩
  show ent D ++ (A ++ py_tk (py_tw 1 pl)) ++ [] = ent D ++ A ++ [] ++ py_tk (py_tw 1 pl)
  simp
theorem cl_step {t : Nat → Nat} {n : Nat} {y : PS} (hz : (pZ y = 2 ∧ nar t n y ∧ tx_k t n (tx_fr t n (pP y)) ≠ 15) ∨ ((pZ y = 7 ∨ pZ y = 8) ∧ (pZ y = 7 → nar t n y) ∧ tx_k t n (tx_fr t n (pP y)) ≠ 10 ∧ tx_k t n (tx_fr t n (pP y)) ≠ 11 ∧ pBr y = 0)) : py_at t n (pP y) y = py_close (tx_k t n (tx_fr t n (pP y))) (tx_fr t n (pP y)) (tx_e t n (tx_fr t n (pP y))) y := by
  rcases hz with ⟨hz, h1, h2⟩ | ⟨hz, h1, h2, h3, h4⟩
  · obtain ⟨st, p, fl, pa, de, br, D, A, B, pl⟩ := y
    have hz' : st = 2 := hz
    subst hz'
    unfold py_at
    exact (if_neg h1).trans (if_neg h2)
  · rw [fct_step hz rfl h1]
    obtain ⟨st, p, fl, pa, de, br, D, A, B, pl⟩ := y
    exact (if_neg (fun w => w.elim h2 h3)).trans (if_pos h4)
/-- all of a pile of arithmetic -/
theorem pl_all {pl : List Nat} (h : py_dw 5 pl = []) : py_tw 1 pl = py_tw 5 pl ∧ py_dw 1 pl = [] := by
  obtain ⟨p1, p2⟩ := py_two (r := 5) (s := 1) (by decide) pl
  rw [h] at p1 p2
  exact ⟨by rw [p1]; exact List.append_nil _, p2⟩
theorem dX12_takes_0 : decode cX12_takes 0 = .ok (.aload_n 0, 1) := by decide +kernel
theorem dX12_takes_1 : decode cX12_takes 1 = .ok (.invokevirtual 287, 3) := by decide +kernel
theorem dX12_takes_4 : decode cX12_takes 4 = .ok (.aload_n 0, 1) := by decide +kernel
theorem dX12_takes_5 : decode cX12_takes 5 = .ok (.aload_n 1, 1) := by decide +kernel
theorem dX12_takes_6 : decode cX12_takes 6 = .ok (.invokevirtual 290, 3) := by decide +kernel
theorem dX12_takes_9 : decode cX12_takes 9 = .ok (.istore_n 2, 1) := by decide +kernel
theorem dX12_takes_10 : decode cX12_takes 10 = .ok (.aload_n 0, 1) := by decide +kernel
theorem dX12_takes_11 : decode cX12_takes 11 = .ok (.dup, 1) := by decide +kernel
theorem dX12_takes_12 : decode cX12_takes 12 = .ok (.getfield 267, 3) := by decide +kernel
theorem dX12_takes_15 : decode cX12_takes 15 = .ok (.iload_n 2, 1) := by decide +kernel
theorem dX12_takes_16 : decode cX12_takes 16 = .ok (.ifCond .eq 10, 3) := by decide +kernel
theorem dX12_takes_19 : decode cX12_takes 19 = .ok (.aload_n 1, 1) := by decide +kernel
theorem dX12_takes_20 : decode cX12_takes 20 = .ok (.invokevirtual 278, 3) := by decide +kernel
theorem dX12_takes_23 : decode cX12_takes 23 = .ok (.goto 4, 3) := by decide +kernel
theorem dX12_takes_26 : decode cX12_takes 26 = .ok (.iconst 0, 1) := by decide +kernel
theorem dX12_takes_27 : decode cX12_takes 27 = .ok (.iadd, 1) := by decide +kernel
theorem dX12_takes_28 : decode cX12_takes 28 = .ok (.putfield 267, 3) := by decide +kernel
theorem dX12_takes_31 : decode cX12_takes 31 = .ok (.iload_n 2, 1) := by decide +kernel
theorem dX12_takes_32 : decode cX12_takes 32 = .ok (.ireturn, 1) := by decide +kernel
set_option maxRecDepth 100000 in
set_option maxHeartbeats 4000000 in
theorem c_takes {t : Nat → Nat} {n r p pa de : Nat} {E : List Tk} {O : List Nat} {x : PS} {h : ai_H} {S : Md} (hmd : md_at h S) (htx : tx_m t n r S) (hx : pok n x) (hm : mr t n r E p pa de O S) : ai_QM MX12_takes [.ref 307, .retAddr 1] h (fun rv g => md_ext h g ∧ ∃ T, md_at g T ∧ pfm r S T ∧ ((rv = some (.int 1) ∧ tx_k t n (tx_fr t n p) = 15 ∧ tx_e t n (tx_fr t n p) = tx_fr t n p + 2 ∧ mr t n r E (tx_e t n (tx_fr t n p)) pa de O T) ∨ (rv = some (.int 0) ∧ tx_k t n (tx_fr t n p) ≠ 15 ∧ mr t n r E p pa de O T))) := by
  have hn4 := htx.2.1
  refine qm_of (ls := [.ref 307, .retAddr 1, .float 0]) (by decide) (by simp [ai_en, Value.category]) (by rfl) ?_
  refine wq (fun _ _ kk => rs_aload_n (pc := 0) dX12_takes_0 rfl kk) ?_
  obtain ⟨rv_1, hc_1, ⟨rfl, ee_1, T_1, hmd_1, pf_1, hb_1⟩, hm_1⟩ := c_bl (x := x) (E := E) (p := p) (pa := pa) (de := de) (O := O) hmd htx (Or.inr hm)
  refine wq (fun _ _ kk => rs_callV (as := []) (pc := 1) dX12_takes_1 mk_X12_blanks mlX12_287 in_X12_blanks se_X12_blanks rfl (md_lt hmd (by decide)) hmd.2.1 rfl rfl (Nat.le_of_ble_eq_true rfl) (hm_1) kk) ?_
  replace hmd := hmd_1
  replace htx := htx.of pf_1
  obtain ⟨-, hm1, hq, hqn⟩ := hb_1.resolve_left (fun w => absurd hm.1 (w.1.ne hx))
  have E_1 := (md_ext.rf).trans ee_1
  refine wq (fun _ _ kk => rs_aload_n (pc := 4) dX12_takes_4 rfl kk) ?_
  refine wq (fun _ _ kk => rs_aload_nS (pc := 5) dX12_takes_5 rfl kk) ?_
  refine wq (fun _ _ kk => rs_callV (as := [_]) (pc := 6) dX12_takes_6 mk_X12_stands mlX12_290 in_X12_stands se_X12_stands rfl (md_lt hmd (by decide)) hmd.2.1 rfl rfl (Nat.le_of_ble_eq_true rfl) (c_X12_stands (j := 1) (by decide) hmd htx hq (by omega)) kk) ?_
  refine wq (fun _ _ kk => wk_istn2 (pc := 9) dX12_takes_9 (by decide) rfl kk) ?_
  refine wq (fun _ _ kk => rs_aload_n (pc := 10) dX12_takes_10 rfl kk) ?_
  refine wq (fun _ _ kk => rs_dup (pc := 11) dX12_takes_11 rfl kk) ?_
  refine wq (fun _ _ kk => rs_getf (pc := 12) dX12_takes_12 fX12_267 (md_lt hmd (by decide)) hmd.2.1 rfl kk) ?_
  rw [hq]
  refine wq (fun _ _ kk => rs_iload_n (pc := 15) dX12_takes_15 rfl kk) ?_
  refine wq_br (fun _ _ kt kf => rs_if_eq (tgt := 26) (pc := 16) dX12_takes_16 rfl kt kf) (fun c_16 => ?_) (fun c_16 => ?_)
  · have g1 : ¬ tx_ix t (tx_fr t n p) (tx_rn (tx_lt t) n (tx_fr t n p)) = 1 := fun z => absurd c_16 (by rw [if_pos z]; decide)
    refine wq (fun _ _ kk => rs_iconst (v := 0) (pc := 26) dX12_takes_26 rfl kk) ?_
    refine wq (fun _ _ kk => rs_iadd (pc := 27) dX12_takes_27 kk) ?_
    rw [show nI (tx_fr t n p) + 0 = nI (tx_fr t n p) from nI_sub0 _]
    refine wq (fun _ _ kk => rs_putf (pc := 28) dX12_takes_28 fX12_267 (md_lt hmd (by decide)) hmd.2.1 rfl (Nat.le_of_ble_eq_true rfl) kk) ?_
    refine wq_gen (fun h_1 e_1 => ?_)
    obtain ⟨m_1, s_1, g_1, o_1⟩ := ai_e1 e_1
    replace hmd := md_at_si (k := 23) hmd m_1 g_1 o_1 rfl
    have E_1 := (E_1).trans (md_ext_of m_1 s_1 o_1 (by decide))
    obtain ⟨S_28, hmd, k_28, r_28, s_28⟩ := md_new hmd
    have pf2 : pfm r T_1 S_28 := pfm.put (by decide) r_28 s_28
    refine wq (fun _ _ kk => rs_iload_n (pc := 31) dX12_takes_31 rfl kk) ?_
    refine wq_ret ?_ (rs_zret (pc := 32) dX12_takes_32 rfl (by split <;> simp))
    exact ⟨E_1, S_28, hmd, pf_1.trans pf2, Or.inr ⟨by rw [if_neg g1], fun w => g1 (tx_wd_k w (by decide) rfl tx_wk_u.2.2.2.2 (fun c d w2 => (tx_sk_no w2).2.2.2.2.2.2.1 rfl) (by decide)), mv_mr hm1 r_28 s_28 k_28 hqn tx_fr_fr⟩⟩
  · have g1 : tx_ix t (tx_fr t n p) (tx_rn (tx_lt t) n (tx_fr t n p)) = 1 := Classical.byContradiction fun z => c_16 (if_neg z)
    obtain ⟨kk, ke, -⟩ := tx_k_wd (t := t) (by decide) g1
    replace kk : tx_k t n (tx_fr t n p) = 15 := kk
    replace ke : tx_e t n (tx_fr t n p) = (tx_fr t n p) + 2 := ke
    have hke : (tx_fr t n p) + 2 ≤ n := by rw [← ke]; exact tx_e_le (tx_ix_at (by decide) g1).1
    refine wq (fun _ _ kk => rs_aload_nS (pc := 19) dX12_takes_19 rfl kk) ?_
    refine wq (fun _ _ kk => rs_callVS (as := []) (pc := 20) dX12_takes_20 mk_J0_length_8abf5 mlX12_278 in_J0_length_8abf5 se_J0_length_8abf5 rfl (show 1 < 15 by decide) rfl rfl (Nat.le_of_ble_eq_true rfl) (c_length (j := 1) (by decide)) kk) ?_
    refine wq (fun _ _ kk => rs_goto (tgt := 27) (pc := 23) dX12_takes_23 rfl kk) ?_
    refine wq (fun _ _ kk => rs_iadd (pc := 27) dX12_takes_27 kk) ?_
    rw [show nI (tx_fr t n p) + nI (ai_sl.getD 1 0) = nI ((tx_fr t n p) + 2) from nI_add _ 2]
    refine wq (fun _ _ kk => rs_putf (pc := 28) dX12_takes_28 fX12_267 (md_lt hmd (by decide)) hmd.2.1 rfl (Nat.le_of_ble_eq_true rfl) kk) ?_
    refine wq_gen (fun h_2 e_2 => ?_)
    obtain ⟨m_2, s_2, g_2, o_2⟩ := ai_e1 e_2
    replace hmd := md_at_si (k := 23) hmd m_2 g_2 o_2 rfl
    have E_2 := (E_1).trans (md_ext_of m_2 s_2 o_2 (by decide))
    obtain ⟨S_28, hmd, k_28, r_28, s_28⟩ := md_new hmd
    have pf2 : pfm r T_1 S_28 := pfm.put (by decide) r_28 s_28
    refine wq (fun _ _ kk => rs_iload_n (pc := 31) dX12_takes_31 rfl kk) ?_
    refine wq_ret ?_ (rs_zret (pc := 32) dX12_takes_32 rfl (by split <;> simp))
    exact ⟨E_2, S_28, hmd, pf_1.trans pf2, Or.inl ⟨by rw [if_pos g1], kk, ke, mv_mr hm1 r_28 s_28 k_28 hke (by rw [ke])⟩⟩
