/-! 83: the model's facts (walks laid by wip/whole/p83.py) -/
/-- y wants a fact behind x -/
def wt (x y : PS) : Prop := pF y = 0 ∧ pZ y = 3 ∧ pD y = pD x ∧ pA y = pA x ∧ pP x < pP y
theorem opn_step {t : Nat → Nat} {n k : Nat} {x : PS} (hz : pZ x = 3) (hk : tx_k t n (tx_fr t n (pP x)) = k) (hk2 : k = 9 ∨ k = 12) : (pDe x = 10 → py_at t n (pP x) x = py_fail 2 (tx_fr t n (pP x)) x) ∧ (pDe x ≠ 10 → ∃ y, py_at t n (pP x) x = y ∧ pF y = 0 ∧ pZ y = 3 ∧ pP y = tx_e t n (tx_fr t n (pP x)) ∧ pPa y = pPa x ∧ pDe y = pDe x + 1 ∧ pD y = pD x ∧ pA y = pA x ∧ pL y = k :: pL x ∧ pE y = pE x) := by
  obtain ⟨st, p, fl, pa, de, br, D, A, B, pl⟩ := x
  have hz' : st = 3 := hz
  subst hz'
  unfold py_at
  rw [hk]
  refine ⟨fun h => ?_, fun h => ?_⟩
  · exact (if_neg (show ¬ (k ≠ 9 ∧ k ≠ 12) by omega)).trans (if_pos h)
  · refine ⟨_, rfl, ?_⟩
    rw [show py_step1 k (tx_v t n (tx_fr t n (pP (3, p, fl, pa, de, br, D, A, B, pl)))) (tx_fr t n (pP (3, p, fl, pa, de, br, D, A, B, pl))) (tx_e t n (tx_fr t n (pP (3, p, fl, pa, de, br, D, A, B, pl)))) (3, p, fl, pa, de, br, D, A, B, pl) = (3, tx_e t n (tx_fr t n p), 0, pa, de + 1, (if k = 12 then br + 1 else br), D, A, B, k :: pl) from (if_neg (show ¬ (k ≠ 9 ∧ k ≠ 12) by omega)).trans (if_neg h)]
    exact ⟨rfl, rfl, rfl, rfl, rfl, rfl, rfl, rfl, rfl⟩
theorem py_lo4 {n : Nat} {x : PS} (hx : pok n x) (h0 : pF x = 0) (h3 : pZ x = 3) : py_lo 4 (pL x) := by
  obtain ⟨-, -, -, ⟨t0, t1, t2, t3, t4, -⟩, -⟩ := hx.1 h0
  have u1 := (t4 h3).1
  show py_lo 4 x.2.2.2.2.2.2.2.2.2
  revert u1
  cases x.2.2.2.2.2.2.2.2.2 with
  | nil => intro _; trivial
  | cons y l =>
    intro u1
    show py_rk y < 4
    rw [py_okt] at u1
    by_cases z1 : ar y = true
    · rw [if_pos z1] at u1; cases u1.1
    · rw [if_neg z1] at u1
      by_cases z2 : cm y = true
      · rw [if_pos z2] at u1; cases u1.1
      · rw [if_neg z2] at u1; have := py_rk_lo u1.1; omega
theorem tx_wk_u : (∀ i, i < 15 → tx_wk i = 9 → i = 4) ∧ (∀ i, i < 15 → tx_wk i = 10 → i = 3) ∧ (∀ i, i < 15 → tx_wk i = 11 → i = 2) ∧ (∀ i, i < 15 → tx_wk i = 14 → i = 0) ∧ (∀ i, i < 15 → tx_wk i = 15 → i = 1) := by decide
/-- after a sign is opened -/
theorem op_mr {t : Nat → Nat} {n r p q pa de de' : Nat} {E : List Tk} {O O' : List Nat} {S T T' : Md} {p' : Nat} (hm : mr t n r E p pa de O S) (e26 : T.1 26 = S.1 26) (e28 : T.1 28 = S.1 28) (e31 : T.2.2.1 31 = S.2.2.1 31) (e32 : T.2.2.1 32 = S.2.2.1 32) (e29 : T.1 29 = nI O'.length) (e37 : mo_on O' (T.2.2.1 37)) (e24 : T.1 24 = 0) (e27 : T.1 27 = nI de') (r' : ∀ j, j ≠ 23 → T'.1 j = T.1 j) (s' : T'.2 = T.2) (hq : T'.1 23 = nI q) (hqn : q ≤ n) (hf : tx_fr t n q = tx_fr t n p') : mr t n r E p' pa de' O' T' := by
  obtain ⟨m0, m1, ⟨m2, m2'⟩, m3, m4, m5, m6⟩ := hm
  exact ⟨(r' 24 (by decide)).trans e24, ⟨q, hq, hqn, hf⟩, ⟨(r' 26 (by decide)).trans (e26.trans m2), MT_cong m2' (fun k _ => by rw [s', e31, e32]; exact ⟨rfl, rfl⟩)⟩, (r' 27 (by decide)).trans e27, (r' 28 (by decide)).trans (e28.trans m4), (r' 29 (by decide)).trans e29, by rw [s']; exact e37⟩
theorem dX12_fact_0 : decode cX12_fact 0 = .ok (.aload_n 0, 1) := by decide +kernel
theorem dX12_fact_1 : decode cX12_fact 1 = .ok (.invokevirtual 287, 3) := by decide +kernel
theorem dX12_fact_4 : decode cX12_fact 4 = .ok (.aload_n 0, 1) := by decide +kernel
theorem dX12_fact_5 : decode cX12_fact 5 = .ok (.ldc_w 343, 3) := by decide +kernel
theorem dX12_fact_8 : decode cX12_fact 8 = .ok (.invokevirtual 290, 3) := by decide +kernel
theorem dX12_fact_11 : decode cX12_fact 11 = .ok (.ifCond .eq 21, 3) := by decide +kernel
theorem dX12_fact_14 : decode cX12_fact 14 = .ok (.aload_n 0, 1) := by decide +kernel
theorem dX12_fact_15 : decode cX12_fact 15 = .ok (.bipush 9, 2) := by decide +kernel
theorem dX12_fact_17 : decode cX12_fact 17 = .ok (.invokevirtual 345, 3) := by decide +kernel
theorem dX12_fact_20 : decode cX12_fact 20 = .ok (.aload_n 0, 1) := by decide +kernel
theorem dX12_fact_21 : decode cX12_fact 21 = .ok (.dup, 1) := by decide +kernel
theorem dX12_fact_22 : decode cX12_fact 22 = .ok (.getfield 267, 3) := by decide +kernel
theorem dX12_fact_25 : decode cX12_fact 25 = .ok (.iconst 3, 1) := by decide +kernel
theorem dX12_fact_26 : decode cX12_fact 26 = .ok (.iadd, 1) := by decide +kernel
theorem dX12_fact_27 : decode cX12_fact 27 = .ok (.putfield 267, 3) := by decide +kernel
theorem dX12_fact_30 : decode cX12_fact 30 = .ok (.iconst 0, 1) := by decide +kernel
theorem dX12_fact_31 : decode cX12_fact 31 = .ok (.ireturn, 1) := by decide +kernel
theorem dX12_fact_32 : decode cX12_fact 32 = .ok (.aload_n 0, 1) := by decide +kernel
theorem dX12_fact_33 : decode cX12_fact 33 = .ok (.invokevirtual 270, 3) := by decide +kernel
theorem dX12_fact_36 : decode cX12_fact 36 = .ok (.bipush 91, 2) := by decide +kernel
theorem dX12_fact_38 : decode cX12_fact 38 = .ok (.if_icmp .ne 21, 3) := by decide +kernel
theorem dX12_fact_41 : decode cX12_fact 41 = .ok (.aload_n 0, 1) := by decide +kernel
theorem dX12_fact_42 : decode cX12_fact 42 = .ok (.bipush 12, 2) := by decide +kernel
theorem dX12_fact_44 : decode cX12_fact 44 = .ok (.invokevirtual 345, 3) := by decide +kernel
theorem dX12_fact_47 : decode cX12_fact 47 = .ok (.aload_n 0, 1) := by decide +kernel
theorem dX12_fact_48 : decode cX12_fact 48 = .ok (.dup, 1) := by decide +kernel
theorem dX12_fact_49 : decode cX12_fact 49 = .ok (.getfield 267, 3) := by decide +kernel
theorem dX12_fact_52 : decode cX12_fact 52 = .ok (.iconst 1, 1) := by decide +kernel
theorem dX12_fact_53 : decode cX12_fact 53 = .ok (.iadd, 1) := by decide +kernel
theorem dX12_fact_54 : decode cX12_fact 54 = .ok (.putfield 267, 3) := by decide +kernel
theorem dX12_fact_57 : decode cX12_fact 57 = .ok (.iconst 0, 1) := by decide +kernel
theorem dX12_fact_58 : decode cX12_fact 58 = .ok (.ireturn, 1) := by decide +kernel
theorem dX12_fact_59 : decode cX12_fact 59 = .ok (.aload_n 0, 1) := by decide +kernel
theorem dX12_fact_60 : decode cX12_fact 60 = .ok (.invokevirtual 348, 3) := by decide +kernel
theorem dX12_fact_63 : decode cX12_fact 63 = .ok (.iconst 1, 1) := by decide +kernel
theorem dX12_fact_64 : decode cX12_fact 64 = .ok (.ireturn, 1) := by decide +kernel
set_option maxRecDepth 100000 in
set_option maxHeartbeats 4000000 in
theorem c_fact {t : Nat → Nat} {n r : Nat} {O : List Nat} {x : PS} {h : ai_H} {S : Md} (hmd : md_at h S) (htx : tx_m t n r S) (hx : pok n x) (h0 : pF x = 0) (h3 : pZ x = 3) (hm : mr t n r (pE x) (pP x) (pPa x) (pDe x) (pL x) S) : ai_QM MX12_fact [.ref 307] h (fun rv g' => md_ext h g' ∧ ∃ T y, md_at g' T ∧ pfm r S T ∧ py_rch t n x y ∧ ((rv = some (.int 0) ∧ (ded y T ∨ (wt x y ∧ mr t n r (pE y) (pP y) (pPa y) (pDe y) (pL y) T))) ∨ (rv = some (.int 1) ∧ (ded y T ∨ (cl2 x y ∧ py_dw 4 (pL y) = pL x ∧ mr t n r (pE y ++ py_tk (py_tw 4 (pL y))) (pP y) (pPa y) (pDe y) (pL x) T ∧ nar t n y))))) := by
  obtain ⟨x22, hn4, x25, hr9, xt⟩ := id htx
  have hI := hx.1 h0
  have hro := rd_room hn4 hI
  have hO : (pL x).length ≤ 400 := Nat.le_trans hro.1 (by decide)
  have hde : pDe x ≤ 100 := Nat.le_trans hro.2.2.2.2.1 (by decide)
  refine qm_of (ls := [.ref 307]) (by decide) (by simp [ai_en, Value.category]) (by rfl) ?_
  refine wq (fun _ _ kk => rs_aload_n (pc := 0) dX12_fact_0 rfl kk) ?_
  obtain ⟨rv_1, hc_1, ⟨rfl, ee_1, T_1, hmd_1, pf_1, hb_1⟩, hm_1⟩ := c_bl (x := x) (E := pE x) (p := pP x) (pa := pPa x) (de := pDe x) (O := pL x) hmd htx (Or.inr hm)
  refine wq (fun _ _ kk => rs_callV (as := []) (pc := 1) dX12_fact_1 mk_X12_blanks mlX12_287 in_X12_blanks se_X12_blanks rfl (md_lt hmd (by decide)) hmd.2.1 rfl rfl (Nat.le_of_ble_eq_true rfl) (hm_1) kk) ?_
  replace hmd := hmd_1
  replace htx := htx.of pf_1
  have hpf := pf_1
  obtain ⟨-, hm1, hq, hqn⟩ := hb_1.resolve_left (fun w => w.1.1 h0)
  obtain ⟨m0, -, -, m27, -, m29, m37⟩ := id hm1
  have E_1 := (md_ext.rf).trans ee_1
  refine wq (fun _ _ kk => rs_aload_n (pc := 4) dX12_fact_4 rfl kk) ?_
  refine wq (fun _ _ kk => rs_ldcwS (pc := 5) dX12_fact_5 (j := 4) (tx := "not") (by decide) kk) ?_
  refine wq (fun _ _ kk => rs_callV (as := [_]) (pc := 8) dX12_fact_8 mk_X12_stands mlX12_290 in_X12_stands se_X12_stands rfl (md_lt hmd (by decide)) hmd.2.1 rfl rfl (Nat.le_of_ble_eq_true rfl) (c_X12_stands (j := 4) (by decide) hmd htx hq (by omega)) kk) ?_
  refine wq_br (fun _ _ kt kf => rs_if_eq (tgt := 32) (pc := 11) dX12_fact_11 rfl kt kf) (fun c_11 => ?_) (fun c_11 => ?_)
  · have g4 : ¬ tx_ix t (tx_fr t n (pP x)) (tx_rn (tx_lt t) n (tx_fr t n (pP x))) = 4 := fun z => absurd c_11 (by rw [if_pos z]; decide)
    refine wq (fun _ _ kk => rs_aload_n (pc := 32) dX12_fact_32 rfl kk) ?_
    refine wq (fun _ _ kk => rs_callV (as := []) (pc := 33) dX12_fact_33 mk_X12_sign mlX12_270 in_X12_sign se_X12_sign rfl (md_lt hmd (by decide)) hmd.2.1 rfl rfl (Nat.le_of_ble_eq_true rfl) (c_X12_sign hmd htx hq (by omega)) kk) ?_
    refine wq (fun _ _ kk => rs_bipush (v := 91) (pc := 36) dX12_fact_36 rfl kk) ?_
    refine wq_bn (fun _ _ kt kf => rs_icmp_ne (tgt := 59) (pc := 38) dX12_fact_38 rfl kt kf) (fun c_38 => ?_) (fun c_38 => ?_)
    · have g5 : tx_k t n (tx_fr t n (pP x)) ≠ 12 := fun w => by
        obtain ⟨k1, k2⟩ := tx_k_sgn w (by omega)
        exact c_38 ((tx_s_eq (c := 91) (fun w => (xt _ w).1) (by decide)).mpr ⟨k1, (tx_sk_c k2).2.2.2.2.1 rfl⟩)
      refine wq (fun _ _ kk => rs_aload_n (pc := 59) dX12_fact_59 rfl kk) ?_
      obtain ⟨rv_60, hc_60, ⟨rfl, ee_60, T_60, y, hmd_60, pf_60, re_60, hs_60⟩, hm_60⟩ := c_compared hmd htx hx ⟨h0, Or.inr (Or.inl h3), fun _ => ⟨fun w => g4 (tx_wd_k w (by decide) rfl tx_wk_u.1 (fun c d w2 => (tx_sk_no w2).2.2.1 rfl) (by decide)), g5⟩, hm1⟩ h3 (py_lo4 hx h0 h3)
      refine wq (fun _ _ kk => rs_callV (as := []) (pc := 60) dX12_fact_60 mk_X12_compared mlX12_348 in_X12_compared se_X12_compared rfl (md_lt hmd (by decide)) hmd.2.1 rfl rfl (Nat.le_of_ble_eq_true rfl) (hm_60) kk) ?_
      replace hmd := hmd_60
      have E_60 := (E_1).trans ee_60
      refine wq (fun _ _ kk => rs_iconst (v := 1) (pc := 63) dX12_fact_63 rfl kk) ?_
      refine wq_ret ?_ (rs_zret (pc := 64) dX12_fact_64 rfl (Or.inr rfl))
      exact ⟨E_60, T_60, y, hmd, hpf.trans pf_60, re_60, Or.inr ⟨rfl, hs_60⟩⟩
    · have g5 := (tx_s_eq (c := 91) (fun w => (xt _ w).1) (by decide)).mp c_38
      obtain ⟨kk, ke⟩ := tx_sg_k (t := t) g5.1 (by omega) (by omega)
      rw [g5.2] at kk ke
      replace kk : tx_k t n (tx_fr t n (pP x)) = 12 := kk
      replace ke : tx_e t n (tx_fr t n (pP x)) = (tx_fr t n (pP x)) + 1 := ke
      have hke : tx_fr t n (pP x) + 1 ≤ n := g5.1
      refine wq (fun _ _ kk => rs_aload_n (pc := 41) dX12_fact_41 rfl kk) ?_
      refine wq (fun _ _ kk => rs_bipush (v := 12) (pc := 42) dX12_fact_42 rfl kk) ?_
      obtain ⟨rv_44, hc_44, ⟨rfl, ee_44, T_44, hmd_44, pf_44, o23, o26, o28, o31, o32, o29, o37, o24, o27⟩, hm_44⟩ := c_X12_opens12 (r := r) (O := pL x) (de := pDe x) (a := (tx_fr t n (pP x))) hmd m27 hde m29 hO m37 hq
      refine wq (fun _ _ kk => rs_callV (as := [_]) (pc := 44) dX12_fact_44 mk_X12_opens mlX12_345 in_X12_opens se_X12_opens rfl (md_lt hmd (by decide)) hmd.2.1 rfl rfl (Nat.le_of_ble_eq_true rfl) (hm_44) kk) ?_
      replace hmd := hmd_44
      rw [m0, if_pos rfl] at o24
      have E_44 := (E_1).trans ee_44
      refine wq (fun _ _ kk => rs_aload_n (pc := 47) dX12_fact_47 rfl kk) ?_
      refine wq (fun _ _ kk => rs_dup (pc := 48) dX12_fact_48 rfl kk) ?_
      refine wq (fun _ _ kk => rs_getf (pc := 49) dX12_fact_49 fX12_267 (md_lt hmd (by decide)) hmd.2.1 rfl kk) ?_
      rw [o23, hq]
      refine wq (fun _ _ kk => rs_iconst (v := 1) (pc := 52) dX12_fact_52 rfl kk) ?_
      refine wq (fun _ _ kk => rs_iadd (pc := 53) dX12_fact_53 kk) ?_
      rw [nI_1]
      refine wq (fun _ _ kk => rs_putf (pc := 54) dX12_fact_54 fX12_267 (md_lt hmd (by decide)) hmd.2.1 rfl (Nat.le_of_ble_eq_true rfl) kk) ?_
      refine wq_gen (fun h_1 e_1 => ?_)
      obtain ⟨m_1, s_1, g_1, o_1⟩ := ai_e1 e_1
      replace hmd := md_at_si (k := 23) hmd m_1 g_1 o_1 rfl
      have E_1 := (E_44).trans (md_ext_of m_1 s_1 o_1 (by decide))
      obtain ⟨S_54, hmd, k_p, r_p, s_p⟩ := md_new hmd
      refine wq (fun _ _ kk => rs_iconst (v := 0) (pc := 57) dX12_fact_57 rfl kk) ?_
      refine wq_ret ?_ (rs_zret (pc := 58) dX12_fact_58 rfl (Or.inl rfl))
      have zz := opn_step (t := t) (n := n) h3 kk (by omega)
      by_cases h10 : pDe x = 10
      · have hz := zz.1 h10
        rw [if_pos h10] at o24
        refine ⟨E_1, _, py_fail 2 (tx_fr t n (pP x)) x, hmd, hpf.trans (pf_44.trans (pfm.put (by decide) r_p s_p)), by rw [← hz]; exact py_rch.one h0 (show pZ x ≠ 9 by rw [h3]; decide), Or.inl ⟨rfl, Or.inl ⟨by rw [pF_fail]; omega, by rw [pF_fail, r_p 24 (by decide)]; exact o24, _, k_p, by omega⟩⟩⟩
      · obtain ⟨y, hy, y0, y1, y2, y3, y4, y5, y6, y7, y8⟩ := zz.2 h10
        rw [if_neg h10] at o24
        refine ⟨E_1, _, y, hmd, hpf.trans (pf_44.trans (pfm.put (by decide) r_p s_p)), by rw [← hy]; exact py_rch.one h0 (show pZ x ≠ 9 by rw [h3]; decide), Or.inl ⟨rfl, Or.inr ⟨⟨y0, y1, y5, y6, ?_⟩, ?_⟩⟩⟩
        · rw [y2, ke]
          have := tx_fr_ge (t := t) (n := n) (p := pP x)
          show pP x < _
          omega
        · rw [y8, y7, y4, y3, y2]
          exact op_mr hm1 o26 o28 o31 o32 o29 o37 o24 o27 r_p s_p (by rw [ke]; exact k_p) (by rw [ke]; omega) rfl
  · have g4 : tx_ix t (tx_fr t n (pP x)) (tx_rn (tx_lt t) n (tx_fr t n (pP x))) = 4 := Classical.byContradiction fun z => c_11 (if_neg z)
    obtain ⟨kk, ke, -⟩ := tx_k_wd (t := t) (by decide) g4
    replace kk : tx_k t n (tx_fr t n (pP x)) = 9 := kk
    replace ke : tx_e t n (tx_fr t n (pP x)) = (tx_fr t n (pP x)) + 3 := ke
    have hke : tx_fr t n (pP x) + 3 ≤ n := by rw [← ke]; exact tx_e_le (tx_ix_at (by decide) g4).1
    refine wq (fun _ _ kk => rs_aload_n (pc := 14) dX12_fact_14 rfl kk) ?_
    refine wq (fun _ _ kk => rs_bipush (v := 9) (pc := 15) dX12_fact_15 rfl kk) ?_
    obtain ⟨rv_17, hc_17, ⟨rfl, ee_17, T_17, hmd_17, pf_17, o23, o26, o28, o31, o32, o29, o37, o24, o27⟩, hm_17⟩ := c_X12_opens9 (r := r) (O := pL x) (de := pDe x) (a := (tx_fr t n (pP x))) hmd m27 hde m29 hO m37 hq
    refine wq (fun _ _ kk => rs_callV (as := [_]) (pc := 17) dX12_fact_17 mk_X12_opens mlX12_345 in_X12_opens se_X12_opens rfl (md_lt hmd (by decide)) hmd.2.1 rfl rfl (Nat.le_of_ble_eq_true rfl) (hm_17) kk) ?_
    replace hmd := hmd_17
    rw [m0, if_pos rfl] at o24
    have E_17 := (E_1).trans ee_17
    refine wq (fun _ _ kk => rs_aload_n (pc := 20) dX12_fact_20 rfl kk) ?_
    refine wq (fun _ _ kk => rs_dup (pc := 21) dX12_fact_21 rfl kk) ?_
    refine wq (fun _ _ kk => rs_getf (pc := 22) dX12_fact_22 fX12_267 (md_lt hmd (by decide)) hmd.2.1 rfl kk) ?_
    rw [o23, hq]
    refine wq (fun _ _ kk => rs_iconst (v := 3) (pc := 25) dX12_fact_25 rfl kk) ?_
    refine wq (fun _ _ kk => rs_iadd (pc := 26) dX12_fact_26 kk) ?_
    rw [show nI (tx_fr t n (pP x)) + 3 = nI ((tx_fr t n (pP x)) + 3) from nI_add _ 3]
    refine wq (fun _ _ kk => rs_putf (pc := 27) dX12_fact_27 fX12_267 (md_lt hmd (by decide)) hmd.2.1 rfl (Nat.le_of_ble_eq_true rfl) kk) ?_
    refine wq_gen (fun h_2 e_2 => ?_)
    obtain ⟨m_2, s_2, g_2, o_2⟩ := ai_e1 e_2
    replace hmd := md_at_si (k := 23) hmd m_2 g_2 o_2 rfl
    have E_2 := (E_17).trans (md_ext_of m_2 s_2 o_2 (by decide))
    obtain ⟨S_27, hmd, k_p, r_p, s_p⟩ := md_new hmd
    refine wq (fun _ _ kk => rs_iconst (v := 0) (pc := 30) dX12_fact_30 rfl kk) ?_
    refine wq_ret ?_ (rs_zret (pc := 31) dX12_fact_31 rfl (Or.inl rfl))
    have zz := opn_step (t := t) (n := n) h3 kk (by omega)
    by_cases h10 : pDe x = 10
    · have hz := zz.1 h10
      rw [if_pos h10] at o24
      refine ⟨E_2, _, py_fail 2 (tx_fr t n (pP x)) x, hmd, hpf.trans (pf_17.trans (pfm.put (by decide) r_p s_p)), by rw [← hz]; exact py_rch.one h0 (show pZ x ≠ 9 by rw [h3]; decide), Or.inl ⟨rfl, Or.inl ⟨by rw [pF_fail]; omega, by rw [pF_fail, r_p 24 (by decide)]; exact o24, _, k_p, by omega⟩⟩⟩
    · obtain ⟨y, hy, y0, y1, y2, y3, y4, y5, y6, y7, y8⟩ := zz.2 h10
      rw [if_neg h10] at o24
      refine ⟨E_2, _, y, hmd, hpf.trans (pf_17.trans (pfm.put (by decide) r_p s_p)), by rw [← hy]; exact py_rch.one h0 (show pZ x ≠ 9 by rw [h3]; decide), Or.inl ⟨rfl, Or.inr ⟨⟨y0, y1, y5, y6, ?_⟩, ?_⟩⟩⟩
      · rw [y2, ke]
        have := tx_fr_ge (t := t) (n := n) (p := pP x)
        show pP x < _
        omega
      · rw [y8, y7, y4, y3, y2]
        exact op_mr hm1 o26 o28 o31 o32 o29 o37 o24 o27 r_p s_p (by rw [ke]; exact k_p) (by rw [ke]; omega) rfl
