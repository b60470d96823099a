/-! 87: the model's clause (walks laid by wip/whole/p87.py) -/
/-- the place never goes back -/
theorem py_mono1 {t : Nat → Nat} {n : Nat} {y : PS} (hy : pok n y) (h0 : pF y = 0) (h9 : pZ y ≠ 9) (h : pF (py_at t n (pP y) y) = 0) : pP y ≤ pP (py_at t n (pP y) y) := by
  have e1 := py_step_p (k := tx_k t n (tx_fr t n (pP y))) (v := tx_v t n (tx_fr t n (pP y))) (a := tx_fr t n (pP y)) (e := tx_e t n (tx_fr t n (pP y))) (x := y) (by have h8 : pZ y ≤ 9 := (hy.1 h0).2.2.2.2.2.2.2; have h9' : pZ y ≠ 9 := h9; show pZ y ≤ 8; omega) h
  have e2 := tx_fr_ge (t := t) (n := n) (p := pP y)
  have e3 := tx_e_gt (t := t) (n := n) (a := tx_fr t n (pP y))
  have e4 : pP (py_at t n (pP y) y) = tx_e t n (tx_fr t n (pP y)) := e1
  omega
theorem py_mono {t : Nat → Nat} {n : Nat} {x y : PS} (hn : n ≤ 400) (hr : py_rch t n x y) (hx : pok n x) (h : pF y = 0) : pP x ≤ pP y := by
  obtain ⟨k, rfl⟩ := hr
  induction k generalizing x with
  | zero => exact Nat.le_refl _
  | succ k ih =>
    by_cases hs : pF x ≠ 0 ∨ pZ x = 9
    · have e : py_step t n x = x := if_pos hs
      show pP x ≤ pP (py_it t n k (py_step t n x))
      have h2 : pF (py_it t n k (py_step t n x)) = 0 := h
      rw [e] at h2 ⊢
      exact ih hx h2
    · have e : py_step t n x = py_at t n (pP x) x := if_neg hs
      have h0 : pF x = 0 := Classical.byContradiction fun w => hs (Or.inl w)
      have h9 : pZ x ≠ 9 := fun w => hs (Or.inr w)
      have h2 : pF (py_it t n k (py_at t n (pP x) x)) = 0 := by rw [← e]; exact h
      show pP x ≤ pP (py_it t n k (py_step t n x))
      rw [e]
      have hx2 : pok n (py_at t n (pP x) x) := pok_rch hn (py_rch.one h0 h9) hx
      have h3 := ih hx2 h2
      have h4 : pF (py_at t n (pP x) x) = 0 := Classical.byContradiction fun w => by
        rw [py_it_stop (Or.inl w)] at h2
        exact w h2
      have := py_mono1 hx h0 h9 h4
      omega
theorem dX12_clause_0 : decode cX12_clause 0 = .ok (.aload_n 0, 1) := by decide +kernel
theorem dX12_clause_1 : decode cX12_clause 1 = .ok (.invokevirtual 287, 3) := by decide +kernel
theorem dX12_clause_4 : decode cX12_clause 4 = .ok (.aload_n 0, 1) := by decide +kernel
theorem dX12_clause_5 : decode cX12_clause 5 = .ok (.getfield 267, 3) := by decide +kernel
theorem dX12_clause_8 : decode cX12_clause 8 = .ok (.istore_n 2, 1) := by decide +kernel
theorem dX12_clause_9 : decode cX12_clause 9 = .ok (.aload_n 0, 1) := by decide +kernel
theorem dX12_clause_10 : decode cX12_clause 10 = .ok (.ldc_w 361, 3) := by decide +kernel
theorem dX12_clause_13 : decode cX12_clause 13 = .ok (.invokevirtual 290, 3) := by decide +kernel
theorem dX12_clause_16 : decode cX12_clause 16 = .ok (.ifCond .ne 10, 3) := by decide +kernel
theorem dX12_clause_19 : decode cX12_clause 19 = .ok (.aload_n 0, 1) := by decide +kernel
theorem dX12_clause_20 : decode cX12_clause 20 = .ok (.iconst 0, 1) := by decide +kernel
theorem dX12_clause_21 : decode cX12_clause 21 = .ok (.iload_n 2, 1) := by decide +kernel
theorem dX12_clause_22 : decode cX12_clause 22 = .ok (.invokevirtual 303, 3) := by decide +kernel
theorem dX12_clause_25 : decode cX12_clause 25 = .ok (.return_, 1) := by decide +kernel
theorem dX12_clause_26 : decode cX12_clause 26 = .ok (.iload_n 1, 1) := by decide +kernel
theorem dX12_clause_27 : decode cX12_clause 27 = .ok (.bipush 12, 2) := by decide +kernel
theorem dX12_clause_29 : decode cX12_clause 29 = .ok (.if_icmp .ne 10, 3) := by decide +kernel
theorem dX12_clause_32 : decode cX12_clause 32 = .ok (.aload_n 0, 1) := by decide +kernel
theorem dX12_clause_33 : decode cX12_clause 33 = .ok (.iconst 4, 1) := by decide +kernel
theorem dX12_clause_34 : decode cX12_clause 34 = .ok (.iload_n 2, 1) := by decide +kernel
theorem dX12_clause_35 : decode cX12_clause 35 = .ok (.invokevirtual 303, 3) := by decide +kernel
theorem dX12_clause_38 : decode cX12_clause 38 = .ok (.return_, 1) := by decide +kernel
theorem dX12_clause_39 : decode cX12_clause 39 = .ok (.aload_n 0, 1) := by decide +kernel
theorem dX12_clause_40 : decode cX12_clause 40 = .ok (.dup, 1) := by decide +kernel
theorem dX12_clause_41 : decode cX12_clause 41 = .ok (.getfield 267, 3) := by decide +kernel
theorem dX12_clause_44 : decode cX12_clause 44 = .ok (.iconst 4, 1) := by decide +kernel
theorem dX12_clause_45 : decode cX12_clause 45 = .ok (.iadd, 1) := by decide +kernel
theorem dX12_clause_46 : decode cX12_clause 46 = .ok (.putfield 267, 3) := by decide +kernel
theorem dX12_clause_49 : decode cX12_clause 49 = .ok (.bipush 12, 2) := by decide +kernel
theorem dX12_clause_51 : decode cX12_clause 51 = .ok (.aload_n 0, 1) := by decide +kernel
theorem dX12_clause_52 : decode cX12_clause 52 = .ok (.getfield 294, 3) := by decide +kernel
theorem dX12_clause_55 : decode cX12_clause 55 = .ok (.imul, 1) := by decide +kernel
theorem dX12_clause_56 : decode cX12_clause 56 = .ok (.iload_n 1, 1) := by decide +kernel
theorem dX12_clause_57 : decode cX12_clause 57 = .ok (.iadd, 1) := by decide +kernel
theorem dX12_clause_58 : decode cX12_clause 58 = .ok (.istore_n 3, 1) := by decide +kernel
theorem dX12_clause_59 : decode cX12_clause 59 = .ok (.aload_n 0, 1) := by decide +kernel
theorem dX12_clause_60 : decode cX12_clause 60 = .ok (.getfield 71, 3) := by decide +kernel
theorem dX12_clause_63 : decode cX12_clause 63 = .ok (.iload_n 3, 1) := by decide +kernel
theorem dX12_clause_64 : decode cX12_clause 64 = .ok (.aload_n 0, 1) := by decide +kernel
theorem dX12_clause_65 : decode cX12_clause 65 = .ok (.getfield 297, 3) := by decide +kernel
theorem dX12_clause_68 : decode cX12_clause 68 = .ok (.iastore, 1) := by decide +kernel
theorem dX12_clause_69 : decode cX12_clause 69 = .ok (.aload_n 0, 1) := by decide +kernel
theorem dX12_clause_70 : decode cX12_clause 70 = .ok (.invokevirtual 331, 3) := by decide +kernel
theorem dX12_clause_73 : decode cX12_clause 73 = .ok (.aload_n 0, 1) := by decide +kernel
theorem dX12_clause_74 : decode cX12_clause 74 = .ok (.getfield 74, 3) := by decide +kernel
theorem dX12_clause_77 : decode cX12_clause 77 = .ok (.iload_n 3, 1) := by decide +kernel
theorem dX12_clause_78 : decode cX12_clause 78 = .ok (.aload_n 0, 1) := by decide +kernel
theorem dX12_clause_79 : decode cX12_clause 79 = .ok (.getfield 297, 3) := by decide +kernel
theorem dX12_clause_82 : decode cX12_clause 82 = .ok (.iastore, 1) := by decide +kernel
theorem dX12_clause_83 : decode cX12_clause 83 = .ok (.aload_n 0, 1) := by decide +kernel
theorem dX12_clause_84 : decode cX12_clause 84 = .ok (.getfield 264, 3) := by decide +kernel
theorem dX12_clause_87 : decode cX12_clause 87 = .ok (.ifCond .ne 17, 3) := by decide +kernel
theorem dX12_clause_90 : decode cX12_clause 90 = .ok (.aload_n 0, 1) := by decide +kernel
theorem dX12_clause_91 : decode cX12_clause 91 = .ok (.ldc_w 363, 3) := by decide +kernel
theorem dX12_clause_94 : decode cX12_clause 94 = .ok (.invokevirtual 365, 3) := by decide +kernel
theorem dX12_clause_97 : decode cX12_clause 97 = .ok (.ifCond .eq 7, 3) := by decide +kernel
theorem dX12_clause_100 : decode cX12_clause 100 = .ok (.aload_n 0, 1) := by decide +kernel
theorem dX12_clause_101 : decode cX12_clause 101 = .ok (.invokevirtual 368, 3) := by decide +kernel
theorem dX12_clause_104 : decode cX12_clause 104 = .ok (.aload_n 0, 1) := by decide +kernel
theorem dX12_clause_105 : decode cX12_clause 105 = .ok (.getfield 77, 3) := by decide +kernel
theorem dX12_clause_108 : decode cX12_clause 108 = .ok (.iload_n 3, 1) := by decide +kernel
theorem dX12_clause_109 : decode cX12_clause 109 = .ok (.aload_n 0, 1) := by decide +kernel
theorem dX12_clause_110 : decode cX12_clause 110 = .ok (.getfield 297, 3) := by decide +kernel
theorem dX12_clause_113 : decode cX12_clause 113 = .ok (.iastore, 1) := by decide +kernel
theorem dX12_clause_114 : decode cX12_clause 114 = .ok (.return_, 1) := by decide +kernel
set_option maxRecDepth 100000 in
set_option maxHeartbeats 4000000 in
theorem c_clause {t : Nat → Nat} {n r c : Nat} {O : List Nat} {x : PS} {h : ai_H} {S : Md} (hmd : md_at h S) (htx : tx_m t n r S) (hx : pok n x) (h0 : pF x = 0) (hz0 : pZ x = 0) (hc : c = (pD x).length) (hm : mr t n r (pE x) (pP x) (pPa x) (pDe x) O S) : ai_QM MX12_clause [.ref 307, .int (nI c)] h (fun rv g' => rv = none ∧ md_ext h g' ∧ ∃ T y, md_at g' T ∧ pfc r c S T ∧ py_rch t n x y ∧ (ded y T ∨ ce t n r c x y T)) := by
  obtain ⟨x22, hn4, x25, hr9, xt⟩ := id htx
  have hI := hx.1 h0
  obtain ⟨eA, eB, hnil0⟩ := hI.2.2.2.1.1 (Or.inl hz0)
  have hnil : pL x = [] := hnil0
  have hc12 : c ≤ 12 := by rw [hc]; exact (py_room hn4 hI).2.2
  refine qm_of (ls := [.ref 307, .int (nI c), .float 0, .float 0]) (by decide) (by simp [ai_en, Value.category]) (by rfl) ?_
  refine wq (fun _ _ kk => rs_aload_n (pc := 0) dX12_clause_0 rfl kk) ?_
  obtain ⟨rv_1, hc_1, ⟨rfl, ee_1, T_1, hmd_1, pf_1, hb_1⟩, hm_1⟩ := c_bl (x := x) (E := pE x) (p := pP x) (pa := pPa x) (de := pDe x) (O := O) hmd htx (Or.inr hm)
  refine wq (fun _ _ kk => rs_callV (as := []) (pc := 1) dX12_clause_1 mk_X12_blanks mlX12_287 in_X12_blanks se_X12_blanks rfl (md_lt hmd (by decide)) hmd.2.1 rfl rfl (Nat.le_of_ble_eq_true rfl) (hm_1) kk) ?_
  replace hmd := hmd_1
  replace htx := htx.of pf_1
  have hpc : pfc r c S T_1 := pf_1.c
  obtain ⟨-, hm1, hq, hqn⟩ := hb_1.resolve_left (fun w => w.1.1 h0)
  have E_1 := (md_ext.rf).trans ee_1
  refine wq (fun _ _ kk => rs_aload_n (pc := 4) dX12_clause_4 rfl kk) ?_
  refine wq (fun _ _ kk => rs_getf (pc := 5) dX12_clause_5 fX12_267 (md_lt hmd (by decide)) hmd.2.1 rfl kk) ?_
  rw [hq]
  refine wq (fun _ _ kk => wk_istn2 (pc := 8) dX12_clause_8 (by decide) rfl kk) ?_
  refine wq (fun _ _ kk => rs_aload_n (pc := 9) dX12_clause_9 rfl kk) ?_
  refine wq (fun _ _ kk => rs_ldcwS (pc := 10) dX12_clause_10 (j := 0) (tx := "lean") (by decide) kk) ?_
  refine wq (fun _ _ kk => rs_callV (as := [_]) (pc := 13) dX12_clause_13 mk_X12_stands mlX12_290 in_X12_stands se_X12_stands rfl (md_lt hmd (by decide)) hmd.2.1 rfl rfl (Nat.le_of_ble_eq_true rfl) (c_X12_stands (j := 0) (by decide) hmd htx hq (by omega)) kk) ?_
  refine wq_bn (fun _ _ kt kf => rs_if_ne (tgt := 26) (pc := 16) dX12_clause_16 rfl kt kf) (fun c_16 => ?_) (fun c_16 => ?_)
  · have g0 : tx_ix t (tx_fr t n (pP x)) (tx_rn (tx_lt t) n (tx_fr t n (pP x))) = 0 := Classical.byContradiction fun z => c_16 (if_neg z)
    obtain ⟨kk, ke, -⟩ := tx_k_wd (t := t) (by decide) g0
    replace kk : tx_k t n (tx_fr t n (pP x)) = 14 := kk
    replace ke : tx_e t n (tx_fr t n (pP x)) = (tx_fr t n (pP x)) + 4 := ke
    have hke : (tx_fr t n (pP x)) + 4 ≤ n := by rw [← ke]; exact tx_e_le (tx_ix_at (by decide) g0).1
    refine wq (fun _ _ kk => rs_iload_n (pc := 26) dX12_clause_26 rfl kk) ?_
    refine wq (fun _ _ kk => rs_bipush (v := 12) (pc := 27) dX12_clause_27 rfl kk) ?_
    refine wq_bn (fun _ _ kt kf => rs_icmp_ne (tgt := 39) (pc := 29) dX12_clause_29 rfl kt kf) (fun c_29 => ?_) (fun c_29 => ?_)
    · have g12 : (pD x).length ≠ 12 := fun z => c_29 (by rw [hc, z]; rfl)
      refine wq (fun _ _ kk => rs_aload_n (pc := 39) dX12_clause_39 rfl kk) ?_
      refine wq (fun _ _ kk => rs_dup (pc := 40) dX12_clause_40 rfl kk) ?_
      refine wq (fun _ _ kk => rs_getf (pc := 41) dX12_clause_41 fX12_267 (md_lt hmd (by decide)) hmd.2.1 rfl kk) ?_
      rw [hq]
      refine wq (fun _ _ kk => rs_iconst (v := 4) (pc := 44) dX12_clause_44 rfl kk) ?_
      refine wq (fun _ _ kk => rs_iadd (pc := 45) dX12_clause_45 kk) ?_
      rw [show nI (tx_fr t n (pP x)) + 4 = nI ((tx_fr t n (pP x)) + 4) from nI_add _ 4]
      refine wq (fun _ _ kk => rs_putf (pc := 46) dX12_clause_46 fX12_267 (md_lt hmd (by decide)) hmd.2.1 rfl (Nat.le_of_ble_eq_true rfl) kk) ?_
      refine wq_gen (fun h_1 e_1 => ?_)
      obtain ⟨m_1, s_1, g_1, o_1⟩ := ai_e1 e_1
      replace hmd := md_at_si (k := 23) hmd m_1 g_1 o_1 rfl
      have E_1 := (E_1).trans (md_ext_of m_1 s_1 o_1 (by decide))
      obtain ⟨S_46, hmd, k_46, r_46, s_46⟩ := md_new hmd
      have pf46 : pfm r T_1 S_46 := pfm.put (by decide) r_46 s_46
      replace htx := htx.of pf46
      replace hpc := hpc.trans pf46.c
      obtain ⟨y1, hz, y1f, y1z, y1p, y1a, y1e, y1d, y1l, y1E⟩ := (lean_step (t := t) (n := n) hz0).2.2 kk g12
      have re1 : py_rch t n x y1 := by rw [← hz]; exact py_rch.one h0 (show pZ x ≠ 9 by rw [hz0]; decide)
      have hy1 := pok_rch hn4 re1 hx
      have pEx : (pE y1).length = (ent (pD x)).length := by
        rw [y1E]
        unfold pE
        rw [show pA x = [] from eA, show pB x = [] from eB, List.append_nil, List.append_nil]
      have hm46 : mr t n r (pE y1) (pP y1) (pPa y1) (pDe y1) O S_46 := by
        rw [y1E, y1p, y1a, y1e]
        exact mv_mr hm1 r_46 s_46 k_46 (by omega) (by rw [ke])
      refine wq (fun _ _ kk => rs_bipush (v := 12) (pc := 49) dX12_clause_49 rfl kk) ?_
      refine wq (fun _ _ kk => rs_aload_n (pc := 51) dX12_clause_51 rfl kk) ?_
      refine wq (fun _ _ kk => rs_getf (pc := 52) dX12_clause_52 fX12_294 (md_lt hmd (by decide)) hmd.2.1 rfl kk) ?_
      rw [r_46 25 (by decide), show T_1.1 25 = nI r from (pf_1.1 25 (by decide) (by decide) (by decide) (by decide) (by decide) (by decide)).trans x25]
      refine wq (fun _ _ kk => rs_imul (pc := 55) dX12_clause_55 kk) ?_
      refine wq (fun _ _ kk => rs_iload_n (pc := 56) dX12_clause_56 rfl kk) ?_
      refine wq (fun _ _ kk => rs_iadd (pc := 57) dX12_clause_57 kk) ?_
      rw [show (12 : Int32) = nI 12 from rfl, nI_mul, nI_add]
      refine wq (fun _ _ kk => wk_istn3 (pc := 58) dX12_clause_58 (by decide) rfl kk) ?_
      refine wq (fun _ _ kk => rs_aload_n (pc := 59) dX12_clause_59 rfl kk) ?_
      refine wq (fun _ _ kk => rs_getf (pc := 60) dX12_clause_60 fX12_71 (md_lt hmd (by decide)) hmd.2.1 rfl kk) ?_
      refine wq (fun _ _ kk => rs_iload_n (pc := 63) dX12_clause_63 rfl kk) ?_
      refine wq (fun _ _ kk => rs_aload_n (pc := 64) dX12_clause_64 rfl kk) ?_
      refine wq (fun _ _ kk => rs_getf (pc := 65) dX12_clause_65 fX12_297 (md_lt hmd (by decide)) hmd.2.1 rfl kk) ?_
      rw [hm46.2.2.1.1]
      refine wq (fun _ _ kk => rs_iast (pc := 68) dX12_clause_68 (md_lt hmd (by decide)) (md_geti (d := 20) (k := 34) (kd := 0) (n := 120) rfl (by decide) hmd) (vp_in_nI (n := 12 * r + c) (N := 120) (by omega) (by decide)) kk) ?_
      refine wq_gen (fun h_2 e_2 => ?_)
      obtain ⟨m_2, s_2, g_2, o_2⟩ := ai_e1 e_2
      replace hmd := md_at_ai (d := 20) rfl (by decide) hmd m_2 g_2 o_2
      have E_2 := (E_1).trans (md_ext_of m_2 s_2 o_2 (by decide))
      rw [nI_clamp (show 12 * r + c < 2 ^ 31 by omega)] at hmd
      obtain ⟨S_68, hmd, k_68, a_68, b_68, c_68, d_68⟩ := md_row hmd
      replace htx := htx.row (k := 34) (by decide) a_68 d_68
      replace hpc := hpc.trans (row_c (by decide) k_68 a_68 b_68 c_68 d_68)
      have hm68 := hm46.row (k := 34) (by decide) a_68 d_68
      refine wq (fun _ _ kk => rs_aload_n (pc := 69) dX12_clause_69 rfl kk) ?_
      obtain ⟨rv_70, hc_70, ⟨rfl, ee_70, T_70, y2, hmd_70, pf_70, re_70, hs_70⟩, hm_70⟩ := c_sum hmd htx hy1 (Or.inr ⟨⟨y1f, Or.inl y1z, fun w => absurd w (by rw [y1z]; decide), hm68⟩, by rw [y1l, hnil]; trivial⟩)
      refine wq (fun _ _ kk => rs_callV (as := []) (pc := 70) dX12_clause_70 mk_X12_sum mlX12_331 in_X12_sum se_X12_sum rfl (md_lt hmd (by decide)) hmd.2.1 rfl rfl (Nat.le_of_ble_eq_true rfl) (hm_70) kk) ?_
      replace hmd := hmd_70
      replace htx := htx.of pf_70
      replace hpc := hpc.trans pf_70.c
      have hy2 := pok_rch hn4 re_70 hy1
      have hre2 := re1.trans re_70
      have E_70 := (E_2).trans ee_70
      refine wq (fun _ _ kk => rs_aload_n (pc := 73) dX12_clause_73 rfl kk) ?_
      refine wq (fun _ _ kk => rs_getf (pc := 74) dX12_clause_74 fX12_74 (md_lt hmd (by decide)) hmd.2.1 rfl kk) ?_
      refine wq (fun _ _ kk => rs_iload_n (pc := 77) dX12_clause_77 rfl kk) ?_
      refine wq (fun _ _ kk => rs_aload_n (pc := 78) dX12_clause_78 rfl kk) ?_
      refine wq (fun _ _ kk => rs_getf (pc := 79) dX12_clause_79 fX12_297 (md_lt hmd (by decide)) hmd.2.1 rfl kk) ?_
      refine wq (fun _ _ kk => rs_iast (pc := 82) dX12_clause_82 (md_lt hmd (by decide)) (md_geti (d := 21) (k := 35) (kd := 0) (n := 120) rfl (by decide) hmd) (vp_in_nI (n := 12 * r + c) (N := 120) (by omega) (by decide)) kk) ?_
      refine wq_gen (fun h_3 e_3 => ?_)
      obtain ⟨m_3, s_3, g_3, o_3⟩ := ai_e1 e_3
      replace hmd := md_at_ai (d := 21) rfl (by decide) hmd m_3 g_3 o_3
      have E_3 := (E_70).trans (md_ext_of m_3 s_3 o_3 (by decide))
      rw [nI_clamp (show 12 * r + c < 2 ^ 31 by omega)] at hmd
      obtain ⟨S_82, hmd, k_82, a_82, b_82, c_82, d_82⟩ := md_row hmd
      replace htx := htx.row (k := 35) (by decide) a_82 d_82
      replace hpc := hpc.trans (row_c (by decide) k_82 a_82 b_82 c_82 d_82)
      refine wq (fun _ _ kk => rs_aload_n (pc := 83) dX12_clause_83 rfl kk) ?_
      refine wq (fun _ _ kk => rs_getf (pc := 84) dX12_clause_84 fX12_264 (md_lt hmd (by decide)) hmd.2.1 rfl kk) ?_
      rw [a_82]
      refine wq_bn (fun _ _ kt kf => rs_if_ne (tgt := 104) (pc := 87) dX12_clause_87 rfl kt kf) (fun c_87 => ?_) (fun c_87 => ?_)
      · have hd : ded y2 T_70 := hs_70.resolve_right (fun w => c_87 w.1.2.2.1)
        refine wq (fun _ _ kk => rs_aload_n (pc := 104) dX12_clause_104 rfl kk) ?_
        refine wq (fun _ _ kk => rs_getf (pc := 105) dX12_clause_105 fX12_77 (md_lt hmd (by decide)) hmd.2.1 rfl kk) ?_
        refine wq (fun _ _ kk => rs_iload_n (pc := 108) dX12_clause_108 rfl kk) ?_
        refine wq (fun _ _ kk => rs_aload_n (pc := 109) dX12_clause_109 rfl kk) ?_
        refine wq (fun _ _ kk => rs_getf (pc := 110) dX12_clause_110 fX12_297 (md_lt hmd (by decide)) hmd.2.1 rfl kk) ?_
        refine wq (fun _ _ kk => rs_iast (pc := 113) dX12_clause_113 (md_lt hmd (by decide)) (md_geti (d := 22) (k := 36) (kd := 0) (n := 120) rfl (by decide) hmd) (vp_in_nI (n := 12 * r + c) (N := 120) (by omega) (by decide)) kk) ?_
        refine wq_gen (fun h_4 e_4 => ?_)
        obtain ⟨m_4, s_4, g_4, o_4⟩ := ai_e1 e_4
        replace hmd := md_at_ai (d := 22) rfl (by decide) hmd m_4 g_4 o_4
        have E_4 := (E_3).trans (md_ext_of m_4 s_4 o_4 (by decide))
        rw [nI_clamp (show 12 * r + c < 2 ^ 31 by omega)] at hmd
        obtain ⟨S_113, hmd, k_113, a_113, b_113, c_113, d_113⟩ := md_row hmd
        replace htx := htx.row (k := 36) (by decide) a_113 d_113
        replace hpc := hpc.trans (row_c (by decide) k_113 a_113 b_113 c_113 d_113)
        refine wq_ret ?_ (rs_vret (pc := 114) dX12_clause_114 rfl)
        exact ⟨rfl, E_4, _, y2, hmd, hpc, hre2, Or.inl ((hd.row a_82).row a_113)⟩
      · obtain ⟨⟨u1, u2, u3⟩, u4, u5, u6⟩ := hs_70.resolve_left (fun d => d.ne hy2 c_87)
        rw [y1l, hnil] at u2
        have hm82 := u3.row (k := 35) (by decide) a_82 d_82
        refine wq (fun _ _ kk => rs_aload_n (pc := 90) dX12_clause_90 rfl kk) ?_
        refine wq (fun _ _ kk => rs_ldcwS (pc := 91) dX12_clause_91 (j := 1) (tx := "if") (by decide) kk) ?_
        obtain ⟨rv_94, hc_94, ⟨ee_94, T_94, hmd_94, pf_94, hs_94⟩, hm_94⟩ := c_takes hmd htx hy2 hm82
        refine wq (fun _ _ kk => rs_callV (as := [_]) (pc := 94) dX12_clause_94 mk_X12_takes mlX12_365 in_X12_takes se_X12_takes rfl (md_lt hmd (by decide)) hmd.2.1 rfl rfl (Nat.le_of_ble_eq_true rfl) (hm_94) kk) ?_
        replace hmd := hmd_94
        replace htx := htx.of pf_94
        replace hpc := hpc.trans pf_94.c
        have E_94 := (E_3).trans ee_94
        rcases hs_94 with ⟨rfl, k15, ke2, hmt⟩ | ⟨rfl, n15, hmt⟩
        · refine wq_br (fun _ _ kt kf => rs_if_eq (tgt := 104) (pc := 97) dX12_clause_97 rfl kt kf) (fun c_97 => absurd c_97 (by decide)) (fun c_97 => ?_)
          obtain ⟨p1, p2⟩ := pl_all u2
          have hz2 : pZ y2 = 2 := by rw [u1.2.1, y1z]; rfl
          have hB2 : pB y2 = [] := py_B2 (hy2.1 u1.1) (Or.inr hz2)
          have hD2 : pD y2 = pD x := u1.2.2.1.trans y1d
          obtain ⟨z, hzz, z0, z3, zp, za, zde, zD, zA, zl, zE⟩ := if_step (t := t) (n := n) hz2 hB2 k15
          have zr : py_rch t n y2 z := by rw [← hzz]; exact py_rch.one u1.1 (show pZ y2 ≠ 9 by rw [hz2]; decide)
          have hyz := pok_rch hn4 zr hy2
          have hmz : mr t n r (pE z) (pP z) (pPa z) (pDe z) O T_94 := by
            rw [zE, zp, za, zde, p1, show py_nt (py_tw 5 (pL y2)) = 0 from py_nt_hi (by decide) _]
            exact hmt
          refine wq (fun _ _ kk => rs_aload_n (pc := 100) dX12_clause_100 rfl kk) ?_
          obtain ⟨rv_101, hc_101, ⟨rfl, ee_101, T_101, y3, hmd_101, pf_101, re_101, hs_101⟩, hm_101⟩ := c_test hmd htx hyz z0 z3 (by rw [zl]; exact p2) hmz
          refine wq (fun _ _ kk => rs_callV (as := []) (pc := 101) dX12_clause_101 mk_X12_test mlX12_368 in_X12_test se_X12_test rfl (md_lt hmd (by decide)) hmd.2.1 rfl rfl (Nat.le_of_ble_eq_true rfl) (hm_101) kk) ?_
          replace hmd := hmd_101
          replace htx := htx.of pf_101
          replace hpc := hpc.trans pf_101.c
          have hy3 := pok_rch hn4 re_101 hyz
          have hp3 : pF y3 = 0 → pP z ≤ pP y3 := fun w => py_mono hn4 re_101 hyz w
          have E_101 := (E_94).trans ee_101
          refine wq (fun _ _ kk => rs_aload_n (pc := 104) dX12_clause_104 rfl kk) ?_
          refine wq (fun _ _ kk => rs_getf (pc := 105) dX12_clause_105 fX12_77 (md_lt hmd (by decide)) hmd.2.1 rfl kk) ?_
          refine wq (fun _ _ kk => rs_iload_n (pc := 108) dX12_clause_108 rfl kk) ?_
          refine wq (fun _ _ kk => rs_aload_n (pc := 109) dX12_clause_109 rfl kk) ?_
          refine wq (fun _ _ kk => rs_getf (pc := 110) dX12_clause_110 fX12_297 (md_lt hmd (by decide)) hmd.2.1 rfl kk) ?_
          refine wq (fun _ _ kk => rs_iast (pc := 113) dX12_clause_113 (md_lt hmd (by decide)) (md_geti (d := 22) (k := 36) (kd := 0) (n := 120) rfl (by decide) hmd) (vp_in_nI (n := 12 * r + c) (N := 120) (by omega) (by decide)) kk) ?_
          refine wq_gen (fun h_5 e_5 => ?_)
          obtain ⟨m_5, s_5, g_5, o_5⟩ := ai_e1 e_5
          replace hmd := md_at_ai (d := 22) rfl (by decide) hmd m_5 g_5 o_5
          have E_5 := (E_101).trans (md_ext_of m_5 s_5 o_5 (by decide))
          rw [nI_clamp (show 12 * r + c < 2 ^ 31 by omega)] at hmd
          obtain ⟨S_113, hmd, k_113, a_113, b_113, c_113, d_113⟩ := md_row hmd
          replace htx := htx.row (k := 36) (by decide) a_113 d_113
          replace hpc := hpc.trans (row_c (by decide) k_113 a_113 b_113 c_113 d_113)
          refine wq_ret ?_ (rs_vret (pc := 114) dX12_clause_114 rfl)
          refine ⟨rfl, E_5, _, y3, hmd, hpc, hre2.trans (zr.trans re_101), ?_⟩
          rcases hs_101 with hd | ⟨v1, v2, v3, v4, v5, v6, v7, v8, v9⟩
          · exact Or.inl (hd.row a_113)
          · right
            have hcn : cn y3 = (pA y3, pB y3 ++ py_tk (py_tw 1 (pL y3))) := if_neg (by omega)
            have hD3 : pD y3 = pD x := v3.trans (zD.trans (u1.2.2.1.trans y1d))
            have hA3 : pA y3 = pA y2 ++ py_tk (py_tw 1 (pL y2)) := v4.trans zA
            have hEl : (pE y2 ++ py_tk (py_tw 5 (pL y2))).length = (ent (pD x)).length + (pA y2 ++ py_tk (py_tw 1 (pL y2))).length := by
              unfold pE
              rw [hB2, hD2, p1]
              simp only [List.length_append, List.append_nil]
              omega
            have hE3 : (pE y3 ++ py_tk (py_tw 1 (pL y3))).length = (ent (pD x)).length + (pA y3).length + (pB y3 ++ py_tk (py_tw 1 (pL y3))).length := by
              unfold pE
              rw [hD3]
              simp only [List.length_append]
              omega
            have hdw : py_dw 1 (pL y3) = [] := py_dw1 _ (by rw [← (show pBr y3 = py_br (pL y3) from (hy3.1 v1).2.2.1.2.2.1)]; exact v5)
            refine ⟨v1, Or.inr v2, cl_step (Or.inr ⟨v2, v6, v7, v8, v5⟩), hD3, hdw, ⟨[], v9.row (k := 36) (by decide) a_113 d_113⟩, ?_, ?_, ?_, ?_⟩
            · rw [d_113 34 (by decide), pf_101.2.2.2.1 34 (by decide) (by decide) (by decide), pf_94.2.2.2.1 34 (by decide) (by decide) (by decide), d_82 34 (by decide), pf_70.2.2.2.1 34 (by decide) (by decide) (by decide), k_68, pk_us, pEx]
            · rw [d_113 35 (by decide), pf_101.2.2.2.1 35 (by decide) (by decide) (by decide), pf_94.2.2.2.1 35 (by decide) (by decide) (by decide), k_82, pk_us, hcn, u3.2.2.1.1, hEl]
              show _ = nI (_ + (pA y3).length)
              rw [hA3]
            · rw [k_113, pk_us, v9.2.2.1.1, hE3, hcn]
            · have q1 : pP y1 < pP y2 := u1.2.2.2.2.2.2
              have q2 := tx_fr_ge (t := t) (n := n) (p := pP y2)
              have q3 : pP y1 = tx_fr t n (pP x) + 4 := y1p.trans ke
              have q4 := tx_fr_ge (t := t) (n := n) (p := pP x)
              have q5 : pP z = tx_fr t n (pP y2) + 2 := zp.trans ke2
              have q6 := hp3 v1
              show pP x < pP y3
              omega
        · refine wq_br (fun _ _ kt kf => rs_if_eq (tgt := 104) (pc := 97) dX12_clause_97 rfl kt kf) (fun c_97 => ?_) (fun c_97 => absurd c_97 (by decide))
          refine wq (fun _ _ kk => rs_aload_n (pc := 104) dX12_clause_104 rfl kk) ?_
          refine wq (fun _ _ kk => rs_getf (pc := 105) dX12_clause_105 fX12_77 (md_lt hmd (by decide)) hmd.2.1 rfl kk) ?_
          refine wq (fun _ _ kk => rs_iload_n (pc := 108) dX12_clause_108 rfl kk) ?_
          refine wq (fun _ _ kk => rs_aload_n (pc := 109) dX12_clause_109 rfl kk) ?_
          refine wq (fun _ _ kk => rs_getf (pc := 110) dX12_clause_110 fX12_297 (md_lt hmd (by decide)) hmd.2.1 rfl kk) ?_
          refine wq (fun _ _ kk => rs_iast (pc := 113) dX12_clause_113 (md_lt hmd (by decide)) (md_geti (d := 22) (k := 36) (kd := 0) (n := 120) rfl (by decide) hmd) (vp_in_nI (n := 12 * r + c) (N := 120) (by omega) (by decide)) kk) ?_
          refine wq_gen (fun h_6 e_6 => ?_)
          obtain ⟨m_6, s_6, g_6, o_6⟩ := ai_e1 e_6
          replace hmd := md_at_ai (d := 22) rfl (by decide) hmd m_6 g_6 o_6
          have E_6 := (E_94).trans (md_ext_of m_6 s_6 o_6 (by decide))
          rw [nI_clamp (show 12 * r + c < 2 ^ 31 by omega)] at hmd
          obtain ⟨S_113, hmd, k_113, a_113, b_113, c_113, d_113⟩ := md_row hmd
          replace htx := htx.row (k := 36) (by decide) a_113 d_113
          replace hpc := hpc.trans (row_c (by decide) k_113 a_113 b_113 c_113 d_113)
          refine wq_ret ?_ (rs_vret (pc := 114) dX12_clause_114 rfl)
          obtain ⟨p1, p2⟩ := pl_all u2
          have hz2 : pZ y2 = 2 := by rw [u1.2.1, y1z]; rfl
          have hB2 : pB y2 = [] := py_B2 (hy2.1 u1.1) (Or.inr hz2)
          have hcn : cn y2 = (pA y2 ++ py_tk (py_tw 1 (pL y2)), pB y2) := if_pos hz2
          have hD2 : pD y2 = pD x := u1.2.2.1.trans y1d
          have hEl : (pE y2 ++ py_tk (py_tw 5 (pL y2))).length = (ent (pD x)).length + (pA y2 ++ py_tk (py_tw 1 (pL y2))).length := by
            unfold pE
            rw [hB2, hD2, p1]
            simp only [List.length_append, List.append_nil]
            omega
          have hm5 := (hmt.row (k := 36) (by decide) a_113 d_113)
          refine ⟨rfl, E_6, _, y2, hmd, hpc, hre2, Or.inr ⟨u1.1, Or.inl hz2, cl_step (Or.inl ⟨hz2, fun w => by rcases w with w | w | w; exact u6.2.1 w; exact u6.2.2 w; exact u6.1 w, n15⟩), hD2, p2, ⟨O, by rw [p1, show py_nt (py_tw 5 (pL y2)) = 0 from py_nt_hi (by decide) _]; exact hm5⟩, ?_, ?_, ?_, ?_⟩⟩
          · rw [d_113 34 (by decide), pf_94.2.2.2.1 34 (by decide) (by decide) (by decide), d_82 34 (by decide), pf_70.2.2.2.1 34 (by decide) (by decide) (by decide), k_68, pk_us, pEx]
          · rw [d_113 35 (by decide), pf_94.2.2.2.1 35 (by decide) (by decide) (by decide), k_82, pk_us, hcn, u3.2.2.1.1, hEl]
          · rw [k_113, pk_us, hmt.2.2.1.1, hEl, hcn, hB2]
            rfl
          · have q1 : pP y1 < pP y2 := u1.2.2.2.2.2.2
            have q2 := tx_fr_ge (t := t) (n := n) (p := pP x)
            have q3 : pP y1 = tx_fr t n (pP x) + 4 := y1p.trans ke
            show pP x < pP y2
            omega
    · have g12 : (pD x).length = 12 := by rw [← hc]; exact tx_eq1 (b := 12) (by omega) (by decide) rfl c_29
      refine wq (fun _ _ kk => rs_aload_n (pc := 32) dX12_clause_32 rfl kk) ?_
      refine wq (fun _ _ kk => rs_iconst (v := 4) (pc := 33) dX12_clause_33 rfl kk) ?_
      refine wq (fun _ _ kk => rs_iload_n (pc := 34) dX12_clause_34 rfl kk) ?_
      obtain ⟨rv_35, hc_35, ⟨rfl, ee_35, T_35, hmd_35, q0, q3⟩, hm_35⟩ := c_X12_fails (c := 4) (a := (tx_fr t n (pP x))) hmd
      refine wq (fun _ _ kk => rs_callV (as := [_, _]) (pc := 35) dX12_clause_35 mk_X12_fails mlX12_303 in_X12_fails se_X12_fails rfl (md_lt hmd (by decide)) hmd.2.1 rfl rfl (Nat.le_of_ble_eq_true rfl) (hm_35) kk) ?_
      replace hmd := hmd_35
      rw [hm1.1, if_pos rfl] at q3
      have E_35 := (E_1).trans ee_35
      refine wq_ret ?_ (rs_vret (pc := 38) dX12_clause_38 rfl)
      have hz := (lean_step (t := t) (n := n) hz0).2.1 kk g12
      exact ⟨rfl, E_35, _, py_fail 4 (tx_fr t n (pP x)) x, hmd, (pf_1.trans (q0.f (by decide))).c, by rw [← hz]; exact py_rch.one h0 (show pZ x ≠ 9 by rw [hz0]; decide), Or.inl ⟨by rw [pF_fail]; omega, by rw [pF_fail]; exact q3, (tx_fr t n (pP x)), (q0.1 23 (by decide)).trans hq, by omega⟩⟩
  · have g0 : ¬ tx_ix t (tx_fr t n (pP x)) (tx_rn (tx_lt t) n (tx_fr t n (pP x))) = 0 := fun z => absurd c_16 (by rw [if_pos z]; decide)
    have kk : tx_k t n (tx_fr t n (pP x)) ≠ 14 := fun w => g0 (tx_wd_k w (by decide) rfl tx_wk_u.2.2.2.1 (fun c d w2 => (tx_sk_no w2).2.2.2.2.2.1 rfl) (by decide))
    refine wq (fun _ _ kk => rs_aload_n (pc := 19) dX12_clause_19 rfl kk) ?_
    refine wq (fun _ _ kk => rs_iconst (v := 0) (pc := 20) dX12_clause_20 rfl kk) ?_
    refine wq (fun _ _ kk => rs_iload_n (pc := 21) dX12_clause_21 rfl kk) ?_
    obtain ⟨rv_22, hc_22, ⟨rfl, ee_22, T_22, hmd_22, q0, q3⟩, hm_22⟩ := c_X12_fails (c := 0) (a := (tx_fr t n (pP x))) hmd
    refine wq (fun _ _ kk => rs_callV (as := [_, _]) (pc := 22) dX12_clause_22 mk_X12_fails mlX12_303 in_X12_fails se_X12_fails rfl (md_lt hmd (by decide)) hmd.2.1 rfl rfl (Nat.le_of_ble_eq_true rfl) (hm_22) kk) ?_
    replace hmd := hmd_22
    rw [hm1.1, if_pos rfl] at q3
    have E_22 := (E_1).trans ee_22
    refine wq_ret ?_ (rs_vret (pc := 25) dX12_clause_25 rfl)
    have hz := (lean_step (t := t) (n := n) hz0).1 kk
    exact ⟨rfl, E_22, _, py_fail 0 (tx_fr t n (pP x)) x, hmd, (pf_1.trans (q0.f (by decide))).c, by rw [← hz]; exact py_rch.one h0 (show pZ x ≠ 9 by rw [hz0]; decide), Or.inl ⟨by rw [pF_fail]; omega, by rw [pF_fail]; exact q3, (tx_fr t n (pP x)), (q0.1 23 (by decide)).trans hq, by omega⟩⟩
