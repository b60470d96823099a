/-! 82: the model's open signs and facts (walks laid by wip/whole/p82.py) -/
def tpv (O : List Nat) : Int32 := match O with
  | [] => -1
  | x :: _ => nI x
theorem dX12_top_0 : decode cX12_top 0 = .ok (.aload_n 0, 1) := by decide +kernel
theorem dX12_top_1 : decode cX12_top 1 = .ok (.getfield 334, 3) := by decide +kernel
theorem dX12_top_4 : decode cX12_top 4 = .ok (.ifCond .ne 7, 3) := by decide +kernel
theorem dX12_top_7 : decode cX12_top 7 = .ok (.iconst (-1), 1) := by decide +kernel
theorem dX12_top_8 : decode cX12_top 8 = .ok (.goto 14, 3) := by decide +kernel
theorem dX12_top_11 : decode cX12_top 11 = .ok (.aload_n 0, 1) := by decide +kernel
theorem dX12_top_12 : decode cX12_top 12 = .ok (.getfield 80, 3) := by decide +kernel
theorem dX12_top_15 : decode cX12_top 15 = .ok (.aload_n 0, 1) := by decide +kernel
theorem dX12_top_16 : decode cX12_top 16 = .ok (.getfield 334, 3) := by decide +kernel
theorem dX12_top_19 : decode cX12_top 19 = .ok (.iconst 1, 1) := by decide +kernel
theorem dX12_top_20 : decode cX12_top 20 = .ok (.isub, 1) := by decide +kernel
theorem dX12_top_21 : decode cX12_top 21 = .ok (.iaload, 1) := by decide +kernel
theorem dX12_top_22 : decode cX12_top 22 = .ok (.ireturn, 1) := by decide +kernel
set_option maxRecDepth 100000 in
set_option maxHeartbeats 4000000 in
theorem q_X12_top {h : ai_H} {S : Md} {O : List Nat} (hmd : md_at h S) (h29 : S.1 29 = nI O.length) (hO : O.length ≤ 400) (h37 : mo_on O (S.2.2.1 37)) : ai_QM MX12_top [.ref 307] h (fun rv g => rv = some (.int (tpv O)) ∧ g = h) := by
  refine qm_of (ls := [.ref 307]) (by decide) (by simp [ai_en, Value.category]) (by rfl) ?_
  cases O with
  | nil =>
    skip
    refine wq (fun _ _ kk => rs_aload_n (pc := 0) dX12_top_0 rfl kk) ?_
    refine wq (fun _ _ kk => rs_getf (pc := 1) dX12_top_1 fX12_334 (md_lt hmd (by decide)) hmd.2.1 rfl kk) ?_
    rw [h29]
    refine wq_bn (fun _ _ kt kf => rs_if_ne (tgt := 11) (pc := 4) dX12_top_4 rfl kt kf) (fun c_4 => absurd c_4 (fun z => z rfl)) (fun c_4 => ?_)
    refine wq (fun _ _ kk => rs_iconst (v := -1) (pc := 7) dX12_top_7 rfl kk) ?_
    refine wq (fun _ _ kk => rs_goto (tgt := 22) (pc := 8) dX12_top_8 rfl kk) ?_
    refine wq_ret ?_ (rs_iret (pc := 22) dX12_top_22 rfl)
    exact ⟨rfl, rfl⟩
  | cons x l =>
    rw [List.length_cons] at hO
    refine wq (fun _ _ kk => rs_aload_n (pc := 0) dX12_top_0 rfl kk) ?_
    refine wq (fun _ _ kk => rs_getf (pc := 1) dX12_top_1 fX12_334 (md_lt hmd (by decide)) hmd.2.1 rfl kk) ?_
    rw [h29]
    refine wq_bn (fun _ _ kt kf => rs_if_ne (tgt := 11) (pc := 4) dX12_top_4 rfl kt kf) (fun c_4 => ?_) (fun c_4 => absurd c_4 (nI_ne0 (n := l.length + 1) (by omega) (by omega)))
    refine wq (fun _ _ kk => rs_aload_n (pc := 11) dX12_top_11 rfl kk) ?_
    refine wq (fun _ _ kk => rs_getf (pc := 12) dX12_top_12 fX12_80 (md_lt hmd (by decide)) hmd.2.1 rfl kk) ?_
    refine wq (fun _ _ kk => rs_aload_n (pc := 15) dX12_top_15 rfl kk) ?_
    refine wq (fun _ _ kk => rs_getf (pc := 16) dX12_top_16 fX12_334 (md_lt hmd (by decide)) hmd.2.1 rfl kk) ?_
    rw [h29]
    refine wq (fun _ _ kk => rs_iconst (v := 1) (pc := 19) dX12_top_19 rfl kk) ?_
    refine wq (fun _ _ kk => rs_isub (pc := 20) dX12_top_20 kk) ?_
    rw [show nI (x :: l).length - 1 = nI l.length from nI_pred l.length]
    refine wq (fun _ _ kk => rs_iald (pc := 21) dX12_top_21 (md_lt hmd (by decide)) (md_geti (d := 23) (k := 37) (kd := 0) (n := 402) rfl (by decide) hmd) (vp_in_nI (n := l.length) (N := 402) (by omega) (by decide)) kk) ?_
    rw [nI_clamp (show l.length < 2 ^ 31 by omega), h37.1]
    refine wq_ret ?_ (rs_iret (pc := 22) dX12_top_22 rfl)
    exact ⟨rfl, rfl⟩
theorem c_X12_top {h : ai_H} {S : Md} {O : List Nat} (hmd : md_at h S) (h29 : S.1 29 = nI O.length) (hO : O.length ≤ 400) (h37 : mo_on O (S.2.2.1 37)) : ai_Met MX12_top [.ref 307] h (some (.int (tpv O))) h := by
  obtain ⟨rv, g, ⟨rfl, rfl⟩, hm⟩ := q_X12_top hmd h29 hO h37
  exact hm
theorem dX12_opens_0 : decode cX12_opens 0 = .ok (.iload_n 1, 1) := by decide +kernel
theorem dX12_opens_1 : decode cX12_opens 1 = .ok (.bipush 9, 2) := by decide +kernel
theorem dX12_opens_3 : decode cX12_opens 3 = .ok (.if_icmp .eq 9, 3) := by decide +kernel
theorem dX12_opens_6 : decode cX12_opens 6 = .ok (.iload_n 1, 1) := by decide +kernel
theorem dX12_opens_7 : decode cX12_opens 7 = .ok (.bipush 12, 2) := by decide +kernel
theorem dX12_opens_9 : decode cX12_opens 9 = .ok (.if_icmp .ne 31, 3) := by decide +kernel
theorem dX12_opens_12 : decode cX12_opens 12 = .ok (.aload_n 0, 1) := by decide +kernel
theorem dX12_opens_13 : decode cX12_opens 13 = .ok (.getfield 337, 3) := by decide +kernel
theorem dX12_opens_16 : decode cX12_opens 16 = .ok (.bipush 10, 2) := by decide +kernel
theorem dX12_opens_18 : decode cX12_opens 18 = .ok (.if_icmp .ne 12, 3) := by decide +kernel
theorem dX12_opens_21 : decode cX12_opens 21 = .ok (.aload_n 0, 1) := by decide +kernel
theorem dX12_opens_22 : decode cX12_opens 22 = .ok (.iconst 2, 1) := by decide +kernel
theorem dX12_opens_23 : decode cX12_opens 23 = .ok (.aload_n 0, 1) := by decide +kernel
theorem dX12_opens_24 : decode cX12_opens 24 = .ok (.getfield 267, 3) := by decide +kernel
theorem dX12_opens_27 : decode cX12_opens 27 = .ok (.invokevirtual 303, 3) := by decide +kernel
theorem dX12_opens_30 : decode cX12_opens 30 = .ok (.aload_n 0, 1) := by decide +kernel
theorem dX12_opens_31 : decode cX12_opens 31 = .ok (.dup, 1) := by decide +kernel
theorem dX12_opens_32 : decode cX12_opens 32 = .ok (.getfield 337, 3) := by decide +kernel
theorem dX12_opens_35 : decode cX12_opens 35 = .ok (.iconst 1, 1) := by decide +kernel
theorem dX12_opens_36 : decode cX12_opens 36 = .ok (.iadd, 1) := by decide +kernel
theorem dX12_opens_37 : decode cX12_opens 37 = .ok (.putfield 337, 3) := by decide +kernel
theorem dX12_opens_40 : decode cX12_opens 40 = .ok (.aload_n 0, 1) := by decide +kernel
theorem dX12_opens_41 : decode cX12_opens 41 = .ok (.getfield 80, 3) := by decide +kernel
theorem dX12_opens_44 : decode cX12_opens 44 = .ok (.aload_n 0, 1) := by decide +kernel
theorem dX12_opens_45 : decode cX12_opens 45 = .ok (.getfield 334, 3) := by decide +kernel
theorem dX12_opens_48 : decode cX12_opens 48 = .ok (.iload_n 1, 1) := by decide +kernel
theorem dX12_opens_49 : decode cX12_opens 49 = .ok (.iastore, 1) := by decide +kernel
theorem dX12_opens_50 : decode cX12_opens 50 = .ok (.aload_n 0, 1) := by decide +kernel
theorem dX12_opens_51 : decode cX12_opens 51 = .ok (.dup, 1) := by decide +kernel
theorem dX12_opens_52 : decode cX12_opens 52 = .ok (.getfield 334, 3) := by decide +kernel
theorem dX12_opens_55 : decode cX12_opens 55 = .ok (.iconst 1, 1) := by decide +kernel
theorem dX12_opens_56 : decode cX12_opens 56 = .ok (.iadd, 1) := by decide +kernel
theorem dX12_opens_57 : decode cX12_opens 57 = .ok (.putfield 334, 3) := by decide +kernel
theorem dX12_opens_60 : decode cX12_opens 60 = .ok (.return_, 1) := by decide +kernel
set_option maxRecDepth 100000 in
set_option maxHeartbeats 4000000 in
theorem c_X12_opens9 {h : ai_H} {S : Md} {O : List Nat} {r de a : Nat} (hmd : md_at h S) (h27 : S.1 27 = nI de) (hde : de ≤ 100) (h29 : S.1 29 = nI O.length) (hO : O.length ≤ 400) (h37 : mo_on O (S.2.2.1 37)) (h23 : S.1 23 = nI a) : ai_QM MX12_opens [.ref 307, .int 9] h (fun rv g => rv = none ∧ md_ext h g ∧ ∃ T, md_at g T ∧ pfm r S T ∧ T.1 23 = S.1 23 ∧ T.1 26 = S.1 26 ∧ T.1 28 = S.1 28 ∧ T.2.2.1 31 = S.2.2.1 31 ∧ T.2.2.1 32 = S.2.2.1 32 ∧ T.1 29 = nI (9 :: O).length ∧ mo_on (9 :: O) (T.2.2.1 37) ∧ T.1 24 = (if de = 10 then (if S.1 24 = 0 then nI (1 + 8 * a + 2) else S.1 24) else S.1 24) ∧ T.1 27 = nI (de + 1)) := by
  refine qm_of (ls := [.ref 307, .int 9]) (by decide) (by simp [ai_en, Value.category]) (by rfl) ?_
  refine wq (fun _ _ kk => rs_iload_n (pc := 0) dX12_opens_0 rfl kk) ?_
  refine wq (fun _ _ kk => rs_bipush (v := 9) (pc := 1) dX12_opens_1 rfl kk) ?_
  refine wq_br (fun _ _ kt kf => rs_icmp_eq (tgt := 12) (pc := 3) dX12_opens_3 rfl kt kf) (fun c_3 => ?_) (fun c_3 => absurd c_3 (by decide))
  refine wq (fun _ _ kk => rs_aload_n (pc := 12) dX12_opens_12 rfl kk) ?_
  refine wq (fun _ _ kk => rs_getf (pc := 13) dX12_opens_13 fX12_337 (md_lt hmd (by decide)) hmd.2.1 rfl kk) ?_
  rw [h27]
  refine wq (fun _ _ kk => rs_bipush (v := 10) (pc := 16) dX12_opens_16 rfl kk) ?_
  refine wq_bn (fun _ _ kt kf => rs_icmp_ne (tgt := 30) (pc := 18) dX12_opens_18 rfl kt kf) (fun c_18 => ?_) (fun c_18 => ?_)
  · have g10 : ¬ de = 10 := fun z => c_18 (by rw [z]; rfl)
    refine wq (fun _ _ kk => rs_aload_n (pc := 30) dX12_opens_30 rfl kk) ?_
    refine wq (fun _ _ kk => rs_dup (pc := 31) dX12_opens_31 rfl kk) ?_
    refine wq (fun _ _ kk => rs_getf (pc := 32) dX12_opens_32 fX12_337 (md_lt hmd (by decide)) hmd.2.1 rfl kk) ?_
    rw [h27]
    refine wq (fun _ _ kk => rs_iconst (v := 1) (pc := 35) dX12_opens_35 rfl kk) ?_
    refine wq (fun _ _ kk => rs_iadd (pc := 36) dX12_opens_36 kk) ?_
    refine wq (fun _ _ kk => rs_putf (pc := 37) dX12_opens_37 fX12_337 (md_lt hmd (by decide)) hmd.2.1 rfl (Nat.le_of_ble_eq_true rfl) kk) ?_
    refine wq_gen (fun h_1 e_1 => ?_)
    obtain ⟨m_1, s_1, g_1, o_1⟩ := ai_e1 e_1
    replace hmd := md_at_si (k := 27) hmd m_1 g_1 o_1 rfl
    have E_1 := (md_ext.rf).trans (md_ext_of m_1 s_1 o_1 (by decide))
    obtain ⟨S_37, hmd, k_37, r_37, s_37⟩ := md_new hmd
    have X29 : S_37.1 29 = S.1 29 := by rw [r_37 29 (by decide)]
    refine wq (fun _ _ kk => rs_aload_n (pc := 40) dX12_opens_40 rfl kk) ?_
    refine wq (fun _ _ kk => rs_getf (pc := 41) dX12_opens_41 fX12_80 (md_lt hmd (by decide)) hmd.2.1 rfl kk) ?_
    refine wq (fun _ _ kk => rs_aload_n (pc := 44) dX12_opens_44 rfl kk) ?_
    refine wq (fun _ _ kk => rs_getf (pc := 45) dX12_opens_45 fX12_334 (md_lt hmd (by decide)) hmd.2.1 rfl kk) ?_
    rw [X29, h29]
    refine wq (fun _ _ kk => rs_iload_n (pc := 48) dX12_opens_48 rfl kk) ?_
    refine wq (fun _ _ kk => rs_iast (pc := 49) dX12_opens_49 (md_lt hmd (by decide)) (md_geti (d := 23) (k := 37) (kd := 0) (n := 402) rfl (by decide) hmd) (vp_in_nI (n := O.length) (N := 402) (by omega) (by decide)) kk) ?_
    refine wq_gen (fun h_2 e_2 => ?_)
    obtain ⟨m_2, s_2, g_2, o_2⟩ := ai_e1 e_2
    replace hmd := md_at_ai (d := 23) rfl (by decide) hmd m_2 g_2 o_2
    have E_2 := (E_1).trans (md_ext_of m_2 s_2 o_2 (by decide))
    rw [nI_clamp (show O.length < 2 ^ 31 by omega)] at hmd
    obtain ⟨S_49, hmd, k_49, a_49, b_49, c_49, d_49⟩ := md_row hmd
    refine wq (fun _ _ kk => rs_aload_n (pc := 50) dX12_opens_50 rfl kk) ?_
    refine wq (fun _ _ kk => rs_dup (pc := 51) dX12_opens_51 rfl kk) ?_
    refine wq (fun _ _ kk => rs_getf (pc := 52) dX12_opens_52 fX12_334 (md_lt hmd (by decide)) hmd.2.1 rfl kk) ?_
    rw [a_49, X29, h29]
    refine wq (fun _ _ kk => rs_iconst (v := 1) (pc := 55) dX12_opens_55 rfl kk) ?_
    refine wq (fun _ _ kk => rs_iadd (pc := 56) dX12_opens_56 kk) ?_
    refine wq (fun _ _ kk => rs_putf (pc := 57) dX12_opens_57 fX12_334 (md_lt hmd (by decide)) hmd.2.1 rfl (Nat.le_of_ble_eq_true rfl) kk) ?_
    refine wq_gen (fun h_3 e_3 => ?_)
    obtain ⟨m_3, s_3, g_3, o_3⟩ := ai_e1 e_3
    replace hmd := md_at_si (k := 29) hmd m_3 g_3 o_3 rfl
    have E_3 := (E_2).trans (md_ext_of m_3 s_3 o_3 (by decide))
    obtain ⟨S_57, hmd, k_57, r_57, s_57⟩ := md_new hmd
    rw [show nI O.length + 1 = nI (9 :: O).length from nI_1 O.length] at k_57
    refine wq_ret ?_ (rs_vret (pc := 60) dX12_opens_60 rfl)
    refine ⟨rfl, E_3, S_57, hmd, ⟨fun j a1 a2 a3 a4 a5 a6 => by rw [r_57 j a6, a_49, r_37 j a4], by rw [s_57, b_49, s_37], by rw [s_57, c_49, s_37], fun j b1 b2 b3 => by rw [s_57, d_49 j b3, s_37], fun i _ => by rw [s_57, d_49 31 (by decide), d_49 32 (by decide), s_37]; exact ⟨rfl, rfl⟩⟩, by rw [r_57 23 (by decide), a_49, r_37 23 (by decide)], by rw [r_57 26 (by decide), a_49, r_37 26 (by decide)], by rw [r_57 28 (by decide), a_49, r_37 28 (by decide)], by rw [s_57, d_49 31 (by decide), s_37], by rw [s_57, d_49 32 (by decide), s_37], k_57, ⟨by rw [s_57, k_49]; exact pk_us, by rw [s_57, k_49]; exact mo_on_cong (fun i hi => (pk_un (by omega)).trans (by rw [s_37])) h37⟩, by rw [r_57 24 (by decide), a_49, r_37 24 (by decide), if_neg g10], by rw [r_57 27 (by decide), a_49, k_37]; exact nI_1 de⟩
  · have g10 : de = 10 := tx_eq1 (b := 10) (by omega) (by decide) rfl c_18
    refine wq (fun _ _ kk => rs_aload_n (pc := 21) dX12_opens_21 rfl kk) ?_
    refine wq (fun _ _ kk => rs_iconst (v := 2) (pc := 22) dX12_opens_22 rfl kk) ?_
    refine wq (fun _ _ kk => rs_aload_n (pc := 23) dX12_opens_23 rfl kk) ?_
    refine wq (fun _ _ kk => rs_getf (pc := 24) dX12_opens_24 fX12_267 (md_lt hmd (by decide)) hmd.2.1 rfl kk) ?_
    rw [h23]
    obtain ⟨rv_27, hc_27, ⟨rfl, ee_27, T_27, hmd_27, q0, q3⟩, hm_27⟩ := c_X12_fails (c := 2) (a := a) hmd
    refine wq (fun _ _ kk => rs_callV (as := [_, _]) (pc := 27) dX12_opens_27 mk_X12_fails mlX12_303 in_X12_fails se_X12_fails rfl (md_lt hmd (by decide)) hmd.2.1 rfl rfl (Nat.le_of_ble_eq_true rfl) (hm_27) kk) ?_
    replace hmd := hmd_27
    have E_27 := (md_ext.rf).trans ee_27
    refine wq (fun _ _ kk => rs_aload_n (pc := 30) dX12_opens_30 rfl kk) ?_
    refine wq (fun _ _ kk => rs_dup (pc := 31) dX12_opens_31 rfl kk) ?_
    refine wq (fun _ _ kk => rs_getf (pc := 32) dX12_opens_32 fX12_337 (md_lt hmd (by decide)) hmd.2.1 rfl kk) ?_
    rw [q0.1 27 (by decide), h27]
    refine wq (fun _ _ kk => rs_iconst (v := 1) (pc := 35) dX12_opens_35 rfl kk) ?_
    refine wq (fun _ _ kk => rs_iadd (pc := 36) dX12_opens_36 kk) ?_
    refine wq (fun _ _ kk => rs_putf (pc := 37) dX12_opens_37 fX12_337 (md_lt hmd (by decide)) hmd.2.1 rfl (Nat.le_of_ble_eq_true rfl) kk) ?_
    refine wq_gen (fun h_4 e_4 => ?_)
    obtain ⟨m_4, s_4, g_4, o_4⟩ := ai_e1 e_4
    replace hmd := md_at_si (k := 27) hmd m_4 g_4 o_4 rfl
    have E_4 := (E_27).trans (md_ext_of m_4 s_4 o_4 (by decide))
    obtain ⟨S_37, hmd, k_37, r_37, s_37⟩ := md_new hmd
    have X29 : S_37.1 29 = S.1 29 := by rw [r_37 29 (by decide), q0.1 29 (by decide)]
    refine wq (fun _ _ kk => rs_aload_n (pc := 40) dX12_opens_40 rfl kk) ?_
    refine wq (fun _ _ kk => rs_getf (pc := 41) dX12_opens_41 fX12_80 (md_lt hmd (by decide)) hmd.2.1 rfl kk) ?_
    refine wq (fun _ _ kk => rs_aload_n (pc := 44) dX12_opens_44 rfl kk) ?_
    refine wq (fun _ _ kk => rs_getf (pc := 45) dX12_opens_45 fX12_334 (md_lt hmd (by decide)) hmd.2.1 rfl kk) ?_
    rw [X29, h29]
    refine wq (fun _ _ kk => rs_iload_n (pc := 48) dX12_opens_48 rfl kk) ?_
    refine wq (fun _ _ kk => rs_iast (pc := 49) dX12_opens_49 (md_lt hmd (by decide)) (md_geti (d := 23) (k := 37) (kd := 0) (n := 402) rfl (by decide) hmd) (vp_in_nI (n := O.length) (N := 402) (by omega) (by decide)) kk) ?_
    refine wq_gen (fun h_5 e_5 => ?_)
    obtain ⟨m_5, s_5, g_5, o_5⟩ := ai_e1 e_5
    replace hmd := md_at_ai (d := 23) rfl (by decide) hmd m_5 g_5 o_5
    have E_5 := (E_4).trans (md_ext_of m_5 s_5 o_5 (by decide))
    rw [nI_clamp (show O.length < 2 ^ 31 by omega)] at hmd
    obtain ⟨S_49, hmd, k_49, a_49, b_49, c_49, d_49⟩ := md_row hmd
    refine wq (fun _ _ kk => rs_aload_n (pc := 50) dX12_opens_50 rfl kk) ?_
    refine wq (fun _ _ kk => rs_dup (pc := 51) dX12_opens_51 rfl kk) ?_
    refine wq (fun _ _ kk => rs_getf (pc := 52) dX12_opens_52 fX12_334 (md_lt hmd (by decide)) hmd.2.1 rfl kk) ?_
    rw [a_49, X29, h29]
    refine wq (fun _ _ kk => rs_iconst (v := 1) (pc := 55) dX12_opens_55 rfl kk) ?_
    refine wq (fun _ _ kk => rs_iadd (pc := 56) dX12_opens_56 kk) ?_
    refine wq (fun _ _ kk => rs_putf (pc := 57) dX12_opens_57 fX12_334 (md_lt hmd (by decide)) hmd.2.1 rfl (Nat.le_of_ble_eq_true rfl) kk) ?_
    refine wq_gen (fun h_6 e_6 => ?_)
    obtain ⟨m_6, s_6, g_6, o_6⟩ := ai_e1 e_6
    replace hmd := md_at_si (k := 29) hmd m_6 g_6 o_6 rfl
    have E_6 := (E_5).trans (md_ext_of m_6 s_6 o_6 (by decide))
    obtain ⟨S_57, hmd, k_57, r_57, s_57⟩ := md_new hmd
    rw [show nI O.length + 1 = nI (9 :: O).length from nI_1 O.length] at k_57
    refine wq_ret ?_ (rs_vret (pc := 60) dX12_opens_60 rfl)
    refine ⟨rfl, E_6, S_57, hmd, ⟨fun j a1 a2 a3 a4 a5 a6 => by rw [r_57 j a6, a_49, r_37 j a4, q0.1 j a2], by rw [s_57, b_49, s_37, q0.2], by rw [s_57, c_49, s_37, q0.2], fun j b1 b2 b3 => by rw [s_57, d_49 j b3, s_37, q0.2], fun i _ => by rw [s_57, d_49 31 (by decide), d_49 32 (by decide), s_37, q0.2]; exact ⟨rfl, rfl⟩⟩, by rw [r_57 23 (by decide), a_49, r_37 23 (by decide), q0.1 23 (by decide)]; exact h23, by rw [r_57 26 (by decide), a_49, r_37 26 (by decide), q0.1 26 (by decide)], by rw [r_57 28 (by decide), a_49, r_37 28 (by decide), q0.1 28 (by decide)], by rw [s_57, d_49 31 (by decide), s_37, q0.2], by rw [s_57, d_49 32 (by decide), s_37, q0.2], k_57, ⟨by rw [s_57, k_49]; exact pk_us, by rw [s_57, k_49]; exact mo_on_cong (fun i hi => (pk_un (by omega)).trans (by rw [s_37, q0.2])) h37⟩, by rw [r_57 24 (by decide), a_49, r_37 24 (by decide), q3, if_pos g10], by rw [r_57 27 (by decide), a_49, k_37]; exact nI_1 de⟩
set_option maxRecDepth 100000 in
set_option maxHeartbeats 4000000 in
theorem c_X12_opens12 {h : ai_H} {S : Md} {O : List Nat} {r de a : Nat} (hmd : md_at h S) (h27 : S.1 27 = nI de) (hde : de ≤ 100) (h29 : S.1 29 = nI O.length) (hO : O.length ≤ 400) (h37 : mo_on O (S.2.2.1 37)) (h23 : S.1 23 = nI a) : ai_QM MX12_opens [.ref 307, .int 12] h (fun rv g => rv = none ∧ md_ext h g ∧ ∃ T, md_at g T ∧ pfm r S T ∧ T.1 23 = S.1 23 ∧ T.1 26 = S.1 26 ∧ T.1 28 = S.1 28 ∧ T.2.2.1 31 = S.2.2.1 31 ∧ T.2.2.1 32 = S.2.2.1 32 ∧ T.1 29 = nI (12 :: O).length ∧ mo_on (12 :: O) (T.2.2.1 37) ∧ T.1 24 = (if de = 10 then (if S.1 24 = 0 then nI (1 + 8 * a + 2) else S.1 24) else S.1 24) ∧ T.1 27 = nI (de + 1)) := by
  refine qm_of (ls := [.ref 307, .int 12]) (by decide) (by simp [ai_en, Value.category]) (by rfl) ?_
  refine wq (fun _ _ kk => rs_iload_n (pc := 0) dX12_opens_0 rfl kk) ?_
  refine wq (fun _ _ kk => rs_bipush (v := 9) (pc := 1) dX12_opens_1 rfl kk) ?_
  refine wq_br (fun _ _ kt kf => rs_icmp_eq (tgt := 12) (pc := 3) dX12_opens_3 rfl kt kf) (fun c_3 => absurd c_3 (by decide)) (fun c_3 => ?_)
  refine wq (fun _ _ kk => rs_iload_n (pc := 6) dX12_opens_6 rfl kk) ?_
  refine wq (fun _ _ kk => rs_bipush (v := 12) (pc := 7) dX12_opens_7 rfl kk) ?_
  refine wq_bn (fun _ _ kt kf => rs_icmp_ne (tgt := 40) (pc := 9) dX12_opens_9 rfl kt kf) (fun c_9 => absurd c_9 (by decide)) (fun c_9 => ?_)
  refine wq (fun _ _ kk => rs_aload_n (pc := 12) dX12_opens_12 rfl kk) ?_
  refine wq (fun _ _ kk => rs_getf (pc := 13) dX12_opens_13 fX12_337 (md_lt hmd (by decide)) hmd.2.1 rfl kk) ?_
  rw [h27]
  refine wq (fun _ _ kk => rs_bipush (v := 10) (pc := 16) dX12_opens_16 rfl kk) ?_
  refine wq_bn (fun _ _ kt kf => rs_icmp_ne (tgt := 30) (pc := 18) dX12_opens_18 rfl kt kf) (fun c_18 => ?_) (fun c_18 => ?_)
  · have g10 : ¬ de = 10 := fun z => c_18 (by rw [z]; rfl)
    refine wq (fun _ _ kk => rs_aload_n (pc := 30) dX12_opens_30 rfl kk) ?_
    refine wq (fun _ _ kk => rs_dup (pc := 31) dX12_opens_31 rfl kk) ?_
    refine wq (fun _ _ kk => rs_getf (pc := 32) dX12_opens_32 fX12_337 (md_lt hmd (by decide)) hmd.2.1 rfl kk) ?_
    rw [h27]
    refine wq (fun _ _ kk => rs_iconst (v := 1) (pc := 35) dX12_opens_35 rfl kk) ?_
    refine wq (fun _ _ kk => rs_iadd (pc := 36) dX12_opens_36 kk) ?_
    refine wq (fun _ _ kk => rs_putf (pc := 37) dX12_opens_37 fX12_337 (md_lt hmd (by decide)) hmd.2.1 rfl (Nat.le_of_ble_eq_true rfl) kk) ?_
    refine wq_gen (fun h_1 e_1 => ?_)
    obtain ⟨m_1, s_1, g_1, o_1⟩ := ai_e1 e_1
    replace hmd := md_at_si (k := 27) hmd m_1 g_1 o_1 rfl
    have E_1 := (md_ext.rf).trans (md_ext_of m_1 s_1 o_1 (by decide))
    obtain ⟨S_37, hmd, k_37, r_37, s_37⟩ := md_new hmd
    have X29 : S_37.1 29 = S.1 29 := by rw [r_37 29 (by decide)]
    refine wq (fun _ _ kk => rs_aload_n (pc := 40) dX12_opens_40 rfl kk) ?_
    refine wq (fun _ _ kk => rs_getf (pc := 41) dX12_opens_41 fX12_80 (md_lt hmd (by decide)) hmd.2.1 rfl kk) ?_
    refine wq (fun _ _ kk => rs_aload_n (pc := 44) dX12_opens_44 rfl kk) ?_
    refine wq (fun _ _ kk => rs_getf (pc := 45) dX12_opens_45 fX12_334 (md_lt hmd (by decide)) hmd.2.1 rfl kk) ?_
    rw [X29, h29]
    refine wq (fun _ _ kk => rs_iload_n (pc := 48) dX12_opens_48 rfl kk) ?_
    refine wq (fun _ _ kk => rs_iast (pc := 49) dX12_opens_49 (md_lt hmd (by decide)) (md_geti (d := 23) (k := 37) (kd := 0) (n := 402) rfl (by decide) hmd) (vp_in_nI (n := O.length) (N := 402) (by omega) (by decide)) kk) ?_
    refine wq_gen (fun h_2 e_2 => ?_)
    obtain ⟨m_2, s_2, g_2, o_2⟩ := ai_e1 e_2
    replace hmd := md_at_ai (d := 23) rfl (by decide) hmd m_2 g_2 o_2
    have E_2 := (E_1).trans (md_ext_of m_2 s_2 o_2 (by decide))
    rw [nI_clamp (show O.length < 2 ^ 31 by omega)] at hmd
    obtain ⟨S_49, hmd, k_49, a_49, b_49, c_49, d_49⟩ := md_row hmd
    refine wq (fun _ _ kk => rs_aload_n (pc := 50) dX12_opens_50 rfl kk) ?_
    refine wq (fun _ _ kk => rs_dup (pc := 51) dX12_opens_51 rfl kk) ?_
    refine wq (fun _ _ kk => rs_getf (pc := 52) dX12_opens_52 fX12_334 (md_lt hmd (by decide)) hmd.2.1 rfl kk) ?_
    rw [a_49, X29, h29]
    refine wq (fun _ _ kk => rs_iconst (v := 1) (pc := 55) dX12_opens_55 rfl kk) ?_
    refine wq (fun _ _ kk => rs_iadd (pc := 56) dX12_opens_56 kk) ?_
    refine wq (fun _ _ kk => rs_putf (pc := 57) dX12_opens_57 fX12_334 (md_lt hmd (by decide)) hmd.2.1 rfl (Nat.le_of_ble_eq_true rfl) kk) ?_
    refine wq_gen (fun h_3 e_3 => ?_)
    obtain ⟨m_3, s_3, g_3, o_3⟩ := ai_e1 e_3
    replace hmd := md_at_si (k := 29) hmd m_3 g_3 o_3 rfl
    have E_3 := (E_2).trans (md_ext_of m_3 s_3 o_3 (by decide))
    obtain ⟨S_57, hmd, k_57, r_57, s_57⟩ := md_new hmd
    rw [show nI O.length + 1 = nI (12 :: O).length from nI_1 O.length] at k_57
    refine wq_ret ?_ (rs_vret (pc := 60) dX12_opens_60 rfl)
    refine ⟨rfl, E_3, S_57, hmd, ⟨fun j a1 a2 a3 a4 a5 a6 => by rw [r_57 j a6, a_49, r_37 j a4], by rw [s_57, b_49, s_37], by rw [s_57, c_49, s_37], fun j b1 b2 b3 => by rw [s_57, d_49 j b3, s_37], fun i _ => by rw [s_57, d_49 31 (by decide), d_49 32 (by decide), s_37]; exact ⟨rfl, rfl⟩⟩, by rw [r_57 23 (by decide), a_49, r_37 23 (by decide)], by rw [r_57 26 (by decide), a_49, r_37 26 (by decide)], by rw [r_57 28 (by decide), a_49, r_37 28 (by decide)], by rw [s_57, d_49 31 (by decide), s_37], by rw [s_57, d_49 32 (by decide), s_37], k_57, ⟨by rw [s_57, k_49]; exact pk_us, by rw [s_57, k_49]; exact mo_on_cong (fun i hi => (pk_un (by omega)).trans (by rw [s_37])) h37⟩, by rw [r_57 24 (by decide), a_49, r_37 24 (by decide), if_neg g10], by rw [r_57 27 (by decide), a_49, k_37]; exact nI_1 de⟩
  · have g10 : de = 10 := tx_eq1 (b := 10) (by omega) (by decide) rfl c_18
    refine wq (fun _ _ kk => rs_aload_n (pc := 21) dX12_opens_21 rfl kk) ?_
    refine wq (fun _ _ kk => rs_iconst (v := 2) (pc := 22) dX12_opens_22 rfl kk) ?_
    refine wq (fun _ _ kk => rs_aload_n (pc := 23) dX12_opens_23 rfl kk) ?_
    refine wq (fun _ _ kk => rs_getf (pc := 24) dX12_opens_24 fX12_267 (md_lt hmd (by decide)) hmd.2.1 rfl kk) ?_
    rw [h23]
    obtain ⟨rv_27, hc_27, ⟨rfl, ee_27, T_27, hmd_27, q0, q3⟩, hm_27⟩ := c_X12_fails (c := 2) (a := a) hmd
    refine wq (fun _ _ kk => rs_callV (as := [_, _]) (pc := 27) dX12_opens_27 mk_X12_fails mlX12_303 in_X12_fails se_X12_fails rfl (md_lt hmd (by decide)) hmd.2.1 rfl rfl (Nat.le_of_ble_eq_true rfl) (hm_27) kk) ?_
    replace hmd := hmd_27
    have E_27 := (md_ext.rf).trans ee_27
    refine wq (fun _ _ kk => rs_aload_n (pc := 30) dX12_opens_30 rfl kk) ?_
    refine wq (fun _ _ kk => rs_dup (pc := 31) dX12_opens_31 rfl kk) ?_
    refine wq (fun _ _ kk => rs_getf (pc := 32) dX12_opens_32 fX12_337 (md_lt hmd (by decide)) hmd.2.1 rfl kk) ?_
    rw [q0.1 27 (by decide), h27]
    refine wq (fun _ _ kk => rs_iconst (v := 1) (pc := 35) dX12_opens_35 rfl kk) ?_
    refine wq (fun _ _ kk => rs_iadd (pc := 36) dX12_opens_36 kk) ?_
    refine wq (fun _ _ kk => rs_putf (pc := 37) dX12_opens_37 fX12_337 (md_lt hmd (by decide)) hmd.2.1 rfl (Nat.le_of_ble_eq_true rfl) kk) ?_
    refine wq_gen (fun h_4 e_4 => ?_)
    obtain ⟨m_4, s_4, g_4, o_4⟩ := ai_e1 e_4
    replace hmd := md_at_si (k := 27) hmd m_4 g_4 o_4 rfl
    have E_4 := (E_27).trans (md_ext_of m_4 s_4 o_4 (by decide))
    obtain ⟨S_37, hmd, k_37, r_37, s_37⟩ := md_new hmd
    have X29 : S_37.1 29 = S.1 29 := by rw [r_37 29 (by decide), q0.1 29 (by decide)]
    refine wq (fun _ _ kk => rs_aload_n (pc := 40) dX12_opens_40 rfl kk) ?_
    refine wq (fun _ _ kk => rs_getf (pc := 41) dX12_opens_41 fX12_80 (md_lt hmd (by decide)) hmd.2.1 rfl kk) ?_
    refine wq (fun _ _ kk => rs_aload_n (pc := 44) dX12_opens_44 rfl kk) ?_
    refine wq (fun _ _ kk => rs_getf (pc := 45) dX12_opens_45 fX12_334 (md_lt hmd (by decide)) hmd.2.1 rfl kk) ?_
    rw [X29, h29]
    refine wq (fun _ _ kk => rs_iload_n (pc := 48) dX12_opens_48 rfl kk) ?_
    refine wq (fun _ _ kk => rs_iast (pc := 49) dX12_opens_49 (md_lt hmd (by decide)) (md_geti (d := 23) (k := 37) (kd := 0) (n := 402) rfl (by decide) hmd) (vp_in_nI (n := O.length) (N := 402) (by omega) (by decide)) kk) ?_
    refine wq_gen (fun h_5 e_5 => ?_)
    obtain ⟨m_5, s_5, g_5, o_5⟩ := ai_e1 e_5
    replace hmd := md_at_ai (d := 23) rfl (by decide) hmd m_5 g_5 o_5
    have E_5 := (E_4).trans (md_ext_of m_5 s_5 o_5 (by decide))
    rw [nI_clamp (show O.length < 2 ^ 31 by omega)] at hmd
    obtain ⟨S_49, hmd, k_49, a_49, b_49, c_49, d_49⟩ := md_row hmd
    refine wq (fun _ _ kk => rs_aload_n (pc := 50) dX12_opens_50 rfl kk) ?_
    refine wq (fun _ _ kk => rs_dup (pc := 51) dX12_opens_51 rfl kk) ?_
    refine wq (fun _ _ kk => rs_getf (pc := 52) dX12_opens_52 fX12_334 (md_lt hmd (by decide)) hmd.2.1 rfl kk) ?_
    rw [a_49, X29, h29]
    refine wq (fun _ _ kk => rs_iconst (v := 1) (pc := 55) dX12_opens_55 rfl kk) ?_
    refine wq (fun _ _ kk => rs_iadd (pc := 56) dX12_opens_56 kk) ?_
    refine wq (fun _ _ kk => rs_putf (pc := 57) dX12_opens_57 fX12_334 (md_lt hmd (by decide)) hmd.2.1 rfl (Nat.le_of_ble_eq_true rfl) kk) ?_
    refine wq_gen (fun h_6 e_6 => ?_)
    obtain ⟨m_6, s_6, g_6, o_6⟩ := ai_e1 e_6
    replace hmd := md_at_si (k := 29) hmd m_6 g_6 o_6 rfl
    have E_6 := (E_5).trans (md_ext_of m_6 s_6 o_6 (by decide))
    obtain ⟨S_57, hmd, k_57, r_57, s_57⟩ := md_new hmd
    rw [show nI O.length + 1 = nI (12 :: O).length from nI_1 O.length] at k_57
    refine wq_ret ?_ (rs_vret (pc := 60) dX12_opens_60 rfl)
    refine ⟨rfl, E_6, S_57, hmd, ⟨fun j a1 a2 a3 a4 a5 a6 => by rw [r_57 j a6, a_49, r_37 j a4, q0.1 j a2], by rw [s_57, b_49, s_37, q0.2], by rw [s_57, c_49, s_37, q0.2], fun j b1 b2 b3 => by rw [s_57, d_49 j b3, s_37, q0.2], fun i _ => by rw [s_57, d_49 31 (by decide), d_49 32 (by decide), s_37, q0.2]; exact ⟨rfl, rfl⟩⟩, by rw [r_57 23 (by decide), a_49, r_37 23 (by decide), q0.1 23 (by decide)]; exact h23, by rw [r_57 26 (by decide), a_49, r_37 26 (by decide), q0.1 26 (by decide)], by rw [r_57 28 (by decide), a_49, r_37 28 (by decide), q0.1 28 (by decide)], by rw [s_57, d_49 31 (by decide), s_37, q0.2], by rw [s_57, d_49 32 (by decide), s_37, q0.2], k_57, ⟨by rw [s_57, k_49]; exact pk_us, by rw [s_57, k_49]; exact mo_on_cong (fun i hi => (pk_un (by omega)).trans (by rw [s_37, q0.2])) h37⟩, by rw [r_57 24 (by decide), a_49, r_37 24 (by decide), q3, if_pos g10], by rw [r_57 27 (by decide), a_49, k_37]; exact nI_1 de⟩
set_option maxRecDepth 100000 in
set_option maxHeartbeats 4000000 in
theorem c_X12_opens10 {h : ai_H} {S : Md} {O : List Nat} {r de : Nat} (hmd : md_at h S) (h27 : S.1 27 = nI de) (hde : de ≤ 100) (h29 : S.1 29 = nI O.length) (hO : O.length ≤ 400) (h37 : mo_on O (S.2.2.1 37)) : ai_QM MX12_opens [.ref 307, .int 10] h (fun rv g => rv = none ∧ md_ext h g ∧ ∃ T, md_at g T ∧ pfm r S T ∧ T.1 23 = S.1 23 ∧ T.1 26 = S.1 26 ∧ T.1 28 = S.1 28 ∧ T.2.2.1 31 = S.2.2.1 31 ∧ T.2.2.1 32 = S.2.2.1 32 ∧ T.1 29 = nI (10 :: O).length ∧ mo_on (10 :: O) (T.2.2.1 37) ∧ T.1 24 = S.1 24 ∧ T.1 27 = nI de) := by
  refine qm_of (ls := [.ref 307, .int 10]) (by decide) (by simp [ai_en, Value.category]) (by rfl) ?_
  refine wq (fun _ _ kk => rs_iload_n (pc := 0) dX12_opens_0 rfl kk) ?_
  refine wq (fun _ _ kk => rs_bipush (v := 9) (pc := 1) dX12_opens_1 rfl kk) ?_
  refine wq_br (fun _ _ kt kf => rs_icmp_eq (tgt := 12) (pc := 3) dX12_opens_3 rfl kt kf) (fun c_3 => absurd c_3 (by decide)) (fun c_3 => ?_)
  refine wq (fun _ _ kk => rs_iload_n (pc := 6) dX12_opens_6 rfl kk) ?_
  refine wq (fun _ _ kk => rs_bipush (v := 12) (pc := 7) dX12_opens_7 rfl kk) ?_
  refine wq_bn (fun _ _ kt kf => rs_icmp_ne (tgt := 40) (pc := 9) dX12_opens_9 rfl kt kf) (fun c_9 => ?_) (fun c_9 => absurd c_9 (by decide))
  refine wq (fun _ _ kk => rs_aload_n (pc := 40) dX12_opens_40 rfl kk) ?_
  refine wq (fun _ _ kk => rs_getf (pc := 41) dX12_opens_41 fX12_80 (md_lt hmd (by decide)) hmd.2.1 rfl kk) ?_
  refine wq (fun _ _ kk => rs_aload_n (pc := 44) dX12_opens_44 rfl kk) ?_
  refine wq (fun _ _ kk => rs_getf (pc := 45) dX12_opens_45 fX12_334 (md_lt hmd (by decide)) hmd.2.1 rfl kk) ?_
  rw [h29]
  refine wq (fun _ _ kk => rs_iload_n (pc := 48) dX12_opens_48 rfl kk) ?_
  refine wq (fun _ _ kk => rs_iast (pc := 49) dX12_opens_49 (md_lt hmd (by decide)) (md_geti (d := 23) (k := 37) (kd := 0) (n := 402) rfl (by decide) hmd) (vp_in_nI (n := O.length) (N := 402) (by omega) (by decide)) kk) ?_
  refine wq_gen (fun h_1 e_1 => ?_)
  obtain ⟨m_1, s_1, g_1, o_1⟩ := ai_e1 e_1
  replace hmd := md_at_ai (d := 23) rfl (by decide) hmd m_1 g_1 o_1
  have E_1 := (md_ext.rf).trans (md_ext_of m_1 s_1 o_1 (by decide))
  rw [nI_clamp (show O.length < 2 ^ 31 by omega)] at hmd
  obtain ⟨S_49, hmd, k_49, a_49, b_49, c_49, d_49⟩ := md_row hmd
  refine wq (fun _ _ kk => rs_aload_n (pc := 50) dX12_opens_50 rfl kk) ?_
  refine wq (fun _ _ kk => rs_dup (pc := 51) dX12_opens_51 rfl kk) ?_
  refine wq (fun _ _ kk => rs_getf (pc := 52) dX12_opens_52 fX12_334 (md_lt hmd (by decide)) hmd.2.1 rfl kk) ?_
  rw [a_49, h29]
  refine wq (fun _ _ kk => rs_iconst (v := 1) (pc := 55) dX12_opens_55 rfl kk) ?_
  refine wq (fun _ _ kk => rs_iadd (pc := 56) dX12_opens_56 kk) ?_
  refine wq (fun _ _ kk => rs_putf (pc := 57) dX12_opens_57 fX12_334 (md_lt hmd (by decide)) hmd.2.1 rfl (Nat.le_of_ble_eq_true rfl) kk) ?_
  refine wq_gen (fun h_2 e_2 => ?_)
  obtain ⟨m_2, s_2, g_2, o_2⟩ := ai_e1 e_2
  replace hmd := md_at_si (k := 29) hmd m_2 g_2 o_2 rfl
  have E_2 := (E_1).trans (md_ext_of m_2 s_2 o_2 (by decide))
  obtain ⟨S_57, hmd, k_57, r_57, s_57⟩ := md_new hmd
  rw [show nI O.length + 1 = nI (10 :: O).length from nI_1 O.length] at k_57
  refine wq_ret ?_ (rs_vret (pc := 60) dX12_opens_60 rfl)
  refine ⟨rfl, E_2, S_57, hmd, ⟨fun j a1 a2 a3 a4 a5 a6 => by rw [r_57 j a6, a_49], by rw [s_57, b_49], by rw [s_57, c_49], fun j b1 b2 b3 => by rw [s_57, d_49 j b3], fun i _ => by rw [s_57, d_49 31 (by decide), d_49 32 (by decide)]; exact ⟨rfl, rfl⟩⟩, by rw [r_57 23 (by decide), a_49], by rw [r_57 26 (by decide), a_49], by rw [r_57 28 (by decide), a_49], by rw [s_57, d_49 31 (by decide)], by rw [s_57, d_49 32 (by decide)], k_57, ⟨by rw [s_57, k_49]; exact pk_us, by rw [s_57, k_49]; exact mo_on_cong (fun i hi => pk_un (by omega)) h37⟩, by rw [r_57 24 (by decide), a_49], by rw [r_57 27 (by decide), a_49]; exact h27⟩
set_option maxRecDepth 100000 in
set_option maxHeartbeats 4000000 in
theorem c_X12_opens11 {h : ai_H} {S : Md} {O : List Nat} {r de : Nat} (hmd : md_at h S) (h27 : S.1 27 = nI de) (hde : de ≤ 100) (h29 : S.1 29 = nI O.length) (hO : O.length ≤ 400) (h37 : mo_on O (S.2.2.1 37)) : ai_QM MX12_opens [.ref 307, .int 11] h (fun rv g => rv = none ∧ md_ext h g ∧ ∃ T, md_at g T ∧ pfm r S T ∧ T.1 23 = S.1 23 ∧ T.1 26 = S.1 26 ∧ T.1 28 = S.1 28 ∧ T.2.2.1 31 = S.2.2.1 31 ∧ T.2.2.1 32 = S.2.2.1 32 ∧ T.1 29 = nI (11 :: O).length ∧ mo_on (11 :: O) (T.2.2.1 37) ∧ T.1 24 = S.1 24 ∧ T.1 27 = nI de) := by
  refine qm_of (ls := [.ref 307, .int 11]) (by decide) (by simp [ai_en, Value.category]) (by rfl) ?_
  refine wq (fun _ _ kk => rs_iload_n (pc := 0) dX12_opens_0 rfl kk) ?_
  refine wq (fun _ _ kk => rs_bipush (v := 9) (pc := 1) dX12_opens_1 rfl kk) ?_
  refine wq_br (fun _ _ kt kf => rs_icmp_eq (tgt := 12) (pc := 3) dX12_opens_3 rfl kt kf) (fun c_3 => absurd c_3 (by decide)) (fun c_3 => ?_)
  refine wq (fun _ _ kk => rs_iload_n (pc := 6) dX12_opens_6 rfl kk) ?_
  refine wq (fun _ _ kk => rs_bipush (v := 12) (pc := 7) dX12_opens_7 rfl kk) ?_
  refine wq_bn (fun _ _ kt kf => rs_icmp_ne (tgt := 40) (pc := 9) dX12_opens_9 rfl kt kf) (fun c_9 => ?_) (fun c_9 => absurd c_9 (by decide))
  refine wq (fun _ _ kk => rs_aload_n (pc := 40) dX12_opens_40 rfl kk) ?_
  refine wq (fun _ _ kk => rs_getf (pc := 41) dX12_opens_41 fX12_80 (md_lt hmd (by decide)) hmd.2.1 rfl kk) ?_
  refine wq (fun _ _ kk => rs_aload_n (pc := 44) dX12_opens_44 rfl kk) ?_
  refine wq (fun _ _ kk => rs_getf (pc := 45) dX12_opens_45 fX12_334 (md_lt hmd (by decide)) hmd.2.1 rfl kk) ?_
  rw [h29]
  refine wq (fun _ _ kk => rs_iload_n (pc := 48) dX12_opens_48 rfl kk) ?_
  refine wq (fun _ _ kk => rs_iast (pc := 49) dX12_opens_49 (md_lt hmd (by decide)) (md_geti (d := 23) (k := 37) (kd := 0) (n := 402) rfl (by decide) hmd) (vp_in_nI (n := O.length) (N := 402) (by omega) (by decide)) kk) ?_
  refine wq_gen (fun h_1 e_1 => ?_)
  obtain ⟨m_1, s_1, g_1, o_1⟩ := ai_e1 e_1
  replace hmd := md_at_ai (d := 23) rfl (by decide) hmd m_1 g_1 o_1
  have E_1 := (md_ext.rf).trans (md_ext_of m_1 s_1 o_1 (by decide))
  rw [nI_clamp (show O.length < 2 ^ 31 by omega)] at hmd
  obtain ⟨S_49, hmd, k_49, a_49, b_49, c_49, d_49⟩ := md_row hmd
  refine wq (fun _ _ kk => rs_aload_n (pc := 50) dX12_opens_50 rfl kk) ?_
  refine wq (fun _ _ kk => rs_dup (pc := 51) dX12_opens_51 rfl kk) ?_
  refine wq (fun _ _ kk => rs_getf (pc := 52) dX12_opens_52 fX12_334 (md_lt hmd (by decide)) hmd.2.1 rfl kk) ?_
  rw [a_49, h29]
  refine wq (fun _ _ kk => rs_iconst (v := 1) (pc := 55) dX12_opens_55 rfl kk) ?_
  refine wq (fun _ _ kk => rs_iadd (pc := 56) dX12_opens_56 kk) ?_
  refine wq (fun _ _ kk => rs_putf (pc := 57) dX12_opens_57 fX12_334 (md_lt hmd (by decide)) hmd.2.1 rfl (Nat.le_of_ble_eq_true rfl) kk) ?_
  refine wq_gen (fun h_2 e_2 => ?_)
  obtain ⟨m_2, s_2, g_2, o_2⟩ := ai_e1 e_2
  replace hmd := md_at_si (k := 29) hmd m_2 g_2 o_2 rfl
  have E_2 := (E_1).trans (md_ext_of m_2 s_2 o_2 (by decide))
  obtain ⟨S_57, hmd, k_57, r_57, s_57⟩ := md_new hmd
  rw [show nI O.length + 1 = nI (11 :: O).length from nI_1 O.length] at k_57
  refine wq_ret ?_ (rs_vret (pc := 60) dX12_opens_60 rfl)
  refine ⟨rfl, E_2, S_57, hmd, ⟨fun j a1 a2 a3 a4 a5 a6 => by rw [r_57 j a6, a_49], by rw [s_57, b_49], by rw [s_57, c_49], fun j b1 b2 b3 => by rw [s_57, d_49 j b3], fun i _ => by rw [s_57, d_49 31 (by decide), d_49 32 (by decide)]; exact ⟨rfl, rfl⟩⟩, by rw [r_57 23 (by decide), a_49], by rw [r_57 26 (by decide), a_49], by rw [r_57 28 (by decide), a_49], by rw [s_57, d_49 31 (by decide)], by rw [s_57, d_49 32 (by decide)], k_57, ⟨by rw [s_57, k_49]; exact pk_us, by rw [s_57, k_49]; exact mo_on_cong (fun i hi => pk_un (by omega)) h37⟩, by rw [r_57 24 (by decide), a_49], by rw [r_57 27 (by decide), a_49]; exact h27⟩
def pop (k : Nat) (O : List Nat) : List Nat := O.takeWhile (fun x => decide (x = k))
def rst (k : Nat) (O : List Nat) : List Nat := O.dropWhile (fun x => decide (x = k))
theorem pop_y {k : Nat} {l : List Nat} : pop k (k :: l) = k :: pop k l := List.takeWhile_cons_of_pos (decide_eq_true rfl)
theorem rst_y {k : Nat} {l : List Nat} : rst k (k :: l) = rst k l := List.dropWhile_cons_of_pos (decide_eq_true rfl)
theorem pop_n {k x : Nat} {l : List Nat} (h : x ≠ k) : pop k (x :: l) = [] := List.takeWhile_cons_of_neg (fun z => h (of_decide_eq_true z))
theorem rst_n {k x : Nat} {l : List Nat} (h : x ≠ k) : rst k (x :: l) = x :: l := List.dropWhile_cons_of_neg (fun z => h (of_decide_eq_true z))
theorem dX12_answers_0 : decode cX12_answers 0 = .ok (.aload_n 0, 1) := by decide +kernel
theorem dX12_answers_1 : decode cX12_answers 1 = .ok (.invokevirtual 340, 3) := by decide +kernel
theorem dX12_answers_4 : decode cX12_answers 4 = .ok (.iload_n 1, 1) := by decide +kernel
theorem dX12_answers_5 : decode cX12_answers 5 = .ok (.if_icmp .ne 49, 3) := by decide +kernel
theorem dX12_answers_8 : decode cX12_answers 8 = .ok (.aload_n 0, 1) := by decide +kernel
theorem dX12_answers_9 : decode cX12_answers 9 = .ok (.getfield 264, 3) := by decide +kernel
theorem dX12_answers_12 : decode cX12_answers 12 = .ok (.ifCond .ne 42, 3) := by decide +kernel
theorem dX12_answers_15 : decode cX12_answers 15 = .ok (.aload_n 0, 1) := by decide +kernel
theorem dX12_answers_16 : decode cX12_answers 16 = .ok (.iload_n 1, 1) := by decide +kernel
theorem dX12_answers_17 : decode cX12_answers 17 = .ok (.iconst 0, 1) := by decide +kernel
theorem dX12_answers_18 : decode cX12_answers 18 = .ok (.invokevirtual 318, 3) := by decide +kernel
theorem dX12_answers_21 : decode cX12_answers 21 = .ok (.aload_n 0, 1) := by decide +kernel
theorem dX12_answers_22 : decode cX12_answers 22 = .ok (.dup, 1) := by decide +kernel
theorem dX12_answers_23 : decode cX12_answers 23 = .ok (.getfield 334, 3) := by decide +kernel
theorem dX12_answers_26 : decode cX12_answers 26 = .ok (.iconst 1, 1) := by decide +kernel
theorem dX12_answers_27 : decode cX12_answers 27 = .ok (.isub, 1) := by decide +kernel
theorem dX12_answers_28 : decode cX12_answers 28 = .ok (.putfield 334, 3) := by decide +kernel
theorem dX12_answers_31 : decode cX12_answers 31 = .ok (.aload_n 0, 1) := by decide +kernel
theorem dX12_answers_32 : decode cX12_answers 32 = .ok (.dup, 1) := by decide +kernel
theorem dX12_answers_33 : decode cX12_answers 33 = .ok (.getfield 337, 3) := by decide +kernel
theorem dX12_answers_36 : decode cX12_answers 36 = .ok (.iload_n 1, 1) := by decide +kernel
theorem dX12_answers_37 : decode cX12_answers 37 = .ok (.bipush 9, 2) := by decide +kernel
theorem dX12_answers_39 : decode cX12_answers 39 = .ok (.if_icmp .ne 7, 3) := by decide +kernel
theorem dX12_answers_42 : decode cX12_answers 42 = .ok (.iconst 1, 1) := by decide +kernel
theorem dX12_answers_43 : decode cX12_answers 43 = .ok (.goto 4, 3) := by decide +kernel
theorem dX12_answers_46 : decode cX12_answers 46 = .ok (.iconst 0, 1) := by decide +kernel
theorem dX12_answers_47 : decode cX12_answers 47 = .ok (.isub, 1) := by decide +kernel
theorem dX12_answers_48 : decode cX12_answers 48 = .ok (.putfield 337, 3) := by decide +kernel
theorem dX12_answers_51 : decode cX12_answers 51 = .ok (.goto (-51), 3) := by decide +kernel
theorem dX12_answers_54 : decode cX12_answers 54 = .ok (.return_, 1) := by decide +kernel
set_option maxRecDepth 100000 in
set_option maxHeartbeats 4000000 in
theorem l_X12_answers9 {t : Nat → Nat} {n r p pa : Nat} {h : ai_H} {S0 : Md} : ∀ (O : List Nat) (E : List Tk) (de : Nat) (g : ai_H) (S : Md), (∀ x, x ∈ O → x ≤ 13) → O.length ≤ 100 → E.length + O.length < 300 → (pop 9 O).length ≤ de → md_at g S → tx_m t n r S → md_ext h g → pfm r S0 S → S.1 23 = S0.1 23 → mr t n r E p pa de O S → ai_W MX12_answers 0 [.ref 307, .int 9] [] g (fun rv g' => rv = none ∧ md_ext h g' ∧ ∃ T, md_at g' T ∧ pfm r S0 T ∧ T.1 23 = S0.1 23 ∧ mr t n r (E ++ py_tk (pop 9 O)) p pa (de - (pop 9 O).length) (rst 9 O) T) := by
  intro O
  induction O with
  | nil =>
    intro E de g S hva hO hEl hde hmd htx hE hpf h23 hm
    refine wq (fun _ _ kk => rs_aload_n (pc := 0) dX12_answers_0 rfl kk) ?_
    refine wq (fun _ _ kk => rs_callV (as := []) (pc := 1) dX12_answers_1 mk_X12_top mlX12_340 in_X12_top se_X12_top rfl (md_lt hmd (by decide)) hmd.2.1 rfl rfl (Nat.le_of_ble_eq_true rfl) (c_X12_top hmd hm.2.2.2.2.2.1 (by rw [List.length_nil]; omega) hm.2.2.2.2.2.2) kk) ?_
    refine wq (fun _ _ kk => rs_iload_n (pc := 4) dX12_answers_4 rfl kk) ?_
    refine wq_bn (fun _ _ kt kf => rs_icmp_ne (tgt := 54) (pc := 5) dX12_answers_5 rfl kt kf) (fun c_5 => ?_) (fun c_5 => absurd c_5 (fun z => absurd z (by decide)))
    refine wq_ret ?_ (rs_vret (pc := 54) dX12_answers_54 rfl)
    exact ⟨rfl, hE, S, hmd, hpf, h23, by rw [show py_tk (pop 9 []) = [] from rfl, List.append_nil]; exact hm⟩
  | cons x l ih =>
    intro E de g S hva hO hEl hde hmd htx hE hpf h23 hm
    rw [List.length_cons] at hO hEl
    have hx := hva x (List.mem_cons_self ..)
    refine wq (fun _ _ kk => rs_aload_n (pc := 0) dX12_answers_0 rfl kk) ?_
    refine wq (fun _ _ kk => rs_callV (as := []) (pc := 1) dX12_answers_1 mk_X12_top mlX12_340 in_X12_top se_X12_top rfl (md_lt hmd (by decide)) hmd.2.1 rfl rfl (Nat.le_of_ble_eq_true rfl) (c_X12_top hmd hm.2.2.2.2.2.1 (by rw [List.length_cons]; omega) hm.2.2.2.2.2.2) kk) ?_
    refine wq (fun _ _ kk => rs_iload_n (pc := 4) dX12_answers_4 rfl kk) ?_
    refine wq_bn (fun _ _ kt kf => rs_icmp_ne (tgt := 54) (pc := 5) dX12_answers_5 rfl kt kf) (fun c_5 => ?_) (fun c_5 => ?_)
    · have g1 : x ≠ 9 := fun z => c_5 (by rw [z]; rfl)
      refine wq_ret ?_ (rs_vret (pc := 54) dX12_answers_54 rfl)
      exact ⟨rfl, hE, S, hmd, hpf, h23, by rw [pop_n g1, rst_n g1, show py_tk [] = [] from rfl, List.append_nil]; exact hm⟩
    · have g1 : x = 9 := nI_inj (by omega) (by decide) c_5
      subst g1
      refine wq (fun _ _ kk => rs_aload_n (pc := 8) dX12_answers_8 rfl kk) ?_
      refine wq (fun _ _ kk => rs_getf (pc := 9) dX12_answers_9 fX12_264 (md_lt hmd (by decide)) hmd.2.1 rfl kk) ?_
      rw [hm.1]
      refine wq_bn (fun _ _ kt kf => rs_if_ne (tgt := 54) (pc := 12) dX12_answers_12 rfl kt kf) (fun c_12 => absurd c_12 (fun z => z rfl)) (fun c_12 => ?_)
      refine wq (fun _ _ kk => rs_aload_n (pc := 15) dX12_answers_15 rfl kk) ?_
      refine wq (fun _ _ kk => rs_iload_n (pc := 16) dX12_answers_16 rfl kk) ?_
      refine wq (fun _ _ kk => rs_iconst (v := 0) (pc := 17) dX12_answers_17 rfl kk) ?_
      obtain ⟨rv_18, hc_18, ⟨rfl, ee_18, T_18, hmd_18, w1, w2, w3, w4⟩, hm_18⟩ := c_X12_entryA (E := E) (k := 9) (v := 0) hmd htx (fun _ => ⟨hm.2.2.1.1, hm.2.2.1.2, by omega⟩)
      refine wq (fun _ _ kk => rs_callV (as := [_, _]) (pc := 18) dX12_answers_18 mk_X12_entry mlX12_318 in_X12_entry se_X12_entry rfl (md_lt hmd (by decide)) hmd.2.1 rfl rfl (Nat.le_of_ble_eq_true rfl) (hm_18) kk) ?_
      replace hmd := hmd_18
      have E_18 := (md_ext.rf).trans ee_18
      refine wq (fun _ _ kk => rs_aload_n (pc := 21) dX12_answers_21 rfl kk) ?_
      refine wq (fun _ _ kk => rs_dup (pc := 22) dX12_answers_22 rfl kk) ?_
      refine wq (fun _ _ kk => rs_getf (pc := 23) dX12_answers_23 fX12_334 (md_lt hmd (by decide)) hmd.2.1 rfl kk) ?_
      rw [w2 29 (by decide), hm.2.2.2.2.2.1]
      refine wq (fun _ _ kk => rs_iconst (v := 1) (pc := 26) dX12_answers_26 rfl kk) ?_
      refine wq (fun _ _ kk => rs_isub (pc := 27) dX12_answers_27 kk) ?_
      rw [show nI (9 :: l).length - 1 = nI l.length from nI_pred l.length]
      refine wq (fun _ _ kk => rs_putf (pc := 28) dX12_answers_28 fX12_334 (md_lt hmd (by decide)) hmd.2.1 rfl (Nat.le_of_ble_eq_true rfl) kk) ?_
      refine wq_gen (fun h_1 e_1 => ?_)
      obtain ⟨m_1, s_1, g_1, o_1⟩ := ai_e1 e_1
      replace hmd := md_at_si (k := 29) hmd m_1 g_1 o_1 rfl
      have E_1 := (E_18).trans (md_ext_of m_1 s_1 o_1 (by decide))
      obtain ⟨S_28, hmd, k_28, r_28, s_28⟩ := md_new hmd
      refine wq (fun _ _ kk => rs_aload_n (pc := 31) dX12_answers_31 rfl kk) ?_
      refine wq (fun _ _ kk => rs_dup (pc := 32) dX12_answers_32 rfl kk) ?_
      refine wq (fun _ _ kk => rs_getf (pc := 33) dX12_answers_33 fX12_337 (md_lt hmd (by decide)) hmd.2.1 rfl kk) ?_
      rw [r_28 27 (by decide), w2 27 (by decide), hm.2.2.2.1]
      refine wq (fun _ _ kk => rs_iload_n (pc := 36) dX12_answers_36 rfl kk) ?_
      refine wq (fun _ _ kk => rs_bipush (v := 9) (pc := 37) dX12_answers_37 rfl kk) ?_
      refine wq_bn (fun _ _ kt kf => rs_icmp_ne (tgt := 46) (pc := 39) dX12_answers_39 rfl kt kf) (fun c_39 => absurd c_39 (by decide)) (fun c_39 => ?_)
      refine wq (fun _ _ kk => rs_iconst (v := 1) (pc := 42) dX12_answers_42 rfl kk) ?_
      refine wq (fun _ _ kk => rs_goto (tgt := 47) (pc := 43) dX12_answers_43 rfl kk) ?_
      refine wq (fun _ _ kk => rs_isub (pc := 47) dX12_answers_47 kk) ?_
      rw [show nI de - 1 = nI (de - 1) from nI_sub (b := 1) (by rw [pop_y, List.length_cons] at hde; omega)]
      refine wq (fun _ _ kk => rs_putf (pc := 48) dX12_answers_48 fX12_337 (md_lt hmd (by decide)) hmd.2.1 rfl (Nat.le_of_ble_eq_true rfl) kk) ?_
      refine wq_gen (fun h_2 e_2 => ?_)
      obtain ⟨m_2, s_2, g_2, o_2⟩ := ai_e1 e_2
      replace hmd := md_at_si (k := 27) hmd m_2 g_2 o_2 rfl
      have E_2 := (E_1).trans (md_ext_of m_2 s_2 o_2 (by decide))
      obtain ⟨S_48, hmd, k_48, r_48, s_48⟩ := md_new hmd
      refine wq (fun _ _ kk => rs_goto (tgt := 0) (pc := 51) dX12_answers_51 rfl kk) ?_
      have hpf2 : pfm r T_18 S_48 := (pfm.put (by decide) r_28 s_28).trans (pfm.put (by decide) r_48 s_48)
      have hm2 : mr t n r (E ++ [(9, 0)]) p pa (de - 1) l S_48 := by
        obtain ⟨m0, m1, m2, m3, m4, m5, m6⟩ := ent_mr hm w2 w3 w4
        exact ⟨by rw [r_48 24 (by decide), r_28 24 (by decide)]; exact m0, by rw [r_48 23 (by decide), r_28 23 (by decide)]; exact m1, ⟨by rw [r_48 26 (by decide), r_28 26 (by decide)]; exact m2.1, MT_cong m2.2 (fun k _ => by rw [s_48, s_28]; exact ⟨rfl, rfl⟩)⟩, k_48, by rw [r_48 28 (by decide), r_28 28 (by decide)]; exact m4, by rw [r_48 29 (by decide)]; exact k_28, by rw [s_48, s_28]; exact m6.2⟩
      have hih := ih (E ++ [(9, 0)]) (de - 1) _ _ (fun y hy => hva y (List.mem_cons_of_mem _ hy)) (by omega) (by rw [List.length_append]; show E.length + 1 + l.length < 300; omega) (by rw [pop_y, List.length_cons] at hde; omega) hmd (htx.of (w1.trans hpf2)) (hE.trans (E_2)) (hpf.trans (w1.trans hpf2)) (by rw [r_48 23 (by decide), r_28 23 (by decide), w2 23 (by decide)]; exact h23) hm2
      obtain ⟨rr, gg, ⟨q1, q2, T, q3, q4, q5, q6⟩, q7⟩ := hih
      refine ⟨rr, gg, ⟨q1, q2, T, q3, q4, q5, ?_⟩, q7⟩
      rw [pop_y, rst_y, show py_tk (9 :: pop 9 l) = [(9, 0)] ++ py_tk (pop 9 l) from rfl, ← List.append_assoc]
      rw [List.length_cons, Nat.add_comm, ← Nat.sub_sub]
      exact q6
theorem c_X12_answers9 {t : Nat → Nat} {n r p pa de : Nat} {O : List Nat} {E : List Tk} {h : ai_H} {S : Md} (hva : ∀ x, x ∈ O → x ≤ 13) (hO : O.length ≤ 100) (hEl : E.length + O.length < 300) (hde : (pop 9 O).length ≤ de) (hmd : md_at h S) (htx : tx_m t n r S) (hm : mr t n r E p pa de O S) : ai_QM MX12_answers [.ref 307, .int 9] h (fun rv g' => rv = none ∧ md_ext h g' ∧ ∃ T, md_at g' T ∧ pfm r S T ∧ T.1 23 = S.1 23 ∧ mr t n r (E ++ py_tk (pop 9 O)) p pa (de - (pop 9 O).length) (rst 9 O) T) := by
  refine qm_of (ls := [.ref 307, .int 9]) (by decide) (by simp [ai_en, Value.category]) (by rfl) ?_
  exact l_X12_answers9 O E de h S hva hO hEl hde hmd htx md_ext.rf pfm.rf rfl hm
set_option maxRecDepth 100000 in
set_option maxHeartbeats 4000000 in
theorem l_X12_answers10 {t : Nat → Nat} {n r p pa : Nat} {h : ai_H} {S0 : Md} : ∀ (O : List Nat) (E : List Tk) (de : Nat) (g : ai_H) (S : Md), (∀ x, x ∈ O → x ≤ 13) → O.length ≤ 100 → E.length + O.length < 300 → 0 ≤ de → md_at g S → tx_m t n r S → md_ext h g → pfm r S0 S → S.1 23 = S0.1 23 → mr t n r E p pa de O S → ai_W MX12_answers 0 [.ref 307, .int 10] [] g (fun rv g' => rv = none ∧ md_ext h g' ∧ ∃ T, md_at g' T ∧ pfm r S0 T ∧ T.1 23 = S0.1 23 ∧ mr t n r (E ++ py_tk (pop 10 O)) p pa (de - 0) (rst 10 O) T) := by
  intro O
  induction O with
  | nil =>
    intro E de g S hva hO hEl hde hmd htx hE hpf h23 hm
    refine wq (fun _ _ kk => rs_aload_n (pc := 0) dX12_answers_0 rfl kk) ?_
    refine wq (fun _ _ kk => rs_callV (as := []) (pc := 1) dX12_answers_1 mk_X12_top mlX12_340 in_X12_top se_X12_top rfl (md_lt hmd (by decide)) hmd.2.1 rfl rfl (Nat.le_of_ble_eq_true rfl) (c_X12_top hmd hm.2.2.2.2.2.1 (by rw [List.length_nil]; omega) hm.2.2.2.2.2.2) kk) ?_
    refine wq (fun _ _ kk => rs_iload_n (pc := 4) dX12_answers_4 rfl kk) ?_
    refine wq_bn (fun _ _ kt kf => rs_icmp_ne (tgt := 54) (pc := 5) dX12_answers_5 rfl kt kf) (fun c_5 => ?_) (fun c_5 => absurd c_5 (fun z => absurd z (by decide)))
    refine wq_ret ?_ (rs_vret (pc := 54) dX12_answers_54 rfl)
    exact ⟨rfl, hE, S, hmd, hpf, h23, by rw [show py_tk (pop 10 []) = [] from rfl, List.append_nil]; exact hm⟩
  | cons x l ih =>
    intro E de g S hva hO hEl hde hmd htx hE hpf h23 hm
    rw [List.length_cons] at hO hEl
    have hx := hva x (List.mem_cons_self ..)
    refine wq (fun _ _ kk => rs_aload_n (pc := 0) dX12_answers_0 rfl kk) ?_
    refine wq (fun _ _ kk => rs_callV (as := []) (pc := 1) dX12_answers_1 mk_X12_top mlX12_340 in_X12_top se_X12_top rfl (md_lt hmd (by decide)) hmd.2.1 rfl rfl (Nat.le_of_ble_eq_true rfl) (c_X12_top hmd hm.2.2.2.2.2.1 (by rw [List.length_cons]; omega) hm.2.2.2.2.2.2) kk) ?_
    refine wq (fun _ _ kk => rs_iload_n (pc := 4) dX12_answers_4 rfl kk) ?_
    refine wq_bn (fun _ _ kt kf => rs_icmp_ne (tgt := 54) (pc := 5) dX12_answers_5 rfl kt kf) (fun c_5 => ?_) (fun c_5 => ?_)
    · have g1 : x ≠ 10 := fun z => c_5 (by rw [z]; rfl)
      refine wq_ret ?_ (rs_vret (pc := 54) dX12_answers_54 rfl)
      exact ⟨rfl, hE, S, hmd, hpf, h23, by rw [pop_n g1, rst_n g1, show py_tk [] = [] from rfl, List.append_nil]; exact hm⟩
    · have g1 : x = 10 := nI_inj (by omega) (by decide) c_5
      subst g1
      refine wq (fun _ _ kk => rs_aload_n (pc := 8) dX12_answers_8 rfl kk) ?_
      refine wq (fun _ _ kk => rs_getf (pc := 9) dX12_answers_9 fX12_264 (md_lt hmd (by decide)) hmd.2.1 rfl kk) ?_
      rw [hm.1]
      refine wq_bn (fun _ _ kt kf => rs_if_ne (tgt := 54) (pc := 12) dX12_answers_12 rfl kt kf) (fun c_12 => absurd c_12 (fun z => z rfl)) (fun c_12 => ?_)
      refine wq (fun _ _ kk => rs_aload_n (pc := 15) dX12_answers_15 rfl kk) ?_
      refine wq (fun _ _ kk => rs_iload_n (pc := 16) dX12_answers_16 rfl kk) ?_
      refine wq (fun _ _ kk => rs_iconst (v := 0) (pc := 17) dX12_answers_17 rfl kk) ?_
      obtain ⟨rv_18, hc_18, ⟨rfl, ee_18, T_18, hmd_18, w1, w2, w3, w4⟩, hm_18⟩ := c_X12_entryA (E := E) (k := 10) (v := 0) hmd htx (fun _ => ⟨hm.2.2.1.1, hm.2.2.1.2, by omega⟩)
      refine wq (fun _ _ kk => rs_callV (as := [_, _]) (pc := 18) dX12_answers_18 mk_X12_entry mlX12_318 in_X12_entry se_X12_entry rfl (md_lt hmd (by decide)) hmd.2.1 rfl rfl (Nat.le_of_ble_eq_true rfl) (hm_18) kk) ?_
      replace hmd := hmd_18
      have E_18 := (md_ext.rf).trans ee_18
      refine wq (fun _ _ kk => rs_aload_n (pc := 21) dX12_answers_21 rfl kk) ?_
      refine wq (fun _ _ kk => rs_dup (pc := 22) dX12_answers_22 rfl kk) ?_
      refine wq (fun _ _ kk => rs_getf (pc := 23) dX12_answers_23 fX12_334 (md_lt hmd (by decide)) hmd.2.1 rfl kk) ?_
      rw [w2 29 (by decide), hm.2.2.2.2.2.1]
      refine wq (fun _ _ kk => rs_iconst (v := 1) (pc := 26) dX12_answers_26 rfl kk) ?_
      refine wq (fun _ _ kk => rs_isub (pc := 27) dX12_answers_27 kk) ?_
      rw [show nI (10 :: l).length - 1 = nI l.length from nI_pred l.length]
      refine wq (fun _ _ kk => rs_putf (pc := 28) dX12_answers_28 fX12_334 (md_lt hmd (by decide)) hmd.2.1 rfl (Nat.le_of_ble_eq_true rfl) kk) ?_
      refine wq_gen (fun h_1 e_1 => ?_)
      obtain ⟨m_1, s_1, g_1, o_1⟩ := ai_e1 e_1
      replace hmd := md_at_si (k := 29) hmd m_1 g_1 o_1 rfl
      have E_1 := (E_18).trans (md_ext_of m_1 s_1 o_1 (by decide))
      obtain ⟨S_28, hmd, k_28, r_28, s_28⟩ := md_new hmd
      refine wq (fun _ _ kk => rs_aload_n (pc := 31) dX12_answers_31 rfl kk) ?_
      refine wq (fun _ _ kk => rs_dup (pc := 32) dX12_answers_32 rfl kk) ?_
      refine wq (fun _ _ kk => rs_getf (pc := 33) dX12_answers_33 fX12_337 (md_lt hmd (by decide)) hmd.2.1 rfl kk) ?_
      rw [r_28 27 (by decide), w2 27 (by decide), hm.2.2.2.1]
      refine wq (fun _ _ kk => rs_iload_n (pc := 36) dX12_answers_36 rfl kk) ?_
      refine wq (fun _ _ kk => rs_bipush (v := 9) (pc := 37) dX12_answers_37 rfl kk) ?_
      refine wq_bn (fun _ _ kt kf => rs_icmp_ne (tgt := 46) (pc := 39) dX12_answers_39 rfl kt kf) (fun c_39 => ?_) (fun c_39 => absurd c_39 (by decide))
      refine wq (fun _ _ kk => rs_iconst (v := 0) (pc := 46) dX12_answers_46 rfl kk) ?_
      refine wq (fun _ _ kk => rs_isub (pc := 47) dX12_answers_47 kk) ?_
      rw [show nI de - 0 = nI de from nI_sub (a := de) (b := 0) (Nat.zero_le _)]
      refine wq (fun _ _ kk => rs_putf (pc := 48) dX12_answers_48 fX12_337 (md_lt hmd (by decide)) hmd.2.1 rfl (Nat.le_of_ble_eq_true rfl) kk) ?_
      refine wq_gen (fun h_2 e_2 => ?_)
      obtain ⟨m_2, s_2, g_2, o_2⟩ := ai_e1 e_2
      replace hmd := md_at_si (k := 27) hmd m_2 g_2 o_2 rfl
      have E_2 := (E_1).trans (md_ext_of m_2 s_2 o_2 (by decide))
      obtain ⟨S_48, hmd, k_48, r_48, s_48⟩ := md_new hmd
      refine wq (fun _ _ kk => rs_goto (tgt := 0) (pc := 51) dX12_answers_51 rfl kk) ?_
      have hpf2 : pfm r T_18 S_48 := (pfm.put (by decide) r_28 s_28).trans (pfm.put (by decide) r_48 s_48)
      have hm2 : mr t n r (E ++ [(10, 0)]) p pa (de - 0) l S_48 := by
        obtain ⟨m0, m1, m2, m3, m4, m5, m6⟩ := ent_mr hm w2 w3 w4
        exact ⟨by rw [r_48 24 (by decide), r_28 24 (by decide)]; exact m0, by rw [r_48 23 (by decide), r_28 23 (by decide)]; exact m1, ⟨by rw [r_48 26 (by decide), r_28 26 (by decide)]; exact m2.1, MT_cong m2.2 (fun k _ => by rw [s_48, s_28]; exact ⟨rfl, rfl⟩)⟩, k_48, by rw [r_48 28 (by decide), r_28 28 (by decide)]; exact m4, by rw [r_48 29 (by decide)]; exact k_28, by rw [s_48, s_28]; exact m6.2⟩
      have hih := ih (E ++ [(10, 0)]) (de - 0) _ _ (fun y hy => hva y (List.mem_cons_of_mem _ hy)) (by omega) (by rw [List.length_append]; show E.length + 1 + l.length < 300; omega) (by omega) hmd (htx.of (w1.trans hpf2)) (hE.trans (E_2)) (hpf.trans (w1.trans hpf2)) (by rw [r_48 23 (by decide), r_28 23 (by decide), w2 23 (by decide)]; exact h23) hm2
      obtain ⟨rr, gg, ⟨q1, q2, T, q3, q4, q5, q6⟩, q7⟩ := hih
      refine ⟨rr, gg, ⟨q1, q2, T, q3, q4, q5, ?_⟩, q7⟩
      rw [pop_y, rst_y, show py_tk (10 :: pop 10 l) = [(10, 0)] ++ py_tk (pop 10 l) from rfl, ← List.append_assoc]
      exact q6
theorem c_X12_answers10 {t : Nat → Nat} {n r p pa de : Nat} {O : List Nat} {E : List Tk} {h : ai_H} {S : Md} (hva : ∀ x, x ∈ O → x ≤ 13) (hO : O.length ≤ 100) (hEl : E.length + O.length < 300) (hde : 0 ≤ de) (hmd : md_at h S) (htx : tx_m t n r S) (hm : mr t n r E p pa de O S) : ai_QM MX12_answers [.ref 307, .int 10] h (fun rv g' => rv = none ∧ md_ext h g' ∧ ∃ T, md_at g' T ∧ pfm r S T ∧ T.1 23 = S.1 23 ∧ mr t n r (E ++ py_tk (pop 10 O)) p pa (de - 0) (rst 10 O) T) := by
  refine qm_of (ls := [.ref 307, .int 10]) (by decide) (by simp [ai_en, Value.category]) (by rfl) ?_
  exact l_X12_answers10 O E de h S hva hO hEl hde hmd htx md_ext.rf pfm.rf rfl hm
set_option maxRecDepth 100000 in
set_option maxHeartbeats 4000000 in
theorem l_X12_answers11 {t : Nat → Nat} {n r p pa : Nat} {h : ai_H} {S0 : Md} : ∀ (O : List Nat) (E : List Tk) (de : Nat) (g : ai_H) (S : Md), (∀ x, x ∈ O → x ≤ 13) → O.length ≤ 100 → E.length + O.length < 300 → 0 ≤ de → md_at g S → tx_m t n r S → md_ext h g → pfm r S0 S → S.1 23 = S0.1 23 → mr t n r E p pa de O S → ai_W MX12_answers 0 [.ref 307, .int 11] [] g (fun rv g' => rv = none ∧ md_ext h g' ∧ ∃ T, md_at g' T ∧ pfm r S0 T ∧ T.1 23 = S0.1 23 ∧ mr t n r (E ++ py_tk (pop 11 O)) p pa (de - 0) (rst 11 O) T) := by
  intro O
  induction O with
  | nil =>
    intro E de g S hva hO hEl hde hmd htx hE hpf h23 hm
    refine wq (fun _ _ kk => rs_aload_n (pc := 0) dX12_answers_0 rfl kk) ?_
    refine wq (fun _ _ kk => rs_callV (as := []) (pc := 1) dX12_answers_1 mk_X12_top mlX12_340 in_X12_top se_X12_top rfl (md_lt hmd (by decide)) hmd.2.1 rfl rfl (Nat.le_of_ble_eq_true rfl) (c_X12_top hmd hm.2.2.2.2.2.1 (by rw [List.length_nil]; omega) hm.2.2.2.2.2.2) kk) ?_
    refine wq (fun _ _ kk => rs_iload_n (pc := 4) dX12_answers_4 rfl kk) ?_
    refine wq_bn (fun _ _ kt kf => rs_icmp_ne (tgt := 54) (pc := 5) dX12_answers_5 rfl kt kf) (fun c_5 => ?_) (fun c_5 => absurd c_5 (fun z => absurd z (by decide)))
    refine wq_ret ?_ (rs_vret (pc := 54) dX12_answers_54 rfl)
    exact ⟨rfl, hE, S, hmd, hpf, h23, by rw [show py_tk (pop 11 []) = [] from rfl, List.append_nil]; exact hm⟩
  | cons x l ih =>
    intro E de g S hva hO hEl hde hmd htx hE hpf h23 hm
    rw [List.length_cons] at hO hEl
    have hx := hva x (List.mem_cons_self ..)
    refine wq (fun _ _ kk => rs_aload_n (pc := 0) dX12_answers_0 rfl kk) ?_
    refine wq (fun _ _ kk => rs_callV (as := []) (pc := 1) dX12_answers_1 mk_X12_top mlX12_340 in_X12_top se_X12_top rfl (md_lt hmd (by decide)) hmd.2.1 rfl rfl (Nat.le_of_ble_eq_true rfl) (c_X12_top hmd hm.2.2.2.2.2.1 (by rw [List.length_cons]; omega) hm.2.2.2.2.2.2) kk) ?_
    refine wq (fun _ _ kk => rs_iload_n (pc := 4) dX12_answers_4 rfl kk) ?_
    refine wq_bn (fun _ _ kt kf => rs_icmp_ne (tgt := 54) (pc := 5) dX12_answers_5 rfl kt kf) (fun c_5 => ?_) (fun c_5 => ?_)
    · have g1 : x ≠ 11 := fun z => c_5 (by rw [z]; rfl)
      refine wq_ret ?_ (rs_vret (pc := 54) dX12_answers_54 rfl)
      exact ⟨rfl, hE, S, hmd, hpf, h23, by rw [pop_n g1, rst_n g1, show py_tk [] = [] from rfl, List.append_nil]; exact hm⟩
    · have g1 : x = 11 := nI_inj (by omega) (by decide) c_5
      subst g1
      refine wq (fun _ _ kk => rs_aload_n (pc := 8) dX12_answers_8 rfl kk) ?_
      refine wq (fun _ _ kk => rs_getf (pc := 9) dX12_answers_9 fX12_264 (md_lt hmd (by decide)) hmd.2.1 rfl kk) ?_
      rw [hm.1]
      refine wq_bn (fun _ _ kt kf => rs_if_ne (tgt := 54) (pc := 12) dX12_answers_12 rfl kt kf) (fun c_12 => absurd c_12 (fun z => z rfl)) (fun c_12 => ?_)
      refine wq (fun _ _ kk => rs_aload_n (pc := 15) dX12_answers_15 rfl kk) ?_
      refine wq (fun _ _ kk => rs_iload_n (pc := 16) dX12_answers_16 rfl kk) ?_
      refine wq (fun _ _ kk => rs_iconst (v := 0) (pc := 17) dX12_answers_17 rfl kk) ?_
      obtain ⟨rv_18, hc_18, ⟨rfl, ee_18, T_18, hmd_18, w1, w2, w3, w4⟩, hm_18⟩ := c_X12_entryA (E := E) (k := 11) (v := 0) hmd htx (fun _ => ⟨hm.2.2.1.1, hm.2.2.1.2, by omega⟩)
      refine wq (fun _ _ kk => rs_callV (as := [_, _]) (pc := 18) dX12_answers_18 mk_X12_entry mlX12_318 in_X12_entry se_X12_entry rfl (md_lt hmd (by decide)) hmd.2.1 rfl rfl (Nat.le_of_ble_eq_true rfl) (hm_18) kk) ?_
      replace hmd := hmd_18
      have E_18 := (md_ext.rf).trans ee_18
      refine wq (fun _ _ kk => rs_aload_n (pc := 21) dX12_answers_21 rfl kk) ?_
      refine wq (fun _ _ kk => rs_dup (pc := 22) dX12_answers_22 rfl kk) ?_
      refine wq (fun _ _ kk => rs_getf (pc := 23) dX12_answers_23 fX12_334 (md_lt hmd (by decide)) hmd.2.1 rfl kk) ?_
      rw [w2 29 (by decide), hm.2.2.2.2.2.1]
      refine wq (fun _ _ kk => rs_iconst (v := 1) (pc := 26) dX12_answers_26 rfl kk) ?_
      refine wq (fun _ _ kk => rs_isub (pc := 27) dX12_answers_27 kk) ?_
      rw [show nI (11 :: l).length - 1 = nI l.length from nI_pred l.length]
      refine wq (fun _ _ kk => rs_putf (pc := 28) dX12_answers_28 fX12_334 (md_lt hmd (by decide)) hmd.2.1 rfl (Nat.le_of_ble_eq_true rfl) kk) ?_
      refine wq_gen (fun h_1 e_1 => ?_)
      obtain ⟨m_1, s_1, g_1, o_1⟩ := ai_e1 e_1
      replace hmd := md_at_si (k := 29) hmd m_1 g_1 o_1 rfl
      have E_1 := (E_18).trans (md_ext_of m_1 s_1 o_1 (by decide))
      obtain ⟨S_28, hmd, k_28, r_28, s_28⟩ := md_new hmd
      refine wq (fun _ _ kk => rs_aload_n (pc := 31) dX12_answers_31 rfl kk) ?_
      refine wq (fun _ _ kk => rs_dup (pc := 32) dX12_answers_32 rfl kk) ?_
      refine wq (fun _ _ kk => rs_getf (pc := 33) dX12_answers_33 fX12_337 (md_lt hmd (by decide)) hmd.2.1 rfl kk) ?_
      rw [r_28 27 (by decide), w2 27 (by decide), hm.2.2.2.1]
      refine wq (fun _ _ kk => rs_iload_n (pc := 36) dX12_answers_36 rfl kk) ?_
      refine wq (fun _ _ kk => rs_bipush (v := 9) (pc := 37) dX12_answers_37 rfl kk) ?_
      refine wq_bn (fun _ _ kt kf => rs_icmp_ne (tgt := 46) (pc := 39) dX12_answers_39 rfl kt kf) (fun c_39 => ?_) (fun c_39 => absurd c_39 (by decide))
      refine wq (fun _ _ kk => rs_iconst (v := 0) (pc := 46) dX12_answers_46 rfl kk) ?_
      refine wq (fun _ _ kk => rs_isub (pc := 47) dX12_answers_47 kk) ?_
      rw [show nI de - 0 = nI de from nI_sub (a := de) (b := 0) (Nat.zero_le _)]
      refine wq (fun _ _ kk => rs_putf (pc := 48) dX12_answers_48 fX12_337 (md_lt hmd (by decide)) hmd.2.1 rfl (Nat.le_of_ble_eq_true rfl) kk) ?_
      refine wq_gen (fun h_2 e_2 => ?_)
      obtain ⟨m_2, s_2, g_2, o_2⟩ := ai_e1 e_2
      replace hmd := md_at_si (k := 27) hmd m_2 g_2 o_2 rfl
      have E_2 := (E_1).trans (md_ext_of m_2 s_2 o_2 (by decide))
      obtain ⟨S_48, hmd, k_48, r_48, s_48⟩ := md_new hmd
      refine wq (fun _ _ kk => rs_goto (tgt := 0) (pc := 51) dX12_answers_51 rfl kk) ?_
      have hpf2 : pfm r T_18 S_48 := (pfm.put (by decide) r_28 s_28).trans (pfm.put (by decide) r_48 s_48)
      have hm2 : mr t n r (E ++ [(11, 0)]) p pa (de - 0) l S_48 := by
        obtain ⟨m0, m1, m2, m3, m4, m5, m6⟩ := ent_mr hm w2 w3 w4
        exact ⟨by rw [r_48 24 (by decide), r_28 24 (by decide)]; exact m0, by rw [r_48 23 (by decide), r_28 23 (by decide)]; exact m1, ⟨by rw [r_48 26 (by decide), r_28 26 (by decide)]; exact m2.1, MT_cong m2.2 (fun k _ => by rw [s_48, s_28]; exact ⟨rfl, rfl⟩)⟩, k_48, by rw [r_48 28 (by decide), r_28 28 (by decide)]; exact m4, by rw [r_48 29 (by decide)]; exact k_28, by rw [s_48, s_28]; exact m6.2⟩
      have hih := ih (E ++ [(11, 0)]) (de - 0) _ _ (fun y hy => hva y (List.mem_cons_of_mem _ hy)) (by omega) (by rw [List.length_append]; show E.length + 1 + l.length < 300; omega) (by omega) hmd (htx.of (w1.trans hpf2)) (hE.trans (E_2)) (hpf.trans (w1.trans hpf2)) (by rw [r_48 23 (by decide), r_28 23 (by decide), w2 23 (by decide)]; exact h23) hm2
      obtain ⟨rr, gg, ⟨q1, q2, T, q3, q4, q5, q6⟩, q7⟩ := hih
      refine ⟨rr, gg, ⟨q1, q2, T, q3, q4, q5, ?_⟩, q7⟩
      rw [pop_y, rst_y, show py_tk (11 :: pop 11 l) = [(11, 0)] ++ py_tk (pop 11 l) from rfl, ← List.append_assoc]
      exact q6
theorem c_X12_answers11 {t : Nat → Nat} {n r p pa de : Nat} {O : List Nat} {E : List Tk} {h : ai_H} {S : Md} (hva : ∀ x, x ∈ O → x ≤ 13) (hO : O.length ≤ 100) (hEl : E.length + O.length < 300) (hde : 0 ≤ de) (hmd : md_at h S) (htx : tx_m t n r S) (hm : mr t n r E p pa de O S) : ai_QM MX12_answers [.ref 307, .int 11] h (fun rv g' => rv = none ∧ md_ext h g' ∧ ∃ T, md_at g' T ∧ pfm r S T ∧ T.1 23 = S.1 23 ∧ mr t n r (E ++ py_tk (pop 11 O)) p pa (de - 0) (rst 11 O) T) := by
  refine qm_of (ls := [.ref 307, .int 11]) (by decide) (by simp [ai_en, Value.category]) (by rfl) ?_
  exact l_X12_answers11 O E de h S hva hO hEl hde hmd htx md_ext.rf pfm.rf rfl hm
