/-! 23: Cells.open, enter, gather (walks laid by wip/whole/p23.py) -/
def op_rel (S T : Md) (z nn : Nat) (s w : Int32) : Prop := T.1 0 = nI (z + 1) ∧ T.2.2.1 1 = upd (S.2.2.1 1) nn (nI z) ∧ T.2.2.1 2 = upd (S.2.2.1 2) z (S.2.2.1 1 nn) ∧ T.2.2.1 3 = upd (S.2.2.1 3) z (nI nn) ∧ T.2.2.1 4 = upd (S.2.2.1 4) z s ∧ T.2.2.1 5 = upd (S.2.2.1 5) z w ∧ T.2.2.1 6 = S.2.2.1 6 ∧ T.2.2.1 7 = zr 0 (S.2.2.1 7) (z * 16) 16 ∧ T.2.2.1 8 = zr 0 (S.2.2.1 8) (z * 16) 16 ∧ T.2.2.1 9 = zr 0 (S.2.2.1 9) (z * 16) 16 ∧ T.2.2.2 10 = zr 0 (S.2.2.2 10) (z * 16) 16
theorem op_inv_0 (S : Md) (z : Nat) : op_inv S S z 0 := ⟨rfl, fun _ _ _ _ => rfl, (zr_0 _ _ _).symm, (zr_0 _ _ _).symm, (zr_0 _ _ _).symm, (zr_0 _ _ _).symm⟩
set_option maxRecDepth 100000 in
set_option maxHeartbeats 4000000 in
theorem c_X2_open {h : ai_H} {S : Md} (hcl : cl_at h S) {z nn : Nat} (ez : S.1 0 = nI z) (hz : z < 400) (hnn : nn < 80) (s w : Int32) : ai_QM MX2_open [.ref 22, .int (nI nn), .int s, .int w] h (fun r g => r = some (.int (nI z)) ∧ xc h g ∧ ∃ T, op_rel S T z nn s w ∧ cl_at g T) := by
  refine qm_of (ls := [.ref 22, .int (nI nn), .int s, .int w, .float 0, .float 0]) (by decide) (by simp [ai_en, Value.category]) (by rfl) ?_
  refine wq (fun _ _ kk => rs_aload_n (pc := 0) dX2_open_0 rfl kk) ?_
  refine wq (fun _ _ kk => rs_getf (pc := 1) dX2_open_1 fX2_9 (mo_lt hcl (by decide)) hcl.2.1 rfl kk) ?_
  refine wq (fun _ _ kk => rs_sipush (v := 400) (pc := 4) dX2_open_4 rfl kk) ?_
  refine wq_br (fun _ _ kt kf => rs_icmp_ge (tgt := 20) (pc := 7) dX2_open_7 rfl kt kf) (fun c_7 => absurd c_7 (by rw [ez]; exact nI_ge hz (by decide))) (fun c_7 => ?_)
  refine wq (fun _ _ kk => rs_iload_n (pc := 10) dX2_open_10 rfl kk) ?_
  refine wq (fun _ _ kk => rs_iconst (v := 0) (pc := 11) dX2_open_11 rfl kk) ?_
  refine wq (fun _ _ kk => rs_bipush (v := 79) (pc := 12) dX2_open_12 rfl kk) ?_
  refine wq (fun _ _ kk => rs_callS (as := [_, _, _]) (pc := 14) dX2_open_14 mk_X11_isWithin mlX2_80 st_X11_isWithin rfl rfl (Nat.le_of_ble_eq_true rfl) (c_X11_isWithin) kk) ?_
  refine wq_bn (fun _ _ kt kf => rs_if_ne (tgt := 22) (pc := 17) dX2_open_17 rfl kt kf) (fun c_17 => ?_) (fun c_17 => absurd c_17 (by rw [show bi_in (nI nn) 0 79 = 1 from bi_in_nI (z := 80) hnn (by decide)]; decide))
  refine wq (fun _ _ kk => rs_aload_n (pc := 22) dX2_open_22 rfl kk) ?_
  refine wq (fun _ _ kk => rs_getf (pc := 23) dX2_open_23 fX2_9 (mo_lt hcl (by decide)) hcl.2.1 rfl kk) ?_
  rw [ez]
  refine wq (fun _ _ kk => wk_ist4 (pc := 26) dX2_open_26 (by decide) rfl kk) ?_
  refine wq (fun _ _ kk => rs_aload_n (pc := 28) dX2_open_28 rfl kk) ?_
  refine wq (fun _ _ kk => rs_dup (pc := 29) dX2_open_29 rfl kk) ?_
  refine wq (fun _ _ kk => rs_getf (pc := 30) dX2_open_30 fX2_9 (mo_lt hcl (by decide)) hcl.2.1 rfl kk) ?_
  rw [ez]
  refine wq (fun _ _ kk => rs_iconst (v := 1) (pc := 33) dX2_open_33 rfl kk) ?_
  refine wq (fun _ _ kk => rs_iadd (pc := 34) dX2_open_34 kk) ?_
  rw [nI_1 z]
  refine wq (fun _ _ kk => rs_putf (pc := 35) dX2_open_35 fX2_9 (mo_lt hcl (by decide)) hcl.2.1 rfl (Nat.le_of_ble_eq_true rfl) kk) ?_
  refine wq_gen (fun h_1 e_1 => ?_)
  obtain ⟨m_1, s_1, g_1, o_1⟩ := ai_e1 e_1
  replace hcl := mo_si (k := 0) hcl m_1 g_1 o_1 rfl
  have E_1 := (xc.rf).trans (xc_of m_1 s_1 o_1 (by decide))
  refine wq (fun _ _ kk => rs_aload_n (pc := 38) dX2_open_38 rfl kk) ?_
  refine wq (fun _ _ kk => rs_getf (pc := 39) dX2_open_39 fX2_19 (mo_lt hcl (by decide)) hcl.2.1 rfl kk) ?_
  refine wq (fun _ _ kk => rs_iload (pc := 42) dX2_open_42 rfl kk) ?_
  refine wq (fun _ _ kk => rs_aload_n (pc := 44) dX2_open_44 rfl kk) ?_
  refine wq (fun _ _ kk => rs_getf (pc := 45) dX2_open_45 fX2_15 (mo_lt hcl (by decide)) hcl.2.1 rfl kk) ?_
  refine wq (fun _ _ kk => rs_iload_n (pc := 48) dX2_open_48 rfl kk) ?_
  refine wq (fun _ _ kk => rs_iald (pc := 49) dX2_open_49 (mo_lt hcl (by decide)) (mo_geti (d := 0) (k := 1) (kd := 0) (l := 80) rfl (by decide) hcl) (vp_in_nI hnn (by decide)) kk) ?_
  rw [nI_clamp (show nn < 2 ^ 31 by omega)]
  refine wq (fun _ _ kk => rs_iast (pc := 50) dX2_open_50 (mo_lt hcl (by decide)) (mo_geti (d := 1) (k := 2) (kd := 0) (l := 400) rfl (by decide) hcl) (vp_in_nI (n := z) (N := 400) hz (by decide)) kk) ?_
  refine wq_gen (fun h_2 e_2 => ?_)
  obtain ⟨m_2, s_2, g_2, o_2⟩ := ai_e1 e_2
  replace hcl := mo_ai (tab := cl_tab) (d := 1) cl_nd rfl (by decide) (fun _ _ _ => rfl) hcl m_2 g_2 o_2
  have E_2 := (E_1).trans (xc_of m_2 s_2 o_2 (by decide))
  refine wq (fun _ _ kk => rs_aload_n (pc := 51) dX2_open_51 rfl kk) ?_
  refine wq (fun _ _ kk => rs_getf (pc := 52) dX2_open_52 fX2_15 (mo_lt hcl (by decide)) hcl.2.1 rfl kk) ?_
  refine wq (fun _ _ kk => rs_iload_n (pc := 55) dX2_open_55 rfl kk) ?_
  refine wq (fun _ _ kk => rs_iload (pc := 56) dX2_open_56 rfl kk) ?_
  refine wq (fun _ _ kk => rs_iast (pc := 58) dX2_open_58 (mo_lt hcl (by decide)) (mo_geti (d := 0) (k := 1) (kd := 0) (l := 80) rfl (by decide) hcl) (vp_in_nI hnn (by decide)) kk) ?_
  refine wq_gen (fun h_3 e_3 => ?_)
  obtain ⟨m_3, s_3, g_3, o_3⟩ := ai_e1 e_3
  replace hcl := mo_ai (tab := cl_tab) (d := 0) cl_nd rfl (by decide) (fun _ _ _ => rfl) hcl m_3 g_3 o_3
  have E_3 := (E_2).trans (xc_of m_3 s_3 o_3 (by decide))
  refine wq (fun _ _ kk => rs_aload_n (pc := 59) dX2_open_59 rfl kk) ?_
  refine wq (fun _ _ kk => rs_getf (pc := 60) dX2_open_60 fX2_22 (mo_lt hcl (by decide)) hcl.2.1 rfl kk) ?_
  refine wq (fun _ _ kk => rs_iload (pc := 63) dX2_open_63 rfl kk) ?_
  refine wq (fun _ _ kk => rs_iload_n (pc := 65) dX2_open_65 rfl kk) ?_
  refine wq (fun _ _ kk => rs_iast (pc := 66) dX2_open_66 (mo_lt hcl (by decide)) (mo_geti (d := 2) (k := 3) (kd := 0) (l := 400) rfl (by decide) hcl) (vp_in_nI (n := z) (N := 400) hz (by decide)) kk) ?_
  refine wq_gen (fun h_4 e_4 => ?_)
  obtain ⟨m_4, s_4, g_4, o_4⟩ := ai_e1 e_4
  replace hcl := mo_ai (tab := cl_tab) (d := 2) cl_nd rfl (by decide) (fun _ _ _ => rfl) hcl m_4 g_4 o_4
  have E_4 := (E_3).trans (xc_of m_4 s_4 o_4 (by decide))
  refine wq (fun _ _ kk => rs_aload_n (pc := 67) dX2_open_67 rfl kk) ?_
  refine wq (fun _ _ kk => rs_getf (pc := 68) dX2_open_68 fX2_25 (mo_lt hcl (by decide)) hcl.2.1 rfl kk) ?_
  refine wq (fun _ _ kk => rs_iload (pc := 71) dX2_open_71 rfl kk) ?_
  refine wq (fun _ _ kk => rs_iload_n (pc := 73) dX2_open_73 rfl kk) ?_
  refine wq (fun _ _ kk => rs_iast (pc := 74) dX2_open_74 (mo_lt hcl (by decide)) (mo_geti (d := 3) (k := 4) (kd := 0) (l := 400) rfl (by decide) hcl) (vp_in_nI (n := z) (N := 400) hz (by decide)) kk) ?_
  refine wq_gen (fun h_5 e_5 => ?_)
  obtain ⟨m_5, s_5, g_5, o_5⟩ := ai_e1 e_5
  replace hcl := mo_ai (tab := cl_tab) (d := 3) cl_nd rfl (by decide) (fun _ _ _ => rfl) hcl m_5 g_5 o_5
  have E_5 := (E_4).trans (xc_of m_5 s_5 o_5 (by decide))
  refine wq (fun _ _ kk => rs_aload_n (pc := 75) dX2_open_75 rfl kk) ?_
  refine wq (fun _ _ kk => rs_getf (pc := 76) dX2_open_76 fX2_28 (mo_lt hcl (by decide)) hcl.2.1 rfl kk) ?_
  refine wq (fun _ _ kk => rs_iload (pc := 79) dX2_open_79 rfl kk) ?_
  refine wq (fun _ _ kk => rs_iload_n (pc := 81) dX2_open_81 rfl kk) ?_
  refine wq (fun _ _ kk => rs_iast (pc := 82) dX2_open_82 (mo_lt hcl (by decide)) (mo_geti (d := 4) (k := 5) (kd := 0) (l := 400) rfl (by decide) hcl) (vp_in_nI (n := z) (N := 400) hz (by decide)) kk) ?_
  refine wq_gen (fun h_6 e_6 => ?_)
  obtain ⟨m_6, s_6, g_6, o_6⟩ := ai_e1 e_6
  replace hcl := mo_ai (tab := cl_tab) (d := 4) cl_nd rfl (by decide) (fun _ _ _ => rfl) hcl m_6 g_6 o_6
  have E_6 := (E_5).trans (xc_of m_6 s_6 o_6 (by decide))
  refine wq (fun _ _ kk => rs_iload (pc := 83) dX2_open_83 rfl kk) ?_
  refine wq (fun _ _ kk => rs_bipush (v := 16) (pc := 85) dX2_open_85 rfl kk) ?_
  refine wq (fun _ _ kk => rs_imul (pc := 87) dX2_open_87 kk) ?_
  rw [show nI z * 16 = nI (z * 16) from pk_mul z 16]
  refine wq (fun _ _ kk => wk_ist5 (pc := 88) dX2_open_88 (by decide) rfl kk) ?_
  refine wq_mono ?_ (l_X2_open hz (nI nn) s w 17 0 _ _ (by omega) (by omega) (E_6) (op_inv_0 _ z) hcl)
  rintro r g ⟨h1, h2, T, h3, h4⟩
  refine ⟨h1, h2, T, ?_, h4⟩
  obtain ⟨a1, a2, a7, a8, a9, a10⟩ := h3
  refine ⟨by rw [a1]; rfl, ?_, ?_, ?_, ?_, ?_, ?_, ?_, ?_, ?_, ?_⟩
  · rw [a2 1 (by decide) (by decide) (by decide)]; simp [md_ai, md_si, va_up, nI_clamp (show nn < 2 ^ 31 by omega)]
  · rw [a2 2 (by decide) (by decide) (by decide)]; simp [md_ai, md_si, va_up, nI_clamp (show nn < 2 ^ 31 by omega), nI_clamp (show z < 2 ^ 31 by omega)]
  · rw [a2 3 (by decide) (by decide) (by decide)]; simp [md_ai, md_si, va_up, nI_clamp (show z < 2 ^ 31 by omega)]
  · rw [a2 4 (by decide) (by decide) (by decide)]; simp [md_ai, md_si, va_up, nI_clamp (show z < 2 ^ 31 by omega)]
  · rw [a2 5 (by decide) (by decide) (by decide)]; simp [md_ai, md_si, va_up, nI_clamp (show z < 2 ^ 31 by omega)]
  · rw [a2 6 (by decide) (by decide) (by decide)]; simp [md_ai, md_si, va_up]
  · rw [a7]; simp [md_ai, md_si, va_up]
  · rw [a8]; simp [md_ai, md_si, va_up]
  · rw [a9]; simp [md_ai, md_si, va_up]
  · rw [a10]; simp [md_ai, md_si, va_up]
/-- what the tail of enter does at the place p of cell c, for record i -/
def tl_rel (S T : Md) (c p i : Nat) (v t : Int32) : Prop := T.1 = S.1 ∧ (∀ a, a ≠ 6 → a ≠ 7 → a ≠ 8 → a ≠ 9 → T.2.2.1 a = S.2.2.1 a) ∧ T.2.2.1 6 = upd (S.2.2.1 6) i (nI c) ∧ T.2.2.1 7 = upd (S.2.2.1 7) p (S.2.2.1 7 p + 1) ∧ T.2.2.1 8 = upd (S.2.2.1 8) p (S.2.2.1 8 p ||| (1 <<< (t &&& 31))) ∧ T.2.2.1 9 = upd (S.2.2.1 9) p (S.2.2.1 9 p + v) ∧ T.2.2.2 10 = vp_updL (S.2.2.2 10) p (S.2.2.2 10 p + v.toInt64 * v.toInt64)
theorem cl_place_nI {S : Md} {z c o : Nat} (ez : S.1 0 = nI z) (hz : z ≤ 400) (hc : c < z) (ho : o < 16) : cl_place S (nI c) (nI o) = nI (c * 16 + o) := by
  unfold cl_place
  rw [if_neg (nI_pos (by omega)), ez, if_neg (nI_ge hc (by omega)), if_neg (nI_pos (by omega)), if_neg (show ¬ (16 : Int32) ≤ nI o from nI_ge (b := 16) ho (by decide)), show nI c * 16 = nI (c * 16) from pk_mul c 16, nI_add]
theorem dX2_enter_0 : decode cX2_enter 0 = .ok (.aload_n 1, 1) := by decide +kernel
theorem dX2_enter_1 : decode cX2_enter 1 = .ok (.getfield 47, 3) := by decide +kernel
theorem dX2_enter_4 : decode cX2_enter 4 = .ok (.iload_n 2, 1) := by decide +kernel
theorem dX2_enter_5 : decode cX2_enter 5 = .ok (.iconst 0, 1) := by decide +kernel
theorem dX2_enter_6 : decode cX2_enter 6 = .ok (.invokevirtual 63, 3) := by decide +kernel
theorem dX2_enter_9 : decode cX2_enter 9 = .ok (.istore_n 3, 1) := by decide +kernel
theorem dX2_enter_10 : decode cX2_enter 10 = .ok (.aload_n 1, 1) := by decide +kernel
theorem dX2_enter_11 : decode cX2_enter 11 = .ok (.getfield 47, 3) := by decide +kernel
theorem dX2_enter_14 : decode cX2_enter 14 = .ok (.iload_n 2, 1) := by decide +kernel
theorem dX2_enter_15 : decode cX2_enter 15 = .ok (.iconst 1, 1) := by decide +kernel
theorem dX2_enter_16 : decode cX2_enter 16 = .ok (.invokevirtual 63, 3) := by decide +kernel
theorem dX2_enter_19 : decode cX2_enter 19 = .ok (.istore 4, 2) := by decide +kernel
theorem dX2_enter_21 : decode cX2_enter 21 = .ok (.aload_n 1, 1) := by decide +kernel
theorem dX2_enter_22 : decode cX2_enter 22 = .ok (.getfield 47, 3) := by decide +kernel
theorem dX2_enter_25 : decode cX2_enter 25 = .ok (.iload_n 2, 1) := by decide +kernel
theorem dX2_enter_26 : decode cX2_enter 26 = .ok (.iconst 4, 1) := by decide +kernel
theorem dX2_enter_27 : decode cX2_enter 27 = .ok (.invokevirtual 63, 3) := by decide +kernel
theorem dX2_enter_30 : decode cX2_enter 30 = .ok (.istore 5, 2) := by decide +kernel
theorem dX2_enter_32 : decode cX2_enter 32 = .ok (.aload_n 0, 1) := by decide +kernel
theorem dX2_enter_33 : decode cX2_enter 33 = .ok (.iload_n 3, 1) := by decide +kernel
theorem dX2_enter_34 : decode cX2_enter 34 = .ok (.iload 4, 2) := by decide +kernel
theorem dX2_enter_36 : decode cX2_enter 36 = .ok (.iload 5, 2) := by decide +kernel
theorem dX2_enter_38 : decode cX2_enter 38 = .ok (.invokevirtual 67, 3) := by decide +kernel
theorem dX2_enter_41 : decode cX2_enter 41 = .ok (.istore 6, 2) := by decide +kernel
theorem dX2_enter_43 : decode cX2_enter 43 = .ok (.iload 6, 2) := by decide +kernel
theorem dX2_enter_45 : decode cX2_enter 45 = .ok (.iconst (-1), 1) := by decide +kernel
theorem dX2_enter_46 : decode cX2_enter 46 = .ok (.if_icmp .ne 14, 3) := by decide +kernel
theorem dX2_enter_49 : decode cX2_enter 49 = .ok (.aload_n 0, 1) := by decide +kernel
theorem dX2_enter_50 : decode cX2_enter 50 = .ok (.iload_n 3, 1) := by decide +kernel
theorem dX2_enter_51 : decode cX2_enter 51 = .ok (.iload 4, 2) := by decide +kernel
theorem dX2_enter_53 : decode cX2_enter 53 = .ok (.iload 5, 2) := by decide +kernel
theorem dX2_enter_55 : decode cX2_enter 55 = .ok (.invokevirtual 71, 3) := by decide +kernel
theorem dX2_enter_58 : decode cX2_enter 58 = .ok (.istore 6, 2) := by decide +kernel
theorem dX2_enter_60 : decode cX2_enter 60 = .ok (.aload_n 0, 1) := by decide +kernel
theorem dX2_enter_61 : decode cX2_enter 61 = .ok (.iload 6, 2) := by decide +kernel
theorem dX2_enter_63 : decode cX2_enter 63 = .ok (.aload_n 1, 1) := by decide +kernel
theorem dX2_enter_64 : decode cX2_enter 64 = .ok (.getfield 47, 3) := by decide +kernel
theorem dX2_enter_67 : decode cX2_enter 67 = .ok (.iload_n 2, 1) := by decide +kernel
theorem dX2_enter_68 : decode cX2_enter 68 = .ok (.iconst 3, 1) := by decide +kernel
theorem dX2_enter_69 : decode cX2_enter 69 = .ok (.invokevirtual 63, 3) := by decide +kernel
theorem dX2_enter_72 : decode cX2_enter 72 = .ok (.invokevirtual 74, 3) := by decide +kernel
theorem dX2_enter_75 : decode cX2_enter 75 = .ok (.istore 7, 2) := by decide +kernel
theorem dX2_enter_77 : decode cX2_enter 77 = .ok (.iload 7, 2) := by decide +kernel
theorem dX2_enter_79 : decode cX2_enter 79 = .ok (.iconst (-1), 1) := by decide +kernel
theorem dX2_enter_80 : decode cX2_enter 80 = .ok (.if_icmp .ne 4, 3) := by decide +kernel
theorem dX2_enter_83 : decode cX2_enter 83 = .ok (.return_, 1) := by decide +kernel
theorem dX2_enter_84 : decode cX2_enter 84 = .ok (.aload_n 0, 1) := by decide +kernel
theorem dX2_enter_85 : decode cX2_enter 85 = .ok (.getfield 31, 3) := by decide +kernel
theorem dX2_enter_88 : decode cX2_enter 88 = .ok (.iload_n 2, 1) := by decide +kernel
theorem dX2_enter_89 : decode cX2_enter 89 = .ok (.iload 6, 2) := by decide +kernel
theorem dX2_enter_91 : decode cX2_enter 91 = .ok (.iastore, 1) := by decide +kernel
theorem dX2_enter_92 : decode cX2_enter 92 = .ok (.aload_n 1, 1) := by decide +kernel
theorem dX2_enter_93 : decode cX2_enter 93 = .ok (.iload_n 2, 1) := by decide +kernel
theorem dX2_enter_94 : decode cX2_enter 94 = .ok (.invokevirtual 77, 3) := by decide +kernel
theorem dX2_enter_97 : decode cX2_enter 97 = .ok (.i2l, 1) := by decide +kernel
theorem dX2_enter_98 : decode cX2_enter 98 = .ok (.lstore 8, 2) := by decide +kernel
theorem dX2_enter_100 : decode cX2_enter 100 = .ok (.aload_n 0, 1) := by decide +kernel
theorem dX2_enter_101 : decode cX2_enter 101 = .ok (.getfield 34, 3) := by decide +kernel
theorem dX2_enter_104 : decode cX2_enter 104 = .ok (.iload 7, 2) := by decide +kernel
theorem dX2_enter_106 : decode cX2_enter 106 = .ok (.dup2, 1) := by decide +kernel
theorem dX2_enter_107 : decode cX2_enter 107 = .ok (.iaload, 1) := by decide +kernel
theorem dX2_enter_108 : decode cX2_enter 108 = .ok (.iconst 1, 1) := by decide +kernel
theorem dX2_enter_109 : decode cX2_enter 109 = .ok (.iadd, 1) := by decide +kernel
theorem dX2_enter_110 : decode cX2_enter 110 = .ok (.iastore, 1) := by decide +kernel
theorem dX2_enter_111 : decode cX2_enter 111 = .ok (.aload_n 0, 1) := by decide +kernel
theorem dX2_enter_112 : decode cX2_enter 112 = .ok (.getfield 37, 3) := by decide +kernel
theorem dX2_enter_115 : decode cX2_enter 115 = .ok (.iload 7, 2) := by decide +kernel
theorem dX2_enter_117 : decode cX2_enter 117 = .ok (.dup2, 1) := by decide +kernel
theorem dX2_enter_118 : decode cX2_enter 118 = .ok (.iaload, 1) := by decide +kernel
theorem dX2_enter_119 : decode cX2_enter 119 = .ok (.iconst 1, 1) := by decide +kernel
theorem dX2_enter_120 : decode cX2_enter 120 = .ok (.aload_n 1, 1) := by decide +kernel
theorem dX2_enter_121 : decode cX2_enter 121 = .ok (.getfield 47, 3) := by decide +kernel
theorem dX2_enter_124 : decode cX2_enter 124 = .ok (.iload_n 2, 1) := by decide +kernel
theorem dX2_enter_125 : decode cX2_enter 125 = .ok (.iconst 2, 1) := by decide +kernel
theorem dX2_enter_126 : decode cX2_enter 126 = .ok (.invokevirtual 63, 3) := by decide +kernel
theorem dX2_enter_129 : decode cX2_enter 129 = .ok (.ishl, 1) := by decide +kernel
theorem dX2_enter_130 : decode cX2_enter 130 = .ok (.ior, 1) := by decide +kernel
theorem dX2_enter_131 : decode cX2_enter 131 = .ok (.iastore, 1) := by decide +kernel
theorem dX2_enter_132 : decode cX2_enter 132 = .ok (.aload_n 0, 1) := by decide +kernel
theorem dX2_enter_133 : decode cX2_enter 133 = .ok (.getfield 40, 3) := by decide +kernel
theorem dX2_enter_136 : decode cX2_enter 136 = .ok (.iload 7, 2) := by decide +kernel
theorem dX2_enter_138 : decode cX2_enter 138 = .ok (.dup2, 1) := by decide +kernel
theorem dX2_enter_139 : decode cX2_enter 139 = .ok (.iaload, 1) := by decide +kernel
theorem dX2_enter_140 : decode cX2_enter 140 = .ok (.lload 8, 2) := by decide +kernel
theorem dX2_enter_142 : decode cX2_enter 142 = .ok (.l2i, 1) := by decide +kernel
theorem dX2_enter_143 : decode cX2_enter 143 = .ok (.iadd, 1) := by decide +kernel
theorem dX2_enter_144 : decode cX2_enter 144 = .ok (.iastore, 1) := by decide +kernel
theorem dX2_enter_145 : decode cX2_enter 145 = .ok (.aload_n 0, 1) := by decide +kernel
theorem dX2_enter_146 : decode cX2_enter 146 = .ok (.getfield 43, 3) := by decide +kernel
theorem dX2_enter_149 : decode cX2_enter 149 = .ok (.iload 7, 2) := by decide +kernel
theorem dX2_enter_151 : decode cX2_enter 151 = .ok (.dup2, 1) := by decide +kernel
theorem dX2_enter_152 : decode cX2_enter 152 = .ok (.laload, 1) := by decide +kernel
theorem dX2_enter_153 : decode cX2_enter 153 = .ok (.lload 8, 2) := by decide +kernel
theorem dX2_enter_155 : decode cX2_enter 155 = .ok (.lload 8, 2) := by decide +kernel
theorem dX2_enter_157 : decode cX2_enter 157 = .ok (.lmul, 1) := by decide +kernel
theorem dX2_enter_158 : decode cX2_enter 158 = .ok (.ladd, 1) := by decide +kernel
theorem dX2_enter_159 : decode cX2_enter 159 = .ok (.lastore, 1) := by decide +kernel
theorem dX2_enter_160 : decode cX2_enter 160 = .ok (.return_, 1) := by decide +kernel
set_option maxRecDepth 100000 in
set_option maxHeartbeats 4000000 in
theorem t_X2_enter {h0 h : ai_H} {S : Md} {B : Bk} {z c o i : Nat} (E0 : xc h0 h) (hcl : cl_at h S) (hB : bk_at h 1 B) (ez : S.1 0 = nI z) (hz4 : z ≤ 400) (hc : c < z) (ho : o < 16) (hi : i < 400) (eo : bk_rat B (nI i) 3 = nI o) (a3 a4 a5 : Int32) : ai_W MX2_enter 60 [.ref 22, .ref 1, .int (nI i), .int a3, .int a4, .int a5, .int (nI c), .float 0, .float 0, .float 0] [] h (fun r g => r = none ∧ xc h0 g ∧ ∃ T, tl_rel S T c (c * 16 + o) i (bk_red B (nI i)) (bk_rat B (nI i) 2) ∧ cl_at g T) := by
  refine wq (fun _ _ kk => rs_aload_n (pc := 60) dX2_enter_60 rfl kk) ?_
  refine wq (fun _ _ kk => rs_iload (pc := 61) dX2_enter_61 rfl kk) ?_
  refine wq (fun _ _ kk => rs_aload_n (pc := 63) dX2_enter_63 rfl kk) ?_
  refine wq (fun _ _ kk => rs_getf (pc := 64) dX2_enter_64 fX2_47 (bk_lt hB (by decide)) hB.2.1 rfl kk) ?_
  refine wq (fun _ _ kk => rs_iload_n (pc := 67) dX2_enter_67 rfl kk) ?_
  refine wq (fun _ _ kk => rs_iconst (v := 3) (pc := 68) dX2_enter_68 rfl kk) ?_
  refine wq (fun _ _ kk => rs_callV (as := [_, _]) (pc := 69) dX2_enter_69 mk_X8_at mlX2_63 in_X8_at se_X8_at rfl (bk_lt hB (by decide)) hB.2.2.2.2.2.1.1 rfl rfl (Nat.le_of_ble_eq_true rfl) (c_X8_at (bk_lt hB (by decide)) hB.2.2.2.2.2.1.1 (bk_lt hB (by decide)) hB.2.2.2.2.2.1.2.1 hB.2.2.2.2.2.1.2.2 _ _) kk) ?_
  refine wq (fun _ _ kk => rs_callV (as := [_, _]) (pc := 72) dX2_enter_72 mk_X2_place mlX2_74 in_X2_place se_X2_place rfl (mo_lt hcl (by decide)) hcl.2.1 rfl rfl (Nat.le_of_ble_eq_true rfl) (c_X2_place hcl _ _) kk) ?_
  rw [show tb_at 9 (bk_r B).1 (bk_r B).2 (nI i) 3 = nI o from eo, cl_place_nI ez hz4 hc ho]
  refine wq (fun _ _ kk => wk_ist7 (pc := 75) dX2_enter_75 (by decide) rfl kk) ?_
  refine wq (fun _ _ kk => rs_iload (pc := 77) dX2_enter_77 rfl kk) ?_
  refine wq (fun _ _ kk => rs_iconst (v := -1) (pc := 79) dX2_enter_79 rfl kk) ?_
  refine wq_bn (fun _ _ kt kf => rs_icmp_ne (tgt := 84) (pc := 80) dX2_enter_80 rfl kt kf) (fun c_80 => ?_) (fun c_80 => absurd c_80 (nI_m1 (by omega)))
  refine wq (fun _ _ kk => rs_aload_n (pc := 84) dX2_enter_84 rfl kk) ?_
  refine wq (fun _ _ kk => rs_getf (pc := 85) dX2_enter_85 fX2_31 (mo_lt hcl (by decide)) hcl.2.1 rfl kk) ?_
  refine wq (fun _ _ kk => rs_iload_n (pc := 88) dX2_enter_88 rfl kk) ?_
  refine wq (fun _ _ kk => rs_iload (pc := 89) dX2_enter_89 rfl kk) ?_
  refine wq (fun _ _ kk => rs_iast (pc := 91) dX2_enter_91 (mo_lt hcl (by decide)) (mo_geti (d := 5) (k := 6) (kd := 0) (l := 400) rfl (by decide) hcl) (vp_in_nI (n := i) (N := 400) hi (by decide)) kk) ?_
  refine wq_gen (fun h_1 e_1 => ?_)
  obtain ⟨m_1, s_1, g_1, o_1⟩ := ai_e1 e_1
  replace hcl := mo_ai (tab := cl_tab) (d := 5) cl_nd rfl (by decide) (fun _ _ _ => rfl) hcl m_1 g_1 o_1
  replace hB := hB.keep m_1 (fun j _ _ => o_1 j (by omega))
  have E_1 := (E0).trans (xc_of m_1 s_1 o_1 (by decide))
  refine wq (fun _ _ kk => rs_aload_n (pc := 92) dX2_enter_92 rfl kk) ?_
  refine wq (fun _ _ kk => rs_iload_n (pc := 93) dX2_enter_93 rfl kk) ?_
  refine wq (fun _ _ kk => rs_callV (as := [_]) (pc := 94) dX2_enter_94 mk_X1_reduced mlX2_77 in_X1_reduced se_X1_reduced rfl (bk_lt hB (by decide)) hB.2.1 rfl rfl (Nat.le_of_ble_eq_true rfl) (c_X1_reduced hB _) kk) ?_
  refine wq (fun _ _ kk => rs_i2l (pc := 97) dX2_enter_97 kk) ?_
  refine wq (fun _ _ kk => wk_lst8 (pc := 98) dX2_enter_98 (by decide) rfl kk) ?_
  refine wq (fun _ _ kk => rs_aload_n (pc := 100) dX2_enter_100 rfl kk) ?_
  refine wq (fun _ _ kk => rs_getf (pc := 101) dX2_enter_101 fX2_34 (mo_lt hcl (by decide)) hcl.2.1 rfl kk) ?_
  refine wq (fun _ _ kk => rs_iload (pc := 104) dX2_enter_104 rfl kk) ?_
  refine wq (fun _ _ kk => rs_dup2 (pc := 106) dX2_enter_106 rfl rfl kk) ?_
  refine wq (fun _ _ kk => rs_iald (pc := 107) dX2_enter_107 (mo_lt hcl (by decide)) (mo_geti (d := 6) (k := 7) (kd := 0) (l := 6400) rfl (by decide) hcl) (vp_in_nI (n := c * 16 + o) (N := 6400) (by omega) (by decide)) kk) ?_
  rw [nI_clamp (show c * 16 + o < 2 ^ 31 by omega)]
  refine wq (fun _ _ kk => rs_iconst (v := 1) (pc := 108) dX2_enter_108 rfl kk) ?_
  refine wq (fun _ _ kk => rs_iadd (pc := 109) dX2_enter_109 kk) ?_
  refine wq (fun _ _ kk => rs_iast (pc := 110) dX2_enter_110 (mo_lt hcl (by decide)) (mo_geti (d := 6) (k := 7) (kd := 0) (l := 6400) rfl (by decide) hcl) (vp_in_nI (n := c * 16 + o) (N := 6400) (by omega) (by decide)) kk) ?_
  refine wq_gen (fun h_2 e_2 => ?_)
  obtain ⟨m_2, s_2, g_2, o_2⟩ := ai_e1 e_2
  replace hcl := mo_ai (tab := cl_tab) (d := 6) cl_nd rfl (by decide) (fun _ _ _ => rfl) hcl m_2 g_2 o_2
  replace hB := hB.keep m_2 (fun j _ _ => o_2 j (by omega))
  have E_2 := (E_1).trans (xc_of m_2 s_2 o_2 (by decide))
  refine wq (fun _ _ kk => rs_aload_n (pc := 111) dX2_enter_111 rfl kk) ?_
  refine wq (fun _ _ kk => rs_getf (pc := 112) dX2_enter_112 fX2_37 (mo_lt hcl (by decide)) hcl.2.1 rfl kk) ?_
  refine wq (fun _ _ kk => rs_iload (pc := 115) dX2_enter_115 rfl kk) ?_
  refine wq (fun _ _ kk => rs_dup2 (pc := 117) dX2_enter_117 rfl rfl kk) ?_
  refine wq (fun _ _ kk => rs_iald (pc := 118) dX2_enter_118 (mo_lt hcl (by decide)) (mo_geti (d := 7) (k := 8) (kd := 0) (l := 6400) rfl (by decide) hcl) (vp_in_nI (n := c * 16 + o) (N := 6400) (by omega) (by decide)) kk) ?_
  rw [nI_clamp (show c * 16 + o < 2 ^ 31 by omega)]
  refine wq (fun _ _ kk => rs_iconst (v := 1) (pc := 119) dX2_enter_119 rfl kk) ?_
  refine wq (fun _ _ kk => rs_aload_n (pc := 120) dX2_enter_120 rfl kk) ?_
  refine wq (fun _ _ kk => rs_getf (pc := 121) dX2_enter_121 fX2_47 (bk_lt hB (by decide)) hB.2.1 rfl kk) ?_
  refine wq (fun _ _ kk => rs_iload_n (pc := 124) dX2_enter_124 rfl kk) ?_
  refine wq (fun _ _ kk => rs_iconst (v := 2) (pc := 125) dX2_enter_125 rfl kk) ?_
  refine wq (fun _ _ kk => rs_callV (as := [_, _]) (pc := 126) dX2_enter_126 mk_X8_at mlX2_63 in_X8_at se_X8_at rfl (bk_lt hB (by decide)) hB.2.2.2.2.2.1.1 rfl rfl (Nat.le_of_ble_eq_true rfl) (c_X8_at (bk_lt hB (by decide)) hB.2.2.2.2.2.1.1 (bk_lt hB (by decide)) hB.2.2.2.2.2.1.2.1 hB.2.2.2.2.2.1.2.2 _ _) kk) ?_
  refine wq (fun _ _ kk => rs_ishl (pc := 129) dX2_enter_129 kk) ?_
  refine wq (fun _ _ kk => rs_ior (pc := 130) dX2_enter_130 kk) ?_
  refine wq (fun _ _ kk => rs_iast (pc := 131) dX2_enter_131 (mo_lt hcl (by decide)) (mo_geti (d := 7) (k := 8) (kd := 0) (l := 6400) rfl (by decide) hcl) (vp_in_nI (n := c * 16 + o) (N := 6400) (by omega) (by decide)) kk) ?_
  refine wq_gen (fun h_3 e_3 => ?_)
  obtain ⟨m_3, s_3, g_3, o_3⟩ := ai_e1 e_3
  replace hcl := mo_ai (tab := cl_tab) (d := 7) cl_nd rfl (by decide) (fun _ _ _ => rfl) hcl m_3 g_3 o_3
  replace hB := hB.keep m_3 (fun j _ _ => o_3 j (by omega))
  have E_3 := (E_2).trans (xc_of m_3 s_3 o_3 (by decide))
  refine wq (fun _ _ kk => rs_aload_n (pc := 132) dX2_enter_132 rfl kk) ?_
  refine wq (fun _ _ kk => rs_getf (pc := 133) dX2_enter_133 fX2_40 (mo_lt hcl (by decide)) hcl.2.1 rfl kk) ?_
  refine wq (fun _ _ kk => rs_iload (pc := 136) dX2_enter_136 rfl kk) ?_
  refine wq (fun _ _ kk => rs_dup2 (pc := 138) dX2_enter_138 rfl rfl kk) ?_
  refine wq (fun _ _ kk => rs_iald (pc := 139) dX2_enter_139 (mo_lt hcl (by decide)) (mo_geti (d := 8) (k := 9) (kd := 0) (l := 6400) rfl (by decide) hcl) (vp_in_nI (n := c * 16 + o) (N := 6400) (by omega) (by decide)) kk) ?_
  rw [nI_clamp (show c * 16 + o < 2 ^ 31 by omega)]
  refine wq (fun _ _ kk => rs_lload (pc := 140) dX2_enter_140 rfl kk) ?_
  refine wq (fun _ _ kk => rs_l2i (pc := 142) dX2_enter_142 kk) ?_
  refine wq (fun _ _ kk => rs_iadd (pc := 143) dX2_enter_143 kk) ?_
  refine wq (fun _ _ kk => rs_iast (pc := 144) dX2_enter_144 (mo_lt hcl (by decide)) (mo_geti (d := 8) (k := 9) (kd := 0) (l := 6400) rfl (by decide) hcl) (vp_in_nI (n := c * 16 + o) (N := 6400) (by omega) (by decide)) kk) ?_
  refine wq_gen (fun h_4 e_4 => ?_)
  obtain ⟨m_4, s_4, g_4, o_4⟩ := ai_e1 e_4
  replace hcl := mo_ai (tab := cl_tab) (d := 8) cl_nd rfl (by decide) (fun _ _ _ => rfl) hcl m_4 g_4 o_4
  replace hB := hB.keep m_4 (fun j _ _ => o_4 j (by omega))
  have E_4 := (E_3).trans (xc_of m_4 s_4 o_4 (by decide))
  refine wq (fun _ _ kk => rs_aload_n (pc := 145) dX2_enter_145 rfl kk) ?_
  refine wq (fun _ _ kk => rs_getf (pc := 146) dX2_enter_146 fX2_43 (mo_lt hcl (by decide)) hcl.2.1 rfl kk) ?_
  refine wq (fun _ _ kk => rs_iload (pc := 149) dX2_enter_149 rfl kk) ?_
  refine wq (fun _ _ kk => rs_dup2 (pc := 151) dX2_enter_151 rfl rfl kk) ?_
  refine wq (fun _ _ kk => rs_lald (pc := 152) dX2_enter_152 (mo_lt hcl (by decide)) (mo_getl (d := 9) (k := 10) (kd := 1) (l := 6400) rfl (by decide) hcl) (vp_in_nI (n := c * 16 + o) (N := 6400) (by omega) (by decide)) kk) ?_
  rw [nI_clamp (show c * 16 + o < 2 ^ 31 by omega)]
  refine wq (fun _ _ kk => rs_lload (pc := 153) dX2_enter_153 rfl kk) ?_
  refine wq (fun _ _ kk => rs_lload (pc := 155) dX2_enter_155 rfl kk) ?_
  refine wq (fun _ _ kk => rs_lmul (pc := 157) dX2_enter_157 kk) ?_
  refine wq (fun _ _ kk => rs_ladd (pc := 158) dX2_enter_158 kk) ?_
  refine wq (fun _ _ kk => rs_last (pc := 159) dX2_enter_159 (mo_lt hcl (by decide)) (mo_getl (d := 9) (k := 10) (kd := 1) (l := 6400) rfl (by decide) hcl) (vp_in_nI (n := c * 16 + o) (N := 6400) (by omega) (by decide)) kk) ?_
  refine wq_gen (fun h_5 e_5 => ?_)
  obtain ⟨m_5, s_5, g_5, o_5⟩ := ai_e1 e_5
  replace hcl := mo_al (tab := cl_tab) (d := 9) cl_nd rfl (by decide) (fun _ _ _ => rfl) hcl m_5 g_5 o_5
  replace hB := hB.keep m_5 (fun j _ _ => o_5 j (by omega))
  have E_5 := (E_4).trans (xc_of m_5 s_5 o_5 (by decide))
  refine wq_ret ?_ (rs_vret (pc := 160) dX2_enter_160 rfl)
  refine ⟨rfl, E_5, _, ?_, hcl⟩
  refine ⟨rfl, fun a a6 a7 a8 a9 => ?_, ?_, ?_, ?_, ?_, ?_⟩
  · simp [md_al, md_ai, va_up, a6, a7, a8, a9]
  · simp [md_al, md_ai, va_up, nI_clamp (show i < 2 ^ 31 by omega)]
  · simp [md_al, md_ai, va_up, nI_clamp (show c * 16 + o < 2 ^ 31 by omega)]
  · simp [md_al, md_ai, va_up, nI_clamp (show c * 16 + o < 2 ^ 31 by omega)]; rfl
  · simp [md_al, md_ai, va_up, nI_clamp (show c * 16 + o < 2 ^ 31 by omega)]
  · simp [md_al, md_ai, va_up, nI_clamp (show c * 16 + o < 2 ^ 31 by omega)]
