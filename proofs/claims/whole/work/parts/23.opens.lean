/-! 23: Sights.open, join, the tail of enter (walks laid by wip/whole/p23.py) -/
/-- what open does -/
def op_rel (S T : Md) (z : Nat) (n s w o : Int32) : Prop := T.1 0 = nI (z + 1) ∧ T.2.2.1 1 = S.2.2.1 1 ∧ T.2.2.1 2 = S.2.2.1 2 ∧ T.2.2.1 3 = upd (S.2.2.1 3) z (nI z) ∧ T.2.2.1 4 = upd (S.2.2.1 4) z n ∧ T.2.2.1 5 = upd (S.2.2.1 5) z s ∧ T.2.2.1 6 = upd (S.2.2.1 6) z w ∧ T.2.2.1 7 = upd (S.2.2.1 7) z o ∧ T.2.2.1 8 = upd (S.2.2.1 8) z 0 ∧ T.2.2.1 9 = upd (S.2.2.1 9) z 0 ∧ T.2.2.1 10 = upd (S.2.2.1 10) z 0 ∧ T.2.2.2 11 = vp_updL (S.2.2.2 11) z 0 ∧ T.2.2.1 12 = S.2.2.1 12
theorem dX2_open_0 : decode cX2_open 0 = .ok (.aload_n 0, 1) := by decide +kernel
theorem dX2_open_1 : decode cX2_open 1 = .ok (.getfield 9, 3) := by decide +kernel
theorem dX2_open_4 : decode cX2_open 4 = .ok (.sipush 400, 3) := by decide +kernel
theorem dX2_open_7 : decode cX2_open 7 = .ok (.if_icmp .lt 5, 3) := by decide +kernel
theorem dX2_open_10 : decode cX2_open 10 = .ok (.iconst (-1), 1) := by decide +kernel
theorem dX2_open_11 : decode cX2_open 11 = .ok (.ireturn, 1) := by decide +kernel
theorem dX2_open_12 : decode cX2_open 12 = .ok (.aload_n 0, 1) := by decide +kernel
theorem dX2_open_13 : decode cX2_open 13 = .ok (.getfield 9, 3) := by decide +kernel
theorem dX2_open_16 : decode cX2_open 16 = .ok (.istore 5, 2) := by decide +kernel
theorem dX2_open_18 : decode cX2_open 18 = .ok (.aload_n 0, 1) := by decide +kernel
theorem dX2_open_19 : decode cX2_open 19 = .ok (.dup, 1) := by decide +kernel
theorem dX2_open_20 : decode cX2_open 20 = .ok (.getfield 9, 3) := by decide +kernel
theorem dX2_open_23 : decode cX2_open 23 = .ok (.iconst 1, 1) := by decide +kernel
theorem dX2_open_24 : decode cX2_open 24 = .ok (.iadd, 1) := by decide +kernel
theorem dX2_open_25 : decode cX2_open 25 = .ok (.putfield 9, 3) := by decide +kernel
theorem dX2_open_28 : decode cX2_open 28 = .ok (.aload_n 0, 1) := by decide +kernel
theorem dX2_open_29 : decode cX2_open 29 = .ok (.getfield 22, 3) := by decide +kernel
theorem dX2_open_32 : decode cX2_open 32 = .ok (.iload 5, 2) := by decide +kernel
theorem dX2_open_34 : decode cX2_open 34 = .ok (.iload 5, 2) := by decide +kernel
theorem dX2_open_36 : decode cX2_open 36 = .ok (.iastore, 1) := by decide +kernel
theorem dX2_open_37 : decode cX2_open 37 = .ok (.aload_n 0, 1) := by decide +kernel
theorem dX2_open_38 : decode cX2_open 38 = .ok (.getfield 25, 3) := by decide +kernel
theorem dX2_open_41 : decode cX2_open 41 = .ok (.iload 5, 2) := by decide +kernel
theorem dX2_open_43 : decode cX2_open 43 = .ok (.iload_n 1, 1) := by decide +kernel
theorem dX2_open_44 : decode cX2_open 44 = .ok (.iastore, 1) := by decide +kernel
theorem dX2_open_45 : decode cX2_open 45 = .ok (.aload_n 0, 1) := by decide +kernel
theorem dX2_open_46 : decode cX2_open 46 = .ok (.getfield 28, 3) := by decide +kernel
theorem dX2_open_49 : decode cX2_open 49 = .ok (.iload 5, 2) := by decide +kernel
theorem dX2_open_51 : decode cX2_open 51 = .ok (.iload_n 2, 1) := by decide +kernel
theorem dX2_open_52 : decode cX2_open 52 = .ok (.iastore, 1) := by decide +kernel
theorem dX2_open_53 : decode cX2_open 53 = .ok (.aload_n 0, 1) := by decide +kernel
theorem dX2_open_54 : decode cX2_open 54 = .ok (.getfield 31, 3) := by decide +kernel
theorem dX2_open_57 : decode cX2_open 57 = .ok (.iload 5, 2) := by decide +kernel
theorem dX2_open_59 : decode cX2_open 59 = .ok (.iload_n 3, 1) := by decide +kernel
theorem dX2_open_60 : decode cX2_open 60 = .ok (.iastore, 1) := by decide +kernel
theorem dX2_open_61 : decode cX2_open 61 = .ok (.aload_n 0, 1) := by decide +kernel
theorem dX2_open_62 : decode cX2_open 62 = .ok (.getfield 34, 3) := by decide +kernel
theorem dX2_open_65 : decode cX2_open 65 = .ok (.iload 5, 2) := by decide +kernel
theorem dX2_open_67 : decode cX2_open 67 = .ok (.iload 4, 2) := by decide +kernel
theorem dX2_open_69 : decode cX2_open 69 = .ok (.iastore, 1) := by decide +kernel
theorem dX2_open_70 : decode cX2_open 70 = .ok (.aload_n 0, 1) := by decide +kernel
theorem dX2_open_71 : decode cX2_open 71 = .ok (.getfield 37, 3) := by decide +kernel
theorem dX2_open_74 : decode cX2_open 74 = .ok (.iload 5, 2) := by decide +kernel
theorem dX2_open_76 : decode cX2_open 76 = .ok (.iconst 0, 1) := by decide +kernel
theorem dX2_open_77 : decode cX2_open 77 = .ok (.iastore, 1) := by decide +kernel
theorem dX2_open_78 : decode cX2_open 78 = .ok (.aload_n 0, 1) := by decide +kernel
theorem dX2_open_79 : decode cX2_open 79 = .ok (.getfield 40, 3) := by decide +kernel
theorem dX2_open_82 : decode cX2_open 82 = .ok (.iload 5, 2) := by decide +kernel
theorem dX2_open_84 : decode cX2_open 84 = .ok (.iconst 0, 1) := by decide +kernel
theorem dX2_open_85 : decode cX2_open 85 = .ok (.iastore, 1) := by decide +kernel
theorem dX2_open_86 : decode cX2_open 86 = .ok (.aload_n 0, 1) := by decide +kernel
theorem dX2_open_87 : decode cX2_open 87 = .ok (.getfield 43, 3) := by decide +kernel
theorem dX2_open_90 : decode cX2_open 90 = .ok (.iload 5, 2) := by decide +kernel
theorem dX2_open_92 : decode cX2_open 92 = .ok (.iconst 0, 1) := by decide +kernel
theorem dX2_open_93 : decode cX2_open 93 = .ok (.iastore, 1) := by decide +kernel
theorem dX2_open_94 : decode cX2_open 94 = .ok (.aload_n 0, 1) := by decide +kernel
theorem dX2_open_95 : decode cX2_open 95 = .ok (.getfield 46, 3) := by decide +kernel
theorem dX2_open_98 : decode cX2_open 98 = .ok (.iload 5, 2) := by decide +kernel
theorem dX2_open_100 : decode cX2_open 100 = .ok (.lconst 0, 1) := by decide +kernel
theorem dX2_open_101 : decode cX2_open 101 = .ok (.lastore, 1) := by decide +kernel
theorem dX2_open_102 : decode cX2_open 102 = .ok (.iload 5, 2) := by decide +kernel
theorem dX2_open_104 : decode cX2_open 104 = .ok (.ireturn, 1) := by decide +kernel
set_option maxRecDepth 100000 in
set_option maxHeartbeats 4000000 in
theorem c_X2_open {h : ai_H} {S : Md} (hcl : cl_at h S) {z : Nat} (ez : S.1 0 = nI z) (hz : z < 400) (n s w o : Int32) : ai_QM MX2_open [.ref 22, .int n, .int s, .int w, .int o] h (fun r g => r = some (.int (nI z)) ∧ xc h g ∧ ∃ T, op_rel S T z n s w o ∧ cl_at g T) := by
  refine qm_of (ls := [.ref 22, .int n, .int s, .int w, .int o, .float 0]) (by decide) (by simp [ai_en, Value.category]) (by rfl) ?_
  refine wq (fun _ _ kk => rs_aload_n (pc := 0) dX2_open_0 rfl kk) ?_
  refine wq (fun _ _ kk => rs_getf (pc := 1) dX2_open_1 fX2_9 (mo_lt hcl (by decide)) hcl.2.1 rfl kk) ?_
  refine wq (fun _ _ kk => rs_sipush (v := 400) (pc := 4) dX2_open_4 rfl kk) ?_
  refine wq_br (fun _ _ kt kf => rs_icmp_lt (tgt := 12) (pc := 7) dX2_open_7 rfl kt kf) (fun c_7 => ?_) (fun c_7 => absurd c_7 (fun y => y (by rw [ez]; exact Int32.not_le.mp (nI_ge hz (by decide)))))
  refine wq (fun _ _ kk => rs_aload_n (pc := 12) dX2_open_12 rfl kk) ?_
  refine wq (fun _ _ kk => rs_getf (pc := 13) dX2_open_13 fX2_9 (mo_lt hcl (by decide)) hcl.2.1 rfl kk) ?_
  rw [ez]
  refine wq (fun _ _ kk => wk_ist5 (pc := 16) dX2_open_16 (by decide) rfl kk) ?_
  refine wq (fun _ _ kk => rs_aload_n (pc := 18) dX2_open_18 rfl kk) ?_
  refine wq (fun _ _ kk => rs_dup (pc := 19) dX2_open_19 rfl kk) ?_
  refine wq (fun _ _ kk => rs_getf (pc := 20) dX2_open_20 fX2_9 (mo_lt hcl (by decide)) hcl.2.1 rfl kk) ?_
  rw [ez]
  refine wq (fun _ _ kk => rs_iconst (v := 1) (pc := 23) dX2_open_23 rfl kk) ?_
  refine wq (fun _ _ kk => rs_iadd (pc := 24) dX2_open_24 kk) ?_
  rw [nI_1 z]
  refine wq (fun _ _ kk => rs_putf (pc := 25) dX2_open_25 fX2_9 (mo_lt hcl (by decide)) hcl.2.1 rfl (Nat.le_of_ble_eq_true rfl) kk) ?_
  refine wq_gen (fun h_1 e_1 => ?_)
  obtain ⟨m_1, s_1, g_1, o_1⟩ := ai_e1 e_1
  replace g_1 : h_1.2.2 22 = .inr (2, [_, _, _, _, _, _, _, _, _, _, _, _, _]) := g_1
  replace hcl := mo_si (k := 0) hcl m_1 g_1 o_1 rfl
  have E_1 := (xc.rf).trans (xc_of m_1 s_1 o_1 (by decide))
  refine wq (fun _ _ kk => rs_aload_n (pc := 28) dX2_open_28 rfl kk) ?_
  refine wq (fun _ _ kk => rs_getf (pc := 29) dX2_open_29 fX2_22 (mo_lt hcl (by decide)) hcl.2.1 rfl kk) ?_
  refine wq (fun _ _ kk => rs_iload (pc := 32) dX2_open_32 rfl kk) ?_
  refine wq (fun _ _ kk => rs_iload (pc := 34) dX2_open_34 rfl kk) ?_
  refine wq (fun _ _ kk => rs_iast (pc := 36) dX2_open_36 (mo_lt hcl (by decide)) (mo_geti (d := 2) (k := 3) (kd := 0) (l := 400) rfl (by decide) hcl) (vp_in_nI (n := z) (N := 400) hz (by decide)) kk) ?_
  refine wq_gen (fun h_2 e_2 => ?_)
  obtain ⟨m_2, s_2, g_2, o_2⟩ := ai_e1 e_2
  replace hcl := mo_ai (tab := cl_tab) (d := 2) cl_nd rfl (by decide) (fun _ _ _ => rfl) hcl m_2 g_2 o_2
  have E_2 := (E_1).trans (xc_of m_2 s_2 o_2 (by decide))
  refine wq (fun _ _ kk => rs_aload_n (pc := 37) dX2_open_37 rfl kk) ?_
  refine wq (fun _ _ kk => rs_getf (pc := 38) dX2_open_38 fX2_25 (mo_lt hcl (by decide)) hcl.2.1 rfl kk) ?_
  refine wq (fun _ _ kk => rs_iload (pc := 41) dX2_open_41 rfl kk) ?_
  refine wq (fun _ _ kk => rs_iload_n (pc := 43) dX2_open_43 rfl kk) ?_
  refine wq (fun _ _ kk => rs_iast (pc := 44) dX2_open_44 (mo_lt hcl (by decide)) (mo_geti (d := 3) (k := 4) (kd := 0) (l := 400) rfl (by decide) hcl) (vp_in_nI (n := z) (N := 400) hz (by decide)) kk) ?_
  refine wq_gen (fun h_3 e_3 => ?_)
  obtain ⟨m_3, s_3, g_3, o_3⟩ := ai_e1 e_3
  replace hcl := mo_ai (tab := cl_tab) (d := 3) cl_nd rfl (by decide) (fun _ _ _ => rfl) hcl m_3 g_3 o_3
  have E_3 := (E_2).trans (xc_of m_3 s_3 o_3 (by decide))
  refine wq (fun _ _ kk => rs_aload_n (pc := 45) dX2_open_45 rfl kk) ?_
  refine wq (fun _ _ kk => rs_getf (pc := 46) dX2_open_46 fX2_28 (mo_lt hcl (by decide)) hcl.2.1 rfl kk) ?_
  refine wq (fun _ _ kk => rs_iload (pc := 49) dX2_open_49 rfl kk) ?_
  refine wq (fun _ _ kk => rs_iload_n (pc := 51) dX2_open_51 rfl kk) ?_
  refine wq (fun _ _ kk => rs_iast (pc := 52) dX2_open_52 (mo_lt hcl (by decide)) (mo_geti (d := 4) (k := 5) (kd := 0) (l := 400) rfl (by decide) hcl) (vp_in_nI (n := z) (N := 400) hz (by decide)) kk) ?_
  refine wq_gen (fun h_4 e_4 => ?_)
  obtain ⟨m_4, s_4, g_4, o_4⟩ := ai_e1 e_4
  replace hcl := mo_ai (tab := cl_tab) (d := 4) cl_nd rfl (by decide) (fun _ _ _ => rfl) hcl m_4 g_4 o_4
  have E_4 := (E_3).trans (xc_of m_4 s_4 o_4 (by decide))
  refine wq (fun _ _ kk => rs_aload_n (pc := 53) dX2_open_53 rfl kk) ?_
  refine wq (fun _ _ kk => rs_getf (pc := 54) dX2_open_54 fX2_31 (mo_lt hcl (by decide)) hcl.2.1 rfl kk) ?_
  refine wq (fun _ _ kk => rs_iload (pc := 57) dX2_open_57 rfl kk) ?_
  refine wq (fun _ _ kk => rs_iload_n (pc := 59) dX2_open_59 rfl kk) ?_
  refine wq (fun _ _ kk => rs_iast (pc := 60) dX2_open_60 (mo_lt hcl (by decide)) (mo_geti (d := 5) (k := 6) (kd := 0) (l := 400) rfl (by decide) hcl) (vp_in_nI (n := z) (N := 400) hz (by decide)) kk) ?_
  refine wq_gen (fun h_5 e_5 => ?_)
  obtain ⟨m_5, s_5, g_5, o_5⟩ := ai_e1 e_5
  replace hcl := mo_ai (tab := cl_tab) (d := 5) cl_nd rfl (by decide) (fun _ _ _ => rfl) hcl m_5 g_5 o_5
  have E_5 := (E_4).trans (xc_of m_5 s_5 o_5 (by decide))
  refine wq (fun _ _ kk => rs_aload_n (pc := 61) dX2_open_61 rfl kk) ?_
  refine wq (fun _ _ kk => rs_getf (pc := 62) dX2_open_62 fX2_34 (mo_lt hcl (by decide)) hcl.2.1 rfl kk) ?_
  refine wq (fun _ _ kk => rs_iload (pc := 65) dX2_open_65 rfl kk) ?_
  refine wq (fun _ _ kk => rs_iload (pc := 67) dX2_open_67 rfl kk) ?_
  refine wq (fun _ _ kk => rs_iast (pc := 69) dX2_open_69 (mo_lt hcl (by decide)) (mo_geti (d := 6) (k := 7) (kd := 0) (l := 400) rfl (by decide) hcl) (vp_in_nI (n := z) (N := 400) hz (by decide)) kk) ?_
  refine wq_gen (fun h_6 e_6 => ?_)
  obtain ⟨m_6, s_6, g_6, o_6⟩ := ai_e1 e_6
  replace hcl := mo_ai (tab := cl_tab) (d := 6) cl_nd rfl (by decide) (fun _ _ _ => rfl) hcl m_6 g_6 o_6
  have E_6 := (E_5).trans (xc_of m_6 s_6 o_6 (by decide))
  refine wq (fun _ _ kk => rs_aload_n (pc := 70) dX2_open_70 rfl kk) ?_
  refine wq (fun _ _ kk => rs_getf (pc := 71) dX2_open_71 fX2_37 (mo_lt hcl (by decide)) hcl.2.1 rfl kk) ?_
  refine wq (fun _ _ kk => rs_iload (pc := 74) dX2_open_74 rfl kk) ?_
  refine wq (fun _ _ kk => rs_iconst (v := 0) (pc := 76) dX2_open_76 rfl kk) ?_
  refine wq (fun _ _ kk => rs_iast (pc := 77) dX2_open_77 (mo_lt hcl (by decide)) (mo_geti (d := 7) (k := 8) (kd := 0) (l := 400) rfl (by decide) hcl) (vp_in_nI (n := z) (N := 400) hz (by decide)) kk) ?_
  refine wq_gen (fun h_7 e_7 => ?_)
  obtain ⟨m_7, s_7, g_7, o_7⟩ := ai_e1 e_7
  replace hcl := mo_ai (tab := cl_tab) (d := 7) cl_nd rfl (by decide) (fun _ _ _ => rfl) hcl m_7 g_7 o_7
  have E_7 := (E_6).trans (xc_of m_7 s_7 o_7 (by decide))
  refine wq (fun _ _ kk => rs_aload_n (pc := 78) dX2_open_78 rfl kk) ?_
  refine wq (fun _ _ kk => rs_getf (pc := 79) dX2_open_79 fX2_40 (mo_lt hcl (by decide)) hcl.2.1 rfl kk) ?_
  refine wq (fun _ _ kk => rs_iload (pc := 82) dX2_open_82 rfl kk) ?_
  refine wq (fun _ _ kk => rs_iconst (v := 0) (pc := 84) dX2_open_84 rfl kk) ?_
  refine wq (fun _ _ kk => rs_iast (pc := 85) dX2_open_85 (mo_lt hcl (by decide)) (mo_geti (d := 8) (k := 9) (kd := 0) (l := 400) rfl (by decide) hcl) (vp_in_nI (n := z) (N := 400) hz (by decide)) kk) ?_
  refine wq_gen (fun h_8 e_8 => ?_)
  obtain ⟨m_8, s_8, g_8, o_8⟩ := ai_e1 e_8
  replace hcl := mo_ai (tab := cl_tab) (d := 8) cl_nd rfl (by decide) (fun _ _ _ => rfl) hcl m_8 g_8 o_8
  have E_8 := (E_7).trans (xc_of m_8 s_8 o_8 (by decide))
  refine wq (fun _ _ kk => rs_aload_n (pc := 86) dX2_open_86 rfl kk) ?_
  refine wq (fun _ _ kk => rs_getf (pc := 87) dX2_open_87 fX2_43 (mo_lt hcl (by decide)) hcl.2.1 rfl kk) ?_
  refine wq (fun _ _ kk => rs_iload (pc := 90) dX2_open_90 rfl kk) ?_
  refine wq (fun _ _ kk => rs_iconst (v := 0) (pc := 92) dX2_open_92 rfl kk) ?_
  refine wq (fun _ _ kk => rs_iast (pc := 93) dX2_open_93 (mo_lt hcl (by decide)) (mo_geti (d := 9) (k := 10) (kd := 0) (l := 400) rfl (by decide) hcl) (vp_in_nI (n := z) (N := 400) hz (by decide)) kk) ?_
  refine wq_gen (fun h_9 e_9 => ?_)
  obtain ⟨m_9, s_9, g_9, o_9⟩ := ai_e1 e_9
  replace hcl := mo_ai (tab := cl_tab) (d := 9) cl_nd rfl (by decide) (fun _ _ _ => rfl) hcl m_9 g_9 o_9
  have E_9 := (E_8).trans (xc_of m_9 s_9 o_9 (by decide))
  refine wq (fun _ _ kk => rs_aload_n (pc := 94) dX2_open_94 rfl kk) ?_
  refine wq (fun _ _ kk => rs_getf (pc := 95) dX2_open_95 fX2_46 (mo_lt hcl (by decide)) hcl.2.1 rfl kk) ?_
  refine wq (fun _ _ kk => rs_iload (pc := 98) dX2_open_98 rfl kk) ?_
  refine wq (fun _ _ kk => rs_lconst (v := 0) (pc := 100) dX2_open_100 rfl kk) ?_
  refine wq (fun _ _ kk => rs_last (pc := 101) dX2_open_101 (mo_lt hcl (by decide)) (mo_getl (d := 10) (k := 11) (kd := 1) (l := 400) rfl (by decide) hcl) (vp_in_nI (n := z) (N := 400) hz (by decide)) kk) ?_
  refine wq_gen (fun h_10 e_10 => ?_)
  obtain ⟨m_10, s_10, g_10, o_10⟩ := ai_e1 e_10
  replace hcl := mo_al (tab := cl_tab) (d := 10) cl_nd rfl (by decide) (fun _ _ _ => rfl) hcl m_10 g_10 o_10
  have E_10 := (E_9).trans (xc_of m_10 s_10 o_10 (by decide))
  refine wq (fun _ _ kk => rs_iload (pc := 102) dX2_open_102 rfl kk) ?_
  refine wq_ret ?_ (rs_iret (pc := 104) dX2_open_104 rfl)
  refine ⟨rfl, E_10, _, ⟨rfl, ?_, ?_, ?_, ?_, ?_, ?_, ?_, ?_, ?_, ?_, ?_, ?_⟩, hcl⟩ <;> simp [md_ai, md_al, md_si, va_up, nI_clamp (show z < 2 ^ 31 by omega)]
def jn_on (S T : Md) (z nn : Nat) : Prop := T = md_ai (md_ai S 2 (upd (S.2.2.1 2) z (S.2.2.1 1 nn))) 1 (upd (S.2.2.1 1) nn (nI z))
def jn_in (S T : Md) (z c : Nat) : Prop := T = md_ai (md_ai S 3 (upd (S.2.2.1 3) z (S.2.2.1 3 c))) 3 (upd (upd (S.2.2.1 3) z (S.2.2.1 3 c)) c (nI z))
theorem dX2_join_0 : decode cX2_join 0 = .ok (.aload_n 0, 1) := by decide +kernel
theorem dX2_join_1 : decode cX2_join 1 = .ok (.iload_n 1, 1) := by decide +kernel
theorem dX2_join_2 : decode cX2_join 2 = .ok (.invokevirtual 88, 3) := by decide +kernel
theorem dX2_join_5 : decode cX2_join 5 = .ok (.ifCond .ne 4, 3) := by decide +kernel
theorem dX2_join_8 : decode cX2_join 8 = .ok (.return_, 1) := by decide +kernel
theorem dX2_join_9 : decode cX2_join 9 = .ok (.aload_n 0, 1) := by decide +kernel
theorem dX2_join_10 : decode cX2_join 10 = .ok (.iload_n 2, 1) := by decide +kernel
theorem dX2_join_11 : decode cX2_join 11 = .ok (.invokevirtual 88, 3) := by decide +kernel
theorem dX2_join_14 : decode cX2_join 14 = .ok (.ifCond .eq 25, 3) := by decide +kernel
theorem dX2_join_17 : decode cX2_join 17 = .ok (.aload_n 0, 1) := by decide +kernel
theorem dX2_join_18 : decode cX2_join 18 = .ok (.getfield 22, 3) := by decide +kernel
theorem dX2_join_21 : decode cX2_join 21 = .ok (.iload_n 1, 1) := by decide +kernel
theorem dX2_join_22 : decode cX2_join 22 = .ok (.aload_n 0, 1) := by decide +kernel
theorem dX2_join_23 : decode cX2_join 23 = .ok (.getfield 22, 3) := by decide +kernel
theorem dX2_join_26 : decode cX2_join 26 = .ok (.iload_n 2, 1) := by decide +kernel
theorem dX2_join_27 : decode cX2_join 27 = .ok (.iaload, 1) := by decide +kernel
theorem dX2_join_28 : decode cX2_join 28 = .ok (.iastore, 1) := by decide +kernel
theorem dX2_join_29 : decode cX2_join 29 = .ok (.aload_n 0, 1) := by decide +kernel
theorem dX2_join_30 : decode cX2_join 30 = .ok (.getfield 22, 3) := by decide +kernel
theorem dX2_join_33 : decode cX2_join 33 = .ok (.iload_n 2, 1) := by decide +kernel
theorem dX2_join_34 : decode cX2_join 34 = .ok (.iload_n 1, 1) := by decide +kernel
theorem dX2_join_35 : decode cX2_join 35 = .ok (.iastore, 1) := by decide +kernel
theorem dX2_join_36 : decode cX2_join 36 = .ok (.goto 47, 3) := by decide +kernel
theorem dX2_join_39 : decode cX2_join 39 = .ok (.aload_n 0, 1) := by decide +kernel
theorem dX2_join_40 : decode cX2_join 40 = .ok (.getfield 25, 3) := by decide +kernel
theorem dX2_join_43 : decode cX2_join 43 = .ok (.iload_n 1, 1) := by decide +kernel
theorem dX2_join_44 : decode cX2_join 44 = .ok (.iaload, 1) := by decide +kernel
theorem dX2_join_45 : decode cX2_join 45 = .ok (.iconst 0, 1) := by decide +kernel
theorem dX2_join_46 : decode cX2_join 46 = .ok (.bipush 79, 2) := by decide +kernel
theorem dX2_join_48 : decode cX2_join 48 = .ok (.invokestatic 95, 3) := by decide +kernel
theorem dX2_join_51 : decode cX2_join 51 = .ok (.ifCond .eq 32, 3) := by decide +kernel
theorem dX2_join_54 : decode cX2_join 54 = .ok (.aload_n 0, 1) := by decide +kernel
theorem dX2_join_55 : decode cX2_join 55 = .ok (.getfield 19, 3) := by decide +kernel
theorem dX2_join_58 : decode cX2_join 58 = .ok (.iload_n 1, 1) := by decide +kernel
theorem dX2_join_59 : decode cX2_join 59 = .ok (.aload_n 0, 1) := by decide +kernel
theorem dX2_join_60 : decode cX2_join 60 = .ok (.getfield 15, 3) := by decide +kernel
theorem dX2_join_63 : decode cX2_join 63 = .ok (.aload_n 0, 1) := by decide +kernel
theorem dX2_join_64 : decode cX2_join 64 = .ok (.getfield 25, 3) := by decide +kernel
theorem dX2_join_67 : decode cX2_join 67 = .ok (.iload_n 1, 1) := by decide +kernel
theorem dX2_join_68 : decode cX2_join 68 = .ok (.iaload, 1) := by decide +kernel
theorem dX2_join_69 : decode cX2_join 69 = .ok (.iaload, 1) := by decide +kernel
theorem dX2_join_70 : decode cX2_join 70 = .ok (.iastore, 1) := by decide +kernel
theorem dX2_join_71 : decode cX2_join 71 = .ok (.aload_n 0, 1) := by decide +kernel
theorem dX2_join_72 : decode cX2_join 72 = .ok (.getfield 15, 3) := by decide +kernel
theorem dX2_join_75 : decode cX2_join 75 = .ok (.aload_n 0, 1) := by decide +kernel
theorem dX2_join_76 : decode cX2_join 76 = .ok (.getfield 25, 3) := by decide +kernel
theorem dX2_join_79 : decode cX2_join 79 = .ok (.iload_n 1, 1) := by decide +kernel
theorem dX2_join_80 : decode cX2_join 80 = .ok (.iaload, 1) := by decide +kernel
theorem dX2_join_81 : decode cX2_join 81 = .ok (.iload_n 1, 1) := by decide +kernel
theorem dX2_join_82 : decode cX2_join 82 = .ok (.iastore, 1) := by decide +kernel
theorem dX2_join_83 : decode cX2_join 83 = .ok (.return_, 1) := by decide +kernel
set_option maxRecDepth 100000 in
set_option maxHeartbeats 4000000 in
theorem c_X2_join_on {h : ai_H} {S : Md} (hcl : cl_at h S) {z : Nat} (ez : S.1 0 = nI (z + 1)) (hz4 : z + 1 ≤ 400) {nn : Nat} (hnn : nn < 80) (en : S.2.2.1 4 z = nI nn) : ai_QM MX2_join [.ref 22, .int (nI z), .int (-1)] h (fun r g => r = none ∧ xc h g ∧ ∃ T, jn_on S T z nn ∧ cl_at g T) := by
  refine qm_of (ls := [.ref 22, .int (nI z), .int (-1)]) (by decide) (by simp [ai_en, Value.category]) (by rfl) ?_
  refine wq (fun _ _ kk => rs_aload_n (pc := 0) dX2_join_0 rfl kk) ?_
  refine wq (fun _ _ kk => rs_iload_n (pc := 1) dX2_join_1 rfl kk) ?_
  refine wq (fun _ _ kk => rs_callV (as := [_]) (pc := 2) dX2_join_2 mk_X2_has mlX2_88 in_X2_has se_X2_has rfl (mo_lt hcl (by decide)) hcl.2.1 rfl rfl (Nat.le_of_ble_eq_true rfl) (c_X2_has hcl _) kk) ?_
  refine wq_bn (fun _ _ kt kf => rs_if_ne (tgt := 9) (pc := 5) dX2_join_5 rfl kt kf) (fun c_5 => ?_) (fun c_5 => absurd c_5 (by rw [has_1 ez hz4 (Nat.lt_succ_self z)]; decide))
  refine wq (fun _ _ kk => rs_aload_n (pc := 9) dX2_join_9 rfl kk) ?_
  refine wq (fun _ _ kk => rs_iload_n (pc := 10) dX2_join_10 rfl kk) ?_
  refine wq (fun _ _ kk => rs_callV (as := [_]) (pc := 11) dX2_join_11 mk_X2_has mlX2_88 in_X2_has se_X2_has rfl (mo_lt hcl (by decide)) hcl.2.1 rfl rfl (Nat.le_of_ble_eq_true rfl) (c_X2_has hcl _) kk) ?_
  refine wq_br (fun _ _ kt kf => rs_if_eq (tgt := 39) (pc := 14) dX2_join_14 rfl kt kf) (fun c_14 => ?_) (fun c_14 => absurd c_14 (fun y => y has_m1))
  refine wq (fun _ _ kk => rs_aload_n (pc := 39) dX2_join_39 rfl kk) ?_
  refine wq (fun _ _ kk => rs_getf (pc := 40) dX2_join_40 fX2_25 (mo_lt hcl (by decide)) hcl.2.1 rfl kk) ?_
  refine wq (fun _ _ kk => rs_iload_n (pc := 43) dX2_join_43 rfl kk) ?_
  refine wq (fun _ _ kk => rs_iald (pc := 44) dX2_join_44 (mo_lt hcl (by decide)) (mo_geti (d := 3) (k := 4) (kd := 0) (l := 400) rfl (by decide) hcl) (vp_in_nI (n := z) (N := 400) (by omega) (by decide)) kk) ?_
  rw [nI_clamp (show z < 2 ^ 31 by omega), show S.2.2.1 4 z = nI nn from en]
  refine wq (fun _ _ kk => rs_iconst (v := 0) (pc := 45) dX2_join_45 rfl kk) ?_
  refine wq (fun _ _ kk => rs_bipush (v := 79) (pc := 46) dX2_join_46 rfl kk) ?_
  refine wq (fun _ _ kk => rs_callS (as := [_, _, _]) (pc := 48) dX2_join_48 mk_X11_isWithin mlX2_95 st_X11_isWithin rfl rfl (Nat.le_of_ble_eq_true rfl) (c_X11_isWithin) kk) ?_
  refine wq_br (fun _ _ kt kf => rs_if_eq (tgt := 83) (pc := 51) dX2_join_51 rfl kt kf) (fun c_51 => absurd c_51 (by rw [show bi_in (nI nn) 0 79 = 1 from bi_in_nI (z := 80) hnn (by decide)]; decide)) (fun c_51 => ?_)
  refine wq (fun _ _ kk => rs_aload_n (pc := 54) dX2_join_54 rfl kk) ?_
  refine wq (fun _ _ kk => rs_getf (pc := 55) dX2_join_55 fX2_19 (mo_lt hcl (by decide)) hcl.2.1 rfl kk) ?_
  refine wq (fun _ _ kk => rs_iload_n (pc := 58) dX2_join_58 rfl kk) ?_
  refine wq (fun _ _ kk => rs_aload_n (pc := 59) dX2_join_59 rfl kk) ?_
  refine wq (fun _ _ kk => rs_getf (pc := 60) dX2_join_60 fX2_15 (mo_lt hcl (by decide)) hcl.2.1 rfl kk) ?_
  refine wq (fun _ _ kk => rs_aload_n (pc := 63) dX2_join_63 rfl kk) ?_
  refine wq (fun _ _ kk => rs_getf (pc := 64) dX2_join_64 fX2_25 (mo_lt hcl (by decide)) hcl.2.1 rfl kk) ?_
  refine wq (fun _ _ kk => rs_iload_n (pc := 67) dX2_join_67 rfl kk) ?_
  refine wq (fun _ _ kk => rs_iald (pc := 68) dX2_join_68 (mo_lt hcl (by decide)) (mo_geti (d := 3) (k := 4) (kd := 0) (l := 400) rfl (by decide) hcl) (vp_in_nI (n := z) (N := 400) (by omega) (by decide)) kk) ?_
  rw [nI_clamp (show z < 2 ^ 31 by omega), show S.2.2.1 4 z = nI nn from en]
  refine wq (fun _ _ kk => rs_iald (pc := 69) dX2_join_69 (mo_lt hcl (by decide)) (mo_geti (d := 0) (k := 1) (kd := 0) (l := 80) rfl (by decide) hcl) (vp_in_nI (n := nn) (N := 80) hnn (by decide)) kk) ?_
  rw [nI_clamp (show nn < 2 ^ 31 by omega)]
  refine wq (fun _ _ kk => rs_iast (pc := 70) dX2_join_70 (mo_lt hcl (by decide)) (mo_geti (d := 1) (k := 2) (kd := 0) (l := 400) rfl (by decide) hcl) (vp_in_nI (n := z) (N := 400) (by omega) (by decide)) kk) ?_
  refine wq_gen (fun h_1 e_1 => ?_)
  obtain ⟨m_1, s_1, g_1, o_1⟩ := ai_e1 e_1
  replace hcl := mo_ai (tab := cl_tab) (d := 1) cl_nd rfl (by decide) (fun _ _ _ => rfl) hcl m_1 g_1 o_1
  have E_1 := (xc.rf).trans (xc_of m_1 s_1 o_1 (by decide))
  refine wq (fun _ _ kk => rs_aload_n (pc := 71) dX2_join_71 rfl kk) ?_
  refine wq (fun _ _ kk => rs_getf (pc := 72) dX2_join_72 fX2_15 (mo_lt hcl (by decide)) hcl.2.1 rfl kk) ?_
  refine wq (fun _ _ kk => rs_aload_n (pc := 75) dX2_join_75 rfl kk) ?_
  refine wq (fun _ _ kk => rs_getf (pc := 76) dX2_join_76 fX2_25 (mo_lt hcl (by decide)) hcl.2.1 rfl kk) ?_
  refine wq (fun _ _ kk => rs_iload_n (pc := 79) dX2_join_79 rfl kk) ?_
  refine wq (fun _ _ kk => rs_iald (pc := 80) dX2_join_80 (mo_lt hcl (by decide)) (mo_geti (d := 3) (k := 4) (kd := 0) (l := 400) rfl (by decide) hcl) (vp_in_nI (n := z) (N := 400) (by omega) (by decide)) kk) ?_
  rw [nI_clamp (show z < 2 ^ 31 by omega), show (md_ai S 2 _).2.2.1 4 z = nI nn from en]
  refine wq (fun _ _ kk => rs_iload_n (pc := 81) dX2_join_81 rfl kk) ?_
  refine wq (fun _ _ kk => rs_iast (pc := 82) dX2_join_82 (mo_lt hcl (by decide)) (mo_geti (d := 0) (k := 1) (kd := 0) (l := 80) rfl (by decide) hcl) (vp_in_nI (n := nn) (N := 80) hnn (by decide)) kk) ?_
  refine wq_gen (fun h_2 e_2 => ?_)
  obtain ⟨m_2, s_2, g_2, o_2⟩ := ai_e1 e_2
  replace hcl := mo_ai (tab := cl_tab) (d := 0) cl_nd rfl (by decide) (fun _ _ _ => rfl) hcl m_2 g_2 o_2
  have E_2 := (E_1).trans (xc_of m_2 s_2 o_2 (by decide))
  refine wq_ret ?_ (rs_vret (pc := 83) dX2_join_83 rfl)
  refine ⟨rfl, E_2, _, rfl, ?_⟩
  rw [nI_clamp (show z < 2 ^ 31 by omega), nI_clamp (show nn < 2 ^ 31 by omega)] at hcl
  exact hcl
set_option maxRecDepth 100000 in
set_option maxHeartbeats 4000000 in
theorem c_X2_join_in {h : ai_H} {S : Md} (hcl : cl_at h S) {z : Nat} (ez : S.1 0 = nI (z + 1)) (hz4 : z + 1 ≤ 400) {c : Nat} (hc : c < z) : ai_QM MX2_join [.ref 22, .int (nI z), .int (nI c)] h (fun r g => r = none ∧ xc h g ∧ ∃ T, jn_in S T z c ∧ cl_at g T) := by
  refine qm_of (ls := [.ref 22, .int (nI z), .int (nI c)]) (by decide) (by simp [ai_en, Value.category]) (by rfl) ?_
  refine wq (fun _ _ kk => rs_aload_n (pc := 0) dX2_join_0 rfl kk) ?_
  refine wq (fun _ _ kk => rs_iload_n (pc := 1) dX2_join_1 rfl kk) ?_
  refine wq (fun _ _ kk => rs_callV (as := [_]) (pc := 2) dX2_join_2 mk_X2_has mlX2_88 in_X2_has se_X2_has rfl (mo_lt hcl (by decide)) hcl.2.1 rfl rfl (Nat.le_of_ble_eq_true rfl) (c_X2_has hcl _) kk) ?_
  refine wq_bn (fun _ _ kt kf => rs_if_ne (tgt := 9) (pc := 5) dX2_join_5 rfl kt kf) (fun c_5 => ?_) (fun c_5 => absurd c_5 (by rw [has_1 ez hz4 (Nat.lt_succ_self z)]; decide))
  refine wq (fun _ _ kk => rs_aload_n (pc := 9) dX2_join_9 rfl kk) ?_
  refine wq (fun _ _ kk => rs_iload_n (pc := 10) dX2_join_10 rfl kk) ?_
  refine wq (fun _ _ kk => rs_callV (as := [_]) (pc := 11) dX2_join_11 mk_X2_has mlX2_88 in_X2_has se_X2_has rfl (mo_lt hcl (by decide)) hcl.2.1 rfl rfl (Nat.le_of_ble_eq_true rfl) (c_X2_has hcl _) kk) ?_
  refine wq_br (fun _ _ kt kf => rs_if_eq (tgt := 39) (pc := 14) dX2_join_14 rfl kt kf) (fun c_14 => absurd c_14 (by rw [has_1 ez hz4 (by omega)]; decide)) (fun c_14 => ?_)
  refine wq (fun _ _ kk => rs_aload_n (pc := 17) dX2_join_17 rfl kk) ?_
  refine wq (fun _ _ kk => rs_getf (pc := 18) dX2_join_18 fX2_22 (mo_lt hcl (by decide)) hcl.2.1 rfl kk) ?_
  refine wq (fun _ _ kk => rs_iload_n (pc := 21) dX2_join_21 rfl kk) ?_
  refine wq (fun _ _ kk => rs_aload_n (pc := 22) dX2_join_22 rfl kk) ?_
  refine wq (fun _ _ kk => rs_getf (pc := 23) dX2_join_23 fX2_22 (mo_lt hcl (by decide)) hcl.2.1 rfl kk) ?_
  refine wq (fun _ _ kk => rs_iload_n (pc := 26) dX2_join_26 rfl kk) ?_
  refine wq (fun _ _ kk => rs_iald (pc := 27) dX2_join_27 (mo_lt hcl (by decide)) (mo_geti (d := 2) (k := 3) (kd := 0) (l := 400) rfl (by decide) hcl) (vp_in_nI (n := c) (N := 400) (by omega) (by decide)) kk) ?_
  rw [nI_clamp (show c < 2 ^ 31 by omega)]
  refine wq (fun _ _ kk => rs_iast (pc := 28) dX2_join_28 (mo_lt hcl (by decide)) (mo_geti (d := 2) (k := 3) (kd := 0) (l := 400) rfl (by decide) hcl) (vp_in_nI (n := z) (N := 400) (by omega) (by decide)) kk) ?_
  refine wq_gen (fun h_1 e_1 => ?_)
  obtain ⟨m_1, s_1, g_1, o_1⟩ := ai_e1 e_1
  replace hcl := mo_ai (tab := cl_tab) (d := 2) cl_nd rfl (by decide) (fun _ _ _ => rfl) hcl m_1 g_1 o_1
  have E_1 := (xc.rf).trans (xc_of m_1 s_1 o_1 (by decide))
  refine wq (fun _ _ kk => rs_aload_n (pc := 29) dX2_join_29 rfl kk) ?_
  refine wq (fun _ _ kk => rs_getf (pc := 30) dX2_join_30 fX2_22 (mo_lt hcl (by decide)) hcl.2.1 rfl kk) ?_
  refine wq (fun _ _ kk => rs_iload_n (pc := 33) dX2_join_33 rfl kk) ?_
  refine wq (fun _ _ kk => rs_iload_n (pc := 34) dX2_join_34 rfl kk) ?_
  refine wq (fun _ _ kk => rs_iast (pc := 35) dX2_join_35 (mo_lt hcl (by decide)) (mo_geti (d := 2) (k := 3) (kd := 0) (l := 400) rfl (by decide) hcl) (vp_in_nI (n := c) (N := 400) (by omega) (by decide)) kk) ?_
  refine wq_gen (fun h_2 e_2 => ?_)
  obtain ⟨m_2, s_2, g_2, o_2⟩ := ai_e1 e_2
  replace hcl := mo_ai (tab := cl_tab) (d := 2) cl_nd rfl (by decide) (fun _ _ _ => rfl) hcl m_2 g_2 o_2
  have E_2 := (E_1).trans (xc_of m_2 s_2 o_2 (by decide))
  refine wq (fun _ _ kk => rs_goto (tgt := 83) (pc := 36) dX2_join_36 rfl kk) ?_
  refine wq_ret ?_ (rs_vret (pc := 83) dX2_join_83 rfl)
  refine ⟨rfl, E_2, _, rfl, ?_⟩
  rw [nI_clamp (show z < 2 ^ 31 by omega), nI_clamp (show c < 2 ^ 31 by omega)] at hcl
  exact hcl
/-- what the tail of enter does at sight c, for record i -/
def tl_rel (S T : Md) (c i : Nat) (v t : Int32) : Prop := T.1 = S.1 ∧ (∀ a, a ≠ 8 → a ≠ 9 → a ≠ 10 → a ≠ 12 → T.2.2.1 a = S.2.2.1 a) ∧ T.2.2.1 12 = upd (S.2.2.1 12) i (nI c) ∧ T.2.2.1 8 = upd (S.2.2.1 8) c (S.2.2.1 8 c + 1) ∧ T.2.2.1 9 = upd (S.2.2.1 9) c (S.2.2.1 9 c ||| (1 <<< (t &&& 31))) ∧ T.2.2.1 10 = upd (S.2.2.1 10) c (S.2.2.1 10 c + v) ∧ T.2.2.2 11 = vp_updL (S.2.2.2 11) c (S.2.2.2 11 c + v.toInt64 * v.toInt64)
theorem dX2_enter_0 : decode cX2_enter 0 = .ok (.aload_n 1, 1) := by decide +kernel
theorem dX2_enter_1 : decode cX2_enter 1 = .ok (.getfield 53, 3) := by decide +kernel
theorem dX2_enter_4 : decode cX2_enter 4 = .ok (.iload_n 2, 1) := by decide +kernel
theorem dX2_enter_5 : decode cX2_enter 5 = .ok (.iconst 0, 1) := by decide +kernel
theorem dX2_enter_6 : decode cX2_enter 6 = .ok (.invokevirtual 69, 3) := by decide +kernel
theorem dX2_enter_9 : decode cX2_enter 9 = .ok (.istore_n 3, 1) := by decide +kernel
theorem dX2_enter_10 : decode cX2_enter 10 = .ok (.aload_n 1, 1) := by decide +kernel
theorem dX2_enter_11 : decode cX2_enter 11 = .ok (.getfield 53, 3) := by decide +kernel
theorem dX2_enter_14 : decode cX2_enter 14 = .ok (.iload_n 2, 1) := by decide +kernel
theorem dX2_enter_15 : decode cX2_enter 15 = .ok (.iconst 1, 1) := by decide +kernel
theorem dX2_enter_16 : decode cX2_enter 16 = .ok (.invokevirtual 69, 3) := by decide +kernel
theorem dX2_enter_19 : decode cX2_enter 19 = .ok (.istore 4, 2) := by decide +kernel
theorem dX2_enter_21 : decode cX2_enter 21 = .ok (.aload_n 1, 1) := by decide +kernel
theorem dX2_enter_22 : decode cX2_enter 22 = .ok (.getfield 53, 3) := by decide +kernel
theorem dX2_enter_25 : decode cX2_enter 25 = .ok (.iload_n 2, 1) := by decide +kernel
theorem dX2_enter_26 : decode cX2_enter 26 = .ok (.iconst 4, 1) := by decide +kernel
theorem dX2_enter_27 : decode cX2_enter 27 = .ok (.invokevirtual 69, 3) := by decide +kernel
theorem dX2_enter_30 : decode cX2_enter 30 = .ok (.istore 5, 2) := by decide +kernel
theorem dX2_enter_32 : decode cX2_enter 32 = .ok (.aload_n 1, 1) := by decide +kernel
theorem dX2_enter_33 : decode cX2_enter 33 = .ok (.getfield 53, 3) := by decide +kernel
theorem dX2_enter_36 : decode cX2_enter 36 = .ok (.iload_n 2, 1) := by decide +kernel
theorem dX2_enter_37 : decode cX2_enter 37 = .ok (.iconst 3, 1) := by decide +kernel
theorem dX2_enter_38 : decode cX2_enter 38 = .ok (.invokevirtual 69, 3) := by decide +kernel
theorem dX2_enter_41 : decode cX2_enter 41 = .ok (.istore 6, 2) := by decide +kernel
theorem dX2_enter_43 : decode cX2_enter 43 = .ok (.aload_n 0, 1) := by decide +kernel
theorem dX2_enter_44 : decode cX2_enter 44 = .ok (.iload_n 3, 1) := by decide +kernel
theorem dX2_enter_45 : decode cX2_enter 45 = .ok (.iload 4, 2) := by decide +kernel
theorem dX2_enter_47 : decode cX2_enter 47 = .ok (.iload 5, 2) := by decide +kernel
theorem dX2_enter_49 : decode cX2_enter 49 = .ok (.invokevirtual 73, 3) := by decide +kernel
theorem dX2_enter_52 : decode cX2_enter 52 = .ok (.istore 7, 2) := by decide +kernel
theorem dX2_enter_54 : decode cX2_enter 54 = .ok (.aload_n 0, 1) := by decide +kernel
theorem dX2_enter_55 : decode cX2_enter 55 = .ok (.iload 7, 2) := by decide +kernel
theorem dX2_enter_57 : decode cX2_enter 57 = .ok (.iload 6, 2) := by decide +kernel
theorem dX2_enter_59 : decode cX2_enter 59 = .ok (.invokevirtual 77, 3) := by decide +kernel
theorem dX2_enter_62 : decode cX2_enter 62 = .ok (.istore 8, 2) := by decide +kernel
theorem dX2_enter_64 : decode cX2_enter 64 = .ok (.iload 8, 2) := by decide +kernel
theorem dX2_enter_66 : decode cX2_enter 66 = .ok (.iconst (-1), 1) := by decide +kernel
theorem dX2_enter_67 : decode cX2_enter 67 = .ok (.if_icmp .ne 24, 3) := by decide +kernel
theorem dX2_enter_70 : decode cX2_enter 70 = .ok (.aload_n 0, 1) := by decide +kernel
theorem dX2_enter_71 : decode cX2_enter 71 = .ok (.iload_n 3, 1) := by decide +kernel
theorem dX2_enter_72 : decode cX2_enter 72 = .ok (.iload 4, 2) := by decide +kernel
theorem dX2_enter_74 : decode cX2_enter 74 = .ok (.iload 5, 2) := by decide +kernel
theorem dX2_enter_76 : decode cX2_enter 76 = .ok (.iload 6, 2) := by decide +kernel
theorem dX2_enter_78 : decode cX2_enter 78 = .ok (.invokevirtual 80, 3) := by decide +kernel
theorem dX2_enter_81 : decode cX2_enter 81 = .ok (.istore 8, 2) := by decide +kernel
theorem dX2_enter_83 : decode cX2_enter 83 = .ok (.aload_n 0, 1) := by decide +kernel
theorem dX2_enter_84 : decode cX2_enter 84 = .ok (.iload 8, 2) := by decide +kernel
theorem dX2_enter_86 : decode cX2_enter 86 = .ok (.iload 7, 2) := by decide +kernel
theorem dX2_enter_88 : decode cX2_enter 88 = .ok (.invokevirtual 84, 3) := by decide +kernel
theorem dX2_enter_91 : decode cX2_enter 91 = .ok (.aload_n 0, 1) := by decide +kernel
theorem dX2_enter_92 : decode cX2_enter 92 = .ok (.getfield 50, 3) := by decide +kernel
theorem dX2_enter_95 : decode cX2_enter 95 = .ok (.iload_n 2, 1) := by decide +kernel
theorem dX2_enter_96 : decode cX2_enter 96 = .ok (.iload 8, 2) := by decide +kernel
theorem dX2_enter_98 : decode cX2_enter 98 = .ok (.iastore, 1) := by decide +kernel
theorem dX2_enter_99 : decode cX2_enter 99 = .ok (.aload_n 0, 1) := by decide +kernel
theorem dX2_enter_100 : decode cX2_enter 100 = .ok (.iload 8, 2) := by decide +kernel
theorem dX2_enter_102 : decode cX2_enter 102 = .ok (.invokevirtual 88, 3) := by decide +kernel
theorem dX2_enter_105 : decode cX2_enter 105 = .ok (.ifCond .eq 71, 3) := by decide +kernel
theorem dX2_enter_108 : decode cX2_enter 108 = .ok (.aload_n 1, 1) := by decide +kernel
theorem dX2_enter_109 : decode cX2_enter 109 = .ok (.iload_n 2, 1) := by decide +kernel
theorem dX2_enter_110 : decode cX2_enter 110 = .ok (.invokevirtual 92, 3) := by decide +kernel
theorem dX2_enter_113 : decode cX2_enter 113 = .ok (.i2l, 1) := by decide +kernel
theorem dX2_enter_114 : decode cX2_enter 114 = .ok (.lstore 9, 2) := by decide +kernel
theorem dX2_enter_116 : decode cX2_enter 116 = .ok (.aload_n 0, 1) := by decide +kernel
theorem dX2_enter_117 : decode cX2_enter 117 = .ok (.getfield 37, 3) := by decide +kernel
theorem dX2_enter_120 : decode cX2_enter 120 = .ok (.iload 8, 2) := by decide +kernel
theorem dX2_enter_122 : decode cX2_enter 122 = .ok (.dup2, 1) := by decide +kernel
theorem dX2_enter_123 : decode cX2_enter 123 = .ok (.iaload, 1) := by decide +kernel
theorem dX2_enter_124 : decode cX2_enter 124 = .ok (.iconst 1, 1) := by decide +kernel
theorem dX2_enter_125 : decode cX2_enter 125 = .ok (.iadd, 1) := by decide +kernel
theorem dX2_enter_126 : decode cX2_enter 126 = .ok (.iastore, 1) := by decide +kernel
theorem dX2_enter_127 : decode cX2_enter 127 = .ok (.aload_n 0, 1) := by decide +kernel
theorem dX2_enter_128 : decode cX2_enter 128 = .ok (.getfield 40, 3) := by decide +kernel
theorem dX2_enter_131 : decode cX2_enter 131 = .ok (.iload 8, 2) := by decide +kernel
theorem dX2_enter_133 : decode cX2_enter 133 = .ok (.dup2, 1) := by decide +kernel
theorem dX2_enter_134 : decode cX2_enter 134 = .ok (.iaload, 1) := by decide +kernel
theorem dX2_enter_135 : decode cX2_enter 135 = .ok (.iconst 1, 1) := by decide +kernel
theorem dX2_enter_136 : decode cX2_enter 136 = .ok (.aload_n 1, 1) := by decide +kernel
theorem dX2_enter_137 : decode cX2_enter 137 = .ok (.getfield 53, 3) := by decide +kernel
theorem dX2_enter_140 : decode cX2_enter 140 = .ok (.iload_n 2, 1) := by decide +kernel
theorem dX2_enter_141 : decode cX2_enter 141 = .ok (.iconst 2, 1) := by decide +kernel
theorem dX2_enter_142 : decode cX2_enter 142 = .ok (.invokevirtual 69, 3) := by decide +kernel
theorem dX2_enter_145 : decode cX2_enter 145 = .ok (.ishl, 1) := by decide +kernel
theorem dX2_enter_146 : decode cX2_enter 146 = .ok (.ior, 1) := by decide +kernel
theorem dX2_enter_147 : decode cX2_enter 147 = .ok (.iastore, 1) := by decide +kernel
theorem dX2_enter_148 : decode cX2_enter 148 = .ok (.aload_n 0, 1) := by decide +kernel
theorem dX2_enter_149 : decode cX2_enter 149 = .ok (.getfield 43, 3) := by decide +kernel
theorem dX2_enter_152 : decode cX2_enter 152 = .ok (.iload 8, 2) := by decide +kernel
theorem dX2_enter_154 : decode cX2_enter 154 = .ok (.dup2, 1) := by decide +kernel
theorem dX2_enter_155 : decode cX2_enter 155 = .ok (.iaload, 1) := by decide +kernel
theorem dX2_enter_156 : decode cX2_enter 156 = .ok (.lload 9, 2) := by decide +kernel
theorem dX2_enter_158 : decode cX2_enter 158 = .ok (.l2i, 1) := by decide +kernel
theorem dX2_enter_159 : decode cX2_enter 159 = .ok (.iadd, 1) := by decide +kernel
theorem dX2_enter_160 : decode cX2_enter 160 = .ok (.iastore, 1) := by decide +kernel
theorem dX2_enter_161 : decode cX2_enter 161 = .ok (.aload_n 0, 1) := by decide +kernel
theorem dX2_enter_162 : decode cX2_enter 162 = .ok (.getfield 46, 3) := by decide +kernel
theorem dX2_enter_165 : decode cX2_enter 165 = .ok (.iload 8, 2) := by decide +kernel
theorem dX2_enter_167 : decode cX2_enter 167 = .ok (.dup2, 1) := by decide +kernel
theorem dX2_enter_168 : decode cX2_enter 168 = .ok (.laload, 1) := by decide +kernel
theorem dX2_enter_169 : decode cX2_enter 169 = .ok (.lload 9, 2) := by decide +kernel
theorem dX2_enter_171 : decode cX2_enter 171 = .ok (.lload 9, 2) := by decide +kernel
theorem dX2_enter_173 : decode cX2_enter 173 = .ok (.lmul, 1) := by decide +kernel
theorem dX2_enter_174 : decode cX2_enter 174 = .ok (.ladd, 1) := by decide +kernel
theorem dX2_enter_175 : decode cX2_enter 175 = .ok (.lastore, 1) := by decide +kernel
theorem dX2_enter_176 : decode cX2_enter 176 = .ok (.return_, 1) := by decide +kernel
set_option maxRecDepth 100000 in
set_option maxHeartbeats 4000000 in
theorem t_X2_enter {h0 h : ai_H} {S : Md} {B : Bk} {z c i : Nat} (E0 : xc h0 h) (hcl : cl_at h S) (hB : bk_at h 1 B) (ez : S.1 0 = nI z) (hz4 : z ≤ 400) (hc : c < z) (hi : i < 400) (a3 a4 a5 a6 a7 : Int32) : ai_W MX2_enter 91 [.ref 22, .ref 1, .int (nI i), .int a3, .int a4, .int a5, .int a6, .int a7, .int (nI c), .float 0, .float 0] [] h (fun r g => r = none ∧ xc h0 g ∧ ∃ T, tl_rel S T c i (bk_red B (nI i)) (bk_rat B (nI i) 2) ∧ cl_at g T) := by
  refine wq (fun _ _ kk => rs_aload_n (pc := 91) dX2_enter_91 rfl kk) ?_
  refine wq (fun _ _ kk => rs_getf (pc := 92) dX2_enter_92 fX2_50 (mo_lt hcl (by decide)) hcl.2.1 rfl kk) ?_
  refine wq (fun _ _ kk => rs_iload_n (pc := 95) dX2_enter_95 rfl kk) ?_
  refine wq (fun _ _ kk => rs_iload (pc := 96) dX2_enter_96 rfl kk) ?_
  refine wq (fun _ _ kk => rs_iast (pc := 98) dX2_enter_98 (mo_lt hcl (by decide)) (mo_geti (d := 11) (k := 12) (kd := 0) (l := 400) rfl (by decide) hcl) (vp_in_nI (n := i) (N := 400) hi (by decide)) kk) ?_
  refine wq_gen (fun h_1 e_1 => ?_)
  obtain ⟨m_1, s_1, g_1, o_1⟩ := ai_e1 e_1
  replace hcl := mo_ai (tab := cl_tab) (d := 11) cl_nd rfl (by decide) (fun _ _ _ => rfl) hcl m_1 g_1 o_1
  replace hB := hB.keep m_1 (fun j _ _ => o_1 j (by omega))
  have E_1 := (E0).trans (xc_of m_1 s_1 o_1 (by decide))
  refine wq (fun _ _ kk => rs_aload_n (pc := 99) dX2_enter_99 rfl kk) ?_
  refine wq (fun _ _ kk => rs_iload (pc := 100) dX2_enter_100 rfl kk) ?_
  refine wq (fun _ _ kk => rs_callV (as := [_]) (pc := 102) dX2_enter_102 mk_X2_has mlX2_88 in_X2_has se_X2_has rfl (mo_lt hcl (by decide)) hcl.2.1 rfl rfl (Nat.le_of_ble_eq_true rfl) (c_X2_has hcl _) kk) ?_
  refine wq_br (fun _ _ kt kf => rs_if_eq (tgt := 176) (pc := 105) dX2_enter_105 rfl kt kf) (fun c_105 => absurd c_105 (by rw [show cl_has (md_ai S 12 _) (nI c) = 1 from has_1 (S := md_ai S 12 _) ez hz4 hc]; decide)) (fun c_105 => ?_)
  refine wq (fun _ _ kk => rs_aload_n (pc := 108) dX2_enter_108 rfl kk) ?_
  refine wq (fun _ _ kk => rs_iload_n (pc := 109) dX2_enter_109 rfl kk) ?_
  refine wq (fun _ _ kk => rs_callV (as := [_]) (pc := 110) dX2_enter_110 mk_X1_reduced mlX2_92 in_X1_reduced se_X1_reduced rfl (bk_lt hB (by decide)) hB.2.1 rfl rfl (Nat.le_of_ble_eq_true rfl) (c_X1_reduced hB _) kk) ?_
  refine wq (fun _ _ kk => rs_i2l (pc := 113) dX2_enter_113 kk) ?_
  refine wq (fun _ _ kk => wk_lst9 (pc := 114) dX2_enter_114 (by decide) rfl kk) ?_
  refine wq (fun _ _ kk => rs_aload_n (pc := 116) dX2_enter_116 rfl kk) ?_
  refine wq (fun _ _ kk => rs_getf (pc := 117) dX2_enter_117 fX2_37 (mo_lt hcl (by decide)) hcl.2.1 rfl kk) ?_
  refine wq (fun _ _ kk => rs_iload (pc := 120) dX2_enter_120 rfl kk) ?_
  refine wq (fun _ _ kk => rs_dup2 (pc := 122) dX2_enter_122 rfl rfl kk) ?_
  refine wq (fun _ _ kk => rs_iald (pc := 123) dX2_enter_123 (mo_lt hcl (by decide)) (mo_geti (d := 7) (k := 8) (kd := 0) (l := 400) rfl (by decide) hcl) (vp_in_nI (n := c) (N := 400) (by omega) (by decide)) kk) ?_
  rw [nI_clamp (show c < 2 ^ 31 by omega)]
  refine wq (fun _ _ kk => rs_iconst (v := 1) (pc := 124) dX2_enter_124 rfl kk) ?_
  refine wq (fun _ _ kk => rs_iadd (pc := 125) dX2_enter_125 kk) ?_
  refine wq (fun _ _ kk => rs_iast (pc := 126) dX2_enter_126 (mo_lt hcl (by decide)) (mo_geti (d := 7) (k := 8) (kd := 0) (l := 400) rfl (by decide) hcl) (vp_in_nI (n := c) (N := 400) (by omega) (by decide)) kk) ?_
  refine wq_gen (fun h_2 e_2 => ?_)
  obtain ⟨m_2, s_2, g_2, o_2⟩ := ai_e1 e_2
  replace hcl := mo_ai (tab := cl_tab) (d := 7) cl_nd rfl (by decide) (fun _ _ _ => rfl) hcl m_2 g_2 o_2
  replace hB := hB.keep m_2 (fun j _ _ => o_2 j (by omega))
  have E_2 := (E_1).trans (xc_of m_2 s_2 o_2 (by decide))
  refine wq (fun _ _ kk => rs_aload_n (pc := 127) dX2_enter_127 rfl kk) ?_
  refine wq (fun _ _ kk => rs_getf (pc := 128) dX2_enter_128 fX2_40 (mo_lt hcl (by decide)) hcl.2.1 rfl kk) ?_
  refine wq (fun _ _ kk => rs_iload (pc := 131) dX2_enter_131 rfl kk) ?_
  refine wq (fun _ _ kk => rs_dup2 (pc := 133) dX2_enter_133 rfl rfl kk) ?_
  refine wq (fun _ _ kk => rs_iald (pc := 134) dX2_enter_134 (mo_lt hcl (by decide)) (mo_geti (d := 8) (k := 9) (kd := 0) (l := 400) rfl (by decide) hcl) (vp_in_nI (n := c) (N := 400) (by omega) (by decide)) kk) ?_
  rw [nI_clamp (show c < 2 ^ 31 by omega)]
  refine wq (fun _ _ kk => rs_iconst (v := 1) (pc := 135) dX2_enter_135 rfl kk) ?_
  refine wq (fun _ _ kk => rs_aload_n (pc := 136) dX2_enter_136 rfl kk) ?_
  refine wq (fun _ _ kk => rs_getf (pc := 137) dX2_enter_137 fX2_53 (bk_lt hB (by decide)) hB.2.1 rfl kk) ?_
  refine wq (fun _ _ kk => rs_iload_n (pc := 140) dX2_enter_140 rfl kk) ?_
  refine wq (fun _ _ kk => rs_iconst (v := 2) (pc := 141) dX2_enter_141 rfl kk) ?_
  refine wq (fun _ _ kk => rs_callV (as := [_, _]) (pc := 142) dX2_enter_142 mk_X8_at mlX2_69 in_X8_at se_X8_at rfl (bk_lt hB (by decide)) hB.2.2.2.2.2.1.1 rfl rfl (Nat.le_of_ble_eq_true rfl) (c_X8_at (bk_lt hB (by decide)) hB.2.2.2.2.2.1.1 (bk_lt hB (by decide)) hB.2.2.2.2.2.1.2.1 hB.2.2.2.2.2.1.2.2 _ _) kk) ?_
  refine wq (fun _ _ kk => rs_ishl (pc := 145) dX2_enter_145 kk) ?_
  refine wq (fun _ _ kk => rs_ior (pc := 146) dX2_enter_146 kk) ?_
  refine wq (fun _ _ kk => rs_iast (pc := 147) dX2_enter_147 (mo_lt hcl (by decide)) (mo_geti (d := 8) (k := 9) (kd := 0) (l := 400) rfl (by decide) hcl) (vp_in_nI (n := c) (N := 400) (by omega) (by decide)) kk) ?_
  refine wq_gen (fun h_3 e_3 => ?_)
  obtain ⟨m_3, s_3, g_3, o_3⟩ := ai_e1 e_3
  replace hcl := mo_ai (tab := cl_tab) (d := 8) cl_nd rfl (by decide) (fun _ _ _ => rfl) hcl m_3 g_3 o_3
  replace hB := hB.keep m_3 (fun j _ _ => o_3 j (by omega))
  have E_3 := (E_2).trans (xc_of m_3 s_3 o_3 (by decide))
  refine wq (fun _ _ kk => rs_aload_n (pc := 148) dX2_enter_148 rfl kk) ?_
  refine wq (fun _ _ kk => rs_getf (pc := 149) dX2_enter_149 fX2_43 (mo_lt hcl (by decide)) hcl.2.1 rfl kk) ?_
  refine wq (fun _ _ kk => rs_iload (pc := 152) dX2_enter_152 rfl kk) ?_
  refine wq (fun _ _ kk => rs_dup2 (pc := 154) dX2_enter_154 rfl rfl kk) ?_
  refine wq (fun _ _ kk => rs_iald (pc := 155) dX2_enter_155 (mo_lt hcl (by decide)) (mo_geti (d := 9) (k := 10) (kd := 0) (l := 400) rfl (by decide) hcl) (vp_in_nI (n := c) (N := 400) (by omega) (by decide)) kk) ?_
  rw [nI_clamp (show c < 2 ^ 31 by omega)]
  refine wq (fun _ _ kk => rs_lload (pc := 156) dX2_enter_156 rfl kk) ?_
  refine wq (fun _ _ kk => rs_l2i (pc := 158) dX2_enter_158 kk) ?_
  refine wq (fun _ _ kk => rs_iadd (pc := 159) dX2_enter_159 kk) ?_
  refine wq (fun _ _ kk => rs_iast (pc := 160) dX2_enter_160 (mo_lt hcl (by decide)) (mo_geti (d := 9) (k := 10) (kd := 0) (l := 400) rfl (by decide) hcl) (vp_in_nI (n := c) (N := 400) (by omega) (by decide)) kk) ?_
  refine wq_gen (fun h_4 e_4 => ?_)
  obtain ⟨m_4, s_4, g_4, o_4⟩ := ai_e1 e_4
  replace hcl := mo_ai (tab := cl_tab) (d := 9) cl_nd rfl (by decide) (fun _ _ _ => rfl) hcl m_4 g_4 o_4
  replace hB := hB.keep m_4 (fun j _ _ => o_4 j (by omega))
  have E_4 := (E_3).trans (xc_of m_4 s_4 o_4 (by decide))
  refine wq (fun _ _ kk => rs_aload_n (pc := 161) dX2_enter_161 rfl kk) ?_
  refine wq (fun _ _ kk => rs_getf (pc := 162) dX2_enter_162 fX2_46 (mo_lt hcl (by decide)) hcl.2.1 rfl kk) ?_
  refine wq (fun _ _ kk => rs_iload (pc := 165) dX2_enter_165 rfl kk) ?_
  refine wq (fun _ _ kk => rs_dup2 (pc := 167) dX2_enter_167 rfl rfl kk) ?_
  refine wq (fun _ _ kk => rs_lald (pc := 168) dX2_enter_168 (mo_lt hcl (by decide)) (mo_getl (d := 10) (k := 11) (kd := 1) (l := 400) rfl (by decide) hcl) (vp_in_nI (n := c) (N := 400) (by omega) (by decide)) kk) ?_
  rw [nI_clamp (show c < 2 ^ 31 by omega)]
  refine wq (fun _ _ kk => rs_lload (pc := 169) dX2_enter_169 rfl kk) ?_
  refine wq (fun _ _ kk => rs_lload (pc := 171) dX2_enter_171 rfl kk) ?_
  refine wq (fun _ _ kk => rs_lmul (pc := 173) dX2_enter_173 kk) ?_
  refine wq (fun _ _ kk => rs_ladd (pc := 174) dX2_enter_174 kk) ?_
  refine wq (fun _ _ kk => rs_last (pc := 175) dX2_enter_175 (mo_lt hcl (by decide)) (mo_getl (d := 10) (k := 11) (kd := 1) (l := 400) rfl (by decide) hcl) (vp_in_nI (n := c) (N := 400) (by omega) (by decide)) kk) ?_
  refine wq_gen (fun h_5 e_5 => ?_)
  obtain ⟨m_5, s_5, g_5, o_5⟩ := ai_e1 e_5
  replace hcl := mo_al (tab := cl_tab) (d := 10) cl_nd rfl (by decide) (fun _ _ _ => rfl) hcl m_5 g_5 o_5
  replace hB := hB.keep m_5 (fun j _ _ => o_5 j (by omega))
  have E_5 := (E_4).trans (xc_of m_5 s_5 o_5 (by decide))
  refine wq_ret ?_ (rs_vret (pc := 176) dX2_enter_176 rfl)
  refine ⟨rfl, E_5, _, ?_, hcl⟩
  refine ⟨rfl, fun a a8 a9 a10 a12 => ?_, ?_, ?_, ?_, ?_, ?_⟩
  · simp [md_al, md_ai, va_up, a8, a9, a10, a12]
  · simp [md_al, md_ai, va_up, nI_clamp (show i < 2 ^ 31 by omega)]
  · simp [md_al, md_ai, va_up, nI_clamp (show c < 2 ^ 31 by omega)]
  · simp [md_al, md_ai, va_up, nI_clamp (show c < 2 ^ 31 by omega)]; rfl
  · simp [md_al, md_ai, va_up, nI_clamp (show c < 2 ^ 31 by omega)]
  · simp [md_al, md_ai, va_up, nI_clamp (show c < 2 ^ 31 by omega)]
