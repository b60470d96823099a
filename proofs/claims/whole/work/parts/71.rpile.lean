/-! 71: the class's reader: steps and pile (walks laid by wip/whole/p71.py) -/
/-- the steps made -/
def rd_out (S : Md) (o : List Nat) : Prop := S.1 14 = nI o.length ∧ ∀ i m, o[i]? = some m → S.2.2.1 13 i = nI m
/-- the pile, its top first -/
def rd_on : List Nat → (Nat → Int32) → Prop
  | [], _ => True
  | x :: l, f => f l.length = nI (tx_kc x) ∧ rd_on l f
def rd_pile (S : Md) (pl : List Nat) : Prop := S.1 16 = nI pl.length ∧ rd_on pl (S.2.2.1 15)
theorem rd_on_cong : ∀ {l : List Nat} {f g : Nat → Int32}, (∀ i, i < l.length → g i = f i) → rd_on l f → rd_on l g
  | [], _, _, _, _ => trivial
  | x :: l, f, g, h, hs => ⟨(h l.length (by rw [List.length_cons]; omega)).trans hs.1, rd_on_cong (fun i hi => h i (by rw [List.length_cons]; omega)) hs.2⟩
theorem rd_arr {h : ai_H} {S : Md} {k : Nat} {f : Nat → Int32} (a : rd_at 13 h (md_ai S k f)) : ∃ T, rd_at 13 h T ∧ T.2.2.1 k = f ∧ T.1 = S.1 ∧ T.2.1 = S.2.1 ∧ ∀ j, j ≠ k → T.2.2.1 j = S.2.2.1 j := ⟨md_ai S k f, a, if_pos rfl, rfl, rfl, fun j hj => if_neg hj⟩
theorem dX5_rank_0 : decode cX5_rank 0 = .ok (.iload_n 0, 1) := by decide +kernel
theorem dX5_rank_1 : decode cX5_rank 1 = .ok (.tableswitch 70 200000 200010 #[59, 61, 63, 70, 70, 70, 70, 70, 65, 65, 67], 59) := by decide +kernel
theorem dX5_rank_60 : decode cX5_rank 60 = .ok (.iconst 1, 1) := by decide +kernel
theorem dX5_rank_61 : decode cX5_rank 61 = .ok (.ireturn, 1) := by decide +kernel
theorem dX5_rank_62 : decode cX5_rank 62 = .ok (.iconst 2, 1) := by decide +kernel
theorem dX5_rank_63 : decode cX5_rank 63 = .ok (.ireturn, 1) := by decide +kernel
theorem dX5_rank_64 : decode cX5_rank 64 = .ok (.iconst 3, 1) := by decide +kernel
theorem dX5_rank_65 : decode cX5_rank 65 = .ok (.ireturn, 1) := by decide +kernel
theorem dX5_rank_66 : decode cX5_rank 66 = .ok (.iconst 5, 1) := by decide +kernel
theorem dX5_rank_67 : decode cX5_rank 67 = .ok (.ireturn, 1) := by decide +kernel
theorem dX5_rank_68 : decode cX5_rank 68 = .ok (.bipush 6, 2) := by decide +kernel
theorem dX5_rank_70 : decode cX5_rank 70 = .ok (.ireturn, 1) := by decide +kernel
theorem dX5_rank_71 : decode cX5_rank 71 = .ok (.iload_n 0, 1) := by decide +kernel
theorem dX5_rank_72 : decode cX5_rank 72 = .ok (.ldc 175, 2) := by decide +kernel
theorem dX5_rank_74 : decode cX5_rank 74 = .ok (.if_icmp .ne 7, 3) := by decide +kernel
theorem dX5_rank_77 : decode cX5_rank 77 = .ok (.iconst 0, 1) := by decide +kernel
theorem dX5_rank_78 : decode cX5_rank 78 = .ok (.goto 4, 3) := by decide +kernel
theorem dX5_rank_81 : decode cX5_rank 81 = .ok (.iconst 4, 1) := by decide +kernel
theorem dX5_rank_82 : decode cX5_rank 82 = .ok (.ireturn, 1) := by decide +kernel
set_option maxRecDepth 100000 in
set_option maxHeartbeats 4000000 in
theorem c_X5_rank {h : ai_H} {k : Nat} (hk : 2 ≤ k ∧ k ≤ 13) : ai_Met MX5_rank [.int (nI (tx_kc k))] h (some (.int (nI (py_rk k)))) h := by
  refine ai_met (ls := [.int (nI (tx_kc k))]) (by decide) (by simp [ai_en, Value.category]) (by rfl) ?_
  have : k = 2 ∨ k = 3 ∨ k = 4 ∨ k = 5 ∨ k = 6 ∨ k = 7 ∨ k = 8 ∨ k = 9 ∨ k = 10 ∨ k = 11 ∨ k = 12 ∨ k = 13 := by omega
  rcases this with rfl | rfl | rfl | rfl | rfl | rfl | rfl | rfl | rfl | rfl | rfl | rfl
  · refine rs_iload_n (pc := 0) dX5_rank_0 rfl ?_
    refine wk_tab 200008 (by decide) (tgt := 66) (pc := 1) dX5_rank_1 (by decide) (by decide) rfl rfl ?_
    refine rs_iconst (v := 5) (pc := 66) dX5_rank_66 rfl ?_
    exact wk_iret (pc := 67) dX5_rank_67 rfl rfl rfl
  · refine rs_iload_n (pc := 0) dX5_rank_0 rfl ?_
    refine wk_tab 200009 (by decide) (tgt := 66) (pc := 1) dX5_rank_1 (by decide) (by decide) rfl rfl ?_
    refine rs_iconst (v := 5) (pc := 66) dX5_rank_66 rfl ?_
    exact wk_iret (pc := 67) dX5_rank_67 rfl rfl rfl
  · refine rs_iload_n (pc := 0) dX5_rank_0 rfl ?_
    refine wk_tab 200003 (by decide) (tgt := 71) (pc := 1) dX5_rank_1 (by decide) (by decide) rfl rfl ?_
    refine rs_iload_n (pc := 71) dX5_rank_71 rfl ?_
    refine rs_ldc (pc := 72) dX5_rank_72 cnX5_175 ?_
    refine rs_icmp_ne (tgt := 81) (pc := 74) dX5_rank_74 rfl (fun c => ?_) (fun c => absurd c (by decide))
    refine rs_iconst (v := 4) (pc := 81) dX5_rank_81 rfl ?_
    exact wk_iret (pc := 82) dX5_rank_82 rfl rfl rfl
  · refine rs_iload_n (pc := 0) dX5_rank_0 rfl ?_
    refine wk_tab 200004 (by decide) (tgt := 71) (pc := 1) dX5_rank_1 (by decide) (by decide) rfl rfl ?_
    refine rs_iload_n (pc := 71) dX5_rank_71 rfl ?_
    refine rs_ldc (pc := 72) dX5_rank_72 cnX5_175 ?_
    refine rs_icmp_ne (tgt := 81) (pc := 74) dX5_rank_74 rfl (fun c => ?_) (fun c => absurd c (by decide))
    refine rs_iconst (v := 4) (pc := 81) dX5_rank_81 rfl ?_
    exact wk_iret (pc := 82) dX5_rank_82 rfl rfl rfl
  · refine rs_iload_n (pc := 0) dX5_rank_0 rfl ?_
    refine wk_tab 200005 (by decide) (tgt := 71) (pc := 1) dX5_rank_1 (by decide) (by decide) rfl rfl ?_
    refine rs_iload_n (pc := 71) dX5_rank_71 rfl ?_
    refine rs_ldc (pc := 72) dX5_rank_72 cnX5_175 ?_
    refine rs_icmp_ne (tgt := 81) (pc := 74) dX5_rank_74 rfl (fun c => ?_) (fun c => absurd c (by decide))
    refine rs_iconst (v := 4) (pc := 81) dX5_rank_81 rfl ?_
    exact wk_iret (pc := 82) dX5_rank_82 rfl rfl rfl
  · refine rs_iload_n (pc := 0) dX5_rank_0 rfl ?_
    refine wk_tab 200006 (by decide) (tgt := 71) (pc := 1) dX5_rank_1 (by decide) (by decide) rfl rfl ?_
    refine rs_iload_n (pc := 71) dX5_rank_71 rfl ?_
    refine rs_ldc (pc := 72) dX5_rank_72 cnX5_175 ?_
    refine rs_icmp_ne (tgt := 81) (pc := 74) dX5_rank_74 rfl (fun c => ?_) (fun c => absurd c (by decide))
    refine rs_iconst (v := 4) (pc := 81) dX5_rank_81 rfl ?_
    exact wk_iret (pc := 82) dX5_rank_82 rfl rfl rfl
  · refine rs_iload_n (pc := 0) dX5_rank_0 rfl ?_
    refine wk_tab 200007 (by decide) (tgt := 71) (pc := 1) dX5_rank_1 (by decide) (by decide) rfl rfl ?_
    refine rs_iload_n (pc := 71) dX5_rank_71 rfl ?_
    refine rs_ldc (pc := 72) dX5_rank_72 cnX5_175 ?_
    refine rs_icmp_ne (tgt := 81) (pc := 74) dX5_rank_74 rfl (fun c => ?_) (fun c => absurd c (by decide))
    refine rs_iconst (v := 4) (pc := 81) dX5_rank_81 rfl ?_
    exact wk_iret (pc := 82) dX5_rank_82 rfl rfl rfl
  · refine rs_iload_n (pc := 0) dX5_rank_0 rfl ?_
    refine wk_tab 200002 (by decide) (tgt := 64) (pc := 1) dX5_rank_1 (by decide) (by decide) rfl rfl ?_
    refine rs_iconst (v := 3) (pc := 64) dX5_rank_64 rfl ?_
    exact wk_iret (pc := 65) dX5_rank_65 rfl rfl rfl
  · refine rs_iload_n (pc := 0) dX5_rank_0 rfl ?_
    refine wk_tab 200001 (by decide) (tgt := 62) (pc := 1) dX5_rank_1 (by decide) (by decide) rfl rfl ?_
    refine rs_iconst (v := 2) (pc := 62) dX5_rank_62 rfl ?_
    exact wk_iret (pc := 63) dX5_rank_63 rfl rfl rfl
  · refine rs_iload_n (pc := 0) dX5_rank_0 rfl ?_
    refine wk_tab 200000 (by decide) (tgt := 60) (pc := 1) dX5_rank_1 (by decide) (by decide) rfl rfl ?_
    refine rs_iconst (v := 1) (pc := 60) dX5_rank_60 rfl ?_
    exact wk_iret (pc := 61) dX5_rank_61 rfl rfl rfl
  · refine rs_iload_n (pc := 0) dX5_rank_0 rfl ?_
    refine rs_tableOut (tgt := 71) (pc := 1) dX5_rank_1 (by decide) rfl ?_
    refine rs_iload_n (pc := 71) dX5_rank_71 rfl ?_
    refine rs_ldc (pc := 72) dX5_rank_72 cnX5_175 ?_
    refine rs_icmp_ne (tgt := 81) (pc := 74) dX5_rank_74 rfl (fun c => absurd (by decide) c) (fun c => ?_)
    refine rs_iconst (v := 0) (pc := 77) dX5_rank_77 rfl ?_
    refine rs_goto (tgt := 82) (pc := 78) dX5_rank_78 rfl ?_
    exact wk_iret (pc := 82) dX5_rank_82 rfl rfl rfl
  · refine rs_iload_n (pc := 0) dX5_rank_0 rfl ?_
    refine wk_tab 200010 (by decide) (tgt := 68) (pc := 1) dX5_rank_1 (by decide) (by decide) rfl rfl ?_
    refine rs_bipush (v := 6) (pc := 68) dX5_rank_68 rfl ?_
    exact wk_iret (pc := 70) dX5_rank_70 rfl rfl rfl
theorem dX5_step_0 : decode cX5_step 0 = .ok (.aload_n 0, 1) := by decide +kernel
theorem dX5_step_1 : decode cX5_step 1 = .ok (.getfield 57, 3) := by decide +kernel
theorem dX5_step_4 : decode cX5_step 4 = .ok (.aload_n 0, 1) := by decide +kernel
theorem dX5_step_5 : decode cX5_step 5 = .ok (.getfield 54, 3) := by decide +kernel
theorem dX5_step_8 : decode cX5_step 8 = .ok (.arraylength, 1) := by decide +kernel
theorem dX5_step_9 : decode cX5_step 9 = .ok (.if_icmp .ge 23, 3) := by decide +kernel
theorem dX5_step_12 : decode cX5_step 12 = .ok (.aload_n 0, 1) := by decide +kernel
theorem dX5_step_13 : decode cX5_step 13 = .ok (.getfield 54, 3) := by decide +kernel
theorem dX5_step_16 : decode cX5_step 16 = .ok (.aload_n 0, 1) := by decide +kernel
theorem dX5_step_17 : decode cX5_step 17 = .ok (.getfield 57, 3) := by decide +kernel
theorem dX5_step_20 : decode cX5_step 20 = .ok (.iload_n 1, 1) := by decide +kernel
theorem dX5_step_21 : decode cX5_step 21 = .ok (.iastore, 1) := by decide +kernel
theorem dX5_step_22 : decode cX5_step 22 = .ok (.aload_n 0, 1) := by decide +kernel
theorem dX5_step_23 : decode cX5_step 23 = .ok (.dup, 1) := by decide +kernel
theorem dX5_step_24 : decode cX5_step 24 = .ok (.getfield 57, 3) := by decide +kernel
theorem dX5_step_27 : decode cX5_step 27 = .ok (.iconst 1, 1) := by decide +kernel
theorem dX5_step_28 : decode cX5_step 28 = .ok (.iadd, 1) := by decide +kernel
theorem dX5_step_29 : decode cX5_step 29 = .ok (.putfield 57, 3) := by decide +kernel
theorem dX5_step_32 : decode cX5_step 32 = .ok (.return_, 1) := by decide +kernel
set_option maxRecDepth 100000 in
set_option maxHeartbeats 4000000 in
theorem c_X5_step {h : ai_H} {S : Md} {o : List Nat} {x : Nat} (hrd : rd_at 13 h S) (ho : rd_out S o) (hl : o.length < 412) : ai_QM MX5_step [.ref 16, .int (nI x)] h (fun r g => r = none ∧ xd h g ∧ ∃ T, rd_at 13 g T ∧ rd_out T (o ++ [x]) ∧ (∀ j, j ≠ 14 → T.1 j = S.1 j) ∧ T.2.1 = S.2.1 ∧ ∀ j, j ≠ 13 → T.2.2.1 j = S.2.2.1 j) := by
  refine qm_of (ls := [.ref 16, .int (nI x)]) (by decide) (by simp [ai_en, Value.category]) (by rfl) ?_
  refine wq (fun _ _ kk => rs_aload_n (pc := 0) dX5_step_0 rfl kk) ?_
  refine wq (fun _ _ kk => rs_getf (pc := 1) dX5_step_1 fX5_57 (mo_lt hrd (by decide)) hrd.2.1 rfl kk) ?_
  rw [ho.1]
  refine wq (fun _ _ kk => rs_aload_n (pc := 4) dX5_step_4 rfl kk) ?_
  refine wq (fun _ _ kk => rs_getf (pc := 5) dX5_step_5 fX5_54 (mo_lt hrd (by decide)) hrd.2.1 rfl kk) ?_
  refine wq (fun _ _ kk => rs_alen (pc := 8) dX5_step_8 (fun _ => rfl) (mo_lt hrd (by decide)) (mo_geti (d := 1) (k := 13) (kd := 0) (l := 412) rfl (by decide) hrd) rfl kk) ?_
  refine wq_br (fun _ _ kt kf => rs_icmp_ge (tgt := 32) (pc := 9) dX5_step_9 rfl kt kf) (fun c_9 => absurd c_9 (fun z => absurd (tx_le1 (b := 412) (by omega) (by decide) rfl z) (by omega))) (fun c_9 => ?_)
  refine wq (fun _ _ kk => rs_aload_n (pc := 12) dX5_step_12 rfl kk) ?_
  refine wq (fun _ _ kk => rs_getf (pc := 13) dX5_step_13 fX5_54 (mo_lt hrd (by decide)) hrd.2.1 rfl kk) ?_
  refine wq (fun _ _ kk => rs_aload_n (pc := 16) dX5_step_16 rfl kk) ?_
  refine wq (fun _ _ kk => rs_getf (pc := 17) dX5_step_17 fX5_57 (mo_lt hrd (by decide)) hrd.2.1 rfl kk) ?_
  rw [ho.1]
  refine wq (fun _ _ kk => rs_iload_n (pc := 20) dX5_step_20 rfl kk) ?_
  refine wq (fun _ _ kk => rs_iast (pc := 21) dX5_step_21 (mo_lt hrd (by decide)) (mo_geti (d := 1) (k := 13) (kd := 0) (l := 412) rfl (by decide) hrd) (vp_in_nI (n := o.length) (N := 412) (by omega) (by decide)) kk) ?_
  refine wq_gen (fun h_1 e_1 => ?_)
  obtain ⟨m_1, s_1, g_1, o_1⟩ := ai_e1 e_1
  replace hrd := mo_ai (tab := rd_tab) (d := 1) rd_nd rfl (by decide) (fun _ _ _ => rfl) hrd m_1 g_1 o_1
  have E_1 := (xd.rf).trans (xd_of m_1 s_1 o_1 (by decide))
  rw [nI_clamp (show o.length < 2 ^ 31 by omega)] at hrd
  obtain ⟨S_21, hrd, k_21, r_21, s_21, t_21⟩ := rd_arr hrd
  refine wq (fun _ _ kk => rs_aload_n (pc := 22) dX5_step_22 rfl kk) ?_
  refine wq (fun _ _ kk => rs_dup (pc := 23) dX5_step_23 rfl kk) ?_
  refine wq (fun _ _ kk => rs_getf (pc := 24) dX5_step_24 fX5_57 (mo_lt hrd (by decide)) hrd.2.1 rfl kk) ?_
  rw [r_21, ho.1]
  refine wq (fun _ _ kk => rs_iconst (v := 1) (pc := 27) dX5_step_27 rfl kk) ?_
  refine wq (fun _ _ kk => rs_iadd (pc := 28) dX5_step_28 kk) ?_
  refine wq (fun _ _ kk => rs_putf (pc := 29) dX5_step_29 fX5_57 (mo_lt hrd (by decide)) hrd.2.1 rfl (Nat.le_of_ble_eq_true rfl) kk) ?_
  refine wq_gen (fun h_2 e_2 => ?_)
  obtain ⟨m_2, s_2, g_2, o_2⟩ := ai_e1 e_2
  replace hrd := mo_si (k := 14) hrd m_2 g_2 o_2 rfl
  have E_2 := (E_1).trans (xd_of m_2 s_2 o_2 (by decide))
  obtain ⟨S_29, hrd, k_29, r_29, s_29⟩ := rd_new hrd
  refine wq_ret ?_ (rs_vret (pc := 32) dX5_step_32 rfl)
  refine ⟨rfl, E_2, S_29, hrd, ⟨?_, fun i m hi => ?_⟩, fun j hj => by rw [r_29 j hj, r_21], by rw [s_29]; exact s_21, fun j hj => by rw [s_29]; exact t_21 j hj⟩
  · rw [k_29, List.length_append]; exact nI_1 _
  · rw [s_29, k_21]
    by_cases e : i = o.length
    · subst e
      rw [List.getElem?_append_right (Nat.le_refl _), Nat.sub_self] at hi
      cases hi
      exact pk_us
    · rw [pk_un e]
      refine ho.2 i m ?_
      have hl : i < (o ++ [x]).length := (List.getElem?_eq_some_iff.mp hi).1
      rw [List.length_append] at hl
      rw [List.getElem?_append_left (by show i < o.length; have : [x].length = 1 := rfl; omega)] at hi
      exact hi
theorem dX5_putBy_0 : decode cX5_putBy 0 = .ok (.aload_n 0, 1) := by decide +kernel
theorem dX5_putBy_1 : decode cX5_putBy 1 = .ok (.getfield 63, 3) := by decide +kernel
theorem dX5_putBy_4 : decode cX5_putBy 4 = .ok (.bipush 64, 2) := by decide +kernel
theorem dX5_putBy_6 : decode cX5_putBy 6 = .ok (.if_icmp .ge 23, 3) := by decide +kernel
theorem dX5_putBy_9 : decode cX5_putBy 9 = .ok (.aload_n 0, 1) := by decide +kernel
theorem dX5_putBy_10 : decode cX5_putBy 10 = .ok (.getfield 60, 3) := by decide +kernel
theorem dX5_putBy_13 : decode cX5_putBy 13 = .ok (.aload_n 0, 1) := by decide +kernel
theorem dX5_putBy_14 : decode cX5_putBy 14 = .ok (.getfield 63, 3) := by decide +kernel
theorem dX5_putBy_17 : decode cX5_putBy 17 = .ok (.iload_n 1, 1) := by decide +kernel
theorem dX5_putBy_18 : decode cX5_putBy 18 = .ok (.iastore, 1) := by decide +kernel
theorem dX5_putBy_19 : decode cX5_putBy 19 = .ok (.aload_n 0, 1) := by decide +kernel
theorem dX5_putBy_20 : decode cX5_putBy 20 = .ok (.dup, 1) := by decide +kernel
theorem dX5_putBy_21 : decode cX5_putBy 21 = .ok (.getfield 63, 3) := by decide +kernel
theorem dX5_putBy_24 : decode cX5_putBy 24 = .ok (.iconst 1, 1) := by decide +kernel
theorem dX5_putBy_25 : decode cX5_putBy 25 = .ok (.iadd, 1) := by decide +kernel
theorem dX5_putBy_26 : decode cX5_putBy 26 = .ok (.putfield 63, 3) := by decide +kernel
theorem dX5_putBy_29 : decode cX5_putBy 29 = .ok (.return_, 1) := by decide +kernel
set_option maxRecDepth 100000 in
set_option maxHeartbeats 4000000 in
theorem c_X5_putBy {h : ai_H} {S : Md} {pl : List Nat} {k : Nat} (hrd : rd_at 13 h S) (hp : rd_pile S pl) (hl : pl.length < 64) : ai_QM MX5_putBy [.ref 16, .int (nI (tx_kc k))] h (fun r g => r = none ∧ xd h g ∧ ∃ T, rd_at 13 g T ∧ rd_pile T (k :: pl) ∧ (∀ j, j ≠ 16 → T.1 j = S.1 j) ∧ T.2.1 = S.2.1 ∧ ∀ j, j ≠ 15 → T.2.2.1 j = S.2.2.1 j) := by
  refine qm_of (ls := [.ref 16, .int (nI (tx_kc k))]) (by decide) (by simp [ai_en, Value.category]) (by rfl) ?_
  refine wq (fun _ _ kk => rs_aload_n (pc := 0) dX5_putBy_0 rfl kk) ?_
  refine wq (fun _ _ kk => rs_getf (pc := 1) dX5_putBy_1 fX5_63 (mo_lt hrd (by decide)) hrd.2.1 rfl kk) ?_
  rw [hp.1]
  refine wq (fun _ _ kk => rs_bipush (v := 64) (pc := 4) dX5_putBy_4 rfl kk) ?_
  refine wq_br (fun _ _ kt kf => rs_icmp_ge (tgt := 29) (pc := 6) dX5_putBy_6 rfl kt kf) (fun c_6 => absurd c_6 (fun z => absurd (tx_le1 (b := 64) (by omega) (by decide) rfl z) (by omega))) (fun c_6 => ?_)
  refine wq (fun _ _ kk => rs_aload_n (pc := 9) dX5_putBy_9 rfl kk) ?_
  refine wq (fun _ _ kk => rs_getf (pc := 10) dX5_putBy_10 fX5_60 (mo_lt hrd (by decide)) hrd.2.1 rfl kk) ?_
  refine wq (fun _ _ kk => rs_aload_n (pc := 13) dX5_putBy_13 rfl kk) ?_
  refine wq (fun _ _ kk => rs_getf (pc := 14) dX5_putBy_14 fX5_63 (mo_lt hrd (by decide)) hrd.2.1 rfl kk) ?_
  rw [hp.1]
  refine wq (fun _ _ kk => rs_iload_n (pc := 17) dX5_putBy_17 rfl kk) ?_
  refine wq (fun _ _ kk => rs_iast (pc := 18) dX5_putBy_18 (mo_lt hrd (by decide)) (mo_geti (d := 2) (k := 15) (kd := 0) (l := 64) rfl (by decide) hrd) (vp_in_nI (n := pl.length) (N := 64) (by omega) (by decide)) kk) ?_
  refine wq_gen (fun h_1 e_1 => ?_)
  obtain ⟨m_1, s_1, g_1, o_1⟩ := ai_e1 e_1
  replace hrd := mo_ai (tab := rd_tab) (d := 2) rd_nd rfl (by decide) (fun _ _ _ => rfl) hrd m_1 g_1 o_1
  have E_1 := (xd.rf).trans (xd_of m_1 s_1 o_1 (by decide))
  rw [nI_clamp (show pl.length < 2 ^ 31 by omega)] at hrd
  obtain ⟨S_18, hrd, k_18, r_18, s_18, t_18⟩ := rd_arr hrd
  refine wq (fun _ _ kk => rs_aload_n (pc := 19) dX5_putBy_19 rfl kk) ?_
  refine wq (fun _ _ kk => rs_dup (pc := 20) dX5_putBy_20 rfl kk) ?_
  refine wq (fun _ _ kk => rs_getf (pc := 21) dX5_putBy_21 fX5_63 (mo_lt hrd (by decide)) hrd.2.1 rfl kk) ?_
  rw [r_18, hp.1]
  refine wq (fun _ _ kk => rs_iconst (v := 1) (pc := 24) dX5_putBy_24 rfl kk) ?_
  refine wq (fun _ _ kk => rs_iadd (pc := 25) dX5_putBy_25 kk) ?_
  refine wq (fun _ _ kk => rs_putf (pc := 26) dX5_putBy_26 fX5_63 (mo_lt hrd (by decide)) hrd.2.1 rfl (Nat.le_of_ble_eq_true rfl) kk) ?_
  refine wq_gen (fun h_2 e_2 => ?_)
  obtain ⟨m_2, s_2, g_2, o_2⟩ := ai_e1 e_2
  replace hrd := mo_si (k := 16) hrd m_2 g_2 o_2 rfl
  have E_2 := (E_1).trans (xd_of m_2 s_2 o_2 (by decide))
  obtain ⟨S_26, hrd, k_26, r_26, s_26⟩ := rd_new hrd
  refine wq_ret ?_ (rs_vret (pc := 29) dX5_putBy_29 rfl)
  refine ⟨rfl, E_2, S_26, hrd, ⟨?_, ?_, ?_⟩, fun j hj => by rw [r_26 j hj, r_18], by rw [s_26]; exact s_18, fun j hj => by rw [s_26]; exact t_18 j hj⟩
  · rw [k_26]; exact nI_1 _
  · rw [s_26, k_18]; exact pk_us
  · rw [s_26, k_18]
    exact rd_on_cong (fun i hi => pk_un (by omega)) hp.2
def stl (S T : Md) : Prop := (∀ j, j ≠ 11 → j ≠ 14 → j ≠ 16 → T.1 j = S.1 j) ∧ T.2.1 = S.2.1 ∧ ∀ j, j ≠ 13 → T.2.2.1 j = S.2.2.1 j
theorem stl.rf {S : Md} : stl S S := ⟨fun _ _ _ _ => rfl, rfl, fun _ _ => rfl⟩
theorem py_nt_cons (x : Nat) (l : List Nat) : py_nt (x :: l) = py_nt l + if x = 9 then 1 else 0 := by
  unfold py_nt
  rw [List.countP_cons]
  by_cases h : x = 9
  · rw [if_pos (decide_eq_true h), if_pos h]
  · rw [if_neg (fun z => h (of_decide_eq_true z)), if_neg h]
theorem dX5_settle_0 : decode cX5_settle 0 = .ok (.aload_n 0, 1) := by decide +kernel
theorem dX5_settle_1 : decode cX5_settle 1 = .ok (.getfield 63, 3) := by decide +kernel
theorem dX5_settle_4 : decode cX5_settle 4 = .ok (.ifCond .le 75, 3) := by decide +kernel
theorem dX5_settle_7 : decode cX5_settle 7 = .ok (.aload_n 0, 1) := by decide +kernel
theorem dX5_settle_8 : decode cX5_settle 8 = .ok (.getfield 60, 3) := by decide +kernel
theorem dX5_settle_11 : decode cX5_settle 11 = .ok (.aload_n 0, 1) := by decide +kernel
theorem dX5_settle_12 : decode cX5_settle 12 = .ok (.getfield 63, 3) := by decide +kernel
theorem dX5_settle_15 : decode cX5_settle 15 = .ok (.iconst 1, 1) := by decide +kernel
theorem dX5_settle_16 : decode cX5_settle 16 = .ok (.isub, 1) := by decide +kernel
theorem dX5_settle_17 : decode cX5_settle 17 = .ok (.iaload, 1) := by decide +kernel
theorem dX5_settle_18 : decode cX5_settle 18 = .ok (.invokestatic 233, 3) := by decide +kernel
theorem dX5_settle_21 : decode cX5_settle 21 = .ok (.iload_n 1, 1) := by decide +kernel
theorem dX5_settle_22 : decode cX5_settle 22 = .ok (.if_icmp .lt 57, 3) := by decide +kernel
theorem dX5_settle_25 : decode cX5_settle 25 = .ok (.aload_n 0, 1) := by decide +kernel
theorem dX5_settle_26 : decode cX5_settle 26 = .ok (.dup, 1) := by decide +kernel
theorem dX5_settle_27 : decode cX5_settle 27 = .ok (.getfield 63, 3) := by decide +kernel
theorem dX5_settle_30 : decode cX5_settle 30 = .ok (.iconst 1, 1) := by decide +kernel
theorem dX5_settle_31 : decode cX5_settle 31 = .ok (.isub, 1) := by decide +kernel
theorem dX5_settle_32 : decode cX5_settle 32 = .ok (.putfield 63, 3) := by decide +kernel
theorem dX5_settle_35 : decode cX5_settle 35 = .ok (.aload_n 0, 1) := by decide +kernel
theorem dX5_settle_36 : decode cX5_settle 36 = .ok (.dup, 1) := by decide +kernel
theorem dX5_settle_37 : decode cX5_settle 37 = .ok (.getfield 48, 3) := by decide +kernel
theorem dX5_settle_40 : decode cX5_settle 40 = .ok (.aload_n 0, 1) := by decide +kernel
theorem dX5_settle_41 : decode cX5_settle 41 = .ok (.getfield 60, 3) := by decide +kernel
theorem dX5_settle_44 : decode cX5_settle 44 = .ok (.aload_n 0, 1) := by decide +kernel
theorem dX5_settle_45 : decode cX5_settle 45 = .ok (.getfield 63, 3) := by decide +kernel
theorem dX5_settle_48 : decode cX5_settle 48 = .ok (.iaload, 1) := by decide +kernel
theorem dX5_settle_49 : decode cX5_settle 49 = .ok (.ldc 134, 2) := by decide +kernel
theorem dX5_settle_51 : decode cX5_settle 51 = .ok (.if_icmp .ne 7, 3) := by decide +kernel
theorem dX5_settle_54 : decode cX5_settle 54 = .ok (.iconst 1, 1) := by decide +kernel
theorem dX5_settle_55 : decode cX5_settle 55 = .ok (.goto 4, 3) := by decide +kernel
theorem dX5_settle_58 : decode cX5_settle 58 = .ok (.iconst 0, 1) := by decide +kernel
theorem dX5_settle_59 : decode cX5_settle 59 = .ok (.isub, 1) := by decide +kernel
theorem dX5_settle_60 : decode cX5_settle 60 = .ok (.putfield 48, 3) := by decide +kernel
theorem dX5_settle_63 : decode cX5_settle 63 = .ok (.aload_n 0, 1) := by decide +kernel
theorem dX5_settle_64 : decode cX5_settle 64 = .ok (.aload_n 0, 1) := by decide +kernel
theorem dX5_settle_65 : decode cX5_settle 65 = .ok (.getfield 60, 3) := by decide +kernel
theorem dX5_settle_68 : decode cX5_settle 68 = .ok (.aload_n 0, 1) := by decide +kernel
theorem dX5_settle_69 : decode cX5_settle 69 = .ok (.getfield 63, 3) := by decide +kernel
theorem dX5_settle_72 : decode cX5_settle 72 = .ok (.iaload, 1) := by decide +kernel
theorem dX5_settle_73 : decode cX5_settle 73 = .ok (.invokevirtual 209, 3) := by decide +kernel
theorem dX5_settle_76 : decode cX5_settle 76 = .ok (.goto (-76), 3) := by decide +kernel
theorem dX5_settle_79 : decode cX5_settle 79 = .ok (.return_, 1) := by decide +kernel
set_option maxRecDepth 100000 in
set_option maxHeartbeats 4000000 in
theorem l_X5_settle {h : ai_H} {S0 : Md} {r0 : Nat} (hr0 : r0 ≤ 6) : ∀ (pl o : List Nat) (de : Nat) (S : Md) (g : ai_H), (∀ x, x ∈ pl → 2 ≤ x ∧ x ≤ 13) → pl.length ≤ 64 → o.length + pl.length ≤ 412 → py_nt (py_tw r0 pl) ≤ de → de ≤ 100 → rd_at 13 g S → rd_out S o → rd_pile S pl → S.1 11 = nI de → xd h g → stl S0 S → ai_W MX5_settle 0 [.ref 16, .int (nI r0)] [] g (fun r g' => r = none ∧ xd h g' ∧ ∃ T, rd_at 13 g' T ∧ rd_out T (o ++ (py_tw r0 pl).map tx_kc) ∧ rd_pile T (py_dw r0 pl) ∧ T.1 11 = nI (de - py_nt (py_tw r0 pl)) ∧ stl S0 T) := by
  intro pl
  induction pl with
  | nil =>
    intro o de S g hva hl hol hnt hde hrd ho hp h11 hE hst
    refine wq (fun _ _ kk => rs_aload_n (pc := 0) dX5_settle_0 rfl kk) ?_
    refine wq (fun _ _ kk => rs_getf (pc := 1) dX5_settle_1 fX5_63 (mo_lt hrd (by decide)) hrd.2.1 rfl kk) ?_
    rw [hp.1]
    refine wq_br (fun _ _ kt kf => rs_if_le (tgt := 79) (pc := 4) dX5_settle_4 rfl kt kf) (fun c_4 => ?_) (fun c_4 => absurd c_4 (by show ¬ ¬ nI 0 ≤ 0; decide))
    refine wq_ret ?_ (rs_vret (pc := 79) dX5_settle_79 rfl)
    exact ⟨rfl, hE, S, hrd, by rw [py_tw_0, List.map_nil, List.append_nil]; exact ho, hp, h11, hst⟩
  | cons x l ih =>
    intro o de S g hva hl hol hnt hde hrd ho hp h11 hE hst
    have hx := hva x (List.mem_cons_self ..)
    have hrk := (py_rk_b x).1
    rw [List.length_cons] at hl hol
    refine wq (fun _ _ kk => rs_aload_n (pc := 0) dX5_settle_0 rfl kk) ?_
    refine wq (fun _ _ kk => rs_getf (pc := 1) dX5_settle_1 fX5_63 (mo_lt hrd (by decide)) hrd.2.1 rfl kk) ?_
    rw [hp.1]
    refine wq_br (fun _ _ kt kf => rs_if_le (tgt := 79) (pc := 4) dX5_settle_4 rfl kt kf) (fun c_4 => absurd c_4 (nI_nle (n := l.length + 1) (by omega) (by omega))) (fun c_4 => ?_)
    refine wq (fun _ _ kk => rs_aload_n (pc := 7) dX5_settle_7 rfl kk) ?_
    refine wq (fun _ _ kk => rs_getf (pc := 8) dX5_settle_8 fX5_60 (mo_lt hrd (by decide)) hrd.2.1 rfl kk) ?_
    refine wq (fun _ _ kk => rs_aload_n (pc := 11) dX5_settle_11 rfl kk) ?_
    refine wq (fun _ _ kk => rs_getf (pc := 12) dX5_settle_12 fX5_63 (mo_lt hrd (by decide)) hrd.2.1 rfl kk) ?_
    rw [hp.1]
    refine wq (fun _ _ kk => rs_iconst (v := 1) (pc := 15) dX5_settle_15 rfl kk) ?_
    refine wq (fun _ _ kk => rs_isub (pc := 16) dX5_settle_16 kk) ?_
    rw [show nI (x :: l).length - 1 = nI l.length from nI_pred l.length]
    refine wq (fun _ _ kk => rs_iald (pc := 17) dX5_settle_17 (mo_lt hrd (by decide)) (mo_geti (d := 2) (k := 15) (kd := 0) (l := 64) rfl (by decide) hrd) (vp_in_nI (n := l.length) (N := 64) (by omega) (by decide)) kk) ?_
    rw [nI_clamp (show l.length < 2 ^ 31 by omega), hp.2.1]
    refine wq (fun _ _ kk => rs_callS (as := [_]) (pc := 18) dX5_settle_18 mk_X5_rank mlX5_233 st_X5_rank rfl rfl (Nat.le_of_ble_eq_true rfl) (c_X5_rank hx) kk) ?_
    refine wq (fun _ _ kk => rs_iload_n (pc := 21) dX5_settle_21 rfl kk) ?_
    refine wq_br (fun _ _ kt kf => rs_icmp_lt (tgt := 79) (pc := 22) dX5_settle_22 rfl kt kf) (fun c_22 => ?_) (fun c_22 => ?_)
    · have g1 : ¬ r0 ≤ py_rk x := Nat.not_le_of_lt (tx_lt1 (by omega) (by omega) rfl c_22)
      refine wq_ret ?_ (rs_vret (pc := 79) dX5_settle_79 rfl)
      exact ⟨rfl, hE, S, hrd, by rw [py_tw_n g1, List.map_nil, List.append_nil]; exact ho, by rw [py_dw_n g1]; exact hp, by rw [py_tw_n g1]; exact h11, hst⟩
    · have g1 : r0 ≤ py_rk x := tx_lt2 (by omega) (by omega) rfl c_22
      refine wq (fun _ _ kk => rs_aload_n (pc := 25) dX5_settle_25 rfl kk) ?_
      refine wq (fun _ _ kk => rs_dup (pc := 26) dX5_settle_26 rfl kk) ?_
      refine wq (fun _ _ kk => rs_getf (pc := 27) dX5_settle_27 fX5_63 (mo_lt hrd (by decide)) hrd.2.1 rfl kk) ?_
      rw [hp.1]
      refine wq (fun _ _ kk => rs_iconst (v := 1) (pc := 30) dX5_settle_30 rfl kk) ?_
      refine wq (fun _ _ kk => rs_isub (pc := 31) dX5_settle_31 kk) ?_
      rw [show nI (x :: l).length - 1 = nI l.length from nI_pred l.length]
      refine wq (fun _ _ kk => rs_putf (pc := 32) dX5_settle_32 fX5_63 (mo_lt hrd (by decide)) hrd.2.1 rfl (Nat.le_of_ble_eq_true rfl) kk) ?_
      refine wq_gen (fun h_1 e_1 => ?_)
      obtain ⟨m_1, s_1, g_1, o_1⟩ := ai_e1 e_1
      replace hrd := mo_si (k := 16) hrd m_1 g_1 o_1 rfl
      have E_1 := (xd.rf).trans (xd_of m_1 s_1 o_1 (by decide))
      obtain ⟨S_32, hrd, k_32, r_32, s_32⟩ := rd_new hrd
      refine wq (fun _ _ kk => rs_aload_n (pc := 35) dX5_settle_35 rfl kk) ?_
      refine wq (fun _ _ kk => rs_dup (pc := 36) dX5_settle_36 rfl kk) ?_
      refine wq (fun _ _ kk => rs_getf (pc := 37) dX5_settle_37 fX5_48 (mo_lt hrd (by decide)) hrd.2.1 rfl kk) ?_
      rw [r_32 11 (by decide), h11]
      refine wq (fun _ _ kk => rs_aload_n (pc := 40) dX5_settle_40 rfl kk) ?_
      refine wq (fun _ _ kk => rs_getf (pc := 41) dX5_settle_41 fX5_60 (mo_lt hrd (by decide)) hrd.2.1 rfl kk) ?_
      refine wq (fun _ _ kk => rs_aload_n (pc := 44) dX5_settle_44 rfl kk) ?_
      refine wq (fun _ _ kk => rs_getf (pc := 45) dX5_settle_45 fX5_63 (mo_lt hrd (by decide)) hrd.2.1 rfl kk) ?_
      rw [k_32]
      refine wq (fun _ _ kk => rs_iald (pc := 48) dX5_settle_48 (mo_lt hrd (by decide)) (mo_geti (d := 2) (k := 15) (kd := 0) (l := 64) rfl (by decide) hrd) (vp_in_nI (n := l.length) (N := 64) (by omega) (by decide)) kk) ?_
      rw [nI_clamp (show l.length < 2 ^ 31 by omega), s_32, hp.2.1]
      refine wq (fun _ _ kk => rs_ldc (pc := 49) dX5_settle_49 cnX5_134 kk) ?_
      refine wq_bn (fun _ _ kt kf => rs_icmp_ne (tgt := 58) (pc := 51) dX5_settle_51 rfl kt kf) (fun c_51 => ?_) (fun c_51 => ?_)
      · have g2 : x ≠ 9 := fun z => c_51 (by rw [z]; rfl)
        refine wq (fun _ _ kk => rs_iconst (v := 0) (pc := 58) dX5_settle_58 rfl kk) ?_
        refine wq (fun _ _ kk => rs_isub (pc := 59) dX5_settle_59 kk) ?_
        have e9 : (if x = 9 then 1 else 0) = 0 := if_neg g2
        have hnt2 : py_nt (py_tw r0 (x :: l)) = py_nt (py_tw r0 l) + if x = 9 then 1 else 0 := by rw [py_tw_y g1, py_nt_cons]
        have hnt3 : py_nt (py_tw r0 l) ≤ de - if x = 9 then 1 else 0 := by rw [e9]; rw [e9] at hnt2; omega
        have hd1 : (if x = 9 then 1 else 0) ≤ de := by rw [e9] at hnt2 ⊢; omega
        rw [show nI de - 0 = nI (de - if x = 9 then 1 else 0) by rw [e9]; rw [e9] at hd1; exact nI_sub hd1]
        refine wq (fun _ _ kk => rs_putf (pc := 60) dX5_settle_60 fX5_48 (mo_lt hrd (by decide)) hrd.2.1 rfl (Nat.le_of_ble_eq_true rfl) kk) ?_
        refine wq_gen (fun h_2 e_2 => ?_)
        obtain ⟨m_2, s_2, g_2, o_2⟩ := ai_e1 e_2
        replace hrd := mo_si (k := 11) hrd m_2 g_2 o_2 rfl
        have E_2 := (E_1).trans (xd_of m_2 s_2 o_2 (by decide))
        obtain ⟨S_60, hrd, k_60, r_60, s_60⟩ := rd_new hrd
        refine wq (fun _ _ kk => rs_aload_n (pc := 63) dX5_settle_63 rfl kk) ?_
        refine wq (fun _ _ kk => rs_aload_n (pc := 64) dX5_settle_64 rfl kk) ?_
        refine wq (fun _ _ kk => rs_getf (pc := 65) dX5_settle_65 fX5_60 (mo_lt hrd (by decide)) hrd.2.1 rfl kk) ?_
        refine wq (fun _ _ kk => rs_aload_n (pc := 68) dX5_settle_68 rfl kk) ?_
        refine wq (fun _ _ kk => rs_getf (pc := 69) dX5_settle_69 fX5_63 (mo_lt hrd (by decide)) hrd.2.1 rfl kk) ?_
        rw [r_60 16 (by decide), k_32]
        refine wq (fun _ _ kk => rs_iald (pc := 72) dX5_settle_72 (mo_lt hrd (by decide)) (mo_geti (d := 2) (k := 15) (kd := 0) (l := 64) rfl (by decide) hrd) (vp_in_nI (n := l.length) (N := 64) (by omega) (by decide)) kk) ?_
        rw [nI_clamp (show l.length < 2 ^ 31 by omega), s_60, s_32, hp.2.1]
        obtain ⟨rv_73, hc_73, ⟨rfl, ee_73, T_73, hrd_73, ho_73, w1, w2, w3⟩, hm_73⟩ := c_X5_step (x := tx_kc x) hrd (o := o) ⟨by rw [r_60 14 (by decide), r_32 14 (by decide)]; exact ho.1, by rw [s_60, s_32]; exact ho.2⟩ (by omega)
        refine wq (fun _ _ kk => rs_callV (as := [_]) (pc := 73) dX5_settle_73 mk_X5_step mlX5_209 in_X5_step se_X5_step rfl (mo_lt hrd (by decide)) hrd.2.1 rfl rfl (Nat.le_of_ble_eq_true rfl) (hm_73) kk) ?_
        replace hrd := hrd_73
        have E_73 := (E_2).trans ee_73
        refine wq (fun _ _ kk => rs_goto (tgt := 0) (pc := 76) dX5_settle_76 rfl kk) ?_
        have hih := ih (o ++ [tx_kc x]) (de - if x = 9 then 1 else 0) T_73 hc_73 (fun y hy => hva y (List.mem_cons_of_mem _ hy)) (by omega) (by rw [List.length_append]; show o.length + 1 + l.length ≤ 412; omega) hnt3 (by omega) hrd ho_73 ⟨by rw [w1 16 (by decide), r_60 16 (by decide), k_32], by rw [w3 15 (by decide), s_60, s_32]; exact hp.2.2⟩ (by rw [w1 11 (by decide), k_60]) (hE.trans (E_73)) ⟨fun j a b c => by rw [w1 j b, r_60 j a, r_32 j c]; exact hst.1 j a b c, by rw [w2, s_60, s_32]; exact hst.2.1, fun j hj => by rw [w3 j hj, s_60, s_32]; exact hst.2.2 j hj⟩
        rw [py_tw_y g1, py_dw_y g1]
        obtain ⟨rr, gg, ⟨q1, q2, T, q3, q4, q5, q6, q7⟩, q8⟩ := hih
        refine ⟨rr, gg, ⟨q1, q2, T, q3, ?_, q5, ?_, q7⟩, q8⟩
        · rw [List.map_cons, ← List.singleton_append, ← List.append_assoc]; exact q4
        · rw [q6, py_nt_cons, Nat.sub_sub, Nat.add_comm]
      · have g2 : x = 9 := kc_in (by omega) (by decide) c_51
        refine wq (fun _ _ kk => rs_iconst (v := 1) (pc := 54) dX5_settle_54 rfl kk) ?_
        refine wq (fun _ _ kk => rs_goto (tgt := 59) (pc := 55) dX5_settle_55 rfl kk) ?_
        refine wq (fun _ _ kk => rs_isub (pc := 59) dX5_settle_59 kk) ?_
        have e9 : (if x = 9 then 1 else 0) = 1 := if_pos g2
        have hnt2 : py_nt (py_tw r0 (x :: l)) = py_nt (py_tw r0 l) + if x = 9 then 1 else 0 := by rw [py_tw_y g1, py_nt_cons]
        have hnt3 : py_nt (py_tw r0 l) ≤ de - if x = 9 then 1 else 0 := by rw [e9]; rw [e9] at hnt2; omega
        have hd1 : (if x = 9 then 1 else 0) ≤ de := by rw [e9] at hnt2 ⊢; omega
        rw [show nI de - 1 = nI (de - if x = 9 then 1 else 0) by rw [e9]; rw [e9] at hd1; exact nI_sub hd1]
        refine wq (fun _ _ kk => rs_putf (pc := 60) dX5_settle_60 fX5_48 (mo_lt hrd (by decide)) hrd.2.1 rfl (Nat.le_of_ble_eq_true rfl) kk) ?_
        refine wq_gen (fun h_3 e_3 => ?_)
        obtain ⟨m_3, s_3, g_3, o_3⟩ := ai_e1 e_3
        replace hrd := mo_si (k := 11) hrd m_3 g_3 o_3 rfl
        have E_3 := (E_1).trans (xd_of m_3 s_3 o_3 (by decide))
        obtain ⟨S_60, hrd, k_60, r_60, s_60⟩ := rd_new hrd
        refine wq (fun _ _ kk => rs_aload_n (pc := 63) dX5_settle_63 rfl kk) ?_
        refine wq (fun _ _ kk => rs_aload_n (pc := 64) dX5_settle_64 rfl kk) ?_
        refine wq (fun _ _ kk => rs_getf (pc := 65) dX5_settle_65 fX5_60 (mo_lt hrd (by decide)) hrd.2.1 rfl kk) ?_
        refine wq (fun _ _ kk => rs_aload_n (pc := 68) dX5_settle_68 rfl kk) ?_
        refine wq (fun _ _ kk => rs_getf (pc := 69) dX5_settle_69 fX5_63 (mo_lt hrd (by decide)) hrd.2.1 rfl kk) ?_
        rw [r_60 16 (by decide), k_32]
        refine wq (fun _ _ kk => rs_iald (pc := 72) dX5_settle_72 (mo_lt hrd (by decide)) (mo_geti (d := 2) (k := 15) (kd := 0) (l := 64) rfl (by decide) hrd) (vp_in_nI (n := l.length) (N := 64) (by omega) (by decide)) kk) ?_
        rw [nI_clamp (show l.length < 2 ^ 31 by omega), s_60, s_32, hp.2.1]
        obtain ⟨rv_73, hc_73, ⟨rfl, ee_73, T_73, hrd_73, ho_73, w1, w2, w3⟩, hm_73⟩ := c_X5_step (x := tx_kc x) hrd (o := o) ⟨by rw [r_60 14 (by decide), r_32 14 (by decide)]; exact ho.1, by rw [s_60, s_32]; exact ho.2⟩ (by omega)
        refine wq (fun _ _ kk => rs_callV (as := [_]) (pc := 73) dX5_settle_73 mk_X5_step mlX5_209 in_X5_step se_X5_step rfl (mo_lt hrd (by decide)) hrd.2.1 rfl rfl (Nat.le_of_ble_eq_true rfl) (hm_73) kk) ?_
        replace hrd := hrd_73
        have E_73 := (E_3).trans ee_73
        refine wq (fun _ _ kk => rs_goto (tgt := 0) (pc := 76) dX5_settle_76 rfl kk) ?_
        have hih := ih (o ++ [tx_kc x]) (de - if x = 9 then 1 else 0) T_73 hc_73 (fun y hy => hva y (List.mem_cons_of_mem _ hy)) (by omega) (by rw [List.length_append]; show o.length + 1 + l.length ≤ 412; omega) hnt3 (by omega) hrd ho_73 ⟨by rw [w1 16 (by decide), r_60 16 (by decide), k_32], by rw [w3 15 (by decide), s_60, s_32]; exact hp.2.2⟩ (by rw [w1 11 (by decide), k_60]) (hE.trans (E_73)) ⟨fun j a b c => by rw [w1 j b, r_60 j a, r_32 j c]; exact hst.1 j a b c, by rw [w2, s_60, s_32]; exact hst.2.1, fun j hj => by rw [w3 j hj, s_60, s_32]; exact hst.2.2 j hj⟩
        rw [py_tw_y g1, py_dw_y g1]
        obtain ⟨rr, gg, ⟨q1, q2, T, q3, q4, q5, q6, q7⟩, q8⟩ := hih
        refine ⟨rr, gg, ⟨q1, q2, T, q3, ?_, q5, ?_, q7⟩, q8⟩
        · rw [List.map_cons, ← List.singleton_append, ← List.append_assoc]; exact q4
        · rw [q6, py_nt_cons, Nat.sub_sub, Nat.add_comm]
theorem c_X5_settle {h : ai_H} {S : Md} {r0 : Nat} (hr0 : r0 ≤ 6) {pl o : List Nat} {de : Nat} (hva : ∀ x, x ∈ pl → 2 ≤ x ∧ x ≤ 13) (hl : pl.length ≤ 64) (hol : o.length + pl.length ≤ 412) (hnt : py_nt (py_tw r0 pl) ≤ de) (hde : de ≤ 100) (hrd : rd_at 13 h S) (ho : rd_out S o) (hp : rd_pile S pl) (h11 : S.1 11 = nI de) : ai_QM MX5_settle [.ref 16, .int (nI r0)] h (fun r g' => r = none ∧ xd h g' ∧ ∃ T, rd_at 13 g' T ∧ rd_out T (o ++ (py_tw r0 pl).map tx_kc) ∧ rd_pile T (py_dw r0 pl) ∧ T.1 11 = nI (de - py_nt (py_tw r0 pl)) ∧ stl S T) := by
  refine qm_of (ls := [.ref 16, .int (nI r0)]) (by decide) (by simp [ai_en, Value.category]) (by rfl) ?_
  exact l_X5_settle hr0 pl o de S h hva hl hol hnt hde hrd ho hp h11 xd.rf stl.rf
