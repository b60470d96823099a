/-! 63b: String.length, charAt -/
theorem dJ0_length_8abf5_0 : decode cJ0_length_8abf5 0 = .ok (.aload_n 0, 1) := by decide +kernel
theorem dJ0_length_8abf5_1 : decode cJ0_length_8abf5 1 = .ok (.getfield 9, 3) := by decide +kernel
theorem dJ0_length_8abf5_4 : decode cJ0_length_8abf5 4 = .ok (.arraylength, 1) := by decide +kernel
theorem dJ0_length_8abf5_5 : decode cJ0_length_8abf5 5 = .ok (.aload_n 0, 1) := by decide +kernel
theorem dJ0_length_8abf5_6 : decode cJ0_length_8abf5 6 = .ok (.invokevirtual 335, 3) := by decide +kernel
theorem dJ0_length_8abf5_9 : decode cJ0_length_8abf5 9 = .ok (.ishr, 1) := by decide +kernel
theorem dJ0_length_8abf5_10 : decode cJ0_length_8abf5 10 = .ok (.ireturn, 1) := by decide +kernel
theorem dJ0_coder_7d493_0 : decode cJ0_coder_7d493 0 = .ok (.getstatic 38, 3) := by decide +kernel
theorem dJ0_coder_7d493_3 : decode cJ0_coder_7d493 3 = .ok (.ifCond .eq 10, 3) := by decide +kernel
theorem dJ0_coder_7d493_6 : decode cJ0_coder_7d493 6 = .ok (.aload_n 0, 1) := by decide +kernel
theorem dJ0_coder_7d493_7 : decode cJ0_coder_7d493 7 = .ok (.getfield 15, 3) := by decide +kernel
theorem dJ0_coder_7d493_10 : decode cJ0_coder_7d493 10 = .ok (.goto 4, 3) := by decide +kernel
theorem dJ0_coder_7d493_13 : decode cJ0_coder_7d493 13 = .ok (.iconst 1, 1) := by decide +kernel
theorem dJ0_coder_7d493_14 : decode cJ0_coder_7d493 14 = .ok (.ireturn, 1) := by decide +kernel
theorem dJ0_charAt_5068e_0 : decode cJ0_charAt_5068e 0 = .ok (.aload_n 0, 1) := by decide +kernel
theorem dJ0_charAt_5068e_1 : decode cJ0_charAt_5068e 1 = .ok (.invokevirtual 492, 3) := by decide +kernel
theorem dJ0_charAt_5068e_4 : decode cJ0_charAt_5068e 4 = .ok (.ifCond .eq 12, 3) := by decide +kernel
theorem dJ0_charAt_5068e_7 : decode cJ0_charAt_5068e 7 = .ok (.aload_n 0, 1) := by decide +kernel
theorem dJ0_charAt_5068e_8 : decode cJ0_charAt_5068e 8 = .ok (.getfield 9, 3) := by decide +kernel
theorem dJ0_charAt_5068e_11 : decode cJ0_charAt_5068e 11 = .ok (.iload_n 1, 1) := by decide +kernel
theorem dJ0_charAt_5068e_12 : decode cJ0_charAt_5068e 12 = .ok (.invokestatic 495, 3) := by decide +kernel
theorem dJ0_charAt_5068e_15 : decode cJ0_charAt_5068e 15 = .ok (.ireturn, 1) := by decide +kernel
theorem dJ0_charAt_5068e_16 : decode cJ0_charAt_5068e 16 = .ok (.aload_n 0, 1) := by decide +kernel
theorem dJ0_charAt_5068e_17 : decode cJ0_charAt_5068e 17 = .ok (.getfield 9, 3) := by decide +kernel
theorem dJ0_charAt_5068e_20 : decode cJ0_charAt_5068e 20 = .ok (.iload_n 1, 1) := by decide +kernel
theorem dJ0_charAt_5068e_21 : decode cJ0_charAt_5068e 21 = .ok (.invokestatic 498, 3) := by decide +kernel
theorem dJ0_charAt_5068e_24 : decode cJ0_charAt_5068e 24 = .ok (.ireturn, 1) := by decide +kernel
theorem dJ0_isLatin1_aae02_0 : decode cJ0_isLatin1_aae02 0 = .ok (.getstatic 38, 3) := by decide +kernel
theorem dJ0_isLatin1_aae02_3 : decode cJ0_isLatin1_aae02 3 = .ok (.ifCond .eq 14, 3) := by decide +kernel
theorem dJ0_isLatin1_aae02_6 : decode cJ0_isLatin1_aae02 6 = .ok (.aload_n 0, 1) := by decide +kernel
theorem dJ0_isLatin1_aae02_7 : decode cJ0_isLatin1_aae02 7 = .ok (.getfield 15, 3) := by decide +kernel
theorem dJ0_isLatin1_aae02_10 : decode cJ0_isLatin1_aae02 10 = .ok (.ifCond .ne 7, 3) := by decide +kernel
theorem dJ0_isLatin1_aae02_13 : decode cJ0_isLatin1_aae02 13 = .ok (.iconst 1, 1) := by decide +kernel
theorem dJ0_isLatin1_aae02_14 : decode cJ0_isLatin1_aae02 14 = .ok (.goto 4, 3) := by decide +kernel
theorem dJ0_isLatin1_aae02_17 : decode cJ0_isLatin1_aae02 17 = .ok (.iconst 0, 1) := by decide +kernel
theorem dJ0_isLatin1_aae02_18 : decode cJ0_isLatin1_aae02 18 = .ok (.ireturn, 1) := by decide +kernel
theorem dJ1_charAt_3b067_0 : decode cJ1_charAt_3b067 0 = .ok (.iload_n 1, 1) := by decide +kernel
theorem dJ1_charAt_3b067_1 : decode cJ1_charAt_3b067 1 = .ok (.aload_n 0, 1) := by decide +kernel
theorem dJ1_charAt_3b067_2 : decode cJ1_charAt_3b067 2 = .ok (.arraylength, 1) := by decide +kernel
theorem dJ1_charAt_3b067_3 : decode cJ1_charAt_3b067 3 = .ok (.invokestatic 9, 3) := by decide +kernel
theorem dJ1_charAt_3b067_6 : decode cJ1_charAt_3b067 6 = .ok (.aload_n 0, 1) := by decide +kernel
theorem dJ1_charAt_3b067_7 : decode cJ1_charAt_3b067 7 = .ok (.iload_n 1, 1) := by decide +kernel
theorem dJ1_charAt_3b067_8 : decode cJ1_charAt_3b067 8 = .ok (.baload, 1) := by decide +kernel
theorem dJ1_charAt_3b067_9 : decode cJ1_charAt_3b067 9 = .ok (.sipush 255, 3) := by decide +kernel
theorem dJ1_charAt_3b067_12 : decode cJ1_charAt_3b067 12 = .ok (.iand, 1) := by decide +kernel
theorem dJ1_charAt_3b067_13 : decode cJ1_charAt_3b067 13 = .ok (.i2c, 1) := by decide +kernel
theorem dJ1_charAt_3b067_14 : decode cJ1_charAt_3b067 14 = .ok (.ireturn, 1) := by decide +kernel
theorem dJ0_checkIndex_df160_0 : decode cJ0_checkIndex_df160 0 = .ok (.iload_n 0, 1) := by decide +kernel
theorem dJ0_checkIndex_df160_1 : decode cJ0_checkIndex_df160 1 = .ok (.iload_n 1, 1) := by decide +kernel
theorem dJ0_checkIndex_df160_2 : decode cJ0_checkIndex_df160 2 = .ok (.getstatic 1053, 3) := by decide +kernel
theorem dJ0_checkIndex_df160_5 : decode cJ0_checkIndex_df160 5 = .ok (.invokestatic 1059, 3) := by decide +kernel
theorem dJ0_checkIndex_df160_8 : decode cJ0_checkIndex_df160 8 = .ok (.pop, 1) := by decide +kernel
theorem dJ0_checkIndex_df160_9 : decode cJ0_checkIndex_df160 9 = .ok (.return_, 1) := by decide +kernel
theorem dJ3_checkIndex_8e157_0 : decode cJ3_checkIndex_8e157 0 = .ok (.iload_n 0, 1) := by decide +kernel
theorem dJ3_checkIndex_8e157_1 : decode cJ3_checkIndex_8e157 1 = .ok (.ifCond .lt 8, 3) := by decide +kernel
theorem dJ3_checkIndex_8e157_4 : decode cJ3_checkIndex_8e157 4 = .ok (.iload_n 0, 1) := by decide +kernel
theorem dJ3_checkIndex_8e157_5 : decode cJ3_checkIndex_8e157 5 = .ok (.iload_n 1, 1) := by decide +kernel
theorem dJ3_checkIndex_8e157_6 : decode cJ3_checkIndex_8e157 6 = .ok (.if_icmp .lt 10, 3) := by decide +kernel
theorem dJ3_checkIndex_8e157_9 : decode cJ3_checkIndex_8e157 9 = .ok (.aload_n 2, 1) := by decide +kernel
theorem dJ3_checkIndex_8e157_10 : decode cJ3_checkIndex_8e157 10 = .ok (.iload_n 0, 1) := by decide +kernel
theorem dJ3_checkIndex_8e157_11 : decode cJ3_checkIndex_8e157 11 = .ok (.iload_n 1, 1) := by decide +kernel
theorem dJ3_checkIndex_8e157_12 : decode cJ3_checkIndex_8e157 12 = .ok (.invokestatic 95, 3) := by decide +kernel
theorem dJ3_checkIndex_8e157_15 : decode cJ3_checkIndex_8e157 15 = .ok (.athrow, 1) := by decide +kernel
theorem dJ3_checkIndex_8e157_16 : decode cJ3_checkIndex_8e157 16 = .ok (.iload_n 0, 1) := by decide +kernel
theorem dJ3_checkIndex_8e157_17 : decode cJ3_checkIndex_8e157 17 = .ok (.ireturn, 1) := by decide +kernel
set_option maxRecDepth 100000 in
set_option maxHeartbeats 4000000 in
theorem c_coder {h : ai_H} {j : Nat} (hj : j < 15) : ai_Met MJ0_coder_7d493 [.retAddr j] h (some (.int 0)) h := by
  refine ai_metF (ls := [.retAddr j]) (by decide +kernel) (by simp [ai_en, Value.category]) (by rfl) ?_
  refine rs_scmp (pc := 0) dJ0_coder_7d493_0 sl_cmp ?_
  refine rs_if_eq (tgt := 13) (pc := 3) dJ0_coder_7d493_3 rfl (fun c => absurd c (by decide)) (fun c => ?_)
  refine rs_aload_nS (pc := 6) dJ0_coder_7d493_6 rfl ?_
  refine rs_scod (pc := 7) dJ0_coder_7d493_7 sl_cod hj ?_
  refine rs_goto (tgt := 14) (pc := 10) dJ0_coder_7d493_10 rfl ?_
  exact rs_nret (pc := 14) dJ0_coder_7d493_14 rfl rfl (Or.inr rfl)
set_option maxRecDepth 100000 in
set_option maxHeartbeats 4000000 in
theorem c_isLatin1 {h : ai_H} {j : Nat} (hj : j < 15) : ai_Met MJ0_isLatin1_aae02 [.retAddr j] h (some (.int 1)) h := by
  refine ai_metF (ls := [.retAddr j]) (by decide +kernel) (by simp [ai_en, Value.category]) (by rfl) ?_
  refine rs_scmp (pc := 0) dJ0_isLatin1_aae02_0 sl_cmp ?_
  refine rs_if_eq (tgt := 17) (pc := 3) dJ0_isLatin1_aae02_3 rfl (fun c => absurd c (by decide)) (fun c => ?_)
  refine rs_aload_nS (pc := 6) dJ0_isLatin1_aae02_6 rfl ?_
  refine rs_scod (pc := 7) dJ0_isLatin1_aae02_7 sl_cod hj ?_
  refine rs_if_ne (tgt := 17) (pc := 10) dJ0_isLatin1_aae02_10 rfl (fun c => absurd rfl c) (fun c => ?_)
  refine rs_iconst (v := 1) (pc := 13) dJ0_isLatin1_aae02_13 rfl ?_
  refine rs_goto (tgt := 18) (pc := 14) dJ0_isLatin1_aae02_14 rfl ?_
  exact rs_zret (pc := 18) dJ0_isLatin1_aae02_18 rfl (Or.inr rfl)
set_option maxRecDepth 100000 in
set_option maxHeartbeats 4000000 in
theorem c_length {h : ai_H} {j : Nat} (hj : j < 15) : ai_Met MJ0_length_8abf5 [.retAddr j] h (some (.int (nI (ai_sl.getD j 0)))) h := by
  refine ai_metF (ls := [.retAddr j]) (by decide +kernel) (by simp [ai_en, Value.category]) (by rfl) ?_
  refine rs_aload_nS (pc := 0) dJ0_length_8abf5_0 rfl ?_
  refine rs_sval (pc := 1) dJ0_length_8abf5_1 sl_val hj ?_
  refine rs_slen (pc := 4) dJ0_length_8abf5_4 hj ?_
  refine rs_aload_nS (pc := 5) dJ0_length_8abf5_5 rfl ?_
  refine rs_callVS (as := []) (pc := 6) dJ0_length_8abf5_6 mk_J0_coder_7d493 mlJ0_335 in_J0_coder_7d493 se_J0_coder_7d493 rfl hj rfl rfl (Nat.le_of_ble_eq_true rfl) (c_coder hj) ?_
  refine rs_ishr (pc := 9) dJ0_length_8abf5_9 ?_
  refine wk_iret (pc := 10) dJ0_length_8abf5_10 rfl ?_ rfl
  revert j
  decide +kernel
set_option maxRecDepth 100000 in
set_option maxHeartbeats 4000000 in
theorem c_check3 {h : ai_H} {i n : Nat} (hi : i < n) (hn : n < 100) : ai_Met MJ3_checkIndex_8e157 [.int (nI i), .int (nI n), .retAddr 30] h (some (.int (nI i))) h := by
  refine ai_metF (ls := [.int (nI i), .int (nI n), .retAddr 30]) (by decide +kernel) (by simp [ai_en, Value.category]) (by rfl) ?_
  refine rs_iload_n (pc := 0) dJ3_checkIndex_8e157_0 rfl ?_
  refine rs_if_lt (tgt := 9) (pc := 1) dJ3_checkIndex_8e157_1 rfl (fun c => absurd c (nI_pos (by omega))) (fun c => ?_)
  refine rs_iload_n (pc := 4) dJ3_checkIndex_8e157_4 rfl ?_
  refine rs_iload_n (pc := 5) dJ3_checkIndex_8e157_5 rfl ?_
  refine rs_icmp_lt (tgt := 16) (pc := 6) dJ3_checkIndex_8e157_6 rfl (fun c => ?_) (fun c => absurd (nI_lt hi (by omega)) c)
  refine rs_iload_n (pc := 16) dJ3_checkIndex_8e157_16 rfl ?_
  exact wk_iret (pc := 17) dJ3_checkIndex_8e157_17 rfl rfl rfl
set_option maxRecDepth 100000 in
set_option maxHeartbeats 4000000 in
theorem c_check3n {h : ai_H} {i n : Nat} (hi : i < n) (hn : n < 100) : ai_Met MJ3_checkIndex_8e157 [.int (nI i), .int (nI n), .null] h (some (.int (nI i))) h := by
  refine ai_metF (ls := [.int (nI i), .int (nI n), .null]) (by decide +kernel) (by simp [ai_en, Value.category]) (by rfl) ?_
  refine rs_iload_n (pc := 0) dJ3_checkIndex_8e157_0 rfl ?_
  refine rs_if_lt (tgt := 9) (pc := 1) dJ3_checkIndex_8e157_1 rfl (fun c => absurd c (nI_pos (by omega))) (fun c => ?_)
  refine rs_iload_n (pc := 4) dJ3_checkIndex_8e157_4 rfl ?_
  refine rs_iload_n (pc := 5) dJ3_checkIndex_8e157_5 rfl ?_
  refine rs_icmp_lt (tgt := 16) (pc := 6) dJ3_checkIndex_8e157_6 rfl (fun c => ?_) (fun c => absurd (nI_lt hi (by omega)) c)
  refine rs_iload_n (pc := 16) dJ3_checkIndex_8e157_16 rfl ?_
  exact wk_iret (pc := 17) dJ3_checkIndex_8e157_17 rfl rfl rfl
set_option maxRecDepth 100000 in
set_option maxHeartbeats 4000000 in
theorem c_check0 {h : ai_H} {i n : Nat} (hi : i < n) (hn : n < 100) : ai_Met MJ0_checkIndex_df160 [.int (nI i), .int (nI n)] h none h := by
  refine ai_metF (ls := [.int (nI i), .int (nI n)]) (by decide +kernel) (by simp [ai_en, Value.category]) (by rfl) ?_
  refine rs_iload_n (pc := 0) dJ0_checkIndex_df160_0 rfl ?_
  refine rs_iload_n (pc := 1) dJ0_checkIndex_df160_1 rfl ?_
  refine rs_sfmt (pc := 2) dJ0_checkIndex_df160_2 sl_fmt ?_ ?_
  · refine rs_callS (as := [_, _, _]) (pc := 5) dJ0_checkIndex_df160_5 mk_J3_checkIndex_8e157 mlJ0_1059 st_J3_checkIndex_8e157 rfl rfl (Nat.le_of_ble_eq_true rfl) (c_check3 hi hn) ?_
    refine rs_pop (pc := 8) dJ0_checkIndex_df160_8 rfl ?_
    exact wk_vret (pc := 9) dJ0_checkIndex_df160_9 rfl rfl rfl
  · refine rs_callS (as := [_, _, _]) (pc := 5) dJ0_checkIndex_df160_5 mk_J3_checkIndex_8e157 mlJ0_1059 st_J3_checkIndex_8e157 rfl rfl (Nat.le_of_ble_eq_true rfl) (c_check3n hi hn) ?_
    refine rs_pop (pc := 8) dJ0_checkIndex_df160_8 rfl ?_
    exact wk_vret (pc := 9) dJ0_checkIndex_df160_9 rfl rfl rfl
set_option maxRecDepth 100000 in
set_option maxHeartbeats 4000000 in
theorem c_char1 {h : ai_H} {i j : Nat} (hj : j < 15) (hi : i < ai_sl.getD j 0) : ai_Met MJ1_charAt_3b067 [.retAddr (15 + j), .int (nI i)] h (some (.int (sby j i))) h := by
  have hl := sl_ok j hj
  refine ai_metF (ls := [.retAddr (15 + j), .int (nI i)]) (by decide +kernel) (by simp [ai_en, Value.category]) (by rfl) ?_
  refine rs_iload_n (pc := 0) dJ1_charAt_3b067_0 rfl ?_
  refine rs_aload_nS (pc := 1) dJ1_charAt_3b067_1 rfl ?_
  refine rs_slen (pc := 2) dJ1_charAt_3b067_2 hj ?_
  refine rs_callS (as := [_, _]) (pc := 3) dJ1_charAt_3b067_3 mk_J0_checkIndex_df160 mlJ1_9 st_J0_checkIndex_df160 rfl rfl (Nat.le_of_ble_eq_true rfl) (c_check0 hi (by omega)) ?_
  refine rs_aload_nS (pc := 6) dJ1_charAt_3b067_6 rfl ?_
  refine rs_iload_n (pc := 7) dJ1_charAt_3b067_7 rfl ?_
  refine rs_sbal (pc := 8) dJ1_charAt_3b067_8 hj (vp_in_nI (n := i) hi (by omega)) ?_
  rw [nI_clamp (show i < 2 ^ 31 by omega)]
  refine rs_sipush (v := 255) (pc := 9) dJ1_charAt_3b067_9 rfl ?_
  refine rs_iand (pc := 12) dJ1_charAt_3b067_12 ?_
  refine rs_i2c (pc := 13) dJ1_charAt_3b067_13 ?_
  have e := sb_ok j hj i (by omega)
  unfold sby at e
  rw [e]
  exact rs_nret (pc := 14) dJ1_charAt_3b067_14 rfl ((nar_c _).trans (congrArg Value.int (sb_nar j hj i (by omega)))) (Or.inl rfl)
set_option maxRecDepth 100000 in
set_option maxHeartbeats 4000000 in
theorem c_charAt {h : ai_H} {i j : Nat} (hj : j < 15) (hi : i < ai_sl.getD j 0) : ai_Met MJ0_charAt_5068e [.retAddr j, .int (nI i)] h (some (.int (sby j i))) h := by
  have hl := sl_ok j hj
  refine ai_metF (ls := [.retAddr j, .int (nI i)]) (by decide +kernel) (by simp [ai_en, Value.category]) (by rfl) ?_
  refine rs_aload_nS (pc := 0) dJ0_charAt_5068e_0 rfl ?_
  refine rs_callVS (as := []) (pc := 1) dJ0_charAt_5068e_1 mk_J0_isLatin1_aae02 mlJ0_492 in_J0_isLatin1_aae02 se_J0_isLatin1_aae02 rfl hj rfl rfl (Nat.le_of_ble_eq_true rfl) (c_isLatin1 hj) ?_
  refine rs_if_eq (tgt := 16) (pc := 4) dJ0_charAt_5068e_4 rfl (fun c => absurd c (by decide)) (fun c => ?_)
  refine rs_aload_nS (pc := 7) dJ0_charAt_5068e_7 rfl ?_
  refine rs_sval (pc := 8) dJ0_charAt_5068e_8 sl_val hj ?_
  refine rs_iload_n (pc := 11) dJ0_charAt_5068e_11 rfl ?_
  refine rs_callS (as := [_, _]) (pc := 12) dJ0_charAt_5068e_12 mk_J1_charAt_3b067 mlJ0_495 st_J1_charAt_3b067 rfl rfl (Nat.le_of_ble_eq_true rfl) (c_char1 hj hi) ?_
  exact rs_nret (pc := 15) dJ0_charAt_5068e_15 rfl ((nar_c _).trans (congrArg Value.int (sb_nar j hj i (by omega)))) (Or.inl rfl)
