/-! 21: reads of Cells (walks laid by wip/whole/p21.py) -/
def cl_place (S : Md) (c o : Int32) : Int32 := if c < 0 then -1 else if S.1 0 ≤ c then -1 else if o < 0 then -1 else if 16 ≤ o then -1 else c * 16 + o
def cl_sz (S : Md) : Prop := 0 ≤ (S.1 0).toInt ∧ (S.1 0).toInt ≤ 400
theorem cl_place_in {S : Md} {c o : Int32} (hz : cl_sz S) (h : ¬ cl_place S c o = -1) : vp_in (cl_place S c o) 6400 := by
  unfold cl_place at h ⊢
  split at h
  · exact absurd rfl h
  · split at h
    · exact absurd rfl h
    · split at h
      · exact absurd rfl h
      · split at h
        · exact absurd rfl h
        · rename_i h1 h2 h3 h4
          rw [if_neg h1, if_neg h2, if_neg h3, if_neg h4]
          simp only [i32_lt, i32_le, i32_0] at h1 h2 h3 h4
          have e16 : (16 : Int32).toInt = 16 := rfl
          obtain ⟨z1, z2⟩ := hz
          have m1 : (c * 16).toInt = c.toInt * 16 := i32_mul (b := 16) (by rw [e16]; omega) (by rw [e16]; omega)
          have m2 : (c * 16 + o).toInt = (c * 16).toInt + o.toInt := i32_add (by omega) (by omega)
          exact vp_in_iff.mpr ⟨by omega, by omega⟩
def cl_many (S : Md) (c o : Int32) : Int32 := if cl_place S c o = -1 then 0 else S.2.2.1 7 (cl_place S c o).toNatClampNeg
def cl_tog (S : Md) (c o : Int32) : Int32 := if cl_place S c o = -1 then 0 else S.2.2.1 9 (cl_place S c o).toNatClampNeg
def cl_mean (S : Md) (c o : Int32) : Int64 := if cl_many S c o = 0 then 0 else bi_fdL (1000 * (cl_tog S c o).toInt64) (cl_many S c o).toInt64
def cl_less (a m b n : Int64) : Int64 := if m * n = 0 then 0 else bi_fdL (1000 * (a * n - b * m)) (m * n)
def cl_diff (S : Md) (c a b : Int32) : Int64 := cl_less (cl_tog S c a).toInt64 (cl_many S c a).toInt64 (cl_tog S c b).toInt64 (cl_many S c b).toInt64
def cl_meet (S : Md) (c a b : Int32) : Int32 := if bi_in c 0 (S.1 0 - 1) = 0 then 0 else if S.2.2.1 5 c.toNatClampNeg = 3 then 0 else if cl_many S c a ≤ 0 then 0 else if cl_many S c b ≤ 0 then 0 else 1
theorem dX2_place_0 : decode cX2_place 0 = .ok (.iload_n 1, 1) := by decide +kernel
theorem dX2_place_1 : decode cX2_place 1 = .ok (.ifCond .lt 25, 3) := by decide +kernel
theorem dX2_place_4 : decode cX2_place 4 = .ok (.iload_n 1, 1) := by decide +kernel
theorem dX2_place_5 : decode cX2_place 5 = .ok (.aload_n 0, 1) := by decide +kernel
theorem dX2_place_6 : decode cX2_place 6 = .ok (.getfield 9, 3) := by decide +kernel
theorem dX2_place_9 : decode cX2_place 9 = .ok (.if_icmp .ge 17, 3) := by decide +kernel
theorem dX2_place_12 : decode cX2_place 12 = .ok (.iload_n 2, 1) := by decide +kernel
theorem dX2_place_13 : decode cX2_place 13 = .ok (.ifCond .lt 13, 3) := by decide +kernel
theorem dX2_place_16 : decode cX2_place 16 = .ok (.iload_n 2, 1) := by decide +kernel
theorem dX2_place_17 : decode cX2_place 17 = .ok (.bipush 16, 2) := by decide +kernel
theorem dX2_place_19 : decode cX2_place 19 = .ok (.if_icmp .ge 7, 3) := by decide +kernel
theorem dX2_place_22 : decode cX2_place 22 = .ok (.iconst 1, 1) := by decide +kernel
theorem dX2_place_23 : decode cX2_place 23 = .ok (.goto 4, 3) := by decide +kernel
theorem dX2_place_26 : decode cX2_place 26 = .ok (.iconst 0, 1) := by decide +kernel
theorem dX2_place_27 : decode cX2_place 27 = .ok (.istore_n 3, 1) := by decide +kernel
theorem dX2_place_28 : decode cX2_place 28 = .ok (.iload_n 3, 1) := by decide +kernel
theorem dX2_place_29 : decode cX2_place 29 = .ok (.ifCond .eq 12, 3) := by decide +kernel
theorem dX2_place_32 : decode cX2_place 32 = .ok (.iload_n 1, 1) := by decide +kernel
theorem dX2_place_33 : decode cX2_place 33 = .ok (.bipush 16, 2) := by decide +kernel
theorem dX2_place_35 : decode cX2_place 35 = .ok (.imul, 1) := by decide +kernel
theorem dX2_place_36 : decode cX2_place 36 = .ok (.iload_n 2, 1) := by decide +kernel
theorem dX2_place_37 : decode cX2_place 37 = .ok (.iadd, 1) := by decide +kernel
theorem dX2_place_38 : decode cX2_place 38 = .ok (.goto 4, 3) := by decide +kernel
theorem dX2_place_41 : decode cX2_place 41 = .ok (.iconst (-1), 1) := by decide +kernel
theorem dX2_place_42 : decode cX2_place 42 = .ok (.ireturn, 1) := by decide +kernel
set_option maxRecDepth 100000 in
set_option maxHeartbeats 4000000 in
theorem c_X2_place {h : ai_H} {S : Md} (hcl : cl_at h S) (c o : Int32) : ai_Met MX2_place [.ref 22, .int c, .int o] h (some (.int (cl_place S c o))) h := by
  refine ai_met (ls := [.ref 22, .int c, .int o, .float 0]) (by decide) (by simp [ai_en, Value.category]) (by rfl) ?_
  refine rs_iload_n (pc := 0) dX2_place_0 rfl ?_
  refine rs_if_lt (tgt := 26) (pc := 1) dX2_place_1 rfl (fun c_1 => ?_) (fun c_1 => ?_)
  · refine rs_iconst (v := 0) (pc := 26) dX2_place_26 rfl ?_
    refine wk_istn3 (pc := 27) dX2_place_27 (by decide) rfl ?_
    refine rs_iload_n (pc := 28) dX2_place_28 rfl ?_
    refine rs_if_eq (tgt := 41) (pc := 29) dX2_place_29 rfl (fun c_29 => ?_) (fun c_29 => absurd c_29 (by decide))
    refine rs_iconst (v := -1) (pc := 41) dX2_place_41 rfl ?_
    exact wk_iret (pc := 42) dX2_place_42 rfl (by simp [cl_place, c_1]) (rfl)
  · refine rs_iload_n (pc := 4) dX2_place_4 rfl ?_
    refine rs_aload_n (pc := 5) dX2_place_5 rfl ?_
    refine rs_getf (pc := 6) dX2_place_6 fX2_9 (mo_lt hcl (by decide)) hcl.2.1 rfl ?_
    refine rs_icmp_ge (tgt := 26) (pc := 9) dX2_place_9 rfl (fun c_9 => ?_) (fun c_9 => ?_)
    · refine rs_iconst (v := 0) (pc := 26) dX2_place_26 rfl ?_
      refine wk_istn3 (pc := 27) dX2_place_27 (by decide) rfl ?_
      refine rs_iload_n (pc := 28) dX2_place_28 rfl ?_
      refine rs_if_eq (tgt := 41) (pc := 29) dX2_place_29 rfl (fun c_29 => ?_) (fun c_29 => absurd c_29 (by decide))
      refine rs_iconst (v := -1) (pc := 41) dX2_place_41 rfl ?_
      exact wk_iret (pc := 42) dX2_place_42 rfl (by simp [cl_place, c_1, c_9]) (rfl)
    · refine rs_iload_n (pc := 12) dX2_place_12 rfl ?_
      refine rs_if_lt (tgt := 26) (pc := 13) dX2_place_13 rfl (fun c_13 => ?_) (fun c_13 => ?_)
      · refine rs_iconst (v := 0) (pc := 26) dX2_place_26 rfl ?_
        refine wk_istn3 (pc := 27) dX2_place_27 (by decide) rfl ?_
        refine rs_iload_n (pc := 28) dX2_place_28 rfl ?_
        refine rs_if_eq (tgt := 41) (pc := 29) dX2_place_29 rfl (fun c_29 => ?_) (fun c_29 => absurd c_29 (by decide))
        refine rs_iconst (v := -1) (pc := 41) dX2_place_41 rfl ?_
        exact wk_iret (pc := 42) dX2_place_42 rfl (by simp [cl_place, c_1, c_9, c_13]) (rfl)
      · refine rs_iload_n (pc := 16) dX2_place_16 rfl ?_
        refine rs_bipush (v := 16) (pc := 17) dX2_place_17 rfl ?_
        refine rs_icmp_ge (tgt := 26) (pc := 19) dX2_place_19 rfl (fun c_19 => ?_) (fun c_19 => ?_)
        · refine rs_iconst (v := 0) (pc := 26) dX2_place_26 rfl ?_
          refine wk_istn3 (pc := 27) dX2_place_27 (by decide) rfl ?_
          refine rs_iload_n (pc := 28) dX2_place_28 rfl ?_
          refine rs_if_eq (tgt := 41) (pc := 29) dX2_place_29 rfl (fun c_29 => ?_) (fun c_29 => absurd c_29 (by decide))
          refine rs_iconst (v := -1) (pc := 41) dX2_place_41 rfl ?_
          exact wk_iret (pc := 42) dX2_place_42 rfl (by simp [cl_place, c_1, c_9, c_13, c_19]) (rfl)
        · refine rs_iconst (v := 1) (pc := 22) dX2_place_22 rfl ?_
          refine rs_goto (tgt := 27) (pc := 23) dX2_place_23 rfl ?_
          refine wk_istn3 (pc := 27) dX2_place_27 (by decide) rfl ?_
          refine rs_iload_n (pc := 28) dX2_place_28 rfl ?_
          refine rs_if_eq (tgt := 41) (pc := 29) dX2_place_29 rfl (fun c_29 => absurd c_29 (by decide)) (fun c_29 => ?_)
          refine rs_iload_n (pc := 32) dX2_place_32 rfl ?_
          refine rs_bipush (v := 16) (pc := 33) dX2_place_33 rfl ?_
          refine rs_imul (pc := 35) dX2_place_35 ?_
          refine rs_iload_n (pc := 36) dX2_place_36 rfl ?_
          refine rs_iadd (pc := 37) dX2_place_37 ?_
          refine rs_goto (tgt := 42) (pc := 38) dX2_place_38 rfl ?_
          exact wk_iret (pc := 42) dX2_place_42 rfl (by simp [cl_place, c_1, c_9, c_13, c_19]) (rfl)
theorem dX2_many_0 : decode cX2_many 0 = .ok (.aload_n 0, 1) := by decide +kernel
theorem dX2_many_1 : decode cX2_many 1 = .ok (.iload_n 1, 1) := by decide +kernel
theorem dX2_many_2 : decode cX2_many 2 = .ok (.iload_n 2, 1) := by decide +kernel
theorem dX2_many_3 : decode cX2_many 3 = .ok (.invokevirtual 74, 3) := by decide +kernel
theorem dX2_many_6 : decode cX2_many 6 = .ok (.istore_n 3, 1) := by decide +kernel
theorem dX2_many_7 : decode cX2_many 7 = .ok (.iload_n 3, 1) := by decide +kernel
theorem dX2_many_8 : decode cX2_many 8 = .ok (.iconst (-1), 1) := by decide +kernel
theorem dX2_many_9 : decode cX2_many 9 = .ok (.if_icmp .ne 7, 3) := by decide +kernel
theorem dX2_many_12 : decode cX2_many 12 = .ok (.iconst 0, 1) := by decide +kernel
theorem dX2_many_13 : decode cX2_many 13 = .ok (.goto 9, 3) := by decide +kernel
theorem dX2_many_16 : decode cX2_many 16 = .ok (.aload_n 0, 1) := by decide +kernel
theorem dX2_many_17 : decode cX2_many 17 = .ok (.getfield 34, 3) := by decide +kernel
theorem dX2_many_20 : decode cX2_many 20 = .ok (.iload_n 3, 1) := by decide +kernel
theorem dX2_many_21 : decode cX2_many 21 = .ok (.iaload, 1) := by decide +kernel
theorem dX2_many_22 : decode cX2_many 22 = .ok (.ireturn, 1) := by decide +kernel
set_option maxRecDepth 100000 in
set_option maxHeartbeats 4000000 in
theorem c_X2_many {h : ai_H} {S : Md} (hcl : cl_at h S) (hz : cl_sz S) (c o : Int32) : ai_Met MX2_many [.ref 22, .int c, .int o] h (some (.int (cl_many S c o))) h := by
  refine ai_met (ls := [.ref 22, .int c, .int o, .float 0]) (by decide) (by simp [ai_en, Value.category]) (by rfl) ?_
  refine rs_aload_n (pc := 0) dX2_many_0 rfl ?_
  refine rs_iload_n (pc := 1) dX2_many_1 rfl ?_
  refine rs_iload_n (pc := 2) dX2_many_2 rfl ?_
  refine rs_callV (as := [_, _]) (pc := 3) dX2_many_3 mk_X2_place mlX2_74 in_X2_place se_X2_place rfl (mo_lt hcl (by decide)) hcl.2.1 rfl rfl (Nat.le_of_ble_eq_true rfl) (c_X2_place hcl _ _) ?_
  refine wk_istn3 (pc := 6) dX2_many_6 (by decide) rfl ?_
  refine rs_iload_n (pc := 7) dX2_many_7 rfl ?_
  refine rs_iconst (v := -1) (pc := 8) dX2_many_8 rfl ?_
  refine rs_icmp_ne (tgt := 16) (pc := 9) dX2_many_9 rfl (fun c_9 => ?_) (fun c_9 => ?_)
  · refine rs_aload_n (pc := 16) dX2_many_16 rfl ?_
    refine rs_getf (pc := 17) dX2_many_17 fX2_34 (mo_lt hcl (by decide)) hcl.2.1 rfl ?_
    refine rs_iload_n (pc := 20) dX2_many_20 rfl ?_
    refine rs_iald (pc := 21) dX2_many_21 (mo_lt hcl (by decide)) (mo_geti (d := 6) (k := 7) (kd := 0) (l := 6400) rfl (by decide) hcl) (cl_place_in hz c_9) ?_
    exact wk_iret (pc := 22) dX2_many_22 rfl (by simp [cl_many, c_9]) (rfl)
  · refine rs_iconst (v := 0) (pc := 12) dX2_many_12 rfl ?_
    refine rs_goto (tgt := 22) (pc := 13) dX2_many_13 rfl ?_
    exact wk_iret (pc := 22) dX2_many_22 rfl (by simp [cl_many, c_9]) (rfl)
theorem dX2_together_0 : decode cX2_together 0 = .ok (.aload_n 0, 1) := by decide +kernel
theorem dX2_together_1 : decode cX2_together 1 = .ok (.iload_n 1, 1) := by decide +kernel
theorem dX2_together_2 : decode cX2_together 2 = .ok (.iload_n 2, 1) := by decide +kernel
theorem dX2_together_3 : decode cX2_together 3 = .ok (.invokevirtual 74, 3) := by decide +kernel
theorem dX2_together_6 : decode cX2_together 6 = .ok (.istore_n 3, 1) := by decide +kernel
theorem dX2_together_7 : decode cX2_together 7 = .ok (.iload_n 3, 1) := by decide +kernel
theorem dX2_together_8 : decode cX2_together 8 = .ok (.iconst (-1), 1) := by decide +kernel
theorem dX2_together_9 : decode cX2_together 9 = .ok (.if_icmp .ne 7, 3) := by decide +kernel
theorem dX2_together_12 : decode cX2_together 12 = .ok (.iconst 0, 1) := by decide +kernel
theorem dX2_together_13 : decode cX2_together 13 = .ok (.goto 9, 3) := by decide +kernel
theorem dX2_together_16 : decode cX2_together 16 = .ok (.aload_n 0, 1) := by decide +kernel
theorem dX2_together_17 : decode cX2_together 17 = .ok (.getfield 40, 3) := by decide +kernel
theorem dX2_together_20 : decode cX2_together 20 = .ok (.iload_n 3, 1) := by decide +kernel
theorem dX2_together_21 : decode cX2_together 21 = .ok (.iaload, 1) := by decide +kernel
theorem dX2_together_22 : decode cX2_together 22 = .ok (.ireturn, 1) := by decide +kernel
set_option maxRecDepth 100000 in
set_option maxHeartbeats 4000000 in
theorem c_X2_together {h : ai_H} {S : Md} (hcl : cl_at h S) (hz : cl_sz S) (c o : Int32) : ai_Met MX2_together [.ref 22, .int c, .int o] h (some (.int (cl_tog S c o))) h := by
  refine ai_met (ls := [.ref 22, .int c, .int o, .float 0]) (by decide) (by simp [ai_en, Value.category]) (by rfl) ?_
  refine rs_aload_n (pc := 0) dX2_together_0 rfl ?_
  refine rs_iload_n (pc := 1) dX2_together_1 rfl ?_
  refine rs_iload_n (pc := 2) dX2_together_2 rfl ?_
  refine rs_callV (as := [_, _]) (pc := 3) dX2_together_3 mk_X2_place mlX2_74 in_X2_place se_X2_place rfl (mo_lt hcl (by decide)) hcl.2.1 rfl rfl (Nat.le_of_ble_eq_true rfl) (c_X2_place hcl _ _) ?_
  refine wk_istn3 (pc := 6) dX2_together_6 (by decide) rfl ?_
  refine rs_iload_n (pc := 7) dX2_together_7 rfl ?_
  refine rs_iconst (v := -1) (pc := 8) dX2_together_8 rfl ?_
  refine rs_icmp_ne (tgt := 16) (pc := 9) dX2_together_9 rfl (fun c_9 => ?_) (fun c_9 => ?_)
  · refine rs_aload_n (pc := 16) dX2_together_16 rfl ?_
    refine rs_getf (pc := 17) dX2_together_17 fX2_40 (mo_lt hcl (by decide)) hcl.2.1 rfl ?_
    refine rs_iload_n (pc := 20) dX2_together_20 rfl ?_
    refine rs_iald (pc := 21) dX2_together_21 (mo_lt hcl (by decide)) (mo_geti (d := 8) (k := 9) (kd := 0) (l := 6400) rfl (by decide) hcl) (cl_place_in hz c_9) ?_
    exact wk_iret (pc := 22) dX2_together_22 rfl (by simp [cl_tog, c_9]) (rfl)
  · refine rs_iconst (v := 0) (pc := 12) dX2_together_12 rfl ?_
    refine rs_goto (tgt := 22) (pc := 13) dX2_together_13 rfl ?_
    exact wk_iret (pc := 22) dX2_together_22 rfl (by simp [cl_tog, c_9]) (rfl)
theorem dX2_mean_0 : decode cX2_mean 0 = .ok (.aload_n 0, 1) := by decide +kernel
theorem dX2_mean_1 : decode cX2_mean 1 = .ok (.iload_n 1, 1) := by decide +kernel
theorem dX2_mean_2 : decode cX2_mean 2 = .ok (.iload_n 2, 1) := by decide +kernel
theorem dX2_mean_3 : decode cX2_mean 3 = .ok (.invokevirtual 84, 3) := by decide +kernel
theorem dX2_mean_6 : decode cX2_mean 6 = .ok (.istore_n 3, 1) := by decide +kernel
theorem dX2_mean_7 : decode cX2_mean 7 = .ok (.iload_n 3, 1) := by decide +kernel
theorem dX2_mean_8 : decode cX2_mean 8 = .ok (.ifCond .ne 7, 3) := by decide +kernel
theorem dX2_mean_11 : decode cX2_mean 11 = .ok (.lconst 0, 1) := by decide +kernel
theorem dX2_mean_12 : decode cX2_mean 12 = .ok (.goto 19, 3) := by decide +kernel
theorem dX2_mean_15 : decode cX2_mean 15 = .ok (.ldc2_w 87, 3) := by decide +kernel
theorem dX2_mean_18 : decode cX2_mean 18 = .ok (.aload_n 0, 1) := by decide +kernel
theorem dX2_mean_19 : decode cX2_mean 19 = .ok (.iload_n 1, 1) := by decide +kernel
theorem dX2_mean_20 : decode cX2_mean 20 = .ok (.iload_n 2, 1) := by decide +kernel
theorem dX2_mean_21 : decode cX2_mean 21 = .ok (.invokevirtual 89, 3) := by decide +kernel
theorem dX2_mean_24 : decode cX2_mean 24 = .ok (.i2l, 1) := by decide +kernel
theorem dX2_mean_25 : decode cX2_mean 25 = .ok (.lmul, 1) := by decide +kernel
theorem dX2_mean_26 : decode cX2_mean 26 = .ok (.iload_n 3, 1) := by decide +kernel
theorem dX2_mean_27 : decode cX2_mean 27 = .ok (.i2l, 1) := by decide +kernel
theorem dX2_mean_28 : decode cX2_mean 28 = .ok (.invokestatic 92, 3) := by decide +kernel
theorem dX2_mean_31 : decode cX2_mean 31 = .ok (.lreturn, 1) := by decide +kernel
set_option maxRecDepth 100000 in
set_option maxHeartbeats 4000000 in
theorem c_X2_mean {h : ai_H} {S : Md} (hcl : cl_at h S) (hz : cl_sz S) (c o : Int32) : ai_Met MX2_mean [.ref 22, .int c, .int o] h (some (.long (cl_mean S c o))) h := by
  refine ai_met (ls := [.ref 22, .int c, .int o, .float 0]) (by decide) (by simp [ai_en, Value.category]) (by rfl) ?_
  refine rs_aload_n (pc := 0) dX2_mean_0 rfl ?_
  refine rs_iload_n (pc := 1) dX2_mean_1 rfl ?_
  refine rs_iload_n (pc := 2) dX2_mean_2 rfl ?_
  refine rs_callV (as := [_, _]) (pc := 3) dX2_mean_3 mk_X2_many mlX2_84 in_X2_many se_X2_many rfl (mo_lt hcl (by decide)) hcl.2.1 rfl rfl (Nat.le_of_ble_eq_true rfl) (c_X2_many hcl hz _ _) ?_
  refine wk_istn3 (pc := 6) dX2_mean_6 (by decide) rfl ?_
  refine rs_iload_n (pc := 7) dX2_mean_7 rfl ?_
  refine rs_if_ne (tgt := 15) (pc := 8) dX2_mean_8 rfl (fun c_8 => ?_) (fun c_8 => ?_)
  · refine rs_ldc2 (pc := 15) dX2_mean_15 cnX2_87 ?_
    refine rs_aload_n (pc := 18) dX2_mean_18 rfl ?_
    refine rs_iload_n (pc := 19) dX2_mean_19 rfl ?_
    refine rs_iload_n (pc := 20) dX2_mean_20 rfl ?_
    refine rs_callV (as := [_, _]) (pc := 21) dX2_mean_21 mk_X2_together mlX2_89 in_X2_together se_X2_together rfl (mo_lt hcl (by decide)) hcl.2.1 rfl rfl (Nat.le_of_ble_eq_true rfl) (c_X2_together hcl hz _ _) ?_
    refine rs_i2l (pc := 24) dX2_mean_24 ?_
    refine rs_lmul (pc := 25) dX2_mean_25 ?_
    refine rs_iload_n (pc := 26) dX2_mean_26 rfl ?_
    refine rs_i2l (pc := 27) dX2_mean_27 ?_
    refine rs_callS (as := [_, _]) (pc := 28) dX2_mean_28 mk_J9_floorDiv_f86c9 mlX2_92 st_J9_floorDiv_f86c9 rfl rfl (Nat.le_of_ble_eq_true rfl) (c_fdL (i64_ne0 c_8)) ?_
    exact wk_lret (pc := 31) dX2_mean_31 rfl (by simp [cl_mean, c_8]) (rfl)
  · refine rs_lconst (v := 0) (pc := 11) dX2_mean_11 rfl ?_
    refine rs_goto (tgt := 31) (pc := 12) dX2_mean_12 rfl ?_
    exact wk_lret (pc := 31) dX2_mean_31 rfl (by simp [cl_mean, c_8]) (rfl)
theorem dX2_lessMean_0 : decode cX2_lessMean 0 = .ok (.lload_n 2, 1) := by decide +kernel
theorem dX2_lessMean_1 : decode cX2_lessMean 1 = .ok (.lload 6, 2) := by decide +kernel
theorem dX2_lessMean_3 : decode cX2_lessMean 3 = .ok (.lmul, 1) := by decide +kernel
theorem dX2_lessMean_4 : decode cX2_lessMean 4 = .ok (.lstore 8, 2) := by decide +kernel
theorem dX2_lessMean_6 : decode cX2_lessMean 6 = .ok (.lload 8, 2) := by decide +kernel
theorem dX2_lessMean_8 : decode cX2_lessMean 8 = .ok (.lconst 0, 1) := by decide +kernel
theorem dX2_lessMean_9 : decode cX2_lessMean 9 = .ok (.lcmp, 1) := by decide +kernel
theorem dX2_lessMean_10 : decode cX2_lessMean 10 = .ok (.ifCond .ne 7, 3) := by decide +kernel
theorem dX2_lessMean_13 : decode cX2_lessMean 13 = .ok (.lconst 0, 1) := by decide +kernel
theorem dX2_lessMean_14 : decode cX2_lessMean 14 = .ok (.goto 21, 3) := by decide +kernel
theorem dX2_lessMean_17 : decode cX2_lessMean 17 = .ok (.ldc2_w 87, 3) := by decide +kernel
theorem dX2_lessMean_20 : decode cX2_lessMean 20 = .ok (.lload_n 0, 1) := by decide +kernel
theorem dX2_lessMean_21 : decode cX2_lessMean 21 = .ok (.lload 6, 2) := by decide +kernel
theorem dX2_lessMean_23 : decode cX2_lessMean 23 = .ok (.lmul, 1) := by decide +kernel
theorem dX2_lessMean_24 : decode cX2_lessMean 24 = .ok (.lload 4, 2) := by decide +kernel
theorem dX2_lessMean_26 : decode cX2_lessMean 26 = .ok (.lload_n 2, 1) := by decide +kernel
theorem dX2_lessMean_27 : decode cX2_lessMean 27 = .ok (.lmul, 1) := by decide +kernel
theorem dX2_lessMean_28 : decode cX2_lessMean 28 = .ok (.lsub, 1) := by decide +kernel
theorem dX2_lessMean_29 : decode cX2_lessMean 29 = .ok (.lmul, 1) := by decide +kernel
theorem dX2_lessMean_30 : decode cX2_lessMean 30 = .ok (.lload 8, 2) := by decide +kernel
theorem dX2_lessMean_32 : decode cX2_lessMean 32 = .ok (.invokestatic 92, 3) := by decide +kernel
theorem dX2_lessMean_35 : decode cX2_lessMean 35 = .ok (.lreturn, 1) := by decide +kernel
set_option maxRecDepth 100000 in
set_option maxHeartbeats 4000000 in
theorem c_X2_lessMean {h : ai_H} {a m b n : Int64} : ai_Met MX2_lessMean [.long a, .long m, .long b, .long n] h (some (.long (cl_less a m b n))) h := by
  refine ai_met (ls := [.long a, .float 0, .long m, .float 0, .long b, .float 0, .long n, .float 0, .float 0, .float 0]) (by decide) (by simp [ai_en, Value.category]) (by rfl) ?_
  refine rs_lload_n (pc := 0) dX2_lessMean_0 rfl ?_
  refine rs_lload (pc := 1) dX2_lessMean_1 rfl ?_
  refine rs_lmul (pc := 3) dX2_lessMean_3 ?_
  refine wk_lst8 (pc := 4) dX2_lessMean_4 (by decide) rfl ?_
  refine rs_lload (pc := 6) dX2_lessMean_6 rfl ?_
  refine rs_lconst (v := 0) (pc := 8) dX2_lessMean_8 rfl ?_
  refine wk_lcmp_ne (tgt := 17) (pc := 9) dX2_lessMean_9 dX2_lessMean_10 rfl (fun c_9 => ?_) (fun c_9 => ?_)
  · refine rs_ldc2 (pc := 17) dX2_lessMean_17 cnX2_87 ?_
    refine rs_lload_n (pc := 20) dX2_lessMean_20 rfl ?_
    refine rs_lload (pc := 21) dX2_lessMean_21 rfl ?_
    refine rs_lmul (pc := 23) dX2_lessMean_23 ?_
    refine rs_lload (pc := 24) dX2_lessMean_24 rfl ?_
    refine rs_lload_n (pc := 26) dX2_lessMean_26 rfl ?_
    refine rs_lmul (pc := 27) dX2_lessMean_27 ?_
    refine rs_lsub (pc := 28) dX2_lessMean_28 ?_
    refine rs_lmul (pc := 29) dX2_lessMean_29 ?_
    refine rs_lload (pc := 30) dX2_lessMean_30 rfl ?_
    refine rs_callS (as := [_, _]) (pc := 32) dX2_lessMean_32 mk_J9_floorDiv_f86c9 mlX2_92 st_J9_floorDiv_f86c9 rfl rfl (Nat.le_of_ble_eq_true rfl) (c_fdL c_9) ?_
    exact wk_lret (pc := 35) dX2_lessMean_35 rfl (by simp [cl_less, c_9]) (rfl)
  · refine rs_lconst (v := 0) (pc := 13) dX2_lessMean_13 rfl ?_
    refine rs_goto (tgt := 35) (pc := 14) dX2_lessMean_14 rfl ?_
    exact wk_lret (pc := 35) dX2_lessMean_35 rfl (by simp [cl_less, c_9]) (rfl)
theorem dX2_difference_0 : decode cX2_difference 0 = .ok (.aload_n 0, 1) := by decide +kernel
theorem dX2_difference_1 : decode cX2_difference 1 = .ok (.iload_n 1, 1) := by decide +kernel
theorem dX2_difference_2 : decode cX2_difference 2 = .ok (.iload_n 2, 1) := by decide +kernel
theorem dX2_difference_3 : decode cX2_difference 3 = .ok (.invokevirtual 89, 3) := by decide +kernel
theorem dX2_difference_6 : decode cX2_difference 6 = .ok (.i2l, 1) := by decide +kernel
theorem dX2_difference_7 : decode cX2_difference 7 = .ok (.aload_n 0, 1) := by decide +kernel
theorem dX2_difference_8 : decode cX2_difference 8 = .ok (.iload_n 1, 1) := by decide +kernel
theorem dX2_difference_9 : decode cX2_difference 9 = .ok (.iload_n 2, 1) := by decide +kernel
theorem dX2_difference_10 : decode cX2_difference 10 = .ok (.invokevirtual 84, 3) := by decide +kernel
theorem dX2_difference_13 : decode cX2_difference 13 = .ok (.i2l, 1) := by decide +kernel
theorem dX2_difference_14 : decode cX2_difference 14 = .ok (.aload_n 0, 1) := by decide +kernel
theorem dX2_difference_15 : decode cX2_difference 15 = .ok (.iload_n 1, 1) := by decide +kernel
theorem dX2_difference_16 : decode cX2_difference 16 = .ok (.iload_n 3, 1) := by decide +kernel
theorem dX2_difference_17 : decode cX2_difference 17 = .ok (.invokevirtual 89, 3) := by decide +kernel
theorem dX2_difference_20 : decode cX2_difference 20 = .ok (.i2l, 1) := by decide +kernel
theorem dX2_difference_21 : decode cX2_difference 21 = .ok (.aload_n 0, 1) := by decide +kernel
theorem dX2_difference_22 : decode cX2_difference 22 = .ok (.iload_n 1, 1) := by decide +kernel
theorem dX2_difference_23 : decode cX2_difference 23 = .ok (.iload_n 3, 1) := by decide +kernel
theorem dX2_difference_24 : decode cX2_difference 24 = .ok (.invokevirtual 84, 3) := by decide +kernel
theorem dX2_difference_27 : decode cX2_difference 27 = .ok (.i2l, 1) := by decide +kernel
theorem dX2_difference_28 : decode cX2_difference 28 = .ok (.invokestatic 98, 3) := by decide +kernel
theorem dX2_difference_31 : decode cX2_difference 31 = .ok (.lreturn, 1) := by decide +kernel
set_option maxRecDepth 100000 in
set_option maxHeartbeats 4000000 in
theorem c_X2_difference {h : ai_H} {S : Md} (hcl : cl_at h S) (hz : cl_sz S) (c a b : Int32) : ai_Met MX2_difference [.ref 22, .int c, .int a, .int b] h (some (.long (cl_diff S c a b))) h := by
  refine ai_met (ls := [.ref 22, .int c, .int a, .int b]) (by decide) (by simp [ai_en, Value.category]) (by rfl) ?_
  refine rs_aload_n (pc := 0) dX2_difference_0 rfl ?_
  refine rs_iload_n (pc := 1) dX2_difference_1 rfl ?_
  refine rs_iload_n (pc := 2) dX2_difference_2 rfl ?_
  refine rs_callV (as := [_, _]) (pc := 3) dX2_difference_3 mk_X2_together mlX2_89 in_X2_together se_X2_together rfl (mo_lt hcl (by decide)) hcl.2.1 rfl rfl (Nat.le_of_ble_eq_true rfl) (c_X2_together hcl hz _ _) ?_
  refine rs_i2l (pc := 6) dX2_difference_6 ?_
  refine rs_aload_n (pc := 7) dX2_difference_7 rfl ?_
  refine rs_iload_n (pc := 8) dX2_difference_8 rfl ?_
  refine rs_iload_n (pc := 9) dX2_difference_9 rfl ?_
  refine rs_callV (as := [_, _]) (pc := 10) dX2_difference_10 mk_X2_many mlX2_84 in_X2_many se_X2_many rfl (mo_lt hcl (by decide)) hcl.2.1 rfl rfl (Nat.le_of_ble_eq_true rfl) (c_X2_many hcl hz _ _) ?_
  refine rs_i2l (pc := 13) dX2_difference_13 ?_
  refine rs_aload_n (pc := 14) dX2_difference_14 rfl ?_
  refine rs_iload_n (pc := 15) dX2_difference_15 rfl ?_
  refine rs_iload_n (pc := 16) dX2_difference_16 rfl ?_
  refine rs_callV (as := [_, _]) (pc := 17) dX2_difference_17 mk_X2_together mlX2_89 in_X2_together se_X2_together rfl (mo_lt hcl (by decide)) hcl.2.1 rfl rfl (Nat.le_of_ble_eq_true rfl) (c_X2_together hcl hz _ _) ?_
  refine rs_i2l (pc := 20) dX2_difference_20 ?_
  refine rs_aload_n (pc := 21) dX2_difference_21 rfl ?_
  refine rs_iload_n (pc := 22) dX2_difference_22 rfl ?_
  refine rs_iload_n (pc := 23) dX2_difference_23 rfl ?_
  refine rs_callV (as := [_, _]) (pc := 24) dX2_difference_24 mk_X2_many mlX2_84 in_X2_many se_X2_many rfl (mo_lt hcl (by decide)) hcl.2.1 rfl rfl (Nat.le_of_ble_eq_true rfl) (c_X2_many hcl hz _ _) ?_
  refine rs_i2l (pc := 27) dX2_difference_27 ?_
  refine rs_callS (as := [_, _, _, _]) (pc := 28) dX2_difference_28 mk_X2_lessMean mlX2_98 st_X2_lessMean rfl rfl (Nat.le_of_ble_eq_true rfl) (c_X2_lessMean) ?_
  exact wk_lret (pc := 31) dX2_difference_31 rfl (rfl) (rfl)
theorem dX2_isMeeting_0 : decode cX2_isMeeting 0 = .ok (.iload_n 1, 1) := by decide +kernel
theorem dX2_isMeeting_1 : decode cX2_isMeeting 1 = .ok (.iconst 0, 1) := by decide +kernel
theorem dX2_isMeeting_2 : decode cX2_isMeeting 2 = .ok (.aload_n 0, 1) := by decide +kernel
theorem dX2_isMeeting_3 : decode cX2_isMeeting 3 = .ok (.getfield 9, 3) := by decide +kernel
theorem dX2_isMeeting_6 : decode cX2_isMeeting 6 = .ok (.iconst 1, 1) := by decide +kernel
theorem dX2_isMeeting_7 : decode cX2_isMeeting 7 = .ok (.isub, 1) := by decide +kernel
theorem dX2_isMeeting_8 : decode cX2_isMeeting 8 = .ok (.invokestatic 80, 3) := by decide +kernel
theorem dX2_isMeeting_11 : decode cX2_isMeeting 11 = .ok (.ifCond .eq 35, 3) := by decide +kernel
theorem dX2_isMeeting_14 : decode cX2_isMeeting 14 = .ok (.aload_n 0, 1) := by decide +kernel
theorem dX2_isMeeting_15 : decode cX2_isMeeting 15 = .ok (.getfield 28, 3) := by decide +kernel
theorem dX2_isMeeting_18 : decode cX2_isMeeting 18 = .ok (.iload_n 1, 1) := by decide +kernel
theorem dX2_isMeeting_19 : decode cX2_isMeeting 19 = .ok (.iaload, 1) := by decide +kernel
theorem dX2_isMeeting_20 : decode cX2_isMeeting 20 = .ok (.iconst 3, 1) := by decide +kernel
theorem dX2_isMeeting_21 : decode cX2_isMeeting 21 = .ok (.if_icmp .eq 25, 3) := by decide +kernel
theorem dX2_isMeeting_24 : decode cX2_isMeeting 24 = .ok (.aload_n 0, 1) := by decide +kernel
theorem dX2_isMeeting_25 : decode cX2_isMeeting 25 = .ok (.iload_n 1, 1) := by decide +kernel
theorem dX2_isMeeting_26 : decode cX2_isMeeting 26 = .ok (.iload_n 2, 1) := by decide +kernel
theorem dX2_isMeeting_27 : decode cX2_isMeeting 27 = .ok (.invokevirtual 84, 3) := by decide +kernel
theorem dX2_isMeeting_30 : decode cX2_isMeeting 30 = .ok (.ifCond .le 16, 3) := by decide +kernel
theorem dX2_isMeeting_33 : decode cX2_isMeeting 33 = .ok (.aload_n 0, 1) := by decide +kernel
theorem dX2_isMeeting_34 : decode cX2_isMeeting 34 = .ok (.iload_n 1, 1) := by decide +kernel
theorem dX2_isMeeting_35 : decode cX2_isMeeting 35 = .ok (.iload_n 3, 1) := by decide +kernel
theorem dX2_isMeeting_36 : decode cX2_isMeeting 36 = .ok (.invokevirtual 84, 3) := by decide +kernel
theorem dX2_isMeeting_39 : decode cX2_isMeeting 39 = .ok (.ifCond .le 7, 3) := by decide +kernel
theorem dX2_isMeeting_42 : decode cX2_isMeeting 42 = .ok (.iconst 1, 1) := by decide +kernel
theorem dX2_isMeeting_43 : decode cX2_isMeeting 43 = .ok (.goto 4, 3) := by decide +kernel
theorem dX2_isMeeting_46 : decode cX2_isMeeting 46 = .ok (.iconst 0, 1) := by decide +kernel
theorem dX2_isMeeting_47 : decode cX2_isMeeting 47 = .ok (.ireturn, 1) := by decide +kernel
set_option maxRecDepth 100000 in
set_option maxHeartbeats 4000000 in
theorem c_X2_isMeeting {h : ai_H} {S : Md} (hcl : cl_at h S) (hz : cl_sz S) (c a b : Int32) : ai_Met MX2_isMeeting [.ref 22, .int c, .int a, .int b] h (some (.int (cl_meet S c a b))) h := by
  refine ai_met (ls := [.ref 22, .int c, .int a, .int b]) (by decide) (by simp [ai_en, Value.category]) (by rfl) ?_
  refine rs_iload_n (pc := 0) dX2_isMeeting_0 rfl ?_
  refine rs_iconst (v := 0) (pc := 1) dX2_isMeeting_1 rfl ?_
  refine rs_aload_n (pc := 2) dX2_isMeeting_2 rfl ?_
  refine rs_getf (pc := 3) dX2_isMeeting_3 fX2_9 (mo_lt hcl (by decide)) hcl.2.1 rfl ?_
  refine rs_iconst (v := 1) (pc := 6) dX2_isMeeting_6 rfl ?_
  refine rs_isub (pc := 7) dX2_isMeeting_7 ?_
  refine rs_callS (as := [_, _, _]) (pc := 8) dX2_isMeeting_8 mk_X11_isWithin mlX2_80 st_X11_isWithin rfl rfl (Nat.le_of_ble_eq_true rfl) (c_X11_isWithin) ?_
  refine rs_if_eq (tgt := 46) (pc := 11) dX2_isMeeting_11 rfl (fun c_11 => ?_) (fun c_11 => ?_)
  · refine rs_iconst (v := 0) (pc := 46) dX2_isMeeting_46 rfl ?_
    exact wk_zret (pc := 47) dX2_isMeeting_47 rfl (Or.inl rfl) (by simp [cl_meet, c_11]) (rfl)
  · refine rs_aload_n (pc := 14) dX2_isMeeting_14 rfl ?_
    refine rs_getf (pc := 15) dX2_isMeeting_15 fX2_28 (mo_lt hcl (by decide)) hcl.2.1 rfl ?_
    refine rs_iload_n (pc := 18) dX2_isMeeting_18 rfl ?_
    refine rs_iald (pc := 19) dX2_isMeeting_19 (mo_lt hcl (by decide)) (mo_geti (d := 4) (k := 5) (kd := 0) (l := 400) rfl (by decide) hcl) (in_of_size c_11 hz) ?_
    refine rs_iconst (v := 3) (pc := 20) dX2_isMeeting_20 rfl ?_
    refine rs_icmp_eq (tgt := 46) (pc := 21) dX2_isMeeting_21 rfl (fun c_21 => ?_) (fun c_21 => ?_)
    · refine rs_iconst (v := 0) (pc := 46) dX2_isMeeting_46 rfl ?_
      exact wk_zret (pc := 47) dX2_isMeeting_47 rfl (Or.inl rfl) (by simp [cl_meet, c_11, c_21]) (rfl)
    · refine rs_aload_n (pc := 24) dX2_isMeeting_24 rfl ?_
      refine rs_iload_n (pc := 25) dX2_isMeeting_25 rfl ?_
      refine rs_iload_n (pc := 26) dX2_isMeeting_26 rfl ?_
      refine rs_callV (as := [_, _]) (pc := 27) dX2_isMeeting_27 mk_X2_many mlX2_84 in_X2_many se_X2_many rfl (mo_lt hcl (by decide)) hcl.2.1 rfl rfl (Nat.le_of_ble_eq_true rfl) (c_X2_many hcl hz _ _) ?_
      refine rs_if_le (tgt := 46) (pc := 30) dX2_isMeeting_30 rfl (fun c_30 => ?_) (fun c_30 => ?_)
      · refine rs_iconst (v := 0) (pc := 46) dX2_isMeeting_46 rfl ?_
        exact wk_zret (pc := 47) dX2_isMeeting_47 rfl (Or.inl rfl) (by simp [cl_meet, c_11, c_21, c_30]) (rfl)
      · refine rs_aload_n (pc := 33) dX2_isMeeting_33 rfl ?_
        refine rs_iload_n (pc := 34) dX2_isMeeting_34 rfl ?_
        refine rs_iload_n (pc := 35) dX2_isMeeting_35 rfl ?_
        refine rs_callV (as := [_, _]) (pc := 36) dX2_isMeeting_36 mk_X2_many mlX2_84 in_X2_many se_X2_many rfl (mo_lt hcl (by decide)) hcl.2.1 rfl rfl (Nat.le_of_ble_eq_true rfl) (c_X2_many hcl hz _ _) ?_
        refine rs_if_le (tgt := 46) (pc := 39) dX2_isMeeting_39 rfl (fun c_39 => ?_) (fun c_39 => ?_)
        · refine rs_iconst (v := 0) (pc := 46) dX2_isMeeting_46 rfl ?_
          exact wk_zret (pc := 47) dX2_isMeeting_47 rfl (Or.inl rfl) (by simp [cl_meet, c_11, c_21, c_30, c_39]) (rfl)
        · refine rs_iconst (v := 1) (pc := 42) dX2_isMeeting_42 rfl ?_
          refine rs_goto (tgt := 47) (pc := 43) dX2_isMeeting_43 rfl ?_
          exact wk_zret (pc := 47) dX2_isMeeting_47 rfl (Or.inr rfl) (by simp [cl_meet, c_11, c_21, c_30, c_39]) (rfl)
def cl_cnt (S : Md) (a b u : Int32) : Nat → Int32
  | 0 => 0
  | n + 1 => if cl_meet S (nI n) a b = 0 then cl_cnt S a b u n else cl_cnt S a b u n + (if 0 < cl_diff S (nI n) a b then 1 else if 0 ≤ cl_diff S (nI n) a b then 0 else if u = 0 then 1 else 0)

/-- a loop's head with the same place told otherwise -/
theorem lpv {M : ai_M} {pc : Nat} {a b c d e f g k : Value} {st : List Value} {h h' : ai_H} {r : Option Value} {e' : Value} (x : ai_R M pc [a, b, c, d, e', f, g, k] st h r h') (he : e = e') : ai_R M pc [a, b, c, d, e, f, g, k] st h r h' := by
  rw [he]; exact x
theorem dX2_differences_0 : decode cX2_differences 0 = .ok (.iconst 0, 1) := by decide +kernel
theorem dX2_differences_1 : decode cX2_differences 1 = .ok (.istore 4, 2) := by decide +kernel
theorem dX2_differences_3 : decode cX2_differences 3 = .ok (.iconst 0, 1) := by decide +kernel
theorem dX2_differences_4 : decode cX2_differences 4 = .ok (.istore 5, 2) := by decide +kernel
theorem dX2_differences_6 : decode cX2_differences 6 = .ok (.iload 5, 2) := by decide +kernel
theorem dX2_differences_8 : decode cX2_differences 8 = .ok (.aload_n 0, 1) := by decide +kernel
theorem dX2_differences_9 : decode cX2_differences 9 = .ok (.getfield 9, 3) := by decide +kernel
theorem dX2_differences_12 : decode cX2_differences 12 = .ok (.if_icmp .ge 58, 3) := by decide +kernel
theorem dX2_differences_15 : decode cX2_differences 15 = .ok (.aload_n 0, 1) := by decide +kernel
theorem dX2_differences_16 : decode cX2_differences 16 = .ok (.iload 5, 2) := by decide +kernel
theorem dX2_differences_18 : decode cX2_differences 18 = .ok (.iload_n 1, 1) := by decide +kernel
theorem dX2_differences_19 : decode cX2_differences 19 = .ok (.iload_n 2, 1) := by decide +kernel
theorem dX2_differences_20 : decode cX2_differences 20 = .ok (.invokevirtual 102, 3) := by decide +kernel
theorem dX2_differences_23 : decode cX2_differences 23 = .ok (.ifCond .eq 41, 3) := by decide +kernel
theorem dX2_differences_26 : decode cX2_differences 26 = .ok (.aload_n 0, 1) := by decide +kernel
theorem dX2_differences_27 : decode cX2_differences 27 = .ok (.iload 5, 2) := by decide +kernel
theorem dX2_differences_29 : decode cX2_differences 29 = .ok (.iload_n 1, 1) := by decide +kernel
theorem dX2_differences_30 : decode cX2_differences 30 = .ok (.iload_n 2, 1) := by decide +kernel
theorem dX2_differences_31 : decode cX2_differences 31 = .ok (.invokevirtual 105, 3) := by decide +kernel
theorem dX2_differences_34 : decode cX2_differences 34 = .ok (.lstore 6, 2) := by decide +kernel
theorem dX2_differences_36 : decode cX2_differences 36 = .ok (.iload 4, 2) := by decide +kernel
theorem dX2_differences_38 : decode cX2_differences 38 = .ok (.lload 6, 2) := by decide +kernel
theorem dX2_differences_40 : decode cX2_differences 40 = .ok (.lconst 0, 1) := by decide +kernel
theorem dX2_differences_41 : decode cX2_differences 41 = .ok (.lcmp, 1) := by decide +kernel
theorem dX2_differences_42 : decode cX2_differences 42 = .ok (.ifCond .gt 14, 3) := by decide +kernel
theorem dX2_differences_45 : decode cX2_differences 45 = .ok (.lload 6, 2) := by decide +kernel
theorem dX2_differences_47 : decode cX2_differences 47 = .ok (.lconst 0, 1) := by decide +kernel
theorem dX2_differences_48 : decode cX2_differences 48 = .ok (.lcmp, 1) := by decide +kernel
theorem dX2_differences_49 : decode cX2_differences 49 = .ok (.ifCond .ge 11, 3) := by decide +kernel
theorem dX2_differences_52 : decode cX2_differences 52 = .ok (.iload_n 3, 1) := by decide +kernel
theorem dX2_differences_53 : decode cX2_differences 53 = .ok (.ifCond .ne 7, 3) := by decide +kernel
theorem dX2_differences_56 : decode cX2_differences 56 = .ok (.iconst 1, 1) := by decide +kernel
theorem dX2_differences_57 : decode cX2_differences 57 = .ok (.goto 4, 3) := by decide +kernel
theorem dX2_differences_60 : decode cX2_differences 60 = .ok (.iconst 0, 1) := by decide +kernel
theorem dX2_differences_61 : decode cX2_differences 61 = .ok (.iadd, 1) := by decide +kernel
theorem dX2_differences_62 : decode cX2_differences 62 = .ok (.istore 4, 2) := by decide +kernel
theorem dX2_differences_64 : decode cX2_differences 64 = .ok (.iinc 5 1, 3) := by decide +kernel
theorem dX2_differences_67 : decode cX2_differences 67 = .ok (.goto (-61), 3) := by decide +kernel
theorem dX2_differences_70 : decode cX2_differences 70 = .ok (.iload 4, 2) := by decide +kernel
theorem dX2_differences_72 : decode cX2_differences 72 = .ok (.ireturn, 1) := by decide +kernel
set_option maxRecDepth 100000 in
set_option maxHeartbeats 4000000 in
theorem l_X2_differences {h : ai_H} {S : Md} (hcl : cl_at h S) (hz : cl_sz S) (a b u : Int32) {sz : Nat} (hsz : sz ≤ 400) (esz : S.1 0 = nI sz) : ∀ (m i : Nat) (v w : Value), i ≤ sz → sz + 1 ≤ i + m → ai_R MX2_differences 6 [.ref 22, .int a, .int b, .int u, .int (cl_cnt S a b u i), .int (nI i), v, w] [] h (some (.int (cl_cnt S a b u sz))) h := by
  intro m
  induction m with
  | zero => intro i v w h1 h2; exact absurd h2 (by omega)
  | succ m ih =>
    intro i v w hi him
    refine rs_iload (pc := 6) dX2_differences_6 rfl ?_
    refine rs_aload_n (pc := 8) dX2_differences_8 rfl ?_
    refine rs_getf (pc := 9) dX2_differences_9 fX2_9 (mo_lt hcl (by decide)) hcl.2.1 rfl ?_
    refine rs_icmp_ge (tgt := 70) (pc := 12) dX2_differences_12 rfl (fun c_12 => ?_) (fun c_12 => ?_)
    · have hie : i = sz := lp_exit esz (by omega) hi c_12
      subst hie
      refine rs_iload (pc := 70) dX2_differences_70 rfl ?_
      exact wk_iret (pc := 72) dX2_differences_72 rfl (rfl) (rfl)
    · have hlt : i < sz := lp_go esz (by omega) c_12
      refine rs_aload_n (pc := 15) dX2_differences_15 rfl ?_
      refine rs_iload (pc := 16) dX2_differences_16 rfl ?_
      refine rs_iload_n (pc := 18) dX2_differences_18 rfl ?_
      refine rs_iload_n (pc := 19) dX2_differences_19 rfl ?_
      refine rs_callV (as := [_, _, _]) (pc := 20) dX2_differences_20 mk_X2_isMeeting mlX2_102 in_X2_isMeeting se_X2_isMeeting rfl (mo_lt hcl (by decide)) hcl.2.1 rfl rfl (Nat.le_of_ble_eq_true rfl) (c_X2_isMeeting hcl hz _ _ _) ?_
      refine rs_if_eq (tgt := 64) (pc := 23) dX2_differences_23 rfl (fun c_23 => ?_) (fun c_23 => ?_)
      · refine wk_iinc5 (v := nI (i + 1)) (pc := 64) dX2_differences_64 (by decide) rfl (nI_1 i) ?_
        refine rs_goto (tgt := 6) (pc := 67) dX2_differences_67 rfl ?_
        refine lpv (ih (i + 1) _ _ (by omega) (by omega)) ?_
        simp [cl_cnt, c_12, c_23]
      · refine rs_aload_n (pc := 26) dX2_differences_26 rfl ?_
        refine rs_iload (pc := 27) dX2_differences_27 rfl ?_
        refine rs_iload_n (pc := 29) dX2_differences_29 rfl ?_
        refine rs_iload_n (pc := 30) dX2_differences_30 rfl ?_
        refine rs_callV (as := [_, _, _]) (pc := 31) dX2_differences_31 mk_X2_difference mlX2_105 in_X2_difference se_X2_difference rfl (mo_lt hcl (by decide)) hcl.2.1 rfl rfl (Nat.le_of_ble_eq_true rfl) (c_X2_difference hcl hz _ _ _) ?_
        refine wk_lst6 (pc := 34) dX2_differences_34 (by decide) rfl ?_
        refine rs_iload (pc := 36) dX2_differences_36 rfl ?_
        refine rs_lload (pc := 38) dX2_differences_38 rfl ?_
        refine rs_lconst (v := 0) (pc := 40) dX2_differences_40 rfl ?_
        refine wk_lcmp_gt (tgt := 56) (pc := 41) dX2_differences_41 dX2_differences_42 rfl (fun c_41 => ?_) (fun c_41 => ?_)
        · refine rs_iconst (v := 1) (pc := 56) dX2_differences_56 rfl ?_
          refine rs_goto (tgt := 61) (pc := 57) dX2_differences_57 rfl ?_
          refine rs_iadd (pc := 61) dX2_differences_61 ?_
          refine wk_ist4 (pc := 62) dX2_differences_62 (by decide) rfl ?_
          refine wk_iinc5 (v := nI (i + 1)) (pc := 64) dX2_differences_64 (by decide) rfl (nI_1 i) ?_
          refine rs_goto (tgt := 6) (pc := 67) dX2_differences_67 rfl ?_
          refine lpv (ih (i + 1) _ _ (by omega) (by omega)) ?_
          simp [cl_cnt, c_12, c_23, c_41]
        · refine rs_lload (pc := 45) dX2_differences_45 rfl ?_
          refine rs_lconst (v := 0) (pc := 47) dX2_differences_47 rfl ?_
          refine wk_lcmp_ge (tgt := 60) (pc := 48) dX2_differences_48 dX2_differences_49 rfl (fun c_48 => ?_) (fun c_48 => ?_)
          · refine rs_iconst (v := 0) (pc := 60) dX2_differences_60 rfl ?_
            refine rs_iadd (pc := 61) dX2_differences_61 ?_
            refine wk_ist4 (pc := 62) dX2_differences_62 (by decide) rfl ?_
            refine wk_iinc5 (v := nI (i + 1)) (pc := 64) dX2_differences_64 (by decide) rfl (nI_1 i) ?_
            refine rs_goto (tgt := 6) (pc := 67) dX2_differences_67 rfl ?_
            refine lpv (ih (i + 1) _ _ (by omega) (by omega)) ?_
            simp [cl_cnt, c_12, c_23, c_41, c_48]
          · refine rs_iload_n (pc := 52) dX2_differences_52 rfl ?_
            refine rs_if_ne (tgt := 60) (pc := 53) dX2_differences_53 rfl (fun c_53 => ?_) (fun c_53 => ?_)
            · refine rs_iconst (v := 0) (pc := 60) dX2_differences_60 rfl ?_
              refine rs_iadd (pc := 61) dX2_differences_61 ?_
              refine wk_ist4 (pc := 62) dX2_differences_62 (by decide) rfl ?_
              refine wk_iinc5 (v := nI (i + 1)) (pc := 64) dX2_differences_64 (by decide) rfl (nI_1 i) ?_
              refine rs_goto (tgt := 6) (pc := 67) dX2_differences_67 rfl ?_
              refine lpv (ih (i + 1) _ _ (by omega) (by omega)) ?_
              simp [cl_cnt, c_12, c_23, c_41, c_48, c_53]
            · refine rs_iconst (v := 1) (pc := 56) dX2_differences_56 rfl ?_
              refine rs_goto (tgt := 61) (pc := 57) dX2_differences_57 rfl ?_
              refine rs_iadd (pc := 61) dX2_differences_61 ?_
              refine wk_ist4 (pc := 62) dX2_differences_62 (by decide) rfl ?_
              refine wk_iinc5 (v := nI (i + 1)) (pc := 64) dX2_differences_64 (by decide) rfl (nI_1 i) ?_
              refine rs_goto (tgt := 6) (pc := 67) dX2_differences_67 rfl ?_
              refine lpv (ih (i + 1) _ _ (by omega) (by omega)) ?_
              simp [cl_cnt, c_12, c_23, c_41, c_48, c_53]
set_option maxRecDepth 100000 in
set_option maxHeartbeats 4000000 in
theorem c_X2_differences {h : ai_H} {S : Md} (hcl : cl_at h S) (hz : cl_sz S) (a b u : Int32) {sz : Nat} (hsz : sz ≤ 400) (esz : S.1 0 = nI sz) : ai_Met MX2_differences [.ref 22, .int a, .int b, .int u] h (some (.int (cl_cnt S a b u sz))) h := by
  refine ai_met (ls := [.ref 22, .int a, .int b, .int u, .float 0, .float 0, .float 0, .float 0]) (by decide) (by simp [ai_en, Value.category]) (by rfl) ?_
  refine rs_iconst (v := 0) (pc := 0) dX2_differences_0 rfl ?_
  refine wk_ist4 (pc := 1) dX2_differences_1 (by decide) rfl ?_
  refine rs_iconst (v := 0) (pc := 3) dX2_differences_3 rfl ?_
  refine wk_ist5 (pc := 4) dX2_differences_4 (by decide) rfl ?_
  exact l_X2_differences hcl hz a b u hsz esz (sz + 1) 0 _ _ (by omega) (by omega)
def bi_ush (x s : Int32) : Int32 := (x.toUInt32 >>> (s.toUInt32 &&& Int32.toUInt32 31)).toInt32
def bi_bc (x : Int32) : Int32 :=
  (fun a : Int32 => (fun b : Int32 => (fun c : Int32 => (fun d : Int32 => (fun e : Int32 => e &&& 63) (d + bi_ush d 16)) (c + bi_ush c 8)) ((b + bi_ush b 4) &&& 252645135)) ((a &&& 858993459) + (bi_ush a 2 &&& 858993459))) (x - (bi_ush x 1 &&& 1431655765))
theorem dJ6_bitCount_0f7a4_0 : decode cJ6_bitCount_0f7a4 0 = .ok (.iload_n 0, 1) := by decide +kernel
theorem dJ6_bitCount_0f7a4_1 : decode cJ6_bitCount_0f7a4 1 = .ok (.iload_n 0, 1) := by decide +kernel
theorem dJ6_bitCount_0f7a4_2 : decode cJ6_bitCount_0f7a4 2 = .ok (.iconst 1, 1) := by decide +kernel
theorem dJ6_bitCount_0f7a4_3 : decode cJ6_bitCount_0f7a4 3 = .ok (.iushr, 1) := by decide +kernel
theorem dJ6_bitCount_0f7a4_4 : decode cJ6_bitCount_0f7a4 4 = .ok (.ldc_w 265, 3) := by decide +kernel
theorem dJ6_bitCount_0f7a4_7 : decode cJ6_bitCount_0f7a4 7 = .ok (.iand, 1) := by decide +kernel
theorem dJ6_bitCount_0f7a4_8 : decode cJ6_bitCount_0f7a4 8 = .ok (.isub, 1) := by decide +kernel
theorem dJ6_bitCount_0f7a4_9 : decode cJ6_bitCount_0f7a4 9 = .ok (.istore_n 0, 1) := by decide +kernel
theorem dJ6_bitCount_0f7a4_10 : decode cJ6_bitCount_0f7a4 10 = .ok (.iload_n 0, 1) := by decide +kernel
theorem dJ6_bitCount_0f7a4_11 : decode cJ6_bitCount_0f7a4 11 = .ok (.ldc_w 266, 3) := by decide +kernel
theorem dJ6_bitCount_0f7a4_14 : decode cJ6_bitCount_0f7a4 14 = .ok (.iand, 1) := by decide +kernel
theorem dJ6_bitCount_0f7a4_15 : decode cJ6_bitCount_0f7a4 15 = .ok (.iload_n 0, 1) := by decide +kernel
theorem dJ6_bitCount_0f7a4_16 : decode cJ6_bitCount_0f7a4 16 = .ok (.iconst 2, 1) := by decide +kernel
theorem dJ6_bitCount_0f7a4_17 : decode cJ6_bitCount_0f7a4 17 = .ok (.iushr, 1) := by decide +kernel
theorem dJ6_bitCount_0f7a4_18 : decode cJ6_bitCount_0f7a4 18 = .ok (.ldc_w 266, 3) := by decide +kernel
theorem dJ6_bitCount_0f7a4_21 : decode cJ6_bitCount_0f7a4 21 = .ok (.iand, 1) := by decide +kernel
theorem dJ6_bitCount_0f7a4_22 : decode cJ6_bitCount_0f7a4 22 = .ok (.iadd, 1) := by decide +kernel
theorem dJ6_bitCount_0f7a4_23 : decode cJ6_bitCount_0f7a4 23 = .ok (.istore_n 0, 1) := by decide +kernel
theorem dJ6_bitCount_0f7a4_24 : decode cJ6_bitCount_0f7a4 24 = .ok (.iload_n 0, 1) := by decide +kernel
theorem dJ6_bitCount_0f7a4_25 : decode cJ6_bitCount_0f7a4 25 = .ok (.iload_n 0, 1) := by decide +kernel
theorem dJ6_bitCount_0f7a4_26 : decode cJ6_bitCount_0f7a4 26 = .ok (.iconst 4, 1) := by decide +kernel
theorem dJ6_bitCount_0f7a4_27 : decode cJ6_bitCount_0f7a4 27 = .ok (.iushr, 1) := by decide +kernel
theorem dJ6_bitCount_0f7a4_28 : decode cJ6_bitCount_0f7a4 28 = .ok (.iadd, 1) := by decide +kernel
theorem dJ6_bitCount_0f7a4_29 : decode cJ6_bitCount_0f7a4 29 = .ok (.ldc_w 267, 3) := by decide +kernel
theorem dJ6_bitCount_0f7a4_32 : decode cJ6_bitCount_0f7a4 32 = .ok (.iand, 1) := by decide +kernel
theorem dJ6_bitCount_0f7a4_33 : decode cJ6_bitCount_0f7a4 33 = .ok (.istore_n 0, 1) := by decide +kernel
theorem dJ6_bitCount_0f7a4_34 : decode cJ6_bitCount_0f7a4 34 = .ok (.iload_n 0, 1) := by decide +kernel
theorem dJ6_bitCount_0f7a4_35 : decode cJ6_bitCount_0f7a4 35 = .ok (.iload_n 0, 1) := by decide +kernel
theorem dJ6_bitCount_0f7a4_36 : decode cJ6_bitCount_0f7a4 36 = .ok (.bipush 8, 2) := by decide +kernel
theorem dJ6_bitCount_0f7a4_38 : decode cJ6_bitCount_0f7a4 38 = .ok (.iushr, 1) := by decide +kernel
theorem dJ6_bitCount_0f7a4_39 : decode cJ6_bitCount_0f7a4 39 = .ok (.iadd, 1) := by decide +kernel
theorem dJ6_bitCount_0f7a4_40 : decode cJ6_bitCount_0f7a4 40 = .ok (.istore_n 0, 1) := by decide +kernel
theorem dJ6_bitCount_0f7a4_41 : decode cJ6_bitCount_0f7a4 41 = .ok (.iload_n 0, 1) := by decide +kernel
theorem dJ6_bitCount_0f7a4_42 : decode cJ6_bitCount_0f7a4 42 = .ok (.iload_n 0, 1) := by decide +kernel
theorem dJ6_bitCount_0f7a4_43 : decode cJ6_bitCount_0f7a4 43 = .ok (.bipush 16, 2) := by decide +kernel
theorem dJ6_bitCount_0f7a4_45 : decode cJ6_bitCount_0f7a4 45 = .ok (.iushr, 1) := by decide +kernel
theorem dJ6_bitCount_0f7a4_46 : decode cJ6_bitCount_0f7a4 46 = .ok (.iadd, 1) := by decide +kernel
theorem dJ6_bitCount_0f7a4_47 : decode cJ6_bitCount_0f7a4 47 = .ok (.istore_n 0, 1) := by decide +kernel
theorem dJ6_bitCount_0f7a4_48 : decode cJ6_bitCount_0f7a4 48 = .ok (.iload_n 0, 1) := by decide +kernel
theorem dJ6_bitCount_0f7a4_49 : decode cJ6_bitCount_0f7a4 49 = .ok (.bipush 63, 2) := by decide +kernel
theorem dJ6_bitCount_0f7a4_51 : decode cJ6_bitCount_0f7a4 51 = .ok (.iand, 1) := by decide +kernel
theorem dJ6_bitCount_0f7a4_52 : decode cJ6_bitCount_0f7a4 52 = .ok (.ireturn, 1) := by decide +kernel
set_option maxRecDepth 100000 in
set_option maxHeartbeats 4000000 in
theorem c_bitCount {h : ai_H} (x : Int32) : ai_Met MJ6_bitCount_0f7a4 [.int x] h (some (.int (bi_bc x))) h := by
  refine ai_met (ls := [.int x]) (by decide) (by simp [ai_en, Value.category]) (by rfl) ?_
  refine rs_iload_n (pc := 0) dJ6_bitCount_0f7a4_0 rfl ?_
  refine rs_iload_n (pc := 1) dJ6_bitCount_0f7a4_1 rfl ?_
  refine rs_iconst (v := 1) (pc := 2) dJ6_bitCount_0f7a4_2 rfl ?_
  refine rs_iushr (pc := 3) dJ6_bitCount_0f7a4_3 ?_
  refine rs_ldcw (pc := 4) dJ6_bitCount_0f7a4_4 cnJ6_265 ?_
  refine rs_iand (pc := 7) dJ6_bitCount_0f7a4_7 ?_
  refine rs_isub (pc := 8) dJ6_bitCount_0f7a4_8 ?_
  refine wk_istn0 (pc := 9) dJ6_bitCount_0f7a4_9 (by decide) ?_
  refine rs_iload_n (pc := 10) dJ6_bitCount_0f7a4_10 rfl ?_
  refine rs_ldcw (pc := 11) dJ6_bitCount_0f7a4_11 cnJ6_266 ?_
  refine rs_iand (pc := 14) dJ6_bitCount_0f7a4_14 ?_
  refine rs_iload_n (pc := 15) dJ6_bitCount_0f7a4_15 rfl ?_
  refine rs_iconst (v := 2) (pc := 16) dJ6_bitCount_0f7a4_16 rfl ?_
  refine rs_iushr (pc := 17) dJ6_bitCount_0f7a4_17 ?_
  refine rs_ldcw (pc := 18) dJ6_bitCount_0f7a4_18 cnJ6_266 ?_
  refine rs_iand (pc := 21) dJ6_bitCount_0f7a4_21 ?_
  refine rs_iadd (pc := 22) dJ6_bitCount_0f7a4_22 ?_
  refine wk_istn0 (pc := 23) dJ6_bitCount_0f7a4_23 (by decide) ?_
  refine rs_iload_n (pc := 24) dJ6_bitCount_0f7a4_24 rfl ?_
  refine rs_iload_n (pc := 25) dJ6_bitCount_0f7a4_25 rfl ?_
  refine rs_iconst (v := 4) (pc := 26) dJ6_bitCount_0f7a4_26 rfl ?_
  refine rs_iushr (pc := 27) dJ6_bitCount_0f7a4_27 ?_
  refine rs_iadd (pc := 28) dJ6_bitCount_0f7a4_28 ?_
  refine rs_ldcw (pc := 29) dJ6_bitCount_0f7a4_29 cnJ6_267 ?_
  refine rs_iand (pc := 32) dJ6_bitCount_0f7a4_32 ?_
  refine wk_istn0 (pc := 33) dJ6_bitCount_0f7a4_33 (by decide) ?_
  refine rs_iload_n (pc := 34) dJ6_bitCount_0f7a4_34 rfl ?_
  refine rs_iload_n (pc := 35) dJ6_bitCount_0f7a4_35 rfl ?_
  refine rs_bipush (v := 8) (pc := 36) dJ6_bitCount_0f7a4_36 rfl ?_
  refine rs_iushr (pc := 38) dJ6_bitCount_0f7a4_38 ?_
  refine rs_iadd (pc := 39) dJ6_bitCount_0f7a4_39 ?_
  refine wk_istn0 (pc := 40) dJ6_bitCount_0f7a4_40 (by decide) ?_
  refine rs_iload_n (pc := 41) dJ6_bitCount_0f7a4_41 rfl ?_
  refine rs_iload_n (pc := 42) dJ6_bitCount_0f7a4_42 rfl ?_
  refine rs_bipush (v := 16) (pc := 43) dJ6_bitCount_0f7a4_43 rfl ?_
  refine rs_iushr (pc := 45) dJ6_bitCount_0f7a4_45 ?_
  refine rs_iadd (pc := 46) dJ6_bitCount_0f7a4_46 ?_
  refine wk_istn0 (pc := 47) dJ6_bitCount_0f7a4_47 (by decide) ?_
  refine rs_iload_n (pc := 48) dJ6_bitCount_0f7a4_48 rfl ?_
  refine rs_bipush (v := 63) (pc := 49) dJ6_bitCount_0f7a4_49 rfl ?_
  refine rs_iand (pc := 51) dJ6_bitCount_0f7a4_51 ?_
  exact wk_iret (pc := 52) dJ6_bitCount_0f7a4_52 rfl (rfl) (rfl)
