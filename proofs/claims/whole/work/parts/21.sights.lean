/-! 21: reads of Sights (walks laid by wip/whole/p21.py) -/
def cl_has (S : Md) (i : Int32) : Int32 := if i < 0 then 0 else if S.1 0 ≤ i then 0 else 1
def cl_sz (S : Md) : Prop := 0 ≤ (S.1 0).toInt ∧ (S.1 0).toInt ≤ 400
theorem has_in {S : Md} {i : Int32} (hz : cl_sz S) (h : ¬ cl_has S i = 0) : vp_in i 400 := by
  unfold cl_has at h
  split at h
  · exact absurd rfl h
  · split at h
    · exact absurd rfl h
    · rename_i h1 h2
      simp only [i32_lt, i32_le, i32_0] at h1 h2
      obtain ⟨z1, z2⟩ := hz
      exact vp_in_iff.mpr ⟨by omega, by omega⟩
theorem has_b (S : Md) (i : Int32) : cl_has S i = 0 ∨ cl_has S i = 1 := by
  unfold cl_has
  split
  · exact Or.inl rfl
  · split
    · exact Or.inl rfl
    · exact Or.inr rfl
def cl_by (S : Md) (i o : Int32) : Int32 := if cl_has S i = 0 then 0 else if S.2.2.1 7 i.toNatClampNeg = o then 1 else 0
def cl_fg (S : Md) (i : Int32) : Int32 := if cl_has S i = 0 then 0 else if S.2.2.1 6 i.toNatClampNeg = 3 then 1 else 0
def cl_mean (S : Md) (i : Int32) : Int64 := if cl_has S i = 0 then 0 else if S.2.2.1 8 i.toNatClampNeg ≤ 0 then 0 else bi_fdL (1000 * (S.2.2.1 10 i.toNatClampNeg).toInt64) (S.2.2.1 8 i.toNatClampNeg).toInt64
def cl_less (a m b n : Int64) : Int64 := if m * n = 0 then 0 else bi_fdL (1000 * (a * n - b * m)) (m * n)
def cl_lessM (S : Md) (i : Int32) (a : Int64) (j : Int32) (b : Int64) : Int64 := if cl_has S i = 0 then 0 else if cl_has S j = 0 then 0 else cl_less a (S.2.2.1 8 i.toNatClampNeg).toInt64 b (S.2.2.1 8 j.toNatClampNeg).toInt64
def cl_diff (S : Md) (i j : Int32) : Int64 := if cl_has S i = 0 then 0 else if cl_has S j = 0 then 0 else cl_lessM S i (S.2.2.1 10 i.toNatClampNeg).toInt64 j (S.2.2.1 10 j.toNatClampNeg).toInt64
theorem le0_ne {x : Int32} (h : ¬ x ≤ 0) : ¬ x.toInt64 = 0 := i64_ne0 (fun z => h (by rw [z]; decide))
theorem dX2_has_0 : decode cX2_has 0 = .ok (.iload_n 1, 1) := by decide +kernel
theorem dX2_has_1 : decode cX2_has 1 = .ok (.ifCond .lt 15, 3) := by decide +kernel
theorem dX2_has_4 : decode cX2_has 4 = .ok (.iload_n 1, 1) := by decide +kernel
theorem dX2_has_5 : decode cX2_has 5 = .ok (.aload_n 0, 1) := by decide +kernel
theorem dX2_has_6 : decode cX2_has 6 = .ok (.getfield 9, 3) := by decide +kernel
theorem dX2_has_9 : decode cX2_has 9 = .ok (.if_icmp .ge 7, 3) := by decide +kernel
theorem dX2_has_12 : decode cX2_has 12 = .ok (.iconst 1, 1) := by decide +kernel
theorem dX2_has_13 : decode cX2_has 13 = .ok (.goto 4, 3) := by decide +kernel
theorem dX2_has_16 : decode cX2_has 16 = .ok (.iconst 0, 1) := by decide +kernel
theorem dX2_has_17 : decode cX2_has 17 = .ok (.ireturn, 1) := by decide +kernel
set_option maxRecDepth 100000 in
set_option maxHeartbeats 4000000 in
theorem c_X2_has {h : ai_H} {S : Md} (hcl : cl_at h S) (i : Int32) : ai_Met MX2_has [.ref 22, .int i] h (some (.int (cl_has S i))) h := by
  refine ai_met (ls := [.ref 22, .int i]) (by decide) (by simp [ai_en, Value.category]) (by rfl) ?_
  refine rs_iload_n (pc := 0) dX2_has_0 rfl ?_
  refine rs_if_lt (tgt := 16) (pc := 1) dX2_has_1 rfl (fun c_1 => ?_) (fun c_1 => ?_)
  · refine rs_iconst (v := 0) (pc := 16) dX2_has_16 rfl ?_
    exact wk_zret (pc := 17) dX2_has_17 rfl (Or.inl rfl) (by simp [cl_has, c_1]) (rfl)
  · refine rs_iload_n (pc := 4) dX2_has_4 rfl ?_
    refine rs_aload_n (pc := 5) dX2_has_5 rfl ?_
    refine rs_getf (pc := 6) dX2_has_6 fX2_9 (mo_lt hcl (by decide)) hcl.2.1 rfl ?_
    refine rs_icmp_ge (tgt := 16) (pc := 9) dX2_has_9 rfl (fun c_9 => ?_) (fun c_9 => ?_)
    · refine rs_iconst (v := 0) (pc := 16) dX2_has_16 rfl ?_
      exact wk_zret (pc := 17) dX2_has_17 rfl (Or.inl rfl) (by simp [cl_has, c_1, c_9]) (rfl)
    · refine rs_iconst (v := 1) (pc := 12) dX2_has_12 rfl ?_
      refine rs_goto (tgt := 17) (pc := 13) dX2_has_13 rfl ?_
      exact wk_zret (pc := 17) dX2_has_17 rfl (Or.inr rfl) (by simp [cl_has, c_1, c_9]) (rfl)
theorem dX2_isBy_0 : decode cX2_isBy 0 = .ok (.aload_n 0, 1) := by decide +kernel
theorem dX2_isBy_1 : decode cX2_isBy 1 = .ok (.iload_n 1, 1) := by decide +kernel
theorem dX2_isBy_2 : decode cX2_isBy 2 = .ok (.invokevirtual 88, 3) := by decide +kernel
theorem dX2_isBy_5 : decode cX2_isBy 5 = .ok (.ifCond .eq 17, 3) := by decide +kernel
theorem dX2_isBy_8 : decode cX2_isBy 8 = .ok (.aload_n 0, 1) := by decide +kernel
theorem dX2_isBy_9 : decode cX2_isBy 9 = .ok (.getfield 34, 3) := by decide +kernel
theorem dX2_isBy_12 : decode cX2_isBy 12 = .ok (.iload_n 1, 1) := by decide +kernel
theorem dX2_isBy_13 : decode cX2_isBy 13 = .ok (.iaload, 1) := by decide +kernel
theorem dX2_isBy_14 : decode cX2_isBy 14 = .ok (.iload_n 2, 1) := by decide +kernel
theorem dX2_isBy_15 : decode cX2_isBy 15 = .ok (.if_icmp .ne 7, 3) := by decide +kernel
theorem dX2_isBy_18 : decode cX2_isBy 18 = .ok (.iconst 1, 1) := by decide +kernel
theorem dX2_isBy_19 : decode cX2_isBy 19 = .ok (.goto 4, 3) := by decide +kernel
theorem dX2_isBy_22 : decode cX2_isBy 22 = .ok (.iconst 0, 1) := by decide +kernel
theorem dX2_isBy_23 : decode cX2_isBy 23 = .ok (.ireturn, 1) := by decide +kernel
set_option maxRecDepth 100000 in
set_option maxHeartbeats 4000000 in
theorem c_X2_isBy {h : ai_H} {S : Md} (hcl : cl_at h S) (hz : cl_sz S) (i o : Int32) : ai_Met MX2_isBy [.ref 22, .int i, .int o] h (some (.int (cl_by S i o))) h := by
  refine ai_met (ls := [.ref 22, .int i, .int o]) (by decide) (by simp [ai_en, Value.category]) (by rfl) ?_
  refine rs_aload_n (pc := 0) dX2_isBy_0 rfl ?_
  refine rs_iload_n (pc := 1) dX2_isBy_1 rfl ?_
  refine rs_callV (as := [_]) (pc := 2) dX2_isBy_2 mk_X2_has mlX2_88 in_X2_has se_X2_has rfl (mo_lt hcl (by decide)) hcl.2.1 rfl rfl (Nat.le_of_ble_eq_true rfl) (c_X2_has hcl _) ?_
  refine rs_if_eq (tgt := 22) (pc := 5) dX2_isBy_5 rfl (fun c_5 => ?_) (fun c_5 => ?_)
  · refine rs_iconst (v := 0) (pc := 22) dX2_isBy_22 rfl ?_
    exact wk_zret (pc := 23) dX2_isBy_23 rfl (Or.inl rfl) (by simp [cl_by, c_5]) (rfl)
  · refine rs_aload_n (pc := 8) dX2_isBy_8 rfl ?_
    refine rs_getf (pc := 9) dX2_isBy_9 fX2_34 (mo_lt hcl (by decide)) hcl.2.1 rfl ?_
    refine rs_iload_n (pc := 12) dX2_isBy_12 rfl ?_
    refine rs_iald (pc := 13) dX2_isBy_13 (mo_lt hcl (by decide)) (mo_geti (d := 6) (k := 7) (kd := 0) (l := 400) rfl (by decide) hcl) (has_in hz c_5) ?_
    refine rs_iload_n (pc := 14) dX2_isBy_14 rfl ?_
    refine rs_icmp_ne (tgt := 22) (pc := 15) dX2_isBy_15 rfl (fun c_15 => ?_) (fun c_15 => ?_)
    · refine rs_iconst (v := 0) (pc := 22) dX2_isBy_22 rfl ?_
      exact wk_zret (pc := 23) dX2_isBy_23 rfl (Or.inl rfl) (by simp [cl_by, c_5, c_15]) (rfl)
    · refine rs_iconst (v := 1) (pc := 18) dX2_isBy_18 rfl ?_
      refine rs_goto (tgt := 23) (pc := 19) dX2_isBy_19 rfl ?_
      exact wk_zret (pc := 23) dX2_isBy_23 rfl (Or.inr rfl) (by simp [cl_by, c_5, c_15]) (rfl)
theorem dX2_isFeigned_0 : decode cX2_isFeigned 0 = .ok (.aload_n 0, 1) := by decide +kernel
theorem dX2_isFeigned_1 : decode cX2_isFeigned 1 = .ok (.iload_n 1, 1) := by decide +kernel
theorem dX2_isFeigned_2 : decode cX2_isFeigned 2 = .ok (.invokevirtual 88, 3) := by decide +kernel
theorem dX2_isFeigned_5 : decode cX2_isFeigned 5 = .ok (.ifCond .eq 17, 3) := by decide +kernel
theorem dX2_isFeigned_8 : decode cX2_isFeigned 8 = .ok (.aload_n 0, 1) := by decide +kernel
theorem dX2_isFeigned_9 : decode cX2_isFeigned 9 = .ok (.getfield 31, 3) := by decide +kernel
theorem dX2_isFeigned_12 : decode cX2_isFeigned 12 = .ok (.iload_n 1, 1) := by decide +kernel
theorem dX2_isFeigned_13 : decode cX2_isFeigned 13 = .ok (.iaload, 1) := by decide +kernel
theorem dX2_isFeigned_14 : decode cX2_isFeigned 14 = .ok (.iconst 3, 1) := by decide +kernel
theorem dX2_isFeigned_15 : decode cX2_isFeigned 15 = .ok (.if_icmp .ne 7, 3) := by decide +kernel
theorem dX2_isFeigned_18 : decode cX2_isFeigned 18 = .ok (.iconst 1, 1) := by decide +kernel
theorem dX2_isFeigned_19 : decode cX2_isFeigned 19 = .ok (.goto 4, 3) := by decide +kernel
theorem dX2_isFeigned_22 : decode cX2_isFeigned 22 = .ok (.iconst 0, 1) := by decide +kernel
theorem dX2_isFeigned_23 : decode cX2_isFeigned 23 = .ok (.ireturn, 1) := by decide +kernel
set_option maxRecDepth 100000 in
set_option maxHeartbeats 4000000 in
theorem c_X2_isFeigned {h : ai_H} {S : Md} (hcl : cl_at h S) (hz : cl_sz S) (i : Int32) : ai_Met MX2_isFeigned [.ref 22, .int i] h (some (.int (cl_fg S i))) h := by
  refine ai_met (ls := [.ref 22, .int i]) (by decide) (by simp [ai_en, Value.category]) (by rfl) ?_
  refine rs_aload_n (pc := 0) dX2_isFeigned_0 rfl ?_
  refine rs_iload_n (pc := 1) dX2_isFeigned_1 rfl ?_
  refine rs_callV (as := [_]) (pc := 2) dX2_isFeigned_2 mk_X2_has mlX2_88 in_X2_has se_X2_has rfl (mo_lt hcl (by decide)) hcl.2.1 rfl rfl (Nat.le_of_ble_eq_true rfl) (c_X2_has hcl _) ?_
  refine rs_if_eq (tgt := 22) (pc := 5) dX2_isFeigned_5 rfl (fun c_5 => ?_) (fun c_5 => ?_)
  · refine rs_iconst (v := 0) (pc := 22) dX2_isFeigned_22 rfl ?_
    exact wk_zret (pc := 23) dX2_isFeigned_23 rfl (Or.inl rfl) (by simp [cl_fg, c_5]) (rfl)
  · refine rs_aload_n (pc := 8) dX2_isFeigned_8 rfl ?_
    refine rs_getf (pc := 9) dX2_isFeigned_9 fX2_31 (mo_lt hcl (by decide)) hcl.2.1 rfl ?_
    refine rs_iload_n (pc := 12) dX2_isFeigned_12 rfl ?_
    refine rs_iald (pc := 13) dX2_isFeigned_13 (mo_lt hcl (by decide)) (mo_geti (d := 5) (k := 6) (kd := 0) (l := 400) rfl (by decide) hcl) (has_in hz c_5) ?_
    refine rs_iconst (v := 3) (pc := 14) dX2_isFeigned_14 rfl ?_
    refine rs_icmp_ne (tgt := 22) (pc := 15) dX2_isFeigned_15 rfl (fun c_15 => ?_) (fun c_15 => ?_)
    · refine rs_iconst (v := 0) (pc := 22) dX2_isFeigned_22 rfl ?_
      exact wk_zret (pc := 23) dX2_isFeigned_23 rfl (Or.inl rfl) (by simp [cl_fg, c_5, c_15]) (rfl)
    · refine rs_iconst (v := 1) (pc := 18) dX2_isFeigned_18 rfl ?_
      refine rs_goto (tgt := 23) (pc := 19) dX2_isFeigned_19 rfl ?_
      exact wk_zret (pc := 23) dX2_isFeigned_23 rfl (Or.inr rfl) (by simp [cl_fg, c_5, c_15]) (rfl)
theorem dX2_mean_0 : decode cX2_mean 0 = .ok (.aload_n 0, 1) := by decide +kernel
theorem dX2_mean_1 : decode cX2_mean 1 = .ok (.iload_n 1, 1) := by decide +kernel
theorem dX2_mean_2 : decode cX2_mean 2 = .ok (.invokevirtual 88, 3) := by decide +kernel
theorem dX2_mean_5 : decode cX2_mean 5 = .ok (.ifCond .eq 16, 3) := by decide +kernel
theorem dX2_mean_8 : decode cX2_mean 8 = .ok (.aload_n 0, 1) := by decide +kernel
theorem dX2_mean_9 : decode cX2_mean 9 = .ok (.getfield 37, 3) := by decide +kernel
theorem dX2_mean_12 : decode cX2_mean 12 = .ok (.iload_n 1, 1) := by decide +kernel
theorem dX2_mean_13 : decode cX2_mean 13 = .ok (.iaload, 1) := by decide +kernel
theorem dX2_mean_14 : decode cX2_mean 14 = .ok (.ifCond .le 7, 3) := by decide +kernel
theorem dX2_mean_17 : decode cX2_mean 17 = .ok (.iconst 1, 1) := by decide +kernel
theorem dX2_mean_18 : decode cX2_mean 18 = .ok (.goto 4, 3) := by decide +kernel
theorem dX2_mean_21 : decode cX2_mean 21 = .ok (.iconst 0, 1) := by decide +kernel
theorem dX2_mean_22 : decode cX2_mean 22 = .ok (.istore_n 2, 1) := by decide +kernel
theorem dX2_mean_23 : decode cX2_mean 23 = .ok (.iload_n 2, 1) := by decide +kernel
theorem dX2_mean_24 : decode cX2_mean 24 = .ok (.ifCond .eq 27, 3) := by decide +kernel
theorem dX2_mean_27 : decode cX2_mean 27 = .ok (.ldc2_w 99, 3) := by decide +kernel
theorem dX2_mean_30 : decode cX2_mean 30 = .ok (.aload_n 0, 1) := by decide +kernel
theorem dX2_mean_31 : decode cX2_mean 31 = .ok (.getfield 43, 3) := by decide +kernel
theorem dX2_mean_34 : decode cX2_mean 34 = .ok (.iload_n 1, 1) := by decide +kernel
theorem dX2_mean_35 : decode cX2_mean 35 = .ok (.iaload, 1) := by decide +kernel
theorem dX2_mean_36 : decode cX2_mean 36 = .ok (.i2l, 1) := by decide +kernel
theorem dX2_mean_37 : decode cX2_mean 37 = .ok (.lmul, 1) := by decide +kernel
theorem dX2_mean_38 : decode cX2_mean 38 = .ok (.aload_n 0, 1) := by decide +kernel
theorem dX2_mean_39 : decode cX2_mean 39 = .ok (.getfield 37, 3) := by decide +kernel
theorem dX2_mean_42 : decode cX2_mean 42 = .ok (.iload_n 1, 1) := by decide +kernel
theorem dX2_mean_43 : decode cX2_mean 43 = .ok (.iaload, 1) := by decide +kernel
theorem dX2_mean_44 : decode cX2_mean 44 = .ok (.i2l, 1) := by decide +kernel
theorem dX2_mean_45 : decode cX2_mean 45 = .ok (.invokestatic 101, 3) := by decide +kernel
theorem dX2_mean_48 : decode cX2_mean 48 = .ok (.goto 4, 3) := by decide +kernel
theorem dX2_mean_51 : decode cX2_mean 51 = .ok (.lconst 0, 1) := by decide +kernel
theorem dX2_mean_52 : decode cX2_mean 52 = .ok (.lreturn, 1) := by decide +kernel
set_option maxRecDepth 100000 in
set_option maxHeartbeats 4000000 in
theorem c_X2_mean {h : ai_H} {S : Md} (hcl : cl_at h S) (hz : cl_sz S) (i : Int32) : ai_Met MX2_mean [.ref 22, .int i] h (some (.long (cl_mean S i))) h := by
  refine ai_met (ls := [.ref 22, .int i, .float 0]) (by decide) (by simp [ai_en, Value.category]) (by rfl) ?_
  refine rs_aload_n (pc := 0) dX2_mean_0 rfl ?_
  refine rs_iload_n (pc := 1) dX2_mean_1 rfl ?_
  refine rs_callV (as := [_]) (pc := 2) dX2_mean_2 mk_X2_has mlX2_88 in_X2_has se_X2_has rfl (mo_lt hcl (by decide)) hcl.2.1 rfl rfl (Nat.le_of_ble_eq_true rfl) (c_X2_has hcl _) ?_
  refine rs_if_eq (tgt := 21) (pc := 5) dX2_mean_5 rfl (fun c_5 => ?_) (fun c_5 => ?_)
  · refine rs_iconst (v := 0) (pc := 21) dX2_mean_21 rfl ?_
    refine wk_istn2 (pc := 22) dX2_mean_22 (by decide) rfl ?_
    refine rs_iload_n (pc := 23) dX2_mean_23 rfl ?_
    refine rs_if_eq (tgt := 51) (pc := 24) dX2_mean_24 rfl (fun c_24 => ?_) (fun c_24 => absurd c_24 (by decide))
    refine rs_lconst (v := 0) (pc := 51) dX2_mean_51 rfl ?_
    exact wk_lret (pc := 52) dX2_mean_52 rfl (by simp [cl_mean, c_5]) (rfl)
  · refine rs_aload_n (pc := 8) dX2_mean_8 rfl ?_
    refine rs_getf (pc := 9) dX2_mean_9 fX2_37 (mo_lt hcl (by decide)) hcl.2.1 rfl ?_
    refine rs_iload_n (pc := 12) dX2_mean_12 rfl ?_
    refine rs_iald (pc := 13) dX2_mean_13 (mo_lt hcl (by decide)) (mo_geti (d := 7) (k := 8) (kd := 0) (l := 400) rfl (by decide) hcl) (has_in hz c_5) ?_
    refine rs_if_le (tgt := 21) (pc := 14) dX2_mean_14 rfl (fun c_14 => ?_) (fun c_14 => ?_)
    · refine rs_iconst (v := 0) (pc := 21) dX2_mean_21 rfl ?_
      refine wk_istn2 (pc := 22) dX2_mean_22 (by decide) rfl ?_
      refine rs_iload_n (pc := 23) dX2_mean_23 rfl ?_
      refine rs_if_eq (tgt := 51) (pc := 24) dX2_mean_24 rfl (fun c_24 => ?_) (fun c_24 => absurd c_24 (by decide))
      refine rs_lconst (v := 0) (pc := 51) dX2_mean_51 rfl ?_
      exact wk_lret (pc := 52) dX2_mean_52 rfl (by simp [cl_mean, c_5, c_14]) (rfl)
    · refine rs_iconst (v := 1) (pc := 17) dX2_mean_17 rfl ?_
      refine rs_goto (tgt := 22) (pc := 18) dX2_mean_18 rfl ?_
      refine wk_istn2 (pc := 22) dX2_mean_22 (by decide) rfl ?_
      refine rs_iload_n (pc := 23) dX2_mean_23 rfl ?_
      refine rs_if_eq (tgt := 51) (pc := 24) dX2_mean_24 rfl (fun c_24 => absurd c_24 (by decide)) (fun c_24 => ?_)
      refine rs_ldc2 (pc := 27) dX2_mean_27 cnX2_99 ?_
      refine rs_aload_n (pc := 30) dX2_mean_30 rfl ?_
      refine rs_getf (pc := 31) dX2_mean_31 fX2_43 (mo_lt hcl (by decide)) hcl.2.1 rfl ?_
      refine rs_iload_n (pc := 34) dX2_mean_34 rfl ?_
      refine rs_iald (pc := 35) dX2_mean_35 (mo_lt hcl (by decide)) (mo_geti (d := 9) (k := 10) (kd := 0) (l := 400) rfl (by decide) hcl) (has_in hz c_5) ?_
      refine rs_i2l (pc := 36) dX2_mean_36 ?_
      refine rs_lmul (pc := 37) dX2_mean_37 ?_
      refine rs_aload_n (pc := 38) dX2_mean_38 rfl ?_
      refine rs_getf (pc := 39) dX2_mean_39 fX2_37 (mo_lt hcl (by decide)) hcl.2.1 rfl ?_
      refine rs_iload_n (pc := 42) dX2_mean_42 rfl ?_
      refine rs_iald (pc := 43) dX2_mean_43 (mo_lt hcl (by decide)) (mo_geti (d := 7) (k := 8) (kd := 0) (l := 400) rfl (by decide) hcl) (has_in hz c_5) ?_
      refine rs_i2l (pc := 44) dX2_mean_44 ?_
      refine rs_callS (as := [_, _]) (pc := 45) dX2_mean_45 mk_J9_floorDiv_f86c9 mlX2_101 st_J9_floorDiv_f86c9 rfl rfl (Nat.le_of_ble_eq_true rfl) (c_fdL (le0_ne c_14)) ?_
      refine rs_goto (tgt := 52) (pc := 48) dX2_mean_48 rfl ?_
      exact wk_lret (pc := 52) dX2_mean_52 rfl (by simp [cl_mean, c_5, c_14]) (rfl)
theorem dX2_lessMean_0 : decode cX2_lessMean 0 = .ok (.aload_n 0, 1) := by decide +kernel
theorem dX2_lessMean_1 : decode cX2_lessMean 1 = .ok (.iload_n 1, 1) := by decide +kernel
theorem dX2_lessMean_2 : decode cX2_lessMean 2 = .ok (.invokevirtual 88, 3) := by decide +kernel
theorem dX2_lessMean_5 : decode cX2_lessMean 5 = .ok (.ifCond .eq 12, 3) := by decide +kernel
theorem dX2_lessMean_8 : decode cX2_lessMean 8 = .ok (.aload_n 0, 1) := by decide +kernel
theorem dX2_lessMean_9 : decode cX2_lessMean 9 = .ok (.iload 4, 2) := by decide +kernel
theorem dX2_lessMean_11 : decode cX2_lessMean 11 = .ok (.invokevirtual 88, 3) := by decide +kernel
theorem dX2_lessMean_14 : decode cX2_lessMean 14 = .ok (.ifCond .ne 5, 3) := by decide +kernel
theorem dX2_lessMean_17 : decode cX2_lessMean 17 = .ok (.lconst 0, 1) := by decide +kernel
theorem dX2_lessMean_18 : decode cX2_lessMean 18 = .ok (.lreturn, 1) := by decide +kernel
theorem dX2_lessMean_19 : decode cX2_lessMean 19 = .ok (.aload_n 0, 1) := by decide +kernel
theorem dX2_lessMean_20 : decode cX2_lessMean 20 = .ok (.getfield 37, 3) := by decide +kernel
theorem dX2_lessMean_23 : decode cX2_lessMean 23 = .ok (.iload_n 1, 1) := by decide +kernel
theorem dX2_lessMean_24 : decode cX2_lessMean 24 = .ok (.iaload, 1) := by decide +kernel
theorem dX2_lessMean_25 : decode cX2_lessMean 25 = .ok (.i2l, 1) := by decide +kernel
theorem dX2_lessMean_26 : decode cX2_lessMean 26 = .ok (.aload_n 0, 1) := by decide +kernel
theorem dX2_lessMean_27 : decode cX2_lessMean 27 = .ok (.getfield 37, 3) := by decide +kernel
theorem dX2_lessMean_30 : decode cX2_lessMean 30 = .ok (.iload 4, 2) := by decide +kernel
theorem dX2_lessMean_32 : decode cX2_lessMean 32 = .ok (.iaload, 1) := by decide +kernel
theorem dX2_lessMean_33 : decode cX2_lessMean 33 = .ok (.i2l, 1) := by decide +kernel
theorem dX2_lessMean_34 : decode cX2_lessMean 34 = .ok (.lmul, 1) := by decide +kernel
theorem dX2_lessMean_35 : decode cX2_lessMean 35 = .ok (.lstore 7, 2) := by decide +kernel
theorem dX2_lessMean_37 : decode cX2_lessMean 37 = .ok (.lload 7, 2) := by decide +kernel
theorem dX2_lessMean_39 : decode cX2_lessMean 39 = .ok (.lconst 0, 1) := by decide +kernel
theorem dX2_lessMean_40 : decode cX2_lessMean 40 = .ok (.lcmp, 1) := by decide +kernel
theorem dX2_lessMean_41 : decode cX2_lessMean 41 = .ok (.ifCond .ne 7, 3) := by decide +kernel
theorem dX2_lessMean_44 : decode cX2_lessMean 44 = .ok (.lconst 0, 1) := by decide +kernel
theorem dX2_lessMean_45 : decode cX2_lessMean 45 = .ok (.goto 33, 3) := by decide +kernel
theorem dX2_lessMean_48 : decode cX2_lessMean 48 = .ok (.ldc2_w 99, 3) := by decide +kernel
theorem dX2_lessMean_51 : decode cX2_lessMean 51 = .ok (.lload_n 2, 1) := by decide +kernel
theorem dX2_lessMean_52 : decode cX2_lessMean 52 = .ok (.aload_n 0, 1) := by decide +kernel
theorem dX2_lessMean_53 : decode cX2_lessMean 53 = .ok (.getfield 37, 3) := by decide +kernel
theorem dX2_lessMean_56 : decode cX2_lessMean 56 = .ok (.iload 4, 2) := by decide +kernel
theorem dX2_lessMean_58 : decode cX2_lessMean 58 = .ok (.iaload, 1) := by decide +kernel
theorem dX2_lessMean_59 : decode cX2_lessMean 59 = .ok (.i2l, 1) := by decide +kernel
theorem dX2_lessMean_60 : decode cX2_lessMean 60 = .ok (.lmul, 1) := by decide +kernel
theorem dX2_lessMean_61 : decode cX2_lessMean 61 = .ok (.lload 5, 2) := by decide +kernel
theorem dX2_lessMean_63 : decode cX2_lessMean 63 = .ok (.aload_n 0, 1) := by decide +kernel
theorem dX2_lessMean_64 : decode cX2_lessMean 64 = .ok (.getfield 37, 3) := by decide +kernel
theorem dX2_lessMean_67 : decode cX2_lessMean 67 = .ok (.iload_n 1, 1) := by decide +kernel
theorem dX2_lessMean_68 : decode cX2_lessMean 68 = .ok (.iaload, 1) := by decide +kernel
theorem dX2_lessMean_69 : decode cX2_lessMean 69 = .ok (.i2l, 1) := by decide +kernel
theorem dX2_lessMean_70 : decode cX2_lessMean 70 = .ok (.lmul, 1) := by decide +kernel
theorem dX2_lessMean_71 : decode cX2_lessMean 71 = .ok (.lsub, 1) := by decide +kernel
theorem dX2_lessMean_72 : decode cX2_lessMean 72 = .ok (.lmul, 1) := by decide +kernel
theorem dX2_lessMean_73 : decode cX2_lessMean 73 = .ok (.lload 7, 2) := by decide +kernel
theorem dX2_lessMean_75 : decode cX2_lessMean 75 = .ok (.invokestatic 101, 3) := by decide +kernel
theorem dX2_lessMean_78 : decode cX2_lessMean 78 = .ok (.lreturn, 1) := by decide +kernel
set_option maxRecDepth 100000 in
set_option maxHeartbeats 4000000 in
theorem c_X2_lessMean {h : ai_H} {S : Md} (hcl : cl_at h S) (hz : cl_sz S) (i : Int32) (a : Int64) (j : Int32) (b : Int64) : ai_Met MX2_lessMean [.ref 22, .int i, .long a, .int j, .long b] h (some (.long (cl_lessM S i a j b))) h := by
  refine ai_met (ls := [.ref 22, .int i, .long a, .float 0, .int j, .long b, .float 0, .float 0, .float 0]) (by decide) (by simp [ai_en, Value.category]) (by rfl) ?_
  refine rs_aload_n (pc := 0) dX2_lessMean_0 rfl ?_
  refine rs_iload_n (pc := 1) dX2_lessMean_1 rfl ?_
  refine rs_callV (as := [_]) (pc := 2) dX2_lessMean_2 mk_X2_has mlX2_88 in_X2_has se_X2_has rfl (mo_lt hcl (by decide)) hcl.2.1 rfl rfl (Nat.le_of_ble_eq_true rfl) (c_X2_has hcl _) ?_
  refine rs_if_eq (tgt := 17) (pc := 5) dX2_lessMean_5 rfl (fun c_5 => ?_) (fun c_5 => ?_)
  · refine rs_lconst (v := 0) (pc := 17) dX2_lessMean_17 rfl ?_
    exact wk_lret (pc := 18) dX2_lessMean_18 rfl (by simp [cl_lessM, cl_less, c_5]) (rfl)
  · refine rs_aload_n (pc := 8) dX2_lessMean_8 rfl ?_
    refine rs_iload (pc := 9) dX2_lessMean_9 rfl ?_
    refine rs_callV (as := [_]) (pc := 11) dX2_lessMean_11 mk_X2_has mlX2_88 in_X2_has se_X2_has rfl (mo_lt hcl (by decide)) hcl.2.1 rfl rfl (Nat.le_of_ble_eq_true rfl) (c_X2_has hcl _) ?_
    refine rs_if_ne (tgt := 19) (pc := 14) dX2_lessMean_14 rfl (fun c_14 => ?_) (fun c_14 => ?_)
    · refine rs_aload_n (pc := 19) dX2_lessMean_19 rfl ?_
      refine rs_getf (pc := 20) dX2_lessMean_20 fX2_37 (mo_lt hcl (by decide)) hcl.2.1 rfl ?_
      refine rs_iload_n (pc := 23) dX2_lessMean_23 rfl ?_
      refine rs_iald (pc := 24) dX2_lessMean_24 (mo_lt hcl (by decide)) (mo_geti (d := 7) (k := 8) (kd := 0) (l := 400) rfl (by decide) hcl) (has_in hz c_5) ?_
      refine rs_i2l (pc := 25) dX2_lessMean_25 ?_
      refine rs_aload_n (pc := 26) dX2_lessMean_26 rfl ?_
      refine rs_getf (pc := 27) dX2_lessMean_27 fX2_37 (mo_lt hcl (by decide)) hcl.2.1 rfl ?_
      refine rs_iload (pc := 30) dX2_lessMean_30 rfl ?_
      refine rs_iald (pc := 32) dX2_lessMean_32 (mo_lt hcl (by decide)) (mo_geti (d := 7) (k := 8) (kd := 0) (l := 400) rfl (by decide) hcl) (has_in hz c_14) ?_
      refine rs_i2l (pc := 33) dX2_lessMean_33 ?_
      refine rs_lmul (pc := 34) dX2_lessMean_34 ?_
      refine wk_lst7 (pc := 35) dX2_lessMean_35 (by decide) rfl ?_
      refine rs_lload (pc := 37) dX2_lessMean_37 rfl ?_
      refine rs_lconst (v := 0) (pc := 39) dX2_lessMean_39 rfl ?_
      refine wk_lcmp_ne (tgt := 48) (pc := 40) dX2_lessMean_40 dX2_lessMean_41 rfl (fun c_40 => ?_) (fun c_40 => ?_)
      · refine rs_ldc2 (pc := 48) dX2_lessMean_48 cnX2_99 ?_
        refine rs_lload_n (pc := 51) dX2_lessMean_51 rfl ?_
        refine rs_aload_n (pc := 52) dX2_lessMean_52 rfl ?_
        refine rs_getf (pc := 53) dX2_lessMean_53 fX2_37 (mo_lt hcl (by decide)) hcl.2.1 rfl ?_
        refine rs_iload (pc := 56) dX2_lessMean_56 rfl ?_
        refine rs_iald (pc := 58) dX2_lessMean_58 (mo_lt hcl (by decide)) (mo_geti (d := 7) (k := 8) (kd := 0) (l := 400) rfl (by decide) hcl) (has_in hz c_14) ?_
        refine rs_i2l (pc := 59) dX2_lessMean_59 ?_
        refine rs_lmul (pc := 60) dX2_lessMean_60 ?_
        refine rs_lload (pc := 61) dX2_lessMean_61 rfl ?_
        refine rs_aload_n (pc := 63) dX2_lessMean_63 rfl ?_
        refine rs_getf (pc := 64) dX2_lessMean_64 fX2_37 (mo_lt hcl (by decide)) hcl.2.1 rfl ?_
        refine rs_iload_n (pc := 67) dX2_lessMean_67 rfl ?_
        refine rs_iald (pc := 68) dX2_lessMean_68 (mo_lt hcl (by decide)) (mo_geti (d := 7) (k := 8) (kd := 0) (l := 400) rfl (by decide) hcl) (has_in hz c_5) ?_
        refine rs_i2l (pc := 69) dX2_lessMean_69 ?_
        refine rs_lmul (pc := 70) dX2_lessMean_70 ?_
        refine rs_lsub (pc := 71) dX2_lessMean_71 ?_
        refine rs_lmul (pc := 72) dX2_lessMean_72 ?_
        refine rs_lload (pc := 73) dX2_lessMean_73 rfl ?_
        refine rs_callS (as := [_, _]) (pc := 75) dX2_lessMean_75 mk_J9_floorDiv_f86c9 mlX2_101 st_J9_floorDiv_f86c9 rfl rfl (Nat.le_of_ble_eq_true rfl) (c_fdL c_40) ?_
        exact wk_lret (pc := 78) dX2_lessMean_78 rfl (by simp [cl_lessM, cl_less, c_5, c_14, c_40]) (rfl)
      · refine rs_lconst (v := 0) (pc := 44) dX2_lessMean_44 rfl ?_
        refine rs_goto (tgt := 78) (pc := 45) dX2_lessMean_45 rfl ?_
        exact wk_lret (pc := 78) dX2_lessMean_78 rfl (by simp [cl_lessM, cl_less, c_5, c_14, c_40]) (rfl)
    · refine rs_lconst (v := 0) (pc := 17) dX2_lessMean_17 rfl ?_
      exact wk_lret (pc := 18) dX2_lessMean_18 rfl (by simp [cl_lessM, cl_less, c_5, c_14]) (rfl)
theorem dX2_difference_0 : decode cX2_difference 0 = .ok (.aload_n 0, 1) := by decide +kernel
theorem dX2_difference_1 : decode cX2_difference 1 = .ok (.iload_n 1, 1) := by decide +kernel
theorem dX2_difference_2 : decode cX2_difference 2 = .ok (.invokevirtual 88, 3) := by decide +kernel
theorem dX2_difference_5 : decode cX2_difference 5 = .ok (.ifCond .eq 34, 3) := by decide +kernel
theorem dX2_difference_8 : decode cX2_difference 8 = .ok (.aload_n 0, 1) := by decide +kernel
theorem dX2_difference_9 : decode cX2_difference 9 = .ok (.iload_n 2, 1) := by decide +kernel
theorem dX2_difference_10 : decode cX2_difference 10 = .ok (.invokevirtual 88, 3) := by decide +kernel
theorem dX2_difference_13 : decode cX2_difference 13 = .ok (.ifCond .eq 26, 3) := by decide +kernel
theorem dX2_difference_16 : decode cX2_difference 16 = .ok (.aload_n 0, 1) := by decide +kernel
theorem dX2_difference_17 : decode cX2_difference 17 = .ok (.iload_n 1, 1) := by decide +kernel
theorem dX2_difference_18 : decode cX2_difference 18 = .ok (.aload_n 0, 1) := by decide +kernel
theorem dX2_difference_19 : decode cX2_difference 19 = .ok (.getfield 43, 3) := by decide +kernel
theorem dX2_difference_22 : decode cX2_difference 22 = .ok (.iload_n 1, 1) := by decide +kernel
theorem dX2_difference_23 : decode cX2_difference 23 = .ok (.iaload, 1) := by decide +kernel
theorem dX2_difference_24 : decode cX2_difference 24 = .ok (.i2l, 1) := by decide +kernel
theorem dX2_difference_25 : decode cX2_difference 25 = .ok (.iload_n 2, 1) := by decide +kernel
theorem dX2_difference_26 : decode cX2_difference 26 = .ok (.aload_n 0, 1) := by decide +kernel
theorem dX2_difference_27 : decode cX2_difference 27 = .ok (.getfield 43, 3) := by decide +kernel
theorem dX2_difference_30 : decode cX2_difference 30 = .ok (.iload_n 2, 1) := by decide +kernel
theorem dX2_difference_31 : decode cX2_difference 31 = .ok (.iaload, 1) := by decide +kernel
theorem dX2_difference_32 : decode cX2_difference 32 = .ok (.i2l, 1) := by decide +kernel
theorem dX2_difference_33 : decode cX2_difference 33 = .ok (.invokevirtual 110, 3) := by decide +kernel
theorem dX2_difference_36 : decode cX2_difference 36 = .ok (.goto 4, 3) := by decide +kernel
theorem dX2_difference_39 : decode cX2_difference 39 = .ok (.lconst 0, 1) := by decide +kernel
theorem dX2_difference_40 : decode cX2_difference 40 = .ok (.lreturn, 1) := by decide +kernel
set_option maxRecDepth 100000 in
set_option maxHeartbeats 4000000 in
theorem c_X2_difference {h : ai_H} {S : Md} (hcl : cl_at h S) (hz : cl_sz S) (i j : Int32) : ai_Met MX2_difference [.ref 22, .int i, .int j] h (some (.long (cl_diff S i j))) h := by
  refine ai_met (ls := [.ref 22, .int i, .int j]) (by decide) (by simp [ai_en, Value.category]) (by rfl) ?_
  refine rs_aload_n (pc := 0) dX2_difference_0 rfl ?_
  refine rs_iload_n (pc := 1) dX2_difference_1 rfl ?_
  refine rs_callV (as := [_]) (pc := 2) dX2_difference_2 mk_X2_has mlX2_88 in_X2_has se_X2_has rfl (mo_lt hcl (by decide)) hcl.2.1 rfl rfl (Nat.le_of_ble_eq_true rfl) (c_X2_has hcl _) ?_
  refine rs_if_eq (tgt := 39) (pc := 5) dX2_difference_5 rfl (fun c_5 => ?_) (fun c_5 => ?_)
  · refine rs_lconst (v := 0) (pc := 39) dX2_difference_39 rfl ?_
    exact wk_lret (pc := 40) dX2_difference_40 rfl (by simp [cl_diff, c_5]) (rfl)
  · refine rs_aload_n (pc := 8) dX2_difference_8 rfl ?_
    refine rs_iload_n (pc := 9) dX2_difference_9 rfl ?_
    refine rs_callV (as := [_]) (pc := 10) dX2_difference_10 mk_X2_has mlX2_88 in_X2_has se_X2_has rfl (mo_lt hcl (by decide)) hcl.2.1 rfl rfl (Nat.le_of_ble_eq_true rfl) (c_X2_has hcl _) ?_
    refine rs_if_eq (tgt := 39) (pc := 13) dX2_difference_13 rfl (fun c_13 => ?_) (fun c_13 => ?_)
    · refine rs_lconst (v := 0) (pc := 39) dX2_difference_39 rfl ?_
      exact wk_lret (pc := 40) dX2_difference_40 rfl (by simp [cl_diff, c_5, c_13]) (rfl)
    · refine rs_aload_n (pc := 16) dX2_difference_16 rfl ?_
      refine rs_iload_n (pc := 17) dX2_difference_17 rfl ?_
      refine rs_aload_n (pc := 18) dX2_difference_18 rfl ?_
      refine rs_getf (pc := 19) dX2_difference_19 fX2_43 (mo_lt hcl (by decide)) hcl.2.1 rfl ?_
      refine rs_iload_n (pc := 22) dX2_difference_22 rfl ?_
      refine rs_iald (pc := 23) dX2_difference_23 (mo_lt hcl (by decide)) (mo_geti (d := 9) (k := 10) (kd := 0) (l := 400) rfl (by decide) hcl) (has_in hz c_5) ?_
      refine rs_i2l (pc := 24) dX2_difference_24 ?_
      refine rs_iload_n (pc := 25) dX2_difference_25 rfl ?_
      refine rs_aload_n (pc := 26) dX2_difference_26 rfl ?_
      refine rs_getf (pc := 27) dX2_difference_27 fX2_43 (mo_lt hcl (by decide)) hcl.2.1 rfl ?_
      refine rs_iload_n (pc := 30) dX2_difference_30 rfl ?_
      refine rs_iald (pc := 31) dX2_difference_31 (mo_lt hcl (by decide)) (mo_geti (d := 9) (k := 10) (kd := 0) (l := 400) rfl (by decide) hcl) (has_in hz c_13) ?_
      refine rs_i2l (pc := 32) dX2_difference_32 ?_
      refine rs_callV (as := [_, _, _, _]) (pc := 33) dX2_difference_33 mk_X2_lessMean mlX2_110 in_X2_lessMean se_X2_lessMean rfl (mo_lt hcl (by decide)) hcl.2.1 rfl rfl (Nat.le_of_ble_eq_true rfl) (c_X2_lessMean hcl hz _ _ _ _) ?_
      refine rs_goto (tgt := 40) (pc := 36) dX2_difference_36 rfl ?_
      exact wk_lret (pc := 40) dX2_difference_40 rfl (by simp [cl_diff, c_5, c_13]) (rfl)
def bi_ush (x s : Int32) : Int32 := (x.toUInt32 >>> (s.toUInt32 &&& Int32.toUInt32 31)).toInt32
def bi_bc (x : Int32) : Int32 :=
  (fun a : Int32 => (fun b : Int32 => (fun c : Int32 => (fun d : Int32 => (fun e : Int32 => e &&& 63) (d + bi_ush d 16)) (c + bi_ush c 8)) ((b + bi_ush b 4) &&& 252645135)) ((a &&& 858993459) + (bi_ush a 2 &&& 858993459))) (x - (bi_ush x 1 &&& 1431655765))
/-- a loop's head with the same place told otherwise -/
theorem lpv {M : ai_M} {pc : Nat} {a b c d e f g k : Value} {st : List Value} {h h' : ai_H} {r : Option Value} {e' : Value} (x : ai_R M pc [a, b, c, d, e', f, g, k] st h r h') (he : e = e') : ai_R M pc [a, b, c, d, e, f, g, k] st h r h' := by
  rw [he]; exact x
theorem dJ6_bitCount_0f7a4_0 : decode cJ6_bitCount_0f7a4 0 = .ok (.iload_n 0, 1) := by decide +kernel
theorem dJ6_bitCount_0f7a4_1 : decode cJ6_bitCount_0f7a4 1 = .ok (.iload_n 0, 1) := by decide +kernel
theorem dJ6_bitCount_0f7a4_2 : decode cJ6_bitCount_0f7a4 2 = .ok (.iconst 1, 1) := by decide +kernel
theorem dJ6_bitCount_0f7a4_3 : decode cJ6_bitCount_0f7a4 3 = .ok (.iushr, 1) := by decide +kernel
theorem dJ6_bitCount_0f7a4_4 : decode cJ6_bitCount_0f7a4 4 = .ok (.ldc_w 265, 3) := by decide +kernel
theorem dJ6_bitCount_0f7a4_7 : decode cJ6_bitCount_0f7a4 7 = .ok (.iand, 1) := by decide +kernel
theorem dJ6_bitCount_0f7a4_8 : decode cJ6_bitCount_0f7a4 8 = .ok (.isub, 1) := by decide +kernel
theorem dJ6_bitCount_0f7a4_9 : decode cJ6_bitCount_0f7a4 9 = .ok (.istore_n 0, 1) := by decide +kernel
theorem dJ6_bitCount_0f7a4_10 : decode cJ6_bitCount_0f7a4 10 = .ok (.iload_n 0, 1) := by decide +kernel
theorem dJ6_bitCount_0f7a4_11 : decode cJ6_bitCount_0f7a4 11 = .ok (.ldc_w 266, 3) := by decide +kernel
theorem dJ6_bitCount_0f7a4_14 : decode cJ6_bitCount_0f7a4 14 = .ok (.iand, 1) := by decide +kernel
theorem dJ6_bitCount_0f7a4_15 : decode cJ6_bitCount_0f7a4 15 = .ok (.iload_n 0, 1) := by decide +kernel
theorem dJ6_bitCount_0f7a4_16 : decode cJ6_bitCount_0f7a4 16 = .ok (.iconst 2, 1) := by decide +kernel
theorem dJ6_bitCount_0f7a4_17 : decode cJ6_bitCount_0f7a4 17 = .ok (.iushr, 1) := by decide +kernel
theorem dJ6_bitCount_0f7a4_18 : decode cJ6_bitCount_0f7a4 18 = .ok (.ldc_w 266, 3) := by decide +kernel
theorem dJ6_bitCount_0f7a4_21 : decode cJ6_bitCount_0f7a4 21 = .ok (.iand, 1) := by decide +kernel
theorem dJ6_bitCount_0f7a4_22 : decode cJ6_bitCount_0f7a4 22 = .ok (.iadd, 1) := by decide +kernel
theorem dJ6_bitCount_0f7a4_23 : decode cJ6_bitCount_0f7a4 23 = .ok (.istore_n 0, 1) := by decide +kernel
theorem dJ6_bitCount_0f7a4_24 : decode cJ6_bitCount_0f7a4 24 = .ok (.iload_n 0, 1) := by decide +kernel
theorem dJ6_bitCount_0f7a4_25 : decode cJ6_bitCount_0f7a4 25 = .ok (.iload_n 0, 1) := by decide +kernel
theorem dJ6_bitCount_0f7a4_26 : decode cJ6_bitCount_0f7a4 26 = .ok (.iconst 4, 1) := by decide +kernel
theorem dJ6_bitCount_0f7a4_27 : decode cJ6_bitCount_0f7a4 27 = .ok (.iushr, 1) := by decide +kernel
theorem dJ6_bitCount_0f7a4_28 : decode cJ6_bitCount_0f7a4 28 = .ok (.iadd, 1) := by decide +kernel
theorem dJ6_bitCount_0f7a4_29 : decode cJ6_bitCount_0f7a4 29 = .ok (.ldc_w 267, 3) := by decide +kernel
theorem dJ6_bitCount_0f7a4_32 : decode cJ6_bitCount_0f7a4 32 = .ok (.iand, 1) := by decide +kernel
theorem dJ6_bitCount_0f7a4_33 : decode cJ6_bitCount_0f7a4 33 = .ok (.istore_n 0, 1) := by decide +kernel
theorem dJ6_bitCount_0f7a4_34 : decode cJ6_bitCount_0f7a4 34 = .ok (.iload_n 0, 1) := by decide +kernel
theorem dJ6_bitCount_0f7a4_35 : decode cJ6_bitCount_0f7a4 35 = .ok (.iload_n 0, 1) := by decide +kernel
theorem dJ6_bitCount_0f7a4_36 : decode cJ6_bitCount_0f7a4 36 = .ok (.bipush 8, 2) := by decide +kernel
theorem dJ6_bitCount_0f7a4_38 : decode cJ6_bitCount_0f7a4 38 = .ok (.iushr, 1) := by decide +kernel
theorem dJ6_bitCount_0f7a4_39 : decode cJ6_bitCount_0f7a4 39 = .ok (.iadd, 1) := by decide +kernel
theorem dJ6_bitCount_0f7a4_40 : decode cJ6_bitCount_0f7a4 40 = .ok (.istore_n 0, 1) := by decide +kernel
theorem dJ6_bitCount_0f7a4_41 : decode cJ6_bitCount_0f7a4 41 = .ok (.iload_n 0, 1) := by decide +kernel
theorem dJ6_bitCount_0f7a4_42 : decode cJ6_bitCount_0f7a4 42 = .ok (.iload_n 0, 1) := by decide +kernel
theorem dJ6_bitCount_0f7a4_43 : decode cJ6_bitCount_0f7a4 43 = .ok (.bipush 16, 2) := by decide +kernel
theorem dJ6_bitCount_0f7a4_45 : decode cJ6_bitCount_0f7a4 45 = .ok (.iushr, 1) := by decide +kernel
theorem dJ6_bitCount_0f7a4_46 : decode cJ6_bitCount_0f7a4 46 = .ok (.iadd, 1) := by decide +kernel
theorem dJ6_bitCount_0f7a4_47 : decode cJ6_bitCount_0f7a4 47 = .ok (.istore_n 0, 1) := by decide +kernel
theorem dJ6_bitCount_0f7a4_48 : decode cJ6_bitCount_0f7a4 48 = .ok (.iload_n 0, 1) := by decide +kernel
theorem dJ6_bitCount_0f7a4_49 : decode cJ6_bitCount_0f7a4 49 = .ok (.bipush 63, 2) := by decide +kernel
theorem dJ6_bitCount_0f7a4_51 : decode cJ6_bitCount_0f7a4 51 = .ok (.iand, 1) := by decide +kernel
theorem dJ6_bitCount_0f7a4_52 : decode cJ6_bitCount_0f7a4 52 = .ok (.ireturn, 1) := by decide +kernel
set_option maxRecDepth 100000 in
set_option maxHeartbeats 4000000 in
theorem c_bitCount {h : ai_H} (x : Int32) : ai_Met MJ6_bitCount_0f7a4 [.int x] h (some (.int (bi_bc x))) h := by
  refine ai_met (ls := [.int x]) (by decide) (by simp [ai_en, Value.category]) (by rfl) ?_
  refine rs_iload_n (pc := 0) dJ6_bitCount_0f7a4_0 rfl ?_
  refine rs_iload_n (pc := 1) dJ6_bitCount_0f7a4_1 rfl ?_
  refine rs_iconst (v := 1) (pc := 2) dJ6_bitCount_0f7a4_2 rfl ?_
  refine rs_iushr (pc := 3) dJ6_bitCount_0f7a4_3 ?_
  refine rs_ldcw (pc := 4) dJ6_bitCount_0f7a4_4 cnJ6_265 ?_
  refine rs_iand (pc := 7) dJ6_bitCount_0f7a4_7 ?_
  refine rs_isub (pc := 8) dJ6_bitCount_0f7a4_8 ?_
  refine wk_istn0 (pc := 9) dJ6_bitCount_0f7a4_9 (by decide) ?_
  refine rs_iload_n (pc := 10) dJ6_bitCount_0f7a4_10 rfl ?_
  refine rs_ldcw (pc := 11) dJ6_bitCount_0f7a4_11 cnJ6_266 ?_
  refine rs_iand (pc := 14) dJ6_bitCount_0f7a4_14 ?_
  refine rs_iload_n (pc := 15) dJ6_bitCount_0f7a4_15 rfl ?_
  refine rs_iconst (v := 2) (pc := 16) dJ6_bitCount_0f7a4_16 rfl ?_
  refine rs_iushr (pc := 17) dJ6_bitCount_0f7a4_17 ?_
  refine rs_ldcw (pc := 18) dJ6_bitCount_0f7a4_18 cnJ6_266 ?_
  refine rs_iand (pc := 21) dJ6_bitCount_0f7a4_21 ?_
  refine rs_iadd (pc := 22) dJ6_bitCount_0f7a4_22 ?_
  refine wk_istn0 (pc := 23) dJ6_bitCount_0f7a4_23 (by decide) ?_
  refine rs_iload_n (pc := 24) dJ6_bitCount_0f7a4_24 rfl ?_
  refine rs_iload_n (pc := 25) dJ6_bitCount_0f7a4_25 rfl ?_
  refine rs_iconst (v := 4) (pc := 26) dJ6_bitCount_0f7a4_26 rfl ?_
  refine rs_iushr (pc := 27) dJ6_bitCount_0f7a4_27 ?_
  refine rs_iadd (pc := 28) dJ6_bitCount_0f7a4_28 ?_
  refine rs_ldcw (pc := 29) dJ6_bitCount_0f7a4_29 cnJ6_267 ?_
  refine rs_iand (pc := 32) dJ6_bitCount_0f7a4_32 ?_
  refine wk_istn0 (pc := 33) dJ6_bitCount_0f7a4_33 (by decide) ?_
  refine rs_iload_n (pc := 34) dJ6_bitCount_0f7a4_34 rfl ?_
  refine rs_iload_n (pc := 35) dJ6_bitCount_0f7a4_35 rfl ?_
  refine rs_bipush (v := 8) (pc := 36) dJ6_bitCount_0f7a4_36 rfl ?_
  refine rs_iushr (pc := 38) dJ6_bitCount_0f7a4_38 ?_
  refine rs_iadd (pc := 39) dJ6_bitCount_0f7a4_39 ?_
  refine wk_istn0 (pc := 40) dJ6_bitCount_0f7a4_40 (by decide) ?_
  refine rs_iload_n (pc := 41) dJ6_bitCount_0f7a4_41 rfl ?_
  refine rs_iload_n (pc := 42) dJ6_bitCount_0f7a4_42 rfl ?_
  refine rs_bipush (v := 16) (pc := 43) dJ6_bitCount_0f7a4_43 rfl ?_
  refine rs_iushr (pc := 45) dJ6_bitCount_0f7a4_45 ?_
  refine rs_iadd (pc := 46) dJ6_bitCount_0f7a4_46 ?_
  refine wk_istn0 (pc := 47) dJ6_bitCount_0f7a4_47 (by decide) ?_
  refine rs_iload_n (pc := 48) dJ6_bitCount_0f7a4_48 rfl ?_
  refine rs_bipush (v := 63) (pc := 49) dJ6_bitCount_0f7a4_49 rfl ?_
  refine rs_iand (pc := 51) dJ6_bitCount_0f7a4_51 ?_
  exact wk_iret (pc := 52) dJ6_bitCount_0f7a4_52 rfl (rfl) (rfl)
