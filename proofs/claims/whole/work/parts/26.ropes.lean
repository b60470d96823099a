/-! 26: Ropes (walks laid by wip/whole/p26.py) -/
def rp_re (t : Nat → Int64) (x : Nat) : Int32 := if t x = -1 then 0 else 1
def rp_li (t : Nat → Int64) (x : Nat) : Int32 := if t x = -1 then 0 else (t x - t x / 32 * 32).toInt32
def rp_wi (t : Nat → Int64) (x : Nat) : Int64 := if t x = -1 then 0 else t x / 32
theorem rp_re_0 {t : Nat → Int64} {x : Nat} : rp_re t x = 0 ↔ t x = -1 := by
  unfold rp_re
  split
  · simp [*]
  · simp [*]
theorem dX6_reach_0 : decode cX6_reach 0 = .ok (.iload_n 1, 1) := by decide +kernel
theorem dX6_reach_1 : decode cX6_reach 1 = .ok (.iconst 0, 1) := by decide +kernel
theorem dX6_reach_2 : decode cX6_reach 2 = .ok (.bipush 15, 2) := by decide +kernel
theorem dX6_reach_4 : decode cX6_reach 4 = .ok (.invokestatic 60, 3) := by decide +kernel
theorem dX6_reach_7 : decode cX6_reach 7 = .ok (.ifCond .eq 20, 3) := by decide +kernel
theorem dX6_reach_10 : decode cX6_reach 10 = .ok (.aload_n 0, 1) := by decide +kernel
theorem dX6_reach_11 : decode cX6_reach 11 = .ok (.getfield 9, 3) := by decide +kernel
theorem dX6_reach_14 : decode cX6_reach 14 = .ok (.iload_n 1, 1) := by decide +kernel
theorem dX6_reach_15 : decode cX6_reach 15 = .ok (.laload, 1) := by decide +kernel
theorem dX6_reach_16 : decode cX6_reach 16 = .ok (.ldc2_w 22, 3) := by decide +kernel
theorem dX6_reach_19 : decode cX6_reach 19 = .ok (.lcmp, 1) := by decide +kernel
theorem dX6_reach_20 : decode cX6_reach 20 = .ok (.ifCond .eq 7, 3) := by decide +kernel
theorem dX6_reach_23 : decode cX6_reach 23 = .ok (.iconst 1, 1) := by decide +kernel
theorem dX6_reach_24 : decode cX6_reach 24 = .ok (.goto 4, 3) := by decide +kernel
theorem dX6_reach_27 : decode cX6_reach 27 = .ok (.iconst 0, 1) := by decide +kernel
theorem dX6_reach_28 : decode cX6_reach 28 = .ok (.ireturn, 1) := by decide +kernel
set_option maxRecDepth 100000 in
set_option maxHeartbeats 4000000 in
theorem c_X6_reach {h : ai_H} {S : Md} (hrp : rp_at h S) {x : Nat} (hx : x < 16) : ai_Met MX6_reach [.ref 294, .int (nI x)] h (some (.int (rp_re (S.2.2.2 0) x))) h := by
  refine ai_met (ls := [.ref 294, .int (nI x)]) (by decide) (by simp [ai_en, Value.category]) (by rfl) ?_
  refine rs_iload_n (pc := 0) dX6_reach_0 rfl ?_
  refine rs_iconst (v := 0) (pc := 1) dX6_reach_1 rfl ?_
  refine rs_bipush (v := 15) (pc := 2) dX6_reach_2 rfl ?_
  refine rs_callS (as := [_, _, _]) (pc := 4) dX6_reach_4 mk_X11_isWithin mlX6_60 st_X11_isWithin rfl rfl (Nat.le_of_ble_eq_true rfl) (c_X11_isWithin) ?_
  refine rs_if_eq (tgt := 27) (pc := 7) dX6_reach_7 rfl (fun c_7 => absurd c_7 (by rw [show bi_in (nI x) 0 15 = 1 from bi_in_nI (z := 16) hx (by decide)]; decide)) (fun c_7 => ?_)
  refine rs_aload_n (pc := 10) dX6_reach_10 rfl ?_
  refine rs_getf (pc := 11) dX6_reach_11 fX6_9 (mo_lt hrp (by decide)) hrp.2.1 rfl ?_
  refine rs_iload_n (pc := 14) dX6_reach_14 rfl ?_
  refine rs_lald (pc := 15) dX6_reach_15 (mo_lt hrp (by decide)) (mo_getl (d := 0) (k := 0) (kd := 1) (l := 16) rfl (by decide) hrp) (vp_in_nI (n := x) (N := 16) hx (by decide)) ?_
  rw [nI_clamp (show x < 2 ^ 31 by omega)]
  refine rs_ldc2 (pc := 16) dX6_reach_16 cnX6_22 ?_
  refine wk_lcmp_eq (tgt := 27) (pc := 19) dX6_reach_19 dX6_reach_20 rfl (fun c_19 => ?_) (fun c_19 => ?_)
  · refine rs_iconst (v := 0) (pc := 27) dX6_reach_27 rfl ?_
    exact wk_zret (pc := 28) dX6_reach_28 rfl (Or.inl rfl) (by simp [rp_re, c_19]) (rfl)
  · refine rs_iconst (v := 1) (pc := 23) dX6_reach_23 rfl ?_
    refine rs_goto (tgt := 28) (pc := 24) dX6_reach_24 rfl ?_
    exact wk_zret (pc := 28) dX6_reach_28 rfl (Or.inr rfl) (by simp [rp_re, c_19]) (rfl)
theorem dX6_links_0 : decode cX6_links 0 = .ok (.aload_n 0, 1) := by decide +kernel
theorem dX6_links_1 : decode cX6_links 1 = .ok (.iload_n 1, 1) := by decide +kernel
theorem dX6_links_2 : decode cX6_links 2 = .ok (.invokevirtual 28, 3) := by decide +kernel
theorem dX6_links_5 : decode cX6_links 5 = .ok (.ifCond .eq 17, 3) := by decide +kernel
theorem dX6_links_8 : decode cX6_links 8 = .ok (.aload_n 0, 1) := by decide +kernel
theorem dX6_links_9 : decode cX6_links 9 = .ok (.getfield 9, 3) := by decide +kernel
theorem dX6_links_12 : decode cX6_links 12 = .ok (.iload_n 1, 1) := by decide +kernel
theorem dX6_links_13 : decode cX6_links 13 = .ok (.laload, 1) := by decide +kernel
theorem dX6_links_14 : decode cX6_links 14 = .ok (.ldc2_w 50, 3) := by decide +kernel
theorem dX6_links_17 : decode cX6_links 17 = .ok (.lrem, 1) := by decide +kernel
theorem dX6_links_18 : decode cX6_links 18 = .ok (.l2i, 1) := by decide +kernel
theorem dX6_links_19 : decode cX6_links 19 = .ok (.goto 4, 3) := by decide +kernel
theorem dX6_links_22 : decode cX6_links 22 = .ok (.iconst 0, 1) := by decide +kernel
theorem dX6_links_23 : decode cX6_links 23 = .ok (.ireturn, 1) := by decide +kernel
set_option maxRecDepth 100000 in
set_option maxHeartbeats 4000000 in
theorem c_X6_links {h : ai_H} {S : Md} (hrp : rp_at h S) {x : Nat} (hx : x < 16) : ai_Met MX6_links [.ref 294, .int (nI x)] h (some (.int (rp_li (S.2.2.2 0) x))) h := by
  refine ai_met (ls := [.ref 294, .int (nI x)]) (by decide) (by simp [ai_en, Value.category]) (by rfl) ?_
  refine rs_aload_n (pc := 0) dX6_links_0 rfl ?_
  refine rs_iload_n (pc := 1) dX6_links_1 rfl ?_
  refine rs_callV (as := [_]) (pc := 2) dX6_links_2 mk_X6_reach mlX6_28 in_X6_reach se_X6_reach rfl (mo_lt hrp (by decide)) hrp.2.1 rfl rfl (Nat.le_of_ble_eq_true rfl) (c_X6_reach hrp hx) ?_
  refine rs_if_eq (tgt := 22) (pc := 5) dX6_links_5 rfl (fun c_5 => ?_) (fun c_5 => ?_)
  · rw [rp_re_0] at c_5
    refine rs_iconst (v := 0) (pc := 22) dX6_links_22 rfl ?_
    exact wk_iret (pc := 23) dX6_links_23 rfl (by simp [rp_li, rp_wi, c_5]) (rfl)
  · rw [rp_re_0] at c_5
    refine rs_aload_n (pc := 8) dX6_links_8 rfl ?_
    refine rs_getf (pc := 9) dX6_links_9 fX6_9 (mo_lt hrp (by decide)) hrp.2.1 rfl ?_
    refine rs_iload_n (pc := 12) dX6_links_12 rfl ?_
    refine rs_lald (pc := 13) dX6_links_13 (mo_lt hrp (by decide)) (mo_getl (d := 0) (k := 0) (kd := 1) (l := 16) rfl (by decide) hrp) (vp_in_nI (n := x) (N := 16) hx (by decide)) ?_
    rw [nI_clamp (show x < 2 ^ 31 by omega)]
    refine rs_ldc2 (pc := 14) dX6_links_14 cnX6_50 ?_
    refine rs_lrem (pc := 17) dX6_links_17 (by decide) ?_
    refine rs_l2i (pc := 18) dX6_links_18 ?_
    refine rs_goto (tgt := 23) (pc := 19) dX6_links_19 rfl ?_
    exact wk_iret (pc := 23) dX6_links_23 rfl (by simp [rp_li, rp_wi, c_5]) (rfl)
theorem dX6_width_0 : decode cX6_width 0 = .ok (.aload_n 0, 1) := by decide +kernel
theorem dX6_width_1 : decode cX6_width 1 = .ok (.iload_n 1, 1) := by decide +kernel
theorem dX6_width_2 : decode cX6_width 2 = .ok (.invokevirtual 28, 3) := by decide +kernel
theorem dX6_width_5 : decode cX6_width 5 = .ok (.ifCond .eq 16, 3) := by decide +kernel
theorem dX6_width_8 : decode cX6_width 8 = .ok (.aload_n 0, 1) := by decide +kernel
theorem dX6_width_9 : decode cX6_width 9 = .ok (.getfield 9, 3) := by decide +kernel
theorem dX6_width_12 : decode cX6_width 12 = .ok (.iload_n 1, 1) := by decide +kernel
theorem dX6_width_13 : decode cX6_width 13 = .ok (.laload, 1) := by decide +kernel
theorem dX6_width_14 : decode cX6_width 14 = .ok (.ldc2_w 50, 3) := by decide +kernel
theorem dX6_width_17 : decode cX6_width 17 = .ok (.ldiv, 1) := by decide +kernel
theorem dX6_width_18 : decode cX6_width 18 = .ok (.goto 4, 3) := by decide +kernel
theorem dX6_width_21 : decode cX6_width 21 = .ok (.lconst 0, 1) := by decide +kernel
theorem dX6_width_22 : decode cX6_width 22 = .ok (.lreturn, 1) := by decide +kernel
set_option maxRecDepth 100000 in
set_option maxHeartbeats 4000000 in
theorem c_X6_width {h : ai_H} {S : Md} (hrp : rp_at h S) {x : Nat} (hx : x < 16) : ai_Met MX6_width [.ref 294, .int (nI x)] h (some (.long (rp_wi (S.2.2.2 0) x))) h := by
  refine ai_met (ls := [.ref 294, .int (nI x)]) (by decide) (by simp [ai_en, Value.category]) (by rfl) ?_
  refine rs_aload_n (pc := 0) dX6_width_0 rfl ?_
  refine rs_iload_n (pc := 1) dX6_width_1 rfl ?_
  refine rs_callV (as := [_]) (pc := 2) dX6_width_2 mk_X6_reach mlX6_28 in_X6_reach se_X6_reach rfl (mo_lt hrp (by decide)) hrp.2.1 rfl rfl (Nat.le_of_ble_eq_true rfl) (c_X6_reach hrp hx) ?_
  refine rs_if_eq (tgt := 21) (pc := 5) dX6_width_5 rfl (fun c_5 => ?_) (fun c_5 => ?_)
  · rw [rp_re_0] at c_5
    refine rs_lconst (v := 0) (pc := 21) dX6_width_21 rfl ?_
    exact wk_lret (pc := 22) dX6_width_22 rfl (by simp [rp_li, rp_wi, c_5]) (rfl)
  · rw [rp_re_0] at c_5
    refine rs_aload_n (pc := 8) dX6_width_8 rfl ?_
    refine rs_getf (pc := 9) dX6_width_9 fX6_9 (mo_lt hrp (by decide)) hrp.2.1 rfl ?_
    refine rs_iload_n (pc := 12) dX6_width_12 rfl ?_
    refine rs_lald (pc := 13) dX6_width_13 (mo_lt hrp (by decide)) (mo_getl (d := 0) (k := 0) (kd := 1) (l := 16) rfl (by decide) hrp) (vp_in_nI (n := x) (N := 16) hx (by decide)) ?_
    rw [nI_clamp (show x < 2 ^ 31 by omega)]
    refine rs_ldc2 (pc := 14) dX6_width_14 cnX6_50 ?_
    refine rs_ldiv (pc := 17) dX6_width_17 (by decide) ?_
    refine rs_goto (tgt := 22) (pc := 18) dX6_width_18 rfl ?_
    exact wk_lret (pc := 22) dX6_width_22 rfl (by simp [rp_li, rp_wi, c_5]) (rfl)
theorem dX6_lean_0 : decode cX6_lean 0 = .ok (.aload_n 0, 1) := by decide +kernel
theorem dX6_lean_1 : decode cX6_lean 1 = .ok (.iload_n 1, 1) := by decide +kernel
theorem dX6_lean_2 : decode cX6_lean 2 = .ok (.invokevirtual 28, 3) := by decide +kernel
theorem dX6_lean_5 : decode cX6_lean 5 = .ok (.ifCond .eq 12, 3) := by decide +kernel
theorem dX6_lean_8 : decode cX6_lean 8 = .ok (.aload_n 0, 1) := by decide +kernel
theorem dX6_lean_9 : decode cX6_lean 9 = .ok (.getfield 19, 3) := by decide +kernel
theorem dX6_lean_12 : decode cX6_lean 12 = .ok (.iload_n 1, 1) := by decide +kernel
theorem dX6_lean_13 : decode cX6_lean 13 = .ok (.laload, 1) := by decide +kernel
theorem dX6_lean_14 : decode cX6_lean 14 = .ok (.goto 4, 3) := by decide +kernel
theorem dX6_lean_17 : decode cX6_lean 17 = .ok (.lconst 0, 1) := by decide +kernel
theorem dX6_lean_18 : decode cX6_lean 18 = .ok (.lreturn, 1) := by decide +kernel
set_option maxRecDepth 100000 in
set_option maxHeartbeats 4000000 in
theorem c_X6_lean {h : ai_H} {S : Md} (hrp : rp_at h S) {x : Nat} (hx : x < 16) : ai_Met MX6_lean [.ref 294, .int (nI x)] h (some (.long (if S.2.2.2 0 x = -1 then 0 else S.2.2.2 2 x))) h := by
  refine ai_met (ls := [.ref 294, .int (nI x)]) (by decide) (by simp [ai_en, Value.category]) (by rfl) ?_
  refine rs_aload_n (pc := 0) dX6_lean_0 rfl ?_
  refine rs_iload_n (pc := 1) dX6_lean_1 rfl ?_
  refine rs_callV (as := [_]) (pc := 2) dX6_lean_2 mk_X6_reach mlX6_28 in_X6_reach se_X6_reach rfl (mo_lt hrp (by decide)) hrp.2.1 rfl rfl (Nat.le_of_ble_eq_true rfl) (c_X6_reach hrp hx) ?_
  refine rs_if_eq (tgt := 17) (pc := 5) dX6_lean_5 rfl (fun c_5 => ?_) (fun c_5 => ?_)
  · rw [rp_re_0] at c_5
    refine rs_lconst (v := 0) (pc := 17) dX6_lean_17 rfl ?_
    exact wk_lret (pc := 18) dX6_lean_18 rfl (by simp [c_5]) (rfl)
  · rw [rp_re_0] at c_5
    refine rs_aload_n (pc := 8) dX6_lean_8 rfl ?_
    refine rs_getf (pc := 9) dX6_lean_9 fX6_19 (mo_lt hrp (by decide)) hrp.2.1 rfl ?_
    refine rs_iload_n (pc := 12) dX6_lean_12 rfl ?_
    refine rs_lald (pc := 13) dX6_lean_13 (mo_lt hrp (by decide)) (mo_getl (d := 2) (k := 2) (kd := 1) (l := 16) rfl (by decide) hrp) (vp_in_nI (n := x) (N := 16) hx (by decide)) ?_
    rw [nI_clamp (show x < 2 ^ 31 by omega)]
    refine rs_goto (tgt := 18) (pc := 14) dX6_lean_14 rfl ?_
    exact wk_lret (pc := 18) dX6_lean_18 rfl (by simp [c_5]) (rfl)
def rp_by (T : Nat → Ty) (t : Nat → Int64) (x y : Nat) : Int64 := if t y = -1 then -1 else if mt_met T x y = 0 then -1 else t y + mt_wid T x y * 32 + 1
theorem dX6_tollBy_0 : decode cX6_tollBy 0 = .ok (.aload_n 0, 1) := by decide +kernel
theorem dX6_tollBy_1 : decode cX6_tollBy 1 = .ok (.iload_n 3, 1) := by decide +kernel
theorem dX6_tollBy_2 : decode cX6_tollBy 2 = .ok (.invokevirtual 28, 3) := by decide +kernel
theorem dX6_tollBy_5 : decode cX6_tollBy 5 = .ok (.ifCond .eq 12, 3) := by decide +kernel
theorem dX6_tollBy_8 : decode cX6_tollBy 8 = .ok (.aload_n 1, 1) := by decide +kernel
theorem dX6_tollBy_9 : decode cX6_tollBy 9 = .ok (.iload_n 2, 1) := by decide +kernel
theorem dX6_tollBy_10 : decode cX6_tollBy 10 = .ok (.iload_n 3, 1) := by decide +kernel
theorem dX6_tollBy_11 : decode cX6_tollBy 11 = .ok (.invokevirtual 40, 3) := by decide +kernel
theorem dX6_tollBy_14 : decode cX6_tollBy 14 = .ok (.ifCond .ne 7, 3) := by decide +kernel
theorem dX6_tollBy_17 : decode cX6_tollBy 17 = .ok (.ldc2_w 22, 3) := by decide +kernel
theorem dX6_tollBy_20 : decode cX6_tollBy 20 = .ok (.lreturn, 1) := by decide +kernel
theorem dX6_tollBy_21 : decode cX6_tollBy 21 = .ok (.aload_n 0, 1) := by decide +kernel
theorem dX6_tollBy_22 : decode cX6_tollBy 22 = .ok (.getfield 9, 3) := by decide +kernel
theorem dX6_tollBy_25 : decode cX6_tollBy 25 = .ok (.iload_n 3, 1) := by decide +kernel
theorem dX6_tollBy_26 : decode cX6_tollBy 26 = .ok (.laload, 1) := by decide +kernel
theorem dX6_tollBy_27 : decode cX6_tollBy 27 = .ok (.aload_n 1, 1) := by decide +kernel
theorem dX6_tollBy_28 : decode cX6_tollBy 28 = .ok (.iload_n 2, 1) := by decide +kernel
theorem dX6_tollBy_29 : decode cX6_tollBy 29 = .ok (.iload_n 3, 1) := by decide +kernel
theorem dX6_tollBy_30 : decode cX6_tollBy 30 = .ok (.invokevirtual 46, 3) := by decide +kernel
theorem dX6_tollBy_33 : decode cX6_tollBy 33 = .ok (.ldc2_w 50, 3) := by decide +kernel
theorem dX6_tollBy_36 : decode cX6_tollBy 36 = .ok (.lmul, 1) := by decide +kernel
theorem dX6_tollBy_37 : decode cX6_tollBy 37 = .ok (.ladd, 1) := by decide +kernel
theorem dX6_tollBy_38 : decode cX6_tollBy 38 = .ok (.lconst 1, 1) := by decide +kernel
theorem dX6_tollBy_39 : decode cX6_tollBy 39 = .ok (.ladd, 1) := by decide +kernel
theorem dX6_tollBy_40 : decode cX6_tollBy 40 = .ok (.lreturn, 1) := by decide +kernel
set_option maxRecDepth 100000 in
set_option maxHeartbeats 4000000 in
theorem c_X6_tollBy {h : ai_H} {S : Md} (hrp : rp_at h S) {T : Nat → Ty} (hmt : mt_at h T) {x : Nat} (hx : x < 16) {y : Nat} (hy : y < 16) : ai_Met MX6_tollBy [.ref 294, .ref 35, .int (nI x), .int (nI y)] h (some (.long (rp_by T (S.2.2.2 0) x y))) h := by
  refine ai_met (ls := [.ref 294, .ref 35, .int (nI x), .int (nI y)]) (by decide) (by simp [ai_en, Value.category]) (by rfl) ?_
  refine rs_aload_n (pc := 0) dX6_tollBy_0 rfl ?_
  refine rs_iload_n (pc := 1) dX6_tollBy_1 rfl ?_
  refine rs_callV (as := [_]) (pc := 2) dX6_tollBy_2 mk_X6_reach mlX6_28 in_X6_reach se_X6_reach rfl (mo_lt hrp (by decide)) hrp.2.1 rfl rfl (Nat.le_of_ble_eq_true rfl) (c_X6_reach hrp hy) ?_
  refine rs_if_eq (tgt := 17) (pc := 5) dX6_tollBy_5 rfl (fun c_5 => ?_) (fun c_5 => ?_)
  · rw [rp_re_0] at c_5
    refine rs_ldc2 (pc := 17) dX6_tollBy_17 cnX6_22 ?_
    exact wk_lret (pc := 20) dX6_tollBy_20 rfl (by simp [rp_by, c_5]) (rfl)
  · rw [rp_re_0] at c_5
    refine rs_aload_n (pc := 8) dX6_tollBy_8 rfl ?_
    refine rs_iload_n (pc := 9) dX6_tollBy_9 rfl ?_
    refine rs_iload_n (pc := 10) dX6_tollBy_10 rfl ?_
    refine rs_callV (as := [_, _]) (pc := 11) dX6_tollBy_11 mk_X4_areMet mlX6_40 in_X4_areMet se_X4_areMet rfl (mt_lt hmt (by decide)) hmt.2.1 rfl rfl (Nat.le_of_ble_eq_true rfl) (c_X4_areMet hmt hx hy) ?_
    refine rs_if_ne (tgt := 21) (pc := 14) dX6_tollBy_14 rfl (fun c_14 => ?_) (fun c_14 => ?_)
    · refine rs_aload_n (pc := 21) dX6_tollBy_21 rfl ?_
      refine rs_getf (pc := 22) dX6_tollBy_22 fX6_9 (mo_lt hrp (by decide)) hrp.2.1 rfl ?_
      refine rs_iload_n (pc := 25) dX6_tollBy_25 rfl ?_
      refine rs_lald (pc := 26) dX6_tollBy_26 (mo_lt hrp (by decide)) (mo_getl (d := 0) (k := 0) (kd := 1) (l := 16) rfl (by decide) hrp) (vp_in_nI (n := y) (N := 16) hy (by decide)) ?_
      rw [nI_clamp (show y < 2 ^ 31 by omega)]
      refine rs_aload_n (pc := 27) dX6_tollBy_27 rfl ?_
      refine rs_iload_n (pc := 28) dX6_tollBy_28 rfl ?_
      refine rs_iload_n (pc := 29) dX6_tollBy_29 rfl ?_
      refine rs_callV (as := [_, _]) (pc := 30) dX6_tollBy_30 mk_X4_width mlX6_46 in_X4_width se_X4_width rfl (mt_lt hmt (by decide)) hmt.2.1 rfl rfl (Nat.le_of_ble_eq_true rfl) (c_X4_width hmt hx hy) ?_
      refine rs_ldc2 (pc := 33) dX6_tollBy_33 cnX6_50 ?_
      refine rs_lmul (pc := 36) dX6_tollBy_36 ?_
      refine rs_ladd (pc := 37) dX6_tollBy_37 ?_
      refine rs_lconst (v := 1) (pc := 38) dX6_tollBy_38 rfl ?_
      refine rs_ladd (pc := 39) dX6_tollBy_39 ?_
      exact wk_lret (pc := 40) dX6_tollBy_40 rfl (by simp [rp_by, c_5, c_14]) (rfl)
    · refine rs_ldc2 (pc := 17) dX6_tollBy_17 cnX6_22 ?_
      exact wk_lret (pc := 20) dX6_tollBy_20 rfl (by simp [rp_by, c_5, c_14]) (rfl)
/-- the first y from b on with this toll, below n; -1: none -/
def rp_on (T : Nat → Ty) (t : Nat → Int64) (x n : Nat) : Nat → Nat → Int32
  | 0, _ => -1
  | m + 1, b => if n ≤ b then -1 else if rp_by T t x b = t x then nI b else rp_on T t x n m (b + 1)
theorem rp_on_end (T : Nat → Ty) (t : Nat → Int64) (x n m b : Nat) (h : n ≤ b) : rp_on T t x n m b = -1 := by
  cases m with
  | zero => rfl
  | succ m => rw [rp_on, if_pos h]
theorem dX6_firstOnward_0 : decode cX6_firstOnward 0 = .ok (.iconst 0, 1) := by decide +kernel
theorem dX6_firstOnward_1 : decode cX6_firstOnward 1 = .ok (.istore 4, 2) := by decide +kernel
theorem dX6_firstOnward_3 : decode cX6_firstOnward 3 = .ok (.iload 4, 2) := by decide +kernel
theorem dX6_firstOnward_5 : decode cX6_firstOnward 5 = .ok (.iload_n 2, 1) := by decide +kernel
theorem dX6_firstOnward_6 : decode cX6_firstOnward 6 = .ok (.if_icmp .ge 30, 3) := by decide +kernel
theorem dX6_firstOnward_9 : decode cX6_firstOnward 9 = .ok (.aload_n 0, 1) := by decide +kernel
theorem dX6_firstOnward_10 : decode cX6_firstOnward 10 = .ok (.aload_n 1, 1) := by decide +kernel
theorem dX6_firstOnward_11 : decode cX6_firstOnward 11 = .ok (.iload_n 3, 1) := by decide +kernel
theorem dX6_firstOnward_12 : decode cX6_firstOnward 12 = .ok (.iload 4, 2) := by decide +kernel
theorem dX6_firstOnward_14 : decode cX6_firstOnward 14 = .ok (.invokevirtual 52, 3) := by decide +kernel
theorem dX6_firstOnward_17 : decode cX6_firstOnward 17 = .ok (.aload_n 0, 1) := by decide +kernel
theorem dX6_firstOnward_18 : decode cX6_firstOnward 18 = .ok (.getfield 9, 3) := by decide +kernel
theorem dX6_firstOnward_21 : decode cX6_firstOnward 21 = .ok (.iload_n 3, 1) := by decide +kernel
theorem dX6_firstOnward_22 : decode cX6_firstOnward 22 = .ok (.laload, 1) := by decide +kernel
theorem dX6_firstOnward_23 : decode cX6_firstOnward 23 = .ok (.lcmp, 1) := by decide +kernel
theorem dX6_firstOnward_24 : decode cX6_firstOnward 24 = .ok (.ifCond .ne 6, 3) := by decide +kernel
theorem dX6_firstOnward_27 : decode cX6_firstOnward 27 = .ok (.iload 4, 2) := by decide +kernel
theorem dX6_firstOnward_29 : decode cX6_firstOnward 29 = .ok (.ireturn, 1) := by decide +kernel
theorem dX6_firstOnward_30 : decode cX6_firstOnward 30 = .ok (.iinc 4 1, 3) := by decide +kernel
theorem dX6_firstOnward_33 : decode cX6_firstOnward 33 = .ok (.goto (-30), 3) := by decide +kernel
theorem dX6_firstOnward_36 : decode cX6_firstOnward 36 = .ok (.iconst (-1), 1) := by decide +kernel
theorem dX6_firstOnward_37 : decode cX6_firstOnward 37 = .ok (.ireturn, 1) := by decide +kernel
set_option maxRecDepth 100000 in
set_option maxHeartbeats 4000000 in
theorem l_X6_firstOnward {h : ai_H} {S : Md} (hrp : rp_at h S) {T : Nat → Ty} (hmt : mt_at h T) {x : Nat} (hx : x < 16) {n : Nat} (hn : n ≤ 16) : ∀ (m b : Nat), b ≤ n → n + 1 ≤ b + m → ai_R MX6_firstOnward 3 [.ref 294, .ref 35, .int (nI n), .int (nI x), .int (nI b)] [] h (some (.int (rp_on T (S.2.2.2 0) x n m b))) h := by
  intro m
  induction m with
  | zero => intro b h1 h2; exact absurd h2 (by omega)
  | succ m ih =>
    intro b hb0 him
    refine rs_iload (pc := 3) dX6_firstOnward_3 rfl ?_
    refine rs_iload_n (pc := 5) dX6_firstOnward_5 rfl ?_
    refine rs_icmp_ge (tgt := 36) (pc := 6) dX6_firstOnward_6 rfl (fun c_6 => ?_) (fun c_6 => ?_)
    · have hbe : b = n := lp_exit rfl (by omega) hb0 c_6
      refine rs_iconst (v := -1) (pc := 36) dX6_firstOnward_36 rfl ?_
      exact wk_iret (pc := 37) dX6_firstOnward_37 rfl (by rw [rp_on_end _ _ _ _ _ _ (by omega)]) (rfl)
    · have hb : b < n := lp_go rfl (by omega) c_6
      refine rs_aload_n (pc := 9) dX6_firstOnward_9 rfl ?_
      refine rs_aload_n (pc := 10) dX6_firstOnward_10 rfl ?_
      refine rs_iload_n (pc := 11) dX6_firstOnward_11 rfl ?_
      refine rs_iload (pc := 12) dX6_firstOnward_12 rfl ?_
      refine rs_callV (as := [_, _, _]) (pc := 14) dX6_firstOnward_14 mk_X6_tollBy mlX6_52 in_X6_tollBy se_X6_tollBy rfl (mo_lt hrp (by decide)) hrp.2.1 rfl rfl (Nat.le_of_ble_eq_true rfl) (c_X6_tollBy hrp hmt hx (show b < 16 by omega)) ?_
      refine rs_aload_n (pc := 17) dX6_firstOnward_17 rfl ?_
      refine rs_getf (pc := 18) dX6_firstOnward_18 fX6_9 (mo_lt hrp (by decide)) hrp.2.1 rfl ?_
      refine rs_iload_n (pc := 21) dX6_firstOnward_21 rfl ?_
      refine rs_lald (pc := 22) dX6_firstOnward_22 (mo_lt hrp (by decide)) (mo_getl (d := 0) (k := 0) (kd := 1) (l := 16) rfl (by decide) hrp) (vp_in_nI (n := x) (N := 16) hx (by decide)) ?_
      rw [nI_clamp (show x < 2 ^ 31 by omega)]
      refine wk_lcmp_ne (tgt := 30) (pc := 23) dX6_firstOnward_23 dX6_firstOnward_24 rfl (fun c_23 => ?_) (fun c_23 => ?_)
      · refine wk_iinc4 (v := nI (b + 1)) (pc := 30) dX6_firstOnward_30 (by decide) rfl (nI_1 b) ?_
        refine rs_goto (tgt := 3) (pc := 33) dX6_firstOnward_33 rfl ?_
        rw [rp_on, if_neg (show ¬ n ≤ b by omega), if_neg c_23]
        exact ih (b + 1) (by omega) (by omega)
      · refine rs_iload (pc := 27) dX6_firstOnward_27 rfl ?_
        exact wk_iret (pc := 29) dX6_firstOnward_29 rfl (by rw [rp_on, if_neg (by omega), if_pos c_23]) (rfl)
set_option maxRecDepth 100000 in
set_option maxHeartbeats 4000000 in
theorem c_X6_firstOnward {h : ai_H} {S : Md} (hrp : rp_at h S) {T : Nat → Ty} (hmt : mt_at h T) {x : Nat} (hx : x < 16) {n : Nat} (hn : n ≤ 16) : ai_Met MX6_firstOnward [.ref 294, .ref 35, .int (nI n), .int (nI x)] h (some (.int (rp_on T (S.2.2.2 0) x n (n + 1) 0))) h := by
  refine ai_met (ls := [.ref 294, .ref 35, .int (nI n), .int (nI x), .float 0]) (by decide) (by simp [ai_en, Value.category]) (by rfl) ?_
  refine rs_iconst (v := 0) (pc := 0) dX6_firstOnward_0 rfl ?_
  refine wk_ist4 (pc := 1) dX6_firstOnward_1 (by decide) rfl ?_
  exact l_X6_firstOnward hrp hmt hx hn (n + 1) 0 (by omega) (by omega)
theorem dX6_along_0 : decode cX6_along 0 = .ok (.iload_n 1, 1) := by decide +kernel
theorem dX6_along_1 : decode cX6_along 1 = .ok (.istore_n 3, 1) := by decide +kernel
theorem dX6_along_2 : decode cX6_along 2 = .ok (.iconst 0, 1) := by decide +kernel
theorem dX6_along_3 : decode cX6_along 3 = .ok (.istore 4, 2) := by decide +kernel
theorem dX6_along_5 : decode cX6_along 5 = .ok (.iload 4, 2) := by decide +kernel
theorem dX6_along_7 : decode cX6_along 7 = .ok (.iload_n 2, 1) := by decide +kernel
theorem dX6_along_8 : decode cX6_along 8 = .ok (.if_icmp .ge 26, 3) := by decide +kernel
theorem dX6_along_11 : decode cX6_along 11 = .ok (.iload_n 3, 1) := by decide +kernel
theorem dX6_along_12 : decode cX6_along 12 = .ok (.iconst 0, 1) := by decide +kernel
theorem dX6_along_13 : decode cX6_along 13 = .ok (.bipush 15, 2) := by decide +kernel
theorem dX6_along_15 : decode cX6_along 15 = .ok (.invokestatic 60, 3) := by decide +kernel
theorem dX6_along_18 : decode cX6_along 18 = .ok (.ifCond .eq 16, 3) := by decide +kernel
theorem dX6_along_21 : decode cX6_along 21 = .ok (.aload_n 0, 1) := by decide +kernel
theorem dX6_along_22 : decode cX6_along 22 = .ok (.getfield 15, 3) := by decide +kernel
theorem dX6_along_25 : decode cX6_along 25 = .ok (.iload_n 3, 1) := by decide +kernel
theorem dX6_along_26 : decode cX6_along 26 = .ok (.iaload, 1) := by decide +kernel
theorem dX6_along_27 : decode cX6_along 27 = .ok (.istore_n 3, 1) := by decide +kernel
theorem dX6_along_28 : decode cX6_along 28 = .ok (.iinc 4 1, 3) := by decide +kernel
theorem dX6_along_31 : decode cX6_along 31 = .ok (.goto (-26), 3) := by decide +kernel
theorem dX6_along_34 : decode cX6_along 34 = .ok (.iload_n 3, 1) := by decide +kernel
theorem dX6_along_35 : decode cX6_along 35 = .ok (.ireturn, 1) := by decide +kernel
set_option maxRecDepth 100000 in
set_option maxHeartbeats 4000000 in
theorem l_X6_along {h : ai_H} {S : Md} (hrp : rp_at h S) {p : Nat → Nat} {L : Nat} (hL : L < 2 ^ 31) (hp : ∀ i, i < L → p i < 16 ∧ S.2.2.1 1 (p i) = nI (p (i + 1))) (a : Int32) : ∀ (m i : Nat), i ≤ L → L + 1 ≤ i + m → ai_R MX6_along 5 [.ref 294, .int a, .int (nI L), .int (nI (p i)), .int (nI i)] [] h (some (.int (nI (p L)))) h := by
  intro m
  induction m with
  | zero => intro i h1 h2; exact absurd h2 (by omega)
  | succ m ih =>
    intro i hi0 him
    refine rs_iload (pc := 5) dX6_along_5 rfl ?_
    refine rs_iload_n (pc := 7) dX6_along_7 rfl ?_
    refine rs_icmp_ge (tgt := 34) (pc := 8) dX6_along_8 rfl (fun c_8 => ?_) (fun c_8 => ?_)
    · have hie : i = L := lp_exit rfl (by omega) hi0 c_8
      subst hie
      refine rs_iload_n (pc := 34) dX6_along_34 rfl ?_
      exact wk_iret (pc := 35) dX6_along_35 rfl (rfl) (rfl)
    · have hi : i < L := lp_go rfl (by omega) c_8
      obtain ⟨hp1, hp2⟩ := hp i hi
      refine rs_iload_n (pc := 11) dX6_along_11 rfl ?_
      refine rs_iconst (v := 0) (pc := 12) dX6_along_12 rfl ?_
      refine rs_bipush (v := 15) (pc := 13) dX6_along_13 rfl ?_
      refine rs_callS (as := [_, _, _]) (pc := 15) dX6_along_15 mk_X11_isWithin mlX6_60 st_X11_isWithin rfl rfl (Nat.le_of_ble_eq_true rfl) (c_X11_isWithin) ?_
      refine rs_if_eq (tgt := 34) (pc := 18) dX6_along_18 rfl (fun c_18 => absurd c_18 (by rw [show bi_in (nI (p i)) 0 15 = 1 from bi_in_nI (z := 16) hp1 (by decide)]; decide)) (fun c_18 => ?_)
      refine rs_aload_n (pc := 21) dX6_along_21 rfl ?_
      refine rs_getf (pc := 22) dX6_along_22 fX6_15 (mo_lt hrp (by decide)) hrp.2.1 rfl ?_
      refine rs_iload_n (pc := 25) dX6_along_25 rfl ?_
      refine rs_iald (pc := 26) dX6_along_26 (mo_lt hrp (by decide)) (mo_geti (d := 1) (k := 1) (kd := 0) (l := 16) rfl (by decide) hrp) (vp_in_nI (n := p i) (N := 16) hp1 (by decide)) ?_
      rw [nI_clamp (show p i < 2 ^ 31 by omega), hp2]
      refine wk_istn3 (pc := 27) dX6_along_27 (by decide) rfl ?_
      refine wk_iinc4 (v := nI (i + 1)) (pc := 28) dX6_along_28 (by decide) rfl (nI_1 i) ?_
      refine rs_goto (tgt := 5) (pc := 31) dX6_along_31 rfl ?_
      exact ih (i + 1) (by omega) (by omega)
set_option maxRecDepth 100000 in
set_option maxHeartbeats 4000000 in
theorem c_X6_along {h : ai_H} {S : Md} (hrp : rp_at h S) {p : Nat → Nat} {L : Nat} (hL : L < 2 ^ 31) (hp : ∀ i, i < L → p i < 16 ∧ S.2.2.1 1 (p i) = nI (p (i + 1))) : ai_Met MX6_along [.ref 294, .int (nI (p 0)), .int (nI L)] h (some (.int (nI (p L)))) h := by
  refine ai_met (ls := [.ref 294, .int (nI (p 0)), .int (nI L), .float 0, .float 0]) (by decide) (by simp [ai_en, Value.category]) (by rfl) ?_
  refine rs_iload_n (pc := 0) dX6_along_0 rfl ?_
  refine wk_istn3 (pc := 1) dX6_along_1 (by decide) rfl ?_
  refine rs_iconst (v := 0) (pc := 2) dX6_along_2 rfl ?_
  refine wk_ist4 (pc := 3) dX6_along_3 (by decide) rfl ?_
  exact l_X6_along hrp hL hp _ (L + 1) 0 (by omega) (by omega)
def rp_sum (T : Nat → Ty) (p : Nat → Nat) : Nat → Int64
  | 0 => 0
  | n + 1 => rp_sum T p n + ty_mean (T (p n * 16 + p (n + 1))).1 (T (p n * 16 + p (n + 1))).2.1
theorem dX6_sumAlong_0 : decode cX6_sumAlong 0 = .ok (.lconst 0, 1) := by decide +kernel
theorem dX6_sumAlong_1 : decode cX6_sumAlong 1 = .ok (.lstore_n 3, 1) := by decide +kernel
theorem dX6_sumAlong_2 : decode cX6_sumAlong 2 = .ok (.iload_n 2, 1) := by decide +kernel
theorem dX6_sumAlong_3 : decode cX6_sumAlong 3 = .ok (.istore 5, 2) := by decide +kernel
theorem dX6_sumAlong_5 : decode cX6_sumAlong 5 = .ok (.iconst 0, 1) := by decide +kernel
theorem dX6_sumAlong_6 : decode cX6_sumAlong 6 = .ok (.istore 6, 2) := by decide +kernel
theorem dX6_sumAlong_8 : decode cX6_sumAlong 8 = .ok (.iload 6, 2) := by decide +kernel
theorem dX6_sumAlong_10 : decode cX6_sumAlong 10 = .ok (.aload_n 0, 1) := by decide +kernel
theorem dX6_sumAlong_11 : decode cX6_sumAlong 11 = .ok (.iload_n 2, 1) := by decide +kernel
theorem dX6_sumAlong_12 : decode cX6_sumAlong 12 = .ok (.invokevirtual 56, 3) := by decide +kernel
theorem dX6_sumAlong_15 : decode cX6_sumAlong 15 = .ok (.if_icmp .ge 48, 3) := by decide +kernel
theorem dX6_sumAlong_18 : decode cX6_sumAlong 18 = .ok (.iload 5, 2) := by decide +kernel
theorem dX6_sumAlong_20 : decode cX6_sumAlong 20 = .ok (.iconst 0, 1) := by decide +kernel
theorem dX6_sumAlong_21 : decode cX6_sumAlong 21 = .ok (.bipush 15, 2) := by decide +kernel
theorem dX6_sumAlong_23 : decode cX6_sumAlong 23 = .ok (.invokestatic 60, 3) := by decide +kernel
theorem dX6_sumAlong_26 : decode cX6_sumAlong 26 = .ok (.ifCond .eq 37, 3) := by decide +kernel
theorem dX6_sumAlong_29 : decode cX6_sumAlong 29 = .ok (.lload_n 3, 1) := by decide +kernel
theorem dX6_sumAlong_30 : decode cX6_sumAlong 30 = .ok (.aload_n 1, 1) := by decide +kernel
theorem dX6_sumAlong_31 : decode cX6_sumAlong 31 = .ok (.iload 5, 2) := by decide +kernel
theorem dX6_sumAlong_33 : decode cX6_sumAlong 33 = .ok (.aload_n 0, 1) := by decide +kernel
theorem dX6_sumAlong_34 : decode cX6_sumAlong 34 = .ok (.getfield 15, 3) := by decide +kernel
theorem dX6_sumAlong_37 : decode cX6_sumAlong 37 = .ok (.iload 5, 2) := by decide +kernel
theorem dX6_sumAlong_39 : decode cX6_sumAlong 39 = .ok (.iaload, 1) := by decide +kernel
theorem dX6_sumAlong_40 : decode cX6_sumAlong 40 = .ok (.invokevirtual 64, 3) := by decide +kernel
theorem dX6_sumAlong_43 : decode cX6_sumAlong 43 = .ok (.invokevirtual 68, 3) := by decide +kernel
theorem dX6_sumAlong_46 : decode cX6_sumAlong 46 = .ok (.ladd, 1) := by decide +kernel
theorem dX6_sumAlong_47 : decode cX6_sumAlong 47 = .ok (.lstore_n 3, 1) := by decide +kernel
theorem dX6_sumAlong_48 : decode cX6_sumAlong 48 = .ok (.aload_n 0, 1) := by decide +kernel
theorem dX6_sumAlong_49 : decode cX6_sumAlong 49 = .ok (.getfield 15, 3) := by decide +kernel
theorem dX6_sumAlong_52 : decode cX6_sumAlong 52 = .ok (.iload 5, 2) := by decide +kernel
theorem dX6_sumAlong_54 : decode cX6_sumAlong 54 = .ok (.iaload, 1) := by decide +kernel
theorem dX6_sumAlong_55 : decode cX6_sumAlong 55 = .ok (.istore 5, 2) := by decide +kernel
theorem dX6_sumAlong_57 : decode cX6_sumAlong 57 = .ok (.iinc 6 1, 3) := by decide +kernel
theorem dX6_sumAlong_60 : decode cX6_sumAlong 60 = .ok (.goto (-52), 3) := by decide +kernel
theorem dX6_sumAlong_63 : decode cX6_sumAlong 63 = .ok (.lload_n 3, 1) := by decide +kernel
theorem dX6_sumAlong_64 : decode cX6_sumAlong 64 = .ok (.lreturn, 1) := by decide +kernel
set_option maxRecDepth 100000 in
set_option maxHeartbeats 4000000 in
theorem l_X6_sumAlong {h : ai_H} {S : Md} (hrp : rp_at h S) {T : Nat → Ty} (hmt : mt_at h T) {p : Nat → Nat} {L : Nat} (hL : L < 2 ^ 31) (h0 : p 0 < 16) (eL : rp_li (S.2.2.2 0) (p 0) = nI L) (hp : ∀ i, i < L → p i < 16 ∧ S.2.2.1 1 (p i) = nI (p (i + 1)) ∧ p (i + 1) < 16) : ∀ (m i : Nat), i ≤ L → L + 1 ≤ i + m → ai_R MX6_sumAlong 8 [.ref 294, .ref 35, .int (nI (p 0)), .long (rp_sum T p i), .float 0, .int (nI (p i)), .int (nI i)] [] h (some (.long (rp_sum T p L))) h := by
  intro m
  induction m with
  | zero => intro i h1 h2; exact absurd h2 (by omega)
  | succ m ih =>
    intro i hi0 him
    refine rs_iload (pc := 8) dX6_sumAlong_8 rfl ?_
    refine rs_aload_n (pc := 10) dX6_sumAlong_10 rfl ?_
    refine rs_iload_n (pc := 11) dX6_sumAlong_11 rfl ?_
    refine rs_callV (as := [_]) (pc := 12) dX6_sumAlong_12 mk_X6_links mlX6_56 in_X6_links se_X6_links rfl (mo_lt hrp (by decide)) hrp.2.1 rfl rfl (Nat.le_of_ble_eq_true rfl) (c_X6_links hrp h0) ?_
    rw [eL]
    refine rs_icmp_ge (tgt := 63) (pc := 15) dX6_sumAlong_15 rfl (fun c_15 => ?_) (fun c_15 => ?_)
    · have hie : i = L := lp_exit rfl (by omega) hi0 c_15
      subst hie
      refine rs_lload_n (pc := 63) dX6_sumAlong_63 rfl ?_
      exact wk_lret (pc := 64) dX6_sumAlong_64 rfl (rfl) (rfl)
    · have hi : i < L := lp_go rfl (by omega) c_15
      obtain ⟨hp1, hp2, hp3⟩ := hp i hi
      refine rs_iload (pc := 18) dX6_sumAlong_18 rfl ?_
      refine rs_iconst (v := 0) (pc := 20) dX6_sumAlong_20 rfl ?_
      refine rs_bipush (v := 15) (pc := 21) dX6_sumAlong_21 rfl ?_
      refine rs_callS (as := [_, _, _]) (pc := 23) dX6_sumAlong_23 mk_X11_isWithin mlX6_60 st_X11_isWithin rfl rfl (Nat.le_of_ble_eq_true rfl) (c_X11_isWithin) ?_
      refine rs_if_eq (tgt := 63) (pc := 26) dX6_sumAlong_26 rfl (fun c_26 => absurd c_26 (by rw [show bi_in (nI (p i)) 0 15 = 1 from bi_in_nI (z := 16) hp1 (by decide)]; decide)) (fun c_26 => ?_)
      refine rs_lload_n (pc := 29) dX6_sumAlong_29 rfl ?_
      refine rs_aload_n (pc := 30) dX6_sumAlong_30 rfl ?_
      refine rs_iload (pc := 31) dX6_sumAlong_31 rfl ?_
      refine rs_aload_n (pc := 33) dX6_sumAlong_33 rfl ?_
      refine rs_getf (pc := 34) dX6_sumAlong_34 fX6_15 (mo_lt hrp (by decide)) hrp.2.1 rfl ?_
      refine rs_iload (pc := 37) dX6_sumAlong_37 rfl ?_
      refine rs_iald (pc := 39) dX6_sumAlong_39 (mo_lt hrp (by decide)) (mo_geti (d := 1) (k := 1) (kd := 0) (l := 16) rfl (by decide) hrp) (vp_in_nI (n := p i) (N := 16) hp1 (by decide)) ?_
      rw [nI_clamp (show p i < 2 ^ 31 by omega), hp2]
      refine rs_callV (as := [_, _]) (pc := 40) dX6_sumAlong_40 mk_X4_of mlX6_64 in_X4_of se_X4_of rfl (mt_lt hmt (by decide)) hmt.2.1 rfl rfl (Nat.le_of_ble_eq_true rfl) (c_X4_of hmt hp1 hp3) ?_
      refine rs_callV (as := []) (pc := 43) dX6_sumAlong_43 mk_X9_mean mlX6_68 in_X9_mean se_X9_mean rfl (mt_lt hmt (by omega)) (hmt.2.2.2.2 (p i * 16 + p (i + 1)) (by omega)) rfl rfl (Nat.le_of_ble_eq_true rfl) (c_X9_mean (mt_lt hmt (by omega)) (hmt.2.2.2.2 (p i * 16 + p (i + 1)) (by omega))) ?_
      refine rs_ladd (pc := 46) dX6_sumAlong_46 ?_
      refine wk_lstn3 (pc := 47) dX6_sumAlong_47 (by decide) rfl ?_
      refine rs_aload_n (pc := 48) dX6_sumAlong_48 rfl ?_
      refine rs_getf (pc := 49) dX6_sumAlong_49 fX6_15 (mo_lt hrp (by decide)) hrp.2.1 rfl ?_
      refine rs_iload (pc := 52) dX6_sumAlong_52 rfl ?_
      refine rs_iald (pc := 54) dX6_sumAlong_54 (mo_lt hrp (by decide)) (mo_geti (d := 1) (k := 1) (kd := 0) (l := 16) rfl (by decide) hrp) (vp_in_nI (n := p i) (N := 16) hp1 (by decide)) ?_
      rw [nI_clamp (show p i < 2 ^ 31 by omega), hp2]
      refine wk_ist5 (pc := 55) dX6_sumAlong_55 (by decide) rfl ?_
      refine wk_iinc6 (v := nI (i + 1)) (pc := 57) dX6_sumAlong_57 (by decide) rfl (nI_1 i) ?_
      refine rs_goto (tgt := 8) (pc := 60) dX6_sumAlong_60 rfl ?_
      exact ih (i + 1) (by omega) (by omega)
set_option maxRecDepth 100000 in
set_option maxHeartbeats 4000000 in
theorem c_X6_sumAlong {h : ai_H} {S : Md} (hrp : rp_at h S) {T : Nat → Ty} (hmt : mt_at h T) {p : Nat → Nat} {L : Nat} (hL : L < 2 ^ 31) (h0 : p 0 < 16) (eL : rp_li (S.2.2.2 0) (p 0) = nI L) (hp : ∀ i, i < L → p i < 16 ∧ S.2.2.1 1 (p i) = nI (p (i + 1)) ∧ p (i + 1) < 16) : ai_Met MX6_sumAlong [.ref 294, .ref 35, .int (nI (p 0))] h (some (.long (rp_sum T p L))) h := by
  refine ai_met (ls := [.ref 294, .ref 35, .int (nI (p 0)), .float 0, .float 0, .float 0, .float 0]) (by decide) (by simp [ai_en, Value.category]) (by rfl) ?_
  refine rs_lconst (v := 0) (pc := 0) dX6_sumAlong_0 rfl ?_
  refine wk_lstn3 (pc := 1) dX6_sumAlong_1 (by decide) rfl ?_
  refine rs_iload_n (pc := 2) dX6_sumAlong_2 rfl ?_
  refine wk_ist5 (pc := 3) dX6_sumAlong_3 (by decide) rfl ?_
  refine rs_iconst (v := 0) (pc := 5) dX6_sumAlong_5 rfl ?_
  refine wk_ist6 (pc := 6) dX6_sumAlong_6 (by decide) rfl ?_
  exact l_X6_sumAlong hrp hmt hL h0 eL hp (L + 1) 0 (by omega) (by omega)
