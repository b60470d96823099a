/-! 11: the JDK numbers, isWithin, Table, Tally (walks laid by wip/whole/p11.py) -/
def bi_in (a b c : Int32) : Int32 := if a < b then 0 else if c < a then 0 else 1
def bi_maxI (a b : Int32) : Int32 := if a < b then b else a
def bi_minI (a b : Int32) : Int32 := if b < a then b else a
def bi_maxL (a b : Int64) : Int64 := if a < b then b else a
def bi_minL (a b : Int64) : Int64 := if b < a then b else a
def bi_absL (a : Int64) : Int64 := if 0 ≤ a then a else -a
def bi_fdI (a b : Int32) : Int32 := if 0 ≤ a ^^^ b then a / b else if a / b * b = a then a / b else a / b - 1
def bi_fdL (a b : Int64) : Int64 := if 0 ≤ a ^^^ b then a / b else if a / b * b = a then a / b else a / b - 1
theorem dJ9_max_7cf53_0 : decode cJ9_max_7cf53 0 = .ok (.iload_n 0, 1) := by decide +kernel
theorem dJ9_max_7cf53_1 : decode cJ9_max_7cf53 1 = .ok (.iload_n 1, 1) := by decide +kernel
theorem dJ9_max_7cf53_2 : decode cJ9_max_7cf53 2 = .ok (.if_icmp .lt 7, 3) := by decide +kernel
theorem dJ9_max_7cf53_5 : decode cJ9_max_7cf53 5 = .ok (.iload_n 0, 1) := by decide +kernel
theorem dJ9_max_7cf53_6 : decode cJ9_max_7cf53 6 = .ok (.goto 4, 3) := by decide +kernel
theorem dJ9_max_7cf53_9 : decode cJ9_max_7cf53 9 = .ok (.iload_n 1, 1) := by decide +kernel
theorem dJ9_max_7cf53_10 : decode cJ9_max_7cf53 10 = .ok (.ireturn, 1) := by decide +kernel
set_option maxRecDepth 100000 in
set_option maxHeartbeats 4000000 in
theorem c_maxI {h : ai_H} {a b : Int32} : ai_Met MJ9_max_7cf53 [.int a, .int b] h (some (.int (bi_maxI a b))) h := by
  refine ai_metF (ls := [.int a, .int b]) (by decide +kernel) (by simp [ai_en, Value.category]) (by rfl) ?_
  refine rs_iload_n (pc := 0) dJ9_max_7cf53_0 rfl ?_
  refine rs_iload_n (pc := 1) dJ9_max_7cf53_1 rfl ?_
  refine rs_icmp_lt (tgt := 9) (pc := 2) dJ9_max_7cf53_2 rfl (fun c_2 => ?_) (fun c_2 => ?_)
  · refine rs_iload_n (pc := 9) dJ9_max_7cf53_9 rfl ?_
    exact wk_iret (pc := 10) dJ9_max_7cf53_10 rfl (by simp [bi_maxI, *]) (rfl)
  · refine rs_iload_n (pc := 5) dJ9_max_7cf53_5 rfl ?_
    refine rs_goto (tgt := 10) (pc := 6) dJ9_max_7cf53_6 rfl ?_
    exact wk_iret (pc := 10) dJ9_max_7cf53_10 rfl (by simp [bi_maxI, *]) (rfl)
theorem dJ9_min_7cf53_0 : decode cJ9_min_7cf53 0 = .ok (.iload_n 0, 1) := by decide +kernel
theorem dJ9_min_7cf53_1 : decode cJ9_min_7cf53 1 = .ok (.iload_n 1, 1) := by decide +kernel
theorem dJ9_min_7cf53_2 : decode cJ9_min_7cf53 2 = .ok (.if_icmp .gt 7, 3) := by decide +kernel
theorem dJ9_min_7cf53_5 : decode cJ9_min_7cf53 5 = .ok (.iload_n 0, 1) := by decide +kernel
theorem dJ9_min_7cf53_6 : decode cJ9_min_7cf53 6 = .ok (.goto 4, 3) := by decide +kernel
theorem dJ9_min_7cf53_9 : decode cJ9_min_7cf53 9 = .ok (.iload_n 1, 1) := by decide +kernel
theorem dJ9_min_7cf53_10 : decode cJ9_min_7cf53 10 = .ok (.ireturn, 1) := by decide +kernel
set_option maxRecDepth 100000 in
set_option maxHeartbeats 4000000 in
theorem c_minI {h : ai_H} {a b : Int32} : ai_Met MJ9_min_7cf53 [.int a, .int b] h (some (.int (bi_minI a b))) h := by
  refine ai_metF (ls := [.int a, .int b]) (by decide +kernel) (by simp [ai_en, Value.category]) (by rfl) ?_
  refine rs_iload_n (pc := 0) dJ9_min_7cf53_0 rfl ?_
  refine rs_iload_n (pc := 1) dJ9_min_7cf53_1 rfl ?_
  refine rs_icmp_gt (tgt := 9) (pc := 2) dJ9_min_7cf53_2 rfl (fun c_2 => ?_) (fun c_2 => ?_)
  · refine rs_iload_n (pc := 9) dJ9_min_7cf53_9 rfl ?_
    exact wk_iret (pc := 10) dJ9_min_7cf53_10 rfl (by simp [bi_minI, *]) (rfl)
  · refine rs_iload_n (pc := 5) dJ9_min_7cf53_5 rfl ?_
    refine rs_goto (tgt := 10) (pc := 6) dJ9_min_7cf53_6 rfl ?_
    exact wk_iret (pc := 10) dJ9_min_7cf53_10 rfl (by simp [bi_minI, *]) (rfl)
theorem dJ9_max_f86c9_0 : decode cJ9_max_f86c9 0 = .ok (.lload_n 0, 1) := by decide +kernel
theorem dJ9_max_f86c9_1 : decode cJ9_max_f86c9 1 = .ok (.lload_n 2, 1) := by decide +kernel
theorem dJ9_max_f86c9_2 : decode cJ9_max_f86c9 2 = .ok (.lcmp, 1) := by decide +kernel
theorem dJ9_max_f86c9_3 : decode cJ9_max_f86c9 3 = .ok (.ifCond .lt 7, 3) := by decide +kernel
theorem dJ9_max_f86c9_6 : decode cJ9_max_f86c9 6 = .ok (.lload_n 0, 1) := by decide +kernel
theorem dJ9_max_f86c9_7 : decode cJ9_max_f86c9 7 = .ok (.goto 4, 3) := by decide +kernel
theorem dJ9_max_f86c9_10 : decode cJ9_max_f86c9 10 = .ok (.lload_n 2, 1) := by decide +kernel
theorem dJ9_max_f86c9_11 : decode cJ9_max_f86c9 11 = .ok (.lreturn, 1) := by decide +kernel
set_option maxRecDepth 100000 in
set_option maxHeartbeats 4000000 in
theorem c_maxL {h : ai_H} {a b : Int64} : ai_Met MJ9_max_f86c9 [.long a, .long b] h (some (.long (bi_maxL a b))) h := by
  refine ai_metF (ls := [.long a, .float 0, .long b, .float 0]) (by decide +kernel) (by simp [ai_en, Value.category]) (by rfl) ?_
  refine rs_lload_n (pc := 0) dJ9_max_f86c9_0 rfl ?_
  refine rs_lload_n (pc := 1) dJ9_max_f86c9_1 rfl ?_
  refine wk_lcmp_lt (tgt := 10) (pc := 2) dJ9_max_f86c9_2 dJ9_max_f86c9_3 rfl (fun c_2 => ?_) (fun c_2 => ?_)
  · refine rs_lload_n (pc := 10) dJ9_max_f86c9_10 rfl ?_
    exact wk_lret (pc := 11) dJ9_max_f86c9_11 rfl (by simp [bi_maxL, *]) (rfl)
  · refine rs_lload_n (pc := 6) dJ9_max_f86c9_6 rfl ?_
    refine rs_goto (tgt := 11) (pc := 7) dJ9_max_f86c9_7 rfl ?_
    exact wk_lret (pc := 11) dJ9_max_f86c9_11 rfl (by simp [bi_maxL, *]) (rfl)
theorem dJ9_min_f86c9_0 : decode cJ9_min_f86c9 0 = .ok (.lload_n 0, 1) := by decide +kernel
theorem dJ9_min_f86c9_1 : decode cJ9_min_f86c9 1 = .ok (.lload_n 2, 1) := by decide +kernel
theorem dJ9_min_f86c9_2 : decode cJ9_min_f86c9 2 = .ok (.lcmp, 1) := by decide +kernel
theorem dJ9_min_f86c9_3 : decode cJ9_min_f86c9 3 = .ok (.ifCond .gt 7, 3) := by decide +kernel
theorem dJ9_min_f86c9_6 : decode cJ9_min_f86c9 6 = .ok (.lload_n 0, 1) := by decide +kernel
theorem dJ9_min_f86c9_7 : decode cJ9_min_f86c9 7 = .ok (.goto 4, 3) := by decide +kernel
theorem dJ9_min_f86c9_10 : decode cJ9_min_f86c9 10 = .ok (.lload_n 2, 1) := by decide +kernel
theorem dJ9_min_f86c9_11 : decode cJ9_min_f86c9 11 = .ok (.lreturn, 1) := by decide +kernel
set_option maxRecDepth 100000 in
set_option maxHeartbeats 4000000 in
theorem c_minL {h : ai_H} {a b : Int64} : ai_Met MJ9_min_f86c9 [.long a, .long b] h (some (.long (bi_minL a b))) h := by
  refine ai_metF (ls := [.long a, .float 0, .long b, .float 0]) (by decide +kernel) (by simp [ai_en, Value.category]) (by rfl) ?_
  refine rs_lload_n (pc := 0) dJ9_min_f86c9_0 rfl ?_
  refine rs_lload_n (pc := 1) dJ9_min_f86c9_1 rfl ?_
  refine wk_lcmp_gt (tgt := 10) (pc := 2) dJ9_min_f86c9_2 dJ9_min_f86c9_3 rfl (fun c_2 => ?_) (fun c_2 => ?_)
  · refine rs_lload_n (pc := 10) dJ9_min_f86c9_10 rfl ?_
    exact wk_lret (pc := 11) dJ9_min_f86c9_11 rfl (by simp [bi_minL, *]) (rfl)
  · refine rs_lload_n (pc := 6) dJ9_min_f86c9_6 rfl ?_
    refine rs_goto (tgt := 11) (pc := 7) dJ9_min_f86c9_7 rfl ?_
    exact wk_lret (pc := 11) dJ9_min_f86c9_11 rfl (by simp [bi_minL, *]) (rfl)
theorem dJ9_abs_067f4_0 : decode cJ9_abs_067f4 0 = .ok (.lload_n 0, 1) := by decide +kernel
theorem dJ9_abs_067f4_1 : decode cJ9_abs_067f4 1 = .ok (.lconst 0, 1) := by decide +kernel
theorem dJ9_abs_067f4_2 : decode cJ9_abs_067f4 2 = .ok (.lcmp, 1) := by decide +kernel
theorem dJ9_abs_067f4_3 : decode cJ9_abs_067f4 3 = .ok (.ifCond .ge 8, 3) := by decide +kernel
theorem dJ9_abs_067f4_6 : decode cJ9_abs_067f4 6 = .ok (.lload_n 0, 1) := by decide +kernel
theorem dJ9_abs_067f4_7 : decode cJ9_abs_067f4 7 = .ok (.lneg, 1) := by decide +kernel
theorem dJ9_abs_067f4_8 : decode cJ9_abs_067f4 8 = .ok (.goto 4, 3) := by decide +kernel
theorem dJ9_abs_067f4_11 : decode cJ9_abs_067f4 11 = .ok (.lload_n 0, 1) := by decide +kernel
theorem dJ9_abs_067f4_12 : decode cJ9_abs_067f4 12 = .ok (.lreturn, 1) := by decide +kernel
set_option maxRecDepth 100000 in
set_option maxHeartbeats 4000000 in
theorem c_absL {h : ai_H} {a : Int64} : ai_Met MJ9_abs_067f4 [.long a] h (some (.long (bi_absL a))) h := by
  refine ai_metF (ls := [.long a, .float 0]) (by decide +kernel) (by simp [ai_en, Value.category]) (by rfl) ?_
  refine rs_lload_n (pc := 0) dJ9_abs_067f4_0 rfl ?_
  refine rs_lconst (v := 0) (pc := 1) dJ9_abs_067f4_1 rfl ?_
  refine wk_lcmp_ge (tgt := 11) (pc := 2) dJ9_abs_067f4_2 dJ9_abs_067f4_3 rfl (fun c_2 => ?_) (fun c_2 => ?_)
  · refine rs_lload_n (pc := 11) dJ9_abs_067f4_11 rfl ?_
    exact wk_lret (pc := 12) dJ9_abs_067f4_12 rfl (by simp [bi_absL, *]) (rfl)
  · refine rs_lload_n (pc := 6) dJ9_abs_067f4_6 rfl ?_
    refine rs_lneg (pc := 7) dJ9_abs_067f4_7 ?_
    refine rs_goto (tgt := 12) (pc := 8) dJ9_abs_067f4_8 rfl ?_
    exact wk_lret (pc := 12) dJ9_abs_067f4_12 rfl (by simp [bi_absL, *]) (rfl)
theorem dJ9_floorDiv_7cf53_0 : decode cJ9_floorDiv_7cf53 0 = .ok (.iload_n 0, 1) := by decide +kernel
theorem dJ9_floorDiv_7cf53_1 : decode cJ9_floorDiv_7cf53 1 = .ok (.iload_n 1, 1) := by decide +kernel
theorem dJ9_floorDiv_7cf53_2 : decode cJ9_floorDiv_7cf53 2 = .ok (.idiv, 1) := by decide +kernel
theorem dJ9_floorDiv_7cf53_3 : decode cJ9_floorDiv_7cf53 3 = .ok (.istore_n 2, 1) := by decide +kernel
theorem dJ9_floorDiv_7cf53_4 : decode cJ9_floorDiv_7cf53 4 = .ok (.iload_n 0, 1) := by decide +kernel
theorem dJ9_floorDiv_7cf53_5 : decode cJ9_floorDiv_7cf53 5 = .ok (.iload_n 1, 1) := by decide +kernel
theorem dJ9_floorDiv_7cf53_6 : decode cJ9_floorDiv_7cf53 6 = .ok (.ixor, 1) := by decide +kernel
theorem dJ9_floorDiv_7cf53_7 : decode cJ9_floorDiv_7cf53 7 = .ok (.ifCond .ge 14, 3) := by decide +kernel
theorem dJ9_floorDiv_7cf53_10 : decode cJ9_floorDiv_7cf53 10 = .ok (.iload_n 2, 1) := by decide +kernel
theorem dJ9_floorDiv_7cf53_11 : decode cJ9_floorDiv_7cf53 11 = .ok (.iload_n 1, 1) := by decide +kernel
theorem dJ9_floorDiv_7cf53_12 : decode cJ9_floorDiv_7cf53 12 = .ok (.imul, 1) := by decide +kernel
theorem dJ9_floorDiv_7cf53_13 : decode cJ9_floorDiv_7cf53 13 = .ok (.iload_n 0, 1) := by decide +kernel
theorem dJ9_floorDiv_7cf53_14 : decode cJ9_floorDiv_7cf53 14 = .ok (.if_icmp .eq 7, 3) := by decide +kernel
theorem dJ9_floorDiv_7cf53_17 : decode cJ9_floorDiv_7cf53 17 = .ok (.iload_n 2, 1) := by decide +kernel
theorem dJ9_floorDiv_7cf53_18 : decode cJ9_floorDiv_7cf53 18 = .ok (.iconst 1, 1) := by decide +kernel
theorem dJ9_floorDiv_7cf53_19 : decode cJ9_floorDiv_7cf53 19 = .ok (.isub, 1) := by decide +kernel
theorem dJ9_floorDiv_7cf53_20 : decode cJ9_floorDiv_7cf53 20 = .ok (.ireturn, 1) := by decide +kernel
theorem dJ9_floorDiv_7cf53_21 : decode cJ9_floorDiv_7cf53 21 = .ok (.iload_n 2, 1) := by decide +kernel
theorem dJ9_floorDiv_7cf53_22 : decode cJ9_floorDiv_7cf53 22 = .ok (.ireturn, 1) := by decide +kernel
set_option maxRecDepth 100000 in
set_option maxHeartbeats 4000000 in
theorem c_fdI {h : ai_H} {a b : Int32} (hb : ¬ b = 0) : ai_Met MJ9_floorDiv_7cf53 [.int a, .int b] h (some (.int (bi_fdI a b))) h := by
  refine ai_metF (ls := [.int a, .int b, .float 0]) (by decide +kernel) (by simp [ai_en, Value.category]) (by rfl) ?_
  refine rs_iload_n (pc := 0) dJ9_floorDiv_7cf53_0 rfl ?_
  refine rs_iload_n (pc := 1) dJ9_floorDiv_7cf53_1 rfl ?_
  refine rs_idiv (pc := 2) dJ9_floorDiv_7cf53_2 hb ?_
  refine wk_istn2 (pc := 3) dJ9_floorDiv_7cf53_3 (by decide) rfl ?_
  refine rs_iload_n (pc := 4) dJ9_floorDiv_7cf53_4 rfl ?_
  refine rs_iload_n (pc := 5) dJ9_floorDiv_7cf53_5 rfl ?_
  refine rs_ixor (pc := 6) dJ9_floorDiv_7cf53_6 ?_
  refine rs_if_ge (tgt := 21) (pc := 7) dJ9_floorDiv_7cf53_7 rfl (fun c_7 => ?_) (fun c_7 => ?_)
  · refine rs_iload_n (pc := 21) dJ9_floorDiv_7cf53_21 rfl ?_
    exact wk_iret (pc := 22) dJ9_floorDiv_7cf53_22 rfl (by simp [bi_fdI, *]) (rfl)
  · refine rs_iload_n (pc := 10) dJ9_floorDiv_7cf53_10 rfl ?_
    refine rs_iload_n (pc := 11) dJ9_floorDiv_7cf53_11 rfl ?_
    refine rs_imul (pc := 12) dJ9_floorDiv_7cf53_12 ?_
    refine rs_iload_n (pc := 13) dJ9_floorDiv_7cf53_13 rfl ?_
    refine rs_icmp_eq (tgt := 21) (pc := 14) dJ9_floorDiv_7cf53_14 rfl (fun c_14 => ?_) (fun c_14 => ?_)
    · refine rs_iload_n (pc := 21) dJ9_floorDiv_7cf53_21 rfl ?_
      exact wk_iret (pc := 22) dJ9_floorDiv_7cf53_22 rfl (by simp [bi_fdI, *]) (rfl)
    · refine rs_iload_n (pc := 17) dJ9_floorDiv_7cf53_17 rfl ?_
      refine rs_iconst (v := 1) (pc := 18) dJ9_floorDiv_7cf53_18 rfl ?_
      refine rs_isub (pc := 19) dJ9_floorDiv_7cf53_19 ?_
      exact wk_iret (pc := 20) dJ9_floorDiv_7cf53_20 rfl (by simp [bi_fdI, *]) (rfl)
theorem dJ9_floorDiv_f86c9_0 : decode cJ9_floorDiv_f86c9 0 = .ok (.lload_n 0, 1) := by decide +kernel
theorem dJ9_floorDiv_f86c9_1 : decode cJ9_floorDiv_f86c9 1 = .ok (.lload_n 2, 1) := by decide +kernel
theorem dJ9_floorDiv_f86c9_2 : decode cJ9_floorDiv_f86c9 2 = .ok (.ldiv, 1) := by decide +kernel
theorem dJ9_floorDiv_f86c9_3 : decode cJ9_floorDiv_f86c9 3 = .ok (.lstore 4, 2) := by decide +kernel
theorem dJ9_floorDiv_f86c9_5 : decode cJ9_floorDiv_f86c9 5 = .ok (.lload_n 0, 1) := by decide +kernel
theorem dJ9_floorDiv_f86c9_6 : decode cJ9_floorDiv_f86c9 6 = .ok (.lload_n 2, 1) := by decide +kernel
theorem dJ9_floorDiv_f86c9_7 : decode cJ9_floorDiv_f86c9 7 = .ok (.lxor, 1) := by decide +kernel
theorem dJ9_floorDiv_f86c9_8 : decode cJ9_floorDiv_f86c9 8 = .ok (.lconst 0, 1) := by decide +kernel
theorem dJ9_floorDiv_f86c9_9 : decode cJ9_floorDiv_f86c9 9 = .ok (.lcmp, 1) := by decide +kernel
theorem dJ9_floorDiv_f86c9_10 : decode cJ9_floorDiv_f86c9 10 = .ok (.ifCond .ge 17, 3) := by decide +kernel
theorem dJ9_floorDiv_f86c9_13 : decode cJ9_floorDiv_f86c9 13 = .ok (.lload 4, 2) := by decide +kernel
theorem dJ9_floorDiv_f86c9_15 : decode cJ9_floorDiv_f86c9 15 = .ok (.lload_n 2, 1) := by decide +kernel
theorem dJ9_floorDiv_f86c9_16 : decode cJ9_floorDiv_f86c9 16 = .ok (.lmul, 1) := by decide +kernel
theorem dJ9_floorDiv_f86c9_17 : decode cJ9_floorDiv_f86c9 17 = .ok (.lload_n 0, 1) := by decide +kernel
theorem dJ9_floorDiv_f86c9_18 : decode cJ9_floorDiv_f86c9 18 = .ok (.lcmp, 1) := by decide +kernel
theorem dJ9_floorDiv_f86c9_19 : decode cJ9_floorDiv_f86c9 19 = .ok (.ifCond .eq 8, 3) := by decide +kernel
theorem dJ9_floorDiv_f86c9_22 : decode cJ9_floorDiv_f86c9 22 = .ok (.lload 4, 2) := by decide +kernel
theorem dJ9_floorDiv_f86c9_24 : decode cJ9_floorDiv_f86c9 24 = .ok (.lconst 1, 1) := by decide +kernel
theorem dJ9_floorDiv_f86c9_25 : decode cJ9_floorDiv_f86c9 25 = .ok (.lsub, 1) := by decide +kernel
theorem dJ9_floorDiv_f86c9_26 : decode cJ9_floorDiv_f86c9 26 = .ok (.lreturn, 1) := by decide +kernel
theorem dJ9_floorDiv_f86c9_27 : decode cJ9_floorDiv_f86c9 27 = .ok (.lload 4, 2) := by decide +kernel
theorem dJ9_floorDiv_f86c9_29 : decode cJ9_floorDiv_f86c9 29 = .ok (.lreturn, 1) := by decide +kernel
set_option maxRecDepth 100000 in
set_option maxHeartbeats 4000000 in
theorem c_fdL {h : ai_H} {a b : Int64} (hb : ¬ b = 0) : ai_Met MJ9_floorDiv_f86c9 [.long a, .long b] h (some (.long (bi_fdL a b))) h := by
  refine ai_metF (ls := [.long a, .float 0, .long b, .float 0, .float 0, .float 0]) (by decide +kernel) (by simp [ai_en, Value.category]) (by rfl) ?_
  refine rs_lload_n (pc := 0) dJ9_floorDiv_f86c9_0 rfl ?_
  refine rs_lload_n (pc := 1) dJ9_floorDiv_f86c9_1 rfl ?_
  refine rs_ldiv (pc := 2) dJ9_floorDiv_f86c9_2 hb ?_
  refine wk_lst4 (pc := 3) dJ9_floorDiv_f86c9_3 (by decide) rfl ?_
  refine rs_lload_n (pc := 5) dJ9_floorDiv_f86c9_5 rfl ?_
  refine rs_lload_n (pc := 6) dJ9_floorDiv_f86c9_6 rfl ?_
  refine rs_lxor (pc := 7) dJ9_floorDiv_f86c9_7 ?_
  refine rs_lconst (v := 0) (pc := 8) dJ9_floorDiv_f86c9_8 rfl ?_
  refine wk_lcmp_ge (tgt := 27) (pc := 9) dJ9_floorDiv_f86c9_9 dJ9_floorDiv_f86c9_10 rfl (fun c_9 => ?_) (fun c_9 => ?_)
  · refine rs_lload (pc := 27) dJ9_floorDiv_f86c9_27 rfl ?_
    exact wk_lret (pc := 29) dJ9_floorDiv_f86c9_29 rfl (by simp [bi_fdL, *]) (rfl)
  · refine rs_lload (pc := 13) dJ9_floorDiv_f86c9_13 rfl ?_
    refine rs_lload_n (pc := 15) dJ9_floorDiv_f86c9_15 rfl ?_
    refine rs_lmul (pc := 16) dJ9_floorDiv_f86c9_16 ?_
    refine rs_lload_n (pc := 17) dJ9_floorDiv_f86c9_17 rfl ?_
    refine wk_lcmp_eq (tgt := 27) (pc := 18) dJ9_floorDiv_f86c9_18 dJ9_floorDiv_f86c9_19 rfl (fun c_18 => ?_) (fun c_18 => ?_)
    · refine rs_lload (pc := 27) dJ9_floorDiv_f86c9_27 rfl ?_
      exact wk_lret (pc := 29) dJ9_floorDiv_f86c9_29 rfl (by simp [bi_fdL, *]) (rfl)
    · refine rs_lload (pc := 22) dJ9_floorDiv_f86c9_22 rfl ?_
      refine rs_lconst (v := 1) (pc := 24) dJ9_floorDiv_f86c9_24 rfl ?_
      refine rs_lsub (pc := 25) dJ9_floorDiv_f86c9_25 ?_
      exact wk_lret (pc := 26) dJ9_floorDiv_f86c9_26 rfl (by simp [bi_fdL, *]) (rfl)
theorem dX11_isWithin_0 : decode cX11_isWithin 0 = .ok (.iload_n 0, 1) := by decide +kernel
theorem dX11_isWithin_1 : decode cX11_isWithin 1 = .ok (.iload_n 1, 1) := by decide +kernel
theorem dX11_isWithin_2 : decode cX11_isWithin 2 = .ok (.if_icmp .lt 12, 3) := by decide +kernel
theorem dX11_isWithin_5 : decode cX11_isWithin 5 = .ok (.iload_n 0, 1) := by decide +kernel
theorem dX11_isWithin_6 : decode cX11_isWithin 6 = .ok (.iload_n 2, 1) := by decide +kernel
theorem dX11_isWithin_7 : decode cX11_isWithin 7 = .ok (.if_icmp .gt 7, 3) := by decide +kernel
theorem dX11_isWithin_10 : decode cX11_isWithin 10 = .ok (.iconst 1, 1) := by decide +kernel
theorem dX11_isWithin_11 : decode cX11_isWithin 11 = .ok (.goto 4, 3) := by decide +kernel
theorem dX11_isWithin_14 : decode cX11_isWithin 14 = .ok (.iconst 0, 1) := by decide +kernel
theorem dX11_isWithin_15 : decode cX11_isWithin 15 = .ok (.ireturn, 1) := by decide +kernel
set_option maxRecDepth 100000 in
set_option maxHeartbeats 4000000 in
theorem c_X11_isWithin {h : ai_H} {a b c : Int32} : ai_Met MX11_isWithin [.int a, .int b, .int c] h (some (.int (bi_in a b c))) h := by
  refine ai_met (ls := [.int a, .int b, .int c]) (by decide) (by simp [ai_en, Value.category]) (by rfl) ?_
  refine rs_iload_n (pc := 0) dX11_isWithin_0 rfl ?_
  refine rs_iload_n (pc := 1) dX11_isWithin_1 rfl ?_
  refine rs_icmp_lt (tgt := 14) (pc := 2) dX11_isWithin_2 rfl (fun c_2 => ?_) (fun c_2 => ?_)
  · refine rs_iconst (v := 0) (pc := 14) dX11_isWithin_14 rfl ?_
    exact wk_zret (pc := 15) dX11_isWithin_15 rfl (Or.inl rfl) (by simp [bi_in, *]) (rfl)
  · refine rs_iload_n (pc := 5) dX11_isWithin_5 rfl ?_
    refine rs_iload_n (pc := 6) dX11_isWithin_6 rfl ?_
    refine rs_icmp_gt (tgt := 14) (pc := 7) dX11_isWithin_7 rfl (fun c_7 => ?_) (fun c_7 => ?_)
    · refine rs_iconst (v := 0) (pc := 14) dX11_isWithin_14 rfl ?_
      exact wk_zret (pc := 15) dX11_isWithin_15 rfl (Or.inl rfl) (by simp [bi_in, *]) (rfl)
    · refine rs_iconst (v := 1) (pc := 10) dX11_isWithin_10 rfl ?_
      refine rs_goto (tgt := 15) (pc := 11) dX11_isWithin_11 rfl ?_
      exact wk_zret (pc := 15) dX11_isWithin_15 rfl (Or.inr rfl) (by simp [bi_in, *]) (rfl)
/-- a table's numbers fit its array -/
def tb_ok (lim wid siz : Int32) (n : Nat) : Prop := 0 ≤ siz.toInt ∧ siz.toInt ≤ lim.toInt ∧ 0 ≤ wid.toInt ∧ lim.toInt * wid.toInt = n ∧ n < 2 ^ 30
def tb_has (siz row : Int32) : Int32 := if row < 0 then 0 else if siz ≤ row then 0 else 1
def tb_at (wid siz : Int32) (f : Nat → Int32) (row col : Int32) : Int32 := if row < 0 then 0 else if siz ≤ row then 0 else if col < 0 then 0 else if wid ≤ col then 0 else f (row * wid + col).toNatClampNeg
def tb_put (wid siz : Int32) (f : Nat → Int32) (row col x : Int32) : Nat → Int32 := if row < 0 then f else if siz ≤ row then f else if col < 0 then f else if wid ≤ col then f else upd f (row * wid + col).toNatClampNeg x
theorem i32_lt {a b : Int32} : a < b ↔ a.toInt < b.toInt := Int32.lt_iff_toInt_lt
theorem i32_le {a b : Int32} : a ≤ b ↔ a.toInt ≤ b.toInt := Int32.le_iff_toInt_le
theorem i32_0 : (0 : Int32).toInt = 0 := rfl
/-- sums and products that stay within the ints -/
theorem i32_add {a b : Int32} (h1 : -2147483648 ≤ a.toInt + b.toInt) (h2 : a.toInt + b.toInt < 2147483648) : (a + b).toInt = a.toInt + b.toInt := by
  rw [Int32.toInt_add]; exact Int.bmod_eq_of_le (by omega) (by omega)
theorem i32_mul {a b : Int32} (h1 : -2147483648 ≤ a.toInt * b.toInt) (h2 : a.toInt * b.toInt < 2147483648) : (a * b).toInt = a.toInt * b.toInt := by
  rw [Int32.toInt_mul]; exact Int.bmod_eq_of_le (by omega) (by omega)
theorem i32_clamp {a : Int32} (h : 0 ≤ a.toInt) : (a.toNatClampNeg : Int) = a.toInt := by
  rw [Int32.toNatClampNeg, Int.toNat_of_nonneg h]
theorem tb_place {lim wid siz row col : Int32} {n : Nat} (h : tb_ok lim wid siz n) (h1 : ¬ row < 0) (h2 : ¬ siz ≤ row) (h3 : ¬ col < 0) (h4 : ¬ wid ≤ col) : (row * wid + col).toInt = row.toInt * wid.toInt + col.toInt ∧ 0 ≤ (row * wid + col).toInt ∧ (row * wid + col).toInt < n := by
  obtain ⟨g1, g2, g3, g4, g5⟩ := h
  simp only [i32_lt, i32_le, i32_0] at h1 h2 h3 h4
  have b1 : 0 ≤ row.toInt * wid.toInt := Int.mul_nonneg (by omega) g3
  have b2 : (row.toInt + 1) * wid.toInt ≤ lim.toInt * wid.toInt := Int.mul_le_mul_of_nonneg_right (by omega) g3
  rw [Int.add_mul] at b2
  have m1 : (row * wid).toInt = row.toInt * wid.toInt := i32_mul (by omega) (by omega)
  have m2 : (row * wid + col).toInt = (row * wid).toInt + col.toInt := i32_add (by omega) (by omega)
  rw [m2, m1]
  exact ⟨rfl, by omega, by omega⟩
theorem tb_in {lim wid siz row col : Int32} {n : Nat} (h : tb_ok lim wid siz n) (h1 : ¬ row < 0) (h2 : ¬ siz ≤ row) (h3 : ¬ col < 0) (h4 : ¬ wid ≤ col) : vp_in (row * wid + col) n := by
  obtain ⟨-, b, c⟩ := tb_place h h1 h2 h3 h4
  exact vp_in_iff.mpr ⟨b, c⟩
theorem dX8_has_0 : decode cX8_has 0 = .ok (.iload_n 1, 1) := by decide +kernel
theorem dX8_has_1 : decode cX8_has 1 = .ok (.ifCond .lt 15, 3) := by decide +kernel
theorem dX8_has_4 : decode cX8_has 4 = .ok (.iload_n 1, 1) := by decide +kernel
theorem dX8_has_5 : decode cX8_has 5 = .ok (.aload_n 0, 1) := by decide +kernel
theorem dX8_has_6 : decode cX8_has 6 = .ok (.getfield 9, 3) := by decide +kernel
theorem dX8_has_9 : decode cX8_has 9 = .ok (.if_icmp .ge 7, 3) := by decide +kernel
theorem dX8_has_12 : decode cX8_has 12 = .ok (.iconst 1, 1) := by decide +kernel
theorem dX8_has_13 : decode cX8_has 13 = .ok (.goto 4, 3) := by decide +kernel
theorem dX8_has_16 : decode cX8_has 16 = .ok (.iconst 0, 1) := by decide +kernel
theorem dX8_has_17 : decode cX8_has 17 = .ok (.ireturn, 1) := by decide +kernel
set_option maxRecDepth 100000 in
set_option maxHeartbeats 4000000 in
theorem c_X8_has {h : ai_H} {t a : Nat} {lim wid siz : Int32} (hq_t : t < h.1) (he_t : h.2.2 t = .inr (8, [.int lim, .int wid, .ref a, .int siz])) (row : Int32) : ai_Met MX8_has [.ref t, .int row] h (some (.int (tb_has siz row))) h := by
  refine ai_met (ls := [.ref t, .int row]) (by decide) (by simp [ai_en, Value.category]) (by rfl) ?_
  refine rs_iload_n (pc := 0) dX8_has_0 rfl ?_
  refine rs_if_lt (tgt := 16) (pc := 1) dX8_has_1 rfl (fun c_1 => ?_) (fun c_1 => ?_)
  · refine rs_iconst (v := 0) (pc := 16) dX8_has_16 rfl ?_
    exact wk_zret (pc := 17) dX8_has_17 rfl (Or.inl rfl) (by simp [tb_has, *]) (rfl)
  · refine rs_iload_n (pc := 4) dX8_has_4 rfl ?_
    refine rs_aload_n (pc := 5) dX8_has_5 rfl ?_
    refine rs_getf (pc := 6) dX8_has_6 fX8_9 hq_t he_t rfl ?_
    refine rs_icmp_ge (tgt := 16) (pc := 9) dX8_has_9 rfl (fun c_9 => ?_) (fun c_9 => ?_)
    · refine rs_iconst (v := 0) (pc := 16) dX8_has_16 rfl ?_
      exact wk_zret (pc := 17) dX8_has_17 rfl (Or.inl rfl) (by simp [tb_has, *]) (rfl)
    · refine rs_iconst (v := 1) (pc := 12) dX8_has_12 rfl ?_
      refine rs_goto (tgt := 17) (pc := 13) dX8_has_13 rfl ?_
      exact wk_zret (pc := 17) dX8_has_17 rfl (Or.inr rfl) (by simp [tb_has, *]) (rfl)
theorem dX8_at_0 : decode cX8_at 0 = .ok (.iload_n 1, 1) := by decide +kernel
theorem dX8_at_1 : decode cX8_at 1 = .ok (.ifCond .lt 27, 3) := by decide +kernel
theorem dX8_at_4 : decode cX8_at 4 = .ok (.iload_n 1, 1) := by decide +kernel
theorem dX8_at_5 : decode cX8_at 5 = .ok (.aload_n 0, 1) := by decide +kernel
theorem dX8_at_6 : decode cX8_at 6 = .ok (.getfield 9, 3) := by decide +kernel
theorem dX8_at_9 : decode cX8_at 9 = .ok (.if_icmp .ge 19, 3) := by decide +kernel
theorem dX8_at_12 : decode cX8_at 12 = .ok (.iload_n 2, 1) := by decide +kernel
theorem dX8_at_13 : decode cX8_at 13 = .ok (.ifCond .lt 15, 3) := by decide +kernel
theorem dX8_at_16 : decode cX8_at 16 = .ok (.iload_n 2, 1) := by decide +kernel
theorem dX8_at_17 : decode cX8_at 17 = .ok (.aload_n 0, 1) := by decide +kernel
theorem dX8_at_18 : decode cX8_at 18 = .ok (.getfield 18, 3) := by decide +kernel
theorem dX8_at_21 : decode cX8_at 21 = .ok (.if_icmp .ge 7, 3) := by decide +kernel
theorem dX8_at_24 : decode cX8_at 24 = .ok (.iconst 1, 1) := by decide +kernel
theorem dX8_at_25 : decode cX8_at 25 = .ok (.goto 4, 3) := by decide +kernel
theorem dX8_at_28 : decode cX8_at 28 = .ok (.iconst 0, 1) := by decide +kernel
theorem dX8_at_29 : decode cX8_at 29 = .ok (.istore_n 3, 1) := by decide +kernel
theorem dX8_at_30 : decode cX8_at 30 = .ok (.iload_n 3, 1) := by decide +kernel
theorem dX8_at_31 : decode cX8_at 31 = .ok (.ifCond .eq 19, 3) := by decide +kernel
theorem dX8_at_34 : decode cX8_at 34 = .ok (.aload_n 0, 1) := by decide +kernel
theorem dX8_at_35 : decode cX8_at 35 = .ok (.getfield 21, 3) := by decide +kernel
theorem dX8_at_38 : decode cX8_at 38 = .ok (.iload_n 1, 1) := by decide +kernel
theorem dX8_at_39 : decode cX8_at 39 = .ok (.aload_n 0, 1) := by decide +kernel
theorem dX8_at_40 : decode cX8_at 40 = .ok (.getfield 18, 3) := by decide +kernel
theorem dX8_at_43 : decode cX8_at 43 = .ok (.imul, 1) := by decide +kernel
theorem dX8_at_44 : decode cX8_at 44 = .ok (.iload_n 2, 1) := by decide +kernel
theorem dX8_at_45 : decode cX8_at 45 = .ok (.iadd, 1) := by decide +kernel
theorem dX8_at_46 : decode cX8_at 46 = .ok (.iaload, 1) := by decide +kernel
theorem dX8_at_47 : decode cX8_at 47 = .ok (.goto 4, 3) := by decide +kernel
theorem dX8_at_50 : decode cX8_at 50 = .ok (.iconst 0, 1) := by decide +kernel
theorem dX8_at_51 : decode cX8_at 51 = .ok (.ireturn, 1) := by decide +kernel
set_option maxRecDepth 100000 in
set_option maxHeartbeats 4000000 in
theorem c_X8_at {h : ai_H} {t a : Nat} {lim wid siz : Int32} (hq_t : t < h.1) (he_t : h.2.2 t = .inr (8, [.int lim, .int wid, .ref a, .int siz])) {n : Nat} {f : Nat → Int32} (hq_a : a < h.1) (he_a : h.2.2 a = .inl (0, n, .inl f)) (hok : tb_ok lim wid siz n) (row col : Int32) : ai_Met MX8_at [.ref t, .int row, .int col] h (some (.int (tb_at wid siz f row col))) h := by
  refine ai_met (ls := [.ref t, .int row, .int col, .float 0]) (by decide) (by simp [ai_en, Value.category]) (by rfl) ?_
  refine rs_iload_n (pc := 0) dX8_at_0 rfl ?_
  refine rs_if_lt (tgt := 28) (pc := 1) dX8_at_1 rfl (fun c_1 => ?_) (fun c_1 => ?_)
  · refine rs_iconst (v := 0) (pc := 28) dX8_at_28 rfl ?_
    refine wk_istn3 (pc := 29) dX8_at_29 (by decide) rfl ?_
    refine rs_iload_n (pc := 30) dX8_at_30 rfl ?_
    refine rs_if_eq (tgt := 50) (pc := 31) dX8_at_31 rfl (fun c_31 => ?_) (fun c_31 => absurd c_31 (by decide))
    refine rs_iconst (v := 0) (pc := 50) dX8_at_50 rfl ?_
    exact wk_iret (pc := 51) dX8_at_51 rfl (by simp [tb_at, *]) (rfl)
  · refine rs_iload_n (pc := 4) dX8_at_4 rfl ?_
    refine rs_aload_n (pc := 5) dX8_at_5 rfl ?_
    refine rs_getf (pc := 6) dX8_at_6 fX8_9 hq_t he_t rfl ?_
    refine rs_icmp_ge (tgt := 28) (pc := 9) dX8_at_9 rfl (fun c_9 => ?_) (fun c_9 => ?_)
    · refine rs_iconst (v := 0) (pc := 28) dX8_at_28 rfl ?_
      refine wk_istn3 (pc := 29) dX8_at_29 (by decide) rfl ?_
      refine rs_iload_n (pc := 30) dX8_at_30 rfl ?_
      refine rs_if_eq (tgt := 50) (pc := 31) dX8_at_31 rfl (fun c_31 => ?_) (fun c_31 => absurd c_31 (by decide))
      refine rs_iconst (v := 0) (pc := 50) dX8_at_50 rfl ?_
      exact wk_iret (pc := 51) dX8_at_51 rfl (by simp [tb_at, *]) (rfl)
    · refine rs_iload_n (pc := 12) dX8_at_12 rfl ?_
      refine rs_if_lt (tgt := 28) (pc := 13) dX8_at_13 rfl (fun c_13 => ?_) (fun c_13 => ?_)
      · refine rs_iconst (v := 0) (pc := 28) dX8_at_28 rfl ?_
        refine wk_istn3 (pc := 29) dX8_at_29 (by decide) rfl ?_
        refine rs_iload_n (pc := 30) dX8_at_30 rfl ?_
        refine rs_if_eq (tgt := 50) (pc := 31) dX8_at_31 rfl (fun c_31 => ?_) (fun c_31 => absurd c_31 (by decide))
        refine rs_iconst (v := 0) (pc := 50) dX8_at_50 rfl ?_
        exact wk_iret (pc := 51) dX8_at_51 rfl (by simp [tb_at, *]) (rfl)
      · refine rs_iload_n (pc := 16) dX8_at_16 rfl ?_
        refine rs_aload_n (pc := 17) dX8_at_17 rfl ?_
        refine rs_getf (pc := 18) dX8_at_18 fX8_18 hq_t he_t rfl ?_
        refine rs_icmp_ge (tgt := 28) (pc := 21) dX8_at_21 rfl (fun c_21 => ?_) (fun c_21 => ?_)
        · refine rs_iconst (v := 0) (pc := 28) dX8_at_28 rfl ?_
          refine wk_istn3 (pc := 29) dX8_at_29 (by decide) rfl ?_
          refine rs_iload_n (pc := 30) dX8_at_30 rfl ?_
          refine rs_if_eq (tgt := 50) (pc := 31) dX8_at_31 rfl (fun c_31 => ?_) (fun c_31 => absurd c_31 (by decide))
          refine rs_iconst (v := 0) (pc := 50) dX8_at_50 rfl ?_
          exact wk_iret (pc := 51) dX8_at_51 rfl (by simp [tb_at, *]) (rfl)
        · refine rs_iconst (v := 1) (pc := 24) dX8_at_24 rfl ?_
          refine rs_goto (tgt := 29) (pc := 25) dX8_at_25 rfl ?_
          refine wk_istn3 (pc := 29) dX8_at_29 (by decide) rfl ?_
          refine rs_iload_n (pc := 30) dX8_at_30 rfl ?_
          refine rs_if_eq (tgt := 50) (pc := 31) dX8_at_31 rfl (fun c_31 => absurd c_31 (by decide)) (fun c_31 => ?_)
          refine rs_aload_n (pc := 34) dX8_at_34 rfl ?_
          refine rs_getf (pc := 35) dX8_at_35 fX8_21 hq_t he_t rfl ?_
          refine rs_iload_n (pc := 38) dX8_at_38 rfl ?_
          refine rs_aload_n (pc := 39) dX8_at_39 rfl ?_
          refine rs_getf (pc := 40) dX8_at_40 fX8_18 hq_t he_t rfl ?_
          refine rs_imul (pc := 43) dX8_at_43 ?_
          refine rs_iload_n (pc := 44) dX8_at_44 rfl ?_
          refine rs_iadd (pc := 45) dX8_at_45 ?_
          refine rs_iald (pc := 46) dX8_at_46 hq_a he_a (tb_in hok c_1 c_9 c_13 c_21) ?_
          refine rs_goto (tgt := 51) (pc := 47) dX8_at_47 rfl ?_
          exact wk_iret (pc := 51) dX8_at_51 rfl (by simp [tb_at, *]) (rfl)
theorem dX8_grow_0 : decode cX8_grow 0 = .ok (.aload_n 0, 1) := by decide +kernel
theorem dX8_grow_1 : decode cX8_grow 1 = .ok (.getfield 9, 3) := by decide +kernel
theorem dX8_grow_4 : decode cX8_grow 4 = .ok (.aload_n 0, 1) := by decide +kernel
theorem dX8_grow_5 : decode cX8_grow 5 = .ok (.getfield 15, 3) := by decide +kernel
theorem dX8_grow_8 : decode cX8_grow 8 = .ok (.if_icmp .lt 5, 3) := by decide +kernel
theorem dX8_grow_11 : decode cX8_grow 11 = .ok (.iconst (-1), 1) := by decide +kernel
theorem dX8_grow_12 : decode cX8_grow 12 = .ok (.ireturn, 1) := by decide +kernel
theorem dX8_grow_13 : decode cX8_grow 13 = .ok (.aload_n 0, 1) := by decide +kernel
theorem dX8_grow_14 : decode cX8_grow 14 = .ok (.dup, 1) := by decide +kernel
theorem dX8_grow_15 : decode cX8_grow 15 = .ok (.getfield 9, 3) := by decide +kernel
theorem dX8_grow_18 : decode cX8_grow 18 = .ok (.iconst 1, 1) := by decide +kernel
theorem dX8_grow_19 : decode cX8_grow 19 = .ok (.iadd, 1) := by decide +kernel
theorem dX8_grow_20 : decode cX8_grow 20 = .ok (.putfield 9, 3) := by decide +kernel
theorem dX8_grow_23 : decode cX8_grow 23 = .ok (.aload_n 0, 1) := by decide +kernel
theorem dX8_grow_24 : decode cX8_grow 24 = .ok (.getfield 9, 3) := by decide +kernel
theorem dX8_grow_27 : decode cX8_grow 27 = .ok (.iconst 1, 1) := by decide +kernel
theorem dX8_grow_28 : decode cX8_grow 28 = .ok (.isub, 1) := by decide +kernel
theorem dX8_grow_29 : decode cX8_grow 29 = .ok (.ireturn, 1) := by decide +kernel
set_option maxRecDepth 100000 in
set_option maxHeartbeats 4000000 in
theorem c_X8_grow {h : ai_H} {t a : Nat} {lim wid siz : Int32} (hq_t : t < h.1) (he_t : h.2.2 t = .inr (8, [.int lim, .int wid, .ref a, .int siz])) : ai_Met MX8_grow [.ref t] h (some (.int (if siz < lim then siz else -1))) (ai_set h t (.inr (8, [.int lim, .int wid, .ref a, .int (if siz < lim then siz + 1 else siz)]))) := by
  refine ai_met (ls := [.ref t]) (by decide) (by simp [ai_en, Value.category]) (by rfl) ?_
  refine rs_aload_n (pc := 0) dX8_grow_0 rfl ?_
  refine rs_getf (pc := 1) dX8_grow_1 fX8_9 hq_t he_t rfl ?_
  refine rs_aload_n (pc := 4) dX8_grow_4 rfl ?_
  refine rs_getf (pc := 5) dX8_grow_5 fX8_15 hq_t he_t rfl ?_
  refine rs_icmp_lt (tgt := 13) (pc := 8) dX8_grow_8 rfl (fun c_8 => ?_) (fun c_8 => ?_)
  · refine rs_aload_n (pc := 13) dX8_grow_13 rfl ?_
    refine rs_dup (pc := 14) dX8_grow_14 rfl ?_
    refine rs_getf (pc := 15) dX8_grow_15 fX8_9 hq_t he_t rfl ?_
    refine rs_iconst (v := 1) (pc := 18) dX8_grow_18 rfl ?_
    refine rs_iadd (pc := 19) dX8_grow_19 ?_
    refine wk_putf (fs' := [_, _, _, _]) (pc := 20) dX8_grow_20 fX8_9 hq_t he_t rfl (Nat.le_of_ble_eq_true rfl) rfl (fun h_1 m_1 s_1 g_1 o_1 e_1 => ?_)
    have hq_t' : t < h_1.1 := by rw [m_1]; exact hq_t
    replace he_t := g_1
    replace hq_t := hq_t'
    have M_1 : h_1.1 = h.1 := m_1
    have S_1 : h_1.2.1 = h.2.1 := s_1
    have O_1 : ∀ j, j ≠ t → h_1.2.2 j = h.2.2 j := fun j z0 => o_1 j z0
    refine rs_aload_n (pc := 23) dX8_grow_23 rfl ?_
    refine rs_getf (pc := 24) dX8_grow_24 fX8_9 hq_t he_t rfl ?_
    refine rs_iconst (v := 1) (pc := 27) dX8_grow_27 rfl ?_
    refine rs_isub (pc := 28) dX8_grow_28 ?_
    exact wk_iret (pc := 29) dX8_grow_29 rfl (by simp [c_8]) (ai_is1 M_1 S_1 (he_t.trans (by simp [c_8])) O_1)
  · refine rs_iconst (v := -1) (pc := 11) dX8_grow_11 rfl ?_
    exact wk_iret (pc := 12) dX8_grow_12 rfl (by simp [c_8]) (ai_is1 rfl rfl (he_t.trans (by simp [c_8])) (fun _ _ => rfl))
