/-! 53: Scale (walks laid by wip/whole/p53.py) -/
def sx (h g : ai_H) : Prop := g.1 = h.1 ∧ g.2.1 = h.2.1 ∧ ∀ j, (j < 20 ∨ 21 < j) → g.2.2 j = h.2.2 j
theorem sx.rf {h : ai_H} : sx h h := ⟨rfl, rfl, fun _ _ => rfl⟩
theorem sx.trans {h g k : ai_H} (a : sx h g) (b : sx g k) : sx h k := ⟨b.1.trans a.1, b.2.1.trans a.2.1, fun j hj => (b.2.2 j hj).trans (a.2.2 j hj)⟩
theorem sx_of {h g : ai_H} {q : Nat} (m : g.1 = h.1) (s : g.2.1 = h.2.1) (o : ∀ j, j ≠ q → g.2.2 j = h.2.2 j) (hq : 20 ≤ q ∧ q ≤ 21) : sx h g := ⟨m, s, fun j hj => o j (by omega)⟩
/-- the scale with its stack -/
def SK (h : ai_H) (S : Md) (s : List Int64) : Prop := sc_at h S ∧ S.1 1 = nI s.length ∧ stk s (S.2.2.2 0)
def law_at (h : ai_H) (q p n : Nat) (f : Nat → Int32) : Prop := 361 < q ∧ 361 < p ∧ q < h.1 ∧ p < h.1 ∧ h.2.2 q = .inr (3, [.ref p]) ∧ h.2.2 p = .inl (0, n, .inl f)
theorem law_keep {h g : ai_H} {q p n : Nat} {f : Nat → Int32} (a : law_at h q p n f) (m : g.1 = h.1) (o : ∀ j, 361 < j → g.2.2 j = h.2.2 j) : law_at g q p n f := ⟨a.1, a.2.1, by rw [m]; exact a.2.2.1, by rw [m]; exact a.2.2.2.1, (o _ a.1).trans a.2.2.2.2.1, (o _ a.2.1).trans a.2.2.2.2.2⟩
theorem stk_up {s : List Int64} {f : Nat → Int64} {x : Int64} (h : stk s f) : stk (x :: s) (vp_updL f s.length x) := ⟨if_pos rfl, stk_cong (fun i hi => if_neg (by omega)) h⟩
def xhol (x : Int32) (a b : Int64) : Int32 := if x = 200003 then (if a < b then 1 else 0) else if x = 200004 then (if a ≤ b then 1 else 0) else if x = 200005 then (if a = b then 1 else 0) else if x = 200006 then (if b ≤ a then 1 else 0) else (if b < a then 1 else 0)
def xjoi (x : Int32) (a b : Int64) : Int64 := if x = 200000 then a ||| b else if x = 200001 then a &&& b else if x = 200008 then a + b else if x = 200009 then a - b else if x = 200010 then a * b else if xhol x a b = 0 then 0 else 1
theorem if10 {p : Prop} [Decidable p] : (if (if p then (1 : Int32) else 0) = 0 then (0 : Int64) else 1) = if p then 1 else 0 := by
  by_cases h : p
  · rw [if_pos h, if_pos h]; rfl
  · rw [if_neg h, if_neg h]; rfl
theorem xjoi_is {k : Nat} (h : ar k = true ∨ cm k = true ∨ lg k = true) (a b : Int64) : xjoi (nI (opc k)) a b = bop k a b := by
  rcases h with h | h | h
  · rcases ar_k h with rfl | rfl | rfl <;> rfl
  · obtain ⟨h1, h2⟩ := cm_k h
    have : k = 4 ∨ k = 5 ∨ k = 6 ∨ k = 7 ∨ k = 8 := by omega
    rcases this with rfl | rfl | rfl | rfl | rfl
    · exact if10 (p := a < b)
    · exact if10 (p := a ≤ b)
    · exact if10 (p := a = b)
    · exact if10 (p := b ≤ a)
    · exact if10 (p := b < a)
  · rcases lg_k h with rfl | rfl <;> rfl
theorem opc_b {k : Nat} (h : ar k = true ∨ cm k = true ∨ lg k = true) : 200000 ≤ opc k ∧ opc k ≤ 200010 ∧ opc k ≠ 200002 := by
  rcases h with h | h | h
  · rcases ar_k h with rfl | rfl | rfl <;> decide
  · obtain ⟨h1, h2⟩ := cm_k h
    have : k = 4 ∨ k = 5 ∨ k = 6 ∨ k = 7 ∨ k = 8 := by omega
    rcases this with rfl | rfl | rfl | rfl | rfl <;> decide
  · rcases lg_k h with rfl | rfl <;> decide
theorem hld_is (v : Int64) : (bi_maxL (-999999) (bi_minL 999999 v)) = hld v := by
  unfold bi_maxL bi_minL hld
  have l1 : (-999999 : Int64).toInt = -999999 := by decide
  have l2 : (999999 : Int64).toInt = 999999 := by decide
  simp only [Int64.lt_iff_toInt_lt, l1, l2]
  by_cases c1 : v.toInt < 999999
  · rw [if_pos c1]
    by_cases c2 : -999999 < v.toInt
    · rw [if_pos c2, if_neg (by omega), if_neg (by omega)]
    · rw [if_neg c2]
      by_cases c3 : v.toInt < -999999
      · rw [if_pos c3]
      · rw [if_neg c3, if_neg (by omega)]
        apply Int64.toInt_inj.mp
        rw [l1]; omega
  · rw [if_neg c1, l2, if_pos (by omega), if_neg (by omega)]
    by_cases c3 : 999999 < v.toInt
    · rw [if_pos c3]
    · rw [if_neg c3]
      apply Int64.toInt_inj.mp
      rw [l2]; omega
theorem i64_nlt {a b : Int64} (h : ¬ a < b) : b ≤ a := by rw [Int64.lt_iff_toInt_lt] at h; rw [Int64.le_iff_toInt_le]; omega
theorem i64_nle {a b : Int64} (h : ¬ a ≤ b) : b < a := by rw [Int64.le_iff_toInt_le] at h; rw [Int64.lt_iff_toInt_lt]; omega
theorem i64_le_n {a b : Int64} (h : a ≤ b) : ¬ b < a := by rw [Int64.le_iff_toInt_le] at h; rw [Int64.lt_iff_toInt_lt]; omega
theorem i64_lt_n {a b : Int64} (h : a < b) : ¬ b ≤ a := by rw [Int64.lt_iff_toInt_lt] at h; rw [Int64.le_iff_toInt_le]; omega
theorem dX7_holds_0 : decode cX7_holds 0 = .ok (.iload_n 0, 1) := by decide +kernel
theorem dX7_holds_1 : decode cX7_holds 1 = .ok (.tableswitch 79 200003 200006 #[31, 43, 55, 67], 31) := by decide +kernel
theorem dX7_holds_32 : decode cX7_holds 32 = .ok (.lload_n 1, 1) := by decide +kernel
theorem dX7_holds_33 : decode cX7_holds 33 = .ok (.lload_n 3, 1) := by decide +kernel
theorem dX7_holds_34 : decode cX7_holds 34 = .ok (.lcmp, 1) := by decide +kernel
theorem dX7_holds_35 : decode cX7_holds 35 = .ok (.ifCond .ge 7, 3) := by decide +kernel
theorem dX7_holds_38 : decode cX7_holds 38 = .ok (.iconst 1, 1) := by decide +kernel
theorem dX7_holds_39 : decode cX7_holds 39 = .ok (.goto 4, 3) := by decide +kernel
theorem dX7_holds_42 : decode cX7_holds 42 = .ok (.iconst 0, 1) := by decide +kernel
theorem dX7_holds_43 : decode cX7_holds 43 = .ok (.ireturn, 1) := by decide +kernel
theorem dX7_holds_44 : decode cX7_holds 44 = .ok (.lload_n 1, 1) := by decide +kernel
theorem dX7_holds_45 : decode cX7_holds 45 = .ok (.lload_n 3, 1) := by decide +kernel
theorem dX7_holds_46 : decode cX7_holds 46 = .ok (.lcmp, 1) := by decide +kernel
theorem dX7_holds_47 : decode cX7_holds 47 = .ok (.ifCond .gt 7, 3) := by decide +kernel
theorem dX7_holds_50 : decode cX7_holds 50 = .ok (.iconst 1, 1) := by decide +kernel
theorem dX7_holds_51 : decode cX7_holds 51 = .ok (.goto 4, 3) := by decide +kernel
theorem dX7_holds_54 : decode cX7_holds 54 = .ok (.iconst 0, 1) := by decide +kernel
theorem dX7_holds_55 : decode cX7_holds 55 = .ok (.ireturn, 1) := by decide +kernel
theorem dX7_holds_56 : decode cX7_holds 56 = .ok (.lload_n 1, 1) := by decide +kernel
theorem dX7_holds_57 : decode cX7_holds 57 = .ok (.lload_n 3, 1) := by decide +kernel
theorem dX7_holds_58 : decode cX7_holds 58 = .ok (.lcmp, 1) := by decide +kernel
theorem dX7_holds_59 : decode cX7_holds 59 = .ok (.ifCond .ne 7, 3) := by decide +kernel
theorem dX7_holds_62 : decode cX7_holds 62 = .ok (.iconst 1, 1) := by decide +kernel
theorem dX7_holds_63 : decode cX7_holds 63 = .ok (.goto 4, 3) := by decide +kernel
theorem dX7_holds_66 : decode cX7_holds 66 = .ok (.iconst 0, 1) := by decide +kernel
theorem dX7_holds_67 : decode cX7_holds 67 = .ok (.ireturn, 1) := by decide +kernel
theorem dX7_holds_68 : decode cX7_holds 68 = .ok (.lload_n 1, 1) := by decide +kernel
theorem dX7_holds_69 : decode cX7_holds 69 = .ok (.lload_n 3, 1) := by decide +kernel
theorem dX7_holds_70 : decode cX7_holds 70 = .ok (.lcmp, 1) := by decide +kernel
theorem dX7_holds_71 : decode cX7_holds 71 = .ok (.ifCond .lt 7, 3) := by decide +kernel
theorem dX7_holds_74 : decode cX7_holds 74 = .ok (.iconst 1, 1) := by decide +kernel
theorem dX7_holds_75 : decode cX7_holds 75 = .ok (.goto 4, 3) := by decide +kernel
theorem dX7_holds_78 : decode cX7_holds 78 = .ok (.iconst 0, 1) := by decide +kernel
theorem dX7_holds_79 : decode cX7_holds 79 = .ok (.ireturn, 1) := by decide +kernel
theorem dX7_holds_80 : decode cX7_holds 80 = .ok (.lload_n 1, 1) := by decide +kernel
theorem dX7_holds_81 : decode cX7_holds 81 = .ok (.lload_n 3, 1) := by decide +kernel
theorem dX7_holds_82 : decode cX7_holds 82 = .ok (.lcmp, 1) := by decide +kernel
theorem dX7_holds_83 : decode cX7_holds 83 = .ok (.ifCond .le 7, 3) := by decide +kernel
theorem dX7_holds_86 : decode cX7_holds 86 = .ok (.iconst 1, 1) := by decide +kernel
theorem dX7_holds_87 : decode cX7_holds 87 = .ok (.goto 4, 3) := by decide +kernel
theorem dX7_holds_90 : decode cX7_holds 90 = .ok (.iconst 0, 1) := by decide +kernel
theorem dX7_holds_91 : decode cX7_holds 91 = .ok (.ireturn, 1) := by decide +kernel
set_option maxRecDepth 100000 in
set_option maxHeartbeats 4000000 in
theorem c_X7_holds {h : ai_H} (x : Int32) (a b : Int64) : ai_Met MX7_holds [.int x, .long a, .long b] h (some (.int (xhol x a b))) h := by
  refine ai_met (ls := [.int x, .long a, .float 0, .long b, .float 0]) (by decide) (by simp [ai_en, Value.category]) (by rfl) ?_
  refine rs_iload_n (pc := 0) dX7_holds_0 rfl ?_
  by_cases e1_200003 : x = 200003
  · refine wk_tab 200003 e1_200003 (tgt := 32) (pc := 1) dX7_holds_1 (by decide) (by decide) rfl rfl ?_
    refine rs_lload_n (pc := 32) dX7_holds_32 rfl ?_
    refine rs_lload_n (pc := 33) dX7_holds_33 rfl ?_
    refine wk_lcmp_ge (tgt := 42) (pc := 34) dX7_holds_34 dX7_holds_35 rfl (fun c_34 => ?_) (fun c_34 => ?_)
    · refine rs_iconst (v := 0) (pc := 42) dX7_holds_42 rfl ?_
      exact wk_zret (pc := 43) dX7_holds_43 rfl (Or.inl rfl) (by first | (simp [xhol, e1_200003, c_34]; done) | (simp [xhol, e1_200003, c_34, i64_nlt, i64_nle, i64_le_n, i64_lt_n, *]; done)) (rfl)
    · refine rs_iconst (v := 1) (pc := 38) dX7_holds_38 rfl ?_
      refine rs_goto (tgt := 43) (pc := 39) dX7_holds_39 rfl ?_
      exact wk_zret (pc := 43) dX7_holds_43 rfl (Or.inr rfl) (by first | (simp [xhol, e1_200003, c_34]; done) | (simp [xhol, e1_200003, c_34, i64_nlt, i64_nle, i64_le_n, i64_lt_n, *]; done)) (rfl)
  by_cases e1_200004 : x = 200004
  · refine wk_tab 200004 e1_200004 (tgt := 44) (pc := 1) dX7_holds_1 (by decide) (by decide) rfl rfl ?_
    refine rs_lload_n (pc := 44) dX7_holds_44 rfl ?_
    refine rs_lload_n (pc := 45) dX7_holds_45 rfl ?_
    refine wk_lcmp_gt (tgt := 54) (pc := 46) dX7_holds_46 dX7_holds_47 rfl (fun c_46 => ?_) (fun c_46 => ?_)
    · refine rs_iconst (v := 0) (pc := 54) dX7_holds_54 rfl ?_
      exact wk_zret (pc := 55) dX7_holds_55 rfl (Or.inl rfl) (by first | (simp [xhol, e1_200004, c_46]; done) | (simp [xhol, e1_200004, c_46, i64_nlt, i64_nle, i64_le_n, i64_lt_n, *]; done)) (rfl)
    · refine rs_iconst (v := 1) (pc := 50) dX7_holds_50 rfl ?_
      refine rs_goto (tgt := 55) (pc := 51) dX7_holds_51 rfl ?_
      exact wk_zret (pc := 55) dX7_holds_55 rfl (Or.inr rfl) (by first | (simp [xhol, e1_200004, c_46]; done) | (simp [xhol, e1_200004, c_46, i64_nlt, i64_nle, i64_le_n, i64_lt_n, *]; done)) (rfl)
  by_cases e1_200005 : x = 200005
  · refine wk_tab 200005 e1_200005 (tgt := 56) (pc := 1) dX7_holds_1 (by decide) (by decide) rfl rfl ?_
    refine rs_lload_n (pc := 56) dX7_holds_56 rfl ?_
    refine rs_lload_n (pc := 57) dX7_holds_57 rfl ?_
    refine wk_lcmp_ne (tgt := 66) (pc := 58) dX7_holds_58 dX7_holds_59 rfl (fun c_58 => ?_) (fun c_58 => ?_)
    · refine rs_iconst (v := 0) (pc := 66) dX7_holds_66 rfl ?_
      exact wk_zret (pc := 67) dX7_holds_67 rfl (Or.inl rfl) (by first | (simp [xhol, e1_200005, c_58]; done) | (simp [xhol, e1_200005, c_58, i64_nlt, i64_nle, i64_le_n, i64_lt_n, *]; done)) (rfl)
    · refine rs_iconst (v := 1) (pc := 62) dX7_holds_62 rfl ?_
      refine rs_goto (tgt := 67) (pc := 63) dX7_holds_63 rfl ?_
      exact wk_zret (pc := 67) dX7_holds_67 rfl (Or.inr rfl) (by first | (simp [xhol, e1_200005, c_58]; done) | (simp [xhol, e1_200005, c_58, i64_nlt, i64_nle, i64_le_n, i64_lt_n, *]; done)) (rfl)
  by_cases e1_200006 : x = 200006
  · refine wk_tab 200006 e1_200006 (tgt := 68) (pc := 1) dX7_holds_1 (by decide) (by decide) rfl rfl ?_
    refine rs_lload_n (pc := 68) dX7_holds_68 rfl ?_
    refine rs_lload_n (pc := 69) dX7_holds_69 rfl ?_
    refine wk_lcmp_lt (tgt := 78) (pc := 70) dX7_holds_70 dX7_holds_71 rfl (fun c_70 => ?_) (fun c_70 => ?_)
    · refine rs_iconst (v := 0) (pc := 78) dX7_holds_78 rfl ?_
      exact wk_zret (pc := 79) dX7_holds_79 rfl (Or.inl rfl) (by first | (simp [xhol, e1_200006, c_70]; done) | (simp [xhol, e1_200006, c_70, i64_nlt, i64_nle, i64_le_n, i64_lt_n, *]; done)) (rfl)
    · refine rs_iconst (v := 1) (pc := 74) dX7_holds_74 rfl ?_
      refine rs_goto (tgt := 79) (pc := 75) dX7_holds_75 rfl ?_
      exact wk_zret (pc := 79) dX7_holds_79 rfl (Or.inr rfl) (by first | (simp [xhol, e1_200006, c_70]; done) | (simp [xhol, e1_200006, c_70, i64_nlt, i64_nle, i64_le_n, i64_lt_n, *]; done)) (rfl)
  have qe1_200003 := i32_nek (n := 200003) e1_200003 (by decide)
  have qe1_200004 := i32_nek (n := 200004) e1_200004 (by decide)
  have qe1_200005 := i32_nek (n := 200005) e1_200005 (by decide)
  have qe1_200006 := i32_nek (n := 200006) e1_200006 (by decide)
  refine rs_tableOut (tgt := 80) (pc := 1) dX7_holds_1 (by omega) rfl ?_
  refine rs_lload_n (pc := 80) dX7_holds_80 rfl ?_
  refine rs_lload_n (pc := 81) dX7_holds_81 rfl ?_
  refine wk_lcmp_le (tgt := 90) (pc := 82) dX7_holds_82 dX7_holds_83 rfl (fun c_82 => ?_) (fun c_82 => ?_)
  · refine rs_iconst (v := 0) (pc := 90) dX7_holds_90 rfl ?_
    exact wk_zret (pc := 91) dX7_holds_91 rfl (Or.inl rfl) (by first | (simp [xhol, e1_200003, e1_200004, e1_200005, e1_200006, c_82]; done) | (simp [xhol, e1_200003, e1_200004, e1_200005, e1_200006, c_82, i64_nlt, i64_nle, i64_le_n, i64_lt_n, *]; done)) (rfl)
  · refine rs_iconst (v := 1) (pc := 86) dX7_holds_86 rfl ?_
    refine rs_goto (tgt := 91) (pc := 87) dX7_holds_87 rfl ?_
    exact wk_zret (pc := 91) dX7_holds_91 rfl (Or.inr rfl) (by first | (simp [xhol, e1_200003, e1_200004, e1_200005, e1_200006, c_82]; done) | (simp [xhol, e1_200003, e1_200004, e1_200005, e1_200006, c_82, i64_nlt, i64_nle, i64_le_n, i64_lt_n, *]; done)) (rfl)
theorem dX7_joined_0 : decode cX7_joined 0 = .ok (.iload_n 0, 1) := by decide +kernel
theorem dX7_joined_1 : decode cX7_joined 1 = .ok (.tableswitch 79 200000 200010 #[75, 71, 79, 79, 79, 79, 79, 79, 59, 63, 67], 59) := by decide +kernel
theorem dX7_joined_60 : decode cX7_joined 60 = .ok (.lload_n 1, 1) := by decide +kernel
theorem dX7_joined_61 : decode cX7_joined 61 = .ok (.lload_n 3, 1) := by decide +kernel
theorem dX7_joined_62 : decode cX7_joined 62 = .ok (.ladd, 1) := by decide +kernel
theorem dX7_joined_63 : decode cX7_joined 63 = .ok (.lreturn, 1) := by decide +kernel
theorem dX7_joined_64 : decode cX7_joined 64 = .ok (.lload_n 1, 1) := by decide +kernel
theorem dX7_joined_65 : decode cX7_joined 65 = .ok (.lload_n 3, 1) := by decide +kernel
theorem dX7_joined_66 : decode cX7_joined 66 = .ok (.lsub, 1) := by decide +kernel
theorem dX7_joined_67 : decode cX7_joined 67 = .ok (.lreturn, 1) := by decide +kernel
theorem dX7_joined_68 : decode cX7_joined 68 = .ok (.lload_n 1, 1) := by decide +kernel
theorem dX7_joined_69 : decode cX7_joined 69 = .ok (.lload_n 3, 1) := by decide +kernel
theorem dX7_joined_70 : decode cX7_joined 70 = .ok (.lmul, 1) := by decide +kernel
theorem dX7_joined_71 : decode cX7_joined 71 = .ok (.lreturn, 1) := by decide +kernel
theorem dX7_joined_72 : decode cX7_joined 72 = .ok (.lload_n 1, 1) := by decide +kernel
theorem dX7_joined_73 : decode cX7_joined 73 = .ok (.lload_n 3, 1) := by decide +kernel
theorem dX7_joined_74 : decode cX7_joined 74 = .ok (.land, 1) := by decide +kernel
theorem dX7_joined_75 : decode cX7_joined 75 = .ok (.lreturn, 1) := by decide +kernel
theorem dX7_joined_76 : decode cX7_joined 76 = .ok (.lload_n 1, 1) := by decide +kernel
theorem dX7_joined_77 : decode cX7_joined 77 = .ok (.lload_n 3, 1) := by decide +kernel
theorem dX7_joined_78 : decode cX7_joined 78 = .ok (.lor, 1) := by decide +kernel
theorem dX7_joined_79 : decode cX7_joined 79 = .ok (.lreturn, 1) := by decide +kernel
theorem dX7_joined_80 : decode cX7_joined 80 = .ok (.iload_n 0, 1) := by decide +kernel
theorem dX7_joined_81 : decode cX7_joined 81 = .ok (.lload_n 1, 1) := by decide +kernel
theorem dX7_joined_82 : decode cX7_joined 82 = .ok (.lload_n 3, 1) := by decide +kernel
theorem dX7_joined_83 : decode cX7_joined 83 = .ok (.invokestatic 69, 3) := by decide +kernel
theorem dX7_joined_86 : decode cX7_joined 86 = .ok (.ifCond .eq 7, 3) := by decide +kernel
theorem dX7_joined_89 : decode cX7_joined 89 = .ok (.lconst 1, 1) := by decide +kernel
theorem dX7_joined_90 : decode cX7_joined 90 = .ok (.goto 4, 3) := by decide +kernel
theorem dX7_joined_93 : decode cX7_joined 93 = .ok (.lconst 0, 1) := by decide +kernel
theorem dX7_joined_94 : decode cX7_joined 94 = .ok (.lreturn, 1) := by decide +kernel
set_option maxRecDepth 100000 in
set_option maxHeartbeats 4000000 in
theorem c_X7_joined {h : ai_H} (x : Int32) (a b : Int64) : ai_Met MX7_joined [.int x, .long a, .long b] h (some (.long (xjoi x a b))) h := by
  refine ai_met (ls := [.int x, .long a, .float 0, .long b, .float 0]) (by decide) (by simp [ai_en, Value.category]) (by rfl) ?_
  refine rs_iload_n (pc := 0) dX7_joined_0 rfl ?_
  by_cases e1_200000 : x = 200000
  · refine wk_tab 200000 e1_200000 (tgt := 76) (pc := 1) dX7_joined_1 (by decide) (by decide) rfl rfl ?_
    refine rs_lload_n (pc := 76) dX7_joined_76 rfl ?_
    refine rs_lload_n (pc := 77) dX7_joined_77 rfl ?_
    refine rs_lor (pc := 78) dX7_joined_78 ?_
    exact wk_lret (pc := 79) dX7_joined_79 rfl (by first | (simp [xjoi, e1_200000]; done) | (simp_all [xjoi]; done)) (rfl)
  by_cases e1_200001 : x = 200001
  · refine wk_tab 200001 e1_200001 (tgt := 72) (pc := 1) dX7_joined_1 (by decide) (by decide) rfl rfl ?_
    refine rs_lload_n (pc := 72) dX7_joined_72 rfl ?_
    refine rs_lload_n (pc := 73) dX7_joined_73 rfl ?_
    refine rs_land (pc := 74) dX7_joined_74 ?_
    exact wk_lret (pc := 75) dX7_joined_75 rfl (by first | (simp [xjoi, e1_200001]; done) | (simp_all [xjoi]; done)) (rfl)
  by_cases e1_200002 : x = 200002
  · refine wk_tab 200002 e1_200002 (tgt := 80) (pc := 1) dX7_joined_1 (by decide) (by decide) rfl rfl ?_
    refine rs_iload_n (pc := 80) dX7_joined_80 rfl ?_
    refine rs_lload_n (pc := 81) dX7_joined_81 rfl ?_
    refine rs_lload_n (pc := 82) dX7_joined_82 rfl ?_
    refine rs_callS (as := [_, _, _]) (pc := 83) dX7_joined_83 mk_X7_holds mlX7_69 st_X7_holds rfl rfl (Nat.le_of_ble_eq_true rfl) (c_X7_holds _ _ _) ?_
    refine rs_if_eq (tgt := 93) (pc := 86) dX7_joined_86 rfl (fun c_86 => ?_) (fun c_86 => ?_)
    · refine rs_lconst (v := 0) (pc := 93) dX7_joined_93 rfl ?_
      exact wk_lret (pc := 94) dX7_joined_94 rfl (by first | (simp [xjoi, e1_200002, c_86]; done) | (simp_all [xjoi]; done)) (rfl)
    · refine rs_lconst (v := 1) (pc := 89) dX7_joined_89 rfl ?_
      refine rs_goto (tgt := 94) (pc := 90) dX7_joined_90 rfl ?_
      exact wk_lret (pc := 94) dX7_joined_94 rfl (by first | (simp [xjoi, e1_200002, c_86]; done) | (simp_all [xjoi]; done)) (rfl)
  by_cases e1_200003 : x = 200003
  · refine wk_tab 200003 e1_200003 (tgt := 80) (pc := 1) dX7_joined_1 (by decide) (by decide) rfl rfl ?_
    refine rs_iload_n (pc := 80) dX7_joined_80 rfl ?_
    refine rs_lload_n (pc := 81) dX7_joined_81 rfl ?_
    refine rs_lload_n (pc := 82) dX7_joined_82 rfl ?_
    refine rs_callS (as := [_, _, _]) (pc := 83) dX7_joined_83 mk_X7_holds mlX7_69 st_X7_holds rfl rfl (Nat.le_of_ble_eq_true rfl) (c_X7_holds _ _ _) ?_
    refine rs_if_eq (tgt := 93) (pc := 86) dX7_joined_86 rfl (fun c_86 => ?_) (fun c_86 => ?_)
    · refine rs_lconst (v := 0) (pc := 93) dX7_joined_93 rfl ?_
      exact wk_lret (pc := 94) dX7_joined_94 rfl (by first | (simp [xjoi, e1_200003, c_86]; done) | (simp_all [xjoi]; done)) (rfl)
    · refine rs_lconst (v := 1) (pc := 89) dX7_joined_89 rfl ?_
      refine rs_goto (tgt := 94) (pc := 90) dX7_joined_90 rfl ?_
      exact wk_lret (pc := 94) dX7_joined_94 rfl (by first | (simp [xjoi, e1_200003, c_86]; done) | (simp_all [xjoi]; done)) (rfl)
  by_cases e1_200004 : x = 200004
  · refine wk_tab 200004 e1_200004 (tgt := 80) (pc := 1) dX7_joined_1 (by decide) (by decide) rfl rfl ?_
    refine rs_iload_n (pc := 80) dX7_joined_80 rfl ?_
    refine rs_lload_n (pc := 81) dX7_joined_81 rfl ?_
    refine rs_lload_n (pc := 82) dX7_joined_82 rfl ?_
    refine rs_callS (as := [_, _, _]) (pc := 83) dX7_joined_83 mk_X7_holds mlX7_69 st_X7_holds rfl rfl (Nat.le_of_ble_eq_true rfl) (c_X7_holds _ _ _) ?_
    refine rs_if_eq (tgt := 93) (pc := 86) dX7_joined_86 rfl (fun c_86 => ?_) (fun c_86 => ?_)
    · refine rs_lconst (v := 0) (pc := 93) dX7_joined_93 rfl ?_
      exact wk_lret (pc := 94) dX7_joined_94 rfl (by first | (simp [xjoi, e1_200004, c_86]; done) | (simp_all [xjoi]; done)) (rfl)
    · refine rs_lconst (v := 1) (pc := 89) dX7_joined_89 rfl ?_
      refine rs_goto (tgt := 94) (pc := 90) dX7_joined_90 rfl ?_
      exact wk_lret (pc := 94) dX7_joined_94 rfl (by first | (simp [xjoi, e1_200004, c_86]; done) | (simp_all [xjoi]; done)) (rfl)
  by_cases e1_200005 : x = 200005
  · refine wk_tab 200005 e1_200005 (tgt := 80) (pc := 1) dX7_joined_1 (by decide) (by decide) rfl rfl ?_
    refine rs_iload_n (pc := 80) dX7_joined_80 rfl ?_
    refine rs_lload_n (pc := 81) dX7_joined_81 rfl ?_
    refine rs_lload_n (pc := 82) dX7_joined_82 rfl ?_
    refine rs_callS (as := [_, _, _]) (pc := 83) dX7_joined_83 mk_X7_holds mlX7_69 st_X7_holds rfl rfl (Nat.le_of_ble_eq_true rfl) (c_X7_holds _ _ _) ?_
    refine rs_if_eq (tgt := 93) (pc := 86) dX7_joined_86 rfl (fun c_86 => ?_) (fun c_86 => ?_)
    · refine rs_lconst (v := 0) (pc := 93) dX7_joined_93 rfl ?_
      exact wk_lret (pc := 94) dX7_joined_94 rfl (by first | (simp [xjoi, e1_200005, c_86]; done) | (simp_all [xjoi]; done)) (rfl)
    · refine rs_lconst (v := 1) (pc := 89) dX7_joined_89 rfl ?_
      refine rs_goto (tgt := 94) (pc := 90) dX7_joined_90 rfl ?_
      exact wk_lret (pc := 94) dX7_joined_94 rfl (by first | (simp [xjoi, e1_200005, c_86]; done) | (simp_all [xjoi]; done)) (rfl)
  by_cases e1_200006 : x = 200006
  · refine wk_tab 200006 e1_200006 (tgt := 80) (pc := 1) dX7_joined_1 (by decide) (by decide) rfl rfl ?_
    refine rs_iload_n (pc := 80) dX7_joined_80 rfl ?_
    refine rs_lload_n (pc := 81) dX7_joined_81 rfl ?_
    refine rs_lload_n (pc := 82) dX7_joined_82 rfl ?_
    refine rs_callS (as := [_, _, _]) (pc := 83) dX7_joined_83 mk_X7_holds mlX7_69 st_X7_holds rfl rfl (Nat.le_of_ble_eq_true rfl) (c_X7_holds _ _ _) ?_
    refine rs_if_eq (tgt := 93) (pc := 86) dX7_joined_86 rfl (fun c_86 => ?_) (fun c_86 => ?_)
    · refine rs_lconst (v := 0) (pc := 93) dX7_joined_93 rfl ?_
      exact wk_lret (pc := 94) dX7_joined_94 rfl (by first | (simp [xjoi, e1_200006, c_86]; done) | (simp_all [xjoi]; done)) (rfl)
    · refine rs_lconst (v := 1) (pc := 89) dX7_joined_89 rfl ?_
      refine rs_goto (tgt := 94) (pc := 90) dX7_joined_90 rfl ?_
      exact wk_lret (pc := 94) dX7_joined_94 rfl (by first | (simp [xjoi, e1_200006, c_86]; done) | (simp_all [xjoi]; done)) (rfl)
  by_cases e1_200007 : x = 200007
  · refine wk_tab 200007 e1_200007 (tgt := 80) (pc := 1) dX7_joined_1 (by decide) (by decide) rfl rfl ?_
    refine rs_iload_n (pc := 80) dX7_joined_80 rfl ?_
    refine rs_lload_n (pc := 81) dX7_joined_81 rfl ?_
    refine rs_lload_n (pc := 82) dX7_joined_82 rfl ?_
    refine rs_callS (as := [_, _, _]) (pc := 83) dX7_joined_83 mk_X7_holds mlX7_69 st_X7_holds rfl rfl (Nat.le_of_ble_eq_true rfl) (c_X7_holds _ _ _) ?_
    refine rs_if_eq (tgt := 93) (pc := 86) dX7_joined_86 rfl (fun c_86 => ?_) (fun c_86 => ?_)
    · refine rs_lconst (v := 0) (pc := 93) dX7_joined_93 rfl ?_
      exact wk_lret (pc := 94) dX7_joined_94 rfl (by first | (simp [xjoi, e1_200007, c_86]; done) | (simp_all [xjoi]; done)) (rfl)
    · refine rs_lconst (v := 1) (pc := 89) dX7_joined_89 rfl ?_
      refine rs_goto (tgt := 94) (pc := 90) dX7_joined_90 rfl ?_
      exact wk_lret (pc := 94) dX7_joined_94 rfl (by first | (simp [xjoi, e1_200007, c_86]; done) | (simp_all [xjoi]; done)) (rfl)
  by_cases e1_200008 : x = 200008
  · refine wk_tab 200008 e1_200008 (tgt := 60) (pc := 1) dX7_joined_1 (by decide) (by decide) rfl rfl ?_
    refine rs_lload_n (pc := 60) dX7_joined_60 rfl ?_
    refine rs_lload_n (pc := 61) dX7_joined_61 rfl ?_
    refine rs_ladd (pc := 62) dX7_joined_62 ?_
    exact wk_lret (pc := 63) dX7_joined_63 rfl (by first | (simp [xjoi, e1_200008]; done) | (simp_all [xjoi]; done)) (rfl)
  by_cases e1_200009 : x = 200009
  · refine wk_tab 200009 e1_200009 (tgt := 64) (pc := 1) dX7_joined_1 (by decide) (by decide) rfl rfl ?_
    refine rs_lload_n (pc := 64) dX7_joined_64 rfl ?_
    refine rs_lload_n (pc := 65) dX7_joined_65 rfl ?_
    refine rs_lsub (pc := 66) dX7_joined_66 ?_
    exact wk_lret (pc := 67) dX7_joined_67 rfl (by first | (simp [xjoi, e1_200009]; done) | (simp_all [xjoi]; done)) (rfl)
  by_cases e1_200010 : x = 200010
  · refine wk_tab 200010 e1_200010 (tgt := 68) (pc := 1) dX7_joined_1 (by decide) (by decide) rfl rfl ?_
    refine rs_lload_n (pc := 68) dX7_joined_68 rfl ?_
    refine rs_lload_n (pc := 69) dX7_joined_69 rfl ?_
    refine rs_lmul (pc := 70) dX7_joined_70 ?_
    exact wk_lret (pc := 71) dX7_joined_71 rfl (by first | (simp [xjoi, e1_200010]; done) | (simp_all [xjoi]; done)) (rfl)
  have qe1_200000 := i32_nek (n := 200000) e1_200000 (by decide)
  have qe1_200001 := i32_nek (n := 200001) e1_200001 (by decide)
  have qe1_200002 := i32_nek (n := 200002) e1_200002 (by decide)
  have qe1_200003 := i32_nek (n := 200003) e1_200003 (by decide)
  have qe1_200004 := i32_nek (n := 200004) e1_200004 (by decide)
  have qe1_200005 := i32_nek (n := 200005) e1_200005 (by decide)
  have qe1_200006 := i32_nek (n := 200006) e1_200006 (by decide)
  have qe1_200007 := i32_nek (n := 200007) e1_200007 (by decide)
  have qe1_200008 := i32_nek (n := 200008) e1_200008 (by decide)
  have qe1_200009 := i32_nek (n := 200009) e1_200009 (by decide)
  have qe1_200010 := i32_nek (n := 200010) e1_200010 (by decide)
  refine rs_tableOut (tgt := 80) (pc := 1) dX7_joined_1 (by omega) rfl ?_
  refine rs_iload_n (pc := 80) dX7_joined_80 rfl ?_
  refine rs_lload_n (pc := 81) dX7_joined_81 rfl ?_
  refine rs_lload_n (pc := 82) dX7_joined_82 rfl ?_
  refine rs_callS (as := [_, _, _]) (pc := 83) dX7_joined_83 mk_X7_holds mlX7_69 st_X7_holds rfl rfl (Nat.le_of_ble_eq_true rfl) (c_X7_holds _ _ _) ?_
  refine rs_if_eq (tgt := 93) (pc := 86) dX7_joined_86 rfl (fun c_86 => ?_) (fun c_86 => ?_)
  · refine rs_lconst (v := 0) (pc := 93) dX7_joined_93 rfl ?_
    exact wk_lret (pc := 94) dX7_joined_94 rfl (by first | (simp [xjoi, e1_200000, e1_200001, e1_200002, e1_200003, e1_200004, e1_200005, e1_200006, e1_200007, e1_200008, e1_200009, e1_200010, c_86]; done) | (simp_all [xjoi]; done)) (rfl)
  · refine rs_lconst (v := 1) (pc := 89) dX7_joined_89 rfl ?_
    refine rs_goto (tgt := 94) (pc := 90) dX7_joined_90 rfl ?_
    exact wk_lret (pc := 94) dX7_joined_94 rfl (by first | (simp [xjoi, e1_200000, e1_200001, e1_200002, e1_200003, e1_200004, e1_200005, e1_200006, e1_200007, e1_200008, e1_200009, e1_200010, c_86]; done) | (simp_all [xjoi]; done)) (rfl)
theorem dX7_held_0 : decode cX7_held 0 = .ok (.ldc2_w 51, 3) := by decide +kernel
theorem dX7_held_3 : decode cX7_held 3 = .ok (.ldc2_w 53, 3) := by decide +kernel
theorem dX7_held_6 : decode cX7_held 6 = .ok (.lload_n 0, 1) := by decide +kernel
theorem dX7_held_7 : decode cX7_held 7 = .ok (.invokestatic 55, 3) := by decide +kernel
theorem dX7_held_10 : decode cX7_held 10 = .ok (.invokestatic 61, 3) := by decide +kernel
theorem dX7_held_13 : decode cX7_held 13 = .ok (.l2i, 1) := by decide +kernel
theorem dX7_held_14 : decode cX7_held 14 = .ok (.ireturn, 1) := by decide +kernel
set_option maxRecDepth 100000 in
set_option maxHeartbeats 4000000 in
theorem c_X7_held {h : ai_H} (v : Int64) : ai_Met MX7_held [.long v] h (some (.int (hld v).toInt32)) h := by
  refine ai_met (ls := [.long v, .float 0]) (by decide) (by simp [ai_en, Value.category]) (by rfl) ?_
  refine rs_ldc2 (pc := 0) dX7_held_0 cnX7_51 ?_
  refine rs_ldc2 (pc := 3) dX7_held_3 cnX7_53 ?_
  refine rs_lload_n (pc := 6) dX7_held_6 rfl ?_
  refine rs_callS (as := [_, _]) (pc := 7) dX7_held_7 mk_J9_min_f86c9 mlX7_55 st_J9_min_f86c9 rfl rfl (Nat.le_of_ble_eq_true rfl) (c_minL) ?_
  refine rs_callS (as := [_, _]) (pc := 10) dX7_held_10 mk_J9_max_f86c9 mlX7_61 st_J9_max_f86c9 rfl rfl (Nat.le_of_ble_eq_true rfl) (c_maxL) ?_
  rw [hld_is]
  refine rs_l2i (pc := 13) dX7_held_13 ?_
  exact wk_iret (pc := 14) dX7_held_14 rfl (rfl) (rfl)
theorem dX7_lift_0 : decode cX7_lift 0 = .ok (.aload_n 0, 1) := by decide +kernel
theorem dX7_lift_1 : decode cX7_lift 1 = .ok (.getfield 15, 3) := by decide +kernel
theorem dX7_lift_4 : decode cX7_lift 4 = .ok (.bipush 64, 2) := by decide +kernel
theorem dX7_lift_6 : decode cX7_lift 6 = .ok (.if_icmp .ge 23, 3) := by decide +kernel
theorem dX7_lift_9 : decode cX7_lift 9 = .ok (.aload_n 0, 1) := by decide +kernel
theorem dX7_lift_10 : decode cX7_lift 10 = .ok (.getfield 11, 3) := by decide +kernel
theorem dX7_lift_13 : decode cX7_lift 13 = .ok (.aload_n 0, 1) := by decide +kernel
theorem dX7_lift_14 : decode cX7_lift 14 = .ok (.getfield 15, 3) := by decide +kernel
theorem dX7_lift_17 : decode cX7_lift 17 = .ok (.lload_n 1, 1) := by decide +kernel
theorem dX7_lift_18 : decode cX7_lift 18 = .ok (.lastore, 1) := by decide +kernel
theorem dX7_lift_19 : decode cX7_lift 19 = .ok (.aload_n 0, 1) := by decide +kernel
theorem dX7_lift_20 : decode cX7_lift 20 = .ok (.dup, 1) := by decide +kernel
theorem dX7_lift_21 : decode cX7_lift 21 = .ok (.getfield 15, 3) := by decide +kernel
theorem dX7_lift_24 : decode cX7_lift 24 = .ok (.iconst 1, 1) := by decide +kernel
theorem dX7_lift_25 : decode cX7_lift 25 = .ok (.iadd, 1) := by decide +kernel
theorem dX7_lift_26 : decode cX7_lift 26 = .ok (.putfield 15, 3) := by decide +kernel
theorem dX7_lift_29 : decode cX7_lift 29 = .ok (.return_, 1) := by decide +kernel
set_option maxRecDepth 100000 in
set_option maxHeartbeats 4000000 in
theorem c_X7_lift {h : ai_H} {S : Md} {s : List Int64} (hK : SK h S s) (hl : s.length < 64) (x : Int64) : ai_QM MX7_lift [.ref 20, .long x] h (fun r g => r = none ∧ sx h g ∧ ∃ S', SK g S' (x :: s)) := by
  obtain ⟨hsc, hsk, hst⟩ := hK
  refine qm_of (ls := [.ref 20, .long x, .float 0]) (by decide) (by simp [ai_en, Value.category]) (by rfl) ?_
  refine wq (fun _ _ kk => rs_aload_n (pc := 0) dX7_lift_0 rfl kk) ?_
  refine wq (fun _ _ kk => rs_getf (pc := 1) dX7_lift_1 fX7_15 (mo_lt hsc (by decide)) hsc.2.1 rfl kk) ?_
  refine wq (fun _ _ kk => rs_bipush (v := 64) (pc := 4) dX7_lift_4 rfl kk) ?_
  refine wq_br (fun _ _ kt kf => rs_icmp_ge (tgt := 29) (pc := 6) dX7_lift_6 rfl kt kf) (fun c_6 => absurd c_6 (fun z => by rw [i32_le, hsk, nI_toInt (by omega), show (64 : Int32).toInt = 64 from rfl] at z; omega)) (fun c_6 => ?_)
  refine wq (fun _ _ kk => rs_aload_n (pc := 9) dX7_lift_9 rfl kk) ?_
  refine wq (fun _ _ kk => rs_getf (pc := 10) dX7_lift_10 fX7_11 (mo_lt hsc (by decide)) hsc.2.1 rfl kk) ?_
  refine wq (fun _ _ kk => rs_aload_n (pc := 13) dX7_lift_13 rfl kk) ?_
  refine wq (fun _ _ kk => rs_getf (pc := 14) dX7_lift_14 fX7_15 (mo_lt hsc (by decide)) hsc.2.1 rfl kk) ?_
  rw [hsk]
  refine wq (fun _ _ kk => rs_lload_n (pc := 17) dX7_lift_17 rfl kk) ?_
  refine wq (fun _ _ kk => rs_last (pc := 18) dX7_lift_18 (mo_lt hsc (by decide)) (mo_getl (d := 0) (k := 0) (kd := 1) (l := 64) rfl (by decide) hsc) (vp_in_nI (n := s.length) (N := 64) (by omega) (by decide)) kk) ?_
  refine wq_gen (fun h_1 e_1 => ?_)
  obtain ⟨m_1, s_1, g_1, o_1⟩ := ai_e1 e_1
  replace hsc := mo_al (tab := sc_tab) (d := 0) sc_nd rfl (by decide) (fun _ _ _ => rfl) hsc m_1 g_1 o_1
  have E_1 := (sx.rf).trans (sx_of m_1 s_1 o_1 (by decide))
  refine wq (fun _ _ kk => rs_aload_n (pc := 19) dX7_lift_19 rfl kk) ?_
  refine wq (fun _ _ kk => rs_dup (pc := 20) dX7_lift_20 rfl kk) ?_
  refine wq (fun _ _ kk => rs_getf (pc := 21) dX7_lift_21 fX7_15 (mo_lt hsc (by decide)) hsc.2.1 rfl kk) ?_
  rw [show (md_al S 0 (vp_updL (S.2.2.2 0) (nI s.length).toNatClampNeg x)).1 1 = nI s.length from hsk]
  refine wq (fun _ _ kk => rs_iconst (v := 1) (pc := 24) dX7_lift_24 rfl kk) ?_
  refine wq (fun _ _ kk => rs_iadd (pc := 25) dX7_lift_25 kk) ?_
  rw [nI_1]
  refine wq (fun _ _ kk => rs_putf (pc := 26) dX7_lift_26 fX7_15 (mo_lt hsc (by decide)) hsc.2.1 rfl (Nat.le_of_ble_eq_true rfl) kk) ?_
  refine wq_gen (fun h_2 e_2 => ?_)
  obtain ⟨m_2, s_2, g_2, o_2⟩ := ai_e1 e_2
  replace g_2 : h_2.2.2 20 = .inr (7, [_, _]) := g_2
  replace hsc := mo_si (k := 1) hsc m_2 g_2 o_2 rfl
  have E_2 := (E_1).trans (sx_of m_2 s_2 o_2 (by decide))
  refine wq_ret ?_ (rs_vret (pc := 29) dX7_lift_29 rfl)
  refine ⟨rfl, E_2, _, hsc, rfl, ?_⟩
  show stk (x :: s) (vp_updL (S.2.2.2 0) (nI s.length).toNatClampNeg x)
  rw [nI_clamp (by omega)]
  exact stk_up hst
theorem dX7_drop_0 : decode cX7_drop 0 = .ok (.aload_n 0, 1) := by decide +kernel
theorem dX7_drop_1 : decode cX7_drop 1 = .ok (.getfield 15, 3) := by decide +kernel
theorem dX7_drop_4 : decode cX7_drop 4 = .ok (.ifCond .ne 5, 3) := by decide +kernel
theorem dX7_drop_7 : decode cX7_drop 7 = .ok (.lconst 0, 1) := by decide +kernel
theorem dX7_drop_8 : decode cX7_drop 8 = .ok (.lreturn, 1) := by decide +kernel
theorem dX7_drop_9 : decode cX7_drop 9 = .ok (.aload_n 0, 1) := by decide +kernel
theorem dX7_drop_10 : decode cX7_drop 10 = .ok (.dup, 1) := by decide +kernel
theorem dX7_drop_11 : decode cX7_drop 11 = .ok (.getfield 15, 3) := by decide +kernel
theorem dX7_drop_14 : decode cX7_drop 14 = .ok (.iconst 1, 1) := by decide +kernel
theorem dX7_drop_15 : decode cX7_drop 15 = .ok (.isub, 1) := by decide +kernel
theorem dX7_drop_16 : decode cX7_drop 16 = .ok (.putfield 15, 3) := by decide +kernel
theorem dX7_drop_19 : decode cX7_drop 19 = .ok (.aload_n 0, 1) := by decide +kernel
theorem dX7_drop_20 : decode cX7_drop 20 = .ok (.getfield 11, 3) := by decide +kernel
theorem dX7_drop_23 : decode cX7_drop 23 = .ok (.aload_n 0, 1) := by decide +kernel
theorem dX7_drop_24 : decode cX7_drop 24 = .ok (.getfield 15, 3) := by decide +kernel
theorem dX7_drop_27 : decode cX7_drop 27 = .ok (.laload, 1) := by decide +kernel
theorem dX7_drop_28 : decode cX7_drop 28 = .ok (.lreturn, 1) := by decide +kernel
set_option maxRecDepth 100000 in
set_option maxHeartbeats 4000000 in
theorem c_X7_drop {h : ai_H} {S : Md} {a : Int64} {s : List Int64} (hK : SK h S (a :: s)) (hl : s.length < 64) : ai_QM MX7_drop [.ref 20] h (fun r g => r = some (.long a) ∧ sx h g ∧ ∃ S', SK g S' s) := by
  obtain ⟨hsc, hsk, hst⟩ := hK
  have hlc : (a :: s).length < 2 ^ 31 := by rw [List.length_cons]; omega
  refine qm_of (ls := [.ref 20]) (by decide) (by simp [ai_en, Value.category]) (by rfl) ?_
  refine wq (fun _ _ kk => rs_aload_n (pc := 0) dX7_drop_0 rfl kk) ?_
  refine wq (fun _ _ kk => rs_getf (pc := 1) dX7_drop_1 fX7_15 (mo_lt hsc (by decide)) hsc.2.1 rfl kk) ?_
  refine wq_bn (fun _ _ kt kf => rs_if_ne (tgt := 9) (pc := 4) dX7_drop_4 rfl kt kf) (fun c_4 => ?_) (fun c_4 => absurd c_4 (fun z => by rw [hsk, nI_z (by omega)] at z; rw [List.length_cons] at z; omega))
  refine wq (fun _ _ kk => rs_aload_n (pc := 9) dX7_drop_9 rfl kk) ?_
  refine wq (fun _ _ kk => rs_dup (pc := 10) dX7_drop_10 rfl kk) ?_
  refine wq (fun _ _ kk => rs_getf (pc := 11) dX7_drop_11 fX7_15 (mo_lt hsc (by decide)) hsc.2.1 rfl kk) ?_
  rw [hsk, List.length_cons]
  refine wq (fun _ _ kk => rs_iconst (v := 1) (pc := 14) dX7_drop_14 rfl kk) ?_
  refine wq (fun _ _ kk => rs_isub (pc := 15) dX7_drop_15 kk) ?_
  rw [show nI (s.length + 1) - 1 = nI s.length from nI_sb (b := 1) (by omega)]
  refine wq (fun _ _ kk => rs_putf (pc := 16) dX7_drop_16 fX7_15 (mo_lt hsc (by decide)) hsc.2.1 rfl (Nat.le_of_ble_eq_true rfl) kk) ?_
  refine wq_gen (fun h_1 e_1 => ?_)
  obtain ⟨m_1, s_1, g_1, o_1⟩ := ai_e1 e_1
  replace g_1 : h_1.2.2 20 = .inr (7, [_, _]) := g_1
  replace hsc := mo_si (k := 1) hsc m_1 g_1 o_1 rfl
  have E_1 := (sx.rf).trans (sx_of m_1 s_1 o_1 (by decide))
  refine wq (fun _ _ kk => rs_aload_n (pc := 19) dX7_drop_19 rfl kk) ?_
  refine wq (fun _ _ kk => rs_getf (pc := 20) dX7_drop_20 fX7_11 (mo_lt hsc (by decide)) hsc.2.1 rfl kk) ?_
  refine wq (fun _ _ kk => rs_aload_n (pc := 23) dX7_drop_23 rfl kk) ?_
  refine wq (fun _ _ kk => rs_getf (pc := 24) dX7_drop_24 fX7_15 (mo_lt hsc (by decide)) hsc.2.1 rfl kk) ?_
  rw [show (md_si S 1 (nI s.length)).1 1 = nI s.length from rfl]
  refine wq (fun _ _ kk => rs_lald (pc := 27) dX7_drop_27 (mo_lt hsc (by decide)) (mo_getl (d := 0) (k := 0) (kd := 1) (l := 64) rfl (by decide) hsc) (vp_in_nI (n := s.length) (N := 64) (by omega) (by decide)) kk) ?_
  rw [nI_clamp (show s.length < 2 ^ 31 by omega), show (md_si S 1 (nI s.length)).2.2.2 0 s.length = a from hst.1]
  refine wq_ret ?_ (rs_lret (pc := 28) dX7_drop_28 rfl)
  exact ⟨rfl, E_1, _, hsc, rfl, hst.2⟩
theorem dX7_operate_0 : decode cX7_operate 0 = .ok (.aload_n 0, 1) := by decide +kernel
theorem dX7_operate_1 : decode cX7_operate 1 = .ok (.invokevirtual 26, 3) := by decide +kernel
theorem dX7_operate_4 : decode cX7_operate 4 = .ok (.lstore_n 2, 1) := by decide +kernel
theorem dX7_operate_5 : decode cX7_operate 5 = .ok (.iload_n 1, 1) := by decide +kernel
theorem dX7_operate_6 : decode cX7_operate 6 = .ok (.ldc 64, 2) := by decide +kernel
theorem dX7_operate_8 : decode cX7_operate 8 = .ok (.if_icmp .ne 21, 3) := by decide +kernel
theorem dX7_operate_11 : decode cX7_operate 11 = .ok (.aload_n 0, 1) := by decide +kernel
theorem dX7_operate_12 : decode cX7_operate 12 = .ok (.lload_n 2, 1) := by decide +kernel
theorem dX7_operate_13 : decode cX7_operate 13 = .ok (.lconst 0, 1) := by decide +kernel
theorem dX7_operate_14 : decode cX7_operate 14 = .ok (.lcmp, 1) := by decide +kernel
theorem dX7_operate_15 : decode cX7_operate 15 = .ok (.ifCond .ne 7, 3) := by decide +kernel
theorem dX7_operate_18 : decode cX7_operate 18 = .ok (.lconst 1, 1) := by decide +kernel
theorem dX7_operate_19 : decode cX7_operate 19 = .ok (.goto 4, 3) := by decide +kernel
theorem dX7_operate_22 : decode cX7_operate 22 = .ok (.lconst 0, 1) := by decide +kernel
theorem dX7_operate_23 : decode cX7_operate 23 = .ok (.invokevirtual 36, 3) := by decide +kernel
theorem dX7_operate_26 : decode cX7_operate 26 = .ok (.goto 16, 3) := by decide +kernel
theorem dX7_operate_29 : decode cX7_operate 29 = .ok (.aload_n 0, 1) := by decide +kernel
theorem dX7_operate_30 : decode cX7_operate 30 = .ok (.iload_n 1, 1) := by decide +kernel
theorem dX7_operate_31 : decode cX7_operate 31 = .ok (.aload_n 0, 1) := by decide +kernel
theorem dX7_operate_32 : decode cX7_operate 32 = .ok (.invokevirtual 26, 3) := by decide +kernel
theorem dX7_operate_35 : decode cX7_operate 35 = .ok (.lload_n 2, 1) := by decide +kernel
theorem dX7_operate_36 : decode cX7_operate 36 = .ok (.invokestatic 65, 3) := by decide +kernel
theorem dX7_operate_39 : decode cX7_operate 39 = .ok (.invokevirtual 36, 3) := by decide +kernel
theorem dX7_operate_42 : decode cX7_operate 42 = .ok (.return_, 1) := by decide +kernel
set_option maxRecDepth 100000 in
set_option maxHeartbeats 4000000 in
theorem c_X7_operate_n {h : ai_H} {S : Md} {a : Int64} {s : List Int64} (hK : SK h S (a :: s)) (hl : s.length < 64) : ai_QM MX7_operate [.ref 20, .int 200002] h (fun r g => r = none ∧ sx h g ∧ ∃ S', SK g S' ((if a = 0 then 1 else 0) :: s)) := by
  have hsc := hK.1
  refine qm_of (ls := [.ref 20, .int 200002, .float 0, .float 0]) (by decide) (by simp [ai_en, Value.category]) (by rfl) ?_
  refine wq (fun _ _ kk => rs_aload_n (pc := 0) dX7_operate_0 rfl kk) ?_
  obtain ⟨rv_1, hc_1, ⟨rfl, ee_1, S2, hK_1⟩, hm_1⟩ := c_X7_drop hK (by omega)
  refine wq (fun _ _ kk => rs_callV (as := []) (pc := 1) dX7_operate_1 mk_X7_drop mlX7_26 in_X7_drop se_X7_drop rfl (mo_lt hsc (by decide)) hsc.2.1 rfl rfl (Nat.le_of_ble_eq_true rfl) (hm_1) kk) ?_
  obtain ⟨hsc, -, -⟩ := id hK_1
  refine wq (fun _ _ kk => wk_lstn2 (pc := 4) dX7_operate_4 (by decide) rfl kk) ?_
  refine wq (fun _ _ kk => rs_iload_n (pc := 5) dX7_operate_5 rfl kk) ?_
  refine wq (fun _ _ kk => rs_ldc (pc := 6) dX7_operate_6 cnX7_64 kk) ?_
  refine wq_bn (fun _ _ kt kf => rs_icmp_ne (tgt := 29) (pc := 8) dX7_operate_8 rfl kt kf) (fun c_8 => absurd c_8 (fun z => z rfl)) (fun c_8 => ?_)
  refine wq (fun _ _ kk => rs_aload_n (pc := 11) dX7_operate_11 rfl kk) ?_
  refine wq (fun _ _ kk => rs_lload_n (pc := 12) dX7_operate_12 rfl kk) ?_
  refine wq (fun _ _ kk => rs_lconst (v := 0) (pc := 13) dX7_operate_13 rfl kk) ?_
  refine wq_bn (fun _ _ kt kf => wk_lcmp_ne (tgt := 22) (pc := 14) dX7_operate_14 dX7_operate_15 rfl kt kf) (fun c_14 => ?_) (fun c_14 => ?_)
  · refine wq (fun _ _ kk => rs_lconst (v := 0) (pc := 22) dX7_operate_22 rfl kk) ?_
    obtain ⟨rv_23, hc_23, ⟨rfl, ee_23, S3, hK_23⟩, hm_23⟩ := c_X7_lift hK_1 (by omega) _
    refine wq (fun _ _ kk => rs_callV (as := [_]) (pc := 23) dX7_operate_23 mk_X7_lift mlX7_36 in_X7_lift se_X7_lift rfl (mo_lt hsc (by decide)) hsc.2.1 rfl rfl (Nat.le_of_ble_eq_true rfl) (hm_23) kk) ?_
    refine wq (fun _ _ kk => rs_goto (tgt := 42) (pc := 26) dX7_operate_26 rfl kk) ?_
    refine wq_ret ?_ (rs_vret (pc := 42) dX7_operate_42 rfl)
    first
    | exact ⟨rfl, ee_1.trans ee_23, S3, by rw [if_pos c_14]; exact hK_23⟩
    | exact ⟨rfl, ee_1.trans ee_23, S3, by rw [if_neg c_14]; exact hK_23⟩
  · refine wq (fun _ _ kk => rs_lconst (v := 1) (pc := 18) dX7_operate_18 rfl kk) ?_
    refine wq (fun _ _ kk => rs_goto (tgt := 23) (pc := 19) dX7_operate_19 rfl kk) ?_
    obtain ⟨rv_23, hc_23, ⟨rfl, ee_23, S3, hK_23⟩, hm_23⟩ := c_X7_lift hK_1 (by omega) _
    refine wq (fun _ _ kk => rs_callV (as := [_]) (pc := 23) dX7_operate_23 mk_X7_lift mlX7_36 in_X7_lift se_X7_lift rfl (mo_lt hsc (by decide)) hsc.2.1 rfl rfl (Nat.le_of_ble_eq_true rfl) (hm_23) kk) ?_
    refine wq (fun _ _ kk => rs_goto (tgt := 42) (pc := 26) dX7_operate_26 rfl kk) ?_
    refine wq_ret ?_ (rs_vret (pc := 42) dX7_operate_42 rfl)
    first
    | exact ⟨rfl, ee_1.trans ee_23, S3, by rw [if_pos c_14]; exact hK_23⟩
    | exact ⟨rfl, ee_1.trans ee_23, S3, by rw [if_neg c_14]; exact hK_23⟩
set_option maxRecDepth 100000 in
set_option maxHeartbeats 4000000 in
theorem c_X7_operate_b {h : ai_H} {S : Md} {k : Nat} {a b : Int64} {s : List Int64} (hk : ar k = true ∨ cm k = true ∨ lg k = true) (hK : SK h S (b :: a :: s)) (hl : s.length + 1 < 64) : ai_QM MX7_operate [.ref 20, .int (nI (opc k))] h (fun r g => r = none ∧ sx h g ∧ ∃ S', SK g S' (bop k a b :: s)) := by
  have hsc := hK.1
  refine qm_of (ls := [.ref 20, .int (nI (opc k)), .float 0, .float 0]) (by decide) (by simp [ai_en, Value.category]) (by rfl) ?_
  refine wq (fun _ _ kk => rs_aload_n (pc := 0) dX7_operate_0 rfl kk) ?_
  obtain ⟨rv_1, hc_1, ⟨rfl, ee_1, S2, hK_1⟩, hm_1⟩ := c_X7_drop hK (by rw [List.length_cons]; omega)
  refine wq (fun _ _ kk => rs_callV (as := []) (pc := 1) dX7_operate_1 mk_X7_drop mlX7_26 in_X7_drop se_X7_drop rfl (mo_lt hsc (by decide)) hsc.2.1 rfl rfl (Nat.le_of_ble_eq_true rfl) (hm_1) kk) ?_
  obtain ⟨hsc, -, -⟩ := id hK_1
  refine wq (fun _ _ kk => wk_lstn2 (pc := 4) dX7_operate_4 (by decide) rfl kk) ?_
  refine wq (fun _ _ kk => rs_iload_n (pc := 5) dX7_operate_5 rfl kk) ?_
  refine wq (fun _ _ kk => rs_ldc (pc := 6) dX7_operate_6 cnX7_64 kk) ?_
  refine wq_bn (fun _ _ kt kf => rs_icmp_ne (tgt := 29) (pc := 8) dX7_operate_8 rfl kt kf) (fun c_8 => ?_) (fun c_8 => absurd c_8 (fun z => (opc_b hk).2.2 (nI_inj (by have := (opc_b hk).2.1; omega) (by decide) z)))
  refine wq (fun _ _ kk => rs_aload_n (pc := 29) dX7_operate_29 rfl kk) ?_
  refine wq (fun _ _ kk => rs_iload_n (pc := 30) dX7_operate_30 rfl kk) ?_
  refine wq (fun _ _ kk => rs_aload_n (pc := 31) dX7_operate_31 rfl kk) ?_
  obtain ⟨rv_32, hc_32, ⟨rfl, ee_32, S4, hK_32⟩, hm_32⟩ := c_X7_drop hK_1 (by omega)
  refine wq (fun _ _ kk => rs_callV (as := []) (pc := 32) dX7_operate_32 mk_X7_drop mlX7_26 in_X7_drop se_X7_drop rfl (mo_lt hsc (by decide)) hsc.2.1 rfl rfl (Nat.le_of_ble_eq_true rfl) (hm_32) kk) ?_
  obtain ⟨hsc, -, -⟩ := id hK_32
  refine wq (fun _ _ kk => rs_lload_n (pc := 35) dX7_operate_35 rfl kk) ?_
  refine wq (fun _ _ kk => rs_callS (as := [_, _, _]) (pc := 36) dX7_operate_36 mk_X7_joined mlX7_65 st_X7_joined rfl rfl (Nat.le_of_ble_eq_true rfl) (c_X7_joined _ _ _) kk) ?_
  rw [xjoi_is hk]
  obtain ⟨rv_39, hc_39, ⟨rfl, ee_39, S3, hK_39⟩, hm_39⟩ := c_X7_lift hK_32 (by omega) _
  refine wq (fun _ _ kk => rs_callV (as := [_]) (pc := 39) dX7_operate_39 mk_X7_lift mlX7_36 in_X7_lift se_X7_lift rfl (mo_lt hsc (by decide)) hsc.2.1 rfl rfl (Nat.le_of_ble_eq_true rfl) (hm_39) kk) ?_
  refine wq_ret ?_ (rs_vret (pc := 42) dX7_operate_42 rfl)
  exact ⟨rfl, (ee_1.trans ee_32).trans ee_39, S3, hK_39⟩
theorem dX7_weigh_0 : decode cX7_weigh 0 = .ok (.aload_n 0, 1) := by decide +kernel
theorem dX7_weigh_1 : decode cX7_weigh 1 = .ok (.iconst 0, 1) := by decide +kernel
theorem dX7_weigh_2 : decode cX7_weigh 2 = .ok (.putfield 15, 3) := by decide +kernel
theorem dX7_weigh_5 : decode cX7_weigh 5 = .ok (.iconst 0, 1) := by decide +kernel
theorem dX7_weigh_6 : decode cX7_weigh 6 = .ok (.istore 4, 2) := by decide +kernel
theorem dX7_weigh_8 : decode cX7_weigh 8 = .ok (.iload 4, 2) := by decide +kernel
theorem dX7_weigh_10 : decode cX7_weigh 10 = .ok (.aload_n 1, 1) := by decide +kernel
theorem dX7_weigh_11 : decode cX7_weigh 11 = .ok (.getfield 19, 3) := by decide +kernel
theorem dX7_weigh_14 : decode cX7_weigh 14 = .ok (.arraylength, 1) := by decide +kernel
theorem dX7_weigh_15 : decode cX7_weigh 15 = .ok (.if_icmp .ge 124, 3) := by decide +kernel
theorem dX7_weigh_18 : decode cX7_weigh 18 = .ok (.aload_n 1, 1) := by decide +kernel
theorem dX7_weigh_19 : decode cX7_weigh 19 = .ok (.getfield 19, 3) := by decide +kernel
theorem dX7_weigh_22 : decode cX7_weigh 22 = .ok (.iload 4, 2) := by decide +kernel
theorem dX7_weigh_24 : decode cX7_weigh 24 = .ok (.iaload, 1) := by decide +kernel
theorem dX7_weigh_25 : decode cX7_weigh 25 = .ok (.istore 5, 2) := by decide +kernel
theorem dX7_weigh_27 : decode cX7_weigh 27 = .ok (.iload 5, 2) := by decide +kernel
theorem dX7_weigh_29 : decode cX7_weigh 29 = .ok (.ldc 25, 2) := by decide +kernel
theorem dX7_weigh_31 : decode cX7_weigh 31 = .ok (.if_icmp .ne 11, 3) := by decide +kernel
theorem dX7_weigh_34 : decode cX7_weigh 34 = .ok (.aload_n 0, 1) := by decide +kernel
theorem dX7_weigh_35 : decode cX7_weigh 35 = .ok (.invokevirtual 26, 3) := by decide +kernel
theorem dX7_weigh_38 : decode cX7_weigh 38 = .ok (.invokestatic 30, 3) := by decide +kernel
theorem dX7_weigh_41 : decode cX7_weigh 41 = .ok (.ireturn, 1) := by decide +kernel
theorem dX7_weigh_42 : decode cX7_weigh 42 = .ok (.iload 5, 2) := by decide +kernel
theorem dX7_weigh_44 : decode cX7_weigh 44 = .ok (.ldc 34, 2) := by decide +kernel
theorem dX7_weigh_46 : decode cX7_weigh 46 = .ok (.if_icmp .ne 39, 3) := by decide +kernel
theorem dX7_weigh_49 : decode cX7_weigh 49 = .ok (.aload_n 0, 1) := by decide +kernel
theorem dX7_weigh_50 : decode cX7_weigh 50 = .ok (.invokevirtual 26, 3) := by decide +kernel
theorem dX7_weigh_53 : decode cX7_weigh 53 = .ok (.lconst 0, 1) := by decide +kernel
theorem dX7_weigh_54 : decode cX7_weigh 54 = .ok (.lcmp, 1) := by decide +kernel
theorem dX7_weigh_55 : decode cX7_weigh 55 = .ok (.ifCond .eq 7, 3) := by decide +kernel
theorem dX7_weigh_58 : decode cX7_weigh 58 = .ok (.iconst 1, 1) := by decide +kernel
theorem dX7_weigh_59 : decode cX7_weigh 59 = .ok (.goto 4, 3) := by decide +kernel
theorem dX7_weigh_62 : decode cX7_weigh 62 = .ok (.iconst 0, 1) := by decide +kernel
theorem dX7_weigh_63 : decode cX7_weigh 63 = .ok (.istore 6, 2) := by decide +kernel
theorem dX7_weigh_65 : decode cX7_weigh 65 = .ok (.aload_n 0, 1) := by decide +kernel
theorem dX7_weigh_66 : decode cX7_weigh 66 = .ok (.invokevirtual 26, 3) := by decide +kernel
theorem dX7_weigh_69 : decode cX7_weigh 69 = .ok (.lstore 7, 2) := by decide +kernel
theorem dX7_weigh_71 : decode cX7_weigh 71 = .ok (.iload 6, 2) := by decide +kernel
theorem dX7_weigh_73 : decode cX7_weigh 73 = .ok (.ifCond .eq 9, 3) := by decide +kernel
theorem dX7_weigh_76 : decode cX7_weigh 76 = .ok (.lload 7, 2) := by decide +kernel
theorem dX7_weigh_78 : decode cX7_weigh 78 = .ok (.invokestatic 30, 3) := by decide +kernel
theorem dX7_weigh_81 : decode cX7_weigh 81 = .ok (.ireturn, 1) := by decide +kernel
theorem dX7_weigh_82 : decode cX7_weigh 82 = .ok (.goto 51, 3) := by decide +kernel
theorem dX7_weigh_85 : decode cX7_weigh 85 = .ok (.iload 5, 2) := by decide +kernel
theorem dX7_weigh_87 : decode cX7_weigh 87 = .ok (.ldc 35, 2) := by decide +kernel
theorem dX7_weigh_89 : decode cX7_weigh 89 = .ok (.if_icmp .ge 13, 3) := by decide +kernel
theorem dX7_weigh_92 : decode cX7_weigh 92 = .ok (.aload_n 0, 1) := by decide +kernel
theorem dX7_weigh_93 : decode cX7_weigh 93 = .ok (.iload 5, 2) := by decide +kernel
theorem dX7_weigh_95 : decode cX7_weigh 95 = .ok (.i2l, 1) := by decide +kernel
theorem dX7_weigh_96 : decode cX7_weigh 96 = .ok (.invokevirtual 36, 3) := by decide +kernel
theorem dX7_weigh_99 : decode cX7_weigh 99 = .ok (.goto 34, 3) := by decide +kernel
theorem dX7_weigh_102 : decode cX7_weigh 102 = .ok (.iload 5, 2) := by decide +kernel
theorem dX7_weigh_104 : decode cX7_weigh 104 = .ok (.ldc 40, 2) := by decide +kernel
theorem dX7_weigh_106 : decode cX7_weigh 106 = .ok (.if_icmp .ge 21, 3) := by decide +kernel
theorem dX7_weigh_109 : decode cX7_weigh 109 = .ok (.aload_n 0, 1) := by decide +kernel
theorem dX7_weigh_110 : decode cX7_weigh 110 = .ok (.aload_n 2, 1) := by decide +kernel
theorem dX7_weigh_111 : decode cX7_weigh 111 = .ok (.iload 5, 2) := by decide +kernel
theorem dX7_weigh_113 : decode cX7_weigh 113 = .ok (.ldc 35, 2) := by decide +kernel
theorem dX7_weigh_115 : decode cX7_weigh 115 = .ok (.isub, 1) := by decide +kernel
theorem dX7_weigh_116 : decode cX7_weigh 116 = .ok (.iload_n 3, 1) := by decide +kernel
theorem dX7_weigh_117 : decode cX7_weigh 117 = .ok (.invokevirtual 41, 3) := by decide +kernel
theorem dX7_weigh_120 : decode cX7_weigh 120 = .ok (.i2l, 1) := by decide +kernel
theorem dX7_weigh_121 : decode cX7_weigh 121 = .ok (.invokevirtual 36, 3) := by decide +kernel
theorem dX7_weigh_124 : decode cX7_weigh 124 = .ok (.goto 9, 3) := by decide +kernel
theorem dX7_weigh_127 : decode cX7_weigh 127 = .ok (.aload_n 0, 1) := by decide +kernel
theorem dX7_weigh_128 : decode cX7_weigh 128 = .ok (.iload 5, 2) := by decide +kernel
theorem dX7_weigh_130 : decode cX7_weigh 130 = .ok (.invokevirtual 47, 3) := by decide +kernel
theorem dX7_weigh_133 : decode cX7_weigh 133 = .ok (.iinc 4 1, 3) := by decide +kernel
theorem dX7_weigh_136 : decode cX7_weigh 136 = .ok (.goto (-128), 3) := by decide +kernel
theorem dX7_weigh_139 : decode cX7_weigh 139 = .ok (.iconst 0, 1) := by decide +kernel
theorem dX7_weigh_140 : decode cX7_weigh 140 = .ok (.ireturn, 1) := by decide +kernel
set_option maxRecDepth 100000 in
set_option maxHeartbeats 4000000 in
theorem n_X7_weigh {h g : ai_H} {B : Bk} {q p n : Nat} {f : Nat → Int32} {rec : Int32} {u5 u6 u7 u8 : Value} {Q : Option Value → ai_H → Prop} {S : Md} {s : List Int64} {i : Nat} (hi : i < n) (hn : n ≤ 1000) (E0 : sx h g) (hB : bk_at g 1 B) (hL : law_at g q p n f) (hK : SK g S s) {x : Nat} (hx : x ≤ 99999) (hl : s.length < 64) (ef : f i = nI x) (kx : ∀ (u5 : Value) (S : Md) (g : ai_H), sx h g → bk_at g 1 B → law_at g q p n f → SK g S (aL x :: s) → ai_W MX7_weigh 8 [.ref 20, .ref q, .ref 1, .int rec, .int (nI (i + 1)), u5, u6, u7, u8] [] g Q) : ai_W MX7_weigh 8 [.ref 20, .ref q, .ref 1, .int rec, .int (nI i), u5, u6, u7, u8] [] g Q := by
  have hsc := hK.1
  refine wq (fun _ _ kk => rs_iload (pc := 8) dX7_weigh_8 rfl kk) ?_
  refine wq (fun _ _ kk => rs_aload_n (pc := 10) dX7_weigh_10 rfl kk) ?_
  refine wq (fun _ _ kk => rs_getf (pc := 11) dX7_weigh_11 fX7_19 hL.2.2.1 hL.2.2.2.2.1 rfl kk) ?_
  refine wq (fun _ _ kk => rs_alen (pc := 14) dX7_weigh_14 (fun _ => rfl) hL.2.2.2.1 hL.2.2.2.2.2 rfl kk) ?_
  refine wq_br (fun _ _ kt kf => rs_icmp_ge (tgt := 139) (pc := 15) dX7_weigh_15 rfl kt kf) (fun c_15 => absurd c_15 (fun z => by have z : nI n ≤ nI i := z; rw [i32_le, nI_toInt (by omega), nI_toInt (by omega)] at z; omega)) (fun c_15 => ?_)
  refine wq (fun _ _ kk => rs_aload_n (pc := 18) dX7_weigh_18 rfl kk) ?_
  refine wq (fun _ _ kk => rs_getf (pc := 19) dX7_weigh_19 fX7_19 hL.2.2.1 hL.2.2.2.2.1 rfl kk) ?_
  refine wq (fun _ _ kk => rs_iload (pc := 22) dX7_weigh_22 rfl kk) ?_
  refine wq (fun _ _ kk => rs_iald (pc := 24) dX7_weigh_24 hL.2.2.2.1 hL.2.2.2.2.2 (vp_in_nI (n := i) (N := n) hi (by omega)) kk) ?_
  rw [nI_clamp (show i < 2 ^ 31 by omega), ef]
  refine wq (fun _ _ kk => wk_ist5 (pc := 25) dX7_weigh_25 (by decide) rfl kk) ?_
  refine wq (fun _ _ kk => rs_iload (pc := 27) dX7_weigh_27 rfl kk) ?_
  refine wq (fun _ _ kk => rs_ldc (pc := 29) dX7_weigh_29 cnX7_25 kk) ?_
  refine wq_bn (fun _ _ kt kf => rs_icmp_ne (tgt := 42) (pc := 31) dX7_weigh_31 rfl kt kf) (fun c_31 => ?_) (fun c_31 => absurd c_31 (fun z => by have z := nI_inj (by omega) (by decide) (show _ = nI 200011 from z); omega))
  refine wq (fun _ _ kk => rs_iload (pc := 42) dX7_weigh_42 rfl kk) ?_
  refine wq (fun _ _ kk => rs_ldc (pc := 44) dX7_weigh_44 cnX7_34 kk) ?_
  refine wq_bn (fun _ _ kt kf => rs_icmp_ne (tgt := 85) (pc := 46) dX7_weigh_46 rfl kt kf) (fun c_46 => ?_) (fun c_46 => absurd c_46 (fun z => by have z := nI_inj (by omega) (by decide) (show _ = nI 200012 from z); omega))
  refine wq (fun _ _ kk => rs_iload (pc := 85) dX7_weigh_85 rfl kk) ?_
  refine wq (fun _ _ kk => rs_ldc (pc := 87) dX7_weigh_87 cnX7_35 kk) ?_
  refine wq_br (fun _ _ kt kf => rs_icmp_ge (tgt := 102) (pc := 89) dX7_weigh_89 rfl kt kf) (fun c_89 => absurd c_89 (fun z => by rw [i32_le, nI_toInt (by omega), show (100000 : Int32).toInt = 100000 from rfl] at z; omega)) (fun c_89 => ?_)
  refine wq (fun _ _ kk => rs_aload_n (pc := 92) dX7_weigh_92 rfl kk) ?_
  refine wq (fun _ _ kk => rs_iload (pc := 93) dX7_weigh_93 rfl kk) ?_
  refine wq (fun _ _ kk => rs_i2l (pc := 95) dX7_weigh_95 kk) ?_
  rw [nI_i2l (by omega)]
  obtain ⟨rv_96, hc_96, ⟨rfl, ee_96, S3, hK_96⟩, hm_96⟩ := c_X7_lift hK (by omega) _
  refine wq (fun _ _ kk => rs_callV (as := [_]) (pc := 96) dX7_weigh_96 mk_X7_lift mlX7_36 in_X7_lift se_X7_lift rfl (mo_lt hsc (by decide)) hsc.2.1 rfl rfl (Nat.le_of_ble_eq_true rfl) (hm_96) kk) ?_
  have hB_96 := hB.keep ee_96.1 (fun j _ _ => ee_96.2.2 j (by omega))
  have hL_96 := law_keep hL ee_96.1 (fun j hj => ee_96.2.2 j (by omega))
  refine wq (fun _ _ kk => rs_goto (tgt := 133) (pc := 99) dX7_weigh_99 rfl kk) ?_
  refine wq (fun _ _ kk => wk_iinc4 (v := nI (i + 1)) (pc := 133) dX7_weigh_133 (by decide) rfl (nI_1 i) kk) ?_
  refine wq (fun _ _ kk => rs_goto (tgt := 8) (pc := 136) dX7_weigh_136 rfl kk) ?_
  exact kx _ S3 _ (E0.trans ee_96) hB_96 hL_96 hK_96
set_option maxRecDepth 100000 in
set_option maxHeartbeats 4000000 in
theorem w_X7_weigh {h g : ai_H} {B : Bk} {q p n : Nat} {f : Nat → Int32} {rec : Int32} {u5 u6 u7 u8 : Value} {Q : Option Value → ai_H → Prop} {S : Md} {s : List Int64} {i : Nat} (hi : i < n) (hn : n ≤ 1000) (E0 : sx h g) (hB : bk_at g 1 B) (hL : law_at g q p n f) (hK : SK g S s) {x : Nat} (hx : x < 10) (hl : s.length < 64) (ef : f i = nI (100000 + x)) (kx : ∀ (u5 : Value) (S : Md) (g : ai_H), sx h g → bk_at g 1 B → law_at g q p n f → SK g S ((bk_word B (nI x) rec).toInt64 :: s) → ai_W MX7_weigh 8 [.ref 20, .ref q, .ref 1, .int rec, .int (nI (i + 1)), u5, u6, u7, u8] [] g Q) : ai_W MX7_weigh 8 [.ref 20, .ref q, .ref 1, .int rec, .int (nI i), u5, u6, u7, u8] [] g Q := by
  have hsc := hK.1
  refine wq (fun _ _ kk => rs_iload (pc := 8) dX7_weigh_8 rfl kk) ?_
  refine wq (fun _ _ kk => rs_aload_n (pc := 10) dX7_weigh_10 rfl kk) ?_
  refine wq (fun _ _ kk => rs_getf (pc := 11) dX7_weigh_11 fX7_19 hL.2.2.1 hL.2.2.2.2.1 rfl kk) ?_
  refine wq (fun _ _ kk => rs_alen (pc := 14) dX7_weigh_14 (fun _ => rfl) hL.2.2.2.1 hL.2.2.2.2.2 rfl kk) ?_
  refine wq_br (fun _ _ kt kf => rs_icmp_ge (tgt := 139) (pc := 15) dX7_weigh_15 rfl kt kf) (fun c_15 => absurd c_15 (fun z => by have z : nI n ≤ nI i := z; rw [i32_le, nI_toInt (by omega), nI_toInt (by omega)] at z; omega)) (fun c_15 => ?_)
  refine wq (fun _ _ kk => rs_aload_n (pc := 18) dX7_weigh_18 rfl kk) ?_
  refine wq (fun _ _ kk => rs_getf (pc := 19) dX7_weigh_19 fX7_19 hL.2.2.1 hL.2.2.2.2.1 rfl kk) ?_
  refine wq (fun _ _ kk => rs_iload (pc := 22) dX7_weigh_22 rfl kk) ?_
  refine wq (fun _ _ kk => rs_iald (pc := 24) dX7_weigh_24 hL.2.2.2.1 hL.2.2.2.2.2 (vp_in_nI (n := i) (N := n) hi (by omega)) kk) ?_
  rw [nI_clamp (show i < 2 ^ 31 by omega), ef]
  refine wq (fun _ _ kk => wk_ist5 (pc := 25) dX7_weigh_25 (by decide) rfl kk) ?_
  refine wq (fun _ _ kk => rs_iload (pc := 27) dX7_weigh_27 rfl kk) ?_
  refine wq (fun _ _ kk => rs_ldc (pc := 29) dX7_weigh_29 cnX7_25 kk) ?_
  refine wq_bn (fun _ _ kt kf => rs_icmp_ne (tgt := 42) (pc := 31) dX7_weigh_31 rfl kt kf) (fun c_31 => ?_) (fun c_31 => absurd c_31 (fun z => by have z := nI_inj (by omega) (by decide) (show _ = nI 200011 from z); omega))
  refine wq (fun _ _ kk => rs_iload (pc := 42) dX7_weigh_42 rfl kk) ?_
  refine wq (fun _ _ kk => rs_ldc (pc := 44) dX7_weigh_44 cnX7_34 kk) ?_
  refine wq_bn (fun _ _ kt kf => rs_icmp_ne (tgt := 85) (pc := 46) dX7_weigh_46 rfl kt kf) (fun c_46 => ?_) (fun c_46 => absurd c_46 (fun z => by have z := nI_inj (by omega) (by decide) (show _ = nI 200012 from z); omega))
  refine wq (fun _ _ kk => rs_iload (pc := 85) dX7_weigh_85 rfl kk) ?_
  refine wq (fun _ _ kk => rs_ldc (pc := 87) dX7_weigh_87 cnX7_35 kk) ?_
  refine wq_br (fun _ _ kt kf => rs_icmp_ge (tgt := 102) (pc := 89) dX7_weigh_89 rfl kt kf) (fun c_89 => ?_) (fun c_89 => absurd c_89 (fun z => z (by rw [i32_le, nI_toInt (by omega), show (100000 : Int32).toInt = 100000 from rfl]; omega)))
  refine wq (fun _ _ kk => rs_iload (pc := 102) dX7_weigh_102 rfl kk) ?_
  refine wq (fun _ _ kk => rs_ldc (pc := 104) dX7_weigh_104 cnX7_40 kk) ?_
  refine wq_br (fun _ _ kt kf => rs_icmp_ge (tgt := 127) (pc := 106) dX7_weigh_106 rfl kt kf) (fun c_106 => absurd c_106 (fun z => by rw [i32_le, nI_toInt (by omega), show (200000 : Int32).toInt = 200000 from rfl] at z; omega)) (fun c_106 => ?_)
  refine wq (fun _ _ kk => rs_aload_n (pc := 109) dX7_weigh_109 rfl kk) ?_
  refine wq (fun _ _ kk => rs_aload_n (pc := 110) dX7_weigh_110 rfl kk) ?_
  refine wq (fun _ _ kk => rs_iload (pc := 111) dX7_weigh_111 rfl kk) ?_
  refine wq (fun _ _ kk => rs_ldc (pc := 113) dX7_weigh_113 cnX7_35 kk) ?_
  refine wq (fun _ _ kk => rs_isub (pc := 115) dX7_weigh_115 kk) ?_
  rw [show nI (100000 + x) - 100000 = nI x from by rw [show (100000 : Int32) = nI 100000 from rfl, nI_sb (by omega), Nat.add_sub_cancel_left]]
  refine wq (fun _ _ kk => rs_iload_n (pc := 116) dX7_weigh_116 rfl kk) ?_
  refine wq (fun _ _ kk => rs_callV (as := [_, _]) (pc := 117) dX7_weigh_117 mk_X1_word mlX7_41 in_X1_word se_X1_word rfl (bk_lt hB (by decide)) hB.2.1 rfl rfl (Nat.le_of_ble_eq_true rfl) (c_X1_word hB _ _) kk) ?_
  refine wq (fun _ _ kk => rs_i2l (pc := 120) dX7_weigh_120 kk) ?_
  obtain ⟨rv_121, hc_121, ⟨rfl, ee_121, S3, hK_121⟩, hm_121⟩ := c_X7_lift hK (by omega) _
  refine wq (fun _ _ kk => rs_callV (as := [_]) (pc := 121) dX7_weigh_121 mk_X7_lift mlX7_36 in_X7_lift se_X7_lift rfl (mo_lt hsc (by decide)) hsc.2.1 rfl rfl (Nat.le_of_ble_eq_true rfl) (hm_121) kk) ?_
  have hB_121 := hB.keep ee_121.1 (fun j _ _ => ee_121.2.2 j (by omega))
  have hL_121 := law_keep hL ee_121.1 (fun j hj => ee_121.2.2 j (by omega))
  refine wq (fun _ _ kk => rs_goto (tgt := 133) (pc := 124) dX7_weigh_124 rfl kk) ?_
  refine wq (fun _ _ kk => wk_iinc4 (v := nI (i + 1)) (pc := 133) dX7_weigh_133 (by decide) rfl (nI_1 i) kk) ?_
  refine wq (fun _ _ kk => rs_goto (tgt := 8) (pc := 136) dX7_weigh_136 rfl kk) ?_
  exact kx _ S3 _ (E0.trans ee_121) hB_121 hL_121 hK_121
set_option maxRecDepth 100000 in
set_option maxHeartbeats 4000000 in
theorem o_X7_weigh {h g : ai_H} {B : Bk} {q p n : Nat} {f : Nat → Int32} {rec : Int32} {u5 u6 u7 u8 : Value} {Q : Option Value → ai_H → Prop} {S : Md} {a : Int64} {s : List Int64} {i : Nat} (hi : i < n) (hn : n ≤ 1000) (E0 : sx h g) (hB : bk_at g 1 B) (hL : law_at g q p n f) (hK : SK g S (a :: s)) (hl : s.length < 64) (ef : f i = 200002) (kx : ∀ (u5 : Value) (S : Md) (g : ai_H), sx h g → bk_at g 1 B → law_at g q p n f → SK g S ((if a = 0 then 1 else 0) :: s) → ai_W MX7_weigh 8 [.ref 20, .ref q, .ref 1, .int rec, .int (nI (i + 1)), u5, u6, u7, u8] [] g Q) : ai_W MX7_weigh 8 [.ref 20, .ref q, .ref 1, .int rec, .int (nI i), u5, u6, u7, u8] [] g Q := by
  have hsc := hK.1
  refine wq (fun _ _ kk => rs_iload (pc := 8) dX7_weigh_8 rfl kk) ?_
  refine wq (fun _ _ kk => rs_aload_n (pc := 10) dX7_weigh_10 rfl kk) ?_
  refine wq (fun _ _ kk => rs_getf (pc := 11) dX7_weigh_11 fX7_19 hL.2.2.1 hL.2.2.2.2.1 rfl kk) ?_
  refine wq (fun _ _ kk => rs_alen (pc := 14) dX7_weigh_14 (fun _ => rfl) hL.2.2.2.1 hL.2.2.2.2.2 rfl kk) ?_
  refine wq_br (fun _ _ kt kf => rs_icmp_ge (tgt := 139) (pc := 15) dX7_weigh_15 rfl kt kf) (fun c_15 => absurd c_15 (fun z => by have z : nI n ≤ nI i := z; rw [i32_le, nI_toInt (by omega), nI_toInt (by omega)] at z; omega)) (fun c_15 => ?_)
  refine wq (fun _ _ kk => rs_aload_n (pc := 18) dX7_weigh_18 rfl kk) ?_
  refine wq (fun _ _ kk => rs_getf (pc := 19) dX7_weigh_19 fX7_19 hL.2.2.1 hL.2.2.2.2.1 rfl kk) ?_
  refine wq (fun _ _ kk => rs_iload (pc := 22) dX7_weigh_22 rfl kk) ?_
  refine wq (fun _ _ kk => rs_iald (pc := 24) dX7_weigh_24 hL.2.2.2.1 hL.2.2.2.2.2 (vp_in_nI (n := i) (N := n) hi (by omega)) kk) ?_
  rw [nI_clamp (show i < 2 ^ 31 by omega), ef]
  refine wq (fun _ _ kk => wk_ist5 (pc := 25) dX7_weigh_25 (by decide) rfl kk) ?_
  refine wq (fun _ _ kk => rs_iload (pc := 27) dX7_weigh_27 rfl kk) ?_
  refine wq (fun _ _ kk => rs_ldc (pc := 29) dX7_weigh_29 cnX7_25 kk) ?_
  refine wq_bn (fun _ _ kt kf => rs_icmp_ne (tgt := 42) (pc := 31) dX7_weigh_31 rfl kt kf) (fun c_31 => ?_) (fun c_31 => absurd c_31 (by decide))
  refine wq (fun _ _ kk => rs_iload (pc := 42) dX7_weigh_42 rfl kk) ?_
  refine wq (fun _ _ kk => rs_ldc (pc := 44) dX7_weigh_44 cnX7_34 kk) ?_
  refine wq_bn (fun _ _ kt kf => rs_icmp_ne (tgt := 85) (pc := 46) dX7_weigh_46 rfl kt kf) (fun c_46 => ?_) (fun c_46 => absurd c_46 (by decide))
  refine wq (fun _ _ kk => rs_iload (pc := 85) dX7_weigh_85 rfl kk) ?_
  refine wq (fun _ _ kk => rs_ldc (pc := 87) dX7_weigh_87 cnX7_35 kk) ?_
  refine wq_br (fun _ _ kt kf => rs_icmp_ge (tgt := 102) (pc := 89) dX7_weigh_89 rfl kt kf) (fun c_89 => ?_) (fun c_89 => absurd c_89 (by decide))
  refine wq (fun _ _ kk => rs_iload (pc := 102) dX7_weigh_102 rfl kk) ?_
  refine wq (fun _ _ kk => rs_ldc (pc := 104) dX7_weigh_104 cnX7_40 kk) ?_
  refine wq_br (fun _ _ kt kf => rs_icmp_ge (tgt := 127) (pc := 106) dX7_weigh_106 rfl kt kf) (fun c_106 => ?_) (fun c_106 => absurd c_106 (by decide))
  refine wq (fun _ _ kk => rs_aload_n (pc := 127) dX7_weigh_127 rfl kk) ?_
  refine wq (fun _ _ kk => rs_iload (pc := 128) dX7_weigh_128 rfl kk) ?_
  obtain ⟨rv_130, hc_130, ⟨rfl, ee_130, S3, hK_130⟩, hm_130⟩ := c_X7_operate_n hK (by omega)
  refine wq (fun _ _ kk => rs_callV (as := [_]) (pc := 130) dX7_weigh_130 mk_X7_operate mlX7_47 in_X7_operate se_X7_operate rfl (mo_lt hsc (by decide)) hsc.2.1 rfl rfl (Nat.le_of_ble_eq_true rfl) (hm_130) kk) ?_
  have hB_130 := hB.keep ee_130.1 (fun j _ _ => ee_130.2.2 j (by omega))
  have hL_130 := law_keep hL ee_130.1 (fun j hj => ee_130.2.2 j (by omega))
  refine wq (fun _ _ kk => wk_iinc4 (v := nI (i + 1)) (pc := 133) dX7_weigh_133 (by decide) rfl (nI_1 i) kk) ?_
  refine wq (fun _ _ kk => rs_goto (tgt := 8) (pc := 136) dX7_weigh_136 rfl kk) ?_
  exact kx _ S3 _ (E0.trans ee_130) hB_130 hL_130 hK_130
set_option maxRecDepth 100000 in
set_option maxHeartbeats 4000000 in
theorem b_X7_weigh {h g : ai_H} {B : Bk} {q p n : Nat} {f : Nat → Int32} {rec : Int32} {u5 u6 u7 u8 : Value} {Q : Option Value → ai_H → Prop} {S : Md} {k : Nat} {a b : Int64} {s : List Int64} {i : Nat} (hi : i < n) (hn : n ≤ 1000) (E0 : sx h g) (hB : bk_at g 1 B) (hL : law_at g q p n f) (hK : SK g S (b :: a :: s)) (hl : s.length + 1 < 64) (hk : ar k = true ∨ cm k = true ∨ lg k = true) (ef : f i = nI (opc k)) (kx : ∀ (u5 : Value) (S : Md) (g : ai_H), sx h g → bk_at g 1 B → law_at g q p n f → SK g S (bop k a b :: s) → ai_W MX7_weigh 8 [.ref 20, .ref q, .ref 1, .int rec, .int (nI (i + 1)), u5, u6, u7, u8] [] g Q) : ai_W MX7_weigh 8 [.ref 20, .ref q, .ref 1, .int rec, .int (nI i), u5, u6, u7, u8] [] g Q := by
  have hsc := hK.1
  obtain ⟨ob1, ob2, -⟩ := opc_b hk
  refine wq (fun _ _ kk => rs_iload (pc := 8) dX7_weigh_8 rfl kk) ?_
  refine wq (fun _ _ kk => rs_aload_n (pc := 10) dX7_weigh_10 rfl kk) ?_
  refine wq (fun _ _ kk => rs_getf (pc := 11) dX7_weigh_11 fX7_19 hL.2.2.1 hL.2.2.2.2.1 rfl kk) ?_
  refine wq (fun _ _ kk => rs_alen (pc := 14) dX7_weigh_14 (fun _ => rfl) hL.2.2.2.1 hL.2.2.2.2.2 rfl kk) ?_
  refine wq_br (fun _ _ kt kf => rs_icmp_ge (tgt := 139) (pc := 15) dX7_weigh_15 rfl kt kf) (fun c_15 => absurd c_15 (fun z => by have z : nI n ≤ nI i := z; rw [i32_le, nI_toInt (by omega), nI_toInt (by omega)] at z; omega)) (fun c_15 => ?_)
  refine wq (fun _ _ kk => rs_aload_n (pc := 18) dX7_weigh_18 rfl kk) ?_
  refine wq (fun _ _ kk => rs_getf (pc := 19) dX7_weigh_19 fX7_19 hL.2.2.1 hL.2.2.2.2.1 rfl kk) ?_
  refine wq (fun _ _ kk => rs_iload (pc := 22) dX7_weigh_22 rfl kk) ?_
  refine wq (fun _ _ kk => rs_iald (pc := 24) dX7_weigh_24 hL.2.2.2.1 hL.2.2.2.2.2 (vp_in_nI (n := i) (N := n) hi (by omega)) kk) ?_
  rw [nI_clamp (show i < 2 ^ 31 by omega), ef]
  refine wq (fun _ _ kk => wk_ist5 (pc := 25) dX7_weigh_25 (by decide) rfl kk) ?_
  refine wq (fun _ _ kk => rs_iload (pc := 27) dX7_weigh_27 rfl kk) ?_
  refine wq (fun _ _ kk => rs_ldc (pc := 29) dX7_weigh_29 cnX7_25 kk) ?_
  refine wq_bn (fun _ _ kt kf => rs_icmp_ne (tgt := 42) (pc := 31) dX7_weigh_31 rfl kt kf) (fun c_31 => ?_) (fun c_31 => absurd c_31 (fun z => by have z := nI_inj (by omega) (by decide) (show _ = nI 200011 from z); omega))
  refine wq (fun _ _ kk => rs_iload (pc := 42) dX7_weigh_42 rfl kk) ?_
  refine wq (fun _ _ kk => rs_ldc (pc := 44) dX7_weigh_44 cnX7_34 kk) ?_
  refine wq_bn (fun _ _ kt kf => rs_icmp_ne (tgt := 85) (pc := 46) dX7_weigh_46 rfl kt kf) (fun c_46 => ?_) (fun c_46 => absurd c_46 (fun z => by have z := nI_inj (by omega) (by decide) (show _ = nI 200012 from z); omega))
  refine wq (fun _ _ kk => rs_iload (pc := 85) dX7_weigh_85 rfl kk) ?_
  refine wq (fun _ _ kk => rs_ldc (pc := 87) dX7_weigh_87 cnX7_35 kk) ?_
  refine wq_br (fun _ _ kt kf => rs_icmp_ge (tgt := 102) (pc := 89) dX7_weigh_89 rfl kt kf) (fun c_89 => ?_) (fun c_89 => absurd c_89 (fun z => z (by rw [i32_le, nI_toInt (by omega), show (100000 : Int32).toInt = 100000 from rfl]; omega)))
  refine wq (fun _ _ kk => rs_iload (pc := 102) dX7_weigh_102 rfl kk) ?_
  refine wq (fun _ _ kk => rs_ldc (pc := 104) dX7_weigh_104 cnX7_40 kk) ?_
  refine wq_br (fun _ _ kt kf => rs_icmp_ge (tgt := 127) (pc := 106) dX7_weigh_106 rfl kt kf) (fun c_106 => ?_) (fun c_106 => absurd c_106 (fun z => z (by rw [i32_le, nI_toInt (by omega), show (200000 : Int32).toInt = 200000 from rfl]; omega)))
  refine wq (fun _ _ kk => rs_aload_n (pc := 127) dX7_weigh_127 rfl kk) ?_
  refine wq (fun _ _ kk => rs_iload (pc := 128) dX7_weigh_128 rfl kk) ?_
  obtain ⟨rv_130, hc_130, ⟨rfl, ee_130, S3, hK_130⟩, hm_130⟩ := c_X7_operate_b hk hK (by omega)
  refine wq (fun _ _ kk => rs_callV (as := [_]) (pc := 130) dX7_weigh_130 mk_X7_operate mlX7_47 in_X7_operate se_X7_operate rfl (mo_lt hsc (by decide)) hsc.2.1 rfl rfl (Nat.le_of_ble_eq_true rfl) (hm_130) kk) ?_
  have hB_130 := hB.keep ee_130.1 (fun j _ _ => ee_130.2.2 j (by omega))
  have hL_130 := law_keep hL ee_130.1 (fun j hj => ee_130.2.2 j (by omega))
  refine wq (fun _ _ kk => wk_iinc4 (v := nI (i + 1)) (pc := 133) dX7_weigh_133 (by decide) rfl (nI_1 i) kk) ?_
  refine wq (fun _ _ kk => rs_goto (tgt := 8) (pc := 136) dX7_weigh_136 rfl kk) ?_
  exact kx _ S3 _ (E0.trans ee_130) hB_130 hL_130 hK_130
set_option maxRecDepth 100000 in
set_option maxHeartbeats 4000000 in
theorem e_X7_weigh {h g : ai_H} {B : Bk} {q p n : Nat} {f : Nat → Int32} {rec : Int32} {u5 u6 u7 u8 : Value} {Q : Option Value → ai_H → Prop} {S : Md} {a : Int64} {i : Nat} (hi : i < n) (hn : n ≤ 1000) (E0 : sx h g) (hB : bk_at g 1 B) (hL : law_at g q p n f) (hK : SK g S [a]) (ef : f i = 200011) (kr : ∀ (g : ai_H), sx h g → (∃ S, sc_at g S) → Q (some (.int (hld a).toInt32)) g) : ai_W MX7_weigh 8 [.ref 20, .ref q, .ref 1, .int rec, .int (nI i), u5, u6, u7, u8] [] g Q := by
  have hsc := hK.1
  have hl0 : ([] : List Int64).length < 64 := by decide
  refine wq (fun _ _ kk => rs_iload (pc := 8) dX7_weigh_8 rfl kk) ?_
  refine wq (fun _ _ kk => rs_aload_n (pc := 10) dX7_weigh_10 rfl kk) ?_
  refine wq (fun _ _ kk => rs_getf (pc := 11) dX7_weigh_11 fX7_19 hL.2.2.1 hL.2.2.2.2.1 rfl kk) ?_
  refine wq (fun _ _ kk => rs_alen (pc := 14) dX7_weigh_14 (fun _ => rfl) hL.2.2.2.1 hL.2.2.2.2.2 rfl kk) ?_
  refine wq_br (fun _ _ kt kf => rs_icmp_ge (tgt := 139) (pc := 15) dX7_weigh_15 rfl kt kf) (fun c_15 => absurd c_15 (fun z => by have z : nI n ≤ nI i := z; rw [i32_le, nI_toInt (by omega), nI_toInt (by omega)] at z; omega)) (fun c_15 => ?_)
  refine wq (fun _ _ kk => rs_aload_n (pc := 18) dX7_weigh_18 rfl kk) ?_
  refine wq (fun _ _ kk => rs_getf (pc := 19) dX7_weigh_19 fX7_19 hL.2.2.1 hL.2.2.2.2.1 rfl kk) ?_
  refine wq (fun _ _ kk => rs_iload (pc := 22) dX7_weigh_22 rfl kk) ?_
  refine wq (fun _ _ kk => rs_iald (pc := 24) dX7_weigh_24 hL.2.2.2.1 hL.2.2.2.2.2 (vp_in_nI (n := i) (N := n) hi (by omega)) kk) ?_
  rw [nI_clamp (show i < 2 ^ 31 by omega), ef]
  refine wq (fun _ _ kk => wk_ist5 (pc := 25) dX7_weigh_25 (by decide) rfl kk) ?_
  refine wq (fun _ _ kk => rs_iload (pc := 27) dX7_weigh_27 rfl kk) ?_
  refine wq (fun _ _ kk => rs_ldc (pc := 29) dX7_weigh_29 cnX7_25 kk) ?_
  refine wq_bn (fun _ _ kt kf => rs_icmp_ne (tgt := 42) (pc := 31) dX7_weigh_31 rfl kt kf) (fun c_31 => absurd c_31 (fun z => z rfl)) (fun c_31 => ?_)
  refine wq (fun _ _ kk => rs_aload_n (pc := 34) dX7_weigh_34 rfl kk) ?_
  obtain ⟨rv_35, hc_35, ⟨rfl, ee_35, S2, hK_35⟩, hm_35⟩ := c_X7_drop hK (by omega)
  refine wq (fun _ _ kk => rs_callV (as := []) (pc := 35) dX7_weigh_35 mk_X7_drop mlX7_26 in_X7_drop se_X7_drop rfl (mo_lt hsc (by decide)) hsc.2.1 rfl rfl (Nat.le_of_ble_eq_true rfl) (hm_35) kk) ?_
  obtain ⟨hsc, -, -⟩ := id hK_35
  refine wq (fun _ _ kk => rs_callS (as := [_]) (pc := 38) dX7_weigh_38 mk_X7_held mlX7_30 st_X7_held rfl rfl (Nat.le_of_ble_eq_true rfl) (c_X7_held _) kk) ?_
  refine wq_ret ?_ (rs_iret (pc := 41) dX7_weigh_41 rfl)
  exact kr _ (E0.trans ee_35) ⟨S2, hK_35.1⟩
set_option maxRecDepth 100000 in
set_option maxHeartbeats 4000000 in
theorem i_X7_weigh {h g : ai_H} {B : Bk} {q p n : Nat} {f : Nat → Int32} {rec : Int32} {u5 u6 u7 u8 : Value} {Q : Option Value → ai_H → Prop} {S : Md} {a t : Int64} {i : Nat} (hi : i < n) (hn : n ≤ 1000) (E0 : sx h g) (hB : bk_at g 1 B) (hL : law_at g q p n f) (hK : SK g S [t, a]) (ef : f i = 200012) (kr : ¬ t = 0 → ∀ (g : ai_H), sx h g → (∃ S, sc_at g S) → Q (some (.int (hld a).toInt32)) g) (kx : t = 0 → ∀ (u5 u6 u7 u8 : Value) (S : Md) (g : ai_H), sx h g → bk_at g 1 B → law_at g q p n f → SK g S [] → ai_W MX7_weigh 8 [.ref 20, .ref q, .ref 1, .int rec, .int (nI (i + 1)), u5, u6, u7, u8] [] g Q) : ai_W MX7_weigh 8 [.ref 20, .ref q, .ref 1, .int rec, .int (nI i), u5, u6, u7, u8] [] g Q := by
  have hsc := hK.1
  refine wq (fun _ _ kk => rs_iload (pc := 8) dX7_weigh_8 rfl kk) ?_
  refine wq (fun _ _ kk => rs_aload_n (pc := 10) dX7_weigh_10 rfl kk) ?_
  refine wq (fun _ _ kk => rs_getf (pc := 11) dX7_weigh_11 fX7_19 hL.2.2.1 hL.2.2.2.2.1 rfl kk) ?_
  refine wq (fun _ _ kk => rs_alen (pc := 14) dX7_weigh_14 (fun _ => rfl) hL.2.2.2.1 hL.2.2.2.2.2 rfl kk) ?_
  refine wq_br (fun _ _ kt kf => rs_icmp_ge (tgt := 139) (pc := 15) dX7_weigh_15 rfl kt kf) (fun c_15 => absurd c_15 (fun z => by have z : nI n ≤ nI i := z; rw [i32_le, nI_toInt (by omega), nI_toInt (by omega)] at z; omega)) (fun c_15 => ?_)
  refine wq (fun _ _ kk => rs_aload_n (pc := 18) dX7_weigh_18 rfl kk) ?_
  refine wq (fun _ _ kk => rs_getf (pc := 19) dX7_weigh_19 fX7_19 hL.2.2.1 hL.2.2.2.2.1 rfl kk) ?_
  refine wq (fun _ _ kk => rs_iload (pc := 22) dX7_weigh_22 rfl kk) ?_
  refine wq (fun _ _ kk => rs_iald (pc := 24) dX7_weigh_24 hL.2.2.2.1 hL.2.2.2.2.2 (vp_in_nI (n := i) (N := n) hi (by omega)) kk) ?_
  rw [nI_clamp (show i < 2 ^ 31 by omega), ef]
  refine wq (fun _ _ kk => wk_ist5 (pc := 25) dX7_weigh_25 (by decide) rfl kk) ?_
  refine wq (fun _ _ kk => rs_iload (pc := 27) dX7_weigh_27 rfl kk) ?_
  refine wq (fun _ _ kk => rs_ldc (pc := 29) dX7_weigh_29 cnX7_25 kk) ?_
  refine wq_bn (fun _ _ kt kf => rs_icmp_ne (tgt := 42) (pc := 31) dX7_weigh_31 rfl kt kf) (fun c_31 => ?_) (fun c_31 => absurd c_31 (by decide))
  refine wq (fun _ _ kk => rs_iload (pc := 42) dX7_weigh_42 rfl kk) ?_
  refine wq (fun _ _ kk => rs_ldc (pc := 44) dX7_weigh_44 cnX7_34 kk) ?_
  refine wq_bn (fun _ _ kt kf => rs_icmp_ne (tgt := 85) (pc := 46) dX7_weigh_46 rfl kt kf) (fun c_46 => absurd c_46 (fun z => z rfl)) (fun c_46 => ?_)
  refine wq (fun _ _ kk => rs_aload_n (pc := 49) dX7_weigh_49 rfl kk) ?_
  obtain ⟨rv_50, hc_50, ⟨rfl, ee_50, S2, hK_50⟩, hm_50⟩ := c_X7_drop hK (show 1 < 64 by decide)
  refine wq (fun _ _ kk => rs_callV (as := []) (pc := 50) dX7_weigh_50 mk_X7_drop mlX7_26 in_X7_drop se_X7_drop rfl (mo_lt hsc (by decide)) hsc.2.1 rfl rfl (Nat.le_of_ble_eq_true rfl) (hm_50) kk) ?_
  obtain ⟨hsc, -, -⟩ := id hK_50
  refine wq (fun _ _ kk => rs_lconst (v := 0) (pc := 53) dX7_weigh_53 rfl kk) ?_
  refine wq_br (fun _ _ kt kf => wk_lcmp_eq (tgt := 62) (pc := 54) dX7_weigh_54 dX7_weigh_55 rfl kt kf) (fun c_54 => ?_) (fun c_54 => ?_)
  · refine wq (fun _ _ kk => rs_iconst (v := 0) (pc := 62) dX7_weigh_62 rfl kk) ?_
    refine wq (fun _ _ kk => wk_ist6 (pc := 63) dX7_weigh_63 (by decide) rfl kk) ?_
    refine wq (fun _ _ kk => rs_aload_n (pc := 65) dX7_weigh_65 rfl kk) ?_
    obtain ⟨rv_66, hc_66, ⟨rfl, ee_66, S4, hK_66⟩, hm_66⟩ := c_X7_drop hK_50 (show 0 < 64 by decide)
    refine wq (fun _ _ kk => rs_callV (as := []) (pc := 66) dX7_weigh_66 mk_X7_drop mlX7_26 in_X7_drop se_X7_drop rfl (mo_lt hsc (by decide)) hsc.2.1 rfl rfl (Nat.le_of_ble_eq_true rfl) (hm_66) kk) ?_
    have EE := ee_50.trans ee_66
    have hB_66 := hB.keep EE.1 (fun j _ _ => EE.2.2 j (by omega))
    have hL_66 := law_keep hL EE.1 (fun j hj => EE.2.2 j (by omega))
    refine wq (fun _ _ kk => wk_lst7 (pc := 69) dX7_weigh_69 (by decide) rfl kk) ?_
    refine wq (fun _ _ kk => rs_iload (pc := 71) dX7_weigh_71 rfl kk) ?_
    refine wq_br (fun _ _ kt kf => rs_if_eq (tgt := 82) (pc := 73) dX7_weigh_73 rfl kt kf) (fun c_73 => ?_) (fun c_73 => absurd c_73 (by decide))
    refine wq (fun _ _ kk => rs_goto (tgt := 133) (pc := 82) dX7_weigh_82 rfl kk) ?_
    refine wq (fun _ _ kk => wk_iinc4 (v := nI (i + 1)) (pc := 133) dX7_weigh_133 (by decide) rfl (nI_1 i) kk) ?_
    refine wq (fun _ _ kk => rs_goto (tgt := 8) (pc := 136) dX7_weigh_136 rfl kk) ?_
    exact kx c_54 _ _ _ _ S4 _ (E0.trans EE) hB_66 hL_66 hK_66
  · refine wq (fun _ _ kk => rs_iconst (v := 1) (pc := 58) dX7_weigh_58 rfl kk) ?_
    refine wq (fun _ _ kk => rs_goto (tgt := 63) (pc := 59) dX7_weigh_59 rfl kk) ?_
    refine wq (fun _ _ kk => wk_ist6 (pc := 63) dX7_weigh_63 (by decide) rfl kk) ?_
    refine wq (fun _ _ kk => rs_aload_n (pc := 65) dX7_weigh_65 rfl kk) ?_
    obtain ⟨rv_66, hc_66, ⟨rfl, ee_66, S4, hK_66⟩, hm_66⟩ := c_X7_drop hK_50 (show 0 < 64 by decide)
    refine wq (fun _ _ kk => rs_callV (as := []) (pc := 66) dX7_weigh_66 mk_X7_drop mlX7_26 in_X7_drop se_X7_drop rfl (mo_lt hsc (by decide)) hsc.2.1 rfl rfl (Nat.le_of_ble_eq_true rfl) (hm_66) kk) ?_
    have EE := ee_50.trans ee_66
    have hB_66 := hB.keep EE.1 (fun j _ _ => EE.2.2 j (by omega))
    have hL_66 := law_keep hL EE.1 (fun j hj => EE.2.2 j (by omega))
    refine wq (fun _ _ kk => wk_lst7 (pc := 69) dX7_weigh_69 (by decide) rfl kk) ?_
    refine wq (fun _ _ kk => rs_iload (pc := 71) dX7_weigh_71 rfl kk) ?_
    refine wq_br (fun _ _ kt kf => rs_if_eq (tgt := 82) (pc := 73) dX7_weigh_73 rfl kt kf) (fun c_73 => absurd c_73 (by decide)) (fun c_73 => ?_)
    refine wq (fun _ _ kk => rs_lload (pc := 76) dX7_weigh_76 rfl kk) ?_
    refine wq (fun _ _ kk => rs_callS (as := [_]) (pc := 78) dX7_weigh_78 mk_X7_held mlX7_30 st_X7_held rfl rfl (Nat.le_of_ble_eq_true rfl) (c_X7_held _) kk) ?_
    refine wq_ret ?_ (rs_iret (pc := 81) dX7_weigh_81 rfl)
    exact kr c_54 _ (E0.trans EE) ⟨S4, hK_66.1⟩
set_option maxRecDepth 100000 in
set_option maxHeartbeats 4000000 in
theorem z_X7_weigh {h g : ai_H} {B : Bk} {q p n : Nat} {f : Nat → Int32} {rec : Int32} {u5 u6 u7 u8 : Value} {Q : Option Value → ai_H → Prop} {S : Md} {s : List Int64} (E0 : sx h g) (hB : bk_at g 1 B) (hL : law_at g q p n f) (hK : SK g S s) (kr : ∀ (g : ai_H), sx h g → (∃ S, sc_at g S) → Q (some (.int 0)) g) : ai_W MX7_weigh 8 [.ref 20, .ref q, .ref 1, .int rec, .int (nI n), u5, u6, u7, u8] [] g Q := by
  have hsc := hK.1
  refine wq (fun _ _ kk => rs_iload (pc := 8) dX7_weigh_8 rfl kk) ?_
  refine wq (fun _ _ kk => rs_aload_n (pc := 10) dX7_weigh_10 rfl kk) ?_
  refine wq (fun _ _ kk => rs_getf (pc := 11) dX7_weigh_11 fX7_19 hL.2.2.1 hL.2.2.2.2.1 rfl kk) ?_
  refine wq (fun _ _ kk => rs_alen (pc := 14) dX7_weigh_14 (fun _ => rfl) hL.2.2.2.1 hL.2.2.2.2.2 rfl kk) ?_
  refine wq_br (fun _ _ kt kf => rs_icmp_ge (tgt := 139) (pc := 15) dX7_weigh_15 rfl kt kf) (fun c_15 => ?_) (fun c_15 => absurd c_15 (fun z => z (show nI n ≤ nI n by rw [i32_le]; omega)))
  refine wq (fun _ _ kk => rs_iconst (v := 0) (pc := 139) dX7_weigh_139 rfl kk) ?_
  refine wq_ret ?_ (rs_iret (pc := 140) dX7_weigh_140 rfl)
  exact kr _ E0 ⟨S, hK.1⟩
def bkw (B : Bk) (rec : Int32) (k : Nat) : Int64 := (bk_word B (nI k) rec).toInt64
theorem tkN_num {t : Tk} (h : t.1 = 0) : tkN t = t.2 := if_pos h
theorem tkN_word {t : Tk} (h : t.1 = 1) : tkN t = 100000 + t.2 := by unfold tkN; rw [if_neg (by omega), if_pos h]
theorem tkN_op {t : Tk} (h : t.1 ≠ 0 ∧ t.1 ≠ 1) : tkN t = opc t.1 := by unfold tkN; rw [if_neg h.1, if_neg h.2]
theorem run_X7_weigh {h : ai_H} {B : Bk} {q p n : Nat} {f : Nat → Int32} {rec : Int32} {u6 u7 u8 : Value} {Q : Option Value → ai_H → Prop} {base : List Int64} (hn : n ≤ 1000) : ∀ (L : List Tk) (a b : List Bool) (x : List Int64) (i : Nat) (u5 : Value) (S : Md) (g : ai_H), tyL L a = some b → vt a x → x.length + base.length + pcL L ≤ 64 → (∀ k t, L[k]? = some t → f (i + k) = nI (tkN t)) → i + L.length ≤ n → sx h g → bk_at g 1 B → law_at g q p n f → SK g S (x ++ base) → (∀ (u5 : Value) (S : Md) (g : ai_H), sx h g → bk_at g 1 B → law_at g q p n f → SK g S (evL (bkw B rec) L x ++ base) → ai_W MX7_weigh 8 [.ref 20, .ref q, .ref 1, .int rec, .int (nI (i + L.length)), u5, u6, u7, u8] [] g Q) → ai_W MX7_weigh 8 [.ref 20, .ref q, .ref 1, .int rec, .int (nI i), u5, u6, u7, u8] [] g Q := by
  intro L
  induction L with
  | nil => intro a b x i u5 S g _ _ _ _ _ E0 hB hL hK kx; exact kx u5 S g E0 hB hL hK
  | cons t L ih =>
    intro a b x i u5 S g ht hv hl hf hin E0 hB hL hK kx
    rw [List.length_cons] at hin kx
    rw [pcL] at hl
    rw [tyL] at ht
    cases e : tyT t a with
    | none => rw [e] at ht; cases ht
    | some c =>
      rw [e] at ht
      have ef := hf 0 t rfl
      rw [Nat.add_zero] at ef
      have hv2 := evT_vt (w := bkw B rec) e hv
      have nx : ∀ (u5 : Value) (S : Md) (g : ai_H), (evT (bkw B rec) t x).length + base.length + pcL L ≤ 64 → sx h g → bk_at g 1 B → law_at g q p n f → SK g S (evT (bkw B rec) t x ++ base) → ai_W MX7_weigh 8 [.ref 20, .ref q, .ref 1, .int rec, .int (nI (i + 1)), u5, u6, u7, u8] [] g Q := by
        intro u5 S g hl2 E0 hB hL hK
        refine ih c b _ (i + 1) u5 S g ht hv2 hl2 (fun k t2 hk => ?_) (by omega) E0 hB hL hK ?_
        · have := hf (k + 1) t2 (by rw [List.getElem?_cons_succ]; exact hk)
          rw [show i + 1 + k = i + (k + 1) by omega]
          exact this
        · rw [show i + 1 + L.length = i + (L.length + 1) by omega]
          exact kx
      rcases tk_cases e with ⟨h1, h2, rfl⟩ | ⟨h1, h2, rfl⟩ | ⟨h1, s, rfl, rfl⟩ | h3
      · rw [tkN_num h1] at ef
        rw [if_pos (by omega)] at hl
        rw [evT_num h1] at nx
        exact n_X7_weigh (by omega) hn E0 hB hL hK h2 (by rw [List.length_append]; omega) ef (fun u5 S g a1 a2 a3 a4 => nx u5 S g (by rw [List.length_cons]; omega) a1 a2 a3 a4)
      · rw [tkN_word h1] at ef
        rw [if_pos (by omega)] at hl
        rw [evT_word h1] at nx
        exact w_X7_weigh (by omega) hn E0 hB hL hK h2 (by rw [List.length_append]; omega) ef (fun u5 S g a1 a2 a3 a4 => nx u5 S g (by rw [List.length_cons]; omega) a1 a2 a3 a4)
      · match x, hv, nx, hl, hK with
        | v :: x, hv, nx, hl, hK =>
          rw [tkN_op (by omega), h1] at ef
          rw [evT_not h1] at nx
          rw [List.length_cons] at hl
          exact o_X7_weigh (a := v) (s := x ++ base) (by omega) hn E0 hB hL hK (by rw [List.length_append]; omega) ef (fun u5 S g a1 a2 a3 a4 => nx u5 S g (by rw [List.length_cons]; omega) a1 a2 a3 a4)
      · have h4 : (ar t.1 = true ∨ cm t.1 = true ∨ lg t.1 = true) ∧ ∃ y z s, a = y :: z :: s := by
          rcases h3 with ⟨h1, s, rfl, rfl⟩ | ⟨h1, s, rfl, rfl⟩ | ⟨h1, s, rfl, rfl⟩
          · exact ⟨Or.inl h1, _, _, _, rfl⟩
          · exact ⟨Or.inr (Or.inl h1), _, _, _, rfl⟩
          · exact ⟨Or.inr (Or.inr h1), _, _, _, rfl⟩
        obtain ⟨hk, y, z, s, rfl⟩ := h4
        have kk := bin_k hk
        match x, hv, nx, hl, hK with
        | v :: u :: x, hv, nx, hl, hK =>
          rw [tkN_op ⟨kk.1, kk.2.1⟩] at ef
          rw [evT_bin ⟨kk.1, kk.2.1, kk.2.2.1⟩] at nx
          rw [List.length_cons, List.length_cons] at hl
          exact b_X7_weigh (b := v) (a := u) (s := x ++ base) (by omega) hn E0 hB hL hK (by rw [List.length_append]; omega) hk ef (fun u5 S g a1 a2 a3 a4 => nx u5 S g (by rw [List.length_cons]; omega) a1 a2 a3 a4)
theorem cls_X7_weigh {h : ai_H} {B : Bk} {q p n : Nat} {f : Nat → Int32} {rec : Int32} (hn : n ≤ 1000) : ∀ (C : List Cl) (i : Nat) (u5 u6 u7 u8 : Value) (S : Md) (g : ai_H), (∀ c, c ∈ C → cl_w c) → pcL (ent C) ≤ 60 → (∀ k m, (stp C)[k]? = some m → f (i + k) = nI m) → n = i + (stp C).length → sx h g → bk_at g 1 B → law_at g q p n f → SK g S [] → ai_W MX7_weigh 8 [.ref 20, .ref q, .ref 1, .int rec, .int (nI i), u5, u6, u7, u8] [] g (fun r g => sx h g ∧ (∃ S, sc_at g S) ∧ r = some (.int (hld (lwv (bkw B rec) C)).toInt32)) := by
  intro C
  induction C with
  | nil =>
    intro i u5 u6 u7 u8 S g _ _ _ hin E0 hB hL hK
    have hin : n = i := hin
    subst hin
    exact z_X7_weigh E0 hB hL hK (fun g a1 a2 => ⟨a1, a2, rfl⟩)
  | cons c C ih =>
    intro i u5 u6 u7 u8 S g hC hp hf hin E0 hB hL hK
    obtain ⟨w1, w2⟩ := hC c (List.mem_cons_self)
    rw [ent, pcL_app, pcL_app] at hp
    rw [stp, List.length_append, List.length_map, List.length_append, List.length_cons] at hin
    obtain ⟨v, ev, -⟩ := one_t (evL_vt (w := bkw B rec) (x := []) w1 trivial)
    have hf1 : ∀ k t, (c.1 ++ c.2)[k]? = some t → f (i + k) = nI (tkN t) := by
      intro k t hk
      have hkl := (List.getElem?_eq_some_iff.mp hk).1
      refine hf k (tkN t) ?_
      rw [stp, List.getElem?_append_left (by rw [List.length_map]; exact hkl), List.getElem?_map, hk]
      rfl
    have hfm : f (i + (c.1.length + c.2.length)) = nI (mkc c) := by
      refine hf _ _ ?_
      rw [stp, List.getElem?_append_right (by rw [List.length_map, List.length_append]; omega), List.length_map, List.length_append, Nat.sub_self]
      rfl
    have hfr : ∀ k m, (stp C)[k]? = some m → f (i + (c.1.length + c.2.length) + 1 + k) = nI m := by
      intro k m hk
      rw [show i + (c.1.length + c.2.length) + 1 + k = i + (c.1.length + c.2.length + (k + 1)) by omega]
      refine hf _ m ?_
      rw [stp, List.getElem?_append_right (by rw [List.length_map, List.length_append]; omega), List.length_map, List.length_append, show c.1.length + c.2.length + (k + 1) - (c.1.length + c.2.length) = k + 1 by omega, List.getElem?_cons_succ]
      exact hk
    refine run_X7_weigh (h := h) (base := []) hn c.1 [] [false] [] i u5 S g w1 trivial (by show 0 + 0 + pcL c.1 ≤ 64; omega) (fun k t hk => hf1 k t (by rw [List.getElem?_append_left (List.getElem?_eq_some_iff.mp hk).1]; exact hk)) (by omega) E0 hB hL hK ?_
    clear E0 hB hL hK
    intro u5 S g E0 hB hL hK
    rw [ev] at hK
    rcases w2 with w2 | w2
    · have e0 : c.2.length = 0 := by rw [w2]; rfl
      rw [e0, Nat.add_zero] at hfm
      refine e_X7_weigh (a := v) (by omega) hn E0 hB hL hK (by rw [hfm]; unfold mkc; rw [if_pos w2]; rfl) ?_
      intro g a1 a2
      refine ⟨a1, a2, ?_⟩
      rw [lwv, if_pos w2, ev]
      rfl
    · have hne : ¬ c.2 = [] := fun z => by rw [z] at w2; cases w2
      obtain ⟨t, et, ht⟩ := one_t (evL_vt (w := bkw B rec) (x := []) w2 trivial)
      have ht := ht rfl
      refine run_X7_weigh (h := h) (base := [v]) hn c.2 [] [true] [] (i + c.1.length) u5 S g w2 trivial (by show 0 + 1 + pcL c.2 ≤ 64; omega) (fun k t hk => by
        have := hf1 (c.1.length + k) t (by rw [List.getElem?_append_right (by omega), Nat.add_sub_cancel_left]; exact hk)
        rw [show i + c.1.length + k = i + (c.1.length + k) by omega]
        exact this) (by omega) E0 hB hL hK ?_
      clear E0 hB hL hK
      intro u5 S g E0 hB hL hK
      rw [et] at hK
      rw [show i + c.1.length + c.2.length = i + (c.1.length + c.2.length) by omega]
      refine i_X7_weigh (a := v) (t := t) (by omega) hn E0 hB hL hK (by rw [hfm]; unfold mkc; rw [if_neg hne]; rfl) ?_ ?_
      · intro h0 g a1 a2
        refine ⟨a1, a2, ?_⟩
        rw [lwv, if_neg hne, et, ev]
        show _ = some (Value.int (hld (if t = 1 then v else _)).toInt32)
        rcases ht with ht | ht
        · exact absurd ht h0
        · rw [if_pos ht]
      · intro h0 u5 u6 u7 u8 S g E0 hB hL hK
        have := ih (i + (c.1.length + c.2.length) + 1) u5 u6 u7 u8 S g (fun d hd => hC d (List.mem_cons_of_mem _ hd)) (by omega) hfr (by omega) E0 hB hL hK
        rw [lwv, if_neg hne, et]
        show ai_W _ _ _ _ _ (fun r g => sx h g ∧ (∃ S, sc_at g S) ∧ r = some (.int (hld (if t = 1 then _ else lwv (bkw B rec) C)).toInt32))
        rw [if_neg (by rw [h0]; decide)]
        exact this
set_option maxRecDepth 100000 in
set_option maxHeartbeats 4000000 in
theorem c_X7_weigh {h : ai_H} {B : Bk} {q p n : Nat} {f : Nat → Int32} {rec : Int32} {S : Md} {C : List Cl} (hn : n ≤ 1000) (hC : ∀ c, c ∈ C → cl_w c) (hp : pcL (ent C) ≤ 60) (hf : ∀ k m, (stp C)[k]? = some m → f k = nI m) (hin : n = (stp C).length) (hB : bk_at h 1 B) (hL : law_at h q p n f) (hsc : sc_at h S) : ai_QM MX7_weigh [.ref 20, .ref q, .ref 1, .int rec] h (fun r g => sx h g ∧ (∃ S, sc_at g S) ∧ r = some (.int (hld (lwv (bkw B rec) C)).toInt32)) := by
  refine qm_of (ls := [.ref 20, .ref q, .ref 1, .int rec, .float 0, .float 0, .float 0, .float 0, .float 0]) (by decide) (by simp [ai_en, Value.category]) (by rfl) ?_
  refine wq (fun _ _ kk => rs_aload_n (pc := 0) dX7_weigh_0 rfl kk) ?_
  refine wq (fun _ _ kk => rs_iconst (v := 0) (pc := 1) dX7_weigh_1 rfl kk) ?_
  refine wq (fun _ _ kk => rs_putf (pc := 2) dX7_weigh_2 fX7_15 (mo_lt hsc (by decide)) hsc.2.1 rfl (Nat.le_of_ble_eq_true rfl) kk) ?_
  refine wq_gen (fun h_1 e_1 => ?_)
  obtain ⟨m_1, s_1, g_1, o_1⟩ := ai_e1 e_1
  replace g_1 : h_1.2.2 20 = .inr (7, [_, _]) := g_1
  replace hsc := mo_si (k := 1) hsc m_1 g_1 o_1 rfl
  replace hB := hB.keep m_1 (fun j _ _ => o_1 j (by omega))
  replace hL := law_keep hL m_1 (fun j hj => o_1 j (by omega))
  have E_1 := (sx.rf).trans (sx_of m_1 s_1 o_1 (by decide))
  refine wq (fun _ _ kk => rs_iconst (v := 0) (pc := 5) dX7_weigh_5 rfl kk) ?_
  refine wq (fun _ _ kk => wk_ist4 (pc := 6) dX7_weigh_6 (by decide) rfl kk) ?_
  exact cls_X7_weigh (h := h) hn C 0 _ _ _ _ _ _ hC hp (fun k m hk => by rw [Nat.zero_add]; exact hf k m hk) (by omega) E_1 hB hL ⟨hsc, rfl, trivial⟩
