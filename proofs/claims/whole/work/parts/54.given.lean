/-! 54: answer, given (walks laid by wip/whole/p54.py) -/
/-- rows 38 and 39, asked and stack, alone have changed -/
def gvq (V W : Md) : Prop := W.1 = V.1 ∧ W.2.1 = V.2.1 ∧ W.2.2.1 = V.2.2.1 ∧ ∀ k, k ≠ 38 → k ≠ 39 → W.2.2.2 k = V.2.2.2 k
theorem md_al_i (S : Md) (j : Nat) (f : Nat → Int64) : (md_al S j f).2.2.1 = S.2.2.1 := rfl
theorem gvq.rf {V : Md} : gvq V V := ⟨rfl, rfl, rfl, fun _ _ _ => rfl⟩
theorem gvq.trans {V W X : Md} (a : gvq V W) (b : gvq W X) : gvq V X := ⟨b.1.trans a.1, b.2.1.trans a.2.1, b.2.2.1.trans a.2.2.1, fun k h1 h2 => (b.2.2.2 k h1 h2).trans (a.2.2.2 k h1 h2)⟩
theorem gvq.al {V W : Md} {j : Nat} {f : Nat → Int64} (a : gvq V W) (hj : j = 38 ∨ j = 39) : gvq V (md_al W j f) := ⟨a.1, a.2.1, a.2.2.1, fun k h1 h2 => by
  show va_up W.2.2.2 j f k = _
  rw [show va_up W.2.2.2 j f k = W.2.2.2 k from if_neg (by omega)]
  exact a.2.2.2 k h1 h2⟩
theorem gvq.mq {V W : Md} (a : gvq V W) : mq V W := ⟨fun k _ => by rw [a.1], fun k _ => by rw [a.2.2.1]⟩
theorem gvq.sb {V W : Md} (a : gvq V W) : sb V W := a.mq.sb
/-- the stack alone -/
def stq (V W : Md) : Prop := gvq V W ∧ W.2.2.2 38 = V.2.2.2 38
theorem stq.rf {V : Md} : stq V V := ⟨gvq.rf, rfl⟩
theorem stq.trans {V W X : Md} (a : stq V W) (b : stq W X) : stq V X := ⟨a.1.trans b.1, b.2.trans a.2⟩
theorem stq.al {V W : Md} {f : Nat → Int64} (a : stq V W) : stq V (md_al W 39 f) := ⟨a.1.al (Or.inr rfl), a.2⟩
def MT (S : Md) (r o : Nat) (L : List Tk) : Prop := ∀ k t, L[k]? = some t → S.2.2.1 31 (300 * r + (o + k)) = nI t.1 ∧ S.2.2.1 32 (300 * r + (o + k)) = nI t.2
def MC (S : Md) (r : Nat) : Nat → Nat → List Cl → Prop
  | _, _, [] => True
  | c0, o, c :: D => S.2.2.1 34 (12 * r + c0) = nI o ∧ S.2.2.1 35 (12 * r + c0) = nI (o + c.1.length) ∧ S.2.2.1 36 (12 * r + c0) = nI (o + c.1.length + c.2.length) ∧ MT S r o c.1 ∧ MT S r (o + c.1.length) c.2 ∧ MC S r (c0 + 1) (o + c.1.length + c.2.length) D
/-- the model's rows hold law r -/
def ML (S : Md) (r : Nat) (C : List Cl) : Prop := S.2.2.1 33 r = nI C.length ∧ MC S r 0 0 C
theorem MC_of {S W : Md} {r : Nat} (e : W.2.2.1 = S.2.2.1) : ∀ {D : List Cl} {c0 o : Nat}, MC S r c0 o D → MC W r c0 o D
  | [], _, _, _ => trivial
  | c :: D, c0, o, h => by
    obtain ⟨h1, h2, h3, h4, h5, h6⟩ := h
    refine ⟨by rw [e]; exact h1, by rw [e]; exact h2, by rw [e]; exact h3, ?_, ?_, MC_of e h6⟩
    · intro k t hk; rw [e]; exact h4 k t hk
    · intro k t hk; rw [e]; exact h5 k t hk
def mbo (x : Int32) (a b : Int64) : Int64 := if x = 2 then a + b else if x = 3 then a - b else if x = 4 then (if a < b then 1 else 0) else if x = 5 then (if a ≤ b then 1 else 0) else if x = 6 then (if a = b then 1 else 0) else if x = 7 then (if b ≤ a then 1 else 0) else if x = 8 then (if b < a then 1 else 0) else if x = 10 then a &&& b else if x = 13 then a * b else a ||| b
theorem mbo_is {k : Nat} (h : ar k = true ∨ cm k = true ∨ lg k = true) (a b : Int64) : mbo (nI k) a b = bop k a b := by
  have hk := bin_k h
  have : k = 2 ∨ k = 3 ∨ k = 4 ∨ k = 5 ∨ k = 6 ∨ k = 7 ∨ k = 8 ∨ k = 10 ∨ k = 11 ∨ k = 13 := by omega
  rcases this with rfl | rfl | rfl | rfl | rfl | rfl | rfl | rfl | rfl | rfl <;> rfl
theorem not01 {a : Int64} (h : a = 0 ∨ a = 1) : 1 - a = if a = 0 then 1 else 0 := by
  rcases h with rfl | rfl <;> rfl
theorem dX12_truth_0 : decode cX12_truth 0 = .ok (.iload_n 0, 1) := by decide +kernel
theorem dX12_truth_1 : decode cX12_truth 1 = .ok (.ifCond .eq 7, 3) := by decide +kernel
theorem dX12_truth_4 : decode cX12_truth 4 = .ok (.lconst 1, 1) := by decide +kernel
theorem dX12_truth_5 : decode cX12_truth 5 = .ok (.goto 4, 3) := by decide +kernel
theorem dX12_truth_8 : decode cX12_truth 8 = .ok (.lconst 0, 1) := by decide +kernel
theorem dX12_truth_9 : decode cX12_truth 9 = .ok (.lreturn, 1) := by decide +kernel
set_option maxRecDepth 100000 in
set_option maxHeartbeats 4000000 in
theorem c_X12_truth {h : ai_H} (z : Int32) : ai_Met MX12_truth [.int z] h (some (.long (if z = 0 then 0 else 1))) h := by
  refine ai_met (ls := [.int z]) (by decide) (by simp [ai_en, Value.category]) (by rfl) ?_
  refine rs_iload_n (pc := 0) dX12_truth_0 rfl ?_
  refine rs_if_eq (tgt := 8) (pc := 1) dX12_truth_1 rfl (fun c_1 => ?_) (fun c_1 => ?_)
  · refine rs_lconst (v := 0) (pc := 8) dX12_truth_8 rfl ?_
    exact wk_lret (pc := 9) dX12_truth_9 rfl (by simp [c_1]) (rfl)
  · refine rs_lconst (v := 1) (pc := 4) dX12_truth_4 rfl ?_
    refine rs_goto (tgt := 9) (pc := 5) dX12_truth_5 rfl ?_
    exact wk_lret (pc := 9) dX12_truth_9 rfl (by simp [c_1]) (rfl)
theorem dX12_both_0 : decode cX12_both 0 = .ok (.iload_n 0, 1) := by decide +kernel
theorem dX12_both_1 : decode cX12_both 1 = .ok (.tableswitch 154 2 13 #[63, 67, 75, 90, 105, 120, 135, 154, 150, 154, 154, 71], 63) := by decide +kernel
theorem dX12_both_64 : decode cX12_both 64 = .ok (.lload_n 1, 1) := by decide +kernel
theorem dX12_both_65 : decode cX12_both 65 = .ok (.lload_n 3, 1) := by decide +kernel
theorem dX12_both_66 : decode cX12_both 66 = .ok (.ladd, 1) := by decide +kernel
theorem dX12_both_67 : decode cX12_both 67 = .ok (.lreturn, 1) := by decide +kernel
theorem dX12_both_68 : decode cX12_both 68 = .ok (.lload_n 1, 1) := by decide +kernel
theorem dX12_both_69 : decode cX12_both 69 = .ok (.lload_n 3, 1) := by decide +kernel
theorem dX12_both_70 : decode cX12_both 70 = .ok (.lsub, 1) := by decide +kernel
theorem dX12_both_71 : decode cX12_both 71 = .ok (.lreturn, 1) := by decide +kernel
theorem dX12_both_72 : decode cX12_both 72 = .ok (.lload_n 1, 1) := by decide +kernel
theorem dX12_both_73 : decode cX12_both 73 = .ok (.lload_n 3, 1) := by decide +kernel
theorem dX12_both_74 : decode cX12_both 74 = .ok (.lmul, 1) := by decide +kernel
theorem dX12_both_75 : decode cX12_both 75 = .ok (.lreturn, 1) := by decide +kernel
theorem dX12_both_76 : decode cX12_both 76 = .ok (.lload_n 1, 1) := by decide +kernel
theorem dX12_both_77 : decode cX12_both 77 = .ok (.lload_n 3, 1) := by decide +kernel
theorem dX12_both_78 : decode cX12_both 78 = .ok (.lcmp, 1) := by decide +kernel
theorem dX12_both_79 : decode cX12_both 79 = .ok (.ifCond .ge 7, 3) := by decide +kernel
theorem dX12_both_82 : decode cX12_both 82 = .ok (.iconst 1, 1) := by decide +kernel
theorem dX12_both_83 : decode cX12_both 83 = .ok (.goto 4, 3) := by decide +kernel
theorem dX12_both_86 : decode cX12_both 86 = .ok (.iconst 0, 1) := by decide +kernel
theorem dX12_both_87 : decode cX12_both 87 = .ok (.invokestatic 374, 3) := by decide +kernel
theorem dX12_both_90 : decode cX12_both 90 = .ok (.lreturn, 1) := by decide +kernel
theorem dX12_both_91 : decode cX12_both 91 = .ok (.lload_n 1, 1) := by decide +kernel
theorem dX12_both_92 : decode cX12_both 92 = .ok (.lload_n 3, 1) := by decide +kernel
theorem dX12_both_93 : decode cX12_both 93 = .ok (.lcmp, 1) := by decide +kernel
theorem dX12_both_94 : decode cX12_both 94 = .ok (.ifCond .gt 7, 3) := by decide +kernel
theorem dX12_both_97 : decode cX12_both 97 = .ok (.iconst 1, 1) := by decide +kernel
theorem dX12_both_98 : decode cX12_both 98 = .ok (.goto 4, 3) := by decide +kernel
theorem dX12_both_101 : decode cX12_both 101 = .ok (.iconst 0, 1) := by decide +kernel
theorem dX12_both_102 : decode cX12_both 102 = .ok (.invokestatic 374, 3) := by decide +kernel
theorem dX12_both_105 : decode cX12_both 105 = .ok (.lreturn, 1) := by decide +kernel
theorem dX12_both_106 : decode cX12_both 106 = .ok (.lload_n 1, 1) := by decide +kernel
theorem dX12_both_107 : decode cX12_both 107 = .ok (.lload_n 3, 1) := by decide +kernel
theorem dX12_both_108 : decode cX12_both 108 = .ok (.lcmp, 1) := by decide +kernel
theorem dX12_both_109 : decode cX12_both 109 = .ok (.ifCond .ne 7, 3) := by decide +kernel
theorem dX12_both_112 : decode cX12_both 112 = .ok (.iconst 1, 1) := by decide +kernel
theorem dX12_both_113 : decode cX12_both 113 = .ok (.goto 4, 3) := by decide +kernel
theorem dX12_both_116 : decode cX12_both 116 = .ok (.iconst 0, 1) := by decide +kernel
theorem dX12_both_117 : decode cX12_both 117 = .ok (.invokestatic 374, 3) := by decide +kernel
theorem dX12_both_120 : decode cX12_both 120 = .ok (.lreturn, 1) := by decide +kernel
theorem dX12_both_121 : decode cX12_both 121 = .ok (.lload_n 1, 1) := by decide +kernel
theorem dX12_both_122 : decode cX12_both 122 = .ok (.lload_n 3, 1) := by decide +kernel
theorem dX12_both_123 : decode cX12_both 123 = .ok (.lcmp, 1) := by decide +kernel
theorem dX12_both_124 : decode cX12_both 124 = .ok (.ifCond .lt 7, 3) := by decide +kernel
theorem dX12_both_127 : decode cX12_both 127 = .ok (.iconst 1, 1) := by decide +kernel
theorem dX12_both_128 : decode cX12_both 128 = .ok (.goto 4, 3) := by decide +kernel
theorem dX12_both_131 : decode cX12_both 131 = .ok (.iconst 0, 1) := by decide +kernel
theorem dX12_both_132 : decode cX12_both 132 = .ok (.invokestatic 374, 3) := by decide +kernel
theorem dX12_both_135 : decode cX12_both 135 = .ok (.lreturn, 1) := by decide +kernel
theorem dX12_both_136 : decode cX12_both 136 = .ok (.lload_n 1, 1) := by decide +kernel
theorem dX12_both_137 : decode cX12_both 137 = .ok (.lload_n 3, 1) := by decide +kernel
theorem dX12_both_138 : decode cX12_both 138 = .ok (.lcmp, 1) := by decide +kernel
theorem dX12_both_139 : decode cX12_both 139 = .ok (.ifCond .le 7, 3) := by decide +kernel
theorem dX12_both_142 : decode cX12_both 142 = .ok (.iconst 1, 1) := by decide +kernel
theorem dX12_both_143 : decode cX12_both 143 = .ok (.goto 4, 3) := by decide +kernel
theorem dX12_both_146 : decode cX12_both 146 = .ok (.iconst 0, 1) := by decide +kernel
theorem dX12_both_147 : decode cX12_both 147 = .ok (.invokestatic 374, 3) := by decide +kernel
theorem dX12_both_150 : decode cX12_both 150 = .ok (.lreturn, 1) := by decide +kernel
theorem dX12_both_151 : decode cX12_both 151 = .ok (.lload_n 1, 1) := by decide +kernel
theorem dX12_both_152 : decode cX12_both 152 = .ok (.lload_n 3, 1) := by decide +kernel
theorem dX12_both_153 : decode cX12_both 153 = .ok (.land, 1) := by decide +kernel
theorem dX12_both_154 : decode cX12_both 154 = .ok (.lreturn, 1) := by decide +kernel
theorem dX12_both_155 : decode cX12_both 155 = .ok (.lload_n 1, 1) := by decide +kernel
theorem dX12_both_156 : decode cX12_both 156 = .ok (.lload_n 3, 1) := by decide +kernel
theorem dX12_both_157 : decode cX12_both 157 = .ok (.lor, 1) := by decide +kernel
theorem dX12_both_158 : decode cX12_both 158 = .ok (.lreturn, 1) := by decide +kernel
set_option maxRecDepth 100000 in
set_option maxHeartbeats 4000000 in
theorem c_X12_both {h : ai_H} (x : Int32) (a b : Int64) : ai_Met MX12_both [.int x, .long a, .long b] h (some (.long (mbo x a b))) h := by
  refine ai_met (ls := [.int x, .long a, .float 0, .long b, .float 0]) (by decide) (by simp [ai_en, Value.category]) (by rfl) ?_
  refine rs_iload_n (pc := 0) dX12_both_0 rfl ?_
  by_cases e1_2 : x = 2
  · refine wk_tab 2 e1_2 (tgt := 64) (pc := 1) dX12_both_1 (by decide) (by decide) rfl rfl ?_
    refine rs_lload_n (pc := 64) dX12_both_64 rfl ?_
    refine rs_lload_n (pc := 65) dX12_both_65 rfl ?_
    refine rs_ladd (pc := 66) dX12_both_66 ?_
    exact wk_lret (pc := 67) dX12_both_67 rfl (by first | (simp [mbo, e1_2]; done) | (simp [mbo, e1_2, i64_nlt, i64_nle, i64_le_n, i64_lt_n, *]; done)) (rfl)
  by_cases e1_3 : x = 3
  · refine wk_tab 3 e1_3 (tgt := 68) (pc := 1) dX12_both_1 (by decide) (by decide) rfl rfl ?_
    refine rs_lload_n (pc := 68) dX12_both_68 rfl ?_
    refine rs_lload_n (pc := 69) dX12_both_69 rfl ?_
    refine rs_lsub (pc := 70) dX12_both_70 ?_
    exact wk_lret (pc := 71) dX12_both_71 rfl (by first | (simp [mbo, e1_3]; done) | (simp [mbo, e1_3, i64_nlt, i64_nle, i64_le_n, i64_lt_n, *]; done)) (rfl)
  by_cases e1_4 : x = 4
  · refine wk_tab 4 e1_4 (tgt := 76) (pc := 1) dX12_both_1 (by decide) (by decide) rfl rfl ?_
    refine rs_lload_n (pc := 76) dX12_both_76 rfl ?_
    refine rs_lload_n (pc := 77) dX12_both_77 rfl ?_
    refine wk_lcmp_ge (tgt := 86) (pc := 78) dX12_both_78 dX12_both_79 rfl (fun c_78 => ?_) (fun c_78 => ?_)
    · refine rs_iconst (v := 0) (pc := 86) dX12_both_86 rfl ?_
      refine rs_callS (as := [_]) (pc := 87) dX12_both_87 mk_X12_truth mlX12_374 st_X12_truth rfl rfl (Nat.le_of_ble_eq_true rfl) (c_X12_truth _) ?_
      exact wk_lret (pc := 90) dX12_both_90 rfl (by first | (simp [mbo, e1_4, c_78]; done) | (simp [mbo, e1_4, c_78, i64_nlt, i64_nle, i64_le_n, i64_lt_n, *]; done)) (rfl)
    · refine rs_iconst (v := 1) (pc := 82) dX12_both_82 rfl ?_
      refine rs_goto (tgt := 87) (pc := 83) dX12_both_83 rfl ?_
      refine rs_callS (as := [_]) (pc := 87) dX12_both_87 mk_X12_truth mlX12_374 st_X12_truth rfl rfl (Nat.le_of_ble_eq_true rfl) (c_X12_truth _) ?_
      exact wk_lret (pc := 90) dX12_both_90 rfl (by first | (simp [mbo, e1_4, c_78]; done) | (simp [mbo, e1_4, c_78, i64_nlt, i64_nle, i64_le_n, i64_lt_n, *]; done)) (rfl)
  by_cases e1_5 : x = 5
  · refine wk_tab 5 e1_5 (tgt := 91) (pc := 1) dX12_both_1 (by decide) (by decide) rfl rfl ?_
    refine rs_lload_n (pc := 91) dX12_both_91 rfl ?_
    refine rs_lload_n (pc := 92) dX12_both_92 rfl ?_
    refine wk_lcmp_gt (tgt := 101) (pc := 93) dX12_both_93 dX12_both_94 rfl (fun c_93 => ?_) (fun c_93 => ?_)
    · refine rs_iconst (v := 0) (pc := 101) dX12_both_101 rfl ?_
      refine rs_callS (as := [_]) (pc := 102) dX12_both_102 mk_X12_truth mlX12_374 st_X12_truth rfl rfl (Nat.le_of_ble_eq_true rfl) (c_X12_truth _) ?_
      exact wk_lret (pc := 105) dX12_both_105 rfl (by first | (simp [mbo, e1_5, c_93]; done) | (simp [mbo, e1_5, c_93, i64_nlt, i64_nle, i64_le_n, i64_lt_n, *]; done)) (rfl)
    · refine rs_iconst (v := 1) (pc := 97) dX12_both_97 rfl ?_
      refine rs_goto (tgt := 102) (pc := 98) dX12_both_98 rfl ?_
      refine rs_callS (as := [_]) (pc := 102) dX12_both_102 mk_X12_truth mlX12_374 st_X12_truth rfl rfl (Nat.le_of_ble_eq_true rfl) (c_X12_truth _) ?_
      exact wk_lret (pc := 105) dX12_both_105 rfl (by first | (simp [mbo, e1_5, c_93]; done) | (simp [mbo, e1_5, c_93, i64_nlt, i64_nle, i64_le_n, i64_lt_n, *]; done)) (rfl)
  by_cases e1_6 : x = 6
  · refine wk_tab 6 e1_6 (tgt := 106) (pc := 1) dX12_both_1 (by decide) (by decide) rfl rfl ?_
    refine rs_lload_n (pc := 106) dX12_both_106 rfl ?_
    refine rs_lload_n (pc := 107) dX12_both_107 rfl ?_
    refine wk_lcmp_ne (tgt := 116) (pc := 108) dX12_both_108 dX12_both_109 rfl (fun c_108 => ?_) (fun c_108 => ?_)
    · refine rs_iconst (v := 0) (pc := 116) dX12_both_116 rfl ?_
      refine rs_callS (as := [_]) (pc := 117) dX12_both_117 mk_X12_truth mlX12_374 st_X12_truth rfl rfl (Nat.le_of_ble_eq_true rfl) (c_X12_truth _) ?_
      exact wk_lret (pc := 120) dX12_both_120 rfl (by first | (simp [mbo, e1_6, c_108]; done) | (simp [mbo, e1_6, c_108, i64_nlt, i64_nle, i64_le_n, i64_lt_n, *]; done)) (rfl)
    · refine rs_iconst (v := 1) (pc := 112) dX12_both_112 rfl ?_
      refine rs_goto (tgt := 117) (pc := 113) dX12_both_113 rfl ?_
      refine rs_callS (as := [_]) (pc := 117) dX12_both_117 mk_X12_truth mlX12_374 st_X12_truth rfl rfl (Nat.le_of_ble_eq_true rfl) (c_X12_truth _) ?_
      exact wk_lret (pc := 120) dX12_both_120 rfl (by first | (simp [mbo, e1_6, c_108]; done) | (simp [mbo, e1_6, c_108, i64_nlt, i64_nle, i64_le_n, i64_lt_n, *]; done)) (rfl)
  by_cases e1_7 : x = 7
  · refine wk_tab 7 e1_7 (tgt := 121) (pc := 1) dX12_both_1 (by decide) (by decide) rfl rfl ?_
    refine rs_lload_n (pc := 121) dX12_both_121 rfl ?_
    refine rs_lload_n (pc := 122) dX12_both_122 rfl ?_
    refine wk_lcmp_lt (tgt := 131) (pc := 123) dX12_both_123 dX12_both_124 rfl (fun c_123 => ?_) (fun c_123 => ?_)
    · refine rs_iconst (v := 0) (pc := 131) dX12_both_131 rfl ?_
      refine rs_callS (as := [_]) (pc := 132) dX12_both_132 mk_X12_truth mlX12_374 st_X12_truth rfl rfl (Nat.le_of_ble_eq_true rfl) (c_X12_truth _) ?_
      exact wk_lret (pc := 135) dX12_both_135 rfl (by first | (simp [mbo, e1_7, c_123]; done) | (simp [mbo, e1_7, c_123, i64_nlt, i64_nle, i64_le_n, i64_lt_n, *]; done)) (rfl)
    · refine rs_iconst (v := 1) (pc := 127) dX12_both_127 rfl ?_
      refine rs_goto (tgt := 132) (pc := 128) dX12_both_128 rfl ?_
      refine rs_callS (as := [_]) (pc := 132) dX12_both_132 mk_X12_truth mlX12_374 st_X12_truth rfl rfl (Nat.le_of_ble_eq_true rfl) (c_X12_truth _) ?_
      exact wk_lret (pc := 135) dX12_both_135 rfl (by first | (simp [mbo, e1_7, c_123]; done) | (simp [mbo, e1_7, c_123, i64_nlt, i64_nle, i64_le_n, i64_lt_n, *]; done)) (rfl)
  by_cases e1_8 : x = 8
  · refine wk_tab 8 e1_8 (tgt := 136) (pc := 1) dX12_both_1 (by decide) (by decide) rfl rfl ?_
    refine rs_lload_n (pc := 136) dX12_both_136 rfl ?_
    refine rs_lload_n (pc := 137) dX12_both_137 rfl ?_
    refine wk_lcmp_le (tgt := 146) (pc := 138) dX12_both_138 dX12_both_139 rfl (fun c_138 => ?_) (fun c_138 => ?_)
    · refine rs_iconst (v := 0) (pc := 146) dX12_both_146 rfl ?_
      refine rs_callS (as := [_]) (pc := 147) dX12_both_147 mk_X12_truth mlX12_374 st_X12_truth rfl rfl (Nat.le_of_ble_eq_true rfl) (c_X12_truth _) ?_
      exact wk_lret (pc := 150) dX12_both_150 rfl (by first | (simp [mbo, e1_8, c_138]; done) | (simp [mbo, e1_8, c_138, i64_nlt, i64_nle, i64_le_n, i64_lt_n, *]; done)) (rfl)
    · refine rs_iconst (v := 1) (pc := 142) dX12_both_142 rfl ?_
      refine rs_goto (tgt := 147) (pc := 143) dX12_both_143 rfl ?_
      refine rs_callS (as := [_]) (pc := 147) dX12_both_147 mk_X12_truth mlX12_374 st_X12_truth rfl rfl (Nat.le_of_ble_eq_true rfl) (c_X12_truth _) ?_
      exact wk_lret (pc := 150) dX12_both_150 rfl (by first | (simp [mbo, e1_8, c_138]; done) | (simp [mbo, e1_8, c_138, i64_nlt, i64_nle, i64_le_n, i64_lt_n, *]; done)) (rfl)
  by_cases e1_9 : x = 9
  · refine wk_tab 9 e1_9 (tgt := 155) (pc := 1) dX12_both_1 (by decide) (by decide) rfl rfl ?_
    refine rs_lload_n (pc := 155) dX12_both_155 rfl ?_
    refine rs_lload_n (pc := 156) dX12_both_156 rfl ?_
    refine rs_lor (pc := 157) dX12_both_157 ?_
    exact wk_lret (pc := 158) dX12_both_158 rfl (by first | (simp [mbo, e1_9]; done) | (simp [mbo, e1_9, i64_nlt, i64_nle, i64_le_n, i64_lt_n, *]; done)) (rfl)
  by_cases e1_10 : x = 10
  · refine wk_tab 10 e1_10 (tgt := 151) (pc := 1) dX12_both_1 (by decide) (by decide) rfl rfl ?_
    refine rs_lload_n (pc := 151) dX12_both_151 rfl ?_
    refine rs_lload_n (pc := 152) dX12_both_152 rfl ?_
    refine rs_land (pc := 153) dX12_both_153 ?_
    exact wk_lret (pc := 154) dX12_both_154 rfl (by first | (simp [mbo, e1_10]; done) | (simp [mbo, e1_10, i64_nlt, i64_nle, i64_le_n, i64_lt_n, *]; done)) (rfl)
  by_cases e1_11 : x = 11
  · refine wk_tab 11 e1_11 (tgt := 155) (pc := 1) dX12_both_1 (by decide) (by decide) rfl rfl ?_
    refine rs_lload_n (pc := 155) dX12_both_155 rfl ?_
    refine rs_lload_n (pc := 156) dX12_both_156 rfl ?_
    refine rs_lor (pc := 157) dX12_both_157 ?_
    exact wk_lret (pc := 158) dX12_both_158 rfl (by first | (simp [mbo, e1_11]; done) | (simp [mbo, e1_11, i64_nlt, i64_nle, i64_le_n, i64_lt_n, *]; done)) (rfl)
  by_cases e1_12 : x = 12
  · refine wk_tab 12 e1_12 (tgt := 155) (pc := 1) dX12_both_1 (by decide) (by decide) rfl rfl ?_
    refine rs_lload_n (pc := 155) dX12_both_155 rfl ?_
    refine rs_lload_n (pc := 156) dX12_both_156 rfl ?_
    refine rs_lor (pc := 157) dX12_both_157 ?_
    exact wk_lret (pc := 158) dX12_both_158 rfl (by first | (simp [mbo, e1_12]; done) | (simp [mbo, e1_12, i64_nlt, i64_nle, i64_le_n, i64_lt_n, *]; done)) (rfl)
  by_cases e1_13 : x = 13
  · refine wk_tab 13 e1_13 (tgt := 72) (pc := 1) dX12_both_1 (by decide) (by decide) rfl rfl ?_
    refine rs_lload_n (pc := 72) dX12_both_72 rfl ?_
    refine rs_lload_n (pc := 73) dX12_both_73 rfl ?_
    refine rs_lmul (pc := 74) dX12_both_74 ?_
    exact wk_lret (pc := 75) dX12_both_75 rfl (by first | (simp [mbo, e1_13]; done) | (simp [mbo, e1_13, i64_nlt, i64_nle, i64_le_n, i64_lt_n, *]; done)) (rfl)
  have qe1_2 := i32_nek (n := 2) e1_2 (by decide)
  have qe1_3 := i32_nek (n := 3) e1_3 (by decide)
  have qe1_4 := i32_nek (n := 4) e1_4 (by decide)
  have qe1_5 := i32_nek (n := 5) e1_5 (by decide)
  have qe1_6 := i32_nek (n := 6) e1_6 (by decide)
  have qe1_7 := i32_nek (n := 7) e1_7 (by decide)
  have qe1_8 := i32_nek (n := 8) e1_8 (by decide)
  have qe1_9 := i32_nek (n := 9) e1_9 (by decide)
  have qe1_10 := i32_nek (n := 10) e1_10 (by decide)
  have qe1_11 := i32_nek (n := 11) e1_11 (by decide)
  have qe1_12 := i32_nek (n := 12) e1_12 (by decide)
  have qe1_13 := i32_nek (n := 13) e1_13 (by decide)
  refine rs_tableOut (tgt := 155) (pc := 1) dX12_both_1 (by omega) rfl ?_
  refine rs_lload_n (pc := 155) dX12_both_155 rfl ?_
  refine rs_lload_n (pc := 156) dX12_both_156 rfl ?_
  refine rs_lor (pc := 157) dX12_both_157 ?_
  exact wk_lret (pc := 158) dX12_both_158 rfl (by first | (simp [mbo, e1_2, e1_3, e1_4, e1_5, e1_6, e1_7, e1_8, e1_9, e1_10, e1_11, e1_12, e1_13]; done) | (simp [mbo, e1_2, e1_3, e1_4, e1_5, e1_6, e1_7, e1_8, e1_9, e1_10, e1_11, e1_12, e1_13, i64_nlt, i64_nle, i64_le_n, i64_lt_n, *]; done)) (rfl)
theorem dX12_answer_0 : decode cX12_answer 0 = .ok (.iconst 0, 1) := by decide +kernel
theorem dX12_answer_1 : decode cX12_answer 1 = .ok (.istore 4, 2) := by decide +kernel
theorem dX12_answer_3 : decode cX12_answer 3 = .ok (.iload_n 2, 1) := by decide +kernel
theorem dX12_answer_4 : decode cX12_answer 4 = .ok (.istore 5, 2) := by decide +kernel
theorem dX12_answer_6 : decode cX12_answer 6 = .ok (.iload 5, 2) := by decide +kernel
theorem dX12_answer_8 : decode cX12_answer 8 = .ok (.iload_n 3, 1) := by decide +kernel
theorem dX12_answer_9 : decode cX12_answer 9 = .ok (.if_icmp .ge 144, 3) := by decide +kernel
theorem dX12_answer_12 : decode cX12_answer 12 = .ok (.aload_n 0, 1) := by decide +kernel
theorem dX12_answer_13 : decode cX12_answer 13 = .ok (.getfield 62, 3) := by decide +kernel
theorem dX12_answer_16 : decode cX12_answer 16 = .ok (.sipush 300, 3) := by decide +kernel
theorem dX12_answer_19 : decode cX12_answer 19 = .ok (.iload_n 1, 1) := by decide +kernel
theorem dX12_answer_20 : decode cX12_answer 20 = .ok (.imul, 1) := by decide +kernel
theorem dX12_answer_21 : decode cX12_answer 21 = .ok (.iload 5, 2) := by decide +kernel
theorem dX12_answer_23 : decode cX12_answer 23 = .ok (.iadd, 1) := by decide +kernel
theorem dX12_answer_24 : decode cX12_answer 24 = .ok (.iaload, 1) := by decide +kernel
theorem dX12_answer_25 : decode cX12_answer 25 = .ok (.istore 6, 2) := by decide +kernel
theorem dX12_answer_27 : decode cX12_answer 27 = .ok (.aload_n 0, 1) := by decide +kernel
theorem dX12_answer_28 : decode cX12_answer 28 = .ok (.getfield 65, 3) := by decide +kernel
theorem dX12_answer_31 : decode cX12_answer 31 = .ok (.sipush 300, 3) := by decide +kernel
theorem dX12_answer_34 : decode cX12_answer 34 = .ok (.iload_n 1, 1) := by decide +kernel
theorem dX12_answer_35 : decode cX12_answer 35 = .ok (.imul, 1) := by decide +kernel
theorem dX12_answer_36 : decode cX12_answer 36 = .ok (.iload 5, 2) := by decide +kernel
theorem dX12_answer_38 : decode cX12_answer 38 = .ok (.iadd, 1) := by decide +kernel
theorem dX12_answer_39 : decode cX12_answer 39 = .ok (.iaload, 1) := by decide +kernel
theorem dX12_answer_40 : decode cX12_answer 40 = .ok (.istore 7, 2) := by decide +kernel
theorem dX12_answer_42 : decode cX12_answer 42 = .ok (.iload 6, 2) := by decide +kernel
theorem dX12_answer_44 : decode cX12_answer 44 = .ok (.ifCond .eq 9, 3) := by decide +kernel
theorem dX12_answer_47 : decode cX12_answer 47 = .ok (.iload 6, 2) := by decide +kernel
theorem dX12_answer_49 : decode cX12_answer 49 = .ok (.iconst 1, 1) := by decide +kernel
theorem dX12_answer_50 : decode cX12_answer 50 = .ok (.if_icmp .ne 34, 3) := by decide +kernel
theorem dX12_answer_53 : decode cX12_answer 53 = .ok (.aload_n 0, 1) := by decide +kernel
theorem dX12_answer_54 : decode cX12_answer 54 = .ok (.getfield 87, 3) := by decide +kernel
theorem dX12_answer_57 : decode cX12_answer 57 = .ok (.iload 4, 2) := by decide +kernel
theorem dX12_answer_59 : decode cX12_answer 59 = .ok (.iload 6, 2) := by decide +kernel
theorem dX12_answer_61 : decode cX12_answer 61 = .ok (.ifCond .ne 9, 3) := by decide +kernel
theorem dX12_answer_64 : decode cX12_answer 64 = .ok (.iload 7, 2) := by decide +kernel
theorem dX12_answer_66 : decode cX12_answer 66 = .ok (.i2l, 1) := by decide +kernel
theorem dX12_answer_67 : decode cX12_answer 67 = .ok (.goto 10, 3) := by decide +kernel
theorem dX12_answer_70 : decode cX12_answer 70 = .ok (.aload_n 0, 1) := by decide +kernel
theorem dX12_answer_71 : decode cX12_answer 71 = .ok (.getfield 83, 3) := by decide +kernel
theorem dX12_answer_74 : decode cX12_answer 74 = .ok (.iload 7, 2) := by decide +kernel
theorem dX12_answer_76 : decode cX12_answer 76 = .ok (.laload, 1) := by decide +kernel
theorem dX12_answer_77 : decode cX12_answer 77 = .ok (.lastore, 1) := by decide +kernel
theorem dX12_answer_78 : decode cX12_answer 78 = .ok (.iinc 4 1, 3) := by decide +kernel
theorem dX12_answer_81 : decode cX12_answer 81 = .ok (.goto 66, 3) := by decide +kernel
theorem dX12_answer_84 : decode cX12_answer 84 = .ok (.iload 6, 2) := by decide +kernel
theorem dX12_answer_86 : decode cX12_answer 86 = .ok (.bipush 9, 2) := by decide +kernel
theorem dX12_answer_88 : decode cX12_answer 88 = .ok (.if_icmp .ne 26, 3) := by decide +kernel
theorem dX12_answer_91 : decode cX12_answer 91 = .ok (.aload_n 0, 1) := by decide +kernel
theorem dX12_answer_92 : decode cX12_answer 92 = .ok (.getfield 87, 3) := by decide +kernel
theorem dX12_answer_95 : decode cX12_answer 95 = .ok (.iload 4, 2) := by decide +kernel
theorem dX12_answer_97 : decode cX12_answer 97 = .ok (.iconst 1, 1) := by decide +kernel
theorem dX12_answer_98 : decode cX12_answer 98 = .ok (.isub, 1) := by decide +kernel
theorem dX12_answer_99 : decode cX12_answer 99 = .ok (.lconst 1, 1) := by decide +kernel
theorem dX12_answer_100 : decode cX12_answer 100 = .ok (.aload_n 0, 1) := by decide +kernel
theorem dX12_answer_101 : decode cX12_answer 101 = .ok (.getfield 87, 3) := by decide +kernel
theorem dX12_answer_104 : decode cX12_answer 104 = .ok (.iload 4, 2) := by decide +kernel
theorem dX12_answer_106 : decode cX12_answer 106 = .ok (.iconst 1, 1) := by decide +kernel
theorem dX12_answer_107 : decode cX12_answer 107 = .ok (.isub, 1) := by decide +kernel
theorem dX12_answer_108 : decode cX12_answer 108 = .ok (.laload, 1) := by decide +kernel
theorem dX12_answer_109 : decode cX12_answer 109 = .ok (.lsub, 1) := by decide +kernel
theorem dX12_answer_110 : decode cX12_answer 110 = .ok (.lastore, 1) := by decide +kernel
theorem dX12_answer_111 : decode cX12_answer 111 = .ok (.goto 36, 3) := by decide +kernel
theorem dX12_answer_114 : decode cX12_answer 114 = .ok (.iinc 4 (-1), 3) := by decide +kernel
theorem dX12_answer_117 : decode cX12_answer 117 = .ok (.aload_n 0, 1) := by decide +kernel
theorem dX12_answer_118 : decode cX12_answer 118 = .ok (.getfield 87, 3) := by decide +kernel
theorem dX12_answer_121 : decode cX12_answer 121 = .ok (.iload 4, 2) := by decide +kernel
theorem dX12_answer_123 : decode cX12_answer 123 = .ok (.iconst 1, 1) := by decide +kernel
theorem dX12_answer_124 : decode cX12_answer 124 = .ok (.isub, 1) := by decide +kernel
theorem dX12_answer_125 : decode cX12_answer 125 = .ok (.iload 6, 2) := by decide +kernel
theorem dX12_answer_127 : decode cX12_answer 127 = .ok (.aload_n 0, 1) := by decide +kernel
theorem dX12_answer_128 : decode cX12_answer 128 = .ok (.getfield 87, 3) := by decide +kernel
theorem dX12_answer_131 : decode cX12_answer 131 = .ok (.iload 4, 2) := by decide +kernel
theorem dX12_answer_133 : decode cX12_answer 133 = .ok (.iconst 1, 1) := by decide +kernel
theorem dX12_answer_134 : decode cX12_answer 134 = .ok (.isub, 1) := by decide +kernel
theorem dX12_answer_135 : decode cX12_answer 135 = .ok (.laload, 1) := by decide +kernel
theorem dX12_answer_136 : decode cX12_answer 136 = .ok (.aload_n 0, 1) := by decide +kernel
theorem dX12_answer_137 : decode cX12_answer 137 = .ok (.getfield 87, 3) := by decide +kernel
theorem dX12_answer_140 : decode cX12_answer 140 = .ok (.iload 4, 2) := by decide +kernel
theorem dX12_answer_142 : decode cX12_answer 142 = .ok (.laload, 1) := by decide +kernel
theorem dX12_answer_143 : decode cX12_answer 143 = .ok (.invokestatic 378, 3) := by decide +kernel
theorem dX12_answer_146 : decode cX12_answer 146 = .ok (.lastore, 1) := by decide +kernel
theorem dX12_answer_147 : decode cX12_answer 147 = .ok (.iinc 5 1, 3) := by decide +kernel
theorem dX12_answer_150 : decode cX12_answer 150 = .ok (.goto (-144), 3) := by decide +kernel
theorem dX12_answer_153 : decode cX12_answer 153 = .ok (.aload_n 0, 1) := by decide +kernel
theorem dX12_answer_154 : decode cX12_answer 154 = .ok (.getfield 87, 3) := by decide +kernel
theorem dX12_answer_157 : decode cX12_answer 157 = .ok (.iconst 0, 1) := by decide +kernel
theorem dX12_answer_158 : decode cX12_answer 158 = .ok (.laload, 1) := by decide +kernel
theorem dX12_answer_159 : decode cX12_answer 159 = .ok (.lreturn, 1) := by decide +kernel
set_option maxRecDepth 100000 in
set_option maxHeartbeats 4000000 in
theorem n_X12_answer {h g : ai_H} {V W : Md} {r o e k : Nat} {u6 u7 : Value} {Q : Option Value → ai_H → Prop} {t : Tk} (hr : r < 10) (hk : k < e) (he : e ≤ 300) (E0 : md_ext h g) (hmd : md_at g W) (hq : stq V W) (hs1 : W.2.2.1 31 (300 * r + k) = nI t.1) (hs2 : W.2.2.1 32 (300 * r + k) = nI t.2) {s : List Int64} (hst : stk s (W.2.2.2 39)) (h1 : t.1 = 0) (h2 : t.2 ≤ 99999) (hl : s.length < 64) (kx : ∀ (u6 u7 : Value) (W : Md) (g : ai_H), md_ext h g → md_at g W → stq V W → stk (aL t.2 :: s) (W.2.2.2 39) → ai_W MX12_answer 6 [.ref 307, .int (nI r), .int (nI o), .int (nI e), .int (nI (aL t.2 :: s).length), .int (nI (k + 1)), u6, u7] [] g Q) : ai_W MX12_answer 6 [.ref 307, .int (nI r), .int (nI o), .int (nI e), .int (nI s.length), .int (nI k), u6, u7] [] g Q := by
  refine wq (fun _ _ kk => rs_iload (pc := 6) dX12_answer_6 rfl kk) ?_
  refine wq (fun _ _ kk => rs_iload_n (pc := 8) dX12_answer_8 rfl kk) ?_
  refine wq_br (fun _ _ kt kf => rs_icmp_ge (tgt := 153) (pc := 9) dX12_answer_9 rfl kt kf) (fun c_9 => absurd c_9 (fun z => by rw [i32_le, nI_toInt (by omega), nI_toInt (by omega)] at z; omega)) (fun c_9 => ?_)
  refine wq (fun _ _ kk => rs_aload_n (pc := 12) dX12_answer_12 rfl kk) ?_
  refine wq (fun _ _ kk => rs_getf (pc := 13) dX12_answer_13 fX12_62 (md_lt hmd (by decide)) hmd.2.1 rfl kk) ?_
  refine wq (fun _ _ kk => rs_sipush (v := 300) (pc := 16) dX12_answer_16 rfl kk) ?_
  refine wq (fun _ _ kk => rs_iload_n (pc := 19) dX12_answer_19 rfl kk) ?_
  refine wq (fun _ _ kk => rs_imul (pc := 20) dX12_answer_20 kk) ?_
  rw [show (300 : Int32) * nI r = nI (300 * r) from pk_mul 300 r]
  refine wq (fun _ _ kk => rs_iload (pc := 21) dX12_answer_21 rfl kk) ?_
  refine wq (fun _ _ kk => rs_iadd (pc := 23) dX12_answer_23 kk) ?_
  rw [nI_add]
  refine wq (fun _ _ kk => rs_iald (pc := 24) dX12_answer_24 (md_lt hmd (by decide)) (md_geti (d := 17) (k := 31) (kd := 0) (n := 3000) rfl (by decide) hmd) (vp_in_nI (n := 300 * r + k) (N := 3000) (by omega) (by decide)) kk) ?_
  rw [nI_clamp (show 300 * r + k < 2 ^ 31 by omega), hs1]
  refine wq (fun _ _ kk => wk_ist6 (pc := 25) dX12_answer_25 (by decide) rfl kk) ?_
  refine wq (fun _ _ kk => rs_aload_n (pc := 27) dX12_answer_27 rfl kk) ?_
  refine wq (fun _ _ kk => rs_getf (pc := 28) dX12_answer_28 fX12_65 (md_lt hmd (by decide)) hmd.2.1 rfl kk) ?_
  refine wq (fun _ _ kk => rs_sipush (v := 300) (pc := 31) dX12_answer_31 rfl kk) ?_
  refine wq (fun _ _ kk => rs_iload_n (pc := 34) dX12_answer_34 rfl kk) ?_
  refine wq (fun _ _ kk => rs_imul (pc := 35) dX12_answer_35 kk) ?_
  rw [show (300 : Int32) * nI r = nI (300 * r) from pk_mul 300 r]
  refine wq (fun _ _ kk => rs_iload (pc := 36) dX12_answer_36 rfl kk) ?_
  refine wq (fun _ _ kk => rs_iadd (pc := 38) dX12_answer_38 kk) ?_
  rw [nI_add]
  refine wq (fun _ _ kk => rs_iald (pc := 39) dX12_answer_39 (md_lt hmd (by decide)) (md_geti (d := 18) (k := 32) (kd := 0) (n := 3000) rfl (by decide) hmd) (vp_in_nI (n := 300 * r + k) (N := 3000) (by omega) (by decide)) kk) ?_
  rw [nI_clamp (show 300 * r + k < 2 ^ 31 by omega), hs2]
  refine wq (fun _ _ kk => wk_ist7 (pc := 40) dX12_answer_40 (by decide) rfl kk) ?_
  refine wq (fun _ _ kk => rs_iload (pc := 42) dX12_answer_42 rfl kk) ?_
  refine wq_br (fun _ _ kt kf => rs_if_eq (tgt := 53) (pc := 44) dX12_answer_44 rfl kt kf) (fun c_44 => ?_) (fun c_44 => absurd c_44 (fun z => z (by rw [h1]; rfl)))
  refine wq (fun _ _ kk => rs_aload_n (pc := 53) dX12_answer_53 rfl kk) ?_
  refine wq (fun _ _ kk => rs_getf (pc := 54) dX12_answer_54 fX12_87 (md_lt hmd (by decide)) hmd.2.1 rfl kk) ?_
  refine wq (fun _ _ kk => rs_iload (pc := 57) dX12_answer_57 rfl kk) ?_
  refine wq (fun _ _ kk => rs_iload (pc := 59) dX12_answer_59 rfl kk) ?_
  refine wq_bn (fun _ _ kt kf => rs_if_ne (tgt := 70) (pc := 61) dX12_answer_61 rfl kt kf) (fun c_61 => absurd c_61 (fun z => z (by rw [h1]; rfl))) (fun c_61 => ?_)
  refine wq (fun _ _ kk => rs_iload (pc := 64) dX12_answer_64 rfl kk) ?_
  refine wq (fun _ _ kk => rs_i2l (pc := 66) dX12_answer_66 kk) ?_
  rw [nI_i2l (by omega)]
  refine wq (fun _ _ kk => rs_goto (tgt := 77) (pc := 67) dX12_answer_67 rfl kk) ?_
  refine wq (fun _ _ kk => rs_last (pc := 77) dX12_answer_77 (md_lt hmd (by decide)) (md_getl (d := 25) (k := 39) (kd := 1) (n := 300) rfl (by decide) hmd) (vp_in_nI (n := s.length) (N := 300) (by omega) (by decide)) kk) ?_
  refine wq_gen (fun h_1 e_1 => ?_)
  obtain ⟨m_1, s_1, g_1, o_1⟩ := ai_e1 e_1
  replace hmd := md_at_al (d := 25) rfl (by decide) hmd m_1 g_1 o_1
  have E_1 := (E0).trans (md_ext_of m_1 s_1 o_1 (by decide))
  refine wq (fun _ _ kk => wk_iinc4 (v := nI (s.length + 1)) (pc := 78) dX12_answer_78 (by decide) rfl (nI_1 _) kk) ?_
  refine wq (fun _ _ kk => rs_goto (tgt := 147) (pc := 81) dX12_answer_81 rfl kk) ?_
  refine wq (fun _ _ kk => wk_iinc5 (v := nI (k + 1)) (pc := 147) dX12_answer_147 (by decide) rfl (nI_1 k) kk) ?_
  refine wq (fun _ _ kk => rs_goto (tgt := 6) (pc := 150) dX12_answer_150 rfl kk) ?_
  rw [nI_clamp (show s.length < 2 ^ 31 by omega)] at hmd
  exact kx _ _ _ _ (E_1) hmd hq.al (stk_up hst)
set_option maxRecDepth 100000 in
set_option maxHeartbeats 4000000 in
theorem w_X12_answer {h g : ai_H} {V W : Md} {r o e k : Nat} {u6 u7 : Value} {Q : Option Value → ai_H → Prop} {t : Tk} (hr : r < 10) (hk : k < e) (he : e ≤ 300) (E0 : md_ext h g) (hmd : md_at g W) (hq : stq V W) (hs1 : W.2.2.1 31 (300 * r + k) = nI t.1) (hs2 : W.2.2.1 32 (300 * r + k) = nI t.2) {s : List Int64} (hst : stk s (W.2.2.2 39)) (h1 : t.1 = 1) (h2 : t.2 < 10) (hl : s.length < 64) (kx : ∀ (u6 u7 : Value) (W : Md) (g : ai_H), md_ext h g → md_at g W → stq V W → stk (W.2.2.2 38 t.2 :: s) (W.2.2.2 39) → ai_W MX12_answer 6 [.ref 307, .int (nI r), .int (nI o), .int (nI e), .int (nI (W.2.2.2 38 t.2 :: s).length), .int (nI (k + 1)), u6, u7] [] g Q) : ai_W MX12_answer 6 [.ref 307, .int (nI r), .int (nI o), .int (nI e), .int (nI s.length), .int (nI k), u6, u7] [] g Q := by
  refine wq (fun _ _ kk => rs_iload (pc := 6) dX12_answer_6 rfl kk) ?_
  refine wq (fun _ _ kk => rs_iload_n (pc := 8) dX12_answer_8 rfl kk) ?_
  refine wq_br (fun _ _ kt kf => rs_icmp_ge (tgt := 153) (pc := 9) dX12_answer_9 rfl kt kf) (fun c_9 => absurd c_9 (fun z => by rw [i32_le, nI_toInt (by omega), nI_toInt (by omega)] at z; omega)) (fun c_9 => ?_)
  refine wq (fun _ _ kk => rs_aload_n (pc := 12) dX12_answer_12 rfl kk) ?_
  refine wq (fun _ _ kk => rs_getf (pc := 13) dX12_answer_13 fX12_62 (md_lt hmd (by decide)) hmd.2.1 rfl kk) ?_
  refine wq (fun _ _ kk => rs_sipush (v := 300) (pc := 16) dX12_answer_16 rfl kk) ?_
  refine wq (fun _ _ kk => rs_iload_n (pc := 19) dX12_answer_19 rfl kk) ?_
  refine wq (fun _ _ kk => rs_imul (pc := 20) dX12_answer_20 kk) ?_
  rw [show (300 : Int32) * nI r = nI (300 * r) from pk_mul 300 r]
  refine wq (fun _ _ kk => rs_iload (pc := 21) dX12_answer_21 rfl kk) ?_
  refine wq (fun _ _ kk => rs_iadd (pc := 23) dX12_answer_23 kk) ?_
  rw [nI_add]
  refine wq (fun _ _ kk => rs_iald (pc := 24) dX12_answer_24 (md_lt hmd (by decide)) (md_geti (d := 17) (k := 31) (kd := 0) (n := 3000) rfl (by decide) hmd) (vp_in_nI (n := 300 * r + k) (N := 3000) (by omega) (by decide)) kk) ?_
  rw [nI_clamp (show 300 * r + k < 2 ^ 31 by omega), hs1]
  refine wq (fun _ _ kk => wk_ist6 (pc := 25) dX12_answer_25 (by decide) rfl kk) ?_
  refine wq (fun _ _ kk => rs_aload_n (pc := 27) dX12_answer_27 rfl kk) ?_
  refine wq (fun _ _ kk => rs_getf (pc := 28) dX12_answer_28 fX12_65 (md_lt hmd (by decide)) hmd.2.1 rfl kk) ?_
  refine wq (fun _ _ kk => rs_sipush (v := 300) (pc := 31) dX12_answer_31 rfl kk) ?_
  refine wq (fun _ _ kk => rs_iload_n (pc := 34) dX12_answer_34 rfl kk) ?_
  refine wq (fun _ _ kk => rs_imul (pc := 35) dX12_answer_35 kk) ?_
  rw [show (300 : Int32) * nI r = nI (300 * r) from pk_mul 300 r]
  refine wq (fun _ _ kk => rs_iload (pc := 36) dX12_answer_36 rfl kk) ?_
  refine wq (fun _ _ kk => rs_iadd (pc := 38) dX12_answer_38 kk) ?_
  rw [nI_add]
  refine wq (fun _ _ kk => rs_iald (pc := 39) dX12_answer_39 (md_lt hmd (by decide)) (md_geti (d := 18) (k := 32) (kd := 0) (n := 3000) rfl (by decide) hmd) (vp_in_nI (n := 300 * r + k) (N := 3000) (by omega) (by decide)) kk) ?_
  rw [nI_clamp (show 300 * r + k < 2 ^ 31 by omega), hs2]
  refine wq (fun _ _ kk => wk_ist7 (pc := 40) dX12_answer_40 (by decide) rfl kk) ?_
  refine wq (fun _ _ kk => rs_iload (pc := 42) dX12_answer_42 rfl kk) ?_
  refine wq_br (fun _ _ kt kf => rs_if_eq (tgt := 53) (pc := 44) dX12_answer_44 rfl kt kf) (fun c_44 => absurd c_44 (fun z => by rw [h1] at z; exact absurd z (by decide))) (fun c_44 => ?_)
  refine wq (fun _ _ kk => rs_iload (pc := 47) dX12_answer_47 rfl kk) ?_
  refine wq (fun _ _ kk => rs_iconst (v := 1) (pc := 49) dX12_answer_49 rfl kk) ?_
  refine wq_bn (fun _ _ kt kf => rs_icmp_ne (tgt := 84) (pc := 50) dX12_answer_50 rfl kt kf) (fun c_50 => absurd c_50 (fun z => by exact z (by rw [h1]; rfl))) (fun c_50 => ?_)
  refine wq (fun _ _ kk => rs_aload_n (pc := 53) dX12_answer_53 rfl kk) ?_
  refine wq (fun _ _ kk => rs_getf (pc := 54) dX12_answer_54 fX12_87 (md_lt hmd (by decide)) hmd.2.1 rfl kk) ?_
  refine wq (fun _ _ kk => rs_iload (pc := 57) dX12_answer_57 rfl kk) ?_
  refine wq (fun _ _ kk => rs_iload (pc := 59) dX12_answer_59 rfl kk) ?_
  refine wq_bn (fun _ _ kt kf => rs_if_ne (tgt := 70) (pc := 61) dX12_answer_61 rfl kt kf) (fun c_61 => ?_) (fun c_61 => absurd c_61 (fun z => by rw [h1] at z; exact absurd z (by decide)))
  refine wq (fun _ _ kk => rs_aload_n (pc := 70) dX12_answer_70 rfl kk) ?_
  refine wq (fun _ _ kk => rs_getf (pc := 71) dX12_answer_71 fX12_83 (md_lt hmd (by decide)) hmd.2.1 rfl kk) ?_
  refine wq (fun _ _ kk => rs_iload (pc := 74) dX12_answer_74 rfl kk) ?_
  refine wq (fun _ _ kk => rs_lald (pc := 76) dX12_answer_76 (md_lt hmd (by decide)) (md_getl (d := 24) (k := 38) (kd := 1) (n := 10) rfl (by decide) hmd) (vp_in_nI (n := t.2) (N := 10) h2 (by decide)) kk) ?_
  rw [nI_clamp (show t.2 < 2 ^ 31 by omega)]
  refine wq (fun _ _ kk => rs_last (pc := 77) dX12_answer_77 (md_lt hmd (by decide)) (md_getl (d := 25) (k := 39) (kd := 1) (n := 300) rfl (by decide) hmd) (vp_in_nI (n := s.length) (N := 300) (by omega) (by decide)) kk) ?_
  refine wq_gen (fun h_1 e_1 => ?_)
  obtain ⟨m_1, s_1, g_1, o_1⟩ := ai_e1 e_1
  replace hmd := md_at_al (d := 25) rfl (by decide) hmd m_1 g_1 o_1
  have E_1 := (E0).trans (md_ext_of m_1 s_1 o_1 (by decide))
  refine wq (fun _ _ kk => wk_iinc4 (v := nI (s.length + 1)) (pc := 78) dX12_answer_78 (by decide) rfl (nI_1 _) kk) ?_
  refine wq (fun _ _ kk => rs_goto (tgt := 147) (pc := 81) dX12_answer_81 rfl kk) ?_
  refine wq (fun _ _ kk => wk_iinc5 (v := nI (k + 1)) (pc := 147) dX12_answer_147 (by decide) rfl (nI_1 k) kk) ?_
  refine wq (fun _ _ kk => rs_goto (tgt := 6) (pc := 150) dX12_answer_150 rfl kk) ?_
  rw [nI_clamp (show s.length < 2 ^ 31 by omega)] at hmd
  exact kx _ _ _ _ (E_1) hmd hq.al (stk_up hst)
set_option maxRecDepth 100000 in
set_option maxHeartbeats 4000000 in
theorem o_X12_answer {h g : ai_H} {V W : Md} {r o e k : Nat} {u6 u7 : Value} {Q : Option Value → ai_H → Prop} {t : Tk} (hr : r < 10) (hk : k < e) (he : e ≤ 300) (E0 : md_ext h g) (hmd : md_at g W) (hq : stq V W) (hs1 : W.2.2.1 31 (300 * r + k) = nI t.1) (hs2 : W.2.2.1 32 (300 * r + k) = nI t.2) {a : Int64} {s : List Int64} (hst : stk (a :: s) (W.2.2.2 39)) (h1 : t.1 = 9) (h01 : a = 0 ∨ a = 1) (hl : s.length < 64) (kx : ∀ (u6 u7 : Value) (W : Md) (g : ai_H), md_ext h g → md_at g W → stq V W → stk ((if a = 0 then 1 else 0) :: s) (W.2.2.2 39) → ai_W MX12_answer 6 [.ref 307, .int (nI r), .int (nI o), .int (nI e), .int (nI ((if a = 0 then 1 else 0) :: s).length), .int (nI (k + 1)), u6, u7] [] g Q) : ai_W MX12_answer 6 [.ref 307, .int (nI r), .int (nI o), .int (nI e), .int (nI (a :: s).length), .int (nI k), u6, u7] [] g Q := by
  rw [List.length_cons]
  refine wq (fun _ _ kk => rs_iload (pc := 6) dX12_answer_6 rfl kk) ?_
  refine wq (fun _ _ kk => rs_iload_n (pc := 8) dX12_answer_8 rfl kk) ?_
  refine wq_br (fun _ _ kt kf => rs_icmp_ge (tgt := 153) (pc := 9) dX12_answer_9 rfl kt kf) (fun c_9 => absurd c_9 (fun z => by rw [i32_le, nI_toInt (by omega), nI_toInt (by omega)] at z; omega)) (fun c_9 => ?_)
  refine wq (fun _ _ kk => rs_aload_n (pc := 12) dX12_answer_12 rfl kk) ?_
  refine wq (fun _ _ kk => rs_getf (pc := 13) dX12_answer_13 fX12_62 (md_lt hmd (by decide)) hmd.2.1 rfl kk) ?_
  refine wq (fun _ _ kk => rs_sipush (v := 300) (pc := 16) dX12_answer_16 rfl kk) ?_
  refine wq (fun _ _ kk => rs_iload_n (pc := 19) dX12_answer_19 rfl kk) ?_
  refine wq (fun _ _ kk => rs_imul (pc := 20) dX12_answer_20 kk) ?_
  rw [show (300 : Int32) * nI r = nI (300 * r) from pk_mul 300 r]
  refine wq (fun _ _ kk => rs_iload (pc := 21) dX12_answer_21 rfl kk) ?_
  refine wq (fun _ _ kk => rs_iadd (pc := 23) dX12_answer_23 kk) ?_
  rw [nI_add]
  refine wq (fun _ _ kk => rs_iald (pc := 24) dX12_answer_24 (md_lt hmd (by decide)) (md_geti (d := 17) (k := 31) (kd := 0) (n := 3000) rfl (by decide) hmd) (vp_in_nI (n := 300 * r + k) (N := 3000) (by omega) (by decide)) kk) ?_
  rw [nI_clamp (show 300 * r + k < 2 ^ 31 by omega), hs1]
  refine wq (fun _ _ kk => wk_ist6 (pc := 25) dX12_answer_25 (by decide) rfl kk) ?_
  refine wq (fun _ _ kk => rs_aload_n (pc := 27) dX12_answer_27 rfl kk) ?_
  refine wq (fun _ _ kk => rs_getf (pc := 28) dX12_answer_28 fX12_65 (md_lt hmd (by decide)) hmd.2.1 rfl kk) ?_
  refine wq (fun _ _ kk => rs_sipush (v := 300) (pc := 31) dX12_answer_31 rfl kk) ?_
  refine wq (fun _ _ kk => rs_iload_n (pc := 34) dX12_answer_34 rfl kk) ?_
  refine wq (fun _ _ kk => rs_imul (pc := 35) dX12_answer_35 kk) ?_
  rw [show (300 : Int32) * nI r = nI (300 * r) from pk_mul 300 r]
  refine wq (fun _ _ kk => rs_iload (pc := 36) dX12_answer_36 rfl kk) ?_
  refine wq (fun _ _ kk => rs_iadd (pc := 38) dX12_answer_38 kk) ?_
  rw [nI_add]
  refine wq (fun _ _ kk => rs_iald (pc := 39) dX12_answer_39 (md_lt hmd (by decide)) (md_geti (d := 18) (k := 32) (kd := 0) (n := 3000) rfl (by decide) hmd) (vp_in_nI (n := 300 * r + k) (N := 3000) (by omega) (by decide)) kk) ?_
  rw [nI_clamp (show 300 * r + k < 2 ^ 31 by omega), hs2]
  refine wq (fun _ _ kk => wk_ist7 (pc := 40) dX12_answer_40 (by decide) rfl kk) ?_
  refine wq (fun _ _ kk => rs_iload (pc := 42) dX12_answer_42 rfl kk) ?_
  refine wq_br (fun _ _ kt kf => rs_if_eq (tgt := 53) (pc := 44) dX12_answer_44 rfl kt kf) (fun c_44 => absurd c_44 (fun z => by rw [h1] at z; exact absurd z (by decide))) (fun c_44 => ?_)
  refine wq (fun _ _ kk => rs_iload (pc := 47) dX12_answer_47 rfl kk) ?_
  refine wq (fun _ _ kk => rs_iconst (v := 1) (pc := 49) dX12_answer_49 rfl kk) ?_
  refine wq_bn (fun _ _ kt kf => rs_icmp_ne (tgt := 84) (pc := 50) dX12_answer_50 rfl kt kf) (fun c_50 => ?_) (fun c_50 => absurd c_50 (fun z => by rw [h1] at z; exact absurd z (by decide)))
  refine wq (fun _ _ kk => rs_iload (pc := 84) dX12_answer_84 rfl kk) ?_
  refine wq (fun _ _ kk => rs_bipush (v := 9) (pc := 86) dX12_answer_86 rfl kk) ?_
  refine wq_bn (fun _ _ kt kf => rs_icmp_ne (tgt := 114) (pc := 88) dX12_answer_88 rfl kt kf) (fun c_88 => absurd c_88 (fun z => z (by rw [h1]; rfl))) (fun c_88 => ?_)
  refine wq (fun _ _ kk => rs_aload_n (pc := 91) dX12_answer_91 rfl kk) ?_
  refine wq (fun _ _ kk => rs_getf (pc := 92) dX12_answer_92 fX12_87 (md_lt hmd (by decide)) hmd.2.1 rfl kk) ?_
  refine wq (fun _ _ kk => rs_iload (pc := 95) dX12_answer_95 rfl kk) ?_
  refine wq (fun _ _ kk => rs_iconst (v := 1) (pc := 97) dX12_answer_97 rfl kk) ?_
  refine wq (fun _ _ kk => rs_isub (pc := 98) dX12_answer_98 kk) ?_
  rw [show nI (s.length + 1) - 1 = nI s.length from nI_sb (b := 1) (by omega)]
  refine wq (fun _ _ kk => rs_lconst (v := 1) (pc := 99) dX12_answer_99 rfl kk) ?_
  refine wq (fun _ _ kk => rs_aload_n (pc := 100) dX12_answer_100 rfl kk) ?_
  refine wq (fun _ _ kk => rs_getf (pc := 101) dX12_answer_101 fX12_87 (md_lt hmd (by decide)) hmd.2.1 rfl kk) ?_
  refine wq (fun _ _ kk => rs_iload (pc := 104) dX12_answer_104 rfl kk) ?_
  refine wq (fun _ _ kk => rs_iconst (v := 1) (pc := 106) dX12_answer_106 rfl kk) ?_
  refine wq (fun _ _ kk => rs_isub (pc := 107) dX12_answer_107 kk) ?_
  rw [show nI (s.length + 1) - 1 = nI s.length from nI_sb (b := 1) (by omega)]
  refine wq (fun _ _ kk => rs_lald (pc := 108) dX12_answer_108 (md_lt hmd (by decide)) (md_getl (d := 25) (k := 39) (kd := 1) (n := 300) rfl (by decide) hmd) (vp_in_nI (n := s.length) (N := 300) (by omega) (by decide)) kk) ?_
  rw [nI_clamp (show s.length < 2 ^ 31 by omega), hst.1]
  refine wq (fun _ _ kk => rs_lsub (pc := 109) dX12_answer_109 kk) ?_
  rw [not01 h01]
  refine wq (fun _ _ kk => rs_last (pc := 110) dX12_answer_110 (md_lt hmd (by decide)) (md_getl (d := 25) (k := 39) (kd := 1) (n := 300) rfl (by decide) hmd) (vp_in_nI (n := s.length) (N := 300) (by omega) (by decide)) kk) ?_
  refine wq_gen (fun h_1 e_1 => ?_)
  obtain ⟨m_1, s_1, g_1, o_1⟩ := ai_e1 e_1
  replace hmd := md_at_al (d := 25) rfl (by decide) hmd m_1 g_1 o_1
  have E_1 := (E0).trans (md_ext_of m_1 s_1 o_1 (by decide))
  refine wq (fun _ _ kk => rs_goto (tgt := 147) (pc := 111) dX12_answer_111 rfl kk) ?_
  refine wq (fun _ _ kk => wk_iinc5 (v := nI (k + 1)) (pc := 147) dX12_answer_147 (by decide) rfl (nI_1 k) kk) ?_
  refine wq (fun _ _ kk => rs_goto (tgt := 6) (pc := 150) dX12_answer_150 rfl kk) ?_
  rw [nI_clamp (show s.length < 2 ^ 31 by omega)] at hmd
  exact kx _ _ _ _ (E_1) hmd hq.al (stk_up hst.2)
set_option maxRecDepth 100000 in
set_option maxHeartbeats 4000000 in
theorem b_X12_answer {h g : ai_H} {V W : Md} {r o e k : Nat} {u6 u7 : Value} {Q : Option Value → ai_H → Prop} {t : Tk} (hr : r < 10) (hk : k < e) (he : e ≤ 300) (E0 : md_ext h g) (hmd : md_at g W) (hq : stq V W) (hs1 : W.2.2.1 31 (300 * r + k) = nI t.1) (hs2 : W.2.2.1 32 (300 * r + k) = nI t.2) {a b : Int64} {s : List Int64} (hst : stk (b :: a :: s) (W.2.2.2 39)) (hb : ar t.1 = true ∨ cm t.1 = true ∨ lg t.1 = true) (hl : s.length < 64) (kx : ∀ (u6 u7 : Value) (W : Md) (g : ai_H), md_ext h g → md_at g W → stq V W → stk (bop t.1 a b :: s) (W.2.2.2 39) → ai_W MX12_answer 6 [.ref 307, .int (nI r), .int (nI o), .int (nI e), .int (nI (bop t.1 a b :: s).length), .int (nI (k + 1)), u6, u7] [] g Q) : ai_W MX12_answer 6 [.ref 307, .int (nI r), .int (nI o), .int (nI e), .int (nI (b :: a :: s).length), .int (nI k), u6, u7] [] g Q := by
  rw [List.length_cons, List.length_cons]
  have kk := bin_k hb
  refine wq (fun _ _ kk => rs_iload (pc := 6) dX12_answer_6 rfl kk) ?_
  refine wq (fun _ _ kk => rs_iload_n (pc := 8) dX12_answer_8 rfl kk) ?_
  refine wq_br (fun _ _ kt kf => rs_icmp_ge (tgt := 153) (pc := 9) dX12_answer_9 rfl kt kf) (fun c_9 => absurd c_9 (fun z => by rw [i32_le, nI_toInt (by omega), nI_toInt (by omega)] at z; omega)) (fun c_9 => ?_)
  refine wq (fun _ _ kk => rs_aload_n (pc := 12) dX12_answer_12 rfl kk) ?_
  refine wq (fun _ _ kk => rs_getf (pc := 13) dX12_answer_13 fX12_62 (md_lt hmd (by decide)) hmd.2.1 rfl kk) ?_
  refine wq (fun _ _ kk => rs_sipush (v := 300) (pc := 16) dX12_answer_16 rfl kk) ?_
  refine wq (fun _ _ kk => rs_iload_n (pc := 19) dX12_answer_19 rfl kk) ?_
  refine wq (fun _ _ kk => rs_imul (pc := 20) dX12_answer_20 kk) ?_
  rw [show (300 : Int32) * nI r = nI (300 * r) from pk_mul 300 r]
  refine wq (fun _ _ kk => rs_iload (pc := 21) dX12_answer_21 rfl kk) ?_
  refine wq (fun _ _ kk => rs_iadd (pc := 23) dX12_answer_23 kk) ?_
  rw [nI_add]
  refine wq (fun _ _ kk => rs_iald (pc := 24) dX12_answer_24 (md_lt hmd (by decide)) (md_geti (d := 17) (k := 31) (kd := 0) (n := 3000) rfl (by decide) hmd) (vp_in_nI (n := 300 * r + k) (N := 3000) (by omega) (by decide)) kk) ?_
  rw [nI_clamp (show 300 * r + k < 2 ^ 31 by omega), hs1]
  refine wq (fun _ _ kk => wk_ist6 (pc := 25) dX12_answer_25 (by decide) rfl kk) ?_
  refine wq (fun _ _ kk => rs_aload_n (pc := 27) dX12_answer_27 rfl kk) ?_
  refine wq (fun _ _ kk => rs_getf (pc := 28) dX12_answer_28 fX12_65 (md_lt hmd (by decide)) hmd.2.1 rfl kk) ?_
  refine wq (fun _ _ kk => rs_sipush (v := 300) (pc := 31) dX12_answer_31 rfl kk) ?_
  refine wq (fun _ _ kk => rs_iload_n (pc := 34) dX12_answer_34 rfl kk) ?_
  refine wq (fun _ _ kk => rs_imul (pc := 35) dX12_answer_35 kk) ?_
  rw [show (300 : Int32) * nI r = nI (300 * r) from pk_mul 300 r]
  refine wq (fun _ _ kk => rs_iload (pc := 36) dX12_answer_36 rfl kk) ?_
  refine wq (fun _ _ kk => rs_iadd (pc := 38) dX12_answer_38 kk) ?_
  rw [nI_add]
  refine wq (fun _ _ kk => rs_iald (pc := 39) dX12_answer_39 (md_lt hmd (by decide)) (md_geti (d := 18) (k := 32) (kd := 0) (n := 3000) rfl (by decide) hmd) (vp_in_nI (n := 300 * r + k) (N := 3000) (by omega) (by decide)) kk) ?_
  rw [nI_clamp (show 300 * r + k < 2 ^ 31 by omega), hs2]
  refine wq (fun _ _ kk => wk_ist7 (pc := 40) dX12_answer_40 (by decide) rfl kk) ?_
  refine wq (fun _ _ kk => rs_iload (pc := 42) dX12_answer_42 rfl kk) ?_
  refine wq_br (fun _ _ kt kf => rs_if_eq (tgt := 53) (pc := 44) dX12_answer_44 rfl kt kf) (fun c_44 => absurd c_44 (fun z => by have z := nI_inj (by omega) (by decide) (show nI t.1 = nI 0 from z); omega)) (fun c_44 => ?_)
  refine wq (fun _ _ kk => rs_iload (pc := 47) dX12_answer_47 rfl kk) ?_
  refine wq (fun _ _ kk => rs_iconst (v := 1) (pc := 49) dX12_answer_49 rfl kk) ?_
  refine wq_bn (fun _ _ kt kf => rs_icmp_ne (tgt := 84) (pc := 50) dX12_answer_50 rfl kt kf) (fun c_50 => ?_) (fun c_50 => absurd c_50 (fun z => by have z := nI_inj (by omega) (by decide) (show nI t.1 = nI 1 from z); omega))
  refine wq (fun _ _ kk => rs_iload (pc := 84) dX12_answer_84 rfl kk) ?_
  refine wq (fun _ _ kk => rs_bipush (v := 9) (pc := 86) dX12_answer_86 rfl kk) ?_
  refine wq_bn (fun _ _ kt kf => rs_icmp_ne (tgt := 114) (pc := 88) dX12_answer_88 rfl kt kf) (fun c_88 => ?_) (fun c_88 => absurd c_88 (fun z => by have z := nI_inj (by omega) (by decide) (show nI t.1 = nI 9 from z); omega))
  refine wq (fun _ _ kk => wk_iinc4 (v := nI (s.length + 1)) (pc := 114) dX12_answer_114 (by decide) rfl (nI_dec _) kk) ?_
  refine wq (fun _ _ kk => rs_aload_n (pc := 117) dX12_answer_117 rfl kk) ?_
  refine wq (fun _ _ kk => rs_getf (pc := 118) dX12_answer_118 fX12_87 (md_lt hmd (by decide)) hmd.2.1 rfl kk) ?_
  refine wq (fun _ _ kk => rs_iload (pc := 121) dX12_answer_121 rfl kk) ?_
  refine wq (fun _ _ kk => rs_iconst (v := 1) (pc := 123) dX12_answer_123 rfl kk) ?_
  refine wq (fun _ _ kk => rs_isub (pc := 124) dX12_answer_124 kk) ?_
  rw [show nI (s.length + 1) - 1 = nI s.length from nI_sb (b := 1) (by omega)]
  refine wq (fun _ _ kk => rs_iload (pc := 125) dX12_answer_125 rfl kk) ?_
  refine wq (fun _ _ kk => rs_aload_n (pc := 127) dX12_answer_127 rfl kk) ?_
  refine wq (fun _ _ kk => rs_getf (pc := 128) dX12_answer_128 fX12_87 (md_lt hmd (by decide)) hmd.2.1 rfl kk) ?_
  refine wq (fun _ _ kk => rs_iload (pc := 131) dX12_answer_131 rfl kk) ?_
  refine wq (fun _ _ kk => rs_iconst (v := 1) (pc := 133) dX12_answer_133 rfl kk) ?_
  refine wq (fun _ _ kk => rs_isub (pc := 134) dX12_answer_134 kk) ?_
  rw [show nI (s.length + 1) - 1 = nI s.length from nI_sb (b := 1) (by omega)]
  refine wq (fun _ _ kk => rs_lald (pc := 135) dX12_answer_135 (md_lt hmd (by decide)) (md_getl (d := 25) (k := 39) (kd := 1) (n := 300) rfl (by decide) hmd) (vp_in_nI (n := s.length) (N := 300) (by omega) (by decide)) kk) ?_
  rw [nI_clamp (show s.length < 2 ^ 31 by omega), hst.2.1]
  refine wq (fun _ _ kk => rs_aload_n (pc := 136) dX12_answer_136 rfl kk) ?_
  refine wq (fun _ _ kk => rs_getf (pc := 137) dX12_answer_137 fX12_87 (md_lt hmd (by decide)) hmd.2.1 rfl kk) ?_
  refine wq (fun _ _ kk => rs_iload (pc := 140) dX12_answer_140 rfl kk) ?_
  refine wq (fun _ _ kk => rs_lald (pc := 142) dX12_answer_142 (md_lt hmd (by decide)) (md_getl (d := 25) (k := 39) (kd := 1) (n := 300) rfl (by decide) hmd) (vp_in_nI (n := s.length + 1) (N := 300) (by omega) (by decide)) kk) ?_
  rw [nI_clamp (show s.length + 1 < 2 ^ 31 by omega), show W.2.2.2 39 (s.length + 1) = b from hst.1]
  refine wq (fun _ _ kk => rs_callS (as := [_, _, _]) (pc := 143) dX12_answer_143 mk_X12_both mlX12_378 st_X12_both rfl rfl (Nat.le_of_ble_eq_true rfl) (c_X12_both _ _ _) kk) ?_
  rw [mbo_is hb]
  refine wq (fun _ _ kk => rs_last (pc := 146) dX12_answer_146 (md_lt hmd (by decide)) (md_getl (d := 25) (k := 39) (kd := 1) (n := 300) rfl (by decide) hmd) (vp_in_nI (n := s.length) (N := 300) (by omega) (by decide)) kk) ?_
  refine wq_gen (fun h_1 e_1 => ?_)
  obtain ⟨m_1, s_1, g_1, o_1⟩ := ai_e1 e_1
  replace hmd := md_at_al (d := 25) rfl (by decide) hmd m_1 g_1 o_1
  have E_1 := (E0).trans (md_ext_of m_1 s_1 o_1 (by decide))
  refine wq (fun _ _ kk => wk_iinc5 (v := nI (k + 1)) (pc := 147) dX12_answer_147 (by decide) rfl (nI_1 k) kk) ?_
  refine wq (fun _ _ kk => rs_goto (tgt := 6) (pc := 150) dX12_answer_150 rfl kk) ?_
  rw [nI_clamp (show s.length < 2 ^ 31 by omega)] at hmd
  exact kx _ _ _ _ (E_1) hmd hq.al (stk_up hst.2.2)
set_option maxRecDepth 100000 in
set_option maxHeartbeats 4000000 in
theorem z_X12_answer {h g : ai_H} {V W : Md} {r o e : Nat} {u6 u7 : Value} {a : Int64} {n : Int32} (E0 : md_ext h g) (hmd : md_at g W) (hq : stq V W) (hst : stk [a] (W.2.2.2 39)) : ai_W MX12_answer 6 [.ref 307, .int (nI r), .int (nI o), .int (nI e), .int n, .int (nI e), u6, u7] [] g (fun r g => md_ext h g ∧ (∃ W, md_at g W ∧ stq V W) ∧ r = some (.long a)) := by
  refine wq (fun _ _ kk => rs_iload (pc := 6) dX12_answer_6 rfl kk) ?_
  refine wq (fun _ _ kk => rs_iload_n (pc := 8) dX12_answer_8 rfl kk) ?_
  refine wq_br (fun _ _ kt kf => rs_icmp_ge (tgt := 153) (pc := 9) dX12_answer_9 rfl kt kf) (fun c_9 => ?_) (fun c_9 => absurd c_9 (fun z => z (by rw [i32_le]; omega)))
  refine wq (fun _ _ kk => rs_aload_n (pc := 153) dX12_answer_153 rfl kk) ?_
  refine wq (fun _ _ kk => rs_getf (pc := 154) dX12_answer_154 fX12_87 (md_lt hmd (by decide)) hmd.2.1 rfl kk) ?_
  refine wq (fun _ _ kk => rs_iconst (v := 0) (pc := 157) dX12_answer_157 rfl kk) ?_
  refine wq (fun _ _ kk => rs_lald (pc := 158) dX12_answer_158 (md_lt hmd (by decide)) (md_getl (d := 25) (k := 39) (kd := 1) (n := 300) rfl (by decide) hmd) (vp_in_nI (n := 0) (N := 300) (by decide) (by decide)) kk) ?_
  refine wq_ret ?_ (rs_lret (pc := 159) dX12_answer_159 rfl)
  exact ⟨E0, ⟨W, hmd, hq⟩, by rw [show W.2.2.2 39 (0 : Int32).toNatClampNeg = a from hst.1]⟩
theorem run_X12_answer {h : ai_H} {V : Md} {r o e : Nat} {w : Nat → Int64} {v : Int64} (hr : r < 10) (he : e ≤ 300) (hw : ∀ k, k < 10 → V.2.2.2 38 k = w k) : ∀ (L : List Tk) (a : List Bool) (bb : Bool) (x : List Int64) (k : Nat) (u6 u7 : Value) (W : Md) (g : ai_H), tyL L a = some [bb] → vt a x → x.length + pcL L ≤ 64 → e = k + L.length → MT V r k L → evL w L x = [v] → md_ext h g → md_at g W → stq V W → stk x (W.2.2.2 39) → ai_W MX12_answer 6 [.ref 307, .int (nI r), .int (nI o), .int (nI e), .int (nI x.length), .int (nI k), u6, u7] [] g (fun r g => md_ext h g ∧ (∃ W, md_at g W ∧ stq V W) ∧ r = some (.long v)) := by
  intro L
  induction L with
  | nil =>
    intro a bb x k u6 u7 W g _ _ _ hke _ hev E0 hmd hq hst
    have hke : e = k := hke
    subst hke
    have hev : x = [v] := hev
    subst hev
    exact z_X12_answer E0 hmd hq hst
  | cons t L ih =>
    intro a bb x k u6 u7 W g ht hv hl hke hM hev E0 hmd hq hst
    rw [List.length_cons] at hke
    rw [pcL] at hl
    rw [tyL] at ht
    cases et : tyT t a with
    | none => rw [et] at ht; cases ht
    | some c =>
      rw [et] at ht
      obtain ⟨m1, m2⟩ := hM 0 t rfl
      rw [Nat.add_zero] at m1 m2
      rw [← hq.1.2.2.1] at m1 m2
      have hv2 := evT_vt (w := w) et hv
      have nx : ∀ (u6 u7 : Value) (W : Md) (g : ai_H), (evT w t x).length + pcL L ≤ 64 → md_ext h g → md_at g W → stq V W → stk (evT w t x) (W.2.2.2 39) → ai_W MX12_answer 6 [.ref 307, .int (nI r), .int (nI o), .int (nI e), .int (nI (evT w t x).length), .int (nI (k + 1)), u6, u7] [] g (fun r g => md_ext h g ∧ (∃ W, md_at g W ∧ stq V W) ∧ r = some (.long v)) := by
        intro u6 u7 W g hl2 E0 hmd hq hst
        exact ih c bb _ (k + 1) u6 u7 W g ht hv2 hl2 (by omega) (fun j t2 hj => by
          have := hM (j + 1) t2 (by rw [List.getElem?_cons_succ]; exact hj)
          rw [show k + 1 + j = k + (j + 1) by omega]
          exact this) hev E0 hmd hq hst
      rcases tk_cases et with ⟨h1, h2, rfl⟩ | ⟨h1, h2, rfl⟩ | ⟨h1, s, rfl, rfl⟩ | h3
      · rw [if_pos (by omega)] at hl
        rw [evT_num h1] at nx
        exact n_X12_answer hr (by omega) he E0 hmd hq m1 m2 hst h1 h2 (by omega) (fun u6 u7 W g a1 a2 a3 a4 => nx u6 u7 W g (by rw [List.length_cons]; omega) a1 a2 a3 a4)
      · rw [if_pos (by omega)] at hl
        rw [evT_word h1] at nx
        refine w_X12_answer hr (by omega) he E0 hmd hq m1 m2 hst h1 h2 (by omega) (fun u6 u7 W g a1 a2 a3 a4 => ?_)
        rw [a3.2, hw t.2 h2] at a4 ⊢
        exact nx u6 u7 W g (by rw [List.length_cons]; omega) a1 a2 a3 a4
      · match x, hv, nx, hl, hst with
        | y :: x, hv, nx, hl, hst =>
          rw [evT_not h1] at nx
          rw [List.length_cons] at hl
          exact o_X12_answer (a := y) (s := x) hr (by omega) he E0 hmd hq m1 m2 hst h1 (hv.1 rfl) (by omega) (fun u6 u7 W g a1 a2 a3 a4 => nx u6 u7 W g (by rw [List.length_cons]; omega) a1 a2 a3 a4)
      · have h4 : (ar t.1 = true ∨ cm t.1 = true ∨ lg t.1 = true) ∧ ∃ y z s, a = y :: z :: s := by
          rcases h3 with ⟨h1, s, rfl, rfl⟩ | ⟨h1, s, rfl, rfl⟩ | ⟨h1, s, rfl, rfl⟩
          · exact ⟨Or.inl h1, _, _, _, rfl⟩
          · exact ⟨Or.inr (Or.inl h1), _, _, _, rfl⟩
          · exact ⟨Or.inr (Or.inr h1), _, _, _, rfl⟩
        obtain ⟨hk, y, z, s, rfl⟩ := h4
        have kk := bin_k hk
        match x, hv, nx, hl, hst with
        | y :: u :: x, hv, nx, hl, hst =>
          rw [evT_bin ⟨kk.1, kk.2.1, kk.2.2.1⟩] at nx
          rw [List.length_cons, List.length_cons] at hl
          exact b_X12_answer (b := y) (a := u) (s := x) hr (by omega) he E0 hmd hq m1 m2 hst hk (by omega) (fun u6 u7 W g a1 a2 a3 a4 => nx u6 u7 W g (by rw [List.length_cons]; omega) a1 a2 a3 a4)
set_option maxRecDepth 100000 in
set_option maxHeartbeats 4000000 in
theorem c_X12_answer {h : ai_H} {V : Md} {r o : Nat} {w : Nat → Int64} {v : Int64} {L : List Tk} {bb : Bool} (hr : r < 10) (he : o + L.length ≤ 300) (hw : ∀ k, k < 10 → V.2.2.2 38 k = w k) (ht : tyL L [] = some [bb]) (hp : pcL L ≤ 60) (hM : MT V r o L) (hev : evL w L [] = [v]) (hmd : md_at h V) : ai_QM MX12_answer [.ref 307, .int (nI r), .int (nI o), .int (nI (o + L.length))] h (fun r g => md_ext h g ∧ (∃ W, md_at g W ∧ stq V W) ∧ r = some (.long v)) := by
  refine qm_of (ls := [.ref 307, .int (nI r), .int (nI o), .int (nI (o + L.length)), .float 0, .float 0, .float 0, .float 0]) (by decide) (by simp [ai_en, Value.category]) (by rfl) ?_
  refine wq (fun _ _ kk => rs_iconst (v := 0) (pc := 0) dX12_answer_0 rfl kk) ?_
  refine wq (fun _ _ kk => wk_ist4 (pc := 1) dX12_answer_1 (by decide) rfl kk) ?_
  refine wq (fun _ _ kk => rs_iload_n (pc := 3) dX12_answer_3 rfl kk) ?_
  refine wq (fun _ _ kk => wk_ist5 (pc := 4) dX12_answer_4 (by decide) rfl kk) ?_
  exact run_X12_answer (h := h) (V := V) hr (by omega) hw L [] bb [] o _ _ V h ht trivial (by show 0 + pcL L ≤ 64; omega) rfl hM hev md_ext.rf hmd stq.rf trivial
theorem dX12_given_0 : decode cX12_given 0 = .ok (.aload_n 0, 1) := by decide +kernel
theorem dX12_given_1 : decode cX12_given 1 = .ok (.getfield 34, 3) := by decide +kernel
theorem dX12_given_4 : decode cX12_given 4 = .ok (.iload_n 2, 1) := by decide +kernel
theorem dX12_given_5 : decode cX12_given 5 = .ok (.iaload, 1) := by decide +kernel
theorem dX12_given_6 : decode cX12_given 6 = .ok (.istore_n 3, 1) := by decide +kernel
theorem dX12_given_7 : decode cX12_given 7 = .ok (.aload_n 0, 1) := by decide +kernel
theorem dX12_given_8 : decode cX12_given 8 = .ok (.getfield 28, 3) := by decide +kernel
theorem dX12_given_11 : decode cX12_given 11 = .ok (.aload_n 0, 1) := by decide +kernel
theorem dX12_given_12 : decode cX12_given 12 = .ok (.getfield 31, 3) := by decide +kernel
theorem dX12_given_15 : decode cX12_given 15 = .ok (.iload_n 2, 1) := by decide +kernel
theorem dX12_given_16 : decode cX12_given 16 = .ok (.iaload, 1) := by decide +kernel
theorem dX12_given_17 : decode cX12_given 17 = .ok (.iaload, 1) := by decide +kernel
theorem dX12_given_18 : decode cX12_given 18 = .ok (.istore 4, 2) := by decide +kernel
theorem dX12_given_20 : decode cX12_given 20 = .ok (.aload_n 0, 1) := by decide +kernel
theorem dX12_given_21 : decode cX12_given 21 = .ok (.getfield 83, 3) := by decide +kernel
theorem dX12_given_24 : decode cX12_given 24 = .ok (.iconst 0, 1) := by decide +kernel
theorem dX12_given_25 : decode cX12_given 25 = .ok (.aload_n 0, 1) := by decide +kernel
theorem dX12_given_26 : decode cX12_given 26 = .ok (.getfield 16, 3) := by decide +kernel
theorem dX12_given_29 : decode cX12_given 29 = .ok (.iload_n 3, 1) := by decide +kernel
theorem dX12_given_30 : decode cX12_given 30 = .ok (.iaload, 1) := by decide +kernel
theorem dX12_given_31 : decode cX12_given 31 = .ok (.i2l, 1) := by decide +kernel
theorem dX12_given_32 : decode cX12_given 32 = .ok (.lastore, 1) := by decide +kernel
theorem dX12_given_33 : decode cX12_given 33 = .ok (.aload_n 0, 1) := by decide +kernel
theorem dX12_given_34 : decode cX12_given 34 = .ok (.getfield 83, 3) := by decide +kernel
theorem dX12_given_37 : decode cX12_given 37 = .ok (.iconst 1, 1) := by decide +kernel
theorem dX12_given_38 : decode cX12_given 38 = .ok (.aload_n 0, 1) := by decide +kernel
theorem dX12_given_39 : decode cX12_given 39 = .ok (.getfield 19, 3) := by decide +kernel
theorem dX12_given_42 : decode cX12_given 42 = .ok (.iload_n 3, 1) := by decide +kernel
theorem dX12_given_43 : decode cX12_given 43 = .ok (.iaload, 1) := by decide +kernel
theorem dX12_given_44 : decode cX12_given 44 = .ok (.i2l, 1) := by decide +kernel
theorem dX12_given_45 : decode cX12_given 45 = .ok (.lastore, 1) := by decide +kernel
theorem dX12_given_46 : decode cX12_given 46 = .ok (.aload_n 0, 1) := by decide +kernel
theorem dX12_given_47 : decode cX12_given 47 = .ok (.getfield 83, 3) := by decide +kernel
theorem dX12_given_50 : decode cX12_given 50 = .ok (.iconst 2, 1) := by decide +kernel
theorem dX12_given_51 : decode cX12_given 51 = .ok (.aload_n 0, 1) := by decide +kernel
theorem dX12_given_52 : decode cX12_given 52 = .ok (.getfield 22, 3) := by decide +kernel
theorem dX12_given_55 : decode cX12_given 55 = .ok (.iload_n 3, 1) := by decide +kernel
theorem dX12_given_56 : decode cX12_given 56 = .ok (.iaload, 1) := by decide +kernel
theorem dX12_given_57 : decode cX12_given 57 = .ok (.i2l, 1) := by decide +kernel
theorem dX12_given_58 : decode cX12_given 58 = .ok (.lastore, 1) := by decide +kernel
theorem dX12_given_59 : decode cX12_given 59 = .ok (.aload_n 0, 1) := by decide +kernel
theorem dX12_given_60 : decode cX12_given 60 = .ok (.getfield 83, 3) := by decide +kernel
theorem dX12_given_63 : decode cX12_given 63 = .ok (.iconst 3, 1) := by decide +kernel
theorem dX12_given_64 : decode cX12_given 64 = .ok (.iload_n 3, 1) := by decide +kernel
theorem dX12_given_65 : decode cX12_given 65 = .ok (.i2l, 1) := by decide +kernel
theorem dX12_given_66 : decode cX12_given 66 = .ok (.lastore, 1) := by decide +kernel
theorem dX12_given_67 : decode cX12_given 67 = .ok (.aload_n 0, 1) := by decide +kernel
theorem dX12_given_68 : decode cX12_given 68 = .ok (.getfield 83, 3) := by decide +kernel
theorem dX12_given_71 : decode cX12_given 71 = .ok (.iconst 4, 1) := by decide +kernel
theorem dX12_given_72 : decode cX12_given 72 = .ok (.aload_n 0, 1) := by decide +kernel
theorem dX12_given_73 : decode cX12_given 73 = .ok (.getfield 37, 3) := by decide +kernel
theorem dX12_given_76 : decode cX12_given 76 = .ok (.iload_n 2, 1) := by decide +kernel
theorem dX12_given_77 : decode cX12_given 77 = .ok (.iaload, 1) := by decide +kernel
theorem dX12_given_78 : decode cX12_given 78 = .ok (.i2l, 1) := by decide +kernel
theorem dX12_given_79 : decode cX12_given 79 = .ok (.lastore, 1) := by decide +kernel
theorem dX12_given_80 : decode cX12_given 80 = .ok (.aload_n 0, 1) := by decide +kernel
theorem dX12_given_81 : decode cX12_given 81 = .ok (.getfield 83, 3) := by decide +kernel
theorem dX12_given_84 : decode cX12_given 84 = .ok (.iconst 5, 1) := by decide +kernel
theorem dX12_given_85 : decode cX12_given 85 = .ok (.aload_n 0, 1) := by decide +kernel
theorem dX12_given_86 : decode cX12_given 86 = .ok (.getfield 43, 3) := by decide +kernel
theorem dX12_given_89 : decode cX12_given 89 = .ok (.iload_n 2, 1) := by decide +kernel
theorem dX12_given_90 : decode cX12_given 90 = .ok (.iaload, 1) := by decide +kernel
theorem dX12_given_91 : decode cX12_given 91 = .ok (.i2l, 1) := by decide +kernel
theorem dX12_given_92 : decode cX12_given 92 = .ok (.lastore, 1) := by decide +kernel
theorem dX12_given_93 : decode cX12_given 93 = .ok (.aload_n 0, 1) := by decide +kernel
theorem dX12_given_94 : decode cX12_given 94 = .ok (.getfield 83, 3) := by decide +kernel
theorem dX12_given_97 : decode cX12_given 97 = .ok (.bipush 6, 2) := by decide +kernel
theorem dX12_given_99 : decode cX12_given 99 = .ok (.iload 4, 2) := by decide +kernel
theorem dX12_given_101 : decode cX12_given 101 = .ok (.i2l, 1) := by decide +kernel
theorem dX12_given_102 : decode cX12_given 102 = .ok (.lastore, 1) := by decide +kernel
theorem dX12_given_103 : decode cX12_given 103 = .ok (.aload_n 0, 1) := by decide +kernel
theorem dX12_given_104 : decode cX12_given 104 = .ok (.getfield 83, 3) := by decide +kernel
theorem dX12_given_107 : decode cX12_given 107 = .ok (.bipush 7, 2) := by decide +kernel
theorem dX12_given_109 : decode cX12_given 109 = .ok (.iload 4, 2) := by decide +kernel
theorem dX12_given_111 : decode cX12_given 111 = .ok (.bipush 52, 2) := by decide +kernel
theorem dX12_given_113 : decode cX12_given 113 = .ok (.idiv, 1) := by decide +kernel
theorem dX12_given_114 : decode cX12_given 114 = .ok (.i2l, 1) := by decide +kernel
theorem dX12_given_115 : decode cX12_given 115 = .ok (.lastore, 1) := by decide +kernel
theorem dX12_given_116 : decode cX12_given 116 = .ok (.aload_n 0, 1) := by decide +kernel
theorem dX12_given_117 : decode cX12_given 117 = .ok (.getfield 83, 3) := by decide +kernel
theorem dX12_given_120 : decode cX12_given 120 = .ok (.bipush 8, 2) := by decide +kernel
theorem dX12_given_122 : decode cX12_given 122 = .ok (.aload_n 0, 1) := by decide +kernel
theorem dX12_given_123 : decode cX12_given 123 = .ok (.getfield 25, 3) := by decide +kernel
theorem dX12_given_126 : decode cX12_given 126 = .ok (.aload_n 0, 1) := by decide +kernel
theorem dX12_given_127 : decode cX12_given 127 = .ok (.getfield 31, 3) := by decide +kernel
theorem dX12_given_130 : decode cX12_given 130 = .ok (.iload_n 2, 1) := by decide +kernel
theorem dX12_given_131 : decode cX12_given 131 = .ok (.iaload, 1) := by decide +kernel
theorem dX12_given_132 : decode cX12_given 132 = .ok (.iaload, 1) := by decide +kernel
theorem dX12_given_133 : decode cX12_given 133 = .ok (.i2l, 1) := by decide +kernel
theorem dX12_given_134 : decode cX12_given 134 = .ok (.lastore, 1) := by decide +kernel
theorem dX12_given_135 : decode cX12_given 135 = .ok (.aload_n 0, 1) := by decide +kernel
theorem dX12_given_136 : decode cX12_given 136 = .ok (.getfield 83, 3) := by decide +kernel
theorem dX12_given_139 : decode cX12_given 139 = .ok (.bipush 9, 2) := by decide +kernel
theorem dX12_given_141 : decode cX12_given 141 = .ok (.iload 4, 2) := by decide +kernel
theorem dX12_given_143 : decode cX12_given 143 = .ok (.aload_n 0, 1) := by decide +kernel
theorem dX12_given_144 : decode cX12_given 144 = .ok (.getfield 9, 3) := by decide +kernel
theorem dX12_given_147 : decode cX12_given 147 = .ok (.aload_n 0, 1) := by decide +kernel
theorem dX12_given_148 : decode cX12_given 148 = .ok (.getfield 40, 3) := by decide +kernel
theorem dX12_given_151 : decode cX12_given 151 = .ok (.iload_n 2, 1) := by decide +kernel
theorem dX12_given_152 : decode cX12_given 152 = .ok (.iaload, 1) := by decide +kernel
theorem dX12_given_153 : decode cX12_given 153 = .ok (.iaload, 1) := by decide +kernel
theorem dX12_given_154 : decode cX12_given 154 = .ok (.isub, 1) := by decide +kernel
theorem dX12_given_155 : decode cX12_given 155 = .ok (.bipush 52, 2) := by decide +kernel
theorem dX12_given_157 : decode cX12_given 157 = .ok (.idiv, 1) := by decide +kernel
theorem dX12_given_158 : decode cX12_given 158 = .ok (.i2l, 1) := by decide +kernel
theorem dX12_given_159 : decode cX12_given 159 = .ok (.lastore, 1) := by decide +kernel
theorem dX12_given_160 : decode cX12_given 160 = .ok (.bipush 12, 2) := by decide +kernel
theorem dX12_given_162 : decode cX12_given 162 = .ok (.iload_n 1, 1) := by decide +kernel
theorem dX12_given_163 : decode cX12_given 163 = .ok (.imul, 1) := by decide +kernel
theorem dX12_given_164 : decode cX12_given 164 = .ok (.istore 5, 2) := by decide +kernel
theorem dX12_given_166 : decode cX12_given 166 = .ok (.bipush 12, 2) := by decide +kernel
theorem dX12_given_168 : decode cX12_given 168 = .ok (.iload_n 1, 1) := by decide +kernel
theorem dX12_given_169 : decode cX12_given 169 = .ok (.imul, 1) := by decide +kernel
theorem dX12_given_170 : decode cX12_given 170 = .ok (.aload_n 0, 1) := by decide +kernel
theorem dX12_given_171 : decode cX12_given 171 = .ok (.getfield 68, 3) := by decide +kernel
theorem dX12_given_174 : decode cX12_given 174 = .ok (.iload_n 1, 1) := by decide +kernel
theorem dX12_given_175 : decode cX12_given 175 = .ok (.iaload, 1) := by decide +kernel
theorem dX12_given_176 : decode cX12_given 176 = .ok (.iadd, 1) := by decide +kernel
theorem dX12_given_177 : decode cX12_given 177 = .ok (.istore 6, 2) := by decide +kernel
theorem dX12_given_179 : decode cX12_given 179 = .ok (.iload 5, 2) := by decide +kernel
theorem dX12_given_181 : decode cX12_given 181 = .ok (.iload 6, 2) := by decide +kernel
theorem dX12_given_183 : decode cX12_given 183 = .ok (.if_icmp .ge 50, 3) := by decide +kernel
theorem dX12_given_186 : decode cX12_given 186 = .ok (.aload_n 0, 1) := by decide +kernel
theorem dX12_given_187 : decode cX12_given 187 = .ok (.getfield 74, 3) := by decide +kernel
theorem dX12_given_190 : decode cX12_given 190 = .ok (.iload 5, 2) := by decide +kernel
theorem dX12_given_192 : decode cX12_given 192 = .ok (.iaload, 1) := by decide +kernel
theorem dX12_given_193 : decode cX12_given 193 = .ok (.aload_n 0, 1) := by decide +kernel
theorem dX12_given_194 : decode cX12_given 194 = .ok (.getfield 77, 3) := by decide +kernel
theorem dX12_given_197 : decode cX12_given 197 = .ok (.iload 5, 2) := by decide +kernel
theorem dX12_given_199 : decode cX12_given 199 = .ok (.iaload, 1) := by decide +kernel
theorem dX12_given_200 : decode cX12_given 200 = .ok (.if_icmp .ge 33, 3) := by decide +kernel
theorem dX12_given_203 : decode cX12_given 203 = .ok (.aload_n 0, 1) := by decide +kernel
theorem dX12_given_204 : decode cX12_given 204 = .ok (.iload_n 1, 1) := by decide +kernel
theorem dX12_given_205 : decode cX12_given 205 = .ok (.aload_n 0, 1) := by decide +kernel
theorem dX12_given_206 : decode cX12_given 206 = .ok (.getfield 74, 3) := by decide +kernel
theorem dX12_given_209 : decode cX12_given 209 = .ok (.iload 5, 2) := by decide +kernel
theorem dX12_given_211 : decode cX12_given 211 = .ok (.iaload, 1) := by decide +kernel
theorem dX12_given_212 : decode cX12_given 212 = .ok (.aload_n 0, 1) := by decide +kernel
theorem dX12_given_213 : decode cX12_given 213 = .ok (.getfield 77, 3) := by decide +kernel
theorem dX12_given_216 : decode cX12_given 216 = .ok (.iload 5, 2) := by decide +kernel
theorem dX12_given_218 : decode cX12_given 218 = .ok (.iaload, 1) := by decide +kernel
theorem dX12_given_219 : decode cX12_given 219 = .ok (.invokevirtual 382, 3) := by decide +kernel
theorem dX12_given_222 : decode cX12_given 222 = .ok (.lconst 1, 1) := by decide +kernel
theorem dX12_given_223 : decode cX12_given 223 = .ok (.lcmp, 1) := by decide +kernel
theorem dX12_given_224 : decode cX12_given 224 = .ok (.ifCond .eq 9, 3) := by decide +kernel
theorem dX12_given_227 : decode cX12_given 227 = .ok (.iinc 5 1, 3) := by decide +kernel
theorem dX12_given_230 : decode cX12_given 230 = .ok (.goto (-51), 3) := by decide +kernel
theorem dX12_given_233 : decode cX12_given 233 = .ok (.iload 5, 2) := by decide +kernel
theorem dX12_given_235 : decode cX12_given 235 = .ok (.iload 6, 2) := by decide +kernel
theorem dX12_given_237 : decode cX12_given 237 = .ok (.if_icmp .ge 25, 3) := by decide +kernel
theorem dX12_given_240 : decode cX12_given 240 = .ok (.aload_n 0, 1) := by decide +kernel
theorem dX12_given_241 : decode cX12_given 241 = .ok (.iload_n 1, 1) := by decide +kernel
theorem dX12_given_242 : decode cX12_given 242 = .ok (.aload_n 0, 1) := by decide +kernel
theorem dX12_given_243 : decode cX12_given 243 = .ok (.getfield 71, 3) := by decide +kernel
theorem dX12_given_246 : decode cX12_given 246 = .ok (.iload 5, 2) := by decide +kernel
theorem dX12_given_248 : decode cX12_given 248 = .ok (.iaload, 1) := by decide +kernel
theorem dX12_given_249 : decode cX12_given 249 = .ok (.aload_n 0, 1) := by decide +kernel
theorem dX12_given_250 : decode cX12_given 250 = .ok (.getfield 74, 3) := by decide +kernel
theorem dX12_given_253 : decode cX12_given 253 = .ok (.iload 5, 2) := by decide +kernel
theorem dX12_given_255 : decode cX12_given 255 = .ok (.iaload, 1) := by decide +kernel
theorem dX12_given_256 : decode cX12_given 256 = .ok (.invokevirtual 382, 3) := by decide +kernel
theorem dX12_given_259 : decode cX12_given 259 = .ok (.goto 4, 3) := by decide +kernel
theorem dX12_given_262 : decode cX12_given 262 = .ok (.lconst 0, 1) := by decide +kernel
theorem dX12_given_263 : decode cX12_given 263 = .ok (.lstore 7, 2) := by decide +kernel
theorem dX12_given_265 : decode cX12_given 265 = .ok (.lload 7, 2) := by decide +kernel
theorem dX12_given_267 : decode cX12_given 267 = .ok (.ldc2_w 386, 3) := by decide +kernel
theorem dX12_given_270 : decode cX12_given 270 = .ok (.lcmp, 1) := by decide +kernel
theorem dX12_given_271 : decode cX12_given 271 = .ok (.ifCond .ge 9, 3) := by decide +kernel
theorem dX12_given_274 : decode cX12_given 274 = .ok (.ldc2_w 386, 3) := by decide +kernel
theorem dX12_given_277 : decode cX12_given 277 = .ok (.goto 20, 3) := by decide +kernel
theorem dX12_given_280 : decode cX12_given 280 = .ok (.lload 7, 2) := by decide +kernel
theorem dX12_given_282 : decode cX12_given 282 = .ok (.ldc2_w 388, 3) := by decide +kernel
theorem dX12_given_285 : decode cX12_given 285 = .ok (.lcmp, 1) := by decide +kernel
theorem dX12_given_286 : decode cX12_given 286 = .ok (.ifCond .le 9, 3) := by decide +kernel
theorem dX12_given_289 : decode cX12_given 289 = .ok (.ldc2_w 388, 3) := by decide +kernel
theorem dX12_given_292 : decode cX12_given 292 = .ok (.goto 5, 3) := by decide +kernel
theorem dX12_given_295 : decode cX12_given 295 = .ok (.lload 7, 2) := by decide +kernel
theorem dX12_given_297 : decode cX12_given 297 = .ok (.lreturn, 1) := by decide +kernel
set_option maxRecDepth 100000 in
set_option maxHeartbeats 4000000 in
theorem z_X12_given {h g : ai_H} {V W : Md} {r c0 o e : Nat} {rec s3 s4 : Int32} {u7 u8 : Value} {w : Nat → Int64} (hr : r < 10) (hw : ∀ k, k < 10 → V.2.2.2 38 k = w k) (E0 : md_ext h g) (hmd : md_at g W) (hq : stq V W) (he : e = 12 * r + c0) : ai_W MX12_given 233 [.ref 307, .int (nI r), .int rec, .int s3, .int s4, .int (nI (12 * r + c0)), .int (nI e), u7, u8] [] g (fun r g => md_ext h g ∧ (∃ W, md_at g W ∧ stq V W) ∧ r = some (.long (hld 0))) := by
  refine wq (fun _ _ kk => rs_iload (pc := 233) dX12_given_233 rfl kk) ?_
  refine wq (fun _ _ kk => rs_iload (pc := 235) dX12_given_235 rfl kk) ?_
  refine wq_br (fun _ _ kt kf => rs_icmp_ge (tgt := 262) (pc := 237) dX12_given_237 rfl kt kf) (fun c_237 => ?_) (fun c_237 => absurd c_237 (fun z => z (by rw [he, i32_le]; omega)))
  refine wq (fun _ _ kk => rs_lconst (v := 0) (pc := 262) dX12_given_262 rfl kk) ?_
  refine wq (fun _ _ kk => wk_lst7 (pc := 263) dX12_given_263 (by decide) rfl kk) ?_
  refine wq (fun _ _ kk => rs_lload (pc := 265) dX12_given_265 rfl kk) ?_
  refine wq (fun _ _ kk => rs_ldc2 (pc := 267) dX12_given_267 cnX12_386 kk) ?_
  refine wq_br (fun _ _ kt kf => wk_lcmp_ge (tgt := 280) (pc := 270) dX12_given_270 dX12_given_271 rfl kt kf) (fun c_270 => ?_) (fun c_270 => absurd c_270 (fun z => z (by decide)))
  refine wq (fun _ _ kk => rs_lload (pc := 280) dX12_given_280 rfl kk) ?_
  refine wq (fun _ _ kk => rs_ldc2 (pc := 282) dX12_given_282 cnX12_388 kk) ?_
  refine wq_br (fun _ _ kt kf => wk_lcmp_le (tgt := 295) (pc := 285) dX12_given_285 dX12_given_286 rfl kt kf) (fun c_285 => ?_) (fun c_285 => absurd c_285 (fun z => z (by decide)))
  refine wq (fun _ _ kk => rs_lload (pc := 295) dX12_given_295 rfl kk) ?_
  refine wq_ret ?_ (rs_lret (pc := 297) dX12_given_297 rfl)
  exact ⟨E0, ⟨W, hmd, hq⟩, rfl⟩
set_option maxRecDepth 100000 in
set_option maxHeartbeats 4000000 in
theorem s_X12_given {h g : ai_H} {V W : Md} {r c0 o e : Nat} {rec s3 s4 : Int32} {u7 u8 : Value} {w : Nat → Int64} (hr : r < 10) (hw : ∀ k, k < 10 → V.2.2.2 38 k = w k) (E0 : md_ext h g) (hmd : md_at g W) (hq : stq V W) {c : Cl} {v : Int64} (he : 12 * r + c0 < e) (hc12 : c0 < 12) (he2 : e ≤ 120) (ho : o + c.1.length ≤ 300) (m1 : V.2.2.1 34 (12 * r + c0) = nI o) (m2 : V.2.2.1 35 (12 * r + c0) = nI (o + c.1.length)) (hM : MT V r o c.1) (ht : tyL c.1 [] = some [false]) (hp : pcL c.1 ≤ 60) (hev : evL w c.1 [] = [v]) : ai_W MX12_given 233 [.ref 307, .int (nI r), .int rec, .int s3, .int s4, .int (nI (12 * r + c0)), .int (nI e), u7, u8] [] g (fun r g => md_ext h g ∧ (∃ W, md_at g W ∧ stq V W) ∧ r = some (.long (hld v))) := by
  refine wq (fun _ _ kk => rs_iload (pc := 233) dX12_given_233 rfl kk) ?_
  refine wq (fun _ _ kk => rs_iload (pc := 235) dX12_given_235 rfl kk) ?_
  refine wq_br (fun _ _ kt kf => rs_icmp_ge (tgt := 262) (pc := 237) dX12_given_237 rfl kt kf) (fun c_237 => absurd c_237 (fun z => by rw [i32_le, nI_toInt (by omega), nI_toInt (by omega)] at z; omega)) (fun c_237 => ?_)
  refine wq (fun _ _ kk => rs_aload_n (pc := 240) dX12_given_240 rfl kk) ?_
  refine wq (fun _ _ kk => rs_iload_n (pc := 241) dX12_given_241 rfl kk) ?_
  refine wq (fun _ _ kk => rs_aload_n (pc := 242) dX12_given_242 rfl kk) ?_
  refine wq (fun _ _ kk => rs_getf (pc := 243) dX12_given_243 fX12_71 (md_lt hmd (by decide)) hmd.2.1 rfl kk) ?_
  refine wq (fun _ _ kk => rs_iload (pc := 246) dX12_given_246 rfl kk) ?_
  refine wq (fun _ _ kk => rs_iald (pc := 248) dX12_given_248 (md_lt hmd (by decide)) (md_geti (d := 20) (k := 34) (kd := 0) (n := 120) rfl (by decide) hmd) (vp_in_nI (n := 12 * r + c0) (N := 120) (by omega) (by decide)) kk) ?_
  rw [nI_clamp (show 12 * r + c0 < 2 ^ 31 by omega), hq.1.2.2.1, m1]
  refine wq (fun _ _ kk => rs_aload_n (pc := 249) dX12_given_249 rfl kk) ?_
  refine wq (fun _ _ kk => rs_getf (pc := 250) dX12_given_250 fX12_74 (md_lt hmd (by decide)) hmd.2.1 rfl kk) ?_
  refine wq (fun _ _ kk => rs_iload (pc := 253) dX12_given_253 rfl kk) ?_
  refine wq (fun _ _ kk => rs_iald (pc := 255) dX12_given_255 (md_lt hmd (by decide)) (md_geti (d := 21) (k := 35) (kd := 0) (n := 120) rfl (by decide) hmd) (vp_in_nI (n := 12 * r + c0) (N := 120) (by omega) (by decide)) kk) ?_
  rw [nI_clamp (show 12 * r + c0 < 2 ^ 31 by omega), hq.1.2.2.1, m2]
  obtain ⟨rv_256, hc_256, ⟨ee_256, ⟨W2, hmd_256, hq2⟩, rfl⟩, hm_256⟩ := c_X12_answer (w := w) (v := v) hr ho (fun k hk => by rw [hq.2]; exact hw k hk) ht hp (fun k t hk => by rw [hq.1.2.2.1]; exact hM k t hk) hev hmd
  refine wq (fun _ _ kk => rs_callV (as := [_, _, _]) (pc := 256) dX12_given_256 mk_X12_answer mlX12_382 in_X12_answer se_X12_answer rfl (md_lt hmd (by decide)) hmd.2.1 rfl rfl (Nat.le_of_ble_eq_true rfl) (hm_256) kk) ?_
  replace hmd := hmd_256
  have E_256 := (E0).trans ee_256
  refine wq (fun _ _ kk => rs_goto (tgt := 263) (pc := 259) dX12_given_259 rfl kk) ?_
  refine wq (fun _ _ kk => wk_lst7 (pc := 263) dX12_given_263 (by decide) rfl kk) ?_
  refine wq (fun _ _ kk => rs_lload (pc := 265) dX12_given_265 rfl kk) ?_
  refine wq (fun _ _ kk => rs_ldc2 (pc := 267) dX12_given_267 cnX12_386 kk) ?_
  refine wq_br (fun _ _ kt kf => wk_lcmp_ge (tgt := 280) (pc := 270) dX12_given_270 dX12_given_271 rfl kt kf) (fun c_270 => ?_) (fun c_270 => ?_)
  · refine wq (fun _ _ kk => rs_lload (pc := 280) dX12_given_280 rfl kk) ?_
    refine wq (fun _ _ kk => rs_ldc2 (pc := 282) dX12_given_282 cnX12_388 kk) ?_
    refine wq_br (fun _ _ kt kf => wk_lcmp_le (tgt := 295) (pc := 285) dX12_given_285 dX12_given_286 rfl kt kf) (fun c_285 => ?_) (fun c_285 => ?_)
    · refine wq (fun _ _ kk => rs_lload (pc := 295) dX12_given_295 rfl kk) ?_
      refine wq_ret ?_ (rs_lret (pc := 297) dX12_given_297 rfl)
      exact ⟨E_256, ⟨W2, hmd, hq.trans hq2⟩, by unfold hld; first | rw [if_pos (i64_nle c_270)] | rw [if_neg (i64_le_n c_270), if_pos (i64_nle c_285)] | rw [if_neg (i64_le_n c_270), if_neg (i64_le_n c_285)]⟩
    · refine wq (fun _ _ kk => rs_ldc2 (pc := 289) dX12_given_289 cnX12_388 kk) ?_
      refine wq (fun _ _ kk => rs_goto (tgt := 297) (pc := 292) dX12_given_292 rfl kk) ?_
      refine wq_ret ?_ (rs_lret (pc := 297) dX12_given_297 rfl)
      exact ⟨E_256, ⟨W2, hmd, hq.trans hq2⟩, by unfold hld; first | rw [if_pos (i64_nle c_270)] | rw [if_neg (i64_le_n c_270), if_pos (i64_nle c_285)] | rw [if_neg (i64_le_n c_270), if_neg (i64_le_n c_285)]⟩
  · refine wq (fun _ _ kk => rs_ldc2 (pc := 274) dX12_given_274 cnX12_386 kk) ?_
    refine wq (fun _ _ kk => rs_goto (tgt := 297) (pc := 277) dX12_given_277 rfl kk) ?_
    refine wq_ret ?_ (rs_lret (pc := 297) dX12_given_297 rfl)
    exact ⟨E_256, ⟨W2, hmd, hq.trans hq2⟩, by unfold hld; first | rw [if_pos (i64_nle c_270)] | rw [if_neg (i64_le_n c_270), if_pos (i64_nle c_285)] | rw [if_neg (i64_le_n c_270), if_neg (i64_le_n c_285)]⟩
set_option maxRecDepth 100000 in
set_option maxHeartbeats 4000000 in
theorem l_X12_given {h : ai_H} {V : Md} {r e : Nat} {rec s3 s4 : Int32} {w : Nat → Int64} (hr : r < 10) (hw : ∀ k, k < 10 → V.2.2.2 38 k = w k) : ∀ (D : List Cl) (c0 o : Nat) (u7 u8 : Value) (W : Md) (g : ai_H), (∀ c, c ∈ D → cl_w c) → pcL (ent D) ≤ 60 → c0 + D.length ≤ 12 → o + (ent D).length ≤ 300 → e = 12 * r + c0 + D.length → MC V r c0 o D → md_ext h g → md_at g W → stq V W → ai_W MX12_given 179 [.ref 307, .int (nI r), .int rec, .int s3, .int s4, .int (nI (12 * r + c0)), .int (nI e), u7, u8] [] g (fun r g => md_ext h g ∧ (∃ W, md_at g W ∧ stq V W) ∧ r = some (.long (hld (lwv w D)))) := by
  intro D
  induction D with
  | nil =>
    intro c0 o u7 u8 W g _ _ _ _ hee _ E0 hmd hq
    have hee : e = 12 * r + c0 := hee
    subst hee
    refine wq (fun _ _ kk => rs_iload (pc := 179) dX12_given_179 rfl kk) ?_
    refine wq (fun _ _ kk => rs_iload (pc := 181) dX12_given_181 rfl kk) ?_
    refine wq_br (fun _ _ kt kf => rs_icmp_ge (tgt := 233) (pc := 183) dX12_given_183 rfl kt kf) (fun c_183 => ?_) (fun c_183 => absurd c_183 (fun z => z (by rw [i32_le]; omega)))
    exact z_X12_given (o := o) hr hw E0 hmd hq rfl
  | cons c D ih =>
    intro c0 o u7 u8 W g hC hp hc12 ho hee hM E0 hmd hq
    obtain ⟨m1, m2, m3, m4, m5, m6⟩ := hM
    obtain ⟨w1, w2⟩ := hC c List.mem_cons_self
    rw [ent, pcL_app, pcL_app] at hp
    rw [ent, List.length_append, List.length_append] at ho
    rw [List.length_cons] at hee hc12
    refine wq (fun _ _ kk => rs_iload (pc := 179) dX12_given_179 rfl kk) ?_
    refine wq (fun _ _ kk => rs_iload (pc := 181) dX12_given_181 rfl kk) ?_
    refine wq_br (fun _ _ kt kf => rs_icmp_ge (tgt := 233) (pc := 183) dX12_given_183 rfl kt kf) (fun c_183 => absurd c_183 (fun z => by rw [i32_le, nI_toInt (by omega), nI_toInt (by omega)] at z; omega)) (fun c_183 => ?_)
    refine wq (fun _ _ kk => rs_aload_n (pc := 186) dX12_given_186 rfl kk) ?_
    refine wq (fun _ _ kk => rs_getf (pc := 187) dX12_given_187 fX12_74 (md_lt hmd (by decide)) hmd.2.1 rfl kk) ?_
    refine wq (fun _ _ kk => rs_iload (pc := 190) dX12_given_190 rfl kk) ?_
    refine wq (fun _ _ kk => rs_iald (pc := 192) dX12_given_192 (md_lt hmd (by decide)) (md_geti (d := 21) (k := 35) (kd := 0) (n := 120) rfl (by decide) hmd) (vp_in_nI (n := 12 * r + c0) (N := 120) (by omega) (by decide)) kk) ?_
    rw [nI_clamp (show 12 * r + c0 < 2 ^ 31 by omega), hq.1.2.2.1, m2]
    refine wq (fun _ _ kk => rs_aload_n (pc := 193) dX12_given_193 rfl kk) ?_
    refine wq (fun _ _ kk => rs_getf (pc := 194) dX12_given_194 fX12_77 (md_lt hmd (by decide)) hmd.2.1 rfl kk) ?_
    refine wq (fun _ _ kk => rs_iload (pc := 197) dX12_given_197 rfl kk) ?_
    refine wq (fun _ _ kk => rs_iald (pc := 199) dX12_given_199 (md_lt hmd (by decide)) (md_geti (d := 22) (k := 36) (kd := 0) (n := 120) rfl (by decide) hmd) (vp_in_nI (n := 12 * r + c0) (N := 120) (by omega) (by decide)) kk) ?_
    rw [nI_clamp (show 12 * r + c0 < 2 ^ 31 by omega), hq.1.2.2.1, m3]
    refine wq_br (fun _ _ kt kf => rs_icmp_ge (tgt := 233) (pc := 200) dX12_given_200 rfl kt kf) (fun c_200 => ?_) (fun c_200 => ?_)
    · rw [i32_le, nI_toInt (by omega), nI_toInt (by omega)] at c_200
      have hem : c.2 = [] := List.length_eq_zero_iff.1 (by omega)
      obtain ⟨v, ev, -⟩ := one_t (evL_vt (w := w) (x := []) w1 trivial)
      rw [show lwv w (c :: D) = v from by rw [lwv, if_pos hem, ev]; rfl]
      exact s_X12_given (c := c) hr hw E0 hmd hq (by omega) (by omega) (by omega) (by omega) m1 m2 m4 w1 (by omega) ev
    · rw [i32_le, nI_toInt (by omega), nI_toInt (by omega)] at c_200
      refine wq (fun _ _ kk => rs_aload_n (pc := 203) dX12_given_203 rfl kk) ?_
      refine wq (fun _ _ kk => rs_iload_n (pc := 204) dX12_given_204 rfl kk) ?_
      refine wq (fun _ _ kk => rs_aload_n (pc := 205) dX12_given_205 rfl kk) ?_
      refine wq (fun _ _ kk => rs_getf (pc := 206) dX12_given_206 fX12_74 (md_lt hmd (by decide)) hmd.2.1 rfl kk) ?_
      refine wq (fun _ _ kk => rs_iload (pc := 209) dX12_given_209 rfl kk) ?_
      refine wq (fun _ _ kk => rs_iald (pc := 211) dX12_given_211 (md_lt hmd (by decide)) (md_geti (d := 21) (k := 35) (kd := 0) (n := 120) rfl (by decide) hmd) (vp_in_nI (n := 12 * r + c0) (N := 120) (by omega) (by decide)) kk) ?_
      rw [nI_clamp (show 12 * r + c0 < 2 ^ 31 by omega), hq.1.2.2.1, m2]
      refine wq (fun _ _ kk => rs_aload_n (pc := 212) dX12_given_212 rfl kk) ?_
      refine wq (fun _ _ kk => rs_getf (pc := 213) dX12_given_213 fX12_77 (md_lt hmd (by decide)) hmd.2.1 rfl kk) ?_
      refine wq (fun _ _ kk => rs_iload (pc := 216) dX12_given_216 rfl kk) ?_
      refine wq (fun _ _ kk => rs_iald (pc := 218) dX12_given_218 (md_lt hmd (by decide)) (md_geti (d := 22) (k := 36) (kd := 0) (n := 120) rfl (by decide) hmd) (vp_in_nI (n := 12 * r + c0) (N := 120) (by omega) (by decide)) kk) ?_
      rw [nI_clamp (show 12 * r + c0 < 2 ^ 31 by omega), hq.1.2.2.1, m3]
      have hne : ¬ c.2 = [] := fun z => c_200 (by rw [z, List.length_nil]; omega)
      have w2 := w2.resolve_left hne
      obtain ⟨t, et, h01⟩ := one_t (evL_vt (w := w) (x := []) w2 trivial)
      obtain ⟨rv_219, hc_219, ⟨ee_219, ⟨W2, hmd_219, hq2⟩, rfl⟩, hm_219⟩ := c_X12_answer (o := o + c.1.length) (L := c.2) (w := w) (v := t) hr (by omega) (fun k hk => by rw [hq.2]; exact hw k hk) w2 (by omega) (fun k t hk => by rw [hq.1.2.2.1]; exact m5 k t hk) et hmd
      refine wq (fun _ _ kk => rs_callV (as := [_, _, _]) (pc := 219) dX12_given_219 mk_X12_answer mlX12_382 in_X12_answer se_X12_answer rfl (md_lt hmd (by decide)) hmd.2.1 rfl rfl (Nat.le_of_ble_eq_true rfl) (hm_219) kk) ?_
      replace hmd := hmd_219
      have E_219 := (E0).trans ee_219
      refine wq (fun _ _ kk => rs_lconst (v := 1) (pc := 222) dX12_given_222 rfl kk) ?_
      refine wq_br (fun _ _ kt kf => wk_lcmp_eq (tgt := 233) (pc := 223) dX12_given_223 dX12_given_224 rfl kt kf) (fun c_223 => ?_) (fun c_223 => ?_)
      · obtain ⟨v, ev, -⟩ := one_t (evL_vt (w := w) (x := []) w1 trivial)
        rw [show lwv w (c :: D) = v from by rw [lwv, if_neg hne, et, ev]; exact if_pos c_223]
        exact s_X12_given (c := c) hr hw E_219 hmd (hq.trans hq2) (by omega) (by omega) (by omega) (by omega) m1 m2 m4 w1 (by omega) ev
      · refine wq (fun _ _ kk => wk_iinc5 (v := nI (12 * r + (c0 + 1))) (pc := 227) dX12_given_227 (by decide) rfl (nI_1 (12 * r + c0)) kk) ?_
        refine wq (fun _ _ kk => rs_goto (tgt := 179) (pc := 230) dX12_given_230 rfl kk) ?_
        have := ih (c0 + 1) (o + c.1.length + c.2.length) u7 u8 W2 _ (fun d hd => hC d (List.mem_cons_of_mem _ hd)) (by omega) (by omega) (by omega) (by omega) m6 E_219 hmd (hq.trans hq2)
        rw [show lwv w (c :: D) = lwv w D from by rw [lwv, if_neg hne, et]; exact if_neg c_223]
        exact this
theorem yr_is {x : Int32} (h1 : 0 ≤ x.toInt) (h2 : x.toInt ≤ 9999) : bi_fdI x 52 = x / 52 := by
  rw [← aI_to x, show (52 : Int32) = aI 52 from rfl, aI_fd (by omega) (by omega) (by omega) (by omega), aI_quo (by omega) (by omega) (by omega) (by omega)]
set_option maxRecDepth 100000 in
set_option maxHeartbeats 4000000 in
theorem c_X12_given {h : ai_H} {V : Md} {B : Bk} {ln r i : Nat} {C : List Cl} (hok : bk_ok B ln) (hRV : RB B V) (hr : r < 10) (hi : i < nR B) (hC : lwOK C) (hML : ML V r C) (hmd : md_at h V) : ai_QM MX12_given [.ref 307, .int (nI r), .int (nI i)] h (fun r g => md_ext h g ∧ (∃ W, md_at g W ∧ gvq V W) ∧ r = some (.long (hld (lwv (bkw B (nI i)) C)))) := by
  have hr4 := hok.2.2.2.2.1.2.1
  have hs24 := hok.2.2.1.2.1
  have hn80 := hok.2.2.2.1.2.1
  have hn16 := hok.2.1.2.1
  obtain ⟨k1, k2, k3, k4, -, -, k7, k8, -⟩ := hok.2.2.2.2.1.2.2 i hi
  obtain ⟨n, hn, en⟩ := i32_ex k1 k2
  obtain ⟨s, hs, es⟩ := i32_ex k3 k4
  obtain ⟨o, ho, eo⟩ := i32_ex k7 k8
  obtain ⟨q1, q2, q3, q4, q5, -⟩ := hRV.2.2.2.2.1 i hi
  obtain ⟨s1, s2, s3⟩ := hRV.2.2.1 s hs
  obtain ⟨n1, n2⟩ := hRV.2.2.2.1 n hn
  obtain ⟨o1, -⟩ := hRV.2.1 o ho
  obtain ⟨-, -, hn3, hn4⟩ := hok.2.2.2.1.2.2 n hn
  refine qm_of (ls := [.ref 307, .int (nI r), .int (nI i), .float 0, .float 0, .float 0, .float 0, .float 0, .float 0]) (by decide) (by simp [ai_en, Value.category]) (by rfl) ?_
  refine wq (fun _ _ kk => rs_aload_n (pc := 0) dX12_given_0 rfl kk) ?_
  refine wq (fun _ _ kk => rs_getf (pc := 1) dX12_given_1 fX12_34 (md_lt hmd (by decide)) hmd.2.1 rfl kk) ?_
  refine wq (fun _ _ kk => rs_iload_n (pc := 4) dX12_given_4 rfl kk) ?_
  refine wq (fun _ _ kk => rs_iald (pc := 5) dX12_given_5 (md_lt hmd (by decide)) (md_geti (d := 8) (k := 14) (kd := 0) (n := 400) rfl (by decide) hmd) (vp_in_nI (n := i) (N := 400) (by omega) (by decide)) kk) ?_
  rw [nI_clamp (show i < 2 ^ 31 by omega), q2, es]
  refine wq (fun _ _ kk => wk_istn3 (pc := 6) dX12_given_6 (by decide) rfl kk) ?_
  refine wq (fun _ _ kk => rs_aload_n (pc := 7) dX12_given_7 rfl kk) ?_
  refine wq (fun _ _ kk => rs_getf (pc := 8) dX12_given_8 fX12_28 (md_lt hmd (by decide)) hmd.2.1 rfl kk) ?_
  refine wq (fun _ _ kk => rs_aload_n (pc := 11) dX12_given_11 rfl kk) ?_
  refine wq (fun _ _ kk => rs_getf (pc := 12) dX12_given_12 fX12_31 (md_lt hmd (by decide)) hmd.2.1 rfl kk) ?_
  refine wq (fun _ _ kk => rs_iload_n (pc := 15) dX12_given_15 rfl kk) ?_
  refine wq (fun _ _ kk => rs_iald (pc := 16) dX12_given_16 (md_lt hmd (by decide)) (md_geti (d := 7) (k := 13) (kd := 0) (n := 400) rfl (by decide) hmd) (vp_in_nI (n := i) (N := 400) (by omega) (by decide)) kk) ?_
  rw [nI_clamp (show i < 2 ^ 31 by omega), q1, en]
  refine wq (fun _ _ kk => rs_iald (pc := 17) dX12_given_17 (md_lt hmd (by decide)) (md_geti (d := 6) (k := 12) (kd := 0) (n := 80) rfl (by decide) hmd) (vp_in_nI (n := n) (N := 80) (by omega) (by decide)) kk) ?_
  rw [nI_clamp (show n < 2 ^ 31 by omega), n2]
  refine wq (fun _ _ kk => wk_ist4 (pc := 18) dX12_given_18 (by decide) rfl kk) ?_
  refine wq (fun _ _ kk => rs_aload_n (pc := 20) dX12_given_20 rfl kk) ?_
  refine wq (fun _ _ kk => rs_getf (pc := 21) dX12_given_21 fX12_83 (md_lt hmd (by decide)) hmd.2.1 rfl kk) ?_
  refine wq (fun _ _ kk => rs_iconst (v := 0) (pc := 24) dX12_given_24 rfl kk) ?_
  refine wq (fun _ _ kk => rs_aload_n (pc := 25) dX12_given_25 rfl kk) ?_
  refine wq (fun _ _ kk => rs_getf (pc := 26) dX12_given_26 fX12_16 (md_lt hmd (by decide)) hmd.2.1 rfl kk) ?_
  refine wq (fun _ _ kk => rs_iload_n (pc := 29) dX12_given_29 rfl kk) ?_
  refine wq (fun _ _ kk => rs_iald (pc := 30) dX12_given_30 (md_lt hmd (by decide)) (md_geti (d := 2) (k := 8) (kd := 0) (n := 24) rfl (by decide) hmd) (vp_in_nI (n := s) (N := 24) (by omega) (by decide)) kk) ?_
  rw [nI_clamp (show s < 2 ^ 31 by omega), s1]
  refine wq (fun _ _ kk => rs_i2l (pc := 31) dX12_given_31 kk) ?_
  refine wq (fun _ _ kk => rs_last (pc := 32) dX12_given_32 (md_lt hmd (by decide)) (md_getl (d := 24) (k := 38) (kd := 1) (n := 10) rfl (by decide) hmd) (vp_in_nI (n := 0) (N := 10) (by decide) (by decide)) kk) ?_
  refine wq_gen (fun h_1 e_1 => ?_)
  obtain ⟨m_1, s_1, g_1, o_1⟩ := ai_e1 e_1
  replace hmd := md_at_al (d := 24) rfl (by decide) hmd m_1 g_1 o_1
  have E_1 := (md_ext.rf).trans (md_ext_of m_1 s_1 o_1 (by decide))
  refine wq (fun _ _ kk => rs_aload_n (pc := 33) dX12_given_33 rfl kk) ?_
  refine wq (fun _ _ kk => rs_getf (pc := 34) dX12_given_34 fX12_83 (md_lt hmd (by decide)) hmd.2.1 rfl kk) ?_
  refine wq (fun _ _ kk => rs_iconst (v := 1) (pc := 37) dX12_given_37 rfl kk) ?_
  refine wq (fun _ _ kk => rs_aload_n (pc := 38) dX12_given_38 rfl kk) ?_
  refine wq (fun _ _ kk => rs_getf (pc := 39) dX12_given_39 fX12_19 (md_lt hmd (by decide)) hmd.2.1 rfl kk) ?_
  refine wq (fun _ _ kk => rs_iload_n (pc := 42) dX12_given_42 rfl kk) ?_
  refine wq (fun _ _ kk => rs_iald (pc := 43) dX12_given_43 (md_lt hmd (by decide)) (md_geti (d := 3) (k := 9) (kd := 0) (n := 24) rfl (by decide) hmd) (vp_in_nI (n := s) (N := 24) (by omega) (by decide)) kk) ?_
  rw [nI_clamp (show s < 2 ^ 31 by omega)]
  repeat rw [md_al_i]
  rw [s2]
  refine wq (fun _ _ kk => rs_i2l (pc := 44) dX12_given_44 kk) ?_
  refine wq (fun _ _ kk => rs_last (pc := 45) dX12_given_45 (md_lt hmd (by decide)) (md_getl (d := 24) (k := 38) (kd := 1) (n := 10) rfl (by decide) hmd) (vp_in_nI (n := 1) (N := 10) (by decide) (by decide)) kk) ?_
  refine wq_gen (fun h_2 e_2 => ?_)
  obtain ⟨m_2, s_2, g_2, o_2⟩ := ai_e1 e_2
  replace hmd := md_at_al (d := 24) rfl (by decide) hmd m_2 g_2 o_2
  have E_2 := (E_1).trans (md_ext_of m_2 s_2 o_2 (by decide))
  refine wq (fun _ _ kk => rs_aload_n (pc := 46) dX12_given_46 rfl kk) ?_
  refine wq (fun _ _ kk => rs_getf (pc := 47) dX12_given_47 fX12_83 (md_lt hmd (by decide)) hmd.2.1 rfl kk) ?_
  refine wq (fun _ _ kk => rs_iconst (v := 2) (pc := 50) dX12_given_50 rfl kk) ?_
  refine wq (fun _ _ kk => rs_aload_n (pc := 51) dX12_given_51 rfl kk) ?_
  refine wq (fun _ _ kk => rs_getf (pc := 52) dX12_given_52 fX12_22 (md_lt hmd (by decide)) hmd.2.1 rfl kk) ?_
  refine wq (fun _ _ kk => rs_iload_n (pc := 55) dX12_given_55 rfl kk) ?_
  refine wq (fun _ _ kk => rs_iald (pc := 56) dX12_given_56 (md_lt hmd (by decide)) (md_geti (d := 4) (k := 10) (kd := 0) (n := 24) rfl (by decide) hmd) (vp_in_nI (n := s) (N := 24) (by omega) (by decide)) kk) ?_
  rw [nI_clamp (show s < 2 ^ 31 by omega)]
  repeat rw [md_al_i]
  rw [s3]
  refine wq (fun _ _ kk => rs_i2l (pc := 57) dX12_given_57 kk) ?_
  refine wq (fun _ _ kk => rs_last (pc := 58) dX12_given_58 (md_lt hmd (by decide)) (md_getl (d := 24) (k := 38) (kd := 1) (n := 10) rfl (by decide) hmd) (vp_in_nI (n := 2) (N := 10) (by decide) (by decide)) kk) ?_
  refine wq_gen (fun h_3 e_3 => ?_)
  obtain ⟨m_3, s_3, g_3, o_3⟩ := ai_e1 e_3
  replace hmd := md_at_al (d := 24) rfl (by decide) hmd m_3 g_3 o_3
  have E_3 := (E_2).trans (md_ext_of m_3 s_3 o_3 (by decide))
  refine wq (fun _ _ kk => rs_aload_n (pc := 59) dX12_given_59 rfl kk) ?_
  refine wq (fun _ _ kk => rs_getf (pc := 60) dX12_given_60 fX12_83 (md_lt hmd (by decide)) hmd.2.1 rfl kk) ?_
  refine wq (fun _ _ kk => rs_iconst (v := 3) (pc := 63) dX12_given_63 rfl kk) ?_
  refine wq (fun _ _ kk => rs_iload_n (pc := 64) dX12_given_64 rfl kk) ?_
  refine wq (fun _ _ kk => rs_i2l (pc := 65) dX12_given_65 kk) ?_
  refine wq (fun _ _ kk => rs_last (pc := 66) dX12_given_66 (md_lt hmd (by decide)) (md_getl (d := 24) (k := 38) (kd := 1) (n := 10) rfl (by decide) hmd) (vp_in_nI (n := 3) (N := 10) (by decide) (by decide)) kk) ?_
  refine wq_gen (fun h_4 e_4 => ?_)
  obtain ⟨m_4, s_4, g_4, o_4⟩ := ai_e1 e_4
  replace hmd := md_at_al (d := 24) rfl (by decide) hmd m_4 g_4 o_4
  have E_4 := (E_3).trans (md_ext_of m_4 s_4 o_4 (by decide))
  refine wq (fun _ _ kk => rs_aload_n (pc := 67) dX12_given_67 rfl kk) ?_
  refine wq (fun _ _ kk => rs_getf (pc := 68) dX12_given_68 fX12_83 (md_lt hmd (by decide)) hmd.2.1 rfl kk) ?_
  refine wq (fun _ _ kk => rs_iconst (v := 4) (pc := 71) dX12_given_71 rfl kk) ?_
  refine wq (fun _ _ kk => rs_aload_n (pc := 72) dX12_given_72 rfl kk) ?_
  refine wq (fun _ _ kk => rs_getf (pc := 73) dX12_given_73 fX12_37 (md_lt hmd (by decide)) hmd.2.1 rfl kk) ?_
  refine wq (fun _ _ kk => rs_iload_n (pc := 76) dX12_given_76 rfl kk) ?_
  refine wq (fun _ _ kk => rs_iald (pc := 77) dX12_given_77 (md_lt hmd (by decide)) (md_geti (d := 9) (k := 15) (kd := 0) (n := 400) rfl (by decide) hmd) (vp_in_nI (n := i) (N := 400) (by omega) (by decide)) kk) ?_
  rw [nI_clamp (show i < 2 ^ 31 by omega)]
  repeat rw [md_al_i]
  rw [q3]
  refine wq (fun _ _ kk => rs_i2l (pc := 78) dX12_given_78 kk) ?_
  refine wq (fun _ _ kk => rs_last (pc := 79) dX12_given_79 (md_lt hmd (by decide)) (md_getl (d := 24) (k := 38) (kd := 1) (n := 10) rfl (by decide) hmd) (vp_in_nI (n := 4) (N := 10) (by decide) (by decide)) kk) ?_
  refine wq_gen (fun h_5 e_5 => ?_)
  obtain ⟨m_5, s_5, g_5, o_5⟩ := ai_e1 e_5
  replace hmd := md_at_al (d := 24) rfl (by decide) hmd m_5 g_5 o_5
  have E_5 := (E_4).trans (md_ext_of m_5 s_5 o_5 (by decide))
  refine wq (fun _ _ kk => rs_aload_n (pc := 80) dX12_given_80 rfl kk) ?_
  refine wq (fun _ _ kk => rs_getf (pc := 81) dX12_given_81 fX12_83 (md_lt hmd (by decide)) hmd.2.1 rfl kk) ?_
  refine wq (fun _ _ kk => rs_iconst (v := 5) (pc := 84) dX12_given_84 rfl kk) ?_
  refine wq (fun _ _ kk => rs_aload_n (pc := 85) dX12_given_85 rfl kk) ?_
  refine wq (fun _ _ kk => rs_getf (pc := 86) dX12_given_86 fX12_43 (md_lt hmd (by decide)) hmd.2.1 rfl kk) ?_
  refine wq (fun _ _ kk => rs_iload_n (pc := 89) dX12_given_89 rfl kk) ?_
  refine wq (fun _ _ kk => rs_iald (pc := 90) dX12_given_90 (md_lt hmd (by decide)) (md_geti (d := 11) (k := 17) (kd := 0) (n := 400) rfl (by decide) hmd) (vp_in_nI (n := i) (N := 400) (by omega) (by decide)) kk) ?_
  rw [nI_clamp (show i < 2 ^ 31 by omega)]
  repeat rw [md_al_i]
  rw [q5]
  refine wq (fun _ _ kk => rs_i2l (pc := 91) dX12_given_91 kk) ?_
  refine wq (fun _ _ kk => rs_last (pc := 92) dX12_given_92 (md_lt hmd (by decide)) (md_getl (d := 24) (k := 38) (kd := 1) (n := 10) rfl (by decide) hmd) (vp_in_nI (n := 5) (N := 10) (by decide) (by decide)) kk) ?_
  refine wq_gen (fun h_6 e_6 => ?_)
  obtain ⟨m_6, s_6, g_6, o_6⟩ := ai_e1 e_6
  replace hmd := md_at_al (d := 24) rfl (by decide) hmd m_6 g_6 o_6
  have E_6 := (E_5).trans (md_ext_of m_6 s_6 o_6 (by decide))
  refine wq (fun _ _ kk => rs_aload_n (pc := 93) dX12_given_93 rfl kk) ?_
  refine wq (fun _ _ kk => rs_getf (pc := 94) dX12_given_94 fX12_83 (md_lt hmd (by decide)) hmd.2.1 rfl kk) ?_
  refine wq (fun _ _ kk => rs_bipush (v := 6) (pc := 97) dX12_given_97 rfl kk) ?_
  refine wq (fun _ _ kk => rs_iload (pc := 99) dX12_given_99 rfl kk) ?_
  refine wq (fun _ _ kk => rs_i2l (pc := 101) dX12_given_101 kk) ?_
  refine wq (fun _ _ kk => rs_last (pc := 102) dX12_given_102 (md_lt hmd (by decide)) (md_getl (d := 24) (k := 38) (kd := 1) (n := 10) rfl (by decide) hmd) (vp_in_nI (n := 6) (N := 10) (by decide) (by decide)) kk) ?_
  refine wq_gen (fun h_7 e_7 => ?_)
  obtain ⟨m_7, s_7, g_7, o_7⟩ := ai_e1 e_7
  replace hmd := md_at_al (d := 24) rfl (by decide) hmd m_7 g_7 o_7
  have E_7 := (E_6).trans (md_ext_of m_7 s_7 o_7 (by decide))
  refine wq (fun _ _ kk => rs_aload_n (pc := 103) dX12_given_103 rfl kk) ?_
  refine wq (fun _ _ kk => rs_getf (pc := 104) dX12_given_104 fX12_83 (md_lt hmd (by decide)) hmd.2.1 rfl kk) ?_
  refine wq (fun _ _ kk => rs_bipush (v := 7) (pc := 107) dX12_given_107 rfl kk) ?_
  refine wq (fun _ _ kk => rs_iload (pc := 109) dX12_given_109 rfl kk) ?_
  refine wq (fun _ _ kk => rs_bipush (v := 52) (pc := 111) dX12_given_111 rfl kk) ?_
  refine wq (fun _ _ kk => rs_idiv (pc := 113) dX12_given_113 (by decide) kk) ?_
  refine wq (fun _ _ kk => rs_i2l (pc := 114) dX12_given_114 kk) ?_
  refine wq (fun _ _ kk => rs_last (pc := 115) dX12_given_115 (md_lt hmd (by decide)) (md_getl (d := 24) (k := 38) (kd := 1) (n := 10) rfl (by decide) hmd) (vp_in_nI (n := 7) (N := 10) (by decide) (by decide)) kk) ?_
  refine wq_gen (fun h_8 e_8 => ?_)
  obtain ⟨m_8, s_8, g_8, o_8⟩ := ai_e1 e_8
  replace hmd := md_at_al (d := 24) rfl (by decide) hmd m_8 g_8 o_8
  have E_8 := (E_7).trans (md_ext_of m_8 s_8 o_8 (by decide))
  refine wq (fun _ _ kk => rs_aload_n (pc := 116) dX12_given_116 rfl kk) ?_
  refine wq (fun _ _ kk => rs_getf (pc := 117) dX12_given_117 fX12_83 (md_lt hmd (by decide)) hmd.2.1 rfl kk) ?_
  refine wq (fun _ _ kk => rs_bipush (v := 8) (pc := 120) dX12_given_120 rfl kk) ?_
  refine wq (fun _ _ kk => rs_aload_n (pc := 122) dX12_given_122 rfl kk) ?_
  refine wq (fun _ _ kk => rs_getf (pc := 123) dX12_given_123 fX12_25 (md_lt hmd (by decide)) hmd.2.1 rfl kk) ?_
  refine wq (fun _ _ kk => rs_aload_n (pc := 126) dX12_given_126 rfl kk) ?_
  refine wq (fun _ _ kk => rs_getf (pc := 127) dX12_given_127 fX12_31 (md_lt hmd (by decide)) hmd.2.1 rfl kk) ?_
  refine wq (fun _ _ kk => rs_iload_n (pc := 130) dX12_given_130 rfl kk) ?_
  refine wq (fun _ _ kk => rs_iald (pc := 131) dX12_given_131 (md_lt hmd (by decide)) (md_geti (d := 7) (k := 13) (kd := 0) (n := 400) rfl (by decide) hmd) (vp_in_nI (n := i) (N := 400) (by omega) (by decide)) kk) ?_
  rw [nI_clamp (show i < 2 ^ 31 by omega)]
  repeat rw [md_al_i]
  rw [q1, en]
  refine wq (fun _ _ kk => rs_iald (pc := 132) dX12_given_132 (md_lt hmd (by decide)) (md_geti (d := 5) (k := 11) (kd := 0) (n := 80) rfl (by decide) hmd) (vp_in_nI (n := n) (N := 80) (by omega) (by decide)) kk) ?_
  rw [nI_clamp (show n < 2 ^ 31 by omega)]
  repeat rw [md_al_i]
  rw [n1]
  refine wq (fun _ _ kk => rs_i2l (pc := 133) dX12_given_133 kk) ?_
  refine wq (fun _ _ kk => rs_last (pc := 134) dX12_given_134 (md_lt hmd (by decide)) (md_getl (d := 24) (k := 38) (kd := 1) (n := 10) rfl (by decide) hmd) (vp_in_nI (n := 8) (N := 10) (by decide) (by decide)) kk) ?_
  refine wq_gen (fun h_9 e_9 => ?_)
  obtain ⟨m_9, s_9, g_9, o_9⟩ := ai_e1 e_9
  replace hmd := md_at_al (d := 24) rfl (by decide) hmd m_9 g_9 o_9
  have E_9 := (E_8).trans (md_ext_of m_9 s_9 o_9 (by decide))
  refine wq (fun _ _ kk => rs_aload_n (pc := 135) dX12_given_135 rfl kk) ?_
  refine wq (fun _ _ kk => rs_getf (pc := 136) dX12_given_136 fX12_83 (md_lt hmd (by decide)) hmd.2.1 rfl kk) ?_
  refine wq (fun _ _ kk => rs_bipush (v := 9) (pc := 139) dX12_given_139 rfl kk) ?_
  refine wq (fun _ _ kk => rs_iload (pc := 141) dX12_given_141 rfl kk) ?_
  refine wq (fun _ _ kk => rs_aload_n (pc := 143) dX12_given_143 rfl kk) ?_
  refine wq (fun _ _ kk => rs_getf (pc := 144) dX12_given_144 fX12_9 (md_lt hmd (by decide)) hmd.2.1 rfl kk) ?_
  refine wq (fun _ _ kk => rs_aload_n (pc := 147) dX12_given_147 rfl kk) ?_
  refine wq (fun _ _ kk => rs_getf (pc := 148) dX12_given_148 fX12_40 (md_lt hmd (by decide)) hmd.2.1 rfl kk) ?_
  refine wq (fun _ _ kk => rs_iload_n (pc := 151) dX12_given_151 rfl kk) ?_
  refine wq (fun _ _ kk => rs_iald (pc := 152) dX12_given_152 (md_lt hmd (by decide)) (md_geti (d := 10) (k := 16) (kd := 0) (n := 400) rfl (by decide) hmd) (vp_in_nI (n := i) (N := 400) (by omega) (by decide)) kk) ?_
  rw [nI_clamp (show i < 2 ^ 31 by omega)]
  repeat rw [md_al_i]
  rw [q4, eo]
  refine wq (fun _ _ kk => rs_iald (pc := 153) dX12_given_153 (md_lt hmd (by decide)) (md_geti (d := 0) (k := 6) (kd := 0) (n := 16) rfl (by decide) hmd) (vp_in_nI (n := o) (N := 16) (by omega) (by decide)) kk) ?_
  rw [nI_clamp (show o < 2 ^ 31 by omega)]
  repeat rw [md_al_i]
  rw [o1]
  refine wq (fun _ _ kk => rs_isub (pc := 154) dX12_given_154 kk) ?_
  refine wq (fun _ _ kk => rs_bipush (v := 52) (pc := 155) dX12_given_155 rfl kk) ?_
  refine wq (fun _ _ kk => rs_idiv (pc := 157) dX12_given_157 (by decide) kk) ?_
  refine wq (fun _ _ kk => rs_i2l (pc := 158) dX12_given_158 kk) ?_
  refine wq (fun _ _ kk => rs_last (pc := 159) dX12_given_159 (md_lt hmd (by decide)) (md_getl (d := 24) (k := 38) (kd := 1) (n := 10) rfl (by decide) hmd) (vp_in_nI (n := 9) (N := 10) (by decide) (by decide)) kk) ?_
  refine wq_gen (fun h_10 e_10 => ?_)
  obtain ⟨m_10, s_10, g_10, o_10⟩ := ai_e1 e_10
  replace hmd := md_at_al (d := 24) rfl (by decide) hmd m_10 g_10 o_10
  have E_10 := (E_9).trans (md_ext_of m_10 s_10 o_10 (by decide))
  refine wq (fun _ _ kk => rs_bipush (v := 12) (pc := 160) dX12_given_160 rfl kk) ?_
  refine wq (fun _ _ kk => rs_iload_n (pc := 162) dX12_given_162 rfl kk) ?_
  refine wq (fun _ _ kk => rs_imul (pc := 163) dX12_given_163 kk) ?_
  rw [show (12 : Int32) * nI r = nI (12 * r) from pk_mul 12 r]
  refine wq (fun _ _ kk => wk_ist5 (pc := 164) dX12_given_164 (by decide) rfl kk) ?_
  refine wq (fun _ _ kk => rs_bipush (v := 12) (pc := 166) dX12_given_166 rfl kk) ?_
  refine wq (fun _ _ kk => rs_iload_n (pc := 168) dX12_given_168 rfl kk) ?_
  refine wq (fun _ _ kk => rs_imul (pc := 169) dX12_given_169 kk) ?_
  rw [show (12 : Int32) * nI r = nI (12 * r) from pk_mul 12 r]
  refine wq (fun _ _ kk => rs_aload_n (pc := 170) dX12_given_170 rfl kk) ?_
  refine wq (fun _ _ kk => rs_getf (pc := 171) dX12_given_171 fX12_68 (md_lt hmd (by decide)) hmd.2.1 rfl kk) ?_
  refine wq (fun _ _ kk => rs_iload_n (pc := 174) dX12_given_174 rfl kk) ?_
  refine wq (fun _ _ kk => rs_iald (pc := 175) dX12_given_175 (md_lt hmd (by decide)) (md_geti (d := 19) (k := 33) (kd := 0) (n := 10) rfl (by decide) hmd) (vp_in_nI (n := r) (N := 10) (by omega) (by decide)) kk) ?_
  rw [nI_clamp (show r < 2 ^ 31 by omega)]
  repeat rw [md_al_i]
  rw [hML.1]
  refine wq (fun _ _ kk => rs_iadd (pc := 176) dX12_given_176 kk) ?_
  rw [nI_add]
  refine wq (fun _ _ kk => wk_ist6 (pc := 177) dX12_given_177 (by decide) rfl kk) ?_
  refine wq_mono ?_ (l_X12_given (h := h) (w := bkw B (nI i)) (e := 12 * r + C.length) hr ?_ C 0 0 _ _ _ _ hC.1 hC.2.1 (by have := hC.2.2.1; omega) (by have := hC.2.2.2; omega) (by omega) (MC_of ?_ hML.2) (E_10) hmd stq.rf)
  · rintro r g ⟨a1, ⟨W, a2, a3⟩, a4⟩
    exact ⟨a1, ⟨W, a2, (((((((((((gvq.rf.al (Or.inl rfl)).al (Or.inl rfl)).al (Or.inl rfl)).al (Or.inl rfl)).al (Or.inl rfl)).al (Or.inl rfl)).al (Or.inl rfl)).al (Or.inl rfl)).al (Or.inl rfl)).al (Or.inl rfl)).trans a3.1)⟩, a4⟩
  · intro k hk
    have : k = 0 ∨ k = 1 ∨ k = 2 ∨ k = 3 ∨ k = 4 ∨ k = 5 ∨ k = 6 ∨ k = 7 ∨ k = 8 ∨ k = 9 := by omega
    unfold bkw bk_word bk_week bk_year bk_age
    rcases this with rfl | rfl | rfl | rfl | rfl | rfl | rfl | rfl | rfl | rfl
    · rw [es]; rfl
    · rw [es]; rfl
    · rw [es]; rfl
    · rw [es]; rfl
    · rfl
    · rfl
    · unfold bk_week; rw [en]; rfl
    · unfold bk_week; rw [en]; show _ = (bi_fdI (bk_nat B (nI n) 1) 52).toInt64; rw [yr_is hn3 hn4]; rfl
    · rw [en]; rfl
    · unfold bk_week; rw [en, eo]; rfl
  · rfl
