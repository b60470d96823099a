/-! 32: the model's meet, differ, meets (walks laid by wip/whole/p32.py) -/
theorem wq_tl {M : ai_M} {pc : Nat} {ls st : List Value} {h : ai_H} {Q : Option Value → ai_H → Prop} {x y : Int64} (e : x = y) (k : ai_W M pc ls (.long y :: st) h Q) : ai_W M pc ls (.long x :: st) h Q := e ▸ k
theorem wq_ti {M : ai_M} {pc : Nat} {ls st : List Value} {h : ai_H} {Q : Option Value → ai_H → Prop} {x y : Int32} (e : x = y) (k : ai_W M pc ls (.int y :: st) h Q) : ai_W M pc ls (.int x :: st) h Q := e ▸ k
def ms_meet (S : Md) (i j : Nat) : Bool := decide (¬ S.2.2.1 41 i = S.2.2.1 41 j ∧ S.2.2.1 42 i = S.2.2.1 42 j ∧ S.2.2.1 43 i = S.2.2.1 43 j ∧ S.2.2.1 44 i = S.2.2.1 44 j ∧ ¬ S.2.2.1 44 i = 3)
def ms_dif (a : Int64) (n : Int32) (b : Int64) (m : Int32) : Int64 := bi_fl (1000 * (a * m.toInt64 - b * n.toInt64)) (n.toInt64 * m.toInt64)
theorem dX12_meet_0 : decode cX12_meet 0 = .ok (.aload_n 0, 1) := by decide +kernel
theorem dX12_meet_1 : decode cX12_meet 1 = .ok (.getfield 90, 3) := by decide +kernel
theorem dX12_meet_4 : decode cX12_meet 4 = .ok (.iload_n 1, 1) := by decide +kernel
theorem dX12_meet_5 : decode cX12_meet 5 = .ok (.iaload, 1) := by decide +kernel
theorem dX12_meet_6 : decode cX12_meet 6 = .ok (.aload_n 0, 1) := by decide +kernel
theorem dX12_meet_7 : decode cX12_meet 7 = .ok (.getfield 90, 3) := by decide +kernel
theorem dX12_meet_10 : decode cX12_meet 10 = .ok (.iload_n 2, 1) := by decide +kernel
theorem dX12_meet_11 : decode cX12_meet 11 = .ok (.iaload, 1) := by decide +kernel
theorem dX12_meet_12 : decode cX12_meet 12 = .ok (.if_icmp .eq 62, 3) := by decide +kernel
theorem dX12_meet_15 : decode cX12_meet 15 = .ok (.aload_n 0, 1) := by decide +kernel
theorem dX12_meet_16 : decode cX12_meet 16 = .ok (.getfield 93, 3) := by decide +kernel
theorem dX12_meet_19 : decode cX12_meet 19 = .ok (.iload_n 1, 1) := by decide +kernel
theorem dX12_meet_20 : decode cX12_meet 20 = .ok (.iaload, 1) := by decide +kernel
theorem dX12_meet_21 : decode cX12_meet 21 = .ok (.aload_n 0, 1) := by decide +kernel
theorem dX12_meet_22 : decode cX12_meet 22 = .ok (.getfield 93, 3) := by decide +kernel
theorem dX12_meet_25 : decode cX12_meet 25 = .ok (.iload_n 2, 1) := by decide +kernel
theorem dX12_meet_26 : decode cX12_meet 26 = .ok (.iaload, 1) := by decide +kernel
theorem dX12_meet_27 : decode cX12_meet 27 = .ok (.if_icmp .ne 47, 3) := by decide +kernel
theorem dX12_meet_30 : decode cX12_meet 30 = .ok (.aload_n 0, 1) := by decide +kernel
theorem dX12_meet_31 : decode cX12_meet 31 = .ok (.getfield 96, 3) := by decide +kernel
theorem dX12_meet_34 : decode cX12_meet 34 = .ok (.iload_n 1, 1) := by decide +kernel
theorem dX12_meet_35 : decode cX12_meet 35 = .ok (.iaload, 1) := by decide +kernel
theorem dX12_meet_36 : decode cX12_meet 36 = .ok (.aload_n 0, 1) := by decide +kernel
theorem dX12_meet_37 : decode cX12_meet 37 = .ok (.getfield 96, 3) := by decide +kernel
theorem dX12_meet_40 : decode cX12_meet 40 = .ok (.iload_n 2, 1) := by decide +kernel
theorem dX12_meet_41 : decode cX12_meet 41 = .ok (.iaload, 1) := by decide +kernel
theorem dX12_meet_42 : decode cX12_meet 42 = .ok (.if_icmp .ne 32, 3) := by decide +kernel
theorem dX12_meet_45 : decode cX12_meet 45 = .ok (.aload_n 0, 1) := by decide +kernel
theorem dX12_meet_46 : decode cX12_meet 46 = .ok (.getfield 99, 3) := by decide +kernel
theorem dX12_meet_49 : decode cX12_meet 49 = .ok (.iload_n 1, 1) := by decide +kernel
theorem dX12_meet_50 : decode cX12_meet 50 = .ok (.iaload, 1) := by decide +kernel
theorem dX12_meet_51 : decode cX12_meet 51 = .ok (.aload_n 0, 1) := by decide +kernel
theorem dX12_meet_52 : decode cX12_meet 52 = .ok (.getfield 99, 3) := by decide +kernel
theorem dX12_meet_55 : decode cX12_meet 55 = .ok (.iload_n 2, 1) := by decide +kernel
theorem dX12_meet_56 : decode cX12_meet 56 = .ok (.iaload, 1) := by decide +kernel
theorem dX12_meet_57 : decode cX12_meet 57 = .ok (.if_icmp .ne 17, 3) := by decide +kernel
theorem dX12_meet_60 : decode cX12_meet 60 = .ok (.aload_n 0, 1) := by decide +kernel
theorem dX12_meet_61 : decode cX12_meet 61 = .ok (.getfield 99, 3) := by decide +kernel
theorem dX12_meet_64 : decode cX12_meet 64 = .ok (.iload_n 1, 1) := by decide +kernel
theorem dX12_meet_65 : decode cX12_meet 65 = .ok (.iaload, 1) := by decide +kernel
theorem dX12_meet_66 : decode cX12_meet 66 = .ok (.iconst 3, 1) := by decide +kernel
theorem dX12_meet_67 : decode cX12_meet 67 = .ok (.if_icmp .eq 7, 3) := by decide +kernel
theorem dX12_meet_70 : decode cX12_meet 70 = .ok (.iconst 1, 1) := by decide +kernel
theorem dX12_meet_71 : decode cX12_meet 71 = .ok (.goto 4, 3) := by decide +kernel
theorem dX12_meet_74 : decode cX12_meet 74 = .ok (.iconst 0, 1) := by decide +kernel
theorem dX12_meet_75 : decode cX12_meet 75 = .ok (.ireturn, 1) := by decide +kernel
set_option maxRecDepth 100000 in
set_option maxHeartbeats 4000000 in
theorem c_X12_meet {h : ai_H} {S : Md} (hmd : md_at h S) {i j : Nat} (hi : i < 400) (hj : j < 400) : ai_Met MX12_meet [.ref 307, .int (nI i), .int (nI j)] h (some (.int (b32 (ms_meet S i j)))) h := by
  refine ai_met (ls := [.ref 307, .int (nI i), .int (nI j)]) (by decide) (by simp [ai_en, Value.category]) (by rfl) ?_
  refine rs_aload_n (pc := 0) dX12_meet_0 rfl ?_
  refine rs_getf (pc := 1) dX12_meet_1 fX12_90 (md_lt hmd (by decide)) hmd.2.1 rfl ?_
  refine rs_iload_n (pc := 4) dX12_meet_4 rfl ?_
  refine rs_iald (pc := 5) dX12_meet_5 (md_lt hmd (by decide)) (md_geti (d := 26) (k := 41) (kd := 0) (n := 400) rfl (by decide) hmd) (vp_in_nI (n := i) (N := 400) (by omega) (by decide)) ?_
  rw [nI_clamp (show i < 2 ^ 31 by omega)]
  refine rs_aload_n (pc := 6) dX12_meet_6 rfl ?_
  refine rs_getf (pc := 7) dX12_meet_7 fX12_90 (md_lt hmd (by decide)) hmd.2.1 rfl ?_
  refine rs_iload_n (pc := 10) dX12_meet_10 rfl ?_
  refine rs_iald (pc := 11) dX12_meet_11 (md_lt hmd (by decide)) (md_geti (d := 26) (k := 41) (kd := 0) (n := 400) rfl (by decide) hmd) (vp_in_nI (n := j) (N := 400) (by omega) (by decide)) ?_
  rw [nI_clamp (show j < 2 ^ 31 by omega)]
  refine rs_icmp_eq (tgt := 74) (pc := 12) dX12_meet_12 rfl (fun c_12 => ?_) (fun c_12 => ?_)
  · refine rs_iconst (v := 0) (pc := 74) dX12_meet_74 rfl ?_
    exact wk_zret (pc := 75) dX12_meet_75 rfl (Or.inl rfl) (by simp [ms_meet, b32, c_12]) (rfl)
  · refine rs_aload_n (pc := 15) dX12_meet_15 rfl ?_
    refine rs_getf (pc := 16) dX12_meet_16 fX12_93 (md_lt hmd (by decide)) hmd.2.1 rfl ?_
    refine rs_iload_n (pc := 19) dX12_meet_19 rfl ?_
    refine rs_iald (pc := 20) dX12_meet_20 (md_lt hmd (by decide)) (md_geti (d := 27) (k := 42) (kd := 0) (n := 400) rfl (by decide) hmd) (vp_in_nI (n := i) (N := 400) (by omega) (by decide)) ?_
    rw [nI_clamp (show i < 2 ^ 31 by omega)]
    refine rs_aload_n (pc := 21) dX12_meet_21 rfl ?_
    refine rs_getf (pc := 22) dX12_meet_22 fX12_93 (md_lt hmd (by decide)) hmd.2.1 rfl ?_
    refine rs_iload_n (pc := 25) dX12_meet_25 rfl ?_
    refine rs_iald (pc := 26) dX12_meet_26 (md_lt hmd (by decide)) (md_geti (d := 27) (k := 42) (kd := 0) (n := 400) rfl (by decide) hmd) (vp_in_nI (n := j) (N := 400) (by omega) (by decide)) ?_
    rw [nI_clamp (show j < 2 ^ 31 by omega)]
    refine rs_icmp_ne (tgt := 74) (pc := 27) dX12_meet_27 rfl (fun c_27 => ?_) (fun c_27 => ?_)
    · refine rs_iconst (v := 0) (pc := 74) dX12_meet_74 rfl ?_
      exact wk_zret (pc := 75) dX12_meet_75 rfl (Or.inl rfl) (by simp [ms_meet, b32, c_12, c_27]) (rfl)
    · refine rs_aload_n (pc := 30) dX12_meet_30 rfl ?_
      refine rs_getf (pc := 31) dX12_meet_31 fX12_96 (md_lt hmd (by decide)) hmd.2.1 rfl ?_
      refine rs_iload_n (pc := 34) dX12_meet_34 rfl ?_
      refine rs_iald (pc := 35) dX12_meet_35 (md_lt hmd (by decide)) (md_geti (d := 28) (k := 43) (kd := 0) (n := 400) rfl (by decide) hmd) (vp_in_nI (n := i) (N := 400) (by omega) (by decide)) ?_
      rw [nI_clamp (show i < 2 ^ 31 by omega)]
      refine rs_aload_n (pc := 36) dX12_meet_36 rfl ?_
      refine rs_getf (pc := 37) dX12_meet_37 fX12_96 (md_lt hmd (by decide)) hmd.2.1 rfl ?_
      refine rs_iload_n (pc := 40) dX12_meet_40 rfl ?_
      refine rs_iald (pc := 41) dX12_meet_41 (md_lt hmd (by decide)) (md_geti (d := 28) (k := 43) (kd := 0) (n := 400) rfl (by decide) hmd) (vp_in_nI (n := j) (N := 400) (by omega) (by decide)) ?_
      rw [nI_clamp (show j < 2 ^ 31 by omega)]
      refine rs_icmp_ne (tgt := 74) (pc := 42) dX12_meet_42 rfl (fun c_42 => ?_) (fun c_42 => ?_)
      · refine rs_iconst (v := 0) (pc := 74) dX12_meet_74 rfl ?_
        exact wk_zret (pc := 75) dX12_meet_75 rfl (Or.inl rfl) (by simp [ms_meet, b32, c_12, c_27, c_42]) (rfl)
      · refine rs_aload_n (pc := 45) dX12_meet_45 rfl ?_
        refine rs_getf (pc := 46) dX12_meet_46 fX12_99 (md_lt hmd (by decide)) hmd.2.1 rfl ?_
        refine rs_iload_n (pc := 49) dX12_meet_49 rfl ?_
        refine rs_iald (pc := 50) dX12_meet_50 (md_lt hmd (by decide)) (md_geti (d := 29) (k := 44) (kd := 0) (n := 400) rfl (by decide) hmd) (vp_in_nI (n := i) (N := 400) (by omega) (by decide)) ?_
        rw [nI_clamp (show i < 2 ^ 31 by omega)]
        refine rs_aload_n (pc := 51) dX12_meet_51 rfl ?_
        refine rs_getf (pc := 52) dX12_meet_52 fX12_99 (md_lt hmd (by decide)) hmd.2.1 rfl ?_
        refine rs_iload_n (pc := 55) dX12_meet_55 rfl ?_
        refine rs_iald (pc := 56) dX12_meet_56 (md_lt hmd (by decide)) (md_geti (d := 29) (k := 44) (kd := 0) (n := 400) rfl (by decide) hmd) (vp_in_nI (n := j) (N := 400) (by omega) (by decide)) ?_
        rw [nI_clamp (show j < 2 ^ 31 by omega)]
        refine rs_icmp_ne (tgt := 74) (pc := 57) dX12_meet_57 rfl (fun c_57 => ?_) (fun c_57 => ?_)
        · refine rs_iconst (v := 0) (pc := 74) dX12_meet_74 rfl ?_
          exact wk_zret (pc := 75) dX12_meet_75 rfl (Or.inl rfl) (by simp [ms_meet, b32, c_12, c_27, c_42, c_57]) (rfl)
        · refine rs_aload_n (pc := 60) dX12_meet_60 rfl ?_
          refine rs_getf (pc := 61) dX12_meet_61 fX12_99 (md_lt hmd (by decide)) hmd.2.1 rfl ?_
          refine rs_iload_n (pc := 64) dX12_meet_64 rfl ?_
          refine rs_iald (pc := 65) dX12_meet_65 (md_lt hmd (by decide)) (md_geti (d := 29) (k := 44) (kd := 0) (n := 400) rfl (by decide) hmd) (vp_in_nI (n := i) (N := 400) (by omega) (by decide)) ?_
          rw [nI_clamp (show i < 2 ^ 31 by omega)]
          refine rs_iconst (v := 3) (pc := 66) dX12_meet_66 rfl ?_
          refine rs_icmp_eq (tgt := 74) (pc := 67) dX12_meet_67 rfl (fun c_67 => ?_) (fun c_67 => ?_)
          · rw [c_57] at c_67
            refine rs_iconst (v := 0) (pc := 74) dX12_meet_74 rfl ?_
            exact wk_zret (pc := 75) dX12_meet_75 rfl (Or.inl rfl) (by simp [ms_meet, b32, c_12, c_27, c_42, c_57, c_67]) (rfl)
          · rw [c_57] at c_67
            refine rs_iconst (v := 1) (pc := 70) dX12_meet_70 rfl ?_
            refine rs_goto (tgt := 75) (pc := 71) dX12_meet_71 rfl ?_
            exact wk_zret (pc := 75) dX12_meet_75 rfl (Or.inr rfl) (by simp [ms_meet, b32, c_12, c_27, c_42, c_57, c_67]) (rfl)
theorem dX12_differ_0 : decode cX12_differ 0 = .ok (.ldc2_w 401, 3) := by decide +kernel
theorem dX12_differ_3 : decode cX12_differ 3 = .ok (.lload_n 0, 1) := by decide +kernel
theorem dX12_differ_4 : decode cX12_differ 4 = .ok (.iload 5, 2) := by decide +kernel
theorem dX12_differ_6 : decode cX12_differ 6 = .ok (.i2l, 1) := by decide +kernel
theorem dX12_differ_7 : decode cX12_differ 7 = .ok (.lmul, 1) := by decide +kernel
theorem dX12_differ_8 : decode cX12_differ 8 = .ok (.lload_n 3, 1) := by decide +kernel
theorem dX12_differ_9 : decode cX12_differ 9 = .ok (.iload_n 2, 1) := by decide +kernel
theorem dX12_differ_10 : decode cX12_differ 10 = .ok (.i2l, 1) := by decide +kernel
theorem dX12_differ_11 : decode cX12_differ 11 = .ok (.lmul, 1) := by decide +kernel
theorem dX12_differ_12 : decode cX12_differ 12 = .ok (.lsub, 1) := by decide +kernel
theorem dX12_differ_13 : decode cX12_differ 13 = .ok (.lmul, 1) := by decide +kernel
theorem dX12_differ_14 : decode cX12_differ 14 = .ok (.iload_n 2, 1) := by decide +kernel
theorem dX12_differ_15 : decode cX12_differ 15 = .ok (.i2l, 1) := by decide +kernel
theorem dX12_differ_16 : decode cX12_differ 16 = .ok (.iload 5, 2) := by decide +kernel
theorem dX12_differ_18 : decode cX12_differ 18 = .ok (.i2l, 1) := by decide +kernel
theorem dX12_differ_19 : decode cX12_differ 19 = .ok (.lmul, 1) := by decide +kernel
theorem dX12_differ_20 : decode cX12_differ 20 = .ok (.invokestatic 403, 3) := by decide +kernel
theorem dX12_differ_23 : decode cX12_differ 23 = .ok (.lreturn, 1) := by decide +kernel
set_option maxRecDepth 100000 in
set_option maxHeartbeats 4000000 in
theorem c_X12_differ {h : ai_H} {a b : Int64} {n m : Int32} (hb : ¬ n.toInt64 * m.toInt64 = 0) : ai_Met MX12_differ [.long a, .int n, .long b, .int m] h (some (.long (ms_dif a n b m))) h := by
  refine ai_met (ls := [.long a, .float 0, .int n, .long b, .float 0, .int m]) (by decide) (by simp [ai_en, Value.category]) (by rfl) ?_
  refine rs_ldc2 (pc := 0) dX12_differ_0 cnX12_401 ?_
  refine rs_lload_n (pc := 3) dX12_differ_3 rfl ?_
  refine rs_iload (pc := 4) dX12_differ_4 rfl ?_
  refine rs_i2l (pc := 6) dX12_differ_6 ?_
  refine rs_lmul (pc := 7) dX12_differ_7 ?_
  refine rs_lload_n (pc := 8) dX12_differ_8 rfl ?_
  refine rs_iload_n (pc := 9) dX12_differ_9 rfl ?_
  refine rs_i2l (pc := 10) dX12_differ_10 ?_
  refine rs_lmul (pc := 11) dX12_differ_11 ?_
  refine rs_lsub (pc := 12) dX12_differ_12 ?_
  refine rs_lmul (pc := 13) dX12_differ_13 ?_
  refine rs_iload_n (pc := 14) dX12_differ_14 rfl ?_
  refine rs_i2l (pc := 15) dX12_differ_15 ?_
  refine rs_iload (pc := 16) dX12_differ_16 rfl ?_
  refine rs_i2l (pc := 18) dX12_differ_18 ?_
  refine rs_lmul (pc := 19) dX12_differ_19 ?_
  refine rs_callS (as := [_, _]) (pc := 20) dX12_differ_20 mk_X12_floorOf mlX12_403 st_X12_floorOf rfl rfl (Nat.le_of_ble_eq_true rfl) (c_X12_floorOf hb) ?_
  exact wk_lret (pc := 23) dX12_differ_23 rfl (rfl) (rfl)
def cN (p : Nat → Bool) : Nat → Nat
  | 0 => 0
  | n + 1 => if p n = true then cN p n + 1 else cN p n
theorem cN_le (p : Nat → Bool) : ∀ n, cN p n ≤ n
  | 0 => Nat.le_refl 0
  | n + 1 => by have := cN_le p n; rw [cN]; split <;> omega
theorem cN_pos {p : Nat → Bool} {k : Nat} (hk : p k = true) : ∀ n, k < n → 0 < cN p n := by
  intro n
  induction n with
  | zero => intro h; omega
  | succ n ih =>
    intro h
    rw [cN]
    by_cases e : k = n
    · subst e; rw [if_pos hk]; omega
    · have := ih (by omega); split <;> omega
theorem cN_ex {p : Nat → Bool} : ∀ n, 0 < cN p n → ∃ k, k < n ∧ p k = true := by
  intro n
  induction n with
  | zero => intro h; exact absurd h (Nat.lt_irrefl 0)
  | succ n ih =>
    intro h
    rw [cN] at h
    by_cases e : p n = true
    · exact ⟨n, by omega, e⟩
    · rw [if_neg e] at h
      obtain ⟨k, h1, h2⟩ := ih h
      exact ⟨k, by omega, h2⟩
theorem fI_cN (p : Nat → Bool) : ∀ n, fI p (fun _ => 1) n = nI (cN p n)
  | 0 => rfl
  | n + 1 => by
    rw [fI, cN, fI_cN p n]
    split
    · exact nI_1 _
    · rfl
theorem SI_facts {B : Bk} {lm : Nat} {wk : Int32} {T : Md} {q : Nat} (hok : bk_ok B lm) (hSI : SI B wk T (nR B) (nR B) q) {c : Nat} (hc : c < q) : (∃ o, o < 16 ∧ T.2.2.1 41 c = nI o) ∧ (∃ n, n < 80 ∧ T.2.2.1 42 c = nI n) ∧ ∃ m, 1 ≤ m ∧ m ≤ 400 ∧ T.2.2.1 45 c = nI m := by
  obtain ⟨h1, h2, h3, h4⟩ := hSI
  obtain ⟨k, k1, k2, k3⟩ := h1 c hc
  obtain ⟨-, ⟨-, ho, -⟩, -, ⟨-, hn, -⟩, ⟨-, hr, hrr⟩, -⟩ := hok
  obtain ⟨r1, r2, -, -, -, -, r3, r4, -⟩ := hrr k k1
  refine ⟨by rw [← k3.1]; exact i32_ex r3 (by omega), by rw [← k3.2.1]; exact i32_ex r1 (by omega), ?_⟩
  refine ⟨_, ?_, ?_, (h4 c hc).1.trans (fI_cN _ _)⟩
  · refine cN_pos (k := k) ?_ _ k1
    simp only [ga, decide_eq_true_eq]
    exact ⟨k2, k3.2.1, k3.2.2.1, k3.2.2.2, k3.1⟩
  · exact Nat.le_trans (cN_le _ _) hr
theorem nI_mul_ne {n m : Nat} (h1 : 1 ≤ n) (h2 : n ≤ 400) (h3 : 1 ≤ m) (h4 : m ≤ 400) : ¬ (nI n).toInt64 * (nI m).toInt64 = 0 := by
  rw [← aI_nat, ← aI_nat, aI_i2l (by omega) (by omega), aI_i2l (by omega) (by omega), aL_mul, show (0 : Int64) = aL 0 from rfl]
  have h5 : n * m ≤ 400 * 400 := Nat.mul_le_mul h2 h4
  have h6 : 0 < n * m := Nat.mul_pos h1 h3
  have e : (n : Int) * m = ((n * m : Nat) : Int) := by rw [Int.natCast_mul]
  rw [e, aL_eq (by omega) (by omega) (by omega) (by omega)]
  omega
/-- pair number t of the sights is a MEETING of those of k -/
def mp (T : Md) (q k t : Nat) : Bool := decide (ms_meet T (t / q) (t % q) = true ∧ T.2.2.1 41 (t / q) = nI (k / 16) ∧ T.2.2.1 41 (t % q) = nI (k % 16))
def mdf (T : Md) (q t : Nat) : Int64 := ms_dif (T.2.2.2 48 (t / q)) (T.2.2.1 45 (t / q)) (T.2.2.2 48 (t % q)) (T.2.2.1 45 (t % q))
def mU (T : Md) (q k t : Nat) : Ty := ty_fold (mp T q k) (mdf T q) t
def mNe (T : Md) (q k t : Nat) : Bool := mp T q k t && decide (¬ mdf T q t = 0)
def mPo (T : Md) (q k t : Nat) : Bool := mp T q k t && decide (¬ mdf T q t ≤ 0)
/-- the rows of the meetings when the pairs below t are told -/
def MI (T : Md) (q t : Nat) (V : Md) : Prop := ∀ k, k < 256 → V.2.2.1 50 k = (mU T q k t).1 ∧ V.2.2.2 53 k = (mU T q k t).2.1 ∧ (¬ (mU T q k t).1 = 0 → V.2.2.2 54 k = (mU T q k t).2.2.1 ∧ V.2.2.2 55 k = (mU T q k t).2.2.2) ∧ V.2.2.1 51 k = nI (cN (mNe T q k) t) ∧ V.2.2.1 52 k = nI (cN (mPo T q k) t)
theorem MI_no {T V : Md} {q t : Nat} (h : MI T q t V) (hn : ms_meet T (t / q) (t % q) = false) : MI T q (t + 1) V := by
  intro k hk
  have e : mp T q k t = false := by simp [mp, hn]
  have := h k hk
  unfold mU at *
  rw [ty_fold, if_neg (by rw [e]; decide), cN, if_neg (by simp [mNe, e]), cN, if_neg (by simp [mPo, e])]
  exact this
theorem MI_yes {T V W : Md} {q t k : Nat} (hk : k < 256) (h : MI T q t V) (hm : mp T q k t = true)
    (w50 : W.2.2.1 50 = upd (V.2.2.1 50) k (V.2.2.1 50 k + 1)) (w51 : W.2.2.1 51 = upd (V.2.2.1 51) k (V.2.2.1 51 k + (if mdf T q t = 0 then 0 else 1))) (w52 : W.2.2.1 52 = upd (V.2.2.1 52) k (V.2.2.1 52 k + (if mdf T q t ≤ 0 then 0 else 1)))
    (w53 : W.2.2.2 53 = vp_updL (V.2.2.2 53) k (V.2.2.2 53 k + mdf T q t)) (w54 : W.2.2.2 54 = vp_updL (V.2.2.2 54) k (ty_lo (V.2.2.1 50 k) (V.2.2.2 54 k) (mdf T q t))) (w55 : W.2.2.2 55 = vp_updL (V.2.2.2 55) k (ty_hi (V.2.2.1 50 k) (V.2.2.2 55 k) (mdf T q t))) : MI T q (t + 1) W := by
  intro j hj
  rw [w50, w51, w52, w53, w54, w55]
  obtain ⟨h1, h2, h3, h4, h5⟩ := h j hj
  unfold mU at *
  rw [ty_fold, cN, cN]
  by_cases e : j = k
  · subst e
    rw [if_pos hm, pk_us, pk_us, pk_us, pk_uLs, pk_uLs, pk_uLs, h1, h2, h4, h5]
    refine ⟨rfl, rfl, fun _ => ?_, ?_, ?_⟩
    · by_cases z : (ty_fold (mp T q j) (mdf T q) t).1 = 0
      · simp [ty_add, ty_lo, ty_hi, z]
      · rw [(h3 z).1, (h3 z).2]
        exact ⟨rfl, rfl⟩
    · by_cases z : mdf T q t = 0
      · rw [if_pos z, if_neg (by simp [mNe, z]), Int32.add_zero]
      · rw [if_neg z, if_pos (by simp [mNe, z, hm])]; exact nI_1 _
    · by_cases z : mdf T q t ≤ 0
      · rw [if_pos z, if_neg (by simp only [mPo, z, not_true_eq_false, decide_false, Bool.and_false]; decide), Int32.add_zero]
      · rw [if_neg z, if_pos (by simp only [mPo, z, hm, not_false_eq_true, decide_true, Bool.and_true])]; exact nI_1 _
  · have hm2 : mp T q j t = false := by
      simp only [mp, decide_eq_true_eq, decide_eq_false_iff_not] at hm ⊢
      rintro ⟨-, z1, z2⟩
      have a1 := nI_inj (by omega) (by omega) (hm.2.1.symm.trans z1)
      have a2 := nI_inj (by omega) (by omega) (hm.2.2.symm.trans z2)
      omega
    rw [pk_un e, pk_un e, pk_un e, pk_uLn e, pk_uLn e, pk_uLn e, if_neg (by rw [hm2]; decide), if_neg (by simp [mNe, hm2]), if_neg (by simp [mPo, hm2])]
    exact ⟨h1, h2, h3, h4, h5⟩
/-- all but the rows of the meetings is the same -/
def mg (S T : Md) : Prop := T.1 = S.1 ∧ T.2.1 = S.2.1 ∧ (∀ k, k < 50 ∨ 52 < k → T.2.2.1 k = S.2.2.1 k) ∧ ∀ k, k < 53 ∨ 55 < k → T.2.2.2 k = S.2.2.2 k
theorem mg.rf {S : Md} : mg S S := ⟨rfl, rfl, fun _ _ => rfl, fun _ _ => rfl⟩
theorem mg.sb {S T : Md} (h : mg S T) : sb S T := ⟨fun k _ => by rw [h.1], fun k hk => h.2.2.1 k (by omega)⟩
theorem mg.ai {S T : Md} {j : Nat} {f : Nat → Int32} (h : mg S T) (hj : 50 ≤ j ∧ j ≤ 52) : mg S (md_ai T j f) := ⟨h.1, h.2.1, fun k hk => by
  show va_up T.2.2.1 j f k = _
  rw [va_up, if_neg (by omega)]
  exact h.2.2.1 k hk, h.2.2.2⟩
theorem mg.al {S T : Md} {j : Nat} {f : Nat → Int64} (h : mg S T) (hj : 53 ≤ j ∧ j ≤ 55) : mg S (md_al T j f) := ⟨h.1, h.2.1, h.2.2.1, fun k hk => by
  show va_up T.2.2.2 j f k = _
  rw [va_up, if_neg (by omega)]
  exact h.2.2.2 k hk⟩
theorem mg.meet {S T : Md} (h : mg S T) (i j : Nat) : ms_meet T i j = ms_meet S i j := by
  unfold ms_meet
  rw [h.2.2.1 41 (by omega), h.2.2.1 42 (by omega), h.2.2.1 43 (by omega), h.2.2.1 44 (by omega)]
theorem dX12_meets_0 : decode cX12_meets 0 = .ok (.aload_n 0, 1) := by decide +kernel
theorem dX12_meets_1 : decode cX12_meets 1 = .ok (.iload_n 1, 1) := by decide +kernel
theorem dX12_meets_2 : decode cX12_meets 2 = .ok (.invokevirtual 407, 3) := by decide +kernel
theorem dX12_meets_5 : decode cX12_meets 5 = .ok (.iconst 0, 1) := by decide +kernel
theorem dX12_meets_6 : decode cX12_meets 6 = .ok (.istore_n 2, 1) := by decide +kernel
theorem dX12_meets_7 : decode cX12_meets 7 = .ok (.iload_n 2, 1) := by decide +kernel
theorem dX12_meets_8 : decode cX12_meets 8 = .ok (.sipush 256, 3) := by decide +kernel
theorem dX12_meets_11 : decode cX12_meets 11 = .ok (.if_icmp .ge 37, 3) := by decide +kernel
theorem dX12_meets_14 : decode cX12_meets 14 = .ok (.aload_n 0, 1) := by decide +kernel
theorem dX12_meets_15 : decode cX12_meets 15 = .ok (.getfield 117, 3) := by decide +kernel
theorem dX12_meets_18 : decode cX12_meets 18 = .ok (.iload_n 2, 1) := by decide +kernel
theorem dX12_meets_19 : decode cX12_meets 19 = .ok (.iconst 0, 1) := by decide +kernel
theorem dX12_meets_20 : decode cX12_meets 20 = .ok (.iastore, 1) := by decide +kernel
theorem dX12_meets_21 : decode cX12_meets 21 = .ok (.aload_n 0, 1) := by decide +kernel
theorem dX12_meets_22 : decode cX12_meets 22 = .ok (.getfield 120, 3) := by decide +kernel
theorem dX12_meets_25 : decode cX12_meets 25 = .ok (.iload_n 2, 1) := by decide +kernel
theorem dX12_meets_26 : decode cX12_meets 26 = .ok (.iconst 0, 1) := by decide +kernel
theorem dX12_meets_27 : decode cX12_meets 27 = .ok (.iastore, 1) := by decide +kernel
theorem dX12_meets_28 : decode cX12_meets 28 = .ok (.aload_n 0, 1) := by decide +kernel
theorem dX12_meets_29 : decode cX12_meets 29 = .ok (.getfield 123, 3) := by decide +kernel
theorem dX12_meets_32 : decode cX12_meets 32 = .ok (.iload_n 2, 1) := by decide +kernel
theorem dX12_meets_33 : decode cX12_meets 33 = .ok (.iconst 0, 1) := by decide +kernel
theorem dX12_meets_34 : decode cX12_meets 34 = .ok (.iastore, 1) := by decide +kernel
theorem dX12_meets_35 : decode cX12_meets 35 = .ok (.aload_n 0, 1) := by decide +kernel
theorem dX12_meets_36 : decode cX12_meets 36 = .ok (.getfield 126, 3) := by decide +kernel
theorem dX12_meets_39 : decode cX12_meets 39 = .ok (.iload_n 2, 1) := by decide +kernel
theorem dX12_meets_40 : decode cX12_meets 40 = .ok (.lconst 0, 1) := by decide +kernel
theorem dX12_meets_41 : decode cX12_meets 41 = .ok (.lastore, 1) := by decide +kernel
theorem dX12_meets_42 : decode cX12_meets 42 = .ok (.iinc 2 1, 3) := by decide +kernel
theorem dX12_meets_45 : decode cX12_meets 45 = .ok (.goto (-38), 3) := by decide +kernel
theorem dX12_meets_48 : decode cX12_meets 48 = .ok (.iconst 0, 1) := by decide +kernel
theorem dX12_meets_49 : decode cX12_meets 49 = .ok (.istore_n 2, 1) := by decide +kernel
theorem dX12_meets_50 : decode cX12_meets 50 = .ok (.iload_n 2, 1) := by decide +kernel
theorem dX12_meets_51 : decode cX12_meets 51 = .ok (.aload_n 0, 1) := by decide +kernel
theorem dX12_meets_52 : decode cX12_meets 52 = .ok (.getfield 398, 3) := by decide +kernel
theorem dX12_meets_55 : decode cX12_meets 55 = .ok (.if_icmp .ge 232, 3) := by decide +kernel
theorem dX12_meets_58 : decode cX12_meets 58 = .ok (.iconst 0, 1) := by decide +kernel
theorem dX12_meets_59 : decode cX12_meets 59 = .ok (.istore_n 3, 1) := by decide +kernel
theorem dX12_meets_60 : decode cX12_meets 60 = .ok (.iload_n 3, 1) := by decide +kernel
theorem dX12_meets_61 : decode cX12_meets 61 = .ok (.aload_n 0, 1) := by decide +kernel
theorem dX12_meets_62 : decode cX12_meets 62 = .ok (.getfield 398, 3) := by decide +kernel
theorem dX12_meets_65 : decode cX12_meets 65 = .ok (.if_icmp .ge 216, 3) := by decide +kernel
theorem dX12_meets_68 : decode cX12_meets 68 = .ok (.aload_n 0, 1) := by decide +kernel
theorem dX12_meets_69 : decode cX12_meets 69 = .ok (.iload_n 2, 1) := by decide +kernel
theorem dX12_meets_70 : decode cX12_meets 70 = .ok (.iload_n 3, 1) := by decide +kernel
theorem dX12_meets_71 : decode cX12_meets 71 = .ok (.invokevirtual 410, 3) := by decide +kernel
theorem dX12_meets_74 : decode cX12_meets 74 = .ok (.ifCond .eq 201, 3) := by decide +kernel
theorem dX12_meets_77 : decode cX12_meets 77 = .ok (.bipush 16, 2) := by decide +kernel
theorem dX12_meets_79 : decode cX12_meets 79 = .ok (.aload_n 0, 1) := by decide +kernel
theorem dX12_meets_80 : decode cX12_meets 80 = .ok (.getfield 90, 3) := by decide +kernel
theorem dX12_meets_83 : decode cX12_meets 83 = .ok (.iload_n 2, 1) := by decide +kernel
theorem dX12_meets_84 : decode cX12_meets 84 = .ok (.iaload, 1) := by decide +kernel
theorem dX12_meets_85 : decode cX12_meets 85 = .ok (.imul, 1) := by decide +kernel
theorem dX12_meets_86 : decode cX12_meets 86 = .ok (.aload_n 0, 1) := by decide +kernel
theorem dX12_meets_87 : decode cX12_meets 87 = .ok (.getfield 90, 3) := by decide +kernel
theorem dX12_meets_90 : decode cX12_meets 90 = .ok (.iload_n 3, 1) := by decide +kernel
theorem dX12_meets_91 : decode cX12_meets 91 = .ok (.iaload, 1) := by decide +kernel
theorem dX12_meets_92 : decode cX12_meets 92 = .ok (.iadd, 1) := by decide +kernel
theorem dX12_meets_93 : decode cX12_meets 93 = .ok (.istore 4, 2) := by decide +kernel
theorem dX12_meets_95 : decode cX12_meets 95 = .ok (.aload_n 0, 1) := by decide +kernel
theorem dX12_meets_96 : decode cX12_meets 96 = .ok (.getfield 111, 3) := by decide +kernel
theorem dX12_meets_99 : decode cX12_meets 99 = .ok (.iload_n 2, 1) := by decide +kernel
theorem dX12_meets_100 : decode cX12_meets 100 = .ok (.laload, 1) := by decide +kernel
theorem dX12_meets_101 : decode cX12_meets 101 = .ok (.aload_n 0, 1) := by decide +kernel
theorem dX12_meets_102 : decode cX12_meets 102 = .ok (.getfield 102, 3) := by decide +kernel
theorem dX12_meets_105 : decode cX12_meets 105 = .ok (.iload_n 2, 1) := by decide +kernel
theorem dX12_meets_106 : decode cX12_meets 106 = .ok (.iaload, 1) := by decide +kernel
theorem dX12_meets_107 : decode cX12_meets 107 = .ok (.aload_n 0, 1) := by decide +kernel
theorem dX12_meets_108 : decode cX12_meets 108 = .ok (.getfield 111, 3) := by decide +kernel
theorem dX12_meets_111 : decode cX12_meets 111 = .ok (.iload_n 3, 1) := by decide +kernel
theorem dX12_meets_112 : decode cX12_meets 112 = .ok (.laload, 1) := by decide +kernel
theorem dX12_meets_113 : decode cX12_meets 113 = .ok (.aload_n 0, 1) := by decide +kernel
theorem dX12_meets_114 : decode cX12_meets 114 = .ok (.getfield 102, 3) := by decide +kernel
theorem dX12_meets_117 : decode cX12_meets 117 = .ok (.iload_n 3, 1) := by decide +kernel
theorem dX12_meets_118 : decode cX12_meets 118 = .ok (.iaload, 1) := by decide +kernel
theorem dX12_meets_119 : decode cX12_meets 119 = .ok (.invokestatic 413, 3) := by decide +kernel
theorem dX12_meets_122 : decode cX12_meets 122 = .ok (.lstore 5, 2) := by decide +kernel
theorem dX12_meets_124 : decode cX12_meets 124 = .ok (.aload_n 0, 1) := by decide +kernel
theorem dX12_meets_125 : decode cX12_meets 125 = .ok (.getfield 129, 3) := by decide +kernel
theorem dX12_meets_128 : decode cX12_meets 128 = .ok (.iload 4, 2) := by decide +kernel
theorem dX12_meets_130 : decode cX12_meets 130 = .ok (.aload_n 0, 1) := by decide +kernel
theorem dX12_meets_131 : decode cX12_meets 131 = .ok (.getfield 117, 3) := by decide +kernel
theorem dX12_meets_134 : decode cX12_meets 134 = .ok (.iload 4, 2) := by decide +kernel
theorem dX12_meets_136 : decode cX12_meets 136 = .ok (.iaload, 1) := by decide +kernel
theorem dX12_meets_137 : decode cX12_meets 137 = .ok (.ifCond .eq 16, 3) := by decide +kernel
theorem dX12_meets_140 : decode cX12_meets 140 = .ok (.lload 5, 2) := by decide +kernel
theorem dX12_meets_142 : decode cX12_meets 142 = .ok (.aload_n 0, 1) := by decide +kernel
theorem dX12_meets_143 : decode cX12_meets 143 = .ok (.getfield 129, 3) := by decide +kernel
theorem dX12_meets_146 : decode cX12_meets 146 = .ok (.iload 4, 2) := by decide +kernel
theorem dX12_meets_148 : decode cX12_meets 148 = .ok (.laload, 1) := by decide +kernel
theorem dX12_meets_149 : decode cX12_meets 149 = .ok (.lcmp, 1) := by decide +kernel
theorem dX12_meets_150 : decode cX12_meets 150 = .ok (.ifCond .ge 8, 3) := by decide +kernel
theorem dX12_meets_153 : decode cX12_meets 153 = .ok (.lload 5, 2) := by decide +kernel
theorem dX12_meets_155 : decode cX12_meets 155 = .ok (.goto 10, 3) := by decide +kernel
theorem dX12_meets_158 : decode cX12_meets 158 = .ok (.aload_n 0, 1) := by decide +kernel
theorem dX12_meets_159 : decode cX12_meets 159 = .ok (.getfield 129, 3) := by decide +kernel
theorem dX12_meets_162 : decode cX12_meets 162 = .ok (.iload 4, 2) := by decide +kernel
theorem dX12_meets_164 : decode cX12_meets 164 = .ok (.laload, 1) := by decide +kernel
theorem dX12_meets_165 : decode cX12_meets 165 = .ok (.lastore, 1) := by decide +kernel
theorem dX12_meets_166 : decode cX12_meets 166 = .ok (.aload_n 0, 1) := by decide +kernel
theorem dX12_meets_167 : decode cX12_meets 167 = .ok (.getfield 132, 3) := by decide +kernel
theorem dX12_meets_170 : decode cX12_meets 170 = .ok (.iload 4, 2) := by decide +kernel
theorem dX12_meets_172 : decode cX12_meets 172 = .ok (.aload_n 0, 1) := by decide +kernel
theorem dX12_meets_173 : decode cX12_meets 173 = .ok (.getfield 117, 3) := by decide +kernel
theorem dX12_meets_176 : decode cX12_meets 176 = .ok (.iload 4, 2) := by decide +kernel
theorem dX12_meets_178 : decode cX12_meets 178 = .ok (.iaload, 1) := by decide +kernel
theorem dX12_meets_179 : decode cX12_meets 179 = .ok (.ifCond .eq 16, 3) := by decide +kernel
theorem dX12_meets_182 : decode cX12_meets 182 = .ok (.lload 5, 2) := by decide +kernel
theorem dX12_meets_184 : decode cX12_meets 184 = .ok (.aload_n 0, 1) := by decide +kernel
theorem dX12_meets_185 : decode cX12_meets 185 = .ok (.getfield 132, 3) := by decide +kernel
theorem dX12_meets_188 : decode cX12_meets 188 = .ok (.iload 4, 2) := by decide +kernel
theorem dX12_meets_190 : decode cX12_meets 190 = .ok (.laload, 1) := by decide +kernel
theorem dX12_meets_191 : decode cX12_meets 191 = .ok (.lcmp, 1) := by decide +kernel
theorem dX12_meets_192 : decode cX12_meets 192 = .ok (.ifCond .le 8, 3) := by decide +kernel
theorem dX12_meets_195 : decode cX12_meets 195 = .ok (.lload 5, 2) := by decide +kernel
theorem dX12_meets_197 : decode cX12_meets 197 = .ok (.goto 10, 3) := by decide +kernel
theorem dX12_meets_200 : decode cX12_meets 200 = .ok (.aload_n 0, 1) := by decide +kernel
theorem dX12_meets_201 : decode cX12_meets 201 = .ok (.getfield 132, 3) := by decide +kernel
theorem dX12_meets_204 : decode cX12_meets 204 = .ok (.iload 4, 2) := by decide +kernel
theorem dX12_meets_206 : decode cX12_meets 206 = .ok (.laload, 1) := by decide +kernel
theorem dX12_meets_207 : decode cX12_meets 207 = .ok (.lastore, 1) := by decide +kernel
theorem dX12_meets_208 : decode cX12_meets 208 = .ok (.aload_n 0, 1) := by decide +kernel
theorem dX12_meets_209 : decode cX12_meets 209 = .ok (.getfield 117, 3) := by decide +kernel
theorem dX12_meets_212 : decode cX12_meets 212 = .ok (.iload 4, 2) := by decide +kernel
theorem dX12_meets_214 : decode cX12_meets 214 = .ok (.dup2, 1) := by decide +kernel
theorem dX12_meets_215 : decode cX12_meets 215 = .ok (.iaload, 1) := by decide +kernel
theorem dX12_meets_216 : decode cX12_meets 216 = .ok (.iconst 1, 1) := by decide +kernel
theorem dX12_meets_217 : decode cX12_meets 217 = .ok (.iadd, 1) := by decide +kernel
theorem dX12_meets_218 : decode cX12_meets 218 = .ok (.iastore, 1) := by decide +kernel
theorem dX12_meets_219 : decode cX12_meets 219 = .ok (.aload_n 0, 1) := by decide +kernel
theorem dX12_meets_220 : decode cX12_meets 220 = .ok (.getfield 120, 3) := by decide +kernel
theorem dX12_meets_223 : decode cX12_meets 223 = .ok (.iload 4, 2) := by decide +kernel
theorem dX12_meets_225 : decode cX12_meets 225 = .ok (.dup2, 1) := by decide +kernel
theorem dX12_meets_226 : decode cX12_meets 226 = .ok (.iaload, 1) := by decide +kernel
theorem dX12_meets_227 : decode cX12_meets 227 = .ok (.lload 5, 2) := by decide +kernel
theorem dX12_meets_229 : decode cX12_meets 229 = .ok (.lconst 0, 1) := by decide +kernel
theorem dX12_meets_230 : decode cX12_meets 230 = .ok (.lcmp, 1) := by decide +kernel
theorem dX12_meets_231 : decode cX12_meets 231 = .ok (.ifCond .eq 7, 3) := by decide +kernel
theorem dX12_meets_234 : decode cX12_meets 234 = .ok (.iconst 1, 1) := by decide +kernel
theorem dX12_meets_235 : decode cX12_meets 235 = .ok (.goto 4, 3) := by decide +kernel
theorem dX12_meets_238 : decode cX12_meets 238 = .ok (.iconst 0, 1) := by decide +kernel
theorem dX12_meets_239 : decode cX12_meets 239 = .ok (.iadd, 1) := by decide +kernel
theorem dX12_meets_240 : decode cX12_meets 240 = .ok (.iastore, 1) := by decide +kernel
theorem dX12_meets_241 : decode cX12_meets 241 = .ok (.aload_n 0, 1) := by decide +kernel
theorem dX12_meets_242 : decode cX12_meets 242 = .ok (.getfield 123, 3) := by decide +kernel
theorem dX12_meets_245 : decode cX12_meets 245 = .ok (.iload 4, 2) := by decide +kernel
theorem dX12_meets_247 : decode cX12_meets 247 = .ok (.dup2, 1) := by decide +kernel
theorem dX12_meets_248 : decode cX12_meets 248 = .ok (.iaload, 1) := by decide +kernel
theorem dX12_meets_249 : decode cX12_meets 249 = .ok (.lload 5, 2) := by decide +kernel
theorem dX12_meets_251 : decode cX12_meets 251 = .ok (.lconst 0, 1) := by decide +kernel
theorem dX12_meets_252 : decode cX12_meets 252 = .ok (.lcmp, 1) := by decide +kernel
theorem dX12_meets_253 : decode cX12_meets 253 = .ok (.ifCond .le 7, 3) := by decide +kernel
theorem dX12_meets_256 : decode cX12_meets 256 = .ok (.iconst 1, 1) := by decide +kernel
theorem dX12_meets_257 : decode cX12_meets 257 = .ok (.goto 4, 3) := by decide +kernel
theorem dX12_meets_260 : decode cX12_meets 260 = .ok (.iconst 0, 1) := by decide +kernel
theorem dX12_meets_261 : decode cX12_meets 261 = .ok (.iadd, 1) := by decide +kernel
theorem dX12_meets_262 : decode cX12_meets 262 = .ok (.iastore, 1) := by decide +kernel
theorem dX12_meets_263 : decode cX12_meets 263 = .ok (.aload_n 0, 1) := by decide +kernel
theorem dX12_meets_264 : decode cX12_meets 264 = .ok (.getfield 126, 3) := by decide +kernel
theorem dX12_meets_267 : decode cX12_meets 267 = .ok (.iload 4, 2) := by decide +kernel
theorem dX12_meets_269 : decode cX12_meets 269 = .ok (.dup2, 1) := by decide +kernel
theorem dX12_meets_270 : decode cX12_meets 270 = .ok (.laload, 1) := by decide +kernel
theorem dX12_meets_271 : decode cX12_meets 271 = .ok (.lload 5, 2) := by decide +kernel
theorem dX12_meets_273 : decode cX12_meets 273 = .ok (.ladd, 1) := by decide +kernel
theorem dX12_meets_274 : decode cX12_meets 274 = .ok (.lastore, 1) := by decide +kernel
theorem dX12_meets_275 : decode cX12_meets 275 = .ok (.iinc 3 1, 3) := by decide +kernel
theorem dX12_meets_278 : decode cX12_meets 278 = .ok (.goto (-218), 3) := by decide +kernel
theorem dX12_meets_281 : decode cX12_meets 281 = .ok (.iinc 2 1, 3) := by decide +kernel
theorem dX12_meets_284 : decode cX12_meets 284 = .ok (.goto (-234), 3) := by decide +kernel
theorem dX12_meets_287 : decode cX12_meets 287 = .ok (.return_, 1) := by decide +kernel
set_option maxRecDepth 100000 in
set_option maxHeartbeats 4000000 in
theorem t1_X12_meets {h g : ai_H} {wk : Int32} {i j k : Nat} {d : Int64} {Q : Option Value → ai_H → Prop} {V : Md} (hk : k < 256) (E0 : md_ext h g) (hmd : md_at g V) {x b : Int32} (kx : ∀ g : ai_H, md_ext h g → md_at g (md_al (md_ai V 52 (upd (V.2.2.1 52) k (x + b))) 53 (vp_updL (V.2.2.2 53) k (V.2.2.2 53 k + d))) → ai_W MX12_meets 60 [.ref 307, .int wk, .int (nI i), .int (nI (j + 1)), .int (nI k), .long d, .float 0] [] g Q) : ai_W MX12_meets 261 [.ref 307, .int wk, .int (nI i), .int (nI j), .int (nI k), .long d, .float 0] [.int b, .int x, .int (nI k), .ref 345] g Q := by
  refine wq (fun _ _ kk => rs_iadd (pc := 261) dX12_meets_261 kk) ?_
  refine wq (fun _ _ kk => rs_iast (pc := 262) dX12_meets_262 (md_lt hmd (by decide)) (md_geti (d := 37) (k := 52) (kd := 0) (n := 256) rfl (by decide) hmd) (vp_in_nI (n := k) (N := 256) (by omega) (by decide)) kk) ?_
  refine wq_gen (fun h_1 e_1 => ?_)
  obtain ⟨m_1, s_1, g_1, o_1⟩ := ai_e1 e_1
  replace hmd := md_at_ai (d := 37) rfl (by decide) hmd m_1 g_1 o_1
  have E_1 := (E0).trans (md_ext_of m_1 s_1 o_1 (by decide))
  refine wq (fun _ _ kk => rs_aload_n (pc := 263) dX12_meets_263 rfl kk) ?_
  refine wq (fun _ _ kk => rs_getf (pc := 264) dX12_meets_264 fX12_126 (md_lt hmd (by decide)) hmd.2.1 rfl kk) ?_
  refine wq (fun _ _ kk => rs_iload (pc := 267) dX12_meets_267 rfl kk) ?_
  refine wq (fun _ _ kk => rs_dup2 (pc := 269) dX12_meets_269 rfl rfl kk) ?_
  refine wq (fun _ _ kk => rs_lald (pc := 270) dX12_meets_270 (md_lt hmd (by decide)) (md_getl (d := 38) (k := 53) (kd := 1) (n := 256) rfl (by decide) hmd) (vp_in_nI (n := k) (N := 256) (by omega) (by decide)) kk) ?_
  rw [nI_clamp (show k < 2 ^ 31 by omega)]
  refine wq (fun _ _ kk => rs_lload (pc := 271) dX12_meets_271 rfl kk) ?_
  refine wq (fun _ _ kk => rs_ladd (pc := 273) dX12_meets_273 kk) ?_
  refine wq (fun _ _ kk => rs_last (pc := 274) dX12_meets_274 (md_lt hmd (by decide)) (md_getl (d := 38) (k := 53) (kd := 1) (n := 256) rfl (by decide) hmd) (vp_in_nI (n := k) (N := 256) (by omega) (by decide)) kk) ?_
  refine wq_gen (fun h_2 e_2 => ?_)
  obtain ⟨m_2, s_2, g_2, o_2⟩ := ai_e1 e_2
  replace hmd := md_at_al (d := 38) rfl (by decide) hmd m_2 g_2 o_2
  have E_2 := (E_1).trans (md_ext_of m_2 s_2 o_2 (by decide))
  refine wq (fun _ _ kk => wk_iinc3 (v := nI (j + 1)) (pc := 275) dX12_meets_275 (by decide) rfl (nI_1 j) kk) ?_
  refine wq (fun _ _ kk => rs_goto (tgt := 60) (pc := 278) dX12_meets_278 rfl kk) ?_
  rw [nI_clamp (show k < 2 ^ 31 by omega)] at hmd
  exact kx _ (E_2) hmd
set_option maxRecDepth 100000 in
set_option maxHeartbeats 4000000 in
theorem t2_X12_meets {h g : ai_H} {wk : Int32} {i j k : Nat} {d : Int64} {Q : Option Value → ai_H → Prop} {V : Md} (hk : k < 256) (E0 : md_ext h g) (hmd : md_at g V) {x b : Int32} (kx : ∀ g : ai_H, md_ext h g → md_at g (md_al (md_ai (md_ai V 51 (upd (V.2.2.1 51) k (x + b))) 52 (upd (V.2.2.1 52) k (V.2.2.1 52 k + (if d ≤ 0 then 0 else 1)))) 53 (vp_updL (V.2.2.2 53) k (V.2.2.2 53 k + d))) → ai_W MX12_meets 60 [.ref 307, .int wk, .int (nI i), .int (nI (j + 1)), .int (nI k), .long d, .float 0] [] g Q) : ai_W MX12_meets 239 [.ref 307, .int wk, .int (nI i), .int (nI j), .int (nI k), .long d, .float 0] [.int b, .int x, .int (nI k), .ref 344] g Q := by
  refine wq (fun _ _ kk => rs_iadd (pc := 239) dX12_meets_239 kk) ?_
  refine wq (fun _ _ kk => rs_iast (pc := 240) dX12_meets_240 (md_lt hmd (by decide)) (md_geti (d := 36) (k := 51) (kd := 0) (n := 256) rfl (by decide) hmd) (vp_in_nI (n := k) (N := 256) (by omega) (by decide)) kk) ?_
  refine wq_gen (fun h_1 e_1 => ?_)
  obtain ⟨m_1, s_1, g_1, o_1⟩ := ai_e1 e_1
  replace hmd := md_at_ai (d := 36) rfl (by decide) hmd m_1 g_1 o_1
  have E_1 := (E0).trans (md_ext_of m_1 s_1 o_1 (by decide))
  refine wq (fun _ _ kk => rs_aload_n (pc := 241) dX12_meets_241 rfl kk) ?_
  refine wq (fun _ _ kk => rs_getf (pc := 242) dX12_meets_242 fX12_123 (md_lt hmd (by decide)) hmd.2.1 rfl kk) ?_
  refine wq (fun _ _ kk => rs_iload (pc := 245) dX12_meets_245 rfl kk) ?_
  refine wq (fun _ _ kk => rs_dup2 (pc := 247) dX12_meets_247 rfl rfl kk) ?_
  refine wq (fun _ _ kk => rs_iald (pc := 248) dX12_meets_248 (md_lt hmd (by decide)) (md_geti (d := 37) (k := 52) (kd := 0) (n := 256) rfl (by decide) hmd) (vp_in_nI (n := k) (N := 256) (by omega) (by decide)) kk) ?_
  rw [nI_clamp (show k < 2 ^ 31 by omega)]
  refine wq (fun _ _ kk => rs_lload (pc := 249) dX12_meets_249 rfl kk) ?_
  refine wq (fun _ _ kk => rs_lconst (v := 0) (pc := 251) dX12_meets_251 rfl kk) ?_
  refine wq_br (fun _ _ kt kf => wk_lcmp_le (tgt := 260) (pc := 252) dX12_meets_252 dX12_meets_253 rfl kt kf) (fun c_252 => ?_) (fun c_252 => ?_)
  · refine wq (fun _ _ kk => rs_iconst (v := 0) (pc := 260) dX12_meets_260 rfl kk) ?_
    rw [nI_clamp (show k < 2 ^ 31 by omega)] at hmd
    refine wq_ti (show _ = (if d ≤ 0 then (0 : Int32) else 1) from by simp [c_252]) (t1_X12_meets hk (E_1) hmd ?_)
    exact kx
  · refine wq (fun _ _ kk => rs_iconst (v := 1) (pc := 256) dX12_meets_256 rfl kk) ?_
    refine wq (fun _ _ kk => rs_goto (tgt := 261) (pc := 257) dX12_meets_257 rfl kk) ?_
    rw [nI_clamp (show k < 2 ^ 31 by omega)] at hmd
    refine wq_ti (show _ = (if d ≤ 0 then (0 : Int32) else 1) from by simp [c_252]) (t1_X12_meets hk (E_1) hmd ?_)
    exact kx
set_option maxRecDepth 100000 in
set_option maxHeartbeats 4000000 in
theorem t3_X12_meets {h g : ai_H} {wk : Int32} {i j k : Nat} {d : Int64} {Q : Option Value → ai_H → Prop} {V : Md} (hk : k < 256) (E0 : md_ext h g) (hmd : md_at g V) {v : Int64} (kx : ∀ g : ai_H, md_ext h g → md_at g (md_al (md_ai (md_ai (md_ai (md_al V 55 (vp_updL (V.2.2.2 55) k v)) 50 (upd (V.2.2.1 50) k (V.2.2.1 50 k + 1))) 51 (upd (V.2.2.1 51) k (V.2.2.1 51 k + (if d = 0 then 0 else 1)))) 52 (upd (V.2.2.1 52) k (V.2.2.1 52 k + (if d ≤ 0 then 0 else 1)))) 53 (vp_updL (V.2.2.2 53) k (V.2.2.2 53 k + d))) → ai_W MX12_meets 60 [.ref 307, .int wk, .int (nI i), .int (nI (j + 1)), .int (nI k), .long d, .float 0] [] g Q) : ai_W MX12_meets 207 [.ref 307, .int wk, .int (nI i), .int (nI j), .int (nI k), .long d, .float 0] [.long v, .int (nI k), .ref 348] g Q := by
  refine wq (fun _ _ kk => rs_last (pc := 207) dX12_meets_207 (md_lt hmd (by decide)) (md_getl (d := 40) (k := 55) (kd := 1) (n := 256) rfl (by decide) hmd) (vp_in_nI (n := k) (N := 256) (by omega) (by decide)) kk) ?_
  refine wq_gen (fun h_1 e_1 => ?_)
  obtain ⟨m_1, s_1, g_1, o_1⟩ := ai_e1 e_1
  replace hmd := md_at_al (d := 40) rfl (by decide) hmd m_1 g_1 o_1
  have E_1 := (E0).trans (md_ext_of m_1 s_1 o_1 (by decide))
  refine wq (fun _ _ kk => rs_aload_n (pc := 208) dX12_meets_208 rfl kk) ?_
  refine wq (fun _ _ kk => rs_getf (pc := 209) dX12_meets_209 fX12_117 (md_lt hmd (by decide)) hmd.2.1 rfl kk) ?_
  refine wq (fun _ _ kk => rs_iload (pc := 212) dX12_meets_212 rfl kk) ?_
  refine wq (fun _ _ kk => rs_dup2 (pc := 214) dX12_meets_214 rfl rfl kk) ?_
  refine wq (fun _ _ kk => rs_iald (pc := 215) dX12_meets_215 (md_lt hmd (by decide)) (md_geti (d := 35) (k := 50) (kd := 0) (n := 256) rfl (by decide) hmd) (vp_in_nI (n := k) (N := 256) (by omega) (by decide)) kk) ?_
  rw [nI_clamp (show k < 2 ^ 31 by omega)]
  refine wq (fun _ _ kk => rs_iconst (v := 1) (pc := 216) dX12_meets_216 rfl kk) ?_
  refine wq (fun _ _ kk => rs_iadd (pc := 217) dX12_meets_217 kk) ?_
  refine wq (fun _ _ kk => rs_iast (pc := 218) dX12_meets_218 (md_lt hmd (by decide)) (md_geti (d := 35) (k := 50) (kd := 0) (n := 256) rfl (by decide) hmd) (vp_in_nI (n := k) (N := 256) (by omega) (by decide)) kk) ?_
  refine wq_gen (fun h_2 e_2 => ?_)
  obtain ⟨m_2, s_2, g_2, o_2⟩ := ai_e1 e_2
  replace hmd := md_at_ai (d := 35) rfl (by decide) hmd m_2 g_2 o_2
  have E_2 := (E_1).trans (md_ext_of m_2 s_2 o_2 (by decide))
  refine wq (fun _ _ kk => rs_aload_n (pc := 219) dX12_meets_219 rfl kk) ?_
  refine wq (fun _ _ kk => rs_getf (pc := 220) dX12_meets_220 fX12_120 (md_lt hmd (by decide)) hmd.2.1 rfl kk) ?_
  refine wq (fun _ _ kk => rs_iload (pc := 223) dX12_meets_223 rfl kk) ?_
  refine wq (fun _ _ kk => rs_dup2 (pc := 225) dX12_meets_225 rfl rfl kk) ?_
  refine wq (fun _ _ kk => rs_iald (pc := 226) dX12_meets_226 (md_lt hmd (by decide)) (md_geti (d := 36) (k := 51) (kd := 0) (n := 256) rfl (by decide) hmd) (vp_in_nI (n := k) (N := 256) (by omega) (by decide)) kk) ?_
  rw [nI_clamp (show k < 2 ^ 31 by omega)]
  refine wq (fun _ _ kk => rs_lload (pc := 227) dX12_meets_227 rfl kk) ?_
  refine wq (fun _ _ kk => rs_lconst (v := 0) (pc := 229) dX12_meets_229 rfl kk) ?_
  refine wq_br (fun _ _ kt kf => wk_lcmp_eq (tgt := 238) (pc := 230) dX12_meets_230 dX12_meets_231 rfl kt kf) (fun c_230 => ?_) (fun c_230 => ?_)
  · refine wq (fun _ _ kk => rs_iconst (v := 0) (pc := 238) dX12_meets_238 rfl kk) ?_
    rw [nI_clamp (show k < 2 ^ 31 by omega)] at hmd
    refine wq_ti (show _ = (if d = 0 then (0 : Int32) else 1) from by simp [c_230]) (t2_X12_meets hk (E_2) hmd ?_)
    exact kx
  · refine wq (fun _ _ kk => rs_iconst (v := 1) (pc := 234) dX12_meets_234 rfl kk) ?_
    refine wq (fun _ _ kk => rs_goto (tgt := 239) (pc := 235) dX12_meets_235 rfl kk) ?_
    rw [nI_clamp (show k < 2 ^ 31 by omega)] at hmd
    refine wq_ti (show _ = (if d = 0 then (0 : Int32) else 1) from by simp [c_230]) (t2_X12_meets hk (E_2) hmd ?_)
    exact kx
theorem hi_of {m : Int32} {l d v : Int64} (h : (m = 0 ∧ v = d) ∨ (¬ m = 0 ∧ d ≤ l ∧ v = l) ∨ (¬ m = 0 ∧ ¬ d ≤ l ∧ v = d)) : v = ty_hi m l d := by
  unfold ty_hi bi_maxL
  rcases h with ⟨h1, h2⟩ | ⟨h1, h2, h3⟩ | ⟨h1, h2, h3⟩
  · rw [if_pos h1, h2]
  · rw [if_neg h1, if_neg (Int64.not_lt.mpr h2), h3]
  · rw [if_neg h1, if_pos (Int64.not_le.mp h2), h3]
theorem lo_of {m : Int32} {l d v : Int64} (h : (m = 0 ∧ v = d) ∨ (¬ m = 0 ∧ l ≤ d ∧ v = l) ∨ (¬ m = 0 ∧ ¬ l ≤ d ∧ v = d)) : v = ty_lo m l d := by
  unfold ty_lo bi_minL
  rcases h with ⟨h1, h2⟩ | ⟨h1, h2, h3⟩ | ⟨h1, h2, h3⟩
  · rw [if_pos h1, h2]
  · rw [if_neg h1, if_neg (Int64.not_lt.mpr h2), h3]
  · rw [if_neg h1, if_pos (Int64.not_le.mp h2), h3]
set_option maxRecDepth 100000 in
set_option maxHeartbeats 4000000 in
theorem t4_X12_meets {h g : ai_H} {wk : Int32} {i j k : Nat} {d : Int64} {Q : Option Value → ai_H → Prop} {V : Md} (hk : k < 256) (E0 : md_ext h g) (hmd : md_at g V) {v : Int64} (kx : ∀ g : ai_H, md_ext h g → md_at g (md_al (md_ai (md_ai (md_ai (md_al (md_al V 54 (vp_updL (V.2.2.2 54) k v)) 55 (vp_updL (V.2.2.2 55) k (ty_hi (V.2.2.1 50 k) (V.2.2.2 55 k) d))) 50 (upd (V.2.2.1 50) k (V.2.2.1 50 k + 1))) 51 (upd (V.2.2.1 51) k (V.2.2.1 51 k + (if d = 0 then 0 else 1)))) 52 (upd (V.2.2.1 52) k (V.2.2.1 52 k + (if d ≤ 0 then 0 else 1)))) 53 (vp_updL (V.2.2.2 53) k (V.2.2.2 53 k + d))) → ai_W MX12_meets 60 [.ref 307, .int wk, .int (nI i), .int (nI (j + 1)), .int (nI k), .long d, .float 0] [] g Q) : ai_W MX12_meets 165 [.ref 307, .int wk, .int (nI i), .int (nI j), .int (nI k), .long d, .float 0] [.long v, .int (nI k), .ref 347] g Q := by
  refine wq (fun _ _ kk => rs_last (pc := 165) dX12_meets_165 (md_lt hmd (by decide)) (md_getl (d := 39) (k := 54) (kd := 1) (n := 256) rfl (by decide) hmd) (vp_in_nI (n := k) (N := 256) (by omega) (by decide)) kk) ?_
  refine wq_gen (fun h_1 e_1 => ?_)
  obtain ⟨m_1, s_1, g_1, o_1⟩ := ai_e1 e_1
  replace hmd := md_at_al (d := 39) rfl (by decide) hmd m_1 g_1 o_1
  have E_1 := (E0).trans (md_ext_of m_1 s_1 o_1 (by decide))
  refine wq (fun _ _ kk => rs_aload_n (pc := 166) dX12_meets_166 rfl kk) ?_
  refine wq (fun _ _ kk => rs_getf (pc := 167) dX12_meets_167 fX12_132 (md_lt hmd (by decide)) hmd.2.1 rfl kk) ?_
  refine wq (fun _ _ kk => rs_iload (pc := 170) dX12_meets_170 rfl kk) ?_
  refine wq (fun _ _ kk => rs_aload_n (pc := 172) dX12_meets_172 rfl kk) ?_
  refine wq (fun _ _ kk => rs_getf (pc := 173) dX12_meets_173 fX12_117 (md_lt hmd (by decide)) hmd.2.1 rfl kk) ?_
  refine wq (fun _ _ kk => rs_iload (pc := 176) dX12_meets_176 rfl kk) ?_
  refine wq (fun _ _ kk => rs_iald (pc := 178) dX12_meets_178 (md_lt hmd (by decide)) (md_geti (d := 35) (k := 50) (kd := 0) (n := 256) rfl (by decide) hmd) (vp_in_nI (n := k) (N := 256) (by omega) (by decide)) kk) ?_
  rw [nI_clamp (show k < 2 ^ 31 by omega)]
  refine wq_br (fun _ _ kt kf => rs_if_eq (tgt := 195) (pc := 179) dX12_meets_179 rfl kt kf) (fun c_179 => ?_) (fun c_179 => ?_)
  · refine wq (fun _ _ kk => rs_lload (pc := 195) dX12_meets_195 rfl kk) ?_
    refine wq (fun _ _ kk => rs_goto (tgt := 207) (pc := 197) dX12_meets_197 rfl kk) ?_
    rw [nI_clamp (show k < 2 ^ 31 by omega)] at hmd
    refine wq_tl (show _ = ty_hi (V.2.2.1 50 k) (V.2.2.2 55 k) d from ?_) (t3_X12_meets hk (E_1) hmd ?_)
    · exact hi_of (by first | exact Or.inl ⟨c_179, rfl⟩ | exact Or.inr (Or.inl ⟨c_179, c_191, rfl⟩) | exact Or.inr (Or.inr ⟨c_179, c_191, rfl⟩))
    · exact kx
  · refine wq (fun _ _ kk => rs_lload (pc := 182) dX12_meets_182 rfl kk) ?_
    refine wq (fun _ _ kk => rs_aload_n (pc := 184) dX12_meets_184 rfl kk) ?_
    refine wq (fun _ _ kk => rs_getf (pc := 185) dX12_meets_185 fX12_132 (md_lt hmd (by decide)) hmd.2.1 rfl kk) ?_
    refine wq (fun _ _ kk => rs_iload (pc := 188) dX12_meets_188 rfl kk) ?_
    refine wq (fun _ _ kk => rs_lald (pc := 190) dX12_meets_190 (md_lt hmd (by decide)) (md_getl (d := 40) (k := 55) (kd := 1) (n := 256) rfl (by decide) hmd) (vp_in_nI (n := k) (N := 256) (by omega) (by decide)) kk) ?_
    rw [nI_clamp (show k < 2 ^ 31 by omega)]
    refine wq_br (fun _ _ kt kf => wk_lcmp_le (tgt := 200) (pc := 191) dX12_meets_191 dX12_meets_192 rfl kt kf) (fun c_191 => ?_) (fun c_191 => ?_)
    · refine wq (fun _ _ kk => rs_aload_n (pc := 200) dX12_meets_200 rfl kk) ?_
      refine wq (fun _ _ kk => rs_getf (pc := 201) dX12_meets_201 fX12_132 (md_lt hmd (by decide)) hmd.2.1 rfl kk) ?_
      refine wq (fun _ _ kk => rs_iload (pc := 204) dX12_meets_204 rfl kk) ?_
      refine wq (fun _ _ kk => rs_lald (pc := 206) dX12_meets_206 (md_lt hmd (by decide)) (md_getl (d := 40) (k := 55) (kd := 1) (n := 256) rfl (by decide) hmd) (vp_in_nI (n := k) (N := 256) (by omega) (by decide)) kk) ?_
      rw [nI_clamp (show k < 2 ^ 31 by omega)]
      rw [nI_clamp (show k < 2 ^ 31 by omega)] at hmd
      refine wq_tl (show _ = ty_hi (V.2.2.1 50 k) (V.2.2.2 55 k) d from ?_) (t3_X12_meets hk (E_1) hmd ?_)
      · exact hi_of (by first | exact Or.inl ⟨c_179, rfl⟩ | exact Or.inr (Or.inl ⟨c_179, c_191, rfl⟩) | exact Or.inr (Or.inr ⟨c_179, c_191, rfl⟩))
      · exact kx
    · refine wq (fun _ _ kk => rs_lload (pc := 195) dX12_meets_195 rfl kk) ?_
      refine wq (fun _ _ kk => rs_goto (tgt := 207) (pc := 197) dX12_meets_197 rfl kk) ?_
      rw [nI_clamp (show k < 2 ^ 31 by omega)] at hmd
      refine wq_tl (show _ = ty_hi (V.2.2.1 50 k) (V.2.2.2 55 k) d from ?_) (t3_X12_meets hk (E_1) hmd ?_)
      · exact hi_of (by first | exact Or.inl ⟨c_179, rfl⟩ | exact Or.inr (Or.inl ⟨c_179, c_191, rfl⟩) | exact Or.inr (Or.inr ⟨c_179, c_191, rfl⟩))
      · exact kx
set_option maxRecDepth 100000 in
set_option maxHeartbeats 4000000 in
theorem t5_X12_meets {h g : ai_H} {wk : Int32} {i j k : Nat} {d : Int64} {Q : Option Value → ai_H → Prop} {V : Md} (hk : k < 256) (E0 : md_ext h g) (hmd : md_at g V) (kx : ∀ g : ai_H, md_ext h g → md_at g (md_al (md_ai (md_ai (md_ai (md_al (md_al V 54 (vp_updL (V.2.2.2 54) k (ty_lo (V.2.2.1 50 k) (V.2.2.2 54 k) d))) 55 (vp_updL (V.2.2.2 55) k (ty_hi (V.2.2.1 50 k) (V.2.2.2 55 k) d))) 50 (upd (V.2.2.1 50) k (V.2.2.1 50 k + 1))) 51 (upd (V.2.2.1 51) k (V.2.2.1 51 k + (if d = 0 then 0 else 1)))) 52 (upd (V.2.2.1 52) k (V.2.2.1 52 k + (if d ≤ 0 then 0 else 1)))) 53 (vp_updL (V.2.2.2 53) k (V.2.2.2 53 k + d))) → ai_W MX12_meets 60 [.ref 307, .int wk, .int (nI i), .int (nI (j + 1)), .int (nI k), .long d, .float 0] [] g Q) : ai_W MX12_meets 124 [.ref 307, .int wk, .int (nI i), .int (nI j), .int (nI k), .long d, .float 0] [] g Q := by
  refine wq (fun _ _ kk => rs_aload_n (pc := 124) dX12_meets_124 rfl kk) ?_
  refine wq (fun _ _ kk => rs_getf (pc := 125) dX12_meets_125 fX12_129 (md_lt hmd (by decide)) hmd.2.1 rfl kk) ?_
  refine wq (fun _ _ kk => rs_iload (pc := 128) dX12_meets_128 rfl kk) ?_
  refine wq (fun _ _ kk => rs_aload_n (pc := 130) dX12_meets_130 rfl kk) ?_
  refine wq (fun _ _ kk => rs_getf (pc := 131) dX12_meets_131 fX12_117 (md_lt hmd (by decide)) hmd.2.1 rfl kk) ?_
  refine wq (fun _ _ kk => rs_iload (pc := 134) dX12_meets_134 rfl kk) ?_
  refine wq (fun _ _ kk => rs_iald (pc := 136) dX12_meets_136 (md_lt hmd (by decide)) (md_geti (d := 35) (k := 50) (kd := 0) (n := 256) rfl (by decide) hmd) (vp_in_nI (n := k) (N := 256) (by omega) (by decide)) kk) ?_
  rw [nI_clamp (show k < 2 ^ 31 by omega)]
  refine wq_br (fun _ _ kt kf => rs_if_eq (tgt := 153) (pc := 137) dX12_meets_137 rfl kt kf) (fun c_137 => ?_) (fun c_137 => ?_)
  · refine wq (fun _ _ kk => rs_lload (pc := 153) dX12_meets_153 rfl kk) ?_
    refine wq (fun _ _ kk => rs_goto (tgt := 165) (pc := 155) dX12_meets_155 rfl kk) ?_
    refine wq_tl (show _ = ty_lo (V.2.2.1 50 k) (V.2.2.2 54 k) d from ?_) (t4_X12_meets hk (E0) hmd ?_)
    · exact lo_of (by first | exact Or.inl ⟨c_137, rfl⟩ | exact Or.inr (Or.inl ⟨c_137, c_149, rfl⟩) | exact Or.inr (Or.inr ⟨c_137, c_149, rfl⟩))
    · exact kx
  · refine wq (fun _ _ kk => rs_lload (pc := 140) dX12_meets_140 rfl kk) ?_
    refine wq (fun _ _ kk => rs_aload_n (pc := 142) dX12_meets_142 rfl kk) ?_
    refine wq (fun _ _ kk => rs_getf (pc := 143) dX12_meets_143 fX12_129 (md_lt hmd (by decide)) hmd.2.1 rfl kk) ?_
    refine wq (fun _ _ kk => rs_iload (pc := 146) dX12_meets_146 rfl kk) ?_
    refine wq (fun _ _ kk => rs_lald (pc := 148) dX12_meets_148 (md_lt hmd (by decide)) (md_getl (d := 39) (k := 54) (kd := 1) (n := 256) rfl (by decide) hmd) (vp_in_nI (n := k) (N := 256) (by omega) (by decide)) kk) ?_
    rw [nI_clamp (show k < 2 ^ 31 by omega)]
    refine wq_br (fun _ _ kt kf => wk_lcmp_ge (tgt := 158) (pc := 149) dX12_meets_149 dX12_meets_150 rfl kt kf) (fun c_149 => ?_) (fun c_149 => ?_)
    · refine wq (fun _ _ kk => rs_aload_n (pc := 158) dX12_meets_158 rfl kk) ?_
      refine wq (fun _ _ kk => rs_getf (pc := 159) dX12_meets_159 fX12_129 (md_lt hmd (by decide)) hmd.2.1 rfl kk) ?_
      refine wq (fun _ _ kk => rs_iload (pc := 162) dX12_meets_162 rfl kk) ?_
      refine wq (fun _ _ kk => rs_lald (pc := 164) dX12_meets_164 (md_lt hmd (by decide)) (md_getl (d := 39) (k := 54) (kd := 1) (n := 256) rfl (by decide) hmd) (vp_in_nI (n := k) (N := 256) (by omega) (by decide)) kk) ?_
      rw [nI_clamp (show k < 2 ^ 31 by omega)]
      refine wq_tl (show _ = ty_lo (V.2.2.1 50 k) (V.2.2.2 54 k) d from ?_) (t4_X12_meets hk (E0) hmd ?_)
      · exact lo_of (by first | exact Or.inl ⟨c_137, rfl⟩ | exact Or.inr (Or.inl ⟨c_137, c_149, rfl⟩) | exact Or.inr (Or.inr ⟨c_137, c_149, rfl⟩))
      · exact kx
    · refine wq (fun _ _ kk => rs_lload (pc := 153) dX12_meets_153 rfl kk) ?_
      refine wq (fun _ _ kk => rs_goto (tgt := 165) (pc := 155) dX12_meets_155 rfl kk) ?_
      refine wq_tl (show _ = ty_lo (V.2.2.1 50 k) (V.2.2.2 54 k) d from ?_) (t4_X12_meets hk (E0) hmd ?_)
      · exact lo_of (by first | exact Or.inl ⟨c_137, rfl⟩ | exact Or.inr (Or.inl ⟨c_137, c_149, rfl⟩) | exact Or.inr (Or.inr ⟨c_137, c_149, rfl⟩))
      · exact kx
set_option maxRecDepth 100000 in
set_option maxHeartbeats 4000000 in
theorem l1_X12_meets {h : ai_H} {B : Bk} {lm : Nat} {wk wk2 : Int32} {T : Md} {q : Nat} (hok : bk_ok B lm) (hq : q ≤ 400) (eq : T.1 40 = nI q) (hSI : SI B wk T (nR B) (nR B) q) {i : Nat} {Q : Option Value → ai_H → Prop} (hi : i < q) (kx : ∀ (g : ai_H) (u4 u5 : Value) (V : Md), md_ext h g → md_at g V → mg T V → MI T q (i * q + q) V → ai_W MX12_meets 281 [.ref 307, .int wk2, .int (nI i), .int (nI q), u4, u5, .float 0] [] g Q) : ∀ (m j : Nat) (u4 u5 : Value) (g : ai_H) (V : Md), j ≤ q → q + 1 ≤ j + m → md_ext h g → md_at g V → mg T V → MI T q (i * q + j) V → ai_W MX12_meets 60 [.ref 307, .int wk2, .int (nI i), .int (nI j), u4, u5, .float 0] [] g Q := by
  intro m
  induction m with
  | zero => intro j u4 u5 g V h1 h2; exact absurd h2 (by omega)
  | succ m ih =>
    intro j u4 u5 g V hj0 him E0 hmd hmg hMI
    have ec : V.1 40 = nI q := by rw [hmg.1]; exact eq
    refine wq (fun _ _ kk => rs_iload_n (pc := 60) dX12_meets_60 rfl kk) ?_
    refine wq (fun _ _ kk => rs_aload_n (pc := 61) dX12_meets_61 rfl kk) ?_
    refine wq (fun _ _ kk => rs_getf (pc := 62) dX12_meets_62 fX12_398 (md_lt hmd (by decide)) hmd.2.1 rfl kk) ?_
    refine wq_br (fun _ _ kt kf => rs_icmp_ge (tgt := 281) (pc := 65) dX12_meets_65 rfl kt kf) (fun c_65 => ?_) (fun c_65 => ?_)
    · have hje : j = q := lp_exit ec (by omega) hj0 c_65
      subst hje
      exact kx g _ _ V E0 hmd hmg hMI
    · have hj : j < q := lp_go ec (by omega) c_65
      obtain ⟨⟨a, ha, ea⟩, -, ⟨ma, ma1, ma2, ema⟩⟩ := SI_facts hok hSI hi
      obtain ⟨⟨b, hb, eb⟩, -, ⟨mb, mb1, mb2, emb⟩⟩ := SI_facts hok hSI hj
      have et : (i * q + j) / q = i ∧ (i * q + j) % q = j := by
        refine ⟨?_, ?_⟩
        · rw [Nat.mul_comm, Nat.mul_add_div (by omega), Nat.div_eq_of_lt hj, Nat.add_zero]
        · rw [Nat.mul_comm, Nat.mul_add_mod, Nat.mod_eq_of_lt hj]
      have e41 := hmg.2.2.1 41 (by omega)
      have e45 := hmg.2.2.1 45 (by omega)
      have e48 := hmg.2.2.2 48 (by omega)
      refine wq (fun _ _ kk => rs_aload_n (pc := 68) dX12_meets_68 rfl kk) ?_
      refine wq (fun _ _ kk => rs_iload_n (pc := 69) dX12_meets_69 rfl kk) ?_
      refine wq (fun _ _ kk => rs_iload_n (pc := 70) dX12_meets_70 rfl kk) ?_
      refine wq (fun _ _ kk => rs_callV (as := [_, _]) (pc := 71) dX12_meets_71 mk_X12_meet mlX12_410 in_X12_meet se_X12_meet rfl (md_lt hmd (by decide)) hmd.2.1 rfl rfl (Nat.le_of_ble_eq_true rfl) (c_X12_meet hmd (show i < 400 by omega) (show j < 400 by omega)) kk) ?_
      rw [hmg.meet]
      refine wq_br (fun _ _ kt kf => rs_if_eq (tgt := 275) (pc := 74) dX12_meets_74 rfl kt kf) (fun c_74 => ?_) (fun c_74 => ?_)
      · have hf : ms_meet T i j = false := by cases hmm : ms_meet T i j with
          | false => rfl
          | true => rw [hmm] at c_74; exact absurd c_74 (by decide)
        refine wq (fun _ _ kk => wk_iinc3 (v := nI (j + 1)) (pc := 275) dX12_meets_275 (by decide) rfl (nI_1 j) kk) ?_
        refine wq (fun _ _ kk => rs_goto (tgt := 60) (pc := 278) dX12_meets_278 rfl kk) ?_
        exact ih (j + 1) _ _ _ _ (by omega) (by omega) E0 hmd hmg (MI_no (t := i * q + j) hMI (by rw [et.1, et.2]; exact hf))
      · have ht : ms_meet T i j = true := by cases hmm : ms_meet T i j with
          | true => rfl
          | false => rw [hmm] at c_74; exact absurd rfl c_74
        refine wq (fun _ _ kk => rs_bipush (v := 16) (pc := 77) dX12_meets_77 rfl kk) ?_
        refine wq (fun _ _ kk => rs_aload_n (pc := 79) dX12_meets_79 rfl kk) ?_
        refine wq (fun _ _ kk => rs_getf (pc := 80) dX12_meets_80 fX12_90 (md_lt hmd (by decide)) hmd.2.1 rfl kk) ?_
        refine wq (fun _ _ kk => rs_iload_n (pc := 83) dX12_meets_83 rfl kk) ?_
        refine wq (fun _ _ kk => rs_iald (pc := 84) dX12_meets_84 (md_lt hmd (by decide)) (md_geti (d := 26) (k := 41) (kd := 0) (n := 400) rfl (by decide) hmd) (vp_in_nI (n := i) (N := 400) (by omega) (by decide)) kk) ?_
        rw [nI_clamp (show i < 2 ^ 31 by omega), e41, ea]
        refine wq (fun _ _ kk => rs_imul (pc := 85) dX12_meets_85 kk) ?_
        refine wq (fun _ _ kk => rs_aload_n (pc := 86) dX12_meets_86 rfl kk) ?_
        refine wq (fun _ _ kk => rs_getf (pc := 87) dX12_meets_87 fX12_90 (md_lt hmd (by decide)) hmd.2.1 rfl kk) ?_
        refine wq (fun _ _ kk => rs_iload_n (pc := 90) dX12_meets_90 rfl kk) ?_
        refine wq (fun _ _ kk => rs_iald (pc := 91) dX12_meets_91 (md_lt hmd (by decide)) (md_geti (d := 26) (k := 41) (kd := 0) (n := 400) rfl (by decide) hmd) (vp_in_nI (n := j) (N := 400) (by omega) (by decide)) kk) ?_
        rw [nI_clamp (show j < 2 ^ 31 by omega), e41, eb]
        refine wq (fun _ _ kk => rs_iadd (pc := 92) dX12_meets_92 kk) ?_
        rw [show (16 : Int32) * nI a + nI b = nI (16 * a + b) from by rw [show (16 : Int32) = nI 16 from rfl, pk_mul, nI_add]]
        refine wq (fun _ _ kk => wk_ist4 (pc := 93) dX12_meets_93 (by decide) rfl kk) ?_
        refine wq (fun _ _ kk => rs_aload_n (pc := 95) dX12_meets_95 rfl kk) ?_
        refine wq (fun _ _ kk => rs_getf (pc := 96) dX12_meets_96 fX12_111 (md_lt hmd (by decide)) hmd.2.1 rfl kk) ?_
        refine wq (fun _ _ kk => rs_iload_n (pc := 99) dX12_meets_99 rfl kk) ?_
        refine wq (fun _ _ kk => rs_lald (pc := 100) dX12_meets_100 (md_lt hmd (by decide)) (md_getl (d := 33) (k := 48) (kd := 1) (n := 400) rfl (by decide) hmd) (vp_in_nI (n := i) (N := 400) (by omega) (by decide)) kk) ?_
        rw [nI_clamp (show i < 2 ^ 31 by omega)]
        refine wq (fun _ _ kk => rs_aload_n (pc := 101) dX12_meets_101 rfl kk) ?_
        refine wq (fun _ _ kk => rs_getf (pc := 102) dX12_meets_102 fX12_102 (md_lt hmd (by decide)) hmd.2.1 rfl kk) ?_
        refine wq (fun _ _ kk => rs_iload_n (pc := 105) dX12_meets_105 rfl kk) ?_
        refine wq (fun _ _ kk => rs_iald (pc := 106) dX12_meets_106 (md_lt hmd (by decide)) (md_geti (d := 30) (k := 45) (kd := 0) (n := 400) rfl (by decide) hmd) (vp_in_nI (n := i) (N := 400) (by omega) (by decide)) kk) ?_
        rw [nI_clamp (show i < 2 ^ 31 by omega)]
        refine wq (fun _ _ kk => rs_aload_n (pc := 107) dX12_meets_107 rfl kk) ?_
        refine wq (fun _ _ kk => rs_getf (pc := 108) dX12_meets_108 fX12_111 (md_lt hmd (by decide)) hmd.2.1 rfl kk) ?_
        refine wq (fun _ _ kk => rs_iload_n (pc := 111) dX12_meets_111 rfl kk) ?_
        refine wq (fun _ _ kk => rs_lald (pc := 112) dX12_meets_112 (md_lt hmd (by decide)) (md_getl (d := 33) (k := 48) (kd := 1) (n := 400) rfl (by decide) hmd) (vp_in_nI (n := j) (N := 400) (by omega) (by decide)) kk) ?_
        rw [nI_clamp (show j < 2 ^ 31 by omega)]
        refine wq (fun _ _ kk => rs_aload_n (pc := 113) dX12_meets_113 rfl kk) ?_
        refine wq (fun _ _ kk => rs_getf (pc := 114) dX12_meets_114 fX12_102 (md_lt hmd (by decide)) hmd.2.1 rfl kk) ?_
        refine wq (fun _ _ kk => rs_iload_n (pc := 117) dX12_meets_117 rfl kk) ?_
        refine wq (fun _ _ kk => rs_iald (pc := 118) dX12_meets_118 (md_lt hmd (by decide)) (md_geti (d := 30) (k := 45) (kd := 0) (n := 400) rfl (by decide) hmd) (vp_in_nI (n := j) (N := 400) (by omega) (by decide)) kk) ?_
        rw [nI_clamp (show j < 2 ^ 31 by omega)]
        refine wq (fun _ _ kk => rs_callS (as := [_, _, _, _]) (pc := 119) dX12_meets_119 mk_X12_differ mlX12_413 st_X12_differ rfl rfl (Nat.le_of_ble_eq_true rfl) (c_X12_differ (by rw [e45, ema, emb]; exact nI_mul_ne ma1 ma2 mb1 mb2)) kk) ?_
        refine wq (fun _ _ kk => wk_lst5 (pc := 122) dX12_meets_122 (by decide) rfl kk) ?_
        refine t5_X12_meets (h := h) (k := 16 * a + b) (by omega) E0 hmd (fun g E hmd => ?_)
        have ek : (16 * a + b) / 16 = a ∧ (16 * a + b) % 16 = b := by omega
        have ed : ms_dif (V.2.2.2 48 i) (V.2.2.1 45 i) (V.2.2.2 48 j) (V.2.2.1 45 j) = mdf T q (i * q + j) := by
          unfold mdf
          rw [et.1, et.2, e45, e48]
        refine ih (j + 1) _ _ _ _ (by omega) (by omega) E hmd ?_ ?_
        · exact ((((((hmg.al (by decide)).al (by decide)).ai (by decide)).ai (by decide)).ai (by decide)).al (by decide))
        · refine MI_yes (t := i * q + j) (k := 16 * a + b) (by omega) hMI ?_ rfl ?_ ?_ ?_ ?_ ?_
          · simp only [mp, decide_eq_true_eq]
            rw [et.1, et.2, ek.1, ek.2]
            exact ⟨ht, ea, eb⟩
          · rw [← ed]; rfl
          · rw [← ed]; rfl
          · rw [← ed]; rfl
          · rw [← ed]; rfl
          · rw [← ed]; rfl
set_option maxRecDepth 100000 in
set_option maxHeartbeats 4000000 in
theorem l2_X12_meets {h : ai_H} {B : Bk} {lm : Nat} {wk wk2 : Int32} {T : Md} {q : Nat} (hok : bk_ok B lm) (hq : q ≤ 400) (eq : T.1 40 = nI q) (hSI : SI B wk T (nR B) (nR B) q) : ∀ (m i : Nat) (u3 u4 u5 : Value) (g : ai_H) (V : Md), i ≤ q → q + 1 ≤ i + m → md_ext h g → md_at g V → mg T V → MI T q (i * q) V → ai_W MX12_meets 50 [.ref 307, .int wk2, .int (nI i), u3, u4, u5, .float 0] [] g (fun r g => r = none ∧ md_ext h g ∧ ∃ V, md_at g V ∧ mg T V ∧ MI T q (q * q) V) := by
  intro m
  induction m with
  | zero => intro i u3 u4 u5 g V h1 h2; exact absurd h2 (by omega)
  | succ m ih =>
    intro i u3 u4 u5 g V hi0 him E0 hmd hmg hMI
    have ec : V.1 40 = nI q := by rw [hmg.1]; exact eq
    refine wq (fun _ _ kk => rs_iload_n (pc := 50) dX12_meets_50 rfl kk) ?_
    refine wq (fun _ _ kk => rs_aload_n (pc := 51) dX12_meets_51 rfl kk) ?_
    refine wq (fun _ _ kk => rs_getf (pc := 52) dX12_meets_52 fX12_398 (md_lt hmd (by decide)) hmd.2.1 rfl kk) ?_
    refine wq_br (fun _ _ kt kf => rs_icmp_ge (tgt := 287) (pc := 55) dX12_meets_55 rfl kt kf) (fun c_55 => ?_) (fun c_55 => ?_)
    · have hie : i = q := lp_exit ec (by omega) hi0 c_55
      subst hie
      refine wq_ret ?_ (rs_vret (pc := 287) dX12_meets_287 rfl)
      exact ⟨rfl, E0, V, hmd, hmg, hMI⟩
    · have hi : i < q := lp_go ec (by omega) c_55
      refine wq (fun _ _ kk => rs_iconst (v := 0) (pc := 58) dX12_meets_58 rfl kk) ?_
      refine wq (fun _ _ kk => wk_istn3 (pc := 59) dX12_meets_59 (by decide) rfl kk) ?_
      refine l1_X12_meets (h := h) (q := q) hok hq eq hSI hi (fun g u4 u5 V E0 hmd hmg hMI => ?_) (q + 1) 0 _ _ _ _ (by omega) (by omega) E0 hmd hmg hMI
      refine wq (fun _ _ kk => wk_iinc2 (v := nI (i + 1)) (pc := 281) dX12_meets_281 (by decide) rfl (nI_1 i) kk) ?_
      refine wq (fun _ _ kk => rs_goto (tgt := 50) (pc := 284) dX12_meets_284 rfl kk) ?_
      exact ih (i + 1) _ _ _ _ _ (by omega) (by omega) E0 hmd hmg (by rw [Nat.add_mul, Nat.one_mul]; exact hMI)
def mc0 (V : Md) (k : Nat) : Prop := ∀ j, j < k → V.2.2.1 50 j = 0 ∧ V.2.2.1 51 j = 0 ∧ V.2.2.1 52 j = 0 ∧ V.2.2.2 53 j = 0
theorem MI_0 {T V : Md} {q : Nat} (h : mc0 V 256) : MI T q 0 V := by
  intro k hk
  obtain ⟨h1, h2, h3, h4⟩ := h k hk
  exact ⟨h1, h4, fun z => absurd rfl z, h2, h3⟩
set_option maxRecDepth 100000 in
set_option maxHeartbeats 4000000 in
theorem l0_X12_meets {h : ai_H} {wk : Int32} {T : Md} {Q : Option Value → ai_H → Prop} (kx : ∀ (g : ai_H) (V : Md), md_ext h g → md_at g V → mg T V → mc0 V 256 → ai_W MX12_meets 48 [.ref 307, .int wk, .int (nI 256), .float 0, .float 0, .float 0, .float 0] [] g Q) : ∀ (m k : Nat) (g : ai_H) (V : Md), k ≤ 256 → 257 ≤ k + m → md_ext h g → md_at g V → mg T V → mc0 V k → ai_W MX12_meets 7 [.ref 307, .int wk, .int (nI k), .float 0, .float 0, .float 0, .float 0] [] g Q := by
  intro m
  induction m with
  | zero => intro k g V h1 h2; exact absurd h2 (by omega)
  | succ m ih =>
    intro k g V hk0 him E0 hmd hmg h0
    refine wq (fun _ _ kk => rs_iload_n (pc := 7) dX12_meets_7 rfl kk) ?_
    refine wq (fun _ _ kk => rs_sipush (v := 256) (pc := 8) dX12_meets_8 rfl kk) ?_
    refine wq_br (fun _ _ kt kf => rs_icmp_ge (tgt := 48) (pc := 11) dX12_meets_11 rfl kt kf) (fun c_11 => ?_) (fun c_11 => ?_)
    · have hke : k = 256 := lp_exit (sz := 256) rfl (by decide) hk0 c_11
      subst hke
      exact kx g V E0 hmd hmg h0
    · have hk : k < 256 := lp_go (sz := 256) rfl (by omega) c_11
      refine wq (fun _ _ kk => rs_aload_n (pc := 14) dX12_meets_14 rfl kk) ?_
      refine wq (fun _ _ kk => rs_getf (pc := 15) dX12_meets_15 fX12_117 (md_lt hmd (by decide)) hmd.2.1 rfl kk) ?_
      refine wq (fun _ _ kk => rs_iload_n (pc := 18) dX12_meets_18 rfl kk) ?_
      refine wq (fun _ _ kk => rs_iconst (v := 0) (pc := 19) dX12_meets_19 rfl kk) ?_
      refine wq (fun _ _ kk => rs_iast (pc := 20) dX12_meets_20 (md_lt hmd (by decide)) (md_geti (d := 35) (k := 50) (kd := 0) (n := 256) rfl (by decide) hmd) (vp_in_nI (n := k) (N := 256) (by omega) (by decide)) kk) ?_
      refine wq_gen (fun h_1 e_1 => ?_)
      obtain ⟨m_1, s_1, g_1, o_1⟩ := ai_e1 e_1
      replace hmd := md_at_ai (d := 35) rfl (by decide) hmd m_1 g_1 o_1
      have E_1 := (E0).trans (md_ext_of m_1 s_1 o_1 (by decide))
      refine wq (fun _ _ kk => rs_aload_n (pc := 21) dX12_meets_21 rfl kk) ?_
      refine wq (fun _ _ kk => rs_getf (pc := 22) dX12_meets_22 fX12_120 (md_lt hmd (by decide)) hmd.2.1 rfl kk) ?_
      refine wq (fun _ _ kk => rs_iload_n (pc := 25) dX12_meets_25 rfl kk) ?_
      refine wq (fun _ _ kk => rs_iconst (v := 0) (pc := 26) dX12_meets_26 rfl kk) ?_
      refine wq (fun _ _ kk => rs_iast (pc := 27) dX12_meets_27 (md_lt hmd (by decide)) (md_geti (d := 36) (k := 51) (kd := 0) (n := 256) rfl (by decide) hmd) (vp_in_nI (n := k) (N := 256) (by omega) (by decide)) kk) ?_
      refine wq_gen (fun h_2 e_2 => ?_)
      obtain ⟨m_2, s_2, g_2, o_2⟩ := ai_e1 e_2
      replace hmd := md_at_ai (d := 36) rfl (by decide) hmd m_2 g_2 o_2
      have E_2 := (E_1).trans (md_ext_of m_2 s_2 o_2 (by decide))
      refine wq (fun _ _ kk => rs_aload_n (pc := 28) dX12_meets_28 rfl kk) ?_
      refine wq (fun _ _ kk => rs_getf (pc := 29) dX12_meets_29 fX12_123 (md_lt hmd (by decide)) hmd.2.1 rfl kk) ?_
      refine wq (fun _ _ kk => rs_iload_n (pc := 32) dX12_meets_32 rfl kk) ?_
      refine wq (fun _ _ kk => rs_iconst (v := 0) (pc := 33) dX12_meets_33 rfl kk) ?_
      refine wq (fun _ _ kk => rs_iast (pc := 34) dX12_meets_34 (md_lt hmd (by decide)) (md_geti (d := 37) (k := 52) (kd := 0) (n := 256) rfl (by decide) hmd) (vp_in_nI (n := k) (N := 256) (by omega) (by decide)) kk) ?_
      refine wq_gen (fun h_3 e_3 => ?_)
      obtain ⟨m_3, s_3, g_3, o_3⟩ := ai_e1 e_3
      replace hmd := md_at_ai (d := 37) rfl (by decide) hmd m_3 g_3 o_3
      have E_3 := (E_2).trans (md_ext_of m_3 s_3 o_3 (by decide))
      refine wq (fun _ _ kk => rs_aload_n (pc := 35) dX12_meets_35 rfl kk) ?_
      refine wq (fun _ _ kk => rs_getf (pc := 36) dX12_meets_36 fX12_126 (md_lt hmd (by decide)) hmd.2.1 rfl kk) ?_
      refine wq (fun _ _ kk => rs_iload_n (pc := 39) dX12_meets_39 rfl kk) ?_
      refine wq (fun _ _ kk => rs_lconst (v := 0) (pc := 40) dX12_meets_40 rfl kk) ?_
      refine wq (fun _ _ kk => rs_last (pc := 41) dX12_meets_41 (md_lt hmd (by decide)) (md_getl (d := 38) (k := 53) (kd := 1) (n := 256) rfl (by decide) hmd) (vp_in_nI (n := k) (N := 256) (by omega) (by decide)) kk) ?_
      refine wq_gen (fun h_4 e_4 => ?_)
      obtain ⟨m_4, s_4, g_4, o_4⟩ := ai_e1 e_4
      replace hmd := md_at_al (d := 38) rfl (by decide) hmd m_4 g_4 o_4
      have E_4 := (E_3).trans (md_ext_of m_4 s_4 o_4 (by decide))
      refine wq (fun _ _ kk => wk_iinc2 (v := nI (k + 1)) (pc := 42) dX12_meets_42 (by decide) rfl (nI_1 k) kk) ?_
      refine wq (fun _ _ kk => rs_goto (tgt := 7) (pc := 45) dX12_meets_45 rfl kk) ?_
      refine ih (k + 1) _ _ (by omega) (by omega) (E_4) hmd ((((hmg.ai (by decide)).ai (by decide)).ai (by decide)).al (by decide)) (fun j hj => ?_)
      show upd (V.2.2.1 50) (nI k).toNatClampNeg 0 j = 0 ∧ upd (V.2.2.1 51) (nI k).toNatClampNeg 0 j = 0 ∧ upd (V.2.2.1 52) (nI k).toNatClampNeg 0 j = 0 ∧ vp_updL (V.2.2.2 53) (nI k).toNatClampNeg 0 j = 0
      rw [nI_clamp (show k < 2 ^ 31 by omega)]
      by_cases e : j = k
      · subst e; rw [pk_us, pk_us, pk_us, pk_uLs]; exact ⟨rfl, rfl, rfl, rfl⟩
      · rw [pk_un e, pk_un e, pk_un e, pk_uLn e]; exact h0 j (by omega)
set_option maxRecDepth 100000 in
set_option maxHeartbeats 4000000 in
theorem c_X12_meets {h : ai_H} {S : Md} {B : Bk} {lm : Nat} {wk : Int32} (hok : bk_ok B lm) (hRB : RB B S) (hwk : wk.toInt ≤ 9999) (hmd : md_at h S) : ai_QM MX12_meets [.ref 307, .int wk] h (fun r g => r = none ∧ md_ext h g ∧ ∃ T V q, q ≤ nR B ∧ T.1 40 = nI q ∧ sg S T ∧ SI B wk T (nR B) (nR B) q ∧ md_at g V ∧ mg T V ∧ MI T q (q * q) V) := by
  have hr4 : nR B ≤ 400 := hok.2.2.2.2.1.2.1
  refine qm_of (ls := [.ref 307, .int wk, .float 0, .float 0, .float 0, .float 0, .float 0]) (by decide) (by simp [ai_en, Value.category]) (by rfl) ?_
  refine wq (fun _ _ kk => rs_aload_n (pc := 0) dX12_meets_0 rfl kk) ?_
  refine wq (fun _ _ kk => rs_iload_n (pc := 1) dX12_meets_1 rfl kk) ?_
  obtain ⟨rv_2, hc_2, ⟨rfl, ee_2, T, q, hqR, hmd_2, ec, hsg, hSI⟩, hm_2⟩ := c_X12_gathers hok hRB hwk hmd
  refine wq (fun _ _ kk => rs_callV (as := [_]) (pc := 2) dX12_meets_2 mk_X12_gathers mlX12_407 in_X12_gathers se_X12_gathers rfl (md_lt hmd (by decide)) hmd.2.1 rfl rfl (Nat.le_of_ble_eq_true rfl) (hm_2) kk) ?_
  replace hmd := hmd_2
  have E_2 := (md_ext.rf).trans ee_2
  refine wq (fun _ _ kk => rs_iconst (v := 0) (pc := 5) dX12_meets_5 rfl kk) ?_
  refine wq (fun _ _ kk => wk_istn2 (pc := 6) dX12_meets_6 (by decide) rfl kk) ?_
  refine l0_X12_meets (h := h) (T := T) ?_ 257 0 _ _ (by omega) (by omega) ee_2 hmd mg.rf (fun j hj => absurd hj (Nat.not_lt_zero j))
  intro g V E0 hmd hmg h0
  refine wq (fun _ _ kk => rs_iconst (v := 0) (pc := 48) dX12_meets_48 rfl kk) ?_
  refine wq (fun _ _ kk => wk_istn2 (pc := 49) dX12_meets_49 (by decide) rfl kk) ?_
  refine wq_mono ?_ (l2_X12_meets (h := h) (q := q) (wk := wk) (T := T) hok (by omega) ec hSI (q + 1) 0 _ _ _ _ _ (by omega) (by omega) E0 hmd hmg (by rw [Nat.zero_mul]; exact MI_0 h0))
  rintro r g ⟨a, b, V, c, d, e⟩
  exact ⟨a, b, T, V, q, hqR, ec, hsg, hSI, c, d, e⟩
