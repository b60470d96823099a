/-! 40: the model's two, rope, knot, far (walks laid by wip/whole/p40.py) -/
/-- what a question leaves of the model: all but its scratch -/
def mq (S V : Md) : Prop := (∀ k, k ≠ 40 → V.1 k = S.1 k) ∧ ∀ k, k < 41 ∨ (59 < k ∧ k ≠ 64 ∧ k ≠ 66) → V.2.2.1 k = S.2.2.1 k
theorem mq.rf {S : Md} : mq S S := ⟨fun _ _ => rfl, fun _ _ => rfl⟩
theorem mq.trans {S T V : Md} (h : mq S T) (k : mq T V) : mq S V := ⟨fun j hj => (k.1 j hj).trans (h.1 j hj), fun j hj => (k.2 j hj).trans (h.2 j hj)⟩
theorem mq.sb {S V : Md} (h : mq S V) : sb S V := ⟨fun k hk => h.1 k (by omega), fun k hk => h.2 k (by omega)⟩
theorem sg.mq {S T : Md} (h : sg S T) : mq S T := ⟨h.1, fun k hk => h.2.2.1 k (by omega)⟩
theorem mg.mq {S T : Md} (h : mg S T) : mq S T := ⟨fun k _ => by rw [h.1], fun k hk => h.2.2.1 k (by omega)⟩
theorem rT.mq {S T : Md} (h : rT S T) : mq S T := ⟨fun k _ => by rw [h.1], fun k hk => h.2.2.1 k (by omega)⟩
theorem c_X12_inI {h : ai_H} (a b c : Int32) : ai_Met MX12_in [.long a.toInt64, .long b.toInt64, .long c.toInt64] h (some (.int (bi_in a b c))) h := by
  have := @c_X12_in h a.toInt64 b.toInt64 c.toInt64
  rw [bi_inL_of] at this
  exact this
theorem tbh_in {n : Nat} (hn : n < 2 ^ 31) (k : Int32) : bi_in k 0 (nI n - 1) = tb_has (nI n) k := by
  unfold bi_in tb_has
  have e : (nI n - 1).toInt = (n : Int) - 1 := by
    rw [← aI_nat, show (1 : Int32) = aI 1 from rfl, aI_sub, aI_int (by omega) (by omega)]
  by_cases h1 : k < 0
  · rw [if_pos h1, if_pos h1]
  · rw [if_neg h1, if_neg h1]
    have : nI n - 1 < k ↔ nI n ≤ k := by
      rw [i32_lt, i32_le, e, nI_toInt hn]
      omega
    by_cases h2 : nI n ≤ k
    · rw [if_pos h2, if_pos (this.2 h2)]
    · rw [if_neg h2, if_neg (fun z => h2 (this.1 z))]
theorem rb_obs {B : Bk} {S : Md} {ln : Nat} (hok : bk_ok B ln) (hRB : RB B S) (k : Int32) : bi_in k 0 (S.1 2 - 1) = tb_has (bk_o B).1 k := by
  have := hok.2.1.2.1
  rw [hRB.1.2.1, hok.2.1.1, tbh_in (by omega)]
theorem rb_nig {B : Bk} {S : Md} {ln : Nat} (hok : bk_ok B ln) (hRB : RB B S) (k : Int32) : bi_in k 0 (S.1 4 - 1) = tb_has (bk_n B).1 k := by
  have := hok.2.2.2.1.2.1
  rw [hRB.1.2.2.2.1, hok.2.2.2.1.1, tbh_in (by omega)]
theorem rb_str {B : Bk} {S : Md} {ln : Nat} (hok : bk_ok B ln) (hRB : RB B S) (k : Int32) : bi_in k 0 (S.1 3 - 1) = tb_has (bk_s B).1 k := by
  have := hok.2.2.1.2.1
  rw [hRB.1.2.2.1, hok.2.2.1.1, tbh_in (by omega)]
theorem rb_rec {B : Bk} {S : Md} {ln : Nat} (hok : bk_ok B ln) (hRB : RB B S) (k : Int32) : bi_in k 0 (S.1 5 - 1) = tb_has (bk_r B).1 k := by
  have := hok.2.2.2.2.1.2.1
  rw [hRB.1.2.2.2.2.1, hok.2.2.2.2.1.1, tbh_in (by omega)]
theorem dX12_areTwo_0 : decode cX12_areTwo 0 = .ok (.aload_n 0, 1) := by decide +kernel
theorem dX12_areTwo_1 : decode cX12_areTwo 1 = .ok (.iload_n 1, 1) := by decide +kernel
theorem dX12_areTwo_2 : decode cX12_areTwo 2 = .ok (.invokevirtual 217, 3) := by decide +kernel
theorem dX12_areTwo_5 : decode cX12_areTwo 5 = .ok (.ifCond .eq 22, 3) := by decide +kernel
theorem dX12_areTwo_8 : decode cX12_areTwo 8 = .ok (.aload_n 0, 1) := by decide +kernel
theorem dX12_areTwo_9 : decode cX12_areTwo 9 = .ok (.iload_n 2, 1) := by decide +kernel
theorem dX12_areTwo_10 : decode cX12_areTwo 10 = .ok (.invokevirtual 217, 3) := by decide +kernel
theorem dX12_areTwo_13 : decode cX12_areTwo 13 = .ok (.ifCond .eq 14, 3) := by decide +kernel
theorem dX12_areTwo_16 : decode cX12_areTwo 16 = .ok (.iload_n 3, 1) := by decide +kernel
theorem dX12_areTwo_17 : decode cX12_areTwo 17 = .ok (.invokestatic 230, 3) := by decide +kernel
theorem dX12_areTwo_20 : decode cX12_areTwo 20 = .ok (.ifCond .eq 7, 3) := by decide +kernel
theorem dX12_areTwo_23 : decode cX12_areTwo 23 = .ok (.iconst 1, 1) := by decide +kernel
theorem dX12_areTwo_24 : decode cX12_areTwo 24 = .ok (.goto 4, 3) := by decide +kernel
theorem dX12_areTwo_27 : decode cX12_areTwo 27 = .ok (.iconst 0, 1) := by decide +kernel
theorem dX12_areTwo_28 : decode cX12_areTwo 28 = .ok (.ireturn, 1) := by decide +kernel
set_option maxRecDepth 100000 in
set_option maxHeartbeats 4000000 in
theorem c_X12_areTwo {h : ai_H} {S : Md} {B : Bk} {ln : Nat} (hok : bk_ok B ln) (hRB : RB B S) (hmd : md_at h S) (a b k : Int32) : ai_Met MX12_areTwo [.ref 307, .int a, .int b, .int k] h (some (.int (b32 (decide (¬ (xs_both B a b = 0 ∨ bi_in k 0 9999 = 0)))))) h := by
  refine ai_met (ls := [.ref 307, .int a, .int b, .int k]) (by decide) (by simp [ai_en, Value.category]) (by rfl) ?_
  refine rs_aload_n (pc := 0) dX12_areTwo_0 rfl ?_
  refine rs_iload_n (pc := 1) dX12_areTwo_1 rfl ?_
  refine rs_callV (as := [_]) (pc := 2) dX12_areTwo_2 mk_X12_isObserver mlX12_217 in_X12_isObserver se_X12_isObserver rfl (md_lt hmd (by decide)) hmd.2.1 rfl rfl (Nat.le_of_ble_eq_true rfl) (c_X12_isObserver hmd _) ?_
  rw [rb_obs hok hRB]
  refine rs_if_eq (tgt := 27) (pc := 5) dX12_areTwo_5 rfl (fun c_5 => ?_) (fun c_5 => ?_)
  · refine rs_iconst (v := 0) (pc := 27) dX12_areTwo_27 rfl ?_
    exact wk_zret (pc := 28) dX12_areTwo_28 rfl (Or.inl rfl) (by simp [xs_both, b32, c_5]) (rfl)
  · refine rs_aload_n (pc := 8) dX12_areTwo_8 rfl ?_
    refine rs_iload_n (pc := 9) dX12_areTwo_9 rfl ?_
    refine rs_callV (as := [_]) (pc := 10) dX12_areTwo_10 mk_X12_isObserver mlX12_217 in_X12_isObserver se_X12_isObserver rfl (md_lt hmd (by decide)) hmd.2.1 rfl rfl (Nat.le_of_ble_eq_true rfl) (c_X12_isObserver hmd _) ?_
    rw [rb_obs hok hRB]
    refine rs_if_eq (tgt := 27) (pc := 13) dX12_areTwo_13 rfl (fun c_13 => ?_) (fun c_13 => ?_)
    · refine rs_iconst (v := 0) (pc := 27) dX12_areTwo_27 rfl ?_
      exact wk_zret (pc := 28) dX12_areTwo_28 rfl (Or.inl rfl) (by simp [xs_both, b32, c_5, c_13]) (rfl)
    · refine rs_iload_n (pc := 16) dX12_areTwo_16 rfl ?_
      refine rs_callS (as := [_]) (pc := 17) dX12_areTwo_17 mk_X12_isWeek mlX12_230 st_X12_isWeek rfl rfl (Nat.le_of_ble_eq_true rfl) (c_X12_isWeek _) ?_
      refine rs_if_eq (tgt := 27) (pc := 20) dX12_areTwo_20 rfl (fun c_20 => ?_) (fun c_20 => ?_)
      · refine rs_iconst (v := 0) (pc := 27) dX12_areTwo_27 rfl ?_
        exact wk_zret (pc := 28) dX12_areTwo_28 rfl (Or.inl rfl) (by simp [xs_both, b32, c_5, c_13, c_20]) (rfl)
      · refine rs_iconst (v := 1) (pc := 23) dX12_areTwo_23 rfl ?_
        refine rs_goto (tgt := 28) (pc := 24) dX12_areTwo_24 rfl ?_
        exact wk_zret (pc := 28) dX12_areTwo_28 rfl (Or.inr rfl) (by simp [xs_both, b32, c_5, c_13, c_20]) (rfl)
theorem b32_0 {p : Prop} [Decidable p] : b32 (decide p) = 0 ↔ ¬ p := by
  by_cases h : p <;> simp [b32, h]
def uu_two (U : Nat → List Int) (i j : Nat) (x : Int32) : Int32 := if x = 0 then nI (U (16 * i + j)).length else if U (16 * i + j) = [] then -1000000000 else aI (if x = 1 then zm (U (16 * i + j)) else if x = 2 then lmax (U (16 * i + j)) - lmin (U (16 * i + j)) else zw (U (16 * i + j)))
theorem bi_in_9 {k : Int32} (h : ¬ bi_in k 0 9999 = 0) : 0 ≤ k.toInt ∧ k.toInt ≤ 9999 := by
  unfold bi_in at h
  split at h
  · exact absurd rfl h
  · split at h
    · exact absurd rfl h
    · next h1 h2 =>
      rw [i32_lt, i32_0] at h1
      rw [i32_lt, show (9999 : Int32).toInt = 9999 from rfl] at h2
      omega
theorem dX12_two_0 : decode cX12_two 0 = .ok (.aload_n 0, 1) := by decide +kernel
theorem dX12_two_1 : decode cX12_two 1 = .ok (.iload_n 1, 1) := by decide +kernel
theorem dX12_two_2 : decode cX12_two 2 = .ok (.iload_n 2, 1) := by decide +kernel
theorem dX12_two_3 : decode cX12_two 3 = .ok (.iload_n 3, 1) := by decide +kernel
theorem dX12_two_4 : decode cX12_two 4 = .ok (.invokevirtual 421, 3) := by decide +kernel
theorem dX12_two_7 : decode cX12_two 7 = .ok (.ifCond .eq 21, 3) := by decide +kernel
theorem dX12_two_10 : decode cX12_two 10 = .ok (.iload_n 1, 1) := by decide +kernel
theorem dX12_two_11 : decode cX12_two 11 = .ok (.iload_n 2, 1) := by decide +kernel
theorem dX12_two_12 : decode cX12_two 12 = .ok (.if_icmp .eq 16, 3) := by decide +kernel
theorem dX12_two_15 : decode cX12_two 15 = .ok (.iload 4, 2) := by decide +kernel
theorem dX12_two_17 : decode cX12_two 17 = .ok (.i2l, 1) := by decide +kernel
theorem dX12_two_18 : decode cX12_two 18 = .ok (.lconst 0, 1) := by decide +kernel
theorem dX12_two_19 : decode cX12_two 19 = .ok (.ldc2_w 208, 3) := by decide +kernel
theorem dX12_two_22 : decode cX12_two 22 = .ok (.invokestatic 181, 3) := by decide +kernel
theorem dX12_two_25 : decode cX12_two 25 = .ok (.ifCond .ne 7, 3) := by decide +kernel
theorem dX12_two_28 : decode cX12_two 28 = .ok (.ldc_w 425, 3) := by decide +kernel
theorem dX12_two_31 : decode cX12_two 31 = .ok (.ireturn, 1) := by decide +kernel
theorem dX12_two_32 : decode cX12_two 32 = .ok (.aload_n 0, 1) := by decide +kernel
theorem dX12_two_33 : decode cX12_two 33 = .ok (.iload_n 3, 1) := by decide +kernel
theorem dX12_two_34 : decode cX12_two 34 = .ok (.invokevirtual 426, 3) := by decide +kernel
theorem dX12_two_37 : decode cX12_two 37 = .ok (.bipush 16, 2) := by decide +kernel
theorem dX12_two_39 : decode cX12_two 39 = .ok (.iload_n 1, 1) := by decide +kernel
theorem dX12_two_40 : decode cX12_two 40 = .ok (.imul, 1) := by decide +kernel
theorem dX12_two_41 : decode cX12_two 41 = .ok (.iload_n 2, 1) := by decide +kernel
theorem dX12_two_42 : decode cX12_two 42 = .ok (.iadd, 1) := by decide +kernel
theorem dX12_two_43 : decode cX12_two 43 = .ok (.istore 5, 2) := by decide +kernel
theorem dX12_two_45 : decode cX12_two 45 = .ok (.iload 4, 2) := by decide +kernel
theorem dX12_two_47 : decode cX12_two 47 = .ok (.ifCond .ne 11, 3) := by decide +kernel
theorem dX12_two_50 : decode cX12_two 50 = .ok (.aload_n 0, 1) := by decide +kernel
theorem dX12_two_51 : decode cX12_two 51 = .ok (.getfield 117, 3) := by decide +kernel
theorem dX12_two_54 : decode cX12_two 54 = .ok (.iload 5, 2) := by decide +kernel
theorem dX12_two_56 : decode cX12_two 56 = .ok (.iaload, 1) := by decide +kernel
theorem dX12_two_57 : decode cX12_two 57 = .ok (.ireturn, 1) := by decide +kernel
theorem dX12_two_58 : decode cX12_two 58 = .ok (.aload_n 0, 1) := by decide +kernel
theorem dX12_two_59 : decode cX12_two 59 = .ok (.getfield 117, 3) := by decide +kernel
theorem dX12_two_62 : decode cX12_two 62 = .ok (.iload 5, 2) := by decide +kernel
theorem dX12_two_64 : decode cX12_two 64 = .ok (.iaload, 1) := by decide +kernel
theorem dX12_two_65 : decode cX12_two 65 = .ok (.ifCond .ne 8, 3) := by decide +kernel
theorem dX12_two_68 : decode cX12_two 68 = .ok (.ldc 233, 2) := by decide +kernel
theorem dX12_two_70 : decode cX12_two 70 = .ok (.goto 40, 3) := by decide +kernel
theorem dX12_two_73 : decode cX12_two 73 = .ok (.iload 4, 2) := by decide +kernel
theorem dX12_two_75 : decode cX12_two 75 = .ok (.iconst 1, 1) := by decide +kernel
theorem dX12_two_76 : decode cX12_two 76 = .ok (.if_icmp .ne 12, 3) := by decide +kernel
theorem dX12_two_79 : decode cX12_two 79 = .ok (.aload_n 0, 1) := by decide +kernel
theorem dX12_two_80 : decode cX12_two 80 = .ok (.iload 5, 2) := by decide +kernel
theorem dX12_two_82 : decode cX12_two 82 = .ok (.invokevirtual 429, 3) := by decide +kernel
theorem dX12_two_85 : decode cX12_two 85 = .ok (.goto 24, 3) := by decide +kernel
theorem dX12_two_88 : decode cX12_two 88 = .ok (.iload 4, 2) := by decide +kernel
theorem dX12_two_90 : decode cX12_two 90 = .ok (.iconst 2, 1) := by decide +kernel
theorem dX12_two_91 : decode cX12_two 91 = .ok (.if_icmp .ne 12, 3) := by decide +kernel
theorem dX12_two_94 : decode cX12_two 94 = .ok (.aload_n 0, 1) := by decide +kernel
theorem dX12_two_95 : decode cX12_two 95 = .ok (.iload 5, 2) := by decide +kernel
theorem dX12_two_97 : decode cX12_two 97 = .ok (.invokevirtual 417, 3) := by decide +kernel
theorem dX12_two_100 : decode cX12_two 100 = .ok (.goto 9, 3) := by decide +kernel
theorem dX12_two_103 : decode cX12_two 103 = .ok (.aload_n 0, 1) := by decide +kernel
theorem dX12_two_104 : decode cX12_two 104 = .ok (.iload 5, 2) := by decide +kernel
theorem dX12_two_106 : decode cX12_two 106 = .ok (.invokevirtual 432, 3) := by decide +kernel
theorem dX12_two_109 : decode cX12_two 109 = .ok (.l2i, 1) := by decide +kernel
theorem dX12_two_110 : decode cX12_two 110 = .ok (.ireturn, 1) := by decide +kernel
set_option maxRecDepth 100000 in
set_option maxHeartbeats 4000000 in
theorem c_X12_two {h : ai_H} {S : Md} {B : Bk} {ln : Nat} {U : Nat → List Int} {k : Int32} (hok : bk_ok B ln) (hRB : RB B S) (hl : lrow U) (hU : ∀ T V q, q ≤ 400 → SI B k T (nR B) (nR B) q → MI T q (q * q) V → mrow V U) (hmd : md_at h S) (a b x : Int32) : ai_QM MX12_two [.ref 307, .int a, .int b, .int k, .int x] h (fun r g => md_ext h g ∧ (∃ V, md_at g V ∧ mq S V) ∧ (((xs_pair B a b = 0 ∨ bi_in k 0 9999 = 0 ∨ bi_in x 0 3 = 0) ∧ r = some (.int (-2000000000))) ∨ (¬ (xs_pair B a b = 0 ∨ bi_in k 0 9999 = 0 ∨ bi_in x 0 3 = 0) ∧ (∃ i j, i < nO B ∧ j < nO B ∧ a = nI i ∧ b = nI j ∧ r = some (.int (uu_two U i j x)))))) := by
  have hn16 := hok.2.1.2.1
  refine qm_of (ls := [.ref 307, .int a, .int b, .int k, .int x, .float 0]) (by decide) (by simp [ai_en, Value.category]) (by rfl) ?_
  refine wq (fun _ _ kk => rs_aload_n (pc := 0) dX12_two_0 rfl kk) ?_
  refine wq (fun _ _ kk => rs_iload_n (pc := 1) dX12_two_1 rfl kk) ?_
  refine wq (fun _ _ kk => rs_iload_n (pc := 2) dX12_two_2 rfl kk) ?_
  refine wq (fun _ _ kk => rs_iload_n (pc := 3) dX12_two_3 rfl kk) ?_
  refine wq (fun _ _ kk => rs_callV (as := [_, _, _]) (pc := 4) dX12_two_4 mk_X12_areTwo mlX12_421 in_X12_areTwo se_X12_areTwo rfl (md_lt hmd (by decide)) hmd.2.1 rfl rfl (Nat.le_of_ble_eq_true rfl) (c_X12_areTwo hok hRB hmd _ _ _) kk) ?_
  refine wq_br (fun _ _ kt kf => rs_if_eq (tgt := 28) (pc := 7) dX12_two_7 rfl kt kf) (fun c_7 => ?_) (fun c_7 => ?_)
  · rw [b32_0, Classical.not_not] at c_7
    refine wq (fun _ _ kk => rs_ldcw (pc := 28) dX12_two_28 cnX12_425 kk) ?_
    refine wq_ret ?_ (rs_iret (pc := 31) dX12_two_31 rfl)
    exact ⟨md_ext.rf, ⟨S, hmd, mq.rf⟩, Or.inl ⟨by first | exact Or.inl hab | exact Or.inr (Or.inr c_25) | (rcases c_7 with z | z; exact Or.inl (by simp [xs_pair, z]); exact Or.inr (Or.inl z)), rfl⟩⟩
  · rw [b32_0, Classical.not_not] at c_7
    rw [not_or] at c_7
    refine wq (fun _ _ kk => rs_iload_n (pc := 10) dX12_two_10 rfl kk) ?_
    refine wq (fun _ _ kk => rs_iload_n (pc := 11) dX12_two_11 rfl kk) ?_
    refine wq_br (fun _ _ kt kf => rs_icmp_eq (tgt := 28) (pc := 12) dX12_two_12 rfl kt kf) (fun c_12 => ?_) (fun c_12 => ?_)
    · have hab : xs_pair B a b = 0 := by simp [xs_pair, c_12]
      refine wq (fun _ _ kk => rs_ldcw (pc := 28) dX12_two_28 cnX12_425 kk) ?_
      refine wq_ret ?_ (rs_iret (pc := 31) dX12_two_31 rfl)
      exact ⟨md_ext.rf, ⟨S, hmd, mq.rf⟩, Or.inl ⟨by first | exact Or.inl hab | exact Or.inr (Or.inr c_25) | (rcases c_7 with z | z; exact Or.inl (by simp [xs_pair, z]); exact Or.inr (Or.inl z)), rfl⟩⟩
    · refine wq (fun _ _ kk => rs_iload (pc := 15) dX12_two_15 rfl kk) ?_
      refine wq (fun _ _ kk => rs_i2l (pc := 17) dX12_two_17 kk) ?_
      refine wq (fun _ _ kk => rs_lconst (v := 0) (pc := 18) dX12_two_18 rfl kk) ?_
      refine wq (fun _ _ kk => rs_ldc2 (pc := 19) dX12_two_19 cnX12_208 kk) ?_
      refine wq (fun _ _ kk => rs_callS (as := [_, _, _]) (pc := 22) dX12_two_22 mk_X12_in mlX12_181 st_X12_in rfl rfl (Nat.le_of_ble_eq_true rfl) (c_X12_inI x 0 3) kk) ?_
      refine wq_bn (fun _ _ kt kf => rs_if_ne (tgt := 32) (pc := 25) dX12_two_25 rfl kt kf) (fun c_25 => ?_) (fun c_25 => ?_)
      · refine wq (fun _ _ kk => rs_aload_n (pc := 32) dX12_two_32 rfl kk) ?_
        refine wq (fun _ _ kk => rs_iload_n (pc := 33) dX12_two_33 rfl kk) ?_
        have hgu : ¬ (xs_pair B a b = 0 ∨ bi_in k 0 9999 = 0 ∨ bi_in x 0 3 = 0) := by
          rintro (z | z | z)
          · unfold xs_pair at z
            rw [if_neg c_7.1, if_neg c_12] at z
            exact absurd z (by decide)
          · exact c_7.2 z
          · exact c_25 z
        obtain ⟨i, j, hi, hj, hij, rfl, rfl⟩ := pair_ex hok (fun z => hgu (Or.inl z))
        obtain ⟨rv_34, hc_34, ⟨rfl, ee_34, T, V, q, hqR, ec, hsg, hSI, hmd_34, hmg, hMI⟩, hm_34⟩ := c_X12_meets hok hRB (bi_in_9 c_7.2).2 hmd
        refine wq (fun _ _ kk => rs_callV (as := [_]) (pc := 34) dX12_two_34 mk_X12_meets mlX12_426 in_X12_meets se_X12_meets rfl (md_lt hmd (by decide)) hmd.2.1 rfl rfl (Nat.le_of_ble_eq_true rfl) (hm_34) kk) ?_
        replace hmd := hmd_34
        have E_34 := (md_ext.rf).trans ee_34
        have hm := hU T V q (Nat.le_trans hqR hok.2.2.2.2.1.2.1) hSI hMI
        refine wq (fun _ _ kk => rs_bipush (v := 16) (pc := 37) dX12_two_37 rfl kk) ?_
        refine wq (fun _ _ kk => rs_iload_n (pc := 39) dX12_two_39 rfl kk) ?_
        refine wq (fun _ _ kk => rs_imul (pc := 40) dX12_two_40 kk) ?_
        rw [show (16 : Int32) * nI i = nI (16 * i) from pk_mul 16 (i)]
        refine wq (fun _ _ kk => rs_iload_n (pc := 41) dX12_two_41 rfl kk) ?_
        refine wq (fun _ _ kk => rs_iadd (pc := 42) dX12_two_42 kk) ?_
        rw [nI_add]
        refine wq (fun _ _ kk => wk_ist5 (pc := 43) dX12_two_43 (by decide) rfl kk) ?_
        refine wq (fun _ _ kk => rs_iload (pc := 45) dX12_two_45 rfl kk) ?_
        refine wq_bn (fun _ _ kt kf => rs_if_ne (tgt := 58) (pc := 47) dX12_two_47 rfl kt kf) (fun c_47 => ?_) (fun c_47 => ?_)
        · refine wq (fun _ _ kk => rs_aload_n (pc := 58) dX12_two_58 rfl kk) ?_
          refine wq (fun _ _ kk => rs_getf (pc := 59) dX12_two_59 fX12_117 (md_lt hmd (by decide)) hmd.2.1 rfl kk) ?_
          refine wq (fun _ _ kk => rs_iload (pc := 62) dX12_two_62 rfl kk) ?_
          refine wq (fun _ _ kk => rs_iald (pc := 64) dX12_two_64 (md_lt hmd (by decide)) (md_geti (d := 35) (k := 50) (kd := 0) (n := 256) rfl (by decide) hmd) (vp_in_nI (n := 16 * i + j) (N := 256) (by omega) (by decide)) kk) ?_
          rw [nI_clamp (show 16 * i + j < 2 ^ 31 by omega), (hm (16 * i + j) (by omega)).1]
          refine wq_bn (fun _ _ kt kf => rs_if_ne (tgt := 73) (pc := 65) dX12_two_65 rfl kt kf) (fun c_65 => ?_) (fun c_65 => ?_)
          · have hne : U (16 * i + j) ≠ [] := fun z => c_65 (by rw [z]; rfl)
            refine wq (fun _ _ kk => rs_iload (pc := 73) dX12_two_73 rfl kk) ?_
            refine wq (fun _ _ kk => rs_iconst (v := 1) (pc := 75) dX12_two_75 rfl kk) ?_
            refine wq_bn (fun _ _ kt kf => rs_icmp_ne (tgt := 88) (pc := 76) dX12_two_76 rfl kt kf) (fun c_76 => ?_) (fun c_76 => ?_)
            · refine wq (fun _ _ kk => rs_iload (pc := 88) dX12_two_88 rfl kk) ?_
              refine wq (fun _ _ kk => rs_iconst (v := 2) (pc := 90) dX12_two_90 rfl kk) ?_
              refine wq_bn (fun _ _ kt kf => rs_icmp_ne (tgt := 103) (pc := 91) dX12_two_91 rfl kt kf) (fun c_91 => ?_) (fun c_91 => ?_)
              · refine wq (fun _ _ kk => rs_aload_n (pc := 103) dX12_two_103 rfl kk) ?_
                refine wq (fun _ _ kk => rs_iload (pc := 104) dX12_two_104 rfl kk) ?_
                refine wq (fun _ _ kk => rs_callV (as := [_]) (pc := 106) dX12_two_106 mk_X12_width mlX12_432 in_X12_width se_X12_width rfl (md_lt hmd (by decide)) hmd.2.1 rfl rfl (Nat.le_of_ble_eq_true rfl) (c_X12_width hmd hl hm (show 16 * i + j < 256 by omega) hne) kk) ?_
                refine wq (fun _ _ kk => rs_l2i (pc := 109) dX12_two_109 kk) ?_
                rw [aL_l2i]
                refine wq_ret ?_ (rs_iret (pc := 110) dX12_two_110 rfl)
                exact ⟨md_ext.rf.trans ee_34, ⟨V, hmd, hsg.mq.trans hmg.mq⟩, Or.inr ⟨hgu, i, j, hi, hj, rfl, rfl, by first | simp [uu_two, c_47, c_76, c_91, hne] | simp [uu_two, c_47, c_76, hne] | simp [uu_two, c_47, hem]⟩⟩
              · refine wq (fun _ _ kk => rs_aload_n (pc := 94) dX12_two_94 rfl kk) ?_
                refine wq (fun _ _ kk => rs_iload (pc := 95) dX12_two_95 rfl kk) ?_
                refine wq (fun _ _ kk => rs_callV (as := [_]) (pc := 97) dX12_two_97 mk_X12_span mlX12_417 in_X12_span se_X12_span rfl (md_lt hmd (by decide)) hmd.2.1 rfl rfl (Nat.le_of_ble_eq_true rfl) (c_X12_span hmd hl hm (show 16 * i + j < 256 by omega) hne) kk) ?_
                refine wq (fun _ _ kk => rs_goto (tgt := 109) (pc := 100) dX12_two_100 rfl kk) ?_
                refine wq (fun _ _ kk => rs_l2i (pc := 109) dX12_two_109 kk) ?_
                rw [aL_l2i]
                refine wq_ret ?_ (rs_iret (pc := 110) dX12_two_110 rfl)
                exact ⟨md_ext.rf.trans ee_34, ⟨V, hmd, hsg.mq.trans hmg.mq⟩, Or.inr ⟨hgu, i, j, hi, hj, rfl, rfl, by first | simp [uu_two, c_47, c_76, c_91, hne] | simp [uu_two, c_47, c_76, hne] | simp [uu_two, c_47, hem]⟩⟩
            · refine wq (fun _ _ kk => rs_aload_n (pc := 79) dX12_two_79 rfl kk) ?_
              refine wq (fun _ _ kk => rs_iload (pc := 80) dX12_two_80 rfl kk) ?_
              refine wq (fun _ _ kk => rs_callV (as := [_]) (pc := 82) dX12_two_82 mk_X12_apart mlX12_429 in_X12_apart se_X12_apart rfl (md_lt hmd (by decide)) hmd.2.1 rfl rfl (Nat.le_of_ble_eq_true rfl) (c_X12_apart hmd hl hm (show 16 * i + j < 256 by omega) hne) kk) ?_
              refine wq (fun _ _ kk => rs_goto (tgt := 109) (pc := 85) dX12_two_85 rfl kk) ?_
              refine wq (fun _ _ kk => rs_l2i (pc := 109) dX12_two_109 kk) ?_
              rw [aL_l2i]
              refine wq_ret ?_ (rs_iret (pc := 110) dX12_two_110 rfl)
              exact ⟨md_ext.rf.trans ee_34, ⟨V, hmd, hsg.mq.trans hmg.mq⟩, Or.inr ⟨hgu, i, j, hi, hj, rfl, rfl, by first | simp [uu_two, c_47, c_76, c_91, hne] | simp [uu_two, c_47, c_76, hne] | simp [uu_two, c_47, hem]⟩⟩
          · have hem : U (16 * i + j) = [] := by rw [nI_z (by have := (hl (16 * i + j) (by omega)).1; omega), len_0] at c_65; exact c_65
            refine wq (fun _ _ kk => rs_ldc (pc := 68) dX12_two_68 cnX12_233 kk) ?_
            refine wq (fun _ _ kk => rs_goto (tgt := 110) (pc := 70) dX12_two_70 rfl kk) ?_
            refine wq_ret ?_ (rs_iret (pc := 110) dX12_two_110 rfl)
            exact ⟨md_ext.rf.trans ee_34, ⟨V, hmd, hsg.mq.trans hmg.mq⟩, Or.inr ⟨hgu, i, j, hi, hj, rfl, rfl, by first | simp [uu_two, c_47, c_76, c_91, hne] | simp [uu_two, c_47, c_76, hne] | simp [uu_two, c_47, hem]⟩⟩
        · refine wq (fun _ _ kk => rs_aload_n (pc := 50) dX12_two_50 rfl kk) ?_
          refine wq (fun _ _ kk => rs_getf (pc := 51) dX12_two_51 fX12_117 (md_lt hmd (by decide)) hmd.2.1 rfl kk) ?_
          refine wq (fun _ _ kk => rs_iload (pc := 54) dX12_two_54 rfl kk) ?_
          refine wq (fun _ _ kk => rs_iald (pc := 56) dX12_two_56 (md_lt hmd (by decide)) (md_geti (d := 35) (k := 50) (kd := 0) (n := 256) rfl (by decide) hmd) (vp_in_nI (n := 16 * i + j) (N := 256) (by omega) (by decide)) kk) ?_
          rw [nI_clamp (show 16 * i + j < 2 ^ 31 by omega), (hm (16 * i + j) (by omega)).1]
          refine wq_ret ?_ (rs_iret (pc := 57) dX12_two_57 rfl)
          exact ⟨md_ext.rf.trans ee_34, ⟨V, hmd, hsg.mq.trans hmg.mq⟩, Or.inr ⟨hgu, i, j, hi, hj, rfl, rfl, by simp [uu_two, c_47]⟩⟩
      · refine wq (fun _ _ kk => rs_ldcw (pc := 28) dX12_two_28 cnX12_425 kk) ?_
        refine wq_ret ?_ (rs_iret (pc := 31) dX12_two_31 rfl)
        exact ⟨md_ext.rf, ⟨S, hmd, mq.rf⟩, Or.inl ⟨by first | exact Or.inl hab | exact Or.inr (Or.inr c_25) | (rcases c_7 with z | z; exact Or.inl (by simp [xs_pair, z]); exact Or.inr (Or.inl z)), rfl⟩⟩
def uu_rope (U : Nat → List Int) (n i j : Nat) (x : Int32) : Int32 := match ro_end (ro_U U) n j i with
  | none => if x = 0 then -2 else -1000000000
  | some v => if x = 0 then nI (v % 32) else if x = 1 then (rle U n j i).toInt32 else aI ((v / 32 : Nat) : Int)
theorem dX12_rope_0 : decode cX12_rope 0 = .ok (.aload_n 0, 1) := by decide +kernel
theorem dX12_rope_1 : decode cX12_rope 1 = .ok (.iload_n 1, 1) := by decide +kernel
theorem dX12_rope_2 : decode cX12_rope 2 = .ok (.iload_n 2, 1) := by decide +kernel
theorem dX12_rope_3 : decode cX12_rope 3 = .ok (.iload_n 3, 1) := by decide +kernel
theorem dX12_rope_4 : decode cX12_rope 4 = .ok (.invokevirtual 421, 3) := by decide +kernel
theorem dX12_rope_7 : decode cX12_rope 7 = .ok (.ifCond .eq 16, 3) := by decide +kernel
theorem dX12_rope_10 : decode cX12_rope 10 = .ok (.iload 4, 2) := by decide +kernel
theorem dX12_rope_12 : decode cX12_rope 12 = .ok (.i2l, 1) := by decide +kernel
theorem dX12_rope_13 : decode cX12_rope 13 = .ok (.lconst 0, 1) := by decide +kernel
theorem dX12_rope_14 : decode cX12_rope 14 = .ok (.ldc2_w 441, 3) := by decide +kernel
theorem dX12_rope_17 : decode cX12_rope 17 = .ok (.invokestatic 181, 3) := by decide +kernel
theorem dX12_rope_20 : decode cX12_rope 20 = .ok (.ifCond .ne 7, 3) := by decide +kernel
theorem dX12_rope_23 : decode cX12_rope 23 = .ok (.ldc_w 425, 3) := by decide +kernel
theorem dX12_rope_26 : decode cX12_rope 26 = .ok (.ireturn, 1) := by decide +kernel
theorem dX12_rope_27 : decode cX12_rope 27 = .ok (.aload_n 0, 1) := by decide +kernel
theorem dX12_rope_28 : decode cX12_rope 28 = .ok (.iload_n 3, 1) := by decide +kernel
theorem dX12_rope_29 : decode cX12_rope 29 = .ok (.invokevirtual 443, 3) := by decide +kernel
theorem dX12_rope_32 : decode cX12_rope 32 = .ok (.bipush 16, 2) := by decide +kernel
theorem dX12_rope_34 : decode cX12_rope 34 = .ok (.iload_n 1, 1) := by decide +kernel
theorem dX12_rope_35 : decode cX12_rope 35 = .ok (.imul, 1) := by decide +kernel
theorem dX12_rope_36 : decode cX12_rope 36 = .ok (.iload_n 2, 1) := by decide +kernel
theorem dX12_rope_37 : decode cX12_rope 37 = .ok (.iadd, 1) := by decide +kernel
theorem dX12_rope_38 : decode cX12_rope 38 = .ok (.istore 5, 2) := by decide +kernel
theorem dX12_rope_40 : decode cX12_rope 40 = .ok (.aload_n 0, 1) := by decide +kernel
theorem dX12_rope_41 : decode cX12_rope 41 = .ok (.getfield 141, 3) := by decide +kernel
theorem dX12_rope_44 : decode cX12_rope 44 = .ok (.iload 5, 2) := by decide +kernel
theorem dX12_rope_46 : decode cX12_rope 46 = .ok (.iaload, 1) := by decide +kernel
theorem dX12_rope_47 : decode cX12_rope 47 = .ok (.iconst (-1), 1) := by decide +kernel
theorem dX12_rope_48 : decode cX12_rope 48 = .ok (.if_icmp .ne 16, 3) := by decide +kernel
theorem dX12_rope_51 : decode cX12_rope 51 = .ok (.iload 4, 2) := by decide +kernel
theorem dX12_rope_53 : decode cX12_rope 53 = .ok (.ifCond .ne 8, 3) := by decide +kernel
theorem dX12_rope_56 : decode cX12_rope 56 = .ok (.bipush (-2), 2) := by decide +kernel
theorem dX12_rope_58 : decode cX12_rope 58 = .ok (.goto 5, 3) := by decide +kernel
theorem dX12_rope_61 : decode cX12_rope 61 = .ok (.ldc 233, 2) := by decide +kernel
theorem dX12_rope_63 : decode cX12_rope 63 = .ok (.ireturn, 1) := by decide +kernel
theorem dX12_rope_64 : decode cX12_rope 64 = .ok (.iload 4, 2) := by decide +kernel
theorem dX12_rope_66 : decode cX12_rope 66 = .ok (.ifCond .ne 13, 3) := by decide +kernel
theorem dX12_rope_69 : decode cX12_rope 69 = .ok (.aload_n 0, 1) := by decide +kernel
theorem dX12_rope_70 : decode cX12_rope 70 = .ok (.getfield 141, 3) := by decide +kernel
theorem dX12_rope_73 : decode cX12_rope 73 = .ok (.iload 5, 2) := by decide +kernel
theorem dX12_rope_75 : decode cX12_rope 75 = .ok (.iaload, 1) := by decide +kernel
theorem dX12_rope_76 : decode cX12_rope 76 = .ok (.goto 27, 3) := by decide +kernel
theorem dX12_rope_79 : decode cX12_rope 79 = .ok (.iload 4, 2) := by decide +kernel
theorem dX12_rope_81 : decode cX12_rope 81 = .ok (.iconst 1, 1) := by decide +kernel
theorem dX12_rope_82 : decode cX12_rope 82 = .ok (.if_icmp .ne 13, 3) := by decide +kernel
theorem dX12_rope_85 : decode cX12_rope 85 = .ok (.aload_n 0, 1) := by decide +kernel
theorem dX12_rope_86 : decode cX12_rope 86 = .ok (.getfield 138, 3) := by decide +kernel
theorem dX12_rope_89 : decode cX12_rope 89 = .ok (.iload 5, 2) := by decide +kernel
theorem dX12_rope_91 : decode cX12_rope 91 = .ok (.laload, 1) := by decide +kernel
theorem dX12_rope_92 : decode cX12_rope 92 = .ok (.goto 10, 3) := by decide +kernel
theorem dX12_rope_95 : decode cX12_rope 95 = .ok (.aload_n 0, 1) := by decide +kernel
theorem dX12_rope_96 : decode cX12_rope 96 = .ok (.getfield 135, 3) := by decide +kernel
theorem dX12_rope_99 : decode cX12_rope 99 = .ok (.iload 5, 2) := by decide +kernel
theorem dX12_rope_101 : decode cX12_rope 101 = .ok (.laload, 1) := by decide +kernel
theorem dX12_rope_102 : decode cX12_rope 102 = .ok (.l2i, 1) := by decide +kernel
theorem dX12_rope_103 : decode cX12_rope 103 = .ok (.ireturn, 1) := by decide +kernel
set_option maxRecDepth 100000 in
set_option maxHeartbeats 4000000 in
theorem c_X12_rope {h : ai_H} {S : Md} {B : Bk} {ln : Nat} {U : Nat → List Int} {k : Int32} (hok : bk_ok B ln) (hRB : RB B S) (hl : lrow U) (hU : ∀ T V q, q ≤ 400 → SI B k T (nR B) (nR B) q → MI T q (q * q) V → mrow V U) (hmd : md_at h S) (a b x : Int32) : ai_QM MX12_rope [.ref 307, .int a, .int b, .int k, .int x] h (fun r g => md_ext h g ∧ (∃ V, md_at g V ∧ mq S V) ∧ (((xs_both B a b = 0 ∨ bi_in k 0 9999 = 0 ∨ bi_in x 0 2 = 0) ∧ r = some (.int (-2000000000))) ∨ (¬ (xs_both B a b = 0 ∨ bi_in k 0 9999 = 0 ∨ bi_in x 0 2 = 0) ∧ (∃ i j, i < nO B ∧ j < nO B ∧ a = nI i ∧ b = nI j ∧ r = some (.int (uu_rope U (nO B) i j x)))))) := by
  have hn16 := hok.2.1.2.1
  refine qm_of (ls := [.ref 307, .int a, .int b, .int k, .int x, .float 0]) (by decide) (by simp [ai_en, Value.category]) (by rfl) ?_
  refine wq (fun _ _ kk => rs_aload_n (pc := 0) dX12_rope_0 rfl kk) ?_
  refine wq (fun _ _ kk => rs_iload_n (pc := 1) dX12_rope_1 rfl kk) ?_
  refine wq (fun _ _ kk => rs_iload_n (pc := 2) dX12_rope_2 rfl kk) ?_
  refine wq (fun _ _ kk => rs_iload_n (pc := 3) dX12_rope_3 rfl kk) ?_
  refine wq (fun _ _ kk => rs_callV (as := [_, _, _]) (pc := 4) dX12_rope_4 mk_X12_areTwo mlX12_421 in_X12_areTwo se_X12_areTwo rfl (md_lt hmd (by decide)) hmd.2.1 rfl rfl (Nat.le_of_ble_eq_true rfl) (c_X12_areTwo hok hRB hmd _ _ _) kk) ?_
  refine wq_br (fun _ _ kt kf => rs_if_eq (tgt := 23) (pc := 7) dX12_rope_7 rfl kt kf) (fun c_7 => ?_) (fun c_7 => ?_)
  · rw [b32_0, Classical.not_not] at c_7
    refine wq (fun _ _ kk => rs_ldcw (pc := 23) dX12_rope_23 cnX12_425 kk) ?_
    refine wq_ret ?_ (rs_iret (pc := 26) dX12_rope_26 rfl)
    exact ⟨md_ext.rf, ⟨S, hmd, mq.rf⟩, Or.inl ⟨by first | exact Or.inr (Or.inr c_20) | (rcases c_7 with z | z; exact Or.inl z; exact Or.inr (Or.inl z)), rfl⟩⟩
  · rw [b32_0, Classical.not_not] at c_7
    rw [not_or] at c_7
    refine wq (fun _ _ kk => rs_iload (pc := 10) dX12_rope_10 rfl kk) ?_
    refine wq (fun _ _ kk => rs_i2l (pc := 12) dX12_rope_12 kk) ?_
    refine wq (fun _ _ kk => rs_lconst (v := 0) (pc := 13) dX12_rope_13 rfl kk) ?_
    refine wq (fun _ _ kk => rs_ldc2 (pc := 14) dX12_rope_14 cnX12_441 kk) ?_
    refine wq (fun _ _ kk => rs_callS (as := [_, _, _]) (pc := 17) dX12_rope_17 mk_X12_in mlX12_181 st_X12_in rfl rfl (Nat.le_of_ble_eq_true rfl) (c_X12_inI x 0 2) kk) ?_
    refine wq_bn (fun _ _ kt kf => rs_if_ne (tgt := 27) (pc := 20) dX12_rope_20 rfl kt kf) (fun c_20 => ?_) (fun c_20 => ?_)
    · refine wq (fun _ _ kk => rs_aload_n (pc := 27) dX12_rope_27 rfl kk) ?_
      refine wq (fun _ _ kk => rs_iload_n (pc := 28) dX12_rope_28 rfl kk) ?_
      have hgu : ¬ (xs_both B a b = 0 ∨ bi_in k 0 9999 = 0 ∨ bi_in x 0 2 = 0) := by
        rintro (z | z | z)
        · exact c_7.1 z
        · exact c_7.2 z
        · exact c_20 z
      obtain ⟨i, j, hi, hj, rfl, rfl⟩ := both_ex hok c_7.1
      obtain ⟨rv_29, hc_29, ⟨rfl, ee_29, T, V, q, hqR, ec, hsg, hSI, hmd_29, hrT, hfin⟩, hm_29⟩ := c_X12_ropes hok hRB (bi_in_9 c_7.2).2 hl hU hmd
      refine wq (fun _ _ kk => rs_callV (as := [_]) (pc := 29) dX12_rope_29 mk_X12_ropes mlX12_443 in_X12_ropes se_X12_ropes rfl (md_lt hmd (by decide)) hmd.2.1 rfl rfl (Nat.le_of_ble_eq_true rfl) (hm_29) kk) ?_
      replace hmd := hmd_29
      have E_29 := (md_ext.rf).trans ee_29
      obtain ⟨f1, f2, f3, f4⟩ := hfin j hj i hi
      refine wq (fun _ _ kk => rs_bipush (v := 16) (pc := 32) dX12_rope_32 rfl kk) ?_
      refine wq (fun _ _ kk => rs_iload_n (pc := 34) dX12_rope_34 rfl kk) ?_
      refine wq (fun _ _ kk => rs_imul (pc := 35) dX12_rope_35 kk) ?_
      rw [show (16 : Int32) * nI i = nI (16 * i) from pk_mul 16 (i)]
      refine wq (fun _ _ kk => rs_iload_n (pc := 36) dX12_rope_36 rfl kk) ?_
      refine wq (fun _ _ kk => rs_iadd (pc := 37) dX12_rope_37 kk) ?_
      rw [nI_add]
      refine wq (fun _ _ kk => wk_ist5 (pc := 38) dX12_rope_38 (by decide) rfl kk) ?_
      refine wq (fun _ _ kk => rs_aload_n (pc := 40) dX12_rope_40 rfl kk) ?_
      refine wq (fun _ _ kk => rs_getf (pc := 41) dX12_rope_41 fX12_141 (md_lt hmd (by decide)) hmd.2.1 rfl kk) ?_
      refine wq (fun _ _ kk => rs_iload (pc := 44) dX12_rope_44 rfl kk) ?_
      refine wq (fun _ _ kk => rs_iald (pc := 46) dX12_rope_46 (md_lt hmd (by decide)) (md_geti (d := 43) (k := 58) (kd := 0) (n := 256) rfl (by decide) hmd) (vp_in_nI (n := 16 * i + j) (N := 256) (by omega) (by decide)) kk) ?_
      rw [nI_clamp (show 16 * i + j < 2 ^ 31 by omega)]
      refine wq (fun _ _ kk => rs_iconst (v := -1) (pc := 47) dX12_rope_47 rfl kk) ?_
      refine wq_bn (fun _ _ kt kf => rs_icmp_ne (tgt := 64) (pc := 48) dX12_rope_48 rfl kt kf) (fun c_48 => ?_) (fun c_48 => ?_)
      · obtain ⟨v, hv⟩ : ∃ v, ro_end (ro_U U) (nO B) j i = some v := by
          cases hq : ro_end (ro_U U) (nO B) j i with
          | none => exact absurd (f1 hq) c_48
          | some v => exact ⟨v, rfl⟩
        obtain ⟨g1, g2⟩ := f2 v hv
        refine wq (fun _ _ kk => rs_iload (pc := 64) dX12_rope_64 rfl kk) ?_
        refine wq_bn (fun _ _ kt kf => rs_if_ne (tgt := 79) (pc := 66) dX12_rope_66 rfl kt kf) (fun c_66 => ?_) (fun c_66 => ?_)
        · refine wq (fun _ _ kk => rs_iload (pc := 79) dX12_rope_79 rfl kk) ?_
          refine wq (fun _ _ kk => rs_iconst (v := 1) (pc := 81) dX12_rope_81 rfl kk) ?_
          refine wq_bn (fun _ _ kt kf => rs_icmp_ne (tgt := 95) (pc := 82) dX12_rope_82 rfl kt kf) (fun c_82 => ?_) (fun c_82 => ?_)
          · refine wq (fun _ _ kk => rs_aload_n (pc := 95) dX12_rope_95 rfl kk) ?_
            refine wq (fun _ _ kk => rs_getf (pc := 96) dX12_rope_96 fX12_135 (md_lt hmd (by decide)) hmd.2.1 rfl kk) ?_
            refine wq (fun _ _ kk => rs_iload (pc := 99) dX12_rope_99 rfl kk) ?_
            refine wq (fun _ _ kk => rs_lald (pc := 101) dX12_rope_101 (md_lt hmd (by decide)) (md_getl (d := 41) (k := 56) (kd := 1) (n := 256) rfl (by decide) hmd) (vp_in_nI (n := 16 * i + j) (N := 256) (by omega) (by decide)) kk) ?_
            rw [nI_clamp (show 16 * i + j < 2 ^ 31 by omega)]
            refine wq (fun _ _ kk => rs_l2i (pc := 102) dX12_rope_102 kk) ?_
            refine wq_ret ?_ (rs_iret (pc := 103) dX12_rope_103 rfl)
            exact ⟨md_ext.rf.trans ee_29, ⟨V, hmd, hsg.mq.trans hrT.mq⟩, Or.inr ⟨hgu, i, j, hi, hj, rfl, rfl, by unfold uu_rope; rw [hv]; first | (simp only [if_pos c_66]; rw [g1]) | (simp only [if_neg c_66, if_pos c_82]; rw [f3]) | (simp only [if_neg c_66, if_neg c_82]; rw [g2, aL_l2i])⟩⟩
          · refine wq (fun _ _ kk => rs_aload_n (pc := 85) dX12_rope_85 rfl kk) ?_
            refine wq (fun _ _ kk => rs_getf (pc := 86) dX12_rope_86 fX12_138 (md_lt hmd (by decide)) hmd.2.1 rfl kk) ?_
            refine wq (fun _ _ kk => rs_iload (pc := 89) dX12_rope_89 rfl kk) ?_
            refine wq (fun _ _ kk => rs_lald (pc := 91) dX12_rope_91 (md_lt hmd (by decide)) (md_getl (d := 42) (k := 57) (kd := 1) (n := 256) rfl (by decide) hmd) (vp_in_nI (n := 16 * i + j) (N := 256) (by omega) (by decide)) kk) ?_
            rw [nI_clamp (show 16 * i + j < 2 ^ 31 by omega)]
            refine wq (fun _ _ kk => rs_goto (tgt := 102) (pc := 92) dX12_rope_92 rfl kk) ?_
            refine wq (fun _ _ kk => rs_l2i (pc := 102) dX12_rope_102 kk) ?_
            refine wq_ret ?_ (rs_iret (pc := 103) dX12_rope_103 rfl)
            exact ⟨md_ext.rf.trans ee_29, ⟨V, hmd, hsg.mq.trans hrT.mq⟩, Or.inr ⟨hgu, i, j, hi, hj, rfl, rfl, by unfold uu_rope; rw [hv]; first | (simp only [if_pos c_66]; rw [g1]) | (simp only [if_neg c_66, if_pos c_82]; rw [f3]) | (simp only [if_neg c_66, if_neg c_82]; rw [g2, aL_l2i])⟩⟩
        · refine wq (fun _ _ kk => rs_aload_n (pc := 69) dX12_rope_69 rfl kk) ?_
          refine wq (fun _ _ kk => rs_getf (pc := 70) dX12_rope_70 fX12_141 (md_lt hmd (by decide)) hmd.2.1 rfl kk) ?_
          refine wq (fun _ _ kk => rs_iload (pc := 73) dX12_rope_73 rfl kk) ?_
          refine wq (fun _ _ kk => rs_iald (pc := 75) dX12_rope_75 (md_lt hmd (by decide)) (md_geti (d := 43) (k := 58) (kd := 0) (n := 256) rfl (by decide) hmd) (vp_in_nI (n := 16 * i + j) (N := 256) (by omega) (by decide)) kk) ?_
          rw [nI_clamp (show 16 * i + j < 2 ^ 31 by omega)]
          refine wq (fun _ _ kk => rs_goto (tgt := 103) (pc := 76) dX12_rope_76 rfl kk) ?_
          refine wq_ret ?_ (rs_iret (pc := 103) dX12_rope_103 rfl)
          exact ⟨md_ext.rf.trans ee_29, ⟨V, hmd, hsg.mq.trans hrT.mq⟩, Or.inr ⟨hgu, i, j, hi, hj, rfl, rfl, by unfold uu_rope; rw [hv]; first | (simp only [if_pos c_66]; rw [g1]) | (simp only [if_neg c_66, if_pos c_82]; rw [f3]) | (simp only [if_neg c_66, if_neg c_82]; rw [g2, aL_l2i])⟩⟩
      · have hv : ro_end (ro_U U) (nO B) j i = none := by
          cases hq : ro_end (ro_U U) (nO B) j i with
          | none => rfl
          | some v => rw [(f2 v hq).1] at c_48; exact absurd c_48 (nI_m1 (by omega))
        refine wq (fun _ _ kk => rs_iload (pc := 51) dX12_rope_51 rfl kk) ?_
        refine wq_bn (fun _ _ kt kf => rs_if_ne (tgt := 61) (pc := 53) dX12_rope_53 rfl kt kf) (fun c_53 => ?_) (fun c_53 => ?_)
        · refine wq (fun _ _ kk => rs_ldc (pc := 61) dX12_rope_61 cnX12_233 kk) ?_
          refine wq_ret ?_ (rs_iret (pc := 63) dX12_rope_63 rfl)
          exact ⟨md_ext.rf.trans ee_29, ⟨V, hmd, hsg.mq.trans hrT.mq⟩, Or.inr ⟨hgu, i, j, hi, hj, rfl, rfl, by unfold uu_rope; rw [hv]; simp [c_53]⟩⟩
        · refine wq (fun _ _ kk => rs_bipush (v := -2) (pc := 56) dX12_rope_56 rfl kk) ?_
          refine wq (fun _ _ kk => rs_goto (tgt := 63) (pc := 58) dX12_rope_58 rfl kk) ?_
          refine wq_ret ?_ (rs_iret (pc := 63) dX12_rope_63 rfl)
          exact ⟨md_ext.rf.trans ee_29, ⟨V, hmd, hsg.mq.trans hrT.mq⟩, Or.inr ⟨hgu, i, j, hi, hj, rfl, rfl, by unfold uu_rope; rw [hv]; simp [c_53]⟩⟩
    · refine wq (fun _ _ kk => rs_ldcw (pc := 23) dX12_rope_23 cnX12_425 kk) ?_
      refine wq_ret ?_ (rs_iret (pc := 26) dX12_rope_26 rfl)
      exact ⟨md_ext.rf, ⟨S, hmd, mq.rf⟩, Or.inl ⟨by first | exact Or.inr (Or.inr c_20) | (rcases c_7 with z | z; exact Or.inl z; exact Or.inr (Or.inl z)), rfl⟩⟩
theorem dX12_knot_0 : decode cX12_knot 0 = .ok (.aload_n 0, 1) := by decide +kernel
theorem dX12_knot_1 : decode cX12_knot 1 = .ok (.iload_n 1, 1) := by decide +kernel
theorem dX12_knot_2 : decode cX12_knot 2 = .ok (.iload_n 2, 1) := by decide +kernel
theorem dX12_knot_3 : decode cX12_knot 3 = .ok (.iload_n 3, 1) := by decide +kernel
theorem dX12_knot_4 : decode cX12_knot 4 = .ok (.invokevirtual 421, 3) := by decide +kernel
theorem dX12_knot_7 : decode cX12_knot 7 = .ok (.ifCond .ne 5, 3) := by decide +kernel
theorem dX12_knot_10 : decode cX12_knot 10 = .ok (.iconst (-1), 1) := by decide +kernel
theorem dX12_knot_11 : decode cX12_knot 11 = .ok (.ireturn, 1) := by decide +kernel
theorem dX12_knot_12 : decode cX12_knot 12 = .ok (.aload_n 0, 1) := by decide +kernel
theorem dX12_knot_13 : decode cX12_knot 13 = .ok (.iload_n 3, 1) := by decide +kernel
theorem dX12_knot_14 : decode cX12_knot 14 = .ok (.invokevirtual 443, 3) := by decide +kernel
theorem dX12_knot_17 : decode cX12_knot 17 = .ok (.iload 4, 2) := by decide +kernel
theorem dX12_knot_19 : decode cX12_knot 19 = .ok (.i2l, 1) := by decide +kernel
theorem dX12_knot_20 : decode cX12_knot 20 = .ok (.lconst 0, 1) := by decide +kernel
theorem dX12_knot_21 : decode cX12_knot 21 = .ok (.aload_n 0, 1) := by decide +kernel
theorem dX12_knot_22 : decode cX12_knot 22 = .ok (.getfield 141, 3) := by decide +kernel
theorem dX12_knot_25 : decode cX12_knot 25 = .ok (.bipush 16, 2) := by decide +kernel
theorem dX12_knot_27 : decode cX12_knot 27 = .ok (.iload_n 1, 1) := by decide +kernel
theorem dX12_knot_28 : decode cX12_knot 28 = .ok (.imul, 1) := by decide +kernel
theorem dX12_knot_29 : decode cX12_knot 29 = .ok (.iload_n 2, 1) := by decide +kernel
theorem dX12_knot_30 : decode cX12_knot 30 = .ok (.iadd, 1) := by decide +kernel
theorem dX12_knot_31 : decode cX12_knot 31 = .ok (.iaload, 1) := by decide +kernel
theorem dX12_knot_32 : decode cX12_knot 32 = .ok (.i2l, 1) := by decide +kernel
theorem dX12_knot_33 : decode cX12_knot 33 = .ok (.invokestatic 181, 3) := by decide +kernel
theorem dX12_knot_36 : decode cX12_knot 36 = .ok (.ifCond .ne 5, 3) := by decide +kernel
theorem dX12_knot_39 : decode cX12_knot 39 = .ok (.iconst (-1), 1) := by decide +kernel
theorem dX12_knot_40 : decode cX12_knot 40 = .ok (.ireturn, 1) := by decide +kernel
theorem dX12_knot_41 : decode cX12_knot 41 = .ok (.iload_n 1, 1) := by decide +kernel
theorem dX12_knot_42 : decode cX12_knot 42 = .ok (.istore 5, 2) := by decide +kernel
theorem dX12_knot_44 : decode cX12_knot 44 = .ok (.iconst 0, 1) := by decide +kernel
theorem dX12_knot_45 : decode cX12_knot 45 = .ok (.istore 6, 2) := by decide +kernel
theorem dX12_knot_47 : decode cX12_knot 47 = .ok (.iload 6, 2) := by decide +kernel
theorem dX12_knot_49 : decode cX12_knot 49 = .ok (.iload 4, 2) := by decide +kernel
theorem dX12_knot_51 : decode cX12_knot 51 = .ok (.if_icmp .ge 23, 3) := by decide +kernel
theorem dX12_knot_54 : decode cX12_knot 54 = .ok (.aload_n 0, 1) := by decide +kernel
theorem dX12_knot_55 : decode cX12_knot 55 = .ok (.getfield 144, 3) := by decide +kernel
theorem dX12_knot_58 : decode cX12_knot 58 = .ok (.bipush 16, 2) := by decide +kernel
theorem dX12_knot_60 : decode cX12_knot 60 = .ok (.iload 5, 2) := by decide +kernel
theorem dX12_knot_62 : decode cX12_knot 62 = .ok (.imul, 1) := by decide +kernel
theorem dX12_knot_63 : decode cX12_knot 63 = .ok (.iload_n 2, 1) := by decide +kernel
theorem dX12_knot_64 : decode cX12_knot 64 = .ok (.iadd, 1) := by decide +kernel
theorem dX12_knot_65 : decode cX12_knot 65 = .ok (.iaload, 1) := by decide +kernel
theorem dX12_knot_66 : decode cX12_knot 66 = .ok (.istore 5, 2) := by decide +kernel
theorem dX12_knot_68 : decode cX12_knot 68 = .ok (.iinc 6 1, 3) := by decide +kernel
theorem dX12_knot_71 : decode cX12_knot 71 = .ok (.goto (-24), 3) := by decide +kernel
theorem dX12_knot_74 : decode cX12_knot 74 = .ok (.iload 5, 2) := by decide +kernel
theorem dX12_knot_76 : decode cX12_knot 76 = .ok (.ireturn, 1) := by decide +kernel
set_option maxRecDepth 100000 in
set_option maxHeartbeats 4000000 in
theorem l_X12_knot {h : ai_H} {V : Md} {B : Bk} {U : Nat → List Int} {a k : Int32} {i j v L : Nat} (hn : nO B ≤ 16) (hj : j < nO B) (hmd : md_at h V) (hfin : rfin V U (nO B) j) (hv : ro_end (ro_U U) (nO B) j i = some v) (hL : L ≤ v % 32) : ∀ (m t : Nat), t ≤ L → L + 1 ≤ t + m → ai_R MX12_knot 47 [.ref 307, .int a, .int (nI j), .int k, .int (nI L), .int (nI (ro_pt (ro_U U) (nO B) j i t)), .int (nI t)] [] h (some (.int (nI (ro_pt (ro_U U) (nO B) j i L)))) h := by
  intro m
  induction m with
  | zero => intro t h1 h2; exact absurd h2 (by omega)
  | succ m ih =>
    intro t ht0 him
    have hpt : ro_pt (ro_U U) (nO B) j i t < nO B := by obtain ⟨_, _, _, q⟩ := ro_pt_is (ro_U_32 U) hn hj hv t (by omega); exact q
    have hvv := (ro_good_li (ro_U_32 U) hn (ro_end_good (ro_32_pos (ro_U_32 U)) hj) hv).1
    refine rs_iload (pc := 47) dX12_knot_47 rfl ?_
    refine rs_iload (pc := 49) dX12_knot_49 rfl ?_
    refine rs_icmp_ge (tgt := 74) (pc := 51) dX12_knot_51 rfl (fun c_51 => ?_) (fun c_51 => ?_)
    · have hte : t = L := lp_exit rfl (by omega) ht0 c_51
      subst hte
      refine rs_iload (pc := 74) dX12_knot_74 rfl ?_
      exact wk_iret (pc := 76) dX12_knot_76 rfl (rfl) (rfl)
    · have ht : t < L := lp_go rfl (by omega) c_51
      obtain ⟨p1, p2, p3, p4⟩ := rnx_pt hn hj hv (show t < v % 32 by omega)
      refine rs_aload_n (pc := 54) dX12_knot_54 rfl ?_
      refine rs_getf (pc := 55) dX12_knot_55 fX12_144 (md_lt hmd (by decide)) hmd.2.1 rfl ?_
      refine rs_bipush (v := 16) (pc := 58) dX12_knot_58 rfl ?_
      refine rs_iload (pc := 60) dX12_knot_60 rfl ?_
      refine rs_imul (pc := 62) dX12_knot_62 ?_
      rw [show (16 : Int32) * nI (ro_pt (ro_U U) (nO B) j i t) = nI (16 * (ro_pt (ro_U U) (nO B) j i t)) from pk_mul 16 ((ro_pt (ro_U U) (nO B) j i t))]
      refine rs_iload_n (pc := 63) dX12_knot_63 rfl ?_
      refine rs_iadd (pc := 64) dX12_knot_64 ?_
      rw [nI_add]
      refine rs_iald (pc := 65) dX12_knot_65 (md_lt hmd (by decide)) (md_geti (d := 44) (k := 59) (kd := 0) (n := 256) rfl (by decide) hmd) (vp_in_nI (n := 16 * ro_pt (ro_U U) (nO B) j i t + j) (N := 256) (by omega) (by decide)) ?_
      rw [nI_clamp (show 16 * ro_pt (ro_U U) (nO B) j i t + j < 2 ^ 31 by omega), (hfin _ p1).2.2.2, p3]
      refine wk_ist5 (pc := 66) dX12_knot_66 (by decide) rfl ?_
      refine wk_iinc6 (v := nI (t + 1)) (pc := 68) dX12_knot_68 (by decide) rfl (nI_1 t) ?_
      refine rs_goto (tgt := 47) (pc := 71) dX12_knot_71 rfl ?_
      exact ih (t + 1) (by omega) (by omega)
set_option maxRecDepth 100000 in
set_option maxHeartbeats 4000000 in
theorem c_X12_knot {h : ai_H} {S : Md} {B : Bk} {ln : Nat} {U : Nat → List Int} {k : Int32} (hok : bk_ok B ln) (hRB : RB B S) (hl : lrow U) (hU : ∀ T V q, q ≤ 400 → SI B k T (nR B) (nR B) q → MI T q (q * q) V → mrow V U) (hmd : md_at h S) (a b x : Int32) : ai_QM MX12_knot [.ref 307, .int a, .int b, .int k, .int x] h (fun r g => md_ext h g ∧ (∃ V, md_at g V ∧ mq S V) ∧ (((xs_both B a b = 0 ∨ bi_in k 0 9999 = 0) ∧ r = some (.int (-1))) ∨ (¬ (xs_both B a b = 0 ∨ bi_in k 0 9999 = 0) ∧ (∃ i j, i < nO B ∧ j < nO B ∧ a = nI i ∧ b = nI j ∧ r = some (.int (uu_knot U (nO B) i j x)))))) := by
  have hn16 := hok.2.1.2.1
  refine qm_of (ls := [.ref 307, .int a, .int b, .int k, .int x, .float 0, .float 0]) (by decide) (by simp [ai_en, Value.category]) (by rfl) ?_
  refine wq (fun _ _ kk => rs_aload_n (pc := 0) dX12_knot_0 rfl kk) ?_
  refine wq (fun _ _ kk => rs_iload_n (pc := 1) dX12_knot_1 rfl kk) ?_
  refine wq (fun _ _ kk => rs_iload_n (pc := 2) dX12_knot_2 rfl kk) ?_
  refine wq (fun _ _ kk => rs_iload_n (pc := 3) dX12_knot_3 rfl kk) ?_
  refine wq (fun _ _ kk => rs_callV (as := [_, _, _]) (pc := 4) dX12_knot_4 mk_X12_areTwo mlX12_421 in_X12_areTwo se_X12_areTwo rfl (md_lt hmd (by decide)) hmd.2.1 rfl rfl (Nat.le_of_ble_eq_true rfl) (c_X12_areTwo hok hRB hmd _ _ _) kk) ?_
  refine wq_bn (fun _ _ kt kf => rs_if_ne (tgt := 12) (pc := 7) dX12_knot_7 rfl kt kf) (fun c_7 => ?_) (fun c_7 => ?_)
  · rw [b32_0, Classical.not_not] at c_7
    rw [not_or] at c_7
    refine wq (fun _ _ kk => rs_aload_n (pc := 12) dX12_knot_12 rfl kk) ?_
    refine wq (fun _ _ kk => rs_iload_n (pc := 13) dX12_knot_13 rfl kk) ?_
    have hgu : ¬ (xs_both B a b = 0 ∨ bi_in k 0 9999 = 0) := fun z => by rcases z with z | z; exact c_7.1 z; exact c_7.2 z
    obtain ⟨i, j, hi, hj, rfl, rfl⟩ := both_ex hok c_7.1
    obtain ⟨rv_14, hc_14, ⟨rfl, ee_14, T, V, q, hqR, ec, hsg, hSI, hmd_14, hrT, hfin⟩, hm_14⟩ := c_X12_ropes hok hRB (bi_in_9 c_7.2).2 hl hU hmd
    refine wq (fun _ _ kk => rs_callV (as := [_]) (pc := 14) dX12_knot_14 mk_X12_ropes mlX12_443 in_X12_ropes se_X12_ropes rfl (md_lt hmd (by decide)) hmd.2.1 rfl rfl (Nat.le_of_ble_eq_true rfl) (hm_14) kk) ?_
    replace hmd := hmd_14
    have E_14 := (md_ext.rf).trans ee_14
    obtain ⟨f1, f2, f3, f4⟩ := hfin j hj i hi
    refine wq (fun _ _ kk => rs_iload (pc := 17) dX12_knot_17 rfl kk) ?_
    refine wq (fun _ _ kk => rs_i2l (pc := 19) dX12_knot_19 kk) ?_
    refine wq (fun _ _ kk => rs_lconst (v := 0) (pc := 20) dX12_knot_20 rfl kk) ?_
    refine wq (fun _ _ kk => rs_aload_n (pc := 21) dX12_knot_21 rfl kk) ?_
    refine wq (fun _ _ kk => rs_getf (pc := 22) dX12_knot_22 fX12_141 (md_lt hmd (by decide)) hmd.2.1 rfl kk) ?_
    refine wq (fun _ _ kk => rs_bipush (v := 16) (pc := 25) dX12_knot_25 rfl kk) ?_
    refine wq (fun _ _ kk => rs_iload_n (pc := 27) dX12_knot_27 rfl kk) ?_
    refine wq (fun _ _ kk => rs_imul (pc := 28) dX12_knot_28 kk) ?_
    rw [show (16 : Int32) * nI i = nI (16 * i) from pk_mul 16 (i)]
    refine wq (fun _ _ kk => rs_iload_n (pc := 29) dX12_knot_29 rfl kk) ?_
    refine wq (fun _ _ kk => rs_iadd (pc := 30) dX12_knot_30 kk) ?_
    rw [nI_add]
    refine wq (fun _ _ kk => rs_iald (pc := 31) dX12_knot_31 (md_lt hmd (by decide)) (md_geti (d := 43) (k := 58) (kd := 0) (n := 256) rfl (by decide) hmd) (vp_in_nI (n := 16 * i + j) (N := 256) (by omega) (by decide)) kk) ?_
    rw [nI_clamp (show 16 * i + j < 2 ^ 31 by omega)]
    refine wq (fun _ _ kk => rs_i2l (pc := 32) dX12_knot_32 kk) ?_
    refine wq (fun _ _ kk => rs_callS (as := [_, _, _]) (pc := 33) dX12_knot_33 mk_X12_in mlX12_181 st_X12_in rfl rfl (Nat.le_of_ble_eq_true rfl) (c_X12_inI x 0 _) kk) ?_
    refine wq_bn (fun _ _ kt kf => rs_if_ne (tgt := 41) (pc := 36) dX12_knot_36 rfl kt kf) (fun c_36 => ?_) (fun c_36 => ?_)
    · refine wq (fun _ _ kk => rs_iload_n (pc := 41) dX12_knot_41 rfl kk) ?_
      refine wq (fun _ _ kk => wk_ist5 (pc := 42) dX12_knot_42 (by decide) rfl kk) ?_
      refine wq (fun _ _ kk => rs_iconst (v := 0) (pc := 44) dX12_knot_44 rfl kk) ?_
      refine wq (fun _ _ kk => wk_ist6 (pc := 45) dX12_knot_45 (by decide) rfl kk) ?_
      obtain ⟨v, hv⟩ : ∃ v, ro_end (ro_U U) (nO B) j i = some v := by
        cases hq : ro_end (ro_U U) (nO B) j i with
        | none =>
          rw [f1 hq] at c_36
          unfold bi_in at c_36
          split at c_36
          · exact absurd rfl c_36
          · next z =>
            rw [if_pos (by rw [i32_lt] at z ⊢; rw [i32_0] at z; rw [show (-1 : Int32).toInt = -1 from rfl]; omega)] at c_36
            exact absurd rfl c_36
        | some v => exact ⟨v, rfl⟩
      have hn16 := hok.2.1.2.1
      have hvv := (ro_good_li (ro_U_32 U) hn16 (ro_end_good (ro_32_pos (ro_U_32 U)) hj) hv).1
      rw [(f2 v hv).1] at c_36
      obtain ⟨m, hm, rfl⟩ := bi_in_ex (by omega) c_36
      refine ⟨_, _, ⟨md_ext.rf.trans ee_14, ⟨V, hmd, hsg.mq.trans hrT.mq⟩, Or.inr ⟨hgu, i, j, hi, hj, rfl, rfl, ?_⟩⟩, l_X12_knot (i := i) (j := j) (L := m) hn16 hj hmd (hfin j hj) hv hm (m + 1) 0 (by omega) (by omega)⟩
      unfold uu_knot
      rw [hv]
      show _ = some (Value.int (if bi_in (nI m) 0 (nI (v % 32)) = 0 then -1 else _))
      rw [if_neg c_36, nI_clamp (by omega)]
    · refine wq (fun _ _ kk => rs_iconst (v := -1) (pc := 39) dX12_knot_39 rfl kk) ?_
      refine wq_ret ?_ (rs_iret (pc := 40) dX12_knot_40 rfl)
      refine ⟨md_ext.rf.trans ee_14, ⟨V, hmd, hsg.mq.trans hrT.mq⟩, Or.inr ⟨hgu, i, j, hi, hj, rfl, rfl, ?_⟩⟩
      unfold uu_knot
      cases hq : ro_end (ro_U U) (nO B) j i with
      | none => rfl
      | some v =>
        show _ = some (Value.int (if bi_in x 0 (nI (v % 32)) = 0 then -1 else _))
        rw [← (f2 v hq).1, if_pos c_36]
  · rw [b32_0, Classical.not_not] at c_7
    refine wq (fun _ _ kk => rs_iconst (v := -1) (pc := 10) dX12_knot_10 rfl kk) ?_
    refine wq_ret ?_ (rs_iret (pc := 11) dX12_knot_11 rfl)
    exact ⟨md_ext.rf, ⟨S, hmd, mq.rf⟩, Or.inl ⟨c_7, rfl⟩⟩
def uu_far (U : Nat → List Int) (n i : Nat) (m : Nat) : Int32 := fO (fun b => decide (ro_end (ro_U U) n b i = none)) (fun b => 1 <<< (nI b &&& 31)) m
theorem dX12_far_0 : decode cX12_far 0 = .ok (.aload_n 0, 1) := by decide +kernel
theorem dX12_far_1 : decode cX12_far 1 = .ok (.iload_n 1, 1) := by decide +kernel
theorem dX12_far_2 : decode cX12_far 2 = .ok (.invokevirtual 217, 3) := by decide +kernel
theorem dX12_far_5 : decode cX12_far 5 = .ok (.ifCond .eq 10, 3) := by decide +kernel
theorem dX12_far_8 : decode cX12_far 8 = .ok (.iload_n 2, 1) := by decide +kernel
theorem dX12_far_9 : decode cX12_far 9 = .ok (.invokestatic 230, 3) := by decide +kernel
theorem dX12_far_12 : decode cX12_far 12 = .ok (.ifCond .ne 5, 3) := by decide +kernel
theorem dX12_far_15 : decode cX12_far 15 = .ok (.iconst (-1), 1) := by decide +kernel
theorem dX12_far_16 : decode cX12_far 16 = .ok (.ireturn, 1) := by decide +kernel
theorem dX12_far_17 : decode cX12_far 17 = .ok (.aload_n 0, 1) := by decide +kernel
theorem dX12_far_18 : decode cX12_far 18 = .ok (.iload_n 2, 1) := by decide +kernel
theorem dX12_far_19 : decode cX12_far 19 = .ok (.invokevirtual 443, 3) := by decide +kernel
theorem dX12_far_22 : decode cX12_far 22 = .ok (.iconst 0, 1) := by decide +kernel
theorem dX12_far_23 : decode cX12_far 23 = .ok (.istore_n 3, 1) := by decide +kernel
theorem dX12_far_24 : decode cX12_far 24 = .ok (.iconst 0, 1) := by decide +kernel
theorem dX12_far_25 : decode cX12_far 25 = .ok (.istore 4, 2) := by decide +kernel
theorem dX12_far_27 : decode cX12_far 27 = .ok (.iload 4, 2) := by decide +kernel
theorem dX12_far_29 : decode cX12_far 29 = .ok (.aload_n 0, 1) := by decide +kernel
theorem dX12_far_30 : decode cX12_far 30 = .ok (.getfield 188, 3) := by decide +kernel
theorem dX12_far_33 : decode cX12_far 33 = .ok (.if_icmp .ge 36, 3) := by decide +kernel
theorem dX12_far_36 : decode cX12_far 36 = .ok (.iload_n 3, 1) := by decide +kernel
theorem dX12_far_37 : decode cX12_far 37 = .ok (.aload_n 0, 1) := by decide +kernel
theorem dX12_far_38 : decode cX12_far 38 = .ok (.getfield 141, 3) := by decide +kernel
theorem dX12_far_41 : decode cX12_far 41 = .ok (.bipush 16, 2) := by decide +kernel
theorem dX12_far_43 : decode cX12_far 43 = .ok (.iload_n 1, 1) := by decide +kernel
theorem dX12_far_44 : decode cX12_far 44 = .ok (.imul, 1) := by decide +kernel
theorem dX12_far_45 : decode cX12_far 45 = .ok (.iload 4, 2) := by decide +kernel
theorem dX12_far_47 : decode cX12_far 47 = .ok (.iadd, 1) := by decide +kernel
theorem dX12_far_48 : decode cX12_far 48 = .ok (.iaload, 1) := by decide +kernel
theorem dX12_far_49 : decode cX12_far 49 = .ok (.iconst (-1), 1) := by decide +kernel
theorem dX12_far_50 : decode cX12_far 50 = .ok (.if_icmp .ne 10, 3) := by decide +kernel
theorem dX12_far_53 : decode cX12_far 53 = .ok (.iconst 1, 1) := by decide +kernel
theorem dX12_far_54 : decode cX12_far 54 = .ok (.iload 4, 2) := by decide +kernel
theorem dX12_far_56 : decode cX12_far 56 = .ok (.ishl, 1) := by decide +kernel
theorem dX12_far_57 : decode cX12_far 57 = .ok (.goto 4, 3) := by decide +kernel
theorem dX12_far_60 : decode cX12_far 60 = .ok (.iconst 0, 1) := by decide +kernel
theorem dX12_far_61 : decode cX12_far 61 = .ok (.ior, 1) := by decide +kernel
theorem dX12_far_62 : decode cX12_far 62 = .ok (.istore_n 3, 1) := by decide +kernel
theorem dX12_far_63 : decode cX12_far 63 = .ok (.iinc 4 1, 3) := by decide +kernel
theorem dX12_far_66 : decode cX12_far 66 = .ok (.goto (-39), 3) := by decide +kernel
theorem dX12_far_69 : decode cX12_far 69 = .ok (.iload_n 3, 1) := by decide +kernel
theorem dX12_far_70 : decode cX12_far 70 = .ok (.ireturn, 1) := by decide +kernel
set_option maxRecDepth 100000 in
set_option maxHeartbeats 4000000 in
theorem l_X12_far {h : ai_H} {V : Md} {B : Bk} {U : Nat → List Int} {k : Int32} {i : Nat} (hn : nO B ≤ 16) (hi : i < nO B) (hob : V.1 2 = nI (nO B)) (hmd : md_at h V) (hfin : ∀ c, c < nO B → rfin V U (nO B) c) : ∀ (m t : Nat), t ≤ nO B → nO B + 1 ≤ t + m → ai_R MX12_far 27 [.ref 307, .int (nI i), .int k, .int (uu_far U (nO B) i t), .int (nI t)] [] h (some (.int (uu_far U (nO B) i (nO B)))) h := by
  intro m
  induction m with
  | zero => intro t h1 h2; exact absurd h2 (by omega)
  | succ m ih =>
    intro t ht0 him
    refine rs_iload (pc := 27) dX12_far_27 rfl ?_
    refine rs_aload_n (pc := 29) dX12_far_29 rfl ?_
    refine rs_getf (pc := 30) dX12_far_30 fX12_188 (md_lt hmd (by decide)) hmd.2.1 rfl ?_
    refine rs_icmp_ge (tgt := 69) (pc := 33) dX12_far_33 rfl (fun c_33 => ?_) (fun c_33 => ?_)
    · have hte : t = nO B := lp_exit hob (by omega) ht0 c_33
      subst hte
      refine rs_iload_n (pc := 69) dX12_far_69 rfl ?_
      exact wk_iret (pc := 70) dX12_far_70 rfl (rfl) (rfl)
    · have ht : t < nO B := lp_go hob (by omega) c_33
      obtain ⟨f1, f2, f3, f4⟩ := hfin t ht i hi
      refine rs_iload_n (pc := 36) dX12_far_36 rfl ?_
      refine rs_aload_n (pc := 37) dX12_far_37 rfl ?_
      refine rs_getf (pc := 38) dX12_far_38 fX12_141 (md_lt hmd (by decide)) hmd.2.1 rfl ?_
      refine rs_bipush (v := 16) (pc := 41) dX12_far_41 rfl ?_
      refine rs_iload_n (pc := 43) dX12_far_43 rfl ?_
      refine rs_imul (pc := 44) dX12_far_44 ?_
      rw [show (16 : Int32) * nI i = nI (16 * i) from pk_mul 16 (i)]
      refine rs_iload (pc := 45) dX12_far_45 rfl ?_
      refine rs_iadd (pc := 47) dX12_far_47 ?_
      rw [nI_add]
      refine rs_iald (pc := 48) dX12_far_48 (md_lt hmd (by decide)) (md_geti (d := 43) (k := 58) (kd := 0) (n := 256) rfl (by decide) hmd) (vp_in_nI (n := 16 * i + t) (N := 256) (by omega) (by decide)) ?_
      rw [nI_clamp (show 16 * i + t < 2 ^ 31 by omega)]
      refine rs_iconst (v := -1) (pc := 49) dX12_far_49 rfl ?_
      refine rs_icmp_ne (tgt := 60) (pc := 50) dX12_far_50 rfl (fun c_50 => ?_) (fun c_50 => ?_)
      · refine rs_iconst (v := 0) (pc := 60) dX12_far_60 rfl ?_
        refine rs_ior (pc := 61) dX12_far_61 ?_
        refine wk_istn3 (pc := 62) dX12_far_62 (by decide) rfl ?_
        refine wk_iinc4 (v := nI (t + 1)) (pc := 63) dX12_far_63 (by decide) rfl (nI_1 t) ?_
        refine rs_goto (tgt := 27) (pc := 66) dX12_far_66 rfl ?_
        first
        | (rw [show uu_far U (nO B) i t ||| 1 <<< (nI t &&& 31) = uu_far U (nO B) i (t + 1) from by
             unfold uu_far
             rw [fO, if_pos]
             rw [decide_eq_true_eq]
             cases hq : ro_end (ro_U U) (nO B) t i with
             | none => rfl
             | some v => rw [(f2 v hq).1] at c_50; exact absurd c_50 (nI_m1 (by omega))]
           exact ih (t + 1) (by omega) (by omega))
        | (rw [show uu_far U (nO B) i t ||| 0 = uu_far U (nO B) i (t + 1) from by
             unfold uu_far
             rw [fO, if_neg, Int32.or_zero]
             rw [decide_eq_true_eq]
             exact fun hq => c_50 (f1 hq)]
           exact ih (t + 1) (by omega) (by omega))
      · refine rs_iconst (v := 1) (pc := 53) dX12_far_53 rfl ?_
        refine rs_iload (pc := 54) dX12_far_54 rfl ?_
        refine rs_ishl (pc := 56) dX12_far_56 ?_
        refine rs_goto (tgt := 61) (pc := 57) dX12_far_57 rfl ?_
        refine rs_ior (pc := 61) dX12_far_61 ?_
        refine wk_istn3 (pc := 62) dX12_far_62 (by decide) rfl ?_
        refine wk_iinc4 (v := nI (t + 1)) (pc := 63) dX12_far_63 (by decide) rfl (nI_1 t) ?_
        refine rs_goto (tgt := 27) (pc := 66) dX12_far_66 rfl ?_
        first
        | (rw [show uu_far U (nO B) i t ||| 1 <<< (nI t &&& 31) = uu_far U (nO B) i (t + 1) from by
             unfold uu_far
             rw [fO, if_pos]
             rw [decide_eq_true_eq]
             cases hq : ro_end (ro_U U) (nO B) t i with
             | none => rfl
             | some v => rw [(f2 v hq).1] at c_50; exact absurd c_50 (nI_m1 (by omega))]
           exact ih (t + 1) (by omega) (by omega))
        | (rw [show uu_far U (nO B) i t ||| 0 = uu_far U (nO B) i (t + 1) from by
             unfold uu_far
             rw [fO, if_neg, Int32.or_zero]
             rw [decide_eq_true_eq]
             exact fun hq => c_50 (f1 hq)]
           exact ih (t + 1) (by omega) (by omega))
set_option maxRecDepth 100000 in
set_option maxHeartbeats 4000000 in
theorem c_X12_far {h : ai_H} {S : Md} {B : Bk} {ln : Nat} {U : Nat → List Int} {k : Int32} (hok : bk_ok B ln) (hRB : RB B S) (hl : lrow U) (hU : ∀ T V q, q ≤ 400 → SI B k T (nR B) (nR B) q → MI T q (q * q) V → mrow V U) (hmd : md_at h S) (a : Int32) : ai_QM MX12_far [.ref 307, .int a, .int k] h (fun r g => md_ext h g ∧ (∃ V, md_at g V ∧ mq S V) ∧ (((tb_has (bk_o B).1 a = 0 ∨ bi_in k 0 9999 = 0) ∧ r = some (.int (-1))) ∨ (¬ (tb_has (bk_o B).1 a = 0 ∨ bi_in k 0 9999 = 0) ∧ ∃ i, i < nO B ∧ a = nI i ∧ r = some (.int (uu_far U (nO B) i (nO B)))))) := by
  have hn16 := hok.2.1.2.1
  refine qm_of (ls := [.ref 307, .int a, .int k, .float 0, .float 0]) (by decide) (by simp [ai_en, Value.category]) (by rfl) ?_
  refine wq (fun _ _ kk => rs_aload_n (pc := 0) dX12_far_0 rfl kk) ?_
  refine wq (fun _ _ kk => rs_iload_n (pc := 1) dX12_far_1 rfl kk) ?_
  refine wq (fun _ _ kk => rs_callV (as := [_]) (pc := 2) dX12_far_2 mk_X12_isObserver mlX12_217 in_X12_isObserver se_X12_isObserver rfl (md_lt hmd (by decide)) hmd.2.1 rfl rfl (Nat.le_of_ble_eq_true rfl) (c_X12_isObserver hmd _) kk) ?_
  rw [rb_obs hok hRB]
  refine wq_br (fun _ _ kt kf => rs_if_eq (tgt := 15) (pc := 5) dX12_far_5 rfl kt kf) (fun c_5 => ?_) (fun c_5 => ?_)
  · refine wq (fun _ _ kk => rs_iconst (v := -1) (pc := 15) dX12_far_15 rfl kk) ?_
    refine wq_ret ?_ (rs_iret (pc := 16) dX12_far_16 rfl)
    exact ⟨md_ext.rf, ⟨S, hmd, mq.rf⟩, Or.inl ⟨by simp [c_5], rfl⟩⟩
  · refine wq (fun _ _ kk => rs_iload_n (pc := 8) dX12_far_8 rfl kk) ?_
    refine wq (fun _ _ kk => rs_callS (as := [_]) (pc := 9) dX12_far_9 mk_X12_isWeek mlX12_230 st_X12_isWeek rfl rfl (Nat.le_of_ble_eq_true rfl) (c_X12_isWeek _) kk) ?_
    refine wq_bn (fun _ _ kt kf => rs_if_ne (tgt := 17) (pc := 12) dX12_far_12 rfl kt kf) (fun c_12 => ?_) (fun c_12 => ?_)
    · refine wq (fun _ _ kk => rs_aload_n (pc := 17) dX12_far_17 rfl kk) ?_
      refine wq (fun _ _ kk => rs_iload_n (pc := 18) dX12_far_18 rfl kk) ?_
      have hgu : ¬ (tb_has (bk_o B).1 a = 0 ∨ bi_in k 0 9999 = 0) := fun z => by rcases z with z | z; exact c_5 z; exact c_12 z
      have hn16 := hok.2.1.2.1
      obtain ⟨i, hi, rfl⟩ := has_ex (n := nO B) (by omega) (by rw [← hok.2.1.1]; exact c_5)
      obtain ⟨rv_19, hc_19, ⟨rfl, ee_19, T, V, q, hqR, ec, hsg, hSI, hmd_19, hrT, hfin⟩, hm_19⟩ := c_X12_ropes hok hRB (bi_in_9 c_12).2 hl hU hmd
      refine wq (fun _ _ kk => rs_callV (as := [_]) (pc := 19) dX12_far_19 mk_X12_ropes mlX12_443 in_X12_ropes se_X12_ropes rfl (md_lt hmd (by decide)) hmd.2.1 rfl rfl (Nat.le_of_ble_eq_true rfl) (hm_19) kk) ?_
      replace hmd := hmd_19
      have E_19 := (md_ext.rf).trans ee_19
      refine wq (fun _ _ kk => rs_iconst (v := 0) (pc := 22) dX12_far_22 rfl kk) ?_
      refine wq (fun _ _ kk => wk_istn3 (pc := 23) dX12_far_23 (by decide) rfl kk) ?_
      refine wq (fun _ _ kk => rs_iconst (v := 0) (pc := 24) dX12_far_24 rfl kk) ?_
      refine wq (fun _ _ kk => wk_ist4 (pc := 25) dX12_far_25 (by decide) rfl kk) ?_
      have hob : V.1 2 = nI (nO B) := by rw [hrT.1]; exact (hRB.of hsg.sb).1.2.1.trans hok.2.1.1
      exact ⟨_, _, ⟨md_ext.rf.trans ee_19, ⟨V, hmd, hsg.mq.trans hrT.mq⟩, Or.inr ⟨hgu, i, hi, rfl, rfl⟩⟩, l_X12_far hn16 hi hob hmd hfin (nO B + 1) 0 (by omega) (by omega)⟩
    · refine wq (fun _ _ kk => rs_iconst (v := -1) (pc := 15) dX12_far_15 rfl kk) ?_
      refine wq_ret ?_ (rs_iret (pc := 16) dX12_far_16 rfl)
      exact ⟨md_ext.rf, ⟨S, hmd, mq.rf⟩, Or.inl ⟨by simp [c_5, c_12], rfl⟩⟩
