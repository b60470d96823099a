/-! 39: two, rope, knot, far (walks laid by wip/whole/p39.py) -/
theorem has_ex {n : Nat} {k : Int32} (hn : n < 2 ^ 31) (h : ¬ tb_has (nI n) k = 0) : ∃ i, i < n ∧ k = nI i := by
  unfold tb_has at h
  split at h
  · exact absurd rfl h
  · split at h
    · exact absurd rfl h
    · next h1 h2 =>
      rw [i32_lt, i32_0] at h1
      rw [i32_le, nI_toInt hn] at h2
      exact i32_ex (by omega) (by omega)
theorem both_ex {B : Bk} {ln : Nat} (hok : bk_ok B ln) {a b : Int32} (h : ¬ xs_both B a b = 0) : ∃ i j, i < nO B ∧ j < nO B ∧ a = nI i ∧ b = nI j := by
  have hn := hok.2.1.2.1
  unfold xs_both at h
  rw [hok.2.1.1] at h
  split at h
  · exact absurd rfl h
  · split at h
    · exact absurd rfl h
    · next h1 h2 =>
      obtain ⟨i, i1, i2⟩ := has_ex (by omega) h1
      obtain ⟨j, j1, j2⟩ := has_ex (by omega) h2
      exact ⟨i, j, i1, j1, i2, j2⟩
theorem pair_ex {B : Bk} {ln : Nat} (hok : bk_ok B ln) {a b : Int32} (h : ¬ xs_pair B a b = 0) : ∃ i j, i < nO B ∧ j < nO B ∧ i ≠ j ∧ a = nI i ∧ b = nI j := by
  unfold xs_pair at h
  split at h
  · exact absurd rfl h
  · split at h
    · exact absurd rfl h
    · next h1 h2 =>
      obtain ⟨i, j, i1, j1, i2, j2⟩ := both_ex hok h1
      exact ⟨i, j, i1, j1, fun e => h2 (by rw [i2, j2, e]), i2, j2⟩
def zz_two (T : Nat → Ty) (a b : Nat) (x : Int32) : Int32 := if x = 0 then (T (a * 16 + b)).1 else if (T (a * 16 + b)).1 = 0 then -1000000000 else if x = 1 then (ty_mean (T (a * 16 + b)).1 (T (a * 16 + b)).2.1).toInt32 else if x = 2 then ((T (a * 16 + b)).2.2.2 - (T (a * 16 + b)).2.2.1).toInt32 else (mt_wid T a b).toInt32
def zz_rope (R : Md) (a : Nat) (x : Int32) : Int32 := if rp_re (R.2.2.2 0) a = 0 then (if x = 0 then -2 else -1000000000) else if x = 0 then rp_li (R.2.2.2 0) a else if x = 1 then (if R.2.2.2 0 a = -1 then 0 else R.2.2.2 2 a).toInt32 else (rp_wi (R.2.2.2 0) a).toInt32
def zz_far (R : Md) (n : Nat) : Int32 := fO (fun i => decide (rp_re (R.2.2.2 0) i = 0)) (fun i => 1 <<< (nI i &&& 31)) n
theorem dX11_two_0 : decode cX11_two 0 = .ok (.aload_n 0, 1) := by decide +kernel
theorem dX11_two_1 : decode cX11_two 1 = .ok (.iload_n 1, 1) := by decide +kernel
theorem dX11_two_2 : decode cX11_two 2 = .ok (.iload_n 2, 1) := by decide +kernel
theorem dX11_two_3 : decode cX11_two 3 = .ok (.invokevirtual 178, 3) := by decide +kernel
theorem dX11_two_6 : decode cX11_two 6 = .ok (.ifCond .eq 20, 3) := by decide +kernel
theorem dX11_two_9 : decode cX11_two 9 = .ok (.iload_n 3, 1) := by decide +kernel
theorem dX11_two_10 : decode cX11_two 10 = .ok (.invokestatic 97, 3) := by decide +kernel
theorem dX11_two_13 : decode cX11_two 13 = .ok (.ifCond .eq 13, 3) := by decide +kernel
theorem dX11_two_16 : decode cX11_two 16 = .ok (.iload 4, 2) := by decide +kernel
theorem dX11_two_18 : decode cX11_two 18 = .ok (.iconst 0, 1) := by decide +kernel
theorem dX11_two_19 : decode cX11_two 19 = .ok (.iconst 3, 1) := by decide +kernel
theorem dX11_two_20 : decode cX11_two 20 = .ok (.invokestatic 104, 3) := by decide +kernel
theorem dX11_two_23 : decode cX11_two 23 = .ok (.ifCond .ne 6, 3) := by decide +kernel
theorem dX11_two_26 : decode cX11_two 26 = .ok (.ldc 182, 2) := by decide +kernel
theorem dX11_two_28 : decode cX11_two 28 = .ok (.ireturn, 1) := by decide +kernel
theorem dX11_two_29 : decode cX11_two 29 = .ok (.aload_n 0, 1) := by decide +kernel
theorem dX11_two_30 : decode cX11_two 30 = .ok (.iload_n 3, 1) := by decide +kernel
theorem dX11_two_31 : decode cX11_two 31 = .ok (.invokevirtual 183, 3) := by decide +kernel
theorem dX11_two_34 : decode cX11_two 34 = .ok (.aload_n 0, 1) := by decide +kernel
theorem dX11_two_35 : decode cX11_two 35 = .ok (.getfield 65, 3) := by decide +kernel
theorem dX11_two_38 : decode cX11_two 38 = .ok (.iload_n 1, 1) := by decide +kernel
theorem dX11_two_39 : decode cX11_two 39 = .ok (.iload_n 2, 1) := by decide +kernel
theorem dX11_two_40 : decode cX11_two 40 = .ok (.invokevirtual 186, 3) := by decide +kernel
theorem dX11_two_43 : decode cX11_two 43 = .ok (.astore 5, 2) := by decide +kernel
theorem dX11_two_45 : decode cX11_two 45 = .ok (.iload 4, 2) := by decide +kernel
theorem dX11_two_47 : decode cX11_two 47 = .ok (.ifCond .ne 9, 3) := by decide +kernel
theorem dX11_two_50 : decode cX11_two 50 = .ok (.aload 5, 2) := by decide +kernel
theorem dX11_two_52 : decode cX11_two 52 = .ok (.getfield 150, 3) := by decide +kernel
theorem dX11_two_55 : decode cX11_two 55 = .ok (.ireturn, 1) := by decide +kernel
theorem dX11_two_56 : decode cX11_two 56 = .ok (.aload 5, 2) := by decide +kernel
theorem dX11_two_58 : decode cX11_two 58 = .ok (.getfield 150, 3) := by decide +kernel
theorem dX11_two_61 : decode cX11_two 61 = .ok (.ifCond .ne 6, 3) := by decide +kernel
theorem dX11_two_64 : decode cX11_two 64 = .ok (.ldc 145, 2) := by decide +kernel
theorem dX11_two_66 : decode cX11_two 66 = .ok (.ireturn, 1) := by decide +kernel
theorem dX11_two_67 : decode cX11_two 67 = .ok (.iload 4, 2) := by decide +kernel
theorem dX11_two_69 : decode cX11_two 69 = .ok (.iconst 1, 1) := by decide +kernel
theorem dX11_two_70 : decode cX11_two 70 = .ok (.if_icmp .ne 10, 3) := by decide +kernel
theorem dX11_two_73 : decode cX11_two 73 = .ok (.aload 5, 2) := by decide +kernel
theorem dX11_two_75 : decode cX11_two 75 = .ok (.invokevirtual 190, 3) := by decide +kernel
theorem dX11_two_78 : decode cX11_two 78 = .ok (.l2i, 1) := by decide +kernel
theorem dX11_two_79 : decode cX11_two 79 = .ok (.ireturn, 1) := by decide +kernel
theorem dX11_two_80 : decode cX11_two 80 = .ok (.iload 4, 2) := by decide +kernel
theorem dX11_two_82 : decode cX11_two 82 = .ok (.iconst 2, 1) := by decide +kernel
theorem dX11_two_83 : decode cX11_two 83 = .ok (.if_icmp .ne 12, 3) := by decide +kernel
theorem dX11_two_86 : decode cX11_two 86 = .ok (.aload 5, 2) := by decide +kernel
theorem dX11_two_88 : decode cX11_two 88 = .ok (.invokevirtual 194, 3) := by decide +kernel
theorem dX11_two_91 : decode cX11_two 91 = .ok (.l2i, 1) := by decide +kernel
theorem dX11_two_92 : decode cX11_two 92 = .ok (.goto 13, 3) := by decide +kernel
theorem dX11_two_95 : decode cX11_two 95 = .ok (.aload_n 0, 1) := by decide +kernel
theorem dX11_two_96 : decode cX11_two 96 = .ok (.getfield 65, 3) := by decide +kernel
theorem dX11_two_99 : decode cX11_two 99 = .ok (.iload_n 1, 1) := by decide +kernel
theorem dX11_two_100 : decode cX11_two 100 = .ok (.iload_n 2, 1) := by decide +kernel
theorem dX11_two_101 : decode cX11_two 101 = .ok (.invokevirtual 197, 3) := by decide +kernel
theorem dX11_two_104 : decode cX11_two 104 = .ok (.l2i, 1) := by decide +kernel
theorem dX11_two_105 : decode cX11_two 105 = .ok (.ireturn, 1) := by decide +kernel
set_option maxRecDepth 100000 in
set_option maxHeartbeats 4000000 in
theorem c_X11_two {h : ai_H} {tb lm : Int32} {B : Bk} {ln : Nat} (hx : x_at h tb lm) (hB : bk_at h 1 B) (hok : bk_ok B ln) (hs : scr h) (a b k x : Int32) : ai_QM MX11_two [.ref 0, .int a, .int b, .int k, .int x] h (fun r g => fr 22 293 h g ∧ scr g ∧ (((xs_pair B a b = 0 ∨ bi_in k 0 9999 = 0 ∨ bi_in x 0 3 = 0) ∧ r = some (.int (-2000000000))) ∨ (¬ (xs_pair B a b = 0 ∨ bi_in k 0 9999 = 0 ∨ bi_in x 0 3 = 0) ∧ (∃ i j, i < nO B ∧ j < nO B ∧ i ≠ j ∧ a = nI i ∧ b = nI j ∧ ∃ S z, GI B k S (nR B) z ∧ r = some (.int (zz_two (mt_F S z) i j x)))))) := by
  obtain ⟨-, -, -, ⟨S0, hcl⟩, ⟨T0, hmt⟩, ⟨R0, hrp⟩, -⟩ := id hs
  have hn16 := hok.2.1.2.1
  refine qm_of (ls := [.ref 0, .int a, .int b, .int k, .int x, .float 0]) (by decide) (by simp [ai_en, Value.category]) (by rfl) ?_
  refine wq (fun _ _ kk => rs_aload_n (pc := 0) dX11_two_0 rfl kk) ?_
  refine wq (fun _ _ kk => rs_iload_n (pc := 1) dX11_two_1 rfl kk) ?_
  refine wq (fun _ _ kk => rs_iload_n (pc := 2) dX11_two_2 rfl kk) ?_
  refine wq (fun _ _ kk => rs_callV (as := [_, _]) (pc := 3) dX11_two_3 mk_X11_isPair mlX11_178 in_X11_isPair se_X11_isPair rfl (x_lt hx (by decide)) hx.2 rfl rfl (Nat.le_of_ble_eq_true rfl) (c_X11_isPair hx hB a b) kk) ?_
  refine wq_br (fun _ _ kt kf => rs_if_eq (tgt := 26) (pc := 6) dX11_two_6 rfl kt kf) (fun c_6 => ?_) (fun c_6 => ?_)
  · refine wq (fun _ _ kk => rs_ldc (pc := 26) dX11_two_26 cnX11_182 kk) ?_
    refine wq_ret ?_ (rs_iret (pc := 28) dX11_two_28 rfl)
    exact ⟨fr.rf, hs, Or.inl ⟨by simp [c_6], rfl⟩⟩
  · refine wq (fun _ _ kk => rs_iload_n (pc := 9) dX11_two_9 rfl kk) ?_
    refine wq (fun _ _ kk => rs_callS (as := [_]) (pc := 10) dX11_two_10 mk_X11_isWeek mlX11_97 st_X11_isWeek rfl rfl (Nat.le_of_ble_eq_true rfl) (c_X11_isWeek _) kk) ?_
    refine wq_br (fun _ _ kt kf => rs_if_eq (tgt := 26) (pc := 13) dX11_two_13 rfl kt kf) (fun c_13 => ?_) (fun c_13 => ?_)
    · refine wq (fun _ _ kk => rs_ldc (pc := 26) dX11_two_26 cnX11_182 kk) ?_
      refine wq_ret ?_ (rs_iret (pc := 28) dX11_two_28 rfl)
      exact ⟨fr.rf, hs, Or.inl ⟨by simp [c_6, c_13], rfl⟩⟩
    · refine wq (fun _ _ kk => rs_iload (pc := 16) dX11_two_16 rfl kk) ?_
      refine wq (fun _ _ kk => rs_iconst (v := 0) (pc := 18) dX11_two_18 rfl kk) ?_
      refine wq (fun _ _ kk => rs_iconst (v := 3) (pc := 19) dX11_two_19 rfl kk) ?_
      refine wq (fun _ _ kk => rs_callS (as := [_, _, _]) (pc := 20) dX11_two_20 mk_X11_isWithin mlX11_104 st_X11_isWithin rfl rfl (Nat.le_of_ble_eq_true rfl) (c_X11_isWithin) kk) ?_
      refine wq_bn (fun _ _ kt kf => rs_if_ne (tgt := 29) (pc := 23) dX11_two_23 rfl kt kf) (fun c_23 => ?_) (fun c_23 => ?_)
      · refine wq (fun _ _ kk => rs_aload_n (pc := 29) dX11_two_29 rfl kk) ?_
        refine wq (fun _ _ kk => rs_iload_n (pc := 30) dX11_two_30 rfl kk) ?_
        have hgu : ¬ (xs_pair B a b = 0 ∨ bi_in k 0 9999 = 0 ∨ bi_in x 0 3 = 0) := by simp [c_6, c_13, c_23]
        obtain ⟨i, j, hi, hj, hij, rfl, rfl⟩ := pair_ex hok c_6
        obtain ⟨rv_31, hc_31, ⟨rfl, ee_31, S, z, hG, hcl_31, hmt_31⟩, hm_31⟩ := c_X11_measure hx hB hok hcl hmt k
        refine wq (fun _ _ kk => rs_callV (as := [_]) (pc := 31) dX11_two_31 mk_X11_measure mlX11_183 in_X11_measure se_X11_measure rfl (x_lt hx (by decide)) hx.2 rfl rfl (Nat.le_of_ble_eq_true rfl) (hm_31) kk) ?_
        replace hcl := hcl_31
        replace hmt := hmt_31
        replace hx := x_at.keep hx ee_31.1 (ee_31.2.2 0 (by decide))
        replace hB := hB.keep ee_31.1 (fun j _ _ => ee_31.2.2 j (by omega))
        refine wq (fun _ _ kk => rs_aload_n (pc := 34) dX11_two_34 rfl kk) ?_
        refine wq (fun _ _ kk => rs_getf (pc := 35) dX11_two_35 fX11_65 (x_lt hx (by decide)) hx.2 rfl kk) ?_
        refine wq (fun _ _ kk => rs_iload_n (pc := 38) dX11_two_38 rfl kk) ?_
        refine wq (fun _ _ kk => rs_iload_n (pc := 39) dX11_two_39 rfl kk) ?_
        refine wq (fun _ _ kk => rs_callV (as := [_, _]) (pc := 40) dX11_two_40 mk_X4_of mlX11_186 in_X4_of se_X4_of rfl (mt_lt hmt (by decide)) hmt.2.1 rfl rfl (Nat.le_of_ble_eq_true rfl) (c_X4_of hmt (show i < 16 by omega) (show j < 16 by omega)) kk) ?_
        refine wq (fun _ _ kk => wk_ast5 (pc := 43) dX11_two_43 (by decide) rfl kk) ?_
        refine wq (fun _ _ kk => rs_iload (pc := 45) dX11_two_45 rfl kk) ?_
        refine wq_bn (fun _ _ kt kf => rs_if_ne (tgt := 56) (pc := 47) dX11_two_47 rfl kt kf) (fun c_47 => ?_) (fun c_47 => ?_)
        · refine wq (fun _ _ kk => rs_aload (pc := 56) dX11_two_56 rfl kk) ?_
          refine wq (fun _ _ kk => rs_getf (pc := 58) dX11_two_58 fX11_150 (mt_lt hmt (by omega)) (hmt.2.2.2.2 (i * 16 + j) (by omega)) rfl kk) ?_
          refine wq_bn (fun _ _ kt kf => rs_if_ne (tgt := 67) (pc := 61) dX11_two_61 rfl kt kf) (fun c_61 => ?_) (fun c_61 => ?_)
          · refine wq (fun _ _ kk => rs_iload (pc := 67) dX11_two_67 rfl kk) ?_
            refine wq (fun _ _ kk => rs_iconst (v := 1) (pc := 69) dX11_two_69 rfl kk) ?_
            refine wq_bn (fun _ _ kt kf => rs_icmp_ne (tgt := 80) (pc := 70) dX11_two_70 rfl kt kf) (fun c_70 => ?_) (fun c_70 => ?_)
            · refine wq (fun _ _ kk => rs_iload (pc := 80) dX11_two_80 rfl kk) ?_
              refine wq (fun _ _ kk => rs_iconst (v := 2) (pc := 82) dX11_two_82 rfl kk) ?_
              refine wq_bn (fun _ _ kt kf => rs_icmp_ne (tgt := 95) (pc := 83) dX11_two_83 rfl kt kf) (fun c_83 => ?_) (fun c_83 => ?_)
              · refine wq (fun _ _ kk => rs_aload_n (pc := 95) dX11_two_95 rfl kk) ?_
                refine wq (fun _ _ kk => rs_getf (pc := 96) dX11_two_96 fX11_65 (x_lt hx (by decide)) hx.2 rfl kk) ?_
                refine wq (fun _ _ kk => rs_iload_n (pc := 99) dX11_two_99 rfl kk) ?_
                refine wq (fun _ _ kk => rs_iload_n (pc := 100) dX11_two_100 rfl kk) ?_
                refine wq (fun _ _ kk => rs_callV (as := [_, _]) (pc := 101) dX11_two_101 mk_X4_width mlX11_197 in_X4_width se_X4_width rfl (mt_lt hmt (by decide)) hmt.2.1 rfl rfl (Nat.le_of_ble_eq_true rfl) (c_X4_width hmt (show i < 16 by omega) (show j < 16 by omega)) kk) ?_
                refine wq (fun _ _ kk => rs_l2i (pc := 104) dX11_two_104 kk) ?_
                refine wq_ret ?_ (rs_iret (pc := 105) dX11_two_105 rfl)
                exact ⟨ee_31, hs.meet ee_31 ⟨_, hcl⟩ ⟨_, hmt⟩, Or.inr ⟨hgu, i, j, hi, hj, hij, rfl, rfl, S, z, hG, by simp [zz_two, c_6, c_13, c_23, c_47, c_61, c_70, c_83]⟩⟩
              · refine wq (fun _ _ kk => rs_aload (pc := 86) dX11_two_86 rfl kk) ?_
                refine wq (fun _ _ kk => rs_callV (as := []) (pc := 88) dX11_two_88 mk_X9_span mlX11_194 in_X9_span se_X9_span rfl (mt_lt hmt (by omega)) (hmt.2.2.2.2 (i * 16 + j) (by omega)) rfl rfl (Nat.le_of_ble_eq_true rfl) (c_X9_span (mt_lt hmt (by omega)) (hmt.2.2.2.2 (i * 16 + j) (by omega))) kk) ?_
                refine wq (fun _ _ kk => rs_l2i (pc := 91) dX11_two_91 kk) ?_
                refine wq (fun _ _ kk => rs_goto (tgt := 105) (pc := 92) dX11_two_92 rfl kk) ?_
                refine wq_ret ?_ (rs_iret (pc := 105) dX11_two_105 rfl)
                exact ⟨ee_31, hs.meet ee_31 ⟨_, hcl⟩ ⟨_, hmt⟩, Or.inr ⟨hgu, i, j, hi, hj, hij, rfl, rfl, S, z, hG, by simp [zz_two, c_6, c_13, c_23, c_47, c_61, c_70, c_83]⟩⟩
            · refine wq (fun _ _ kk => rs_aload (pc := 73) dX11_two_73 rfl kk) ?_
              refine wq (fun _ _ kk => rs_callV (as := []) (pc := 75) dX11_two_75 mk_X9_mean mlX11_190 in_X9_mean se_X9_mean rfl (mt_lt hmt (by omega)) (hmt.2.2.2.2 (i * 16 + j) (by omega)) rfl rfl (Nat.le_of_ble_eq_true rfl) (c_X9_mean (mt_lt hmt (by omega)) (hmt.2.2.2.2 (i * 16 + j) (by omega))) kk) ?_
              refine wq (fun _ _ kk => rs_l2i (pc := 78) dX11_two_78 kk) ?_
              refine wq_ret ?_ (rs_iret (pc := 79) dX11_two_79 rfl)
              exact ⟨ee_31, hs.meet ee_31 ⟨_, hcl⟩ ⟨_, hmt⟩, Or.inr ⟨hgu, i, j, hi, hj, hij, rfl, rfl, S, z, hG, by simp [zz_two, c_6, c_13, c_23, c_47, c_61, c_70]⟩⟩
          · refine wq (fun _ _ kk => rs_ldc (pc := 64) dX11_two_64 cnX11_145 kk) ?_
            refine wq_ret ?_ (rs_iret (pc := 66) dX11_two_66 rfl)
            exact ⟨ee_31, hs.meet ee_31 ⟨_, hcl⟩ ⟨_, hmt⟩, Or.inr ⟨hgu, i, j, hi, hj, hij, rfl, rfl, S, z, hG, by simp [zz_two, c_6, c_13, c_23, c_47, c_61]⟩⟩
        · refine wq (fun _ _ kk => rs_aload (pc := 50) dX11_two_50 rfl kk) ?_
          refine wq (fun _ _ kk => rs_getf (pc := 52) dX11_two_52 fX11_150 (mt_lt hmt (by omega)) (hmt.2.2.2.2 (i * 16 + j) (by omega)) rfl kk) ?_
          refine wq_ret ?_ (rs_iret (pc := 55) dX11_two_55 rfl)
          exact ⟨ee_31, hs.meet ee_31 ⟨_, hcl⟩ ⟨_, hmt⟩, Or.inr ⟨hgu, i, j, hi, hj, hij, rfl, rfl, S, z, hG, by simp [zz_two, c_6, c_13, c_23, c_47]⟩⟩
      · refine wq (fun _ _ kk => rs_ldc (pc := 26) dX11_two_26 cnX11_182 kk) ?_
        refine wq_ret ?_ (rs_iret (pc := 28) dX11_two_28 rfl)
        exact ⟨fr.rf, hs, Or.inl ⟨by simp [c_6, c_13, c_23], rfl⟩⟩
theorem dX11_rope_0 : decode cX11_rope 0 = .ok (.aload_n 0, 1) := by decide +kernel
theorem dX11_rope_1 : decode cX11_rope 1 = .ok (.iload_n 1, 1) := by decide +kernel
theorem dX11_rope_2 : decode cX11_rope 2 = .ok (.iload_n 2, 1) := by decide +kernel
theorem dX11_rope_3 : decode cX11_rope 3 = .ok (.invokevirtual 201, 3) := by decide +kernel
theorem dX11_rope_6 : decode cX11_rope 6 = .ok (.ifCond .eq 20, 3) := by decide +kernel
theorem dX11_rope_9 : decode cX11_rope 9 = .ok (.iload_n 3, 1) := by decide +kernel
theorem dX11_rope_10 : decode cX11_rope 10 = .ok (.invokestatic 97, 3) := by decide +kernel
theorem dX11_rope_13 : decode cX11_rope 13 = .ok (.ifCond .eq 13, 3) := by decide +kernel
theorem dX11_rope_16 : decode cX11_rope 16 = .ok (.iload 4, 2) := by decide +kernel
theorem dX11_rope_18 : decode cX11_rope 18 = .ok (.iconst 0, 1) := by decide +kernel
theorem dX11_rope_19 : decode cX11_rope 19 = .ok (.iconst 2, 1) := by decide +kernel
theorem dX11_rope_20 : decode cX11_rope 20 = .ok (.invokestatic 104, 3) := by decide +kernel
theorem dX11_rope_23 : decode cX11_rope 23 = .ok (.ifCond .ne 6, 3) := by decide +kernel
theorem dX11_rope_26 : decode cX11_rope 26 = .ok (.ldc 182, 2) := by decide +kernel
theorem dX11_rope_28 : decode cX11_rope 28 = .ok (.ireturn, 1) := by decide +kernel
theorem dX11_rope_29 : decode cX11_rope 29 = .ok (.aload_n 0, 1) := by decide +kernel
theorem dX11_rope_30 : decode cX11_rope 30 = .ok (.iload_n 2, 1) := by decide +kernel
theorem dX11_rope_31 : decode cX11_rope 31 = .ok (.iload_n 3, 1) := by decide +kernel
theorem dX11_rope_32 : decode cX11_rope 32 = .ok (.invokevirtual 204, 3) := by decide +kernel
theorem dX11_rope_35 : decode cX11_rope 35 = .ok (.aload_n 0, 1) := by decide +kernel
theorem dX11_rope_36 : decode cX11_rope 36 = .ok (.getfield 72, 3) := by decide +kernel
theorem dX11_rope_39 : decode cX11_rope 39 = .ok (.iload_n 1, 1) := by decide +kernel
theorem dX11_rope_40 : decode cX11_rope 40 = .ok (.invokevirtual 208, 3) := by decide +kernel
theorem dX11_rope_43 : decode cX11_rope 43 = .ok (.ifCond .ne 16, 3) := by decide +kernel
theorem dX11_rope_46 : decode cX11_rope 46 = .ok (.iload 4, 2) := by decide +kernel
theorem dX11_rope_48 : decode cX11_rope 48 = .ok (.ifCond .ne 8, 3) := by decide +kernel
theorem dX11_rope_51 : decode cX11_rope 51 = .ok (.bipush (-2), 2) := by decide +kernel
theorem dX11_rope_53 : decode cX11_rope 53 = .ok (.goto 5, 3) := by decide +kernel
theorem dX11_rope_56 : decode cX11_rope 56 = .ok (.ldc 145, 2) := by decide +kernel
theorem dX11_rope_58 : decode cX11_rope 58 = .ok (.ireturn, 1) := by decide +kernel
theorem dX11_rope_59 : decode cX11_rope 59 = .ok (.iload 4, 2) := by decide +kernel
theorem dX11_rope_61 : decode cX11_rope 61 = .ok (.ifCond .ne 12, 3) := by decide +kernel
theorem dX11_rope_64 : decode cX11_rope 64 = .ok (.aload_n 0, 1) := by decide +kernel
theorem dX11_rope_65 : decode cX11_rope 65 = .ok (.getfield 72, 3) := by decide +kernel
theorem dX11_rope_68 : decode cX11_rope 68 = .ok (.iload_n 1, 1) := by decide +kernel
theorem dX11_rope_69 : decode cX11_rope 69 = .ok (.invokevirtual 211, 3) := by decide +kernel
theorem dX11_rope_72 : decode cX11_rope 72 = .ok (.ireturn, 1) := by decide +kernel
theorem dX11_rope_73 : decode cX11_rope 73 = .ok (.iload 4, 2) := by decide +kernel
theorem dX11_rope_75 : decode cX11_rope 75 = .ok (.iconst 1, 1) := by decide +kernel
theorem dX11_rope_76 : decode cX11_rope 76 = .ok (.if_icmp .ne 15, 3) := by decide +kernel
theorem dX11_rope_79 : decode cX11_rope 79 = .ok (.aload_n 0, 1) := by decide +kernel
theorem dX11_rope_80 : decode cX11_rope 80 = .ok (.getfield 72, 3) := by decide +kernel
theorem dX11_rope_83 : decode cX11_rope 83 = .ok (.iload_n 1, 1) := by decide +kernel
theorem dX11_rope_84 : decode cX11_rope 84 = .ok (.invokevirtual 215, 3) := by decide +kernel
theorem dX11_rope_87 : decode cX11_rope 87 = .ok (.l2i, 1) := by decide +kernel
theorem dX11_rope_88 : decode cX11_rope 88 = .ok (.goto 12, 3) := by decide +kernel
theorem dX11_rope_91 : decode cX11_rope 91 = .ok (.aload_n 0, 1) := by decide +kernel
theorem dX11_rope_92 : decode cX11_rope 92 = .ok (.getfield 72, 3) := by decide +kernel
theorem dX11_rope_95 : decode cX11_rope 95 = .ok (.iload_n 1, 1) := by decide +kernel
theorem dX11_rope_96 : decode cX11_rope 96 = .ok (.invokevirtual 219, 3) := by decide +kernel
theorem dX11_rope_99 : decode cX11_rope 99 = .ok (.l2i, 1) := by decide +kernel
theorem dX11_rope_100 : decode cX11_rope 100 = .ok (.ireturn, 1) := by decide +kernel
set_option maxRecDepth 100000 in
set_option maxHeartbeats 4000000 in
theorem c_X11_rope {h : ai_H} {tb lm : Int32} {B : Bk} {ln : Nat} (hx : x_at h tb lm) (hB : bk_at h 1 B) (hok : bk_ok B ln) (hs : scr h) (a b k x : Int32) : ai_QM MX11_rope [.ref 0, .int a, .int b, .int k, .int x] h (fun r g => fr 22 297 h g ∧ scr g ∧ (((xs_both B a b = 0 ∨ bi_in k 0 9999 = 0 ∨ bi_in x 0 2 = 0) ∧ r = some (.int (-2000000000))) ∨ (¬ (xs_both B a b = 0 ∨ bi_in k 0 9999 = 0 ∨ bi_in x 0 2 = 0) ∧ (∃ i j, i < nO B ∧ j < nO B ∧ a = nI i ∧ b = nI j ∧ ∃ S z R, GI B k S (nR B) z ∧ rp_led (mt_F S z) (nO B) j R ∧ r = some (.int (zz_rope R i x)))))) := by
  obtain ⟨-, -, -, ⟨S0, hcl⟩, ⟨T0, hmt⟩, ⟨R0, hrp⟩, -⟩ := id hs
  have hn16 := hok.2.1.2.1
  refine qm_of (ls := [.ref 0, .int a, .int b, .int k, .int x]) (by decide) (by simp [ai_en, Value.category]) (by rfl) ?_
  refine wq (fun _ _ kk => rs_aload_n (pc := 0) dX11_rope_0 rfl kk) ?_
  refine wq (fun _ _ kk => rs_iload_n (pc := 1) dX11_rope_1 rfl kk) ?_
  refine wq (fun _ _ kk => rs_iload_n (pc := 2) dX11_rope_2 rfl kk) ?_
  refine wq (fun _ _ kk => rs_callV (as := [_, _]) (pc := 3) dX11_rope_3 mk_X11_hasBoth mlX11_201 in_X11_hasBoth se_X11_hasBoth rfl (x_lt hx (by decide)) hx.2 rfl rfl (Nat.le_of_ble_eq_true rfl) (c_X11_hasBoth hx hB a b) kk) ?_
  refine wq_br (fun _ _ kt kf => rs_if_eq (tgt := 26) (pc := 6) dX11_rope_6 rfl kt kf) (fun c_6 => ?_) (fun c_6 => ?_)
  · refine wq (fun _ _ kk => rs_ldc (pc := 26) dX11_rope_26 cnX11_182 kk) ?_
    refine wq_ret ?_ (rs_iret (pc := 28) dX11_rope_28 rfl)
    exact ⟨fr.rf, hs, Or.inl ⟨by simp [c_6], rfl⟩⟩
  · refine wq (fun _ _ kk => rs_iload_n (pc := 9) dX11_rope_9 rfl kk) ?_
    refine wq (fun _ _ kk => rs_callS (as := [_]) (pc := 10) dX11_rope_10 mk_X11_isWeek mlX11_97 st_X11_isWeek rfl rfl (Nat.le_of_ble_eq_true rfl) (c_X11_isWeek _) kk) ?_
    refine wq_br (fun _ _ kt kf => rs_if_eq (tgt := 26) (pc := 13) dX11_rope_13 rfl kt kf) (fun c_13 => ?_) (fun c_13 => ?_)
    · refine wq (fun _ _ kk => rs_ldc (pc := 26) dX11_rope_26 cnX11_182 kk) ?_
      refine wq_ret ?_ (rs_iret (pc := 28) dX11_rope_28 rfl)
      exact ⟨fr.rf, hs, Or.inl ⟨by simp [c_6, c_13], rfl⟩⟩
    · refine wq (fun _ _ kk => rs_iload (pc := 16) dX11_rope_16 rfl kk) ?_
      refine wq (fun _ _ kk => rs_iconst (v := 0) (pc := 18) dX11_rope_18 rfl kk) ?_
      refine wq (fun _ _ kk => rs_iconst (v := 2) (pc := 19) dX11_rope_19 rfl kk) ?_
      refine wq (fun _ _ kk => rs_callS (as := [_, _, _]) (pc := 20) dX11_rope_20 mk_X11_isWithin mlX11_104 st_X11_isWithin rfl rfl (Nat.le_of_ble_eq_true rfl) (c_X11_isWithin) kk) ?_
      refine wq_bn (fun _ _ kt kf => rs_if_ne (tgt := 29) (pc := 23) dX11_rope_23 rfl kt kf) (fun c_23 => ?_) (fun c_23 => ?_)
      · refine wq (fun _ _ kk => rs_aload_n (pc := 29) dX11_rope_29 rfl kk) ?_
        refine wq (fun _ _ kk => rs_iload_n (pc := 30) dX11_rope_30 rfl kk) ?_
        refine wq (fun _ _ kk => rs_iload_n (pc := 31) dX11_rope_31 rfl kk) ?_
        have hgu : ¬ (xs_both B a b = 0 ∨ bi_in k 0 9999 = 0 ∨ bi_in x 0 2 = 0) := by simp [c_6, c_13, c_23]
        obtain ⟨i, j, hi, hj, rfl, rfl⟩ := both_ex hok c_6
        obtain ⟨rv_32, hc_32, ⟨rfl, ee_32, S, z, R, hG, hcl_32, hmt_32, hrp_32, hled⟩, hm_32⟩ := c_X11_tie hx hB hok hcl hmt hrp hj k
        refine wq (fun _ _ kk => rs_callV (as := [_, _]) (pc := 32) dX11_rope_32 mk_X11_tie mlX11_204 in_X11_tie se_X11_tie rfl (x_lt hx (by decide)) hx.2 rfl rfl (Nat.le_of_ble_eq_true rfl) (hm_32) kk) ?_
        replace hcl := hcl_32
        replace hmt := hmt_32
        replace hrp := hrp_32
        replace hx := x_at.keep hx ee_32.1 (ee_32.2.2 0 (by decide))
        replace hB := hB.keep ee_32.1 (fun j _ _ => ee_32.2.2 j (by omega))
        refine wq (fun _ _ kk => rs_aload_n (pc := 35) dX11_rope_35 rfl kk) ?_
        refine wq (fun _ _ kk => rs_getf (pc := 36) dX11_rope_36 fX11_72 (x_lt hx (by decide)) hx.2 rfl kk) ?_
        refine wq (fun _ _ kk => rs_iload_n (pc := 39) dX11_rope_39 rfl kk) ?_
        refine wq (fun _ _ kk => rs_callV (as := [_]) (pc := 40) dX11_rope_40 mk_X6_reach mlX11_208 in_X6_reach se_X6_reach rfl (mo_lt hrp (by decide)) hrp.2.1 rfl rfl (Nat.le_of_ble_eq_true rfl) (c_X6_reach hrp (show i < 16 by omega)) kk) ?_
        refine wq_bn (fun _ _ kt kf => rs_if_ne (tgt := 59) (pc := 43) dX11_rope_43 rfl kt kf) (fun c_43 => ?_) (fun c_43 => ?_)
        · refine wq (fun _ _ kk => rs_iload (pc := 59) dX11_rope_59 rfl kk) ?_
          refine wq_bn (fun _ _ kt kf => rs_if_ne (tgt := 73) (pc := 61) dX11_rope_61 rfl kt kf) (fun c_61 => ?_) (fun c_61 => ?_)
          · refine wq (fun _ _ kk => rs_iload (pc := 73) dX11_rope_73 rfl kk) ?_
            refine wq (fun _ _ kk => rs_iconst (v := 1) (pc := 75) dX11_rope_75 rfl kk) ?_
            refine wq_bn (fun _ _ kt kf => rs_icmp_ne (tgt := 91) (pc := 76) dX11_rope_76 rfl kt kf) (fun c_76 => ?_) (fun c_76 => ?_)
            · refine wq (fun _ _ kk => rs_aload_n (pc := 91) dX11_rope_91 rfl kk) ?_
              refine wq (fun _ _ kk => rs_getf (pc := 92) dX11_rope_92 fX11_72 (x_lt hx (by decide)) hx.2 rfl kk) ?_
              refine wq (fun _ _ kk => rs_iload_n (pc := 95) dX11_rope_95 rfl kk) ?_
              refine wq (fun _ _ kk => rs_callV (as := [_]) (pc := 96) dX11_rope_96 mk_X6_width mlX11_219 in_X6_width se_X6_width rfl (mo_lt hrp (by decide)) hrp.2.1 rfl rfl (Nat.le_of_ble_eq_true rfl) (c_X6_width hrp (show i < 16 by omega)) kk) ?_
              refine wq (fun _ _ kk => rs_l2i (pc := 99) dX11_rope_99 kk) ?_
              refine wq_ret ?_ (rs_iret (pc := 100) dX11_rope_100 rfl)
              exact ⟨ee_32, hs.tie ee_32 ⟨_, hcl⟩ ⟨_, hmt⟩ ⟨_, hrp⟩, Or.inr ⟨hgu, i, j, hi, hj, rfl, rfl, S, z, R, hG, hled, by simp [zz_rope, c_6, c_13, c_23, c_43, c_61, c_76]⟩⟩
            · refine wq (fun _ _ kk => rs_aload_n (pc := 79) dX11_rope_79 rfl kk) ?_
              refine wq (fun _ _ kk => rs_getf (pc := 80) dX11_rope_80 fX11_72 (x_lt hx (by decide)) hx.2 rfl kk) ?_
              refine wq (fun _ _ kk => rs_iload_n (pc := 83) dX11_rope_83 rfl kk) ?_
              refine wq (fun _ _ kk => rs_callV (as := [_]) (pc := 84) dX11_rope_84 mk_X6_lean mlX11_215 in_X6_lean se_X6_lean rfl (mo_lt hrp (by decide)) hrp.2.1 rfl rfl (Nat.le_of_ble_eq_true rfl) (c_X6_lean hrp (show i < 16 by omega)) kk) ?_
              refine wq (fun _ _ kk => rs_l2i (pc := 87) dX11_rope_87 kk) ?_
              refine wq (fun _ _ kk => rs_goto (tgt := 100) (pc := 88) dX11_rope_88 rfl kk) ?_
              refine wq_ret ?_ (rs_iret (pc := 100) dX11_rope_100 rfl)
              exact ⟨ee_32, hs.tie ee_32 ⟨_, hcl⟩ ⟨_, hmt⟩ ⟨_, hrp⟩, Or.inr ⟨hgu, i, j, hi, hj, rfl, rfl, S, z, R, hG, hled, by simp [zz_rope, c_6, c_13, c_23, c_43, c_61, c_76]⟩⟩
          · refine wq (fun _ _ kk => rs_aload_n (pc := 64) dX11_rope_64 rfl kk) ?_
            refine wq (fun _ _ kk => rs_getf (pc := 65) dX11_rope_65 fX11_72 (x_lt hx (by decide)) hx.2 rfl kk) ?_
            refine wq (fun _ _ kk => rs_iload_n (pc := 68) dX11_rope_68 rfl kk) ?_
            refine wq (fun _ _ kk => rs_callV (as := [_]) (pc := 69) dX11_rope_69 mk_X6_links mlX11_211 in_X6_links se_X6_links rfl (mo_lt hrp (by decide)) hrp.2.1 rfl rfl (Nat.le_of_ble_eq_true rfl) (c_X6_links hrp (show i < 16 by omega)) kk) ?_
            refine wq_ret ?_ (rs_iret (pc := 72) dX11_rope_72 rfl)
            exact ⟨ee_32, hs.tie ee_32 ⟨_, hcl⟩ ⟨_, hmt⟩ ⟨_, hrp⟩, Or.inr ⟨hgu, i, j, hi, hj, rfl, rfl, S, z, R, hG, hled, by simp [zz_rope, c_6, c_13, c_23, c_43, c_61]⟩⟩
        · refine wq (fun _ _ kk => rs_iload (pc := 46) dX11_rope_46 rfl kk) ?_
          refine wq_bn (fun _ _ kt kf => rs_if_ne (tgt := 56) (pc := 48) dX11_rope_48 rfl kt kf) (fun c_48 => ?_) (fun c_48 => ?_)
          · refine wq (fun _ _ kk => rs_ldc (pc := 56) dX11_rope_56 cnX11_145 kk) ?_
            refine wq_ret ?_ (rs_iret (pc := 58) dX11_rope_58 rfl)
            exact ⟨ee_32, hs.tie ee_32 ⟨_, hcl⟩ ⟨_, hmt⟩ ⟨_, hrp⟩, Or.inr ⟨hgu, i, j, hi, hj, rfl, rfl, S, z, R, hG, hled, by simp [zz_rope, c_6, c_13, c_23, c_43, c_48]⟩⟩
          · refine wq (fun _ _ kk => rs_bipush (v := -2) (pc := 51) dX11_rope_51 rfl kk) ?_
            refine wq (fun _ _ kk => rs_goto (tgt := 58) (pc := 53) dX11_rope_53 rfl kk) ?_
            refine wq_ret ?_ (rs_iret (pc := 58) dX11_rope_58 rfl)
            exact ⟨ee_32, hs.tie ee_32 ⟨_, hcl⟩ ⟨_, hmt⟩ ⟨_, hrp⟩, Or.inr ⟨hgu, i, j, hi, hj, rfl, rfl, S, z, R, hG, hled, by simp [zz_rope, c_6, c_13, c_23, c_43, c_48]⟩⟩
      · refine wq (fun _ _ kk => rs_ldc (pc := 26) dX11_rope_26 cnX11_182 kk) ?_
        refine wq_ret ?_ (rs_iret (pc := 28) dX11_rope_28 rfl)
        exact ⟨fr.rf, hs, Or.inl ⟨by simp [c_6, c_13, c_23], rfl⟩⟩
def uu_knot (U : Nat → List Int) (n i j : Nat) (x : Int32) : Int32 := match ro_end (ro_U U) n j i with
  | none => -1
  | some v => if bi_in x 0 (nI (v % 32)) = 0 then -1 else nI (ro_pt (ro_U U) n j i x.toNatClampNeg)
theorem bi_in_ex {x : Int32} {L : Nat} (hL : L < 2 ^ 31) (h : ¬ bi_in x 0 (nI L) = 0) : ∃ m, m ≤ L ∧ x = nI m := by
  unfold bi_in at h
  split at h
  · exact absurd rfl h
  · split at h
    · exact absurd rfl h
    · next h1 h2 =>
      rw [i32_lt, i32_0] at h1
      rw [i32_lt, nI_toInt hL] at h2
      obtain ⟨m, m1, m2⟩ := i32_ex (n := L + 1) (show 0 ≤ x.toInt by omega) (by omega)
      exact ⟨m, by omega, m2⟩
theorem led_at {T : Nat → Ty} {U : Nat → List Int} (ht : trow T U) (hl : lrow U) {n gl : Nat} {R : Md} (hn : n ≤ 16) (hg : gl < n) (hled : rp_led T n gl R) {x : Nat} (hx : x < 16) : (ro_end (ro_U U) n gl x = none → R.2.2.2 0 x = -1 ∧ rp_re (R.2.2.2 0) x = 0) ∧ ∀ v, ro_end (ro_U U) n gl x = some v → R.2.2.2 0 x = aL v ∧ v ≤ 19578720015 ∧ x < n ∧ v % 32 < 16 ∧ ¬ R.2.2.2 0 x = -1 ∧ ¬ rp_re (R.2.2.2 0) x = 0 := by
  have e := (hled x hx).1
  rw [ro_T_U ht hl] at e
  refine ⟨fun z => ?_, fun v z => ?_⟩
  · rw [z] at e
    exact ⟨e, by rw [rp_re_0]; exact e⟩
  · rw [z] at e
    have hgd := ro_end_good (ro_32_pos (ro_U_32 U)) hg
    have hb := ro_U_b hl hn hgd z
    have hne : ¬ R.2.2.2 0 x = -1 := by
      rw [e, ro_e_m1 (fun w hw => by cases hw; omega)]
      exact fun q => by cases q
    exact ⟨e, hb.1, hb.2, (ro_good_li (ro_U_32 U) hn hgd z).1, hne, by rw [rp_re_0]; exact hne⟩
theorem dX11_knot_0 : decode cX11_knot 0 = .ok (.aload_n 0, 1) := by decide +kernel
theorem dX11_knot_1 : decode cX11_knot 1 = .ok (.iload_n 1, 1) := by decide +kernel
theorem dX11_knot_2 : decode cX11_knot 2 = .ok (.iload_n 2, 1) := by decide +kernel
theorem dX11_knot_3 : decode cX11_knot 3 = .ok (.invokevirtual 201, 3) := by decide +kernel
theorem dX11_knot_6 : decode cX11_knot 6 = .ok (.ifCond .eq 10, 3) := by decide +kernel
theorem dX11_knot_9 : decode cX11_knot 9 = .ok (.iload_n 3, 1) := by decide +kernel
theorem dX11_knot_10 : decode cX11_knot 10 = .ok (.invokestatic 97, 3) := by decide +kernel
theorem dX11_knot_13 : decode cX11_knot 13 = .ok (.ifCond .ne 5, 3) := by decide +kernel
theorem dX11_knot_16 : decode cX11_knot 16 = .ok (.iconst (-1), 1) := by decide +kernel
theorem dX11_knot_17 : decode cX11_knot 17 = .ok (.ireturn, 1) := by decide +kernel
theorem dX11_knot_18 : decode cX11_knot 18 = .ok (.aload_n 0, 1) := by decide +kernel
theorem dX11_knot_19 : decode cX11_knot 19 = .ok (.iload_n 2, 1) := by decide +kernel
theorem dX11_knot_20 : decode cX11_knot 20 = .ok (.iload_n 3, 1) := by decide +kernel
theorem dX11_knot_21 : decode cX11_knot 21 = .ok (.invokevirtual 204, 3) := by decide +kernel
theorem dX11_knot_24 : decode cX11_knot 24 = .ok (.aload_n 0, 1) := by decide +kernel
theorem dX11_knot_25 : decode cX11_knot 25 = .ok (.getfield 72, 3) := by decide +kernel
theorem dX11_knot_28 : decode cX11_knot 28 = .ok (.iload_n 1, 1) := by decide +kernel
theorem dX11_knot_29 : decode cX11_knot 29 = .ok (.invokevirtual 208, 3) := by decide +kernel
theorem dX11_knot_32 : decode cX11_knot 32 = .ok (.ifCond .eq 20, 3) := by decide +kernel
theorem dX11_knot_35 : decode cX11_knot 35 = .ok (.iload 4, 2) := by decide +kernel
theorem dX11_knot_37 : decode cX11_knot 37 = .ok (.iconst 0, 1) := by decide +kernel
theorem dX11_knot_38 : decode cX11_knot 38 = .ok (.aload_n 0, 1) := by decide +kernel
theorem dX11_knot_39 : decode cX11_knot 39 = .ok (.getfield 72, 3) := by decide +kernel
theorem dX11_knot_42 : decode cX11_knot 42 = .ok (.iload_n 1, 1) := by decide +kernel
theorem dX11_knot_43 : decode cX11_knot 43 = .ok (.invokevirtual 211, 3) := by decide +kernel
theorem dX11_knot_46 : decode cX11_knot 46 = .ok (.invokestatic 104, 3) := by decide +kernel
theorem dX11_knot_49 : decode cX11_knot 49 = .ok (.ifCond .ne 5, 3) := by decide +kernel
theorem dX11_knot_52 : decode cX11_knot 52 = .ok (.iconst (-1), 1) := by decide +kernel
theorem dX11_knot_53 : decode cX11_knot 53 = .ok (.ireturn, 1) := by decide +kernel
theorem dX11_knot_54 : decode cX11_knot 54 = .ok (.aload_n 0, 1) := by decide +kernel
theorem dX11_knot_55 : decode cX11_knot 55 = .ok (.getfield 72, 3) := by decide +kernel
theorem dX11_knot_58 : decode cX11_knot 58 = .ok (.iload_n 1, 1) := by decide +kernel
theorem dX11_knot_59 : decode cX11_knot 59 = .ok (.iload 4, 2) := by decide +kernel
theorem dX11_knot_61 : decode cX11_knot 61 = .ok (.invokevirtual 221, 3) := by decide +kernel
theorem dX11_knot_64 : decode cX11_knot 64 = .ok (.ireturn, 1) := by decide +kernel
set_option maxRecDepth 100000 in
set_option maxHeartbeats 4000000 in
theorem c_X11_knot {h : ai_H} {tb lm : Int32} {B : Bk} {ln : Nat} (hx : x_at h tb lm) (hB : bk_at h 1 B) (hok : bk_ok B ln) (hs : scr h) (a b k x : Int32) : ai_QM MX11_knot [.ref 0, .int a, .int b, .int k, .int x] h (fun r g => fr 22 297 h g ∧ scr g ∧ (((xs_both B a b = 0 ∨ bi_in k 0 9999 = 0) ∧ r = some (.int (-1))) ∨ (¬ (xs_both B a b = 0 ∨ bi_in k 0 9999 = 0) ∧ (∃ i j, i < nO B ∧ j < nO B ∧ a = nI i ∧ b = nI j ∧ ∃ S z, GI B k S (nR B) z ∧ r = some (.int (uu_knot (LM B k S z) (nO B) i j x)))))) := by
  obtain ⟨-, -, -, ⟨S0, hcl⟩, ⟨T0, hmt⟩, ⟨R0, hrp⟩, -⟩ := id hs
  have hn16 := hok.2.1.2.1
  refine qm_of (ls := [.ref 0, .int a, .int b, .int k, .int x]) (by decide) (by simp [ai_en, Value.category]) (by rfl) ?_
  refine wq (fun _ _ kk => rs_aload_n (pc := 0) dX11_knot_0 rfl kk) ?_
  refine wq (fun _ _ kk => rs_iload_n (pc := 1) dX11_knot_1 rfl kk) ?_
  refine wq (fun _ _ kk => rs_iload_n (pc := 2) dX11_knot_2 rfl kk) ?_
  refine wq (fun _ _ kk => rs_callV (as := [_, _]) (pc := 3) dX11_knot_3 mk_X11_hasBoth mlX11_201 in_X11_hasBoth se_X11_hasBoth rfl (x_lt hx (by decide)) hx.2 rfl rfl (Nat.le_of_ble_eq_true rfl) (c_X11_hasBoth hx hB a b) kk) ?_
  refine wq_br (fun _ _ kt kf => rs_if_eq (tgt := 16) (pc := 6) dX11_knot_6 rfl kt kf) (fun c_6 => ?_) (fun c_6 => ?_)
  · refine wq (fun _ _ kk => rs_iconst (v := -1) (pc := 16) dX11_knot_16 rfl kk) ?_
    refine wq_ret ?_ (rs_iret (pc := 17) dX11_knot_17 rfl)
    exact ⟨fr.rf, hs, Or.inl ⟨by simp [c_6], rfl⟩⟩
  · refine wq (fun _ _ kk => rs_iload_n (pc := 9) dX11_knot_9 rfl kk) ?_
    refine wq (fun _ _ kk => rs_callS (as := [_]) (pc := 10) dX11_knot_10 mk_X11_isWeek mlX11_97 st_X11_isWeek rfl rfl (Nat.le_of_ble_eq_true rfl) (c_X11_isWeek _) kk) ?_
    refine wq_bn (fun _ _ kt kf => rs_if_ne (tgt := 18) (pc := 13) dX11_knot_13 rfl kt kf) (fun c_13 => ?_) (fun c_13 => ?_)
    · refine wq (fun _ _ kk => rs_aload_n (pc := 18) dX11_knot_18 rfl kk) ?_
      refine wq (fun _ _ kk => rs_iload_n (pc := 19) dX11_knot_19 rfl kk) ?_
      refine wq (fun _ _ kk => rs_iload_n (pc := 20) dX11_knot_20 rfl kk) ?_
      obtain ⟨i, j, hi, hj, rfl, rfl⟩ := both_ex hok c_6
      obtain ⟨rv_21, hc_21, ⟨rfl, ee_21, S, z, R, hG, hcl_21, hmt_21, hrp_21, hled⟩, hm_21⟩ := c_X11_tie hx hB hok hcl hmt hrp hj k
      refine wq (fun _ _ kk => rs_callV (as := [_, _]) (pc := 21) dX11_knot_21 mk_X11_tie mlX11_204 in_X11_tie se_X11_tie rfl (x_lt hx (by decide)) hx.2 rfl rfl (Nat.le_of_ble_eq_true rfl) (hm_21) kk) ?_
      replace hcl := hcl_21
      replace hmt := hmt_21
      replace hrp := hrp_21
      replace hx := x_at.keep hx ee_21.1 (ee_21.2.2 0 (by decide))
      replace hB := hB.keep ee_21.1 (fun j _ _ => ee_21.2.2 j (by omega))
      obtain ⟨hlr, htr⟩ := LM_rows hok hG
      obtain ⟨la, lb⟩ := led_at htr hlr hn16 hj hled (show i < 16 by omega)
      refine wq (fun _ _ kk => rs_aload_n (pc := 24) dX11_knot_24 rfl kk) ?_
      refine wq (fun _ _ kk => rs_getf (pc := 25) dX11_knot_25 fX11_72 (x_lt hx (by decide)) hx.2 rfl kk) ?_
      refine wq (fun _ _ kk => rs_iload_n (pc := 28) dX11_knot_28 rfl kk) ?_
      refine wq (fun _ _ kk => rs_callV (as := [_]) (pc := 29) dX11_knot_29 mk_X6_reach mlX11_208 in_X6_reach se_X6_reach rfl (mo_lt hrp (by decide)) hrp.2.1 rfl rfl (Nat.le_of_ble_eq_true rfl) (c_X6_reach hrp (show i < 16 by omega)) kk) ?_
      refine wq_br (fun _ _ kt kf => rs_if_eq (tgt := 52) (pc := 32) dX11_knot_32 rfl kt kf) (fun c_32 => ?_) (fun c_32 => ?_)
      · have hv : ro_end (ro_U (LM B k S z)) (nO B) j i = none := by
          cases hq : ro_end (ro_U (LM B k S z)) (nO B) j i with
          | none => rfl
          | some v => exact absurd c_32 (lb v hq).2.2.2.2.2
        refine wq (fun _ _ kk => rs_iconst (v := -1) (pc := 52) dX11_knot_52 rfl kk) ?_
        refine wq_ret ?_ (rs_iret (pc := 53) dX11_knot_53 rfl)
        exact ⟨ee_21, hs.tie ee_21 ⟨_, hcl⟩ ⟨_, hmt⟩ ⟨_, hrp⟩, Or.inr ⟨by simp [c_6, c_13, c_32], i, j, hi, hj, rfl, rfl, S, z, hG, by first | (unfold uu_knot; rw [hv]; done) | (unfold uu_knot; rw [hv]; show _ = some (Value.int (if bi_in x 0 (nI (v % 32)) = 0 then -1 else _)); rw [if_pos c_49])⟩⟩
      · obtain ⟨v, hv⟩ : ∃ v, ro_end (ro_U (LM B k S z)) (nO B) j i = some v := by
          cases hq : ro_end (ro_U (LM B k S z)) (nO B) j i with
          | none => exact absurd (la hq).2 c_32
          | some v => exact ⟨v, rfl⟩
        obtain ⟨v1, v2, v3, v4, v5, v6⟩ := lb v hv
        have eli := rp_li_is (t := R.2.2.2 0) (x := i) v1 (by omega)
        refine wq (fun _ _ kk => rs_iload (pc := 35) dX11_knot_35 rfl kk) ?_
        refine wq (fun _ _ kk => rs_iconst (v := 0) (pc := 37) dX11_knot_37 rfl kk) ?_
        refine wq (fun _ _ kk => rs_aload_n (pc := 38) dX11_knot_38 rfl kk) ?_
        refine wq (fun _ _ kk => rs_getf (pc := 39) dX11_knot_39 fX11_72 (x_lt hx (by decide)) hx.2 rfl kk) ?_
        refine wq (fun _ _ kk => rs_iload_n (pc := 42) dX11_knot_42 rfl kk) ?_
        refine wq (fun _ _ kk => rs_callV (as := [_]) (pc := 43) dX11_knot_43 mk_X6_links mlX11_211 in_X6_links se_X6_links rfl (mo_lt hrp (by decide)) hrp.2.1 rfl rfl (Nat.le_of_ble_eq_true rfl) (c_X6_links hrp (show i < 16 by omega)) kk) ?_
        rw [eli]
        refine wq (fun _ _ kk => rs_callS (as := [_, _, _]) (pc := 46) dX11_knot_46 mk_X11_isWithin mlX11_104 st_X11_isWithin rfl rfl (Nat.le_of_ble_eq_true rfl) (c_X11_isWithin) kk) ?_
        refine wq_bn (fun _ _ kt kf => rs_if_ne (tgt := 54) (pc := 49) dX11_knot_49 rfl kt kf) (fun c_49 => ?_) (fun c_49 => ?_)
        · obtain ⟨m, hm, rfl⟩ := bi_in_ex (by omega) c_49
          have hpt := ro_pt_lead (T := mt_F S z) (x := i) (o := R.2.2.1 1) hn16 hj (by rw [ro_T_U htr hlr]; exact hv) (fun y hy => (hled y hy).2.1)
          refine wq (fun _ _ kk => rs_aload_n (pc := 54) dX11_knot_54 rfl kk) ?_
          refine wq (fun _ _ kk => rs_getf (pc := 55) dX11_knot_55 fX11_72 (x_lt hx (by decide)) hx.2 rfl kk) ?_
          refine wq (fun _ _ kk => rs_iload_n (pc := 58) dX11_knot_58 rfl kk) ?_
          refine wq (fun _ _ kk => rs_iload (pc := 59) dX11_knot_59 rfl kk) ?_
          refine wq (fun _ _ kk => rs_callV (as := [_, _]) (pc := 61) dX11_knot_61 mk_X6_along mlX11_221 in_X6_along se_X6_along rfl (mo_lt hrp (by decide)) hrp.2.1 rfl rfl (Nat.le_of_ble_eq_true rfl) (c_X6_along (p := ro_pt (ro_T (mt_F S z)) (nO B) j i) (L := m) hrp (by omega) (fun q hq => ⟨(hpt q (by omega)).1, (hpt q (by omega)).2.1⟩)) kk) ?_
          refine wq_ret ?_ (rs_iret (pc := 64) dX11_knot_64 rfl)
          exact ⟨ee_21, hs.tie ee_21 ⟨_, hcl⟩ ⟨_, hmt⟩ ⟨_, hrp⟩, Or.inr ⟨by simp [c_6, c_13, c_32, c_49], i, j, hi, hj, rfl, rfl, S, z, hG, by (unfold uu_knot; rw [hv]; show _ = some (Value.int (if bi_in (nI m) 0 (nI (v % 32)) = 0 then -1 else _)); rw [if_neg c_49, ro_T_U htr hlr, nI_clamp (by omega)])⟩⟩
        · refine wq (fun _ _ kk => rs_iconst (v := -1) (pc := 52) dX11_knot_52 rfl kk) ?_
          refine wq_ret ?_ (rs_iret (pc := 53) dX11_knot_53 rfl)
          exact ⟨ee_21, hs.tie ee_21 ⟨_, hcl⟩ ⟨_, hmt⟩ ⟨_, hrp⟩, Or.inr ⟨by simp [c_6, c_13, c_32, c_49], i, j, hi, hj, rfl, rfl, S, z, hG, by first | (unfold uu_knot; rw [hv]; done) | (unfold uu_knot; rw [hv]; show _ = some (Value.int (if bi_in x 0 (nI (v % 32)) = 0 then -1 else _)); rw [if_pos c_49])⟩⟩
    · refine wq (fun _ _ kk => rs_iconst (v := -1) (pc := 16) dX11_knot_16 rfl kk) ?_
      refine wq_ret ?_ (rs_iret (pc := 17) dX11_knot_17 rfl)
      exact ⟨fr.rf, hs, Or.inl ⟨by simp [c_6, c_13], rfl⟩⟩
theorem dX11_far_0 : decode cX11_far 0 = .ok (.aload_n 0, 1) := by decide +kernel
theorem dX11_far_1 : decode cX11_far 1 = .ok (.getfield 10, 3) := by decide +kernel
theorem dX11_far_4 : decode cX11_far 4 = .ok (.getfield 108, 3) := by decide +kernel
theorem dX11_far_7 : decode cX11_far 7 = .ok (.iload_n 1, 1) := by decide +kernel
theorem dX11_far_8 : decode cX11_far 8 = .ok (.invokevirtual 138, 3) := by decide +kernel
theorem dX11_far_11 : decode cX11_far 11 = .ok (.ifCond .eq 10, 3) := by decide +kernel
theorem dX11_far_14 : decode cX11_far 14 = .ok (.iload_n 2, 1) := by decide +kernel
theorem dX11_far_15 : decode cX11_far 15 = .ok (.invokestatic 97, 3) := by decide +kernel
theorem dX11_far_18 : decode cX11_far 18 = .ok (.ifCond .ne 5, 3) := by decide +kernel
theorem dX11_far_21 : decode cX11_far 21 = .ok (.iconst (-1), 1) := by decide +kernel
theorem dX11_far_22 : decode cX11_far 22 = .ok (.ireturn, 1) := by decide +kernel
theorem dX11_far_23 : decode cX11_far 23 = .ok (.aload_n 0, 1) := by decide +kernel
theorem dX11_far_24 : decode cX11_far 24 = .ok (.iload_n 1, 1) := by decide +kernel
theorem dX11_far_25 : decode cX11_far 25 = .ok (.iload_n 2, 1) := by decide +kernel
theorem dX11_far_26 : decode cX11_far 26 = .ok (.invokevirtual 204, 3) := by decide +kernel
theorem dX11_far_29 : decode cX11_far 29 = .ok (.iconst 0, 1) := by decide +kernel
theorem dX11_far_30 : decode cX11_far 30 = .ok (.istore_n 3, 1) := by decide +kernel
theorem dX11_far_31 : decode cX11_far 31 = .ok (.iconst 0, 1) := by decide +kernel
theorem dX11_far_32 : decode cX11_far 32 = .ok (.istore 4, 2) := by decide +kernel
theorem dX11_far_34 : decode cX11_far 34 = .ok (.iload 4, 2) := by decide +kernel
theorem dX11_far_36 : decode cX11_far 36 = .ok (.aload_n 0, 1) := by decide +kernel
theorem dX11_far_37 : decode cX11_far 37 = .ok (.getfield 10, 3) := by decide +kernel
theorem dX11_far_40 : decode cX11_far 40 = .ok (.getfield 108, 3) := by decide +kernel
theorem dX11_far_43 : decode cX11_far 43 = .ok (.getfield 224, 3) := by decide +kernel
theorem dX11_far_46 : decode cX11_far 46 = .ok (.if_icmp .ge 28, 3) := by decide +kernel
theorem dX11_far_49 : decode cX11_far 49 = .ok (.aload_n 0, 1) := by decide +kernel
theorem dX11_far_50 : decode cX11_far 50 = .ok (.getfield 72, 3) := by decide +kernel
theorem dX11_far_53 : decode cX11_far 53 = .ok (.iload 4, 2) := by decide +kernel
theorem dX11_far_55 : decode cX11_far 55 = .ok (.invokevirtual 208, 3) := by decide +kernel
theorem dX11_far_58 : decode cX11_far 58 = .ok (.ifCond .ne 10, 3) := by decide +kernel
theorem dX11_far_61 : decode cX11_far 61 = .ok (.iload_n 3, 1) := by decide +kernel
theorem dX11_far_62 : decode cX11_far 62 = .ok (.iconst 1, 1) := by decide +kernel
theorem dX11_far_63 : decode cX11_far 63 = .ok (.iload 4, 2) := by decide +kernel
theorem dX11_far_65 : decode cX11_far 65 = .ok (.ishl, 1) := by decide +kernel
theorem dX11_far_66 : decode cX11_far 66 = .ok (.ior, 1) := by decide +kernel
theorem dX11_far_67 : decode cX11_far 67 = .ok (.istore_n 3, 1) := by decide +kernel
theorem dX11_far_68 : decode cX11_far 68 = .ok (.iinc 4 1, 3) := by decide +kernel
theorem dX11_far_71 : decode cX11_far 71 = .ok (.goto (-37), 3) := by decide +kernel
theorem dX11_far_74 : decode cX11_far 74 = .ok (.iload_n 3, 1) := by decide +kernel
theorem dX11_far_75 : decode cX11_far 75 = .ok (.ireturn, 1) := by decide +kernel
set_option maxRecDepth 100000 in
set_option maxHeartbeats 4000000 in
theorem l_X11_far {h : ai_H} {tb lm : Int32} {B : Bk} {ln : Nat} (hx : x_at h tb lm) (hB : bk_at h 1 B) (hok : bk_ok B ln) {R : Md} (hrp : rp_at h R) (a k : Int32) : ∀ (m q : Nat), q ≤ nO B → nO B + 1 ≤ q + m → ai_R MX11_far 34 [.ref 0, .int a, .int k, .int (zz_far R q), .int (nI q)] [] h (some (.int (zz_far R (nO B)))) h := by
  intro m
  induction m with
  | zero => intro q h1 h2; exact absurd h2 (by omega)
  | succ m ih =>
    intro q hq0 him
    have hn16 := hok.2.1.2.1
    unfold zz_far at *
    refine rs_iload (pc := 34) dX11_far_34 rfl ?_
    refine rs_aload_n (pc := 36) dX11_far_36 rfl ?_
    refine rs_getf (pc := 37) dX11_far_37 fX11_10 (x_lt hx (by decide)) hx.2 rfl ?_
    refine rs_getf (pc := 40) dX11_far_40 fX11_108 (bk_lt hB (by decide)) hB.2.1 rfl ?_
    refine rs_getf (pc := 43) dX11_far_43 fX11_224 (bk_lt hB (by decide)) hB.2.2.1.1 rfl ?_
    refine rs_icmp_ge (tgt := 74) (pc := 46) dX11_far_46 rfl (fun c_46 => ?_) (fun c_46 => ?_)
    · have hqe : q = nO B := lp_exit hok.2.1.1 (by omega) hq0 c_46
      subst hqe
      refine rs_iload_n (pc := 74) dX11_far_74 rfl ?_
      exact wk_iret (pc := 75) dX11_far_75 rfl (rfl) (rfl)
    · have hq : q < nO B := lp_go hok.2.1.1 (by omega) c_46
      refine rs_aload_n (pc := 49) dX11_far_49 rfl ?_
      refine rs_getf (pc := 50) dX11_far_50 fX11_72 (x_lt hx (by decide)) hx.2 rfl ?_
      refine rs_iload (pc := 53) dX11_far_53 rfl ?_
      refine rs_callV (as := [_]) (pc := 55) dX11_far_55 mk_X6_reach mlX11_208 in_X6_reach se_X6_reach rfl (mo_lt hrp (by decide)) hrp.2.1 rfl rfl (Nat.le_of_ble_eq_true rfl) (c_X6_reach hrp (show q < 16 by omega)) ?_
      refine rs_if_ne (tgt := 68) (pc := 58) dX11_far_58 rfl (fun c_58 => ?_) (fun c_58 => ?_)
      · refine wk_iinc4 (v := nI (q + 1)) (pc := 68) dX11_far_68 (by decide) rfl (nI_1 q) ?_
        refine rs_goto (tgt := 34) (pc := 71) dX11_far_71 rfl ?_
        first
        | (rw [show fO (fun i => decide (rp_re (R.2.2.2 0) i = 0)) (fun i => 1 <<< (nI i &&& 31)) q ||| 1 <<< (nI q &&& 31) = fO (fun i => decide (rp_re (R.2.2.2 0) i = 0)) (fun i => 1 <<< (nI i &&& 31)) (q + 1) from by rw [fO, if_pos (by simp [c_58])]]
           exact ih (q + 1) (by omega) (by omega))
        | (rw [show fO (fun i => decide (rp_re (R.2.2.2 0) i = 0)) (fun i => 1 <<< (nI i &&& 31)) q = fO (fun i => decide (rp_re (R.2.2.2 0) i = 0)) (fun i => 1 <<< (nI i &&& 31)) (q + 1) from by rw [fO, if_neg (by simp [c_58])]]
           exact ih (q + 1) (by omega) (by omega))
      · refine rs_iload_n (pc := 61) dX11_far_61 rfl ?_
        refine rs_iconst (v := 1) (pc := 62) dX11_far_62 rfl ?_
        refine rs_iload (pc := 63) dX11_far_63 rfl ?_
        refine rs_ishl (pc := 65) dX11_far_65 ?_
        refine rs_ior (pc := 66) dX11_far_66 ?_
        refine wk_istn3 (pc := 67) dX11_far_67 (by decide) rfl ?_
        refine wk_iinc4 (v := nI (q + 1)) (pc := 68) dX11_far_68 (by decide) rfl (nI_1 q) ?_
        refine rs_goto (tgt := 34) (pc := 71) dX11_far_71 rfl ?_
        first
        | (rw [show fO (fun i => decide (rp_re (R.2.2.2 0) i = 0)) (fun i => 1 <<< (nI i &&& 31)) q ||| 1 <<< (nI q &&& 31) = fO (fun i => decide (rp_re (R.2.2.2 0) i = 0)) (fun i => 1 <<< (nI i &&& 31)) (q + 1) from by rw [fO, if_pos (by simp [c_58])]]
           exact ih (q + 1) (by omega) (by omega))
        | (rw [show fO (fun i => decide (rp_re (R.2.2.2 0) i = 0)) (fun i => 1 <<< (nI i &&& 31)) q = fO (fun i => decide (rp_re (R.2.2.2 0) i = 0)) (fun i => 1 <<< (nI i &&& 31)) (q + 1) from by rw [fO, if_neg (by simp [c_58])]]
           exact ih (q + 1) (by omega) (by omega))
set_option maxRecDepth 100000 in
set_option maxHeartbeats 4000000 in
theorem c_X11_far {h : ai_H} {tb lm : Int32} {B : Bk} {ln : Nat} (hx : x_at h tb lm) (hB : bk_at h 1 B) (hok : bk_ok B ln) (hs : scr h) (a k : Int32) : ai_QM MX11_far [.ref 0, .int a, .int k] h (fun r g => fr 22 297 h g ∧ scr g ∧ (((tb_has (bk_o B).1 a = 0 ∨ bi_in k 0 9999 = 0) ∧ r = some (.int (-1))) ∨ (¬ (tb_has (bk_o B).1 a = 0 ∨ bi_in k 0 9999 = 0) ∧ (∃ i, i < nO B ∧ a = nI i ∧ ∃ S z R, GI B k S (nR B) z ∧ rp_led (mt_F S z) (nO B) i R ∧ r = some (.int (zz_far R (nO B))))))) := by
  obtain ⟨-, -, -, ⟨S0, hcl⟩, ⟨T0, hmt⟩, ⟨R0, hrp⟩, -⟩ := id hs
  have hn16 := hok.2.1.2.1
  refine qm_of (ls := [.ref 0, .int a, .int k, .float 0, .float 0]) (by decide) (by simp [ai_en, Value.category]) (by rfl) ?_
  refine wq (fun _ _ kk => rs_aload_n (pc := 0) dX11_far_0 rfl kk) ?_
  refine wq (fun _ _ kk => rs_getf (pc := 1) dX11_far_1 fX11_10 (x_lt hx (by decide)) hx.2 rfl kk) ?_
  refine wq (fun _ _ kk => rs_getf (pc := 4) dX11_far_4 fX11_108 (bk_lt hB (by decide)) hB.2.1 rfl kk) ?_
  refine wq (fun _ _ kk => rs_iload_n (pc := 7) dX11_far_7 rfl kk) ?_
  refine wq (fun _ _ kk => rs_callV (as := [_]) (pc := 8) dX11_far_8 mk_X8_has mlX11_138 in_X8_has se_X8_has rfl (bk_lt hB (by decide)) hB.2.2.1.1 rfl rfl (Nat.le_of_ble_eq_true rfl) (c_X8_has (bk_lt hB (by decide)) hB.2.2.1.1 _) kk) ?_
  refine wq_br (fun _ _ kt kf => rs_if_eq (tgt := 21) (pc := 11) dX11_far_11 rfl kt kf) (fun c_11 => ?_) (fun c_11 => ?_)
  · refine wq (fun _ _ kk => rs_iconst (v := -1) (pc := 21) dX11_far_21 rfl kk) ?_
    refine wq_ret ?_ (rs_iret (pc := 22) dX11_far_22 rfl)
    exact ⟨fr.rf, hs, Or.inl ⟨by simp [c_11], rfl⟩⟩
  · refine wq (fun _ _ kk => rs_iload_n (pc := 14) dX11_far_14 rfl kk) ?_
    refine wq (fun _ _ kk => rs_callS (as := [_]) (pc := 15) dX11_far_15 mk_X11_isWeek mlX11_97 st_X11_isWeek rfl rfl (Nat.le_of_ble_eq_true rfl) (c_X11_isWeek _) kk) ?_
    refine wq_bn (fun _ _ kt kf => rs_if_ne (tgt := 23) (pc := 18) dX11_far_18 rfl kt kf) (fun c_18 => ?_) (fun c_18 => ?_)
    · refine wq (fun _ _ kk => rs_aload_n (pc := 23) dX11_far_23 rfl kk) ?_
      refine wq (fun _ _ kk => rs_iload_n (pc := 24) dX11_far_24 rfl kk) ?_
      refine wq (fun _ _ kk => rs_iload_n (pc := 25) dX11_far_25 rfl kk) ?_
      rw [hok.2.1.1] at c_11
      obtain ⟨i, hi, rfl⟩ := has_ex (by omega) c_11
      obtain ⟨rv_26, hc_26, ⟨rfl, ee_26, S, z, R, hG, hcl_26, hmt_26, hrp_26, hled⟩, hm_26⟩ := c_X11_tie hx hB hok hcl hmt hrp hi k
      refine wq (fun _ _ kk => rs_callV (as := [_, _]) (pc := 26) dX11_far_26 mk_X11_tie mlX11_204 in_X11_tie se_X11_tie rfl (x_lt hx (by decide)) hx.2 rfl rfl (Nat.le_of_ble_eq_true rfl) (hm_26) kk) ?_
      replace hcl := hcl_26
      replace hmt := hmt_26
      replace hrp := hrp_26
      replace hx := x_at.keep hx ee_26.1 (ee_26.2.2 0 (by decide))
      replace hB := hB.keep ee_26.1 (fun j _ _ => ee_26.2.2 j (by omega))
      refine wq (fun _ _ kk => rs_iconst (v := 0) (pc := 29) dX11_far_29 rfl kk) ?_
      refine wq (fun _ _ kk => wk_istn3 (pc := 30) dX11_far_30 (by decide) rfl kk) ?_
      refine wq (fun _ _ kk => rs_iconst (v := 0) (pc := 31) dX11_far_31 rfl kk) ?_
      refine wq (fun _ _ kk => wk_ist4 (pc := 32) dX11_far_32 (by decide) rfl kk) ?_
      exact ⟨_, _, ⟨ee_26, hs.tie ee_26 ⟨_, hcl⟩ ⟨_, hmt⟩ ⟨_, hrp⟩, Or.inr ⟨by rw [hok.2.1.1]; simp [c_11, c_18], i, hi, rfl, S, z, R, hG, hled, rfl⟩⟩, l_X11_far hx hB hok hrp _ _ (nO B + 1) 0 (by omega) (by omega)⟩
    · refine wq (fun _ _ kk => rs_iconst (v := -1) (pc := 21) dX11_far_21 rfl kk) ?_
      refine wq_ret ?_ (rs_iret (pc := 22) dX11_far_22 rfl)
      exact ⟨fr.rf, hs, Or.inl ⟨by simp [c_11, c_18], rfl⟩⟩
