/-! 18: the model's simple methods (walks laid by wip/whole/p18.py) -/
def ms_clock (S : Md) (w : Int32) : Int32 := if bi_in w (S.1 1) 9999 = 0 then 0 else 1
def ms_clockS (S : Md) (w : Int32) : Md := if bi_in w (S.1 1) 9999 = 0 then S else md_si S 1 w
/-- a condition on longs that came of ints -/
theorem inL_0 {a b c : Int32} {x y z : Int64} (hx : x = a.toInt64) (hy : y = b.toInt64) (hz : z = c.toInt64) (h : bi_inL x y z = 0) : bi_in a b c = 0 := by
  rw [hx, hy, hz, bi_inL_of] at h; exact h
theorem inL_1 {a b c : Int32} {x y z : Int64} (hx : x = a.toInt64) (hy : y = b.toInt64) (hz : z = c.toInt64) (h : ¬ bi_inL x y z = 0) : ¬ bi_in a b c = 0 := by
  rw [hx, hy, hz, bi_inL_of] at h; exact h
theorem dX12_clock_0 : decode cX12_clock 0 = .ok (.iload_n 1, 1) := by decide +kernel
theorem dX12_clock_1 : decode cX12_clock 1 = .ok (.i2l, 1) := by decide +kernel
theorem dX12_clock_2 : decode cX12_clock 2 = .ok (.aload_n 0, 1) := by decide +kernel
theorem dX12_clock_3 : decode cX12_clock 3 = .ok (.getfield 185, 3) := by decide +kernel
theorem dX12_clock_6 : decode cX12_clock 6 = .ok (.i2l, 1) := by decide +kernel
theorem dX12_clock_7 : decode cX12_clock 7 = .ok (.ldc2_w 179, 3) := by decide +kernel
theorem dX12_clock_10 : decode cX12_clock 10 = .ok (.invokestatic 181, 3) := by decide +kernel
theorem dX12_clock_13 : decode cX12_clock 13 = .ok (.ifCond .ne 5, 3) := by decide +kernel
theorem dX12_clock_16 : decode cX12_clock 16 = .ok (.iconst 0, 1) := by decide +kernel
theorem dX12_clock_17 : decode cX12_clock 17 = .ok (.ireturn, 1) := by decide +kernel
theorem dX12_clock_18 : decode cX12_clock 18 = .ok (.aload_n 0, 1) := by decide +kernel
theorem dX12_clock_19 : decode cX12_clock 19 = .ok (.iload_n 1, 1) := by decide +kernel
theorem dX12_clock_20 : decode cX12_clock 20 = .ok (.putfield 185, 3) := by decide +kernel
theorem dX12_clock_23 : decode cX12_clock 23 = .ok (.iconst 1, 1) := by decide +kernel
theorem dX12_clock_24 : decode cX12_clock 24 = .ok (.ireturn, 1) := by decide +kernel
set_option maxRecDepth 100000 in
set_option maxHeartbeats 4000000 in
theorem c_X12_clock {h : ai_H} {S : Md} (hmd : md_at h S) (w : Int32) : ai_QM MX12_clock [.ref 307, .int w] h (md_q h (some (.int (ms_clock S w))) (ms_clockS S w)) := by
  refine qm_of (ls := [.ref 307, .int w]) (by decide) (by simp [ai_en, Value.category]) (by rfl) ?_
  refine wq (fun _ _ kk => rs_iload_n (pc := 0) dX12_clock_0 rfl kk) ?_
  refine wq (fun _ _ kk => rs_i2l (pc := 1) dX12_clock_1 kk) ?_
  refine wq (fun _ _ kk => rs_aload_n (pc := 2) dX12_clock_2 rfl kk) ?_
  refine wq (fun _ _ kk => rs_getf (pc := 3) dX12_clock_3 fX12_185 (md_lt hmd (by decide)) hmd.2.1 rfl kk) ?_
  refine wq (fun _ _ kk => rs_i2l (pc := 6) dX12_clock_6 kk) ?_
  refine wq (fun _ _ kk => rs_ldc2 (pc := 7) dX12_clock_7 cnX12_179 kk) ?_
  refine wq (fun _ _ kk => rs_callS (as := [_, _, _]) (pc := 10) dX12_clock_10 mk_X12_in mlX12_181 st_X12_in rfl rfl (Nat.le_of_ble_eq_true rfl) (c_X12_in) kk) ?_
  refine wq_bn (fun _ _ kt kf => rs_if_ne (tgt := 18) (pc := 13) dX12_clock_13 rfl kt kf) (fun c_13 => ?_) (fun c_13 => ?_)
  · replace c_13 := inL_1 (a := w) (b := (S.1 1)) (c := 9999) rfl rfl rfl c_13
    refine wq (fun _ _ kk => rs_aload_n (pc := 18) dX12_clock_18 rfl kk) ?_
    refine wq (fun _ _ kk => rs_iload_n (pc := 19) dX12_clock_19 rfl kk) ?_
    refine wq (fun _ _ kk => rs_putf (pc := 20) dX12_clock_20 fX12_185 (md_lt hmd (by decide)) hmd.2.1 rfl (Nat.le_of_ble_eq_true rfl) kk) ?_
    refine wq_gen (fun h_1 e_1 => ?_)
    obtain ⟨m_1, s_1, g_1, o_1⟩ := ai_e1 e_1
    replace hmd := md_at_si (k := 1) hmd m_1 g_1 o_1 rfl
    have E_1 := (md_ext.rf).trans (md_ext_of m_1 s_1 o_1 (by decide))
    refine wq (fun _ _ kk => rs_iconst (v := 1) (pc := 23) dX12_clock_23 rfl kk) ?_
    refine wq_ret ?_ (rs_zret (pc := 24) dX12_clock_24 rfl (Or.inr rfl))
    exact ⟨by simp [ms_clock, c_13], E_1, by rw [show ms_clockS S w = _ from by simp [ms_clockS, c_13]; rfl]; exact hmd⟩
  · replace c_13 := inL_0 (a := w) (b := (S.1 1)) (c := 9999) rfl rfl rfl c_13
    refine wq (fun _ _ kk => rs_iconst (v := 0) (pc := 16) dX12_clock_16 rfl kk) ?_
    refine wq_ret ?_ (rs_zret (pc := 17) dX12_clock_17 rfl (Or.inl rfl))
    exact ⟨by simp [ms_clock, c_13], md_ext.rf, by rw [show ms_clockS S w = _ from by simp [ms_clockS, c_13]; rfl]; exact hmd⟩
theorem i32_neN {x k : Int32} {n : Int} (h : ¬ x = k) (hk : k.toInt = n) : x.toInt ≠ n := i32_nek h hk
def ms_obs (S : Md) (w : Int32) : Int32 := if S.1 2 = 16 ∨ bi_in w (-5000) 9999 = 0 then -1 else S.1 2 + 1 - 1
def ms_obsS (S : Md) (w : Int32) : Md := if S.1 2 = 16 ∨ bi_in w (-5000) 9999 = 0 then S else (md_si (md_ai (md_ai S 6 (upd (S.2.2.1 6) (S.1 2).toNatClampNeg w)) 7 (upd (S.2.2.1 7) (S.1 2).toNatClampNeg (-1))) 2 (S.1 2 + 1))
theorem dX12_observer_0 : decode cX12_observer 0 = .ok (.aload_n 0, 1) := by decide +kernel
theorem dX12_observer_1 : decode cX12_observer 1 = .ok (.getfield 188, 3) := by decide +kernel
theorem dX12_observer_4 : decode cX12_observer 4 = .ok (.bipush 16, 2) := by decide +kernel
theorem dX12_observer_6 : decode cX12_observer 6 = .ok (.if_icmp .eq 17, 3) := by decide +kernel
theorem dX12_observer_9 : decode cX12_observer 9 = .ok (.iload_n 1, 1) := by decide +kernel
theorem dX12_observer_10 : decode cX12_observer 10 = .ok (.i2l, 1) := by decide +kernel
theorem dX12_observer_11 : decode cX12_observer 11 = .ok (.ldc2_w 202, 3) := by decide +kernel
theorem dX12_observer_14 : decode cX12_observer 14 = .ok (.ldc2_w 179, 3) := by decide +kernel
theorem dX12_observer_17 : decode cX12_observer 17 = .ok (.invokestatic 181, 3) := by decide +kernel
theorem dX12_observer_20 : decode cX12_observer 20 = .ok (.ifCond .ne 5, 3) := by decide +kernel
theorem dX12_observer_23 : decode cX12_observer 23 = .ok (.iconst (-1), 1) := by decide +kernel
theorem dX12_observer_24 : decode cX12_observer 24 = .ok (.ireturn, 1) := by decide +kernel
theorem dX12_observer_25 : decode cX12_observer 25 = .ok (.aload_n 0, 1) := by decide +kernel
theorem dX12_observer_26 : decode cX12_observer 26 = .ok (.getfield 9, 3) := by decide +kernel
theorem dX12_observer_29 : decode cX12_observer 29 = .ok (.aload_n 0, 1) := by decide +kernel
theorem dX12_observer_30 : decode cX12_observer 30 = .ok (.getfield 188, 3) := by decide +kernel
theorem dX12_observer_33 : decode cX12_observer 33 = .ok (.iload_n 1, 1) := by decide +kernel
theorem dX12_observer_34 : decode cX12_observer 34 = .ok (.iastore, 1) := by decide +kernel
theorem dX12_observer_35 : decode cX12_observer 35 = .ok (.aload_n 0, 1) := by decide +kernel
theorem dX12_observer_36 : decode cX12_observer 36 = .ok (.getfield 13, 3) := by decide +kernel
theorem dX12_observer_39 : decode cX12_observer 39 = .ok (.aload_n 0, 1) := by decide +kernel
theorem dX12_observer_40 : decode cX12_observer 40 = .ok (.getfield 188, 3) := by decide +kernel
theorem dX12_observer_43 : decode cX12_observer 43 = .ok (.iconst (-1), 1) := by decide +kernel
theorem dX12_observer_44 : decode cX12_observer 44 = .ok (.iastore, 1) := by decide +kernel
theorem dX12_observer_45 : decode cX12_observer 45 = .ok (.aload_n 0, 1) := by decide +kernel
theorem dX12_observer_46 : decode cX12_observer 46 = .ok (.dup, 1) := by decide +kernel
theorem dX12_observer_47 : decode cX12_observer 47 = .ok (.getfield 188, 3) := by decide +kernel
theorem dX12_observer_50 : decode cX12_observer 50 = .ok (.iconst 1, 1) := by decide +kernel
theorem dX12_observer_51 : decode cX12_observer 51 = .ok (.iadd, 1) := by decide +kernel
theorem dX12_observer_52 : decode cX12_observer 52 = .ok (.putfield 188, 3) := by decide +kernel
theorem dX12_observer_55 : decode cX12_observer 55 = .ok (.aload_n 0, 1) := by decide +kernel
theorem dX12_observer_56 : decode cX12_observer 56 = .ok (.getfield 188, 3) := by decide +kernel
theorem dX12_observer_59 : decode cX12_observer 59 = .ok (.iconst 1, 1) := by decide +kernel
theorem dX12_observer_60 : decode cX12_observer 60 = .ok (.isub, 1) := by decide +kernel
theorem dX12_observer_61 : decode cX12_observer 61 = .ok (.ireturn, 1) := by decide +kernel
set_option maxRecDepth 100000 in
set_option maxHeartbeats 4000000 in
theorem c_X12_observer {h : ai_H} {S : Md} (hmd : md_at h S) (hs : 0 ≤ (S.1 2).toInt ∧ (S.1 2).toInt ≤ 16) (w : Int32) : ai_QM MX12_observer [.ref 307, .int w] h (md_q h (some (.int (ms_obs S w))) (ms_obsS S w)) := by
  refine qm_of (ls := [.ref 307, .int w]) (by decide) (by simp [ai_en, Value.category]) (by rfl) ?_
  refine wq (fun _ _ kk => rs_aload_n (pc := 0) dX12_observer_0 rfl kk) ?_
  refine wq (fun _ _ kk => rs_getf (pc := 1) dX12_observer_1 fX12_188 (md_lt hmd (by decide)) hmd.2.1 rfl kk) ?_
  refine wq (fun _ _ kk => rs_bipush (v := 16) (pc := 4) dX12_observer_4 rfl kk) ?_
  refine wq_br (fun _ _ kt kf => rs_icmp_eq (tgt := 23) (pc := 6) dX12_observer_6 rfl kt kf) (fun c_6 => ?_) (fun c_6 => ?_)
  · refine wq (fun _ _ kk => rs_iconst (v := -1) (pc := 23) dX12_observer_23 rfl kk) ?_
    refine wq_ret ?_ (rs_iret (pc := 24) dX12_observer_24 rfl)
    exact ⟨by simp [ms_obs, c_6], md_ext.rf, by rw [show ms_obsS S w = S from by simp [ms_obsS, c_6]]; exact hmd⟩
  · refine wq (fun _ _ kk => rs_iload_n (pc := 9) dX12_observer_9 rfl kk) ?_
    refine wq (fun _ _ kk => rs_i2l (pc := 10) dX12_observer_10 kk) ?_
    refine wq (fun _ _ kk => rs_ldc2 (pc := 11) dX12_observer_11 cnX12_202 kk) ?_
    refine wq (fun _ _ kk => rs_ldc2 (pc := 14) dX12_observer_14 cnX12_179 kk) ?_
    refine wq (fun _ _ kk => rs_callS (as := [_, _, _]) (pc := 17) dX12_observer_17 mk_X12_in mlX12_181 st_X12_in rfl rfl (Nat.le_of_ble_eq_true rfl) (c_X12_in) kk) ?_
    refine wq_bn (fun _ _ kt kf => rs_if_ne (tgt := 25) (pc := 20) dX12_observer_20 rfl kt kf) (fun c_20 => ?_) (fun c_20 => ?_)
    · replace c_20 := inL_1 (a := w) (b := (-5000)) (c := 9999) rfl rfl rfl c_20
      have hbd : vp_in (S.1 2) 16 := vp_in_iff.mpr ⟨hs.1, by have := i32_neN (n := 16) c_6 rfl; omega⟩
      refine wq (fun _ _ kk => rs_aload_n (pc := 25) dX12_observer_25 rfl kk) ?_
      refine wq (fun _ _ kk => rs_getf (pc := 26) dX12_observer_26 fX12_9 (md_lt hmd (by decide)) hmd.2.1 rfl kk) ?_
      refine wq (fun _ _ kk => rs_aload_n (pc := 29) dX12_observer_29 rfl kk) ?_
      refine wq (fun _ _ kk => rs_getf (pc := 30) dX12_observer_30 fX12_188 (md_lt hmd (by decide)) hmd.2.1 rfl kk) ?_
      refine wq (fun _ _ kk => rs_iload_n (pc := 33) dX12_observer_33 rfl kk) ?_
      refine wq (fun _ _ kk => rs_iast (pc := 34) dX12_observer_34 (md_lt hmd (by decide)) (hmd.2.2 0 _ rfl) hbd kk) ?_
      refine wq_gen (fun h_1 e_1 => ?_)
      obtain ⟨m_1, s_1, g_1, o_1⟩ := ai_e1 e_1
      replace hmd := md_at_ai (d := 0) rfl (by decide) hmd m_1 g_1 o_1
      have E_1 := (md_ext.rf).trans (md_ext_of m_1 s_1 o_1 (by decide))
      refine wq (fun _ _ kk => rs_aload_n (pc := 35) dX12_observer_35 rfl kk) ?_
      refine wq (fun _ _ kk => rs_getf (pc := 36) dX12_observer_36 fX12_13 (md_lt hmd (by decide)) hmd.2.1 rfl kk) ?_
      refine wq (fun _ _ kk => rs_aload_n (pc := 39) dX12_observer_39 rfl kk) ?_
      refine wq (fun _ _ kk => rs_getf (pc := 40) dX12_observer_40 fX12_188 (md_lt hmd (by decide)) hmd.2.1 rfl kk) ?_
      refine wq (fun _ _ kk => rs_iconst (v := -1) (pc := 43) dX12_observer_43 rfl kk) ?_
      refine wq (fun _ _ kk => rs_iast (pc := 44) dX12_observer_44 (md_lt hmd (by decide)) (hmd.2.2 1 _ rfl) hbd kk) ?_
      refine wq_gen (fun h_2 e_2 => ?_)
      obtain ⟨m_2, s_2, g_2, o_2⟩ := ai_e1 e_2
      replace hmd := md_at_ai (d := 1) rfl (by decide) hmd m_2 g_2 o_2
      have E_2 := (E_1).trans (md_ext_of m_2 s_2 o_2 (by decide))
      refine wq (fun _ _ kk => rs_aload_n (pc := 45) dX12_observer_45 rfl kk) ?_
      refine wq (fun _ _ kk => rs_dup (pc := 46) dX12_observer_46 rfl kk) ?_
      refine wq (fun _ _ kk => rs_getf (pc := 47) dX12_observer_47 fX12_188 (md_lt hmd (by decide)) hmd.2.1 rfl kk) ?_
      refine wq (fun _ _ kk => rs_iconst (v := 1) (pc := 50) dX12_observer_50 rfl kk) ?_
      refine wq (fun _ _ kk => rs_iadd (pc := 51) dX12_observer_51 kk) ?_
      refine wq (fun _ _ kk => rs_putf (pc := 52) dX12_observer_52 fX12_188 (md_lt hmd (by decide)) hmd.2.1 rfl (Nat.le_of_ble_eq_true rfl) kk) ?_
      refine wq_gen (fun h_3 e_3 => ?_)
      obtain ⟨m_3, s_3, g_3, o_3⟩ := ai_e1 e_3
      replace hmd := md_at_si (k := 2) hmd m_3 g_3 o_3 rfl
      have E_3 := (E_2).trans (md_ext_of m_3 s_3 o_3 (by decide))
      refine wq (fun _ _ kk => rs_aload_n (pc := 55) dX12_observer_55 rfl kk) ?_
      refine wq (fun _ _ kk => rs_getf (pc := 56) dX12_observer_56 fX12_188 (md_lt hmd (by decide)) hmd.2.1 rfl kk) ?_
      refine wq (fun _ _ kk => rs_iconst (v := 1) (pc := 59) dX12_observer_59 rfl kk) ?_
      refine wq (fun _ _ kk => rs_isub (pc := 60) dX12_observer_60 kk) ?_
      refine wq_ret ?_ (rs_iret (pc := 61) dX12_observer_61 rfl)
      refine ⟨?_, E_3, ?_⟩
      · have e1 : ms_obs S w = S.1 2 + 1 - 1 := by simp [ms_obs, c_6, c_20]
        rw [e1]; rfl
      · have e1 : ms_obsS S w = (md_si (md_ai (md_ai S 6 (upd (S.2.2.1 6) (S.1 2).toNatClampNeg w)) 7 (upd (S.2.2.1 7) (S.1 2).toNatClampNeg (-1))) 2 (S.1 2 + 1)) := by simp [ms_obsS, c_6, c_20]
        rw [e1]; exact hmd
    · replace c_20 := inL_0 (a := w) (b := (-5000)) (c := 9999) rfl rfl rfl c_20
      refine wq (fun _ _ kk => rs_iconst (v := -1) (pc := 23) dX12_observer_23 rfl kk) ?_
      refine wq_ret ?_ (rs_iret (pc := 24) dX12_observer_24 rfl)
      exact ⟨by simp [ms_obs, c_6, c_20], md_ext.rf, by rw [show ms_obsS S w = S from by simp [ms_obsS, c_6, c_20]]; exact hmd⟩
def ms_star (S : Md) (a b c : Int32) : Int32 := if S.1 3 = 24 ∨ bi_in a 0 9 = 0 ∨ bi_in b 1 99 = 0 ∨ bi_in c 0 1 = 0 then -1 else S.1 3 + 1 - 1
def ms_starS (S : Md) (a b c : Int32) : Md := if S.1 3 = 24 ∨ bi_in a 0 9 = 0 ∨ bi_in b 1 99 = 0 ∨ bi_in c 0 1 = 0 then S else (md_si (md_ai (md_ai (md_ai S 8 (upd (S.2.2.1 8) (S.1 3).toNatClampNeg a)) 9 (upd (S.2.2.1 9) (S.1 3).toNatClampNeg b)) 10 (upd (S.2.2.1 10) (S.1 3).toNatClampNeg c)) 3 (S.1 3 + 1))
theorem dX12_star_0 : decode cX12_star 0 = .ok (.aload_n 0, 1) := by decide +kernel
theorem dX12_star_1 : decode cX12_star 1 = .ok (.getfield 191, 3) := by decide +kernel
theorem dX12_star_4 : decode cX12_star 4 = .ok (.bipush 24, 2) := by decide +kernel
theorem dX12_star_6 : decode cX12_star 6 = .ok (.if_icmp .eq 37, 3) := by decide +kernel
theorem dX12_star_9 : decode cX12_star 9 = .ok (.iload_n 1, 1) := by decide +kernel
theorem dX12_star_10 : decode cX12_star 10 = .ok (.i2l, 1) := by decide +kernel
theorem dX12_star_11 : decode cX12_star 11 = .ok (.lconst 0, 1) := by decide +kernel
theorem dX12_star_12 : decode cX12_star 12 = .ok (.ldc2_w 204, 3) := by decide +kernel
theorem dX12_star_15 : decode cX12_star 15 = .ok (.invokestatic 181, 3) := by decide +kernel
theorem dX12_star_18 : decode cX12_star 18 = .ok (.ifCond .eq 25, 3) := by decide +kernel
theorem dX12_star_21 : decode cX12_star 21 = .ok (.iload_n 2, 1) := by decide +kernel
theorem dX12_star_22 : decode cX12_star 22 = .ok (.i2l, 1) := by decide +kernel
theorem dX12_star_23 : decode cX12_star 23 = .ok (.lconst 1, 1) := by decide +kernel
theorem dX12_star_24 : decode cX12_star 24 = .ok (.ldc2_w 206, 3) := by decide +kernel
theorem dX12_star_27 : decode cX12_star 27 = .ok (.invokestatic 181, 3) := by decide +kernel
theorem dX12_star_30 : decode cX12_star 30 = .ok (.ifCond .eq 13, 3) := by decide +kernel
theorem dX12_star_33 : decode cX12_star 33 = .ok (.iload_n 3, 1) := by decide +kernel
theorem dX12_star_34 : decode cX12_star 34 = .ok (.i2l, 1) := by decide +kernel
theorem dX12_star_35 : decode cX12_star 35 = .ok (.lconst 0, 1) := by decide +kernel
theorem dX12_star_36 : decode cX12_star 36 = .ok (.lconst 1, 1) := by decide +kernel
theorem dX12_star_37 : decode cX12_star 37 = .ok (.invokestatic 181, 3) := by decide +kernel
theorem dX12_star_40 : decode cX12_star 40 = .ok (.ifCond .ne 5, 3) := by decide +kernel
theorem dX12_star_43 : decode cX12_star 43 = .ok (.iconst (-1), 1) := by decide +kernel
theorem dX12_star_44 : decode cX12_star 44 = .ok (.ireturn, 1) := by decide +kernel
theorem dX12_star_45 : decode cX12_star 45 = .ok (.aload_n 0, 1) := by decide +kernel
theorem dX12_star_46 : decode cX12_star 46 = .ok (.getfield 16, 3) := by decide +kernel
theorem dX12_star_49 : decode cX12_star 49 = .ok (.aload_n 0, 1) := by decide +kernel
theorem dX12_star_50 : decode cX12_star 50 = .ok (.getfield 191, 3) := by decide +kernel
theorem dX12_star_53 : decode cX12_star 53 = .ok (.iload_n 1, 1) := by decide +kernel
theorem dX12_star_54 : decode cX12_star 54 = .ok (.iastore, 1) := by decide +kernel
theorem dX12_star_55 : decode cX12_star 55 = .ok (.aload_n 0, 1) := by decide +kernel
theorem dX12_star_56 : decode cX12_star 56 = .ok (.getfield 19, 3) := by decide +kernel
theorem dX12_star_59 : decode cX12_star 59 = .ok (.aload_n 0, 1) := by decide +kernel
theorem dX12_star_60 : decode cX12_star 60 = .ok (.getfield 191, 3) := by decide +kernel
theorem dX12_star_63 : decode cX12_star 63 = .ok (.iload_n 2, 1) := by decide +kernel
theorem dX12_star_64 : decode cX12_star 64 = .ok (.iastore, 1) := by decide +kernel
theorem dX12_star_65 : decode cX12_star 65 = .ok (.aload_n 0, 1) := by decide +kernel
theorem dX12_star_66 : decode cX12_star 66 = .ok (.getfield 22, 3) := by decide +kernel
theorem dX12_star_69 : decode cX12_star 69 = .ok (.aload_n 0, 1) := by decide +kernel
theorem dX12_star_70 : decode cX12_star 70 = .ok (.getfield 191, 3) := by decide +kernel
theorem dX12_star_73 : decode cX12_star 73 = .ok (.iload_n 3, 1) := by decide +kernel
theorem dX12_star_74 : decode cX12_star 74 = .ok (.iastore, 1) := by decide +kernel
theorem dX12_star_75 : decode cX12_star 75 = .ok (.aload_n 0, 1) := by decide +kernel
theorem dX12_star_76 : decode cX12_star 76 = .ok (.dup, 1) := by decide +kernel
theorem dX12_star_77 : decode cX12_star 77 = .ok (.getfield 191, 3) := by decide +kernel
theorem dX12_star_80 : decode cX12_star 80 = .ok (.iconst 1, 1) := by decide +kernel
theorem dX12_star_81 : decode cX12_star 81 = .ok (.iadd, 1) := by decide +kernel
theorem dX12_star_82 : decode cX12_star 82 = .ok (.putfield 191, 3) := by decide +kernel
theorem dX12_star_85 : decode cX12_star 85 = .ok (.aload_n 0, 1) := by decide +kernel
theorem dX12_star_86 : decode cX12_star 86 = .ok (.getfield 191, 3) := by decide +kernel
theorem dX12_star_89 : decode cX12_star 89 = .ok (.iconst 1, 1) := by decide +kernel
theorem dX12_star_90 : decode cX12_star 90 = .ok (.isub, 1) := by decide +kernel
theorem dX12_star_91 : decode cX12_star 91 = .ok (.ireturn, 1) := by decide +kernel
set_option maxRecDepth 100000 in
set_option maxHeartbeats 4000000 in
theorem c_X12_star {h : ai_H} {S : Md} (hmd : md_at h S) (hs : 0 ≤ (S.1 3).toInt ∧ (S.1 3).toInt ≤ 24) (a b c : Int32) : ai_QM MX12_star [.ref 307, .int a, .int b, .int c] h (md_q h (some (.int (ms_star S a b c))) (ms_starS S a b c)) := by
  refine qm_of (ls := [.ref 307, .int a, .int b, .int c]) (by decide) (by simp [ai_en, Value.category]) (by rfl) ?_
  refine wq (fun _ _ kk => rs_aload_n (pc := 0) dX12_star_0 rfl kk) ?_
  refine wq (fun _ _ kk => rs_getf (pc := 1) dX12_star_1 fX12_191 (md_lt hmd (by decide)) hmd.2.1 rfl kk) ?_
  refine wq (fun _ _ kk => rs_bipush (v := 24) (pc := 4) dX12_star_4 rfl kk) ?_
  refine wq_br (fun _ _ kt kf => rs_icmp_eq (tgt := 43) (pc := 6) dX12_star_6 rfl kt kf) (fun c_6 => ?_) (fun c_6 => ?_)
  · refine wq (fun _ _ kk => rs_iconst (v := -1) (pc := 43) dX12_star_43 rfl kk) ?_
    refine wq_ret ?_ (rs_iret (pc := 44) dX12_star_44 rfl)
    exact ⟨by simp [ms_star, c_6], md_ext.rf, by rw [show ms_starS S a b c = S from by simp [ms_starS, c_6]]; exact hmd⟩
  · refine wq (fun _ _ kk => rs_iload_n (pc := 9) dX12_star_9 rfl kk) ?_
    refine wq (fun _ _ kk => rs_i2l (pc := 10) dX12_star_10 kk) ?_
    refine wq (fun _ _ kk => rs_lconst (v := 0) (pc := 11) dX12_star_11 rfl kk) ?_
    refine wq (fun _ _ kk => rs_ldc2 (pc := 12) dX12_star_12 cnX12_204 kk) ?_
    refine wq (fun _ _ kk => rs_callS (as := [_, _, _]) (pc := 15) dX12_star_15 mk_X12_in mlX12_181 st_X12_in rfl rfl (Nat.le_of_ble_eq_true rfl) (c_X12_in) kk) ?_
    refine wq_br (fun _ _ kt kf => rs_if_eq (tgt := 43) (pc := 18) dX12_star_18 rfl kt kf) (fun c_18 => ?_) (fun c_18 => ?_)
    · replace c_18 := inL_0 (a := a) (b := 0) (c := 9) rfl rfl rfl c_18
      refine wq (fun _ _ kk => rs_iconst (v := -1) (pc := 43) dX12_star_43 rfl kk) ?_
      refine wq_ret ?_ (rs_iret (pc := 44) dX12_star_44 rfl)
      exact ⟨by simp [ms_star, c_6, c_18], md_ext.rf, by rw [show ms_starS S a b c = S from by simp [ms_starS, c_6, c_18]]; exact hmd⟩
    · replace c_18 := inL_1 (a := a) (b := 0) (c := 9) rfl rfl rfl c_18
      refine wq (fun _ _ kk => rs_iload_n (pc := 21) dX12_star_21 rfl kk) ?_
      refine wq (fun _ _ kk => rs_i2l (pc := 22) dX12_star_22 kk) ?_
      refine wq (fun _ _ kk => rs_lconst (v := 1) (pc := 23) dX12_star_23 rfl kk) ?_
      refine wq (fun _ _ kk => rs_ldc2 (pc := 24) dX12_star_24 cnX12_206 kk) ?_
      refine wq (fun _ _ kk => rs_callS (as := [_, _, _]) (pc := 27) dX12_star_27 mk_X12_in mlX12_181 st_X12_in rfl rfl (Nat.le_of_ble_eq_true rfl) (c_X12_in) kk) ?_
      refine wq_br (fun _ _ kt kf => rs_if_eq (tgt := 43) (pc := 30) dX12_star_30 rfl kt kf) (fun c_30 => ?_) (fun c_30 => ?_)
      · replace c_30 := inL_0 (a := b) (b := 1) (c := 99) rfl rfl rfl c_30
        refine wq (fun _ _ kk => rs_iconst (v := -1) (pc := 43) dX12_star_43 rfl kk) ?_
        refine wq_ret ?_ (rs_iret (pc := 44) dX12_star_44 rfl)
        exact ⟨by simp [ms_star, c_6, c_18, c_30], md_ext.rf, by rw [show ms_starS S a b c = S from by simp [ms_starS, c_6, c_18, c_30]]; exact hmd⟩
      · replace c_30 := inL_1 (a := b) (b := 1) (c := 99) rfl rfl rfl c_30
        refine wq (fun _ _ kk => rs_iload_n (pc := 33) dX12_star_33 rfl kk) ?_
        refine wq (fun _ _ kk => rs_i2l (pc := 34) dX12_star_34 kk) ?_
        refine wq (fun _ _ kk => rs_lconst (v := 0) (pc := 35) dX12_star_35 rfl kk) ?_
        refine wq (fun _ _ kk => rs_lconst (v := 1) (pc := 36) dX12_star_36 rfl kk) ?_
        refine wq (fun _ _ kk => rs_callS (as := [_, _, _]) (pc := 37) dX12_star_37 mk_X12_in mlX12_181 st_X12_in rfl rfl (Nat.le_of_ble_eq_true rfl) (c_X12_in) kk) ?_
        refine wq_bn (fun _ _ kt kf => rs_if_ne (tgt := 45) (pc := 40) dX12_star_40 rfl kt kf) (fun c_40 => ?_) (fun c_40 => ?_)
        · replace c_40 := inL_1 (a := c) (b := 0) (c := 1) rfl rfl rfl c_40
          have hbd : vp_in (S.1 3) 24 := vp_in_iff.mpr ⟨hs.1, by have := i32_neN (n := 24) c_6 rfl; omega⟩
          refine wq (fun _ _ kk => rs_aload_n (pc := 45) dX12_star_45 rfl kk) ?_
          refine wq (fun _ _ kk => rs_getf (pc := 46) dX12_star_46 fX12_16 (md_lt hmd (by decide)) hmd.2.1 rfl kk) ?_
          refine wq (fun _ _ kk => rs_aload_n (pc := 49) dX12_star_49 rfl kk) ?_
          refine wq (fun _ _ kk => rs_getf (pc := 50) dX12_star_50 fX12_191 (md_lt hmd (by decide)) hmd.2.1 rfl kk) ?_
          refine wq (fun _ _ kk => rs_iload_n (pc := 53) dX12_star_53 rfl kk) ?_
          refine wq (fun _ _ kk => rs_iast (pc := 54) dX12_star_54 (md_lt hmd (by decide)) (hmd.2.2 2 _ rfl) hbd kk) ?_
          refine wq_gen (fun h_1 e_1 => ?_)
          obtain ⟨m_1, s_1, g_1, o_1⟩ := ai_e1 e_1
          replace hmd := md_at_ai (d := 2) rfl (by decide) hmd m_1 g_1 o_1
          have E_1 := (md_ext.rf).trans (md_ext_of m_1 s_1 o_1 (by decide))
          refine wq (fun _ _ kk => rs_aload_n (pc := 55) dX12_star_55 rfl kk) ?_
          refine wq (fun _ _ kk => rs_getf (pc := 56) dX12_star_56 fX12_19 (md_lt hmd (by decide)) hmd.2.1 rfl kk) ?_
          refine wq (fun _ _ kk => rs_aload_n (pc := 59) dX12_star_59 rfl kk) ?_
          refine wq (fun _ _ kk => rs_getf (pc := 60) dX12_star_60 fX12_191 (md_lt hmd (by decide)) hmd.2.1 rfl kk) ?_
          refine wq (fun _ _ kk => rs_iload_n (pc := 63) dX12_star_63 rfl kk) ?_
          refine wq (fun _ _ kk => rs_iast (pc := 64) dX12_star_64 (md_lt hmd (by decide)) (hmd.2.2 3 _ rfl) hbd kk) ?_
          refine wq_gen (fun h_2 e_2 => ?_)
          obtain ⟨m_2, s_2, g_2, o_2⟩ := ai_e1 e_2
          replace hmd := md_at_ai (d := 3) rfl (by decide) hmd m_2 g_2 o_2
          have E_2 := (E_1).trans (md_ext_of m_2 s_2 o_2 (by decide))
          refine wq (fun _ _ kk => rs_aload_n (pc := 65) dX12_star_65 rfl kk) ?_
          refine wq (fun _ _ kk => rs_getf (pc := 66) dX12_star_66 fX12_22 (md_lt hmd (by decide)) hmd.2.1 rfl kk) ?_
          refine wq (fun _ _ kk => rs_aload_n (pc := 69) dX12_star_69 rfl kk) ?_
          refine wq (fun _ _ kk => rs_getf (pc := 70) dX12_star_70 fX12_191 (md_lt hmd (by decide)) hmd.2.1 rfl kk) ?_
          refine wq (fun _ _ kk => rs_iload_n (pc := 73) dX12_star_73 rfl kk) ?_
          refine wq (fun _ _ kk => rs_iast (pc := 74) dX12_star_74 (md_lt hmd (by decide)) (hmd.2.2 4 _ rfl) hbd kk) ?_
          refine wq_gen (fun h_3 e_3 => ?_)
          obtain ⟨m_3, s_3, g_3, o_3⟩ := ai_e1 e_3
          replace hmd := md_at_ai (d := 4) rfl (by decide) hmd m_3 g_3 o_3
          have E_3 := (E_2).trans (md_ext_of m_3 s_3 o_3 (by decide))
          refine wq (fun _ _ kk => rs_aload_n (pc := 75) dX12_star_75 rfl kk) ?_
          refine wq (fun _ _ kk => rs_dup (pc := 76) dX12_star_76 rfl kk) ?_
          refine wq (fun _ _ kk => rs_getf (pc := 77) dX12_star_77 fX12_191 (md_lt hmd (by decide)) hmd.2.1 rfl kk) ?_
          refine wq (fun _ _ kk => rs_iconst (v := 1) (pc := 80) dX12_star_80 rfl kk) ?_
          refine wq (fun _ _ kk => rs_iadd (pc := 81) dX12_star_81 kk) ?_
          refine wq (fun _ _ kk => rs_putf (pc := 82) dX12_star_82 fX12_191 (md_lt hmd (by decide)) hmd.2.1 rfl (Nat.le_of_ble_eq_true rfl) kk) ?_
          refine wq_gen (fun h_4 e_4 => ?_)
          obtain ⟨m_4, s_4, g_4, o_4⟩ := ai_e1 e_4
          replace hmd := md_at_si (k := 3) hmd m_4 g_4 o_4 rfl
          have E_4 := (E_3).trans (md_ext_of m_4 s_4 o_4 (by decide))
          refine wq (fun _ _ kk => rs_aload_n (pc := 85) dX12_star_85 rfl kk) ?_
          refine wq (fun _ _ kk => rs_getf (pc := 86) dX12_star_86 fX12_191 (md_lt hmd (by decide)) hmd.2.1 rfl kk) ?_
          refine wq (fun _ _ kk => rs_iconst (v := 1) (pc := 89) dX12_star_89 rfl kk) ?_
          refine wq (fun _ _ kk => rs_isub (pc := 90) dX12_star_90 kk) ?_
          refine wq_ret ?_ (rs_iret (pc := 91) dX12_star_91 rfl)
          refine ⟨?_, E_4, ?_⟩
          · have e1 : ms_star S a b c = S.1 3 + 1 - 1 := by simp [ms_star, c_6, c_18, c_30, c_40]
            rw [e1]; rfl
          · have e1 : ms_starS S a b c = (md_si (md_ai (md_ai (md_ai S 8 (upd (S.2.2.1 8) (S.1 3).toNatClampNeg a)) 9 (upd (S.2.2.1 9) (S.1 3).toNatClampNeg b)) 10 (upd (S.2.2.1 10) (S.1 3).toNatClampNeg c)) 3 (S.1 3 + 1)) := by simp [ms_starS, c_6, c_18, c_30, c_40]
            rw [e1]; exact hmd
        · replace c_40 := inL_0 (a := c) (b := 0) (c := 1) rfl rfl rfl c_40
          refine wq (fun _ _ kk => rs_iconst (v := -1) (pc := 43) dX12_star_43 rfl kk) ?_
          refine wq_ret ?_ (rs_iret (pc := 44) dX12_star_44 rfl)
          exact ⟨by simp [ms_star, c_6, c_18, c_30, c_40], md_ext.rf, by rw [show ms_starS S a b c = S from by simp [ms_starS, c_6, c_18, c_30, c_40]]; exact hmd⟩
def ms_night (S : Md) (a b : Int32) : Int32 := if S.1 4 = 80 ∨ bi_in a 0 3 = 0 ∨ bi_in b 0 (S.1 1) = 0 then -1 else S.1 4 + 1 - 1
def ms_nightS (S : Md) (a b : Int32) : Md := if S.1 4 = 80 ∨ bi_in a 0 3 = 0 ∨ bi_in b 0 (S.1 1) = 0 then S else (md_si (md_ai (md_ai S 11 (upd (S.2.2.1 11) (S.1 4).toNatClampNeg a)) 12 (upd (S.2.2.1 12) (S.1 4).toNatClampNeg b)) 4 (S.1 4 + 1))
theorem dX12_night_0 : decode cX12_night 0 = .ok (.aload_n 0, 1) := by decide +kernel
theorem dX12_night_1 : decode cX12_night 1 = .ok (.getfield 194, 3) := by decide +kernel
theorem dX12_night_4 : decode cX12_night 4 = .ok (.bipush 80, 2) := by decide +kernel
theorem dX12_night_6 : decode cX12_night 6 = .ok (.if_icmp .eq 29, 3) := by decide +kernel
theorem dX12_night_9 : decode cX12_night 9 = .ok (.iload_n 1, 1) := by decide +kernel
theorem dX12_night_10 : decode cX12_night 10 = .ok (.i2l, 1) := by decide +kernel
theorem dX12_night_11 : decode cX12_night 11 = .ok (.lconst 0, 1) := by decide +kernel
theorem dX12_night_12 : decode cX12_night 12 = .ok (.ldc2_w 208, 3) := by decide +kernel
theorem dX12_night_15 : decode cX12_night 15 = .ok (.invokestatic 181, 3) := by decide +kernel
theorem dX12_night_18 : decode cX12_night 18 = .ok (.ifCond .eq 17, 3) := by decide +kernel
theorem dX12_night_21 : decode cX12_night 21 = .ok (.iload_n 2, 1) := by decide +kernel
theorem dX12_night_22 : decode cX12_night 22 = .ok (.i2l, 1) := by decide +kernel
theorem dX12_night_23 : decode cX12_night 23 = .ok (.lconst 0, 1) := by decide +kernel
theorem dX12_night_24 : decode cX12_night 24 = .ok (.aload_n 0, 1) := by decide +kernel
theorem dX12_night_25 : decode cX12_night 25 = .ok (.getfield 185, 3) := by decide +kernel
theorem dX12_night_28 : decode cX12_night 28 = .ok (.i2l, 1) := by decide +kernel
theorem dX12_night_29 : decode cX12_night 29 = .ok (.invokestatic 181, 3) := by decide +kernel
theorem dX12_night_32 : decode cX12_night 32 = .ok (.ifCond .ne 5, 3) := by decide +kernel
theorem dX12_night_35 : decode cX12_night 35 = .ok (.iconst (-1), 1) := by decide +kernel
theorem dX12_night_36 : decode cX12_night 36 = .ok (.ireturn, 1) := by decide +kernel
theorem dX12_night_37 : decode cX12_night 37 = .ok (.aload_n 0, 1) := by decide +kernel
theorem dX12_night_38 : decode cX12_night 38 = .ok (.getfield 25, 3) := by decide +kernel
theorem dX12_night_41 : decode cX12_night 41 = .ok (.aload_n 0, 1) := by decide +kernel
theorem dX12_night_42 : decode cX12_night 42 = .ok (.getfield 194, 3) := by decide +kernel
theorem dX12_night_45 : decode cX12_night 45 = .ok (.iload_n 1, 1) := by decide +kernel
theorem dX12_night_46 : decode cX12_night 46 = .ok (.iastore, 1) := by decide +kernel
theorem dX12_night_47 : decode cX12_night 47 = .ok (.aload_n 0, 1) := by decide +kernel
theorem dX12_night_48 : decode cX12_night 48 = .ok (.getfield 28, 3) := by decide +kernel
theorem dX12_night_51 : decode cX12_night 51 = .ok (.aload_n 0, 1) := by decide +kernel
theorem dX12_night_52 : decode cX12_night 52 = .ok (.getfield 194, 3) := by decide +kernel
theorem dX12_night_55 : decode cX12_night 55 = .ok (.iload_n 2, 1) := by decide +kernel
theorem dX12_night_56 : decode cX12_night 56 = .ok (.iastore, 1) := by decide +kernel
theorem dX12_night_57 : decode cX12_night 57 = .ok (.aload_n 0, 1) := by decide +kernel
theorem dX12_night_58 : decode cX12_night 58 = .ok (.dup, 1) := by decide +kernel
theorem dX12_night_59 : decode cX12_night 59 = .ok (.getfield 194, 3) := by decide +kernel
theorem dX12_night_62 : decode cX12_night 62 = .ok (.iconst 1, 1) := by decide +kernel
theorem dX12_night_63 : decode cX12_night 63 = .ok (.iadd, 1) := by decide +kernel
theorem dX12_night_64 : decode cX12_night 64 = .ok (.putfield 194, 3) := by decide +kernel
theorem dX12_night_67 : decode cX12_night 67 = .ok (.aload_n 0, 1) := by decide +kernel
theorem dX12_night_68 : decode cX12_night 68 = .ok (.getfield 194, 3) := by decide +kernel
theorem dX12_night_71 : decode cX12_night 71 = .ok (.iconst 1, 1) := by decide +kernel
theorem dX12_night_72 : decode cX12_night 72 = .ok (.isub, 1) := by decide +kernel
theorem dX12_night_73 : decode cX12_night 73 = .ok (.ireturn, 1) := by decide +kernel
set_option maxRecDepth 100000 in
set_option maxHeartbeats 4000000 in
theorem c_X12_night {h : ai_H} {S : Md} (hmd : md_at h S) (hs : 0 ≤ (S.1 4).toInt ∧ (S.1 4).toInt ≤ 80) (a b : Int32) : ai_QM MX12_night [.ref 307, .int a, .int b] h (md_q h (some (.int (ms_night S a b))) (ms_nightS S a b)) := by
  refine qm_of (ls := [.ref 307, .int a, .int b]) (by decide) (by simp [ai_en, Value.category]) (by rfl) ?_
  refine wq (fun _ _ kk => rs_aload_n (pc := 0) dX12_night_0 rfl kk) ?_
  refine wq (fun _ _ kk => rs_getf (pc := 1) dX12_night_1 fX12_194 (md_lt hmd (by decide)) hmd.2.1 rfl kk) ?_
  refine wq (fun _ _ kk => rs_bipush (v := 80) (pc := 4) dX12_night_4 rfl kk) ?_
  refine wq_br (fun _ _ kt kf => rs_icmp_eq (tgt := 35) (pc := 6) dX12_night_6 rfl kt kf) (fun c_6 => ?_) (fun c_6 => ?_)
  · refine wq (fun _ _ kk => rs_iconst (v := -1) (pc := 35) dX12_night_35 rfl kk) ?_
    refine wq_ret ?_ (rs_iret (pc := 36) dX12_night_36 rfl)
    exact ⟨by simp [ms_night, c_6], md_ext.rf, by rw [show ms_nightS S a b = S from by simp [ms_nightS, c_6]]; exact hmd⟩
  · refine wq (fun _ _ kk => rs_iload_n (pc := 9) dX12_night_9 rfl kk) ?_
    refine wq (fun _ _ kk => rs_i2l (pc := 10) dX12_night_10 kk) ?_
    refine wq (fun _ _ kk => rs_lconst (v := 0) (pc := 11) dX12_night_11 rfl kk) ?_
    refine wq (fun _ _ kk => rs_ldc2 (pc := 12) dX12_night_12 cnX12_208 kk) ?_
    refine wq (fun _ _ kk => rs_callS (as := [_, _, _]) (pc := 15) dX12_night_15 mk_X12_in mlX12_181 st_X12_in rfl rfl (Nat.le_of_ble_eq_true rfl) (c_X12_in) kk) ?_
    refine wq_br (fun _ _ kt kf => rs_if_eq (tgt := 35) (pc := 18) dX12_night_18 rfl kt kf) (fun c_18 => ?_) (fun c_18 => ?_)
    · replace c_18 := inL_0 (a := a) (b := 0) (c := 3) rfl rfl rfl c_18
      refine wq (fun _ _ kk => rs_iconst (v := -1) (pc := 35) dX12_night_35 rfl kk) ?_
      refine wq_ret ?_ (rs_iret (pc := 36) dX12_night_36 rfl)
      exact ⟨by simp [ms_night, c_6, c_18], md_ext.rf, by rw [show ms_nightS S a b = S from by simp [ms_nightS, c_6, c_18]]; exact hmd⟩
    · replace c_18 := inL_1 (a := a) (b := 0) (c := 3) rfl rfl rfl c_18
      refine wq (fun _ _ kk => rs_iload_n (pc := 21) dX12_night_21 rfl kk) ?_
      refine wq (fun _ _ kk => rs_i2l (pc := 22) dX12_night_22 kk) ?_
      refine wq (fun _ _ kk => rs_lconst (v := 0) (pc := 23) dX12_night_23 rfl kk) ?_
      refine wq (fun _ _ kk => rs_aload_n (pc := 24) dX12_night_24 rfl kk) ?_
      refine wq (fun _ _ kk => rs_getf (pc := 25) dX12_night_25 fX12_185 (md_lt hmd (by decide)) hmd.2.1 rfl kk) ?_
      refine wq (fun _ _ kk => rs_i2l (pc := 28) dX12_night_28 kk) ?_
      refine wq (fun _ _ kk => rs_callS (as := [_, _, _]) (pc := 29) dX12_night_29 mk_X12_in mlX12_181 st_X12_in rfl rfl (Nat.le_of_ble_eq_true rfl) (c_X12_in) kk) ?_
      refine wq_bn (fun _ _ kt kf => rs_if_ne (tgt := 37) (pc := 32) dX12_night_32 rfl kt kf) (fun c_32 => ?_) (fun c_32 => ?_)
      · replace c_32 := inL_1 (a := b) (b := 0) (c := (S.1 1)) rfl rfl rfl c_32
        have hbd : vp_in (S.1 4) 80 := vp_in_iff.mpr ⟨hs.1, by have := i32_neN (n := 80) c_6 rfl; omega⟩
        refine wq (fun _ _ kk => rs_aload_n (pc := 37) dX12_night_37 rfl kk) ?_
        refine wq (fun _ _ kk => rs_getf (pc := 38) dX12_night_38 fX12_25 (md_lt hmd (by decide)) hmd.2.1 rfl kk) ?_
        refine wq (fun _ _ kk => rs_aload_n (pc := 41) dX12_night_41 rfl kk) ?_
        refine wq (fun _ _ kk => rs_getf (pc := 42) dX12_night_42 fX12_194 (md_lt hmd (by decide)) hmd.2.1 rfl kk) ?_
        refine wq (fun _ _ kk => rs_iload_n (pc := 45) dX12_night_45 rfl kk) ?_
        refine wq (fun _ _ kk => rs_iast (pc := 46) dX12_night_46 (md_lt hmd (by decide)) (hmd.2.2 5 _ rfl) hbd kk) ?_
        refine wq_gen (fun h_1 e_1 => ?_)
        obtain ⟨m_1, s_1, g_1, o_1⟩ := ai_e1 e_1
        replace hmd := md_at_ai (d := 5) rfl (by decide) hmd m_1 g_1 o_1
        have E_1 := (md_ext.rf).trans (md_ext_of m_1 s_1 o_1 (by decide))
        refine wq (fun _ _ kk => rs_aload_n (pc := 47) dX12_night_47 rfl kk) ?_
        refine wq (fun _ _ kk => rs_getf (pc := 48) dX12_night_48 fX12_28 (md_lt hmd (by decide)) hmd.2.1 rfl kk) ?_
        refine wq (fun _ _ kk => rs_aload_n (pc := 51) dX12_night_51 rfl kk) ?_
        refine wq (fun _ _ kk => rs_getf (pc := 52) dX12_night_52 fX12_194 (md_lt hmd (by decide)) hmd.2.1 rfl kk) ?_
        refine wq (fun _ _ kk => rs_iload_n (pc := 55) dX12_night_55 rfl kk) ?_
        refine wq (fun _ _ kk => rs_iast (pc := 56) dX12_night_56 (md_lt hmd (by decide)) (hmd.2.2 6 _ rfl) hbd kk) ?_
        refine wq_gen (fun h_2 e_2 => ?_)
        obtain ⟨m_2, s_2, g_2, o_2⟩ := ai_e1 e_2
        replace hmd := md_at_ai (d := 6) rfl (by decide) hmd m_2 g_2 o_2
        have E_2 := (E_1).trans (md_ext_of m_2 s_2 o_2 (by decide))
        refine wq (fun _ _ kk => rs_aload_n (pc := 57) dX12_night_57 rfl kk) ?_
        refine wq (fun _ _ kk => rs_dup (pc := 58) dX12_night_58 rfl kk) ?_
        refine wq (fun _ _ kk => rs_getf (pc := 59) dX12_night_59 fX12_194 (md_lt hmd (by decide)) hmd.2.1 rfl kk) ?_
        refine wq (fun _ _ kk => rs_iconst (v := 1) (pc := 62) dX12_night_62 rfl kk) ?_
        refine wq (fun _ _ kk => rs_iadd (pc := 63) dX12_night_63 kk) ?_
        refine wq (fun _ _ kk => rs_putf (pc := 64) dX12_night_64 fX12_194 (md_lt hmd (by decide)) hmd.2.1 rfl (Nat.le_of_ble_eq_true rfl) kk) ?_
        refine wq_gen (fun h_3 e_3 => ?_)
        obtain ⟨m_3, s_3, g_3, o_3⟩ := ai_e1 e_3
        replace hmd := md_at_si (k := 4) hmd m_3 g_3 o_3 rfl
        have E_3 := (E_2).trans (md_ext_of m_3 s_3 o_3 (by decide))
        refine wq (fun _ _ kk => rs_aload_n (pc := 67) dX12_night_67 rfl kk) ?_
        refine wq (fun _ _ kk => rs_getf (pc := 68) dX12_night_68 fX12_194 (md_lt hmd (by decide)) hmd.2.1 rfl kk) ?_
        refine wq (fun _ _ kk => rs_iconst (v := 1) (pc := 71) dX12_night_71 rfl kk) ?_
        refine wq (fun _ _ kk => rs_isub (pc := 72) dX12_night_72 kk) ?_
        refine wq_ret ?_ (rs_iret (pc := 73) dX12_night_73 rfl)
        refine ⟨?_, E_3, ?_⟩
        · have e1 : ms_night S a b = S.1 4 + 1 - 1 := by simp [ms_night, c_6, c_18, c_32]
          rw [e1]; rfl
        · have e1 : ms_nightS S a b = (md_si (md_ai (md_ai S 11 (upd (S.2.2.1 11) (S.1 4).toNatClampNeg a)) 12 (upd (S.2.2.1 12) (S.1 4).toNatClampNeg b)) 4 (S.1 4 + 1)) := by simp [ms_nightS, c_6, c_18, c_32]
          rw [e1]; exact hmd
      · replace c_32 := inL_0 (a := b) (b := 0) (c := (S.1 1)) rfl rfl rfl c_32
        refine wq (fun _ _ kk => rs_iconst (v := -1) (pc := 35) dX12_night_35 rfl kk) ?_
        refine wq_ret ?_ (rs_iret (pc := 36) dX12_night_36 rfl)
        exact ⟨by simp [ms_night, c_6, c_18, c_32], md_ext.rf, by rw [show ms_nightS S a b = S from by simp [ms_nightS, c_6, c_18, c_32]]; exact hmd⟩
