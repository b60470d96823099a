/-! 93: seen of the model (walks laid by wip/whole/p93.py) -/
/-- seen, up to record i -/
def seF (B : Bk) (o n s w k : Int32) (i : Nat) : Ty := ty_fold (xs_seenp B o n s w k) (fun i => (bk_red B (nI i)).toInt64) i
theorem seF_y {B : Bk} {o n s w k : Int32} {i : Nat} (h : xs_seenp B o n s w k i = true) : seF B o n s w k (i + 1) = ty_add (seF B o n s w k i) (bk_red B (nI i)).toInt64 := by
  unfold seF
  rw [ty_fold, if_pos h]
theorem seF_n {B : Bk} {o n s w k : Int32} {i : Nat} (h : ¬ xs_seenp B o n s w k i = true) : seF B o n s w k (i + 1) = seF B o n s w k i := by
  unfold seF
  rw [ty_fold, if_neg h]
theorem ty_add32 {t : Ty} {x : Int32} : (ty_add t x.toInt64).2.1.toInt32 = t.2.1.toInt32 + x := by
  show (t.2.1 + x.toInt64).toInt32 = _
  rw [Int64.toInt32_add, Int32.toInt32_toInt64]
theorem ty_add1 {t : Ty} {x : Int64} : (ty_add t x).1 = t.1 + 1 := rfl
theorem dX12_seen_0 : decode cX12_seen 0 = .ok (.aload_n 0, 1) := by decide +kernel
theorem dX12_seen_1 : decode cX12_seen 1 = .ok (.iload_n 1, 1) := by decide +kernel
theorem dX12_seen_2 : decode cX12_seen 2 = .ok (.invokevirtual 217, 3) := by decide +kernel
theorem dX12_seen_5 : decode cX12_seen 5 = .ok (.ifCond .eq 46, 3) := by decide +kernel
theorem dX12_seen_8 : decode cX12_seen 8 = .ok (.aload_n 0, 1) := by decide +kernel
theorem dX12_seen_9 : decode cX12_seen 9 = .ok (.iload_n 2, 1) := by decide +kernel
theorem dX12_seen_10 : decode cX12_seen 10 = .ok (.invokevirtual 210, 3) := by decide +kernel
theorem dX12_seen_13 : decode cX12_seen 13 = .ok (.ifCond .eq 38, 3) := by decide +kernel
theorem dX12_seen_16 : decode cX12_seen 16 = .ok (.aload_n 0, 1) := by decide +kernel
theorem dX12_seen_17 : decode cX12_seen 17 = .ok (.iload_n 3, 1) := by decide +kernel
theorem dX12_seen_18 : decode cX12_seen 18 = .ok (.invokevirtual 214, 3) := by decide +kernel
theorem dX12_seen_21 : decode cX12_seen 21 = .ok (.ifCond .eq 30, 3) := by decide +kernel
theorem dX12_seen_24 : decode cX12_seen 24 = .ok (.iload 4, 2) := by decide +kernel
theorem dX12_seen_26 : decode cX12_seen 26 = .ok (.invokestatic 220, 3) := by decide +kernel
theorem dX12_seen_29 : decode cX12_seen 29 = .ok (.ifCond .eq 22, 3) := by decide +kernel
theorem dX12_seen_32 : decode cX12_seen 32 = .ok (.iload 5, 2) := by decide +kernel
theorem dX12_seen_34 : decode cX12_seen 34 = .ok (.invokestatic 230, 3) := by decide +kernel
theorem dX12_seen_37 : decode cX12_seen 37 = .ok (.ifCond .eq 14, 3) := by decide +kernel
theorem dX12_seen_40 : decode cX12_seen 40 = .ok (.iload 6, 2) := by decide +kernel
theorem dX12_seen_42 : decode cX12_seen 42 = .ok (.i2l, 1) := by decide +kernel
theorem dX12_seen_43 : decode cX12_seen 43 = .ok (.lconst 0, 1) := by decide +kernel
theorem dX12_seen_44 : decode cX12_seen 44 = .ok (.lconst 1, 1) := by decide +kernel
theorem dX12_seen_45 : decode cX12_seen 45 = .ok (.invokestatic 181, 3) := by decide +kernel
theorem dX12_seen_48 : decode cX12_seen 48 = .ok (.ifCond .ne 15, 3) := by decide +kernel
theorem dX12_seen_51 : decode cX12_seen 51 = .ok (.iload 6, 2) := by decide +kernel
theorem dX12_seen_53 : decode cX12_seen 53 = .ok (.ifCond .ne 7, 3) := by decide +kernel
theorem dX12_seen_56 : decode cX12_seen 56 = .ok (.iconst (-1), 1) := by decide +kernel
theorem dX12_seen_57 : decode cX12_seen 57 = .ok (.goto 5, 3) := by decide +kernel
theorem dX12_seen_60 : decode cX12_seen 60 = .ok (.ldc 233, 2) := by decide +kernel
theorem dX12_seen_62 : decode cX12_seen 62 = .ok (.ireturn, 1) := by decide +kernel
theorem dX12_seen_63 : decode cX12_seen 63 = .ok (.iconst 0, 1) := by decide +kernel
theorem dX12_seen_64 : decode cX12_seen 64 = .ok (.istore 7, 2) := by decide +kernel
theorem dX12_seen_66 : decode cX12_seen 66 = .ok (.iconst 0, 1) := by decide +kernel
theorem dX12_seen_67 : decode cX12_seen 67 = .ok (.istore 8, 2) := by decide +kernel
theorem dX12_seen_69 : decode cX12_seen 69 = .ok (.iconst 0, 1) := by decide +kernel
theorem dX12_seen_70 : decode cX12_seen 70 = .ok (.istore 9, 2) := by decide +kernel
theorem dX12_seen_72 : decode cX12_seen 72 = .ok (.iload 9, 2) := by decide +kernel
theorem dX12_seen_74 : decode cX12_seen 74 = .ok (.aload_n 0, 1) := by decide +kernel
theorem dX12_seen_75 : decode cX12_seen 75 = .ok (.getfield 197, 3) := by decide +kernel
theorem dX12_seen_78 : decode cX12_seen 78 = .ok (.if_icmp .ge 79, 3) := by decide +kernel
theorem dX12_seen_81 : decode cX12_seen 81 = .ok (.aload_n 0, 1) := by decide +kernel
theorem dX12_seen_82 : decode cX12_seen 82 = .ok (.getfield 40, 3) := by decide +kernel
theorem dX12_seen_85 : decode cX12_seen 85 = .ok (.iload 9, 2) := by decide +kernel
theorem dX12_seen_87 : decode cX12_seen 87 = .ok (.iaload, 1) := by decide +kernel
theorem dX12_seen_88 : decode cX12_seen 88 = .ok (.iload_n 1, 1) := by decide +kernel
theorem dX12_seen_89 : decode cX12_seen 89 = .ok (.if_icmp .ne 62, 3) := by decide +kernel
theorem dX12_seen_92 : decode cX12_seen 92 = .ok (.aload_n 0, 1) := by decide +kernel
theorem dX12_seen_93 : decode cX12_seen 93 = .ok (.getfield 31, 3) := by decide +kernel
theorem dX12_seen_96 : decode cX12_seen 96 = .ok (.iload 9, 2) := by decide +kernel
theorem dX12_seen_98 : decode cX12_seen 98 = .ok (.iaload, 1) := by decide +kernel
theorem dX12_seen_99 : decode cX12_seen 99 = .ok (.iload_n 2, 1) := by decide +kernel
theorem dX12_seen_100 : decode cX12_seen 100 = .ok (.if_icmp .ne 51, 3) := by decide +kernel
theorem dX12_seen_103 : decode cX12_seen 103 = .ok (.aload_n 0, 1) := by decide +kernel
theorem dX12_seen_104 : decode cX12_seen 104 = .ok (.getfield 34, 3) := by decide +kernel
theorem dX12_seen_107 : decode cX12_seen 107 = .ok (.iload 9, 2) := by decide +kernel
theorem dX12_seen_109 : decode cX12_seen 109 = .ok (.iaload, 1) := by decide +kernel
theorem dX12_seen_110 : decode cX12_seen 110 = .ok (.iload_n 3, 1) := by decide +kernel
theorem dX12_seen_111 : decode cX12_seen 111 = .ok (.if_icmp .ne 40, 3) := by decide +kernel
theorem dX12_seen_114 : decode cX12_seen 114 = .ok (.aload_n 0, 1) := by decide +kernel
theorem dX12_seen_115 : decode cX12_seen 115 = .ok (.getfield 43, 3) := by decide +kernel
theorem dX12_seen_118 : decode cX12_seen 118 = .ok (.iload 9, 2) := by decide +kernel
theorem dX12_seen_120 : decode cX12_seen 120 = .ok (.iaload, 1) := by decide +kernel
theorem dX12_seen_121 : decode cX12_seen 121 = .ok (.iload 4, 2) := by decide +kernel
theorem dX12_seen_123 : decode cX12_seen 123 = .ok (.if_icmp .ne 28, 3) := by decide +kernel
theorem dX12_seen_126 : decode cX12_seen 126 = .ok (.aload_n 0, 1) := by decide +kernel
theorem dX12_seen_127 : decode cX12_seen 127 = .ok (.iload 9, 2) := by decide +kernel
theorem dX12_seen_129 : decode cX12_seen 129 = .ok (.iload 5, 2) := by decide +kernel
theorem dX12_seen_131 : decode cX12_seen 131 = .ok (.invokevirtual 234, 3) := by decide +kernel
theorem dX12_seen_134 : decode cX12_seen 134 = .ok (.ifCond .eq 17, 3) := by decide +kernel
theorem dX12_seen_137 : decode cX12_seen 137 = .ok (.iinc 7 1, 3) := by decide +kernel
theorem dX12_seen_140 : decode cX12_seen 140 = .ok (.iload 8, 2) := by decide +kernel
theorem dX12_seen_142 : decode cX12_seen 142 = .ok (.aload_n 0, 1) := by decide +kernel
theorem dX12_seen_143 : decode cX12_seen 143 = .ok (.iload 9, 2) := by decide +kernel
theorem dX12_seen_145 : decode cX12_seen 145 = .ok (.invokevirtual 238, 3) := by decide +kernel
theorem dX12_seen_148 : decode cX12_seen 148 = .ok (.iadd, 1) := by decide +kernel
theorem dX12_seen_149 : decode cX12_seen 149 = .ok (.istore 8, 2) := by decide +kernel
theorem dX12_seen_151 : decode cX12_seen 151 = .ok (.iinc 9 1, 3) := by decide +kernel
theorem dX12_seen_154 : decode cX12_seen 154 = .ok (.goto (-82), 3) := by decide +kernel
theorem dX12_seen_157 : decode cX12_seen 157 = .ok (.iload 6, 2) := by decide +kernel
theorem dX12_seen_159 : decode cX12_seen 159 = .ok (.ifCond .ne 8, 3) := by decide +kernel
theorem dX12_seen_162 : decode cX12_seen 162 = .ok (.iload 7, 2) := by decide +kernel
theorem dX12_seen_164 : decode cX12_seen 164 = .ok (.goto 5, 3) := by decide +kernel
theorem dX12_seen_167 : decode cX12_seen 167 = .ok (.iload 8, 2) := by decide +kernel
theorem dX12_seen_169 : decode cX12_seen 169 = .ok (.ireturn, 1) := by decide +kernel
set_option maxRecDepth 100000 in
set_option maxHeartbeats 4000000 in
theorem l_X12_seen {h : ai_H} {S : Md} {B : Bk} {ln : Nat} {o n s w k x : Int32} (hok : bk_ok B ln) (hRB : RB B S) (hw : k.toInt ≤ 9999) (hmd : md_at h S) : ∀ (m i : Nat), i ≤ nR B → nR B + 1 ≤ i + m → ai_W MX12_seen 72 [.ref 307, .int o, .int n, .int s, .int w, .int k, .int x, .int (seF B o n s w k i).1, .int (seF B o n s w k i).2.1.toInt32, .int (nI i)] [] h (fun res g => g = h ∧ res = some (.int (if x = 0 then (xs_seenT B o n s w k).1 else (xs_seenT B o n s w k).2.1.toInt32))) := by
  have hr4 := hok.2.2.2.2.1.2.1
  intro m
  induction m with
  | zero => intro i h1 h2; exact absurd h2 (by omega)
  | succ m ih =>
    intro i hi0 him
    refine wq (fun _ _ kk => rs_iload (pc := 72) dX12_seen_72 rfl kk) ?_
    refine wq (fun _ _ kk => rs_aload_n (pc := 74) dX12_seen_74 rfl kk) ?_
    refine wq (fun _ _ kk => rs_getf (pc := 75) dX12_seen_75 fX12_197 (md_lt hmd (by decide)) hmd.2.1 rfl kk) ?_
    rw [hRB.1.2.2.2.2.1, hok.2.2.2.2.1.1]
    refine wq_br (fun _ _ kt kf => rs_icmp_ge (tgt := 157) (pc := 78) dX12_seen_78 rfl kt kf) (fun c_78 => ?_) (fun c_78 => ?_)
    · have hie : i = nR B := lp_exit rfl (by omega) hi0 c_78
      subst hie
      refine wq (fun _ _ kk => rs_iload (pc := 157) dX12_seen_157 rfl kk) ?_
      refine wq_bn (fun _ _ kt kf => rs_if_ne (tgt := 167) (pc := 159) dX12_seen_159 rfl kt kf) (fun c_159 => ?_) (fun c_159 => ?_)
      · refine wq (fun _ _ kk => rs_iload (pc := 167) dX12_seen_167 rfl kk) ?_
        refine wq_ret ?_ (rs_iret (pc := 169) dX12_seen_169 rfl)
        refine ⟨rfl, ?_⟩
        simp [c_159]
        rfl
      · refine wq (fun _ _ kk => rs_iload (pc := 162) dX12_seen_162 rfl kk) ?_
        refine wq (fun _ _ kk => rs_goto (tgt := 169) (pc := 164) dX12_seen_164 rfl kk) ?_
        refine wq_ret ?_ (rs_iret (pc := 169) dX12_seen_169 rfl)
        refine ⟨rfl, ?_⟩
        simp [c_159]
        rfl
    · have hi : i < nR B := lp_go rfl (by omega) c_78
      obtain ⟨q1, q2, -, q4, q5, -⟩ := hRB.2.2.2.2.1 i hi
      refine wq (fun _ _ kk => rs_aload_n (pc := 81) dX12_seen_81 rfl kk) ?_
      refine wq (fun _ _ kk => rs_getf (pc := 82) dX12_seen_82 fX12_40 (md_lt hmd (by decide)) hmd.2.1 rfl kk) ?_
      refine wq (fun _ _ kk => rs_iload (pc := 85) dX12_seen_85 rfl kk) ?_
      refine wq (fun _ _ kk => rs_iald (pc := 87) dX12_seen_87 (md_lt hmd (by decide)) (md_geti (d := 10) (k := 16) (kd := 0) (n := 400) rfl (by decide) hmd) (vp_in_nI (n := i) (N := 400) (by omega) (by decide)) kk) ?_
      rw [nI_clamp (show i < 2 ^ 31 by omega), q4]
      refine wq (fun _ _ kk => rs_iload_n (pc := 88) dX12_seen_88 rfl kk) ?_
      refine wq_bn (fun _ _ kt kf => rs_icmp_ne (tgt := 151) (pc := 89) dX12_seen_89 rfl kt kf) (fun c_89 => ?_) (fun c_89 => ?_)
      · refine wq (fun _ _ kk => wk_iinc9 (v := nI (i + 1)) (pc := 151) dX12_seen_151 (by decide) rfl (nI_1 i) kk) ?_
        refine wq (fun _ _ kk => rs_goto (tgt := 72) (pc := 154) dX12_seen_154 rfl kk) ?_
        have e := ih (i + 1) (by omega) (by omega)
        rw [seF_n (by simp [xs_seenp, c_78, c_89])] at e
        exact e
      · refine wq (fun _ _ kk => rs_aload_n (pc := 92) dX12_seen_92 rfl kk) ?_
        refine wq (fun _ _ kk => rs_getf (pc := 93) dX12_seen_93 fX12_31 (md_lt hmd (by decide)) hmd.2.1 rfl kk) ?_
        refine wq (fun _ _ kk => rs_iload (pc := 96) dX12_seen_96 rfl kk) ?_
        refine wq (fun _ _ kk => rs_iald (pc := 98) dX12_seen_98 (md_lt hmd (by decide)) (md_geti (d := 7) (k := 13) (kd := 0) (n := 400) rfl (by decide) hmd) (vp_in_nI (n := i) (N := 400) (by omega) (by decide)) kk) ?_
        rw [nI_clamp (show i < 2 ^ 31 by omega), q1]
        refine wq (fun _ _ kk => rs_iload_n (pc := 99) dX12_seen_99 rfl kk) ?_
        refine wq_bn (fun _ _ kt kf => rs_icmp_ne (tgt := 151) (pc := 100) dX12_seen_100 rfl kt kf) (fun c_100 => ?_) (fun c_100 => ?_)
        · refine wq (fun _ _ kk => wk_iinc9 (v := nI (i + 1)) (pc := 151) dX12_seen_151 (by decide) rfl (nI_1 i) kk) ?_
          refine wq (fun _ _ kk => rs_goto (tgt := 72) (pc := 154) dX12_seen_154 rfl kk) ?_
          have e := ih (i + 1) (by omega) (by omega)
          rw [seF_n (by simp [xs_seenp, c_78, c_89, c_100])] at e
          exact e
        · refine wq (fun _ _ kk => rs_aload_n (pc := 103) dX12_seen_103 rfl kk) ?_
          refine wq (fun _ _ kk => rs_getf (pc := 104) dX12_seen_104 fX12_34 (md_lt hmd (by decide)) hmd.2.1 rfl kk) ?_
          refine wq (fun _ _ kk => rs_iload (pc := 107) dX12_seen_107 rfl kk) ?_
          refine wq (fun _ _ kk => rs_iald (pc := 109) dX12_seen_109 (md_lt hmd (by decide)) (md_geti (d := 8) (k := 14) (kd := 0) (n := 400) rfl (by decide) hmd) (vp_in_nI (n := i) (N := 400) (by omega) (by decide)) kk) ?_
          rw [nI_clamp (show i < 2 ^ 31 by omega), q2]
          refine wq (fun _ _ kk => rs_iload_n (pc := 110) dX12_seen_110 rfl kk) ?_
          refine wq_bn (fun _ _ kt kf => rs_icmp_ne (tgt := 151) (pc := 111) dX12_seen_111 rfl kt kf) (fun c_111 => ?_) (fun c_111 => ?_)
          · refine wq (fun _ _ kk => wk_iinc9 (v := nI (i + 1)) (pc := 151) dX12_seen_151 (by decide) rfl (nI_1 i) kk) ?_
            refine wq (fun _ _ kk => rs_goto (tgt := 72) (pc := 154) dX12_seen_154 rfl kk) ?_
            have e := ih (i + 1) (by omega) (by omega)
            rw [seF_n (by simp [xs_seenp, c_78, c_89, c_100, c_111])] at e
            exact e
          · refine wq (fun _ _ kk => rs_aload_n (pc := 114) dX12_seen_114 rfl kk) ?_
            refine wq (fun _ _ kk => rs_getf (pc := 115) dX12_seen_115 fX12_43 (md_lt hmd (by decide)) hmd.2.1 rfl kk) ?_
            refine wq (fun _ _ kk => rs_iload (pc := 118) dX12_seen_118 rfl kk) ?_
            refine wq (fun _ _ kk => rs_iald (pc := 120) dX12_seen_120 (md_lt hmd (by decide)) (md_geti (d := 11) (k := 17) (kd := 0) (n := 400) rfl (by decide) hmd) (vp_in_nI (n := i) (N := 400) (by omega) (by decide)) kk) ?_
            rw [nI_clamp (show i < 2 ^ 31 by omega), q5]
            refine wq (fun _ _ kk => rs_iload (pc := 121) dX12_seen_121 rfl kk) ?_
            refine wq_bn (fun _ _ kt kf => rs_icmp_ne (tgt := 151) (pc := 123) dX12_seen_123 rfl kt kf) (fun c_123 => ?_) (fun c_123 => ?_)
            · refine wq (fun _ _ kk => wk_iinc9 (v := nI (i + 1)) (pc := 151) dX12_seen_151 (by decide) rfl (nI_1 i) kk) ?_
              refine wq (fun _ _ kk => rs_goto (tgt := 72) (pc := 154) dX12_seen_154 rfl kk) ?_
              have e := ih (i + 1) (by omega) (by omega)
              rw [seF_n (by simp [xs_seenp, c_78, c_89, c_100, c_111, c_123])] at e
              exact e
            · refine wq (fun _ _ kk => rs_aload_n (pc := 126) dX12_seen_126 rfl kk) ?_
              refine wq (fun _ _ kk => rs_iload (pc := 127) dX12_seen_127 rfl kk) ?_
              refine wq (fun _ _ kk => rs_iload (pc := 129) dX12_seen_129 rfl kk) ?_
              refine wq (fun _ _ kk => rs_callV (as := [_, _]) (pc := 131) dX12_seen_131 mk_X12_counts mlX12_234 in_X12_counts se_X12_counts rfl (md_lt hmd (by decide)) hmd.2.1 rfl rfl (Nat.le_of_ble_eq_true rfl) (c_X12_counts hmd (show i < 400 by omega) _) kk) ?_
              rw [rb_counts hRB hok hi hw]
              refine wq_br (fun _ _ kt kf => rs_if_eq (tgt := 151) (pc := 134) dX12_seen_134 rfl kt kf) (fun c_134 => ?_) (fun c_134 => ?_)
              · refine wq (fun _ _ kk => wk_iinc9 (v := nI (i + 1)) (pc := 151) dX12_seen_151 (by decide) rfl (nI_1 i) kk) ?_
                refine wq (fun _ _ kk => rs_goto (tgt := 72) (pc := 154) dX12_seen_154 rfl kk) ?_
                have e := ih (i + 1) (by omega) (by omega)
                rw [seF_n (by simp [xs_seenp, c_78, c_89, c_100, c_111, c_123, c_134])] at e
                exact e
              · refine wq (fun _ _ kk => wk_iinc7 (pc := 137) dX12_seen_137 (by decide) rfl rfl kk) ?_
                refine wq (fun _ _ kk => rs_iload (pc := 140) dX12_seen_140 rfl kk) ?_
                refine wq (fun _ _ kk => rs_aload_n (pc := 142) dX12_seen_142 rfl kk) ?_
                refine wq (fun _ _ kk => rs_iload (pc := 143) dX12_seen_143 rfl kk) ?_
                refine wq (fun _ _ kk => rs_callV (as := [_]) (pc := 145) dX12_seen_145 mk_X12_reduced mlX12_238 in_X12_reduced se_X12_reduced rfl (md_lt hmd (by decide)) hmd.2.1 rfl rfl (Nat.le_of_ble_eq_true rfl) (c_X12_reduced hmd (show i < 400 by omega) (rb_red hok hRB hi).2) kk) ?_
                rw [(rb_red hok hRB hi).1]
                refine wq (fun _ _ kk => rs_iadd (pc := 148) dX12_seen_148 kk) ?_
                refine wq (fun _ _ kk => wk_ist8 (pc := 149) dX12_seen_149 (by decide) rfl kk) ?_
                refine wq (fun _ _ kk => wk_iinc9 (v := nI (i + 1)) (pc := 151) dX12_seen_151 (by decide) rfl (nI_1 i) kk) ?_
                refine wq (fun _ _ kk => rs_goto (tgt := 72) (pc := 154) dX12_seen_154 rfl kk) ?_
                have e := ih (i + 1) (by omega) (by omega)
                rw [seF_y (by simp [xs_seenp, c_89, c_100, c_111, c_123, c_134]), ty_add32, ty_add1] at e
                exact e
set_option maxRecDepth 100000 in
set_option maxHeartbeats 4000000 in
theorem c_X12_seen {h : ai_H} {S : Md} {B : Bk} {ln : Nat} (hok : bk_ok B ln) (hRB : RB B S) (hmd : md_at h S) (o n s w k x : Int32) : ai_QM MX12_seen [.ref 307, .int o, .int n, .int s, .int w, .int k, .int x] h (fun res g => g = h ∧ res = some (.int (xs_seen B o n s w k x))) := by
  refine qm_of (ls := [.ref 307, .int o, .int n, .int s, .int w, .int k, .int x, .float 0, .float 0, .float 0]) (by decide) (by simp [ai_en, Value.category]) (by rfl) ?_
  refine wq (fun _ _ kk => rs_aload_n (pc := 0) dX12_seen_0 rfl kk) ?_
  refine wq (fun _ _ kk => rs_iload_n (pc := 1) dX12_seen_1 rfl kk) ?_
  refine wq (fun _ _ kk => rs_callV (as := [_]) (pc := 2) dX12_seen_2 mk_X12_isObserver mlX12_217 in_X12_isObserver se_X12_isObserver rfl (md_lt hmd (by decide)) hmd.2.1 rfl rfl (Nat.le_of_ble_eq_true rfl) (c_X12_isObserver hmd _) kk) ?_
  rw [rb_obs hok hRB]
  refine wq_br (fun _ _ kt kf => rs_if_eq (tgt := 51) (pc := 5) dX12_seen_5 rfl kt kf) (fun c_5 => ?_) (fun c_5 => ?_)
  · refine wq (fun _ _ kk => rs_iload (pc := 51) dX12_seen_51 rfl kk) ?_
    refine wq_bn (fun _ _ kt kf => rs_if_ne (tgt := 60) (pc := 53) dX12_seen_53 rfl kt kf) (fun c_53 => ?_) (fun c_53 => ?_)
    · refine wq (fun _ _ kk => rs_ldc (pc := 60) dX12_seen_60 cnX12_233 kk) ?_
      refine wq_ret ?_ (rs_iret (pc := 62) dX12_seen_62 rfl)
      refine ⟨rfl, ?_⟩
      have ok : (xs_sight B o n s w = 0 ∨ bi_in k 0 9999 = 0 ∨ bi_in x 0 1 = 0) := by
        first
        | exact Or.inl ((sight0 B o n s w).mpr (Or.inl c_5))
        | exact Or.inl ((sight0 B o n s w).mpr (Or.inr (Or.inl c_13)))
        | exact Or.inl ((sight0 B o n s w).mpr (Or.inr (Or.inr (Or.inl c_21))))
        | exact Or.inl ((sight0 B o n s w).mpr (Or.inr (Or.inr (Or.inr c_29))))
        | exact Or.inr (Or.inl c_37)
        | exact Or.inr (Or.inr c_48)
        | exact Or.inr (Or.inr (Classical.not_not.mp c_48))
      rw [xs_seen, if_pos ok]
      simp [c_53]
    · refine wq (fun _ _ kk => rs_iconst (v := -1) (pc := 56) dX12_seen_56 rfl kk) ?_
      refine wq (fun _ _ kk => rs_goto (tgt := 62) (pc := 57) dX12_seen_57 rfl kk) ?_
      refine wq_ret ?_ (rs_iret (pc := 62) dX12_seen_62 rfl)
      refine ⟨rfl, ?_⟩
      have ok : (xs_sight B o n s w = 0 ∨ bi_in k 0 9999 = 0 ∨ bi_in x 0 1 = 0) := by
        first
        | exact Or.inl ((sight0 B o n s w).mpr (Or.inl c_5))
        | exact Or.inl ((sight0 B o n s w).mpr (Or.inr (Or.inl c_13)))
        | exact Or.inl ((sight0 B o n s w).mpr (Or.inr (Or.inr (Or.inl c_21))))
        | exact Or.inl ((sight0 B o n s w).mpr (Or.inr (Or.inr (Or.inr c_29))))
        | exact Or.inr (Or.inl c_37)
        | exact Or.inr (Or.inr c_48)
        | exact Or.inr (Or.inr (Classical.not_not.mp c_48))
      rw [xs_seen, if_pos ok]
      simp [c_53]
  · refine wq (fun _ _ kk => rs_aload_n (pc := 8) dX12_seen_8 rfl kk) ?_
    refine wq (fun _ _ kk => rs_iload_n (pc := 9) dX12_seen_9 rfl kk) ?_
    refine wq (fun _ _ kk => rs_callV (as := [_]) (pc := 10) dX12_seen_10 mk_X12_isNight mlX12_210 in_X12_isNight se_X12_isNight rfl (md_lt hmd (by decide)) hmd.2.1 rfl rfl (Nat.le_of_ble_eq_true rfl) (c_X12_isNight hmd _) kk) ?_
    rw [rb_nig hok hRB]
    refine wq_br (fun _ _ kt kf => rs_if_eq (tgt := 51) (pc := 13) dX12_seen_13 rfl kt kf) (fun c_13 => ?_) (fun c_13 => ?_)
    · refine wq (fun _ _ kk => rs_iload (pc := 51) dX12_seen_51 rfl kk) ?_
      refine wq_bn (fun _ _ kt kf => rs_if_ne (tgt := 60) (pc := 53) dX12_seen_53 rfl kt kf) (fun c_53 => ?_) (fun c_53 => ?_)
      · refine wq (fun _ _ kk => rs_ldc (pc := 60) dX12_seen_60 cnX12_233 kk) ?_
        refine wq_ret ?_ (rs_iret (pc := 62) dX12_seen_62 rfl)
        refine ⟨rfl, ?_⟩
        have ok : (xs_sight B o n s w = 0 ∨ bi_in k 0 9999 = 0 ∨ bi_in x 0 1 = 0) := by
          first
          | exact Or.inl ((sight0 B o n s w).mpr (Or.inl c_5))
          | exact Or.inl ((sight0 B o n s w).mpr (Or.inr (Or.inl c_13)))
          | exact Or.inl ((sight0 B o n s w).mpr (Or.inr (Or.inr (Or.inl c_21))))
          | exact Or.inl ((sight0 B o n s w).mpr (Or.inr (Or.inr (Or.inr c_29))))
          | exact Or.inr (Or.inl c_37)
          | exact Or.inr (Or.inr c_48)
          | exact Or.inr (Or.inr (Classical.not_not.mp c_48))
        rw [xs_seen, if_pos ok]
        simp [c_53]
      · refine wq (fun _ _ kk => rs_iconst (v := -1) (pc := 56) dX12_seen_56 rfl kk) ?_
        refine wq (fun _ _ kk => rs_goto (tgt := 62) (pc := 57) dX12_seen_57 rfl kk) ?_
        refine wq_ret ?_ (rs_iret (pc := 62) dX12_seen_62 rfl)
        refine ⟨rfl, ?_⟩
        have ok : (xs_sight B o n s w = 0 ∨ bi_in k 0 9999 = 0 ∨ bi_in x 0 1 = 0) := by
          first
          | exact Or.inl ((sight0 B o n s w).mpr (Or.inl c_5))
          | exact Or.inl ((sight0 B o n s w).mpr (Or.inr (Or.inl c_13)))
          | exact Or.inl ((sight0 B o n s w).mpr (Or.inr (Or.inr (Or.inl c_21))))
          | exact Or.inl ((sight0 B o n s w).mpr (Or.inr (Or.inr (Or.inr c_29))))
          | exact Or.inr (Or.inl c_37)
          | exact Or.inr (Or.inr c_48)
          | exact Or.inr (Or.inr (Classical.not_not.mp c_48))
        rw [xs_seen, if_pos ok]
        simp [c_53]
    · refine wq (fun _ _ kk => rs_aload_n (pc := 16) dX12_seen_16 rfl kk) ?_
      refine wq (fun _ _ kk => rs_iload_n (pc := 17) dX12_seen_17 rfl kk) ?_
      refine wq (fun _ _ kk => rs_callV (as := [_]) (pc := 18) dX12_seen_18 mk_X12_isStar mlX12_214 in_X12_isStar se_X12_isStar rfl (md_lt hmd (by decide)) hmd.2.1 rfl rfl (Nat.le_of_ble_eq_true rfl) (c_X12_isStar hmd _) kk) ?_
      rw [rb_str hok hRB]
      refine wq_br (fun _ _ kt kf => rs_if_eq (tgt := 51) (pc := 21) dX12_seen_21 rfl kt kf) (fun c_21 => ?_) (fun c_21 => ?_)
      · refine wq (fun _ _ kk => rs_iload (pc := 51) dX12_seen_51 rfl kk) ?_
        refine wq_bn (fun _ _ kt kf => rs_if_ne (tgt := 60) (pc := 53) dX12_seen_53 rfl kt kf) (fun c_53 => ?_) (fun c_53 => ?_)
        · refine wq (fun _ _ kk => rs_ldc (pc := 60) dX12_seen_60 cnX12_233 kk) ?_
          refine wq_ret ?_ (rs_iret (pc := 62) dX12_seen_62 rfl)
          refine ⟨rfl, ?_⟩
          have ok : (xs_sight B o n s w = 0 ∨ bi_in k 0 9999 = 0 ∨ bi_in x 0 1 = 0) := by
            first
            | exact Or.inl ((sight0 B o n s w).mpr (Or.inl c_5))
            | exact Or.inl ((sight0 B o n s w).mpr (Or.inr (Or.inl c_13)))
            | exact Or.inl ((sight0 B o n s w).mpr (Or.inr (Or.inr (Or.inl c_21))))
            | exact Or.inl ((sight0 B o n s w).mpr (Or.inr (Or.inr (Or.inr c_29))))
            | exact Or.inr (Or.inl c_37)
            | exact Or.inr (Or.inr c_48)
            | exact Or.inr (Or.inr (Classical.not_not.mp c_48))
          rw [xs_seen, if_pos ok]
          simp [c_53]
        · refine wq (fun _ _ kk => rs_iconst (v := -1) (pc := 56) dX12_seen_56 rfl kk) ?_
          refine wq (fun _ _ kk => rs_goto (tgt := 62) (pc := 57) dX12_seen_57 rfl kk) ?_
          refine wq_ret ?_ (rs_iret (pc := 62) dX12_seen_62 rfl)
          refine ⟨rfl, ?_⟩
          have ok : (xs_sight B o n s w = 0 ∨ bi_in k 0 9999 = 0 ∨ bi_in x 0 1 = 0) := by
            first
            | exact Or.inl ((sight0 B o n s w).mpr (Or.inl c_5))
            | exact Or.inl ((sight0 B o n s w).mpr (Or.inr (Or.inl c_13)))
            | exact Or.inl ((sight0 B o n s w).mpr (Or.inr (Or.inr (Or.inl c_21))))
            | exact Or.inl ((sight0 B o n s w).mpr (Or.inr (Or.inr (Or.inr c_29))))
            | exact Or.inr (Or.inl c_37)
            | exact Or.inr (Or.inr c_48)
            | exact Or.inr (Or.inr (Classical.not_not.mp c_48))
          rw [xs_seen, if_pos ok]
          simp [c_53]
      · refine wq (fun _ _ kk => rs_iload (pc := 24) dX12_seen_24 rfl kk) ?_
        refine wq (fun _ _ kk => rs_callS (as := [_]) (pc := 26) dX12_seen_26 mk_X12_isWay mlX12_220 st_X12_isWay rfl rfl (Nat.le_of_ble_eq_true rfl) (c_X12_isWay _) kk) ?_
        refine wq_br (fun _ _ kt kf => rs_if_eq (tgt := 51) (pc := 29) dX12_seen_29 rfl kt kf) (fun c_29 => ?_) (fun c_29 => ?_)
        · refine wq (fun _ _ kk => rs_iload (pc := 51) dX12_seen_51 rfl kk) ?_
          refine wq_bn (fun _ _ kt kf => rs_if_ne (tgt := 60) (pc := 53) dX12_seen_53 rfl kt kf) (fun c_53 => ?_) (fun c_53 => ?_)
          · refine wq (fun _ _ kk => rs_ldc (pc := 60) dX12_seen_60 cnX12_233 kk) ?_
            refine wq_ret ?_ (rs_iret (pc := 62) dX12_seen_62 rfl)
            refine ⟨rfl, ?_⟩
            have ok : (xs_sight B o n s w = 0 ∨ bi_in k 0 9999 = 0 ∨ bi_in x 0 1 = 0) := by
              first
              | exact Or.inl ((sight0 B o n s w).mpr (Or.inl c_5))
              | exact Or.inl ((sight0 B o n s w).mpr (Or.inr (Or.inl c_13)))
              | exact Or.inl ((sight0 B o n s w).mpr (Or.inr (Or.inr (Or.inl c_21))))
              | exact Or.inl ((sight0 B o n s w).mpr (Or.inr (Or.inr (Or.inr c_29))))
              | exact Or.inr (Or.inl c_37)
              | exact Or.inr (Or.inr c_48)
              | exact Or.inr (Or.inr (Classical.not_not.mp c_48))
            rw [xs_seen, if_pos ok]
            simp [c_53]
          · refine wq (fun _ _ kk => rs_iconst (v := -1) (pc := 56) dX12_seen_56 rfl kk) ?_
            refine wq (fun _ _ kk => rs_goto (tgt := 62) (pc := 57) dX12_seen_57 rfl kk) ?_
            refine wq_ret ?_ (rs_iret (pc := 62) dX12_seen_62 rfl)
            refine ⟨rfl, ?_⟩
            have ok : (xs_sight B o n s w = 0 ∨ bi_in k 0 9999 = 0 ∨ bi_in x 0 1 = 0) := by
              first
              | exact Or.inl ((sight0 B o n s w).mpr (Or.inl c_5))
              | exact Or.inl ((sight0 B o n s w).mpr (Or.inr (Or.inl c_13)))
              | exact Or.inl ((sight0 B o n s w).mpr (Or.inr (Or.inr (Or.inl c_21))))
              | exact Or.inl ((sight0 B o n s w).mpr (Or.inr (Or.inr (Or.inr c_29))))
              | exact Or.inr (Or.inl c_37)
              | exact Or.inr (Or.inr c_48)
              | exact Or.inr (Or.inr (Classical.not_not.mp c_48))
            rw [xs_seen, if_pos ok]
            simp [c_53]
        · refine wq (fun _ _ kk => rs_iload (pc := 32) dX12_seen_32 rfl kk) ?_
          refine wq (fun _ _ kk => rs_callS (as := [_]) (pc := 34) dX12_seen_34 mk_X12_isWeek mlX12_230 st_X12_isWeek rfl rfl (Nat.le_of_ble_eq_true rfl) (c_X12_isWeek _) kk) ?_
          refine wq_br (fun _ _ kt kf => rs_if_eq (tgt := 51) (pc := 37) dX12_seen_37 rfl kt kf) (fun c_37 => ?_) (fun c_37 => ?_)
          · refine wq (fun _ _ kk => rs_iload (pc := 51) dX12_seen_51 rfl kk) ?_
            refine wq_bn (fun _ _ kt kf => rs_if_ne (tgt := 60) (pc := 53) dX12_seen_53 rfl kt kf) (fun c_53 => ?_) (fun c_53 => ?_)
            · refine wq (fun _ _ kk => rs_ldc (pc := 60) dX12_seen_60 cnX12_233 kk) ?_
              refine wq_ret ?_ (rs_iret (pc := 62) dX12_seen_62 rfl)
              refine ⟨rfl, ?_⟩
              have ok : (xs_sight B o n s w = 0 ∨ bi_in k 0 9999 = 0 ∨ bi_in x 0 1 = 0) := by
                first
                | exact Or.inl ((sight0 B o n s w).mpr (Or.inl c_5))
                | exact Or.inl ((sight0 B o n s w).mpr (Or.inr (Or.inl c_13)))
                | exact Or.inl ((sight0 B o n s w).mpr (Or.inr (Or.inr (Or.inl c_21))))
                | exact Or.inl ((sight0 B o n s w).mpr (Or.inr (Or.inr (Or.inr c_29))))
                | exact Or.inr (Or.inl c_37)
                | exact Or.inr (Or.inr c_48)
                | exact Or.inr (Or.inr (Classical.not_not.mp c_48))
              rw [xs_seen, if_pos ok]
              simp [c_53]
            · refine wq (fun _ _ kk => rs_iconst (v := -1) (pc := 56) dX12_seen_56 rfl kk) ?_
              refine wq (fun _ _ kk => rs_goto (tgt := 62) (pc := 57) dX12_seen_57 rfl kk) ?_
              refine wq_ret ?_ (rs_iret (pc := 62) dX12_seen_62 rfl)
              refine ⟨rfl, ?_⟩
              have ok : (xs_sight B o n s w = 0 ∨ bi_in k 0 9999 = 0 ∨ bi_in x 0 1 = 0) := by
                first
                | exact Or.inl ((sight0 B o n s w).mpr (Or.inl c_5))
                | exact Or.inl ((sight0 B o n s w).mpr (Or.inr (Or.inl c_13)))
                | exact Or.inl ((sight0 B o n s w).mpr (Or.inr (Or.inr (Or.inl c_21))))
                | exact Or.inl ((sight0 B o n s w).mpr (Or.inr (Or.inr (Or.inr c_29))))
                | exact Or.inr (Or.inl c_37)
                | exact Or.inr (Or.inr c_48)
                | exact Or.inr (Or.inr (Classical.not_not.mp c_48))
              rw [xs_seen, if_pos ok]
              simp [c_53]
          · refine wq (fun _ _ kk => rs_iload (pc := 40) dX12_seen_40 rfl kk) ?_
            refine wq (fun _ _ kk => rs_i2l (pc := 42) dX12_seen_42 kk) ?_
            refine wq (fun _ _ kk => rs_lconst (v := 0) (pc := 43) dX12_seen_43 rfl kk) ?_
            refine wq (fun _ _ kk => rs_lconst (v := 1) (pc := 44) dX12_seen_44 rfl kk) ?_
            refine wq (fun _ _ kk => rs_callS (as := [_, _, _]) (pc := 45) dX12_seen_45 mk_X12_in mlX12_181 st_X12_in rfl rfl (Nat.le_of_ble_eq_true rfl) (c_X12_inI x 0 1) kk) ?_
            refine wq_bn (fun _ _ kt kf => rs_if_ne (tgt := 63) (pc := 48) dX12_seen_48 rfl kt kf) (fun c_48 => ?_) (fun c_48 => ?_)
            · refine wq (fun _ _ kk => rs_iconst (v := 0) (pc := 63) dX12_seen_63 rfl kk) ?_
              refine wq (fun _ _ kk => wk_ist7 (pc := 64) dX12_seen_64 (by decide) rfl kk) ?_
              refine wq (fun _ _ kk => rs_iconst (v := 0) (pc := 66) dX12_seen_66 rfl kk) ?_
              refine wq (fun _ _ kk => wk_ist8 (pc := 67) dX12_seen_67 (by decide) rfl kk) ?_
              refine wq (fun _ _ kk => rs_iconst (v := 0) (pc := 69) dX12_seen_69 rfl kk) ?_
              refine wq (fun _ _ kk => wk_ist9 (pc := 70) dX12_seen_70 (by decide) rfl kk) ?_
              have ok : ¬ (xs_sight B o n s w = 0 ∨ bi_in k 0 9999 = 0 ∨ bi_in x 0 1 = 0) := by
                rintro (z | z | z)
                · rcases (sight0 B o n s w).mp z with z | z | z | z
                  · exact c_5 z
                  · exact c_13 z
                  · exact c_21 z
                  · exact c_29 z
                · exact c_37 z
                · exact c_48 z
              refine wq_mono (Q := (fun res g => g = h ∧ res = some (.int (if x = 0 then (xs_seenT B o n s w k).1 else (xs_seenT B o n s w k).2.1.toInt32)))) ?_ ?_
              · rintro r g ⟨e1, e2⟩
                exact ⟨e1, by rw [e2, xs_seen, if_neg ok]⟩
              · exact l_X12_seen hok hRB (bi_in_9 c_37).2 hmd (nR B + 1) 0 (by omega) (by omega)
            · refine wq (fun _ _ kk => rs_iload (pc := 51) dX12_seen_51 rfl kk) ?_
              refine wq_bn (fun _ _ kt kf => rs_if_ne (tgt := 60) (pc := 53) dX12_seen_53 rfl kt kf) (fun c_53 => ?_) (fun c_53 => ?_)
              · refine wq (fun _ _ kk => rs_ldc (pc := 60) dX12_seen_60 cnX12_233 kk) ?_
                refine wq_ret ?_ (rs_iret (pc := 62) dX12_seen_62 rfl)
                refine ⟨rfl, ?_⟩
                have ok : (xs_sight B o n s w = 0 ∨ bi_in k 0 9999 = 0 ∨ bi_in x 0 1 = 0) := by
                  first
                  | exact Or.inl ((sight0 B o n s w).mpr (Or.inl c_5))
                  | exact Or.inl ((sight0 B o n s w).mpr (Or.inr (Or.inl c_13)))
                  | exact Or.inl ((sight0 B o n s w).mpr (Or.inr (Or.inr (Or.inl c_21))))
                  | exact Or.inl ((sight0 B o n s w).mpr (Or.inr (Or.inr (Or.inr c_29))))
                  | exact Or.inr (Or.inl c_37)
                  | exact Or.inr (Or.inr c_48)
                  | exact Or.inr (Or.inr (Classical.not_not.mp c_48))
                rw [xs_seen, if_pos ok]
                simp [c_53]
              · refine wq (fun _ _ kk => rs_iconst (v := -1) (pc := 56) dX12_seen_56 rfl kk) ?_
                refine wq (fun _ _ kk => rs_goto (tgt := 62) (pc := 57) dX12_seen_57 rfl kk) ?_
                refine wq_ret ?_ (rs_iret (pc := 62) dX12_seen_62 rfl)
                refine ⟨rfl, ?_⟩
                have ok : (xs_sight B o n s w = 0 ∨ bi_in k 0 9999 = 0 ∨ bi_in x 0 1 = 0) := by
                  first
                  | exact Or.inl ((sight0 B o n s w).mpr (Or.inl c_5))
                  | exact Or.inl ((sight0 B o n s w).mpr (Or.inr (Or.inl c_13)))
                  | exact Or.inl ((sight0 B o n s w).mpr (Or.inr (Or.inr (Or.inl c_21))))
                  | exact Or.inl ((sight0 B o n s w).mpr (Or.inr (Or.inr (Or.inr c_29))))
                  | exact Or.inr (Or.inl c_37)
                  | exact Or.inr (Or.inr c_48)
                  | exact Or.inr (Or.inr (Classical.not_not.mp c_48))
                rw [xs_seen, if_pos ok]
                simp [c_53]
