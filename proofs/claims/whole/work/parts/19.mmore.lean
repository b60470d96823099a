/-! 19: more of the model (walks laid by wip/whole/p19.py) -/
theorem md_geti {h : ai_H} {S : Md} {d k kd n : Nat} (hq : md_tab[d]? = some (k, kd, n)) (hkd : kd ≠ 1) (hmd : md_at h S) : h.2.2 (308 + d) = .inl (kd, n, .inl (S.2.2.1 k)) := by
  rw [hmd.2.2 d _ hq]
  simp [md_arr, hkd]
theorem md_getl {h : ai_H} {S : Md} {d k kd n : Nat} (hq : md_tab[d]? = some (k, kd, n)) (hkd : kd = 1) (hmd : md_at h S) : h.2.2 (308 + d) = .inl (kd, n, .inr (.inl (S.2.2.2 k))) := by
  rw [hmd.2.2 d _ hq]
  simp [md_arr, hkd]
def ms_rec (S : Md) (n s t o w e u : Int32) : Int32 := if S.1 5 = 400 ∨ bi_in n 0 (S.1 4 - 1) = 0 ∨ bi_in s 0 (S.1 3 - 1) = 0 ∨ bi_in t 0 4 = 0 ∨ bi_in o 0 (S.1 2 - 1) = 0 ∨ bi_in w 0 4 = 0 ∨ bi_in e 0 9999 = 0 ∨ xs_told w u = 0 then -1 else S.1 5 + 1 - 1
def ms_recS (S : Md) (n s t o w e u : Int32) : Md := if S.1 5 = 400 ∨ bi_in n 0 (S.1 4 - 1) = 0 ∨ bi_in s 0 (S.1 3 - 1) = 0 ∨ bi_in t 0 4 = 0 ∨ bi_in o 0 (S.1 2 - 1) = 0 ∨ bi_in w 0 4 = 0 ∨ bi_in e 0 9999 = 0 ∨ xs_told w u = 0 then S else (md_si (md_ai (md_ai (md_ai (md_ai (md_ai (md_ai (md_ai (md_ai (md_ai S 13 (upd (S.2.2.1 13) (S.1 5).toNatClampNeg n)) 14 (upd (S.2.2.1 14) (S.1 5).toNatClampNeg s)) 15 (upd (S.2.2.1 15) (S.1 5).toNatClampNeg t)) 16 (upd (S.2.2.1 16) (S.1 5).toNatClampNeg o)) 17 (upd (S.2.2.1 17) (S.1 5).toNatClampNeg w)) 18 (upd (S.2.2.1 18) (S.1 5).toNatClampNeg e)) 19 (upd (S.2.2.1 19) (S.1 5).toNatClampNeg u)) 20 (upd (S.2.2.1 20) (S.1 5).toNatClampNeg (S.1 1))) 21 (upd (S.2.2.1 21) (S.1 5).toNatClampNeg (-1))) 5 (S.1 5 + 1))
theorem dX12_record_0 : decode cX12_record 0 = .ok (.aload_n 0, 1) := by decide +kernel
theorem dX12_record_1 : decode cX12_record 1 = .ok (.getfield 197, 3) := by decide +kernel
theorem dX12_record_4 : decode cX12_record 4 = .ok (.sipush 400, 3) := by decide +kernel
theorem dX12_record_7 : decode cX12_record 7 = .ok (.if_icmp .eq 61, 3) := by decide +kernel
theorem dX12_record_10 : decode cX12_record 10 = .ok (.aload_n 0, 1) := by decide +kernel
theorem dX12_record_11 : decode cX12_record 11 = .ok (.iload_n 1, 1) := by decide +kernel
theorem dX12_record_12 : decode cX12_record 12 = .ok (.invokevirtual 210, 3) := by decide +kernel
theorem dX12_record_15 : decode cX12_record 15 = .ok (.ifCond .eq 53, 3) := by decide +kernel
theorem dX12_record_18 : decode cX12_record 18 = .ok (.aload_n 0, 1) := by decide +kernel
theorem dX12_record_19 : decode cX12_record 19 = .ok (.iload_n 2, 1) := by decide +kernel
theorem dX12_record_20 : decode cX12_record 20 = .ok (.invokevirtual 214, 3) := by decide +kernel
theorem dX12_record_23 : decode cX12_record 23 = .ok (.ifCond .eq 45, 3) := by decide +kernel
theorem dX12_record_26 : decode cX12_record 26 = .ok (.iload_n 3, 1) := by decide +kernel
theorem dX12_record_27 : decode cX12_record 27 = .ok (.i2l, 1) := by decide +kernel
theorem dX12_record_28 : decode cX12_record 28 = .ok (.lconst 0, 1) := by decide +kernel
theorem dX12_record_29 : decode cX12_record 29 = .ok (.ldc2_w 200, 3) := by decide +kernel
theorem dX12_record_32 : decode cX12_record 32 = .ok (.invokestatic 181, 3) := by decide +kernel
theorem dX12_record_35 : decode cX12_record 35 = .ok (.ifCond .eq 33, 3) := by decide +kernel
theorem dX12_record_38 : decode cX12_record 38 = .ok (.aload_n 0, 1) := by decide +kernel
theorem dX12_record_39 : decode cX12_record 39 = .ok (.iload 4, 2) := by decide +kernel
theorem dX12_record_41 : decode cX12_record 41 = .ok (.invokevirtual 217, 3) := by decide +kernel
theorem dX12_record_44 : decode cX12_record 44 = .ok (.ifCond .eq 24, 3) := by decide +kernel
theorem dX12_record_47 : decode cX12_record 47 = .ok (.iload 5, 2) := by decide +kernel
theorem dX12_record_49 : decode cX12_record 49 = .ok (.invokestatic 220, 3) := by decide +kernel
theorem dX12_record_52 : decode cX12_record 52 = .ok (.ifCond .eq 16, 3) := by decide +kernel
theorem dX12_record_55 : decode cX12_record 55 = .ok (.iload 6, 2) := by decide +kernel
theorem dX12_record_57 : decode cX12_record 57 = .ok (.i2l, 1) := by decide +kernel
theorem dX12_record_58 : decode cX12_record 58 = .ok (.lconst 0, 1) := by decide +kernel
theorem dX12_record_59 : decode cX12_record 59 = .ok (.ldc2_w 179, 3) := by decide +kernel
theorem dX12_record_62 : decode cX12_record 62 = .ok (.invokestatic 181, 3) := by decide +kernel
theorem dX12_record_65 : decode cX12_record 65 = .ok (.ifCond .ne 5, 3) := by decide +kernel
theorem dX12_record_68 : decode cX12_record 68 = .ok (.iconst (-1), 1) := by decide +kernel
theorem dX12_record_69 : decode cX12_record 69 = .ok (.ireturn, 1) := by decide +kernel
theorem dX12_record_70 : decode cX12_record 70 = .ok (.iload 5, 2) := by decide +kernel
theorem dX12_record_72 : decode cX12_record 72 = .ok (.iconst 3, 1) := by decide +kernel
theorem dX12_record_73 : decode cX12_record 73 = .ok (.if_icmp .ne 19, 3) := by decide +kernel
theorem dX12_record_76 : decode cX12_record 76 = .ok (.iload 7, 2) := by decide +kernel
theorem dX12_record_78 : decode cX12_record 78 = .ok (.i2l, 1) := by decide +kernel
theorem dX12_record_79 : decode cX12_record 79 = .ok (.lconst 0, 1) := by decide +kernel
theorem dX12_record_80 : decode cX12_record 80 = .ok (.ldc2_w 179, 3) := by decide +kernel
theorem dX12_record_83 : decode cX12_record 83 = .ok (.invokestatic 181, 3) := by decide +kernel
theorem dX12_record_86 : decode cX12_record 86 = .ok (.ifCond .ne 14, 3) := by decide +kernel
theorem dX12_record_89 : decode cX12_record 89 = .ok (.goto 9, 3) := by decide +kernel
theorem dX12_record_92 : decode cX12_record 92 = .ok (.iload 7, 2) := by decide +kernel
theorem dX12_record_94 : decode cX12_record 94 = .ok (.iconst (-1), 1) := by decide +kernel
theorem dX12_record_95 : decode cX12_record 95 = .ok (.if_icmp .eq 5, 3) := by decide +kernel
theorem dX12_record_98 : decode cX12_record 98 = .ok (.iconst (-1), 1) := by decide +kernel
theorem dX12_record_99 : decode cX12_record 99 = .ok (.ireturn, 1) := by decide +kernel
theorem dX12_record_100 : decode cX12_record 100 = .ok (.aload_n 0, 1) := by decide +kernel
theorem dX12_record_101 : decode cX12_record 101 = .ok (.getfield 31, 3) := by decide +kernel
theorem dX12_record_104 : decode cX12_record 104 = .ok (.aload_n 0, 1) := by decide +kernel
theorem dX12_record_105 : decode cX12_record 105 = .ok (.getfield 197, 3) := by decide +kernel
theorem dX12_record_108 : decode cX12_record 108 = .ok (.iload_n 1, 1) := by decide +kernel
theorem dX12_record_109 : decode cX12_record 109 = .ok (.iastore, 1) := by decide +kernel
theorem dX12_record_110 : decode cX12_record 110 = .ok (.aload_n 0, 1) := by decide +kernel
theorem dX12_record_111 : decode cX12_record 111 = .ok (.getfield 34, 3) := by decide +kernel
theorem dX12_record_114 : decode cX12_record 114 = .ok (.aload_n 0, 1) := by decide +kernel
theorem dX12_record_115 : decode cX12_record 115 = .ok (.getfield 197, 3) := by decide +kernel
theorem dX12_record_118 : decode cX12_record 118 = .ok (.iload_n 2, 1) := by decide +kernel
theorem dX12_record_119 : decode cX12_record 119 = .ok (.iastore, 1) := by decide +kernel
theorem dX12_record_120 : decode cX12_record 120 = .ok (.aload_n 0, 1) := by decide +kernel
theorem dX12_record_121 : decode cX12_record 121 = .ok (.getfield 37, 3) := by decide +kernel
theorem dX12_record_124 : decode cX12_record 124 = .ok (.aload_n 0, 1) := by decide +kernel
theorem dX12_record_125 : decode cX12_record 125 = .ok (.getfield 197, 3) := by decide +kernel
theorem dX12_record_128 : decode cX12_record 128 = .ok (.iload_n 3, 1) := by decide +kernel
theorem dX12_record_129 : decode cX12_record 129 = .ok (.iastore, 1) := by decide +kernel
theorem dX12_record_130 : decode cX12_record 130 = .ok (.aload_n 0, 1) := by decide +kernel
theorem dX12_record_131 : decode cX12_record 131 = .ok (.getfield 40, 3) := by decide +kernel
theorem dX12_record_134 : decode cX12_record 134 = .ok (.aload_n 0, 1) := by decide +kernel
theorem dX12_record_135 : decode cX12_record 135 = .ok (.getfield 197, 3) := by decide +kernel
theorem dX12_record_138 : decode cX12_record 138 = .ok (.iload 4, 2) := by decide +kernel
theorem dX12_record_140 : decode cX12_record 140 = .ok (.iastore, 1) := by decide +kernel
theorem dX12_record_141 : decode cX12_record 141 = .ok (.aload_n 0, 1) := by decide +kernel
theorem dX12_record_142 : decode cX12_record 142 = .ok (.getfield 43, 3) := by decide +kernel
theorem dX12_record_145 : decode cX12_record 145 = .ok (.aload_n 0, 1) := by decide +kernel
theorem dX12_record_146 : decode cX12_record 146 = .ok (.getfield 197, 3) := by decide +kernel
theorem dX12_record_149 : decode cX12_record 149 = .ok (.iload 5, 2) := by decide +kernel
theorem dX12_record_151 : decode cX12_record 151 = .ok (.iastore, 1) := by decide +kernel
theorem dX12_record_152 : decode cX12_record 152 = .ok (.aload_n 0, 1) := by decide +kernel
theorem dX12_record_153 : decode cX12_record 153 = .ok (.getfield 46, 3) := by decide +kernel
theorem dX12_record_156 : decode cX12_record 156 = .ok (.aload_n 0, 1) := by decide +kernel
theorem dX12_record_157 : decode cX12_record 157 = .ok (.getfield 197, 3) := by decide +kernel
theorem dX12_record_160 : decode cX12_record 160 = .ok (.iload 6, 2) := by decide +kernel
theorem dX12_record_162 : decode cX12_record 162 = .ok (.iastore, 1) := by decide +kernel
theorem dX12_record_163 : decode cX12_record 163 = .ok (.aload_n 0, 1) := by decide +kernel
theorem dX12_record_164 : decode cX12_record 164 = .ok (.getfield 49, 3) := by decide +kernel
theorem dX12_record_167 : decode cX12_record 167 = .ok (.aload_n 0, 1) := by decide +kernel
theorem dX12_record_168 : decode cX12_record 168 = .ok (.getfield 197, 3) := by decide +kernel
theorem dX12_record_171 : decode cX12_record 171 = .ok (.iload 7, 2) := by decide +kernel
theorem dX12_record_173 : decode cX12_record 173 = .ok (.iastore, 1) := by decide +kernel
theorem dX12_record_174 : decode cX12_record 174 = .ok (.aload_n 0, 1) := by decide +kernel
theorem dX12_record_175 : decode cX12_record 175 = .ok (.getfield 52, 3) := by decide +kernel
theorem dX12_record_178 : decode cX12_record 178 = .ok (.aload_n 0, 1) := by decide +kernel
theorem dX12_record_179 : decode cX12_record 179 = .ok (.getfield 197, 3) := by decide +kernel
theorem dX12_record_182 : decode cX12_record 182 = .ok (.aload_n 0, 1) := by decide +kernel
theorem dX12_record_183 : decode cX12_record 183 = .ok (.getfield 185, 3) := by decide +kernel
theorem dX12_record_186 : decode cX12_record 186 = .ok (.iastore, 1) := by decide +kernel
theorem dX12_record_187 : decode cX12_record 187 = .ok (.aload_n 0, 1) := by decide +kernel
theorem dX12_record_188 : decode cX12_record 188 = .ok (.getfield 55, 3) := by decide +kernel
theorem dX12_record_191 : decode cX12_record 191 = .ok (.aload_n 0, 1) := by decide +kernel
theorem dX12_record_192 : decode cX12_record 192 = .ok (.getfield 197, 3) := by decide +kernel
theorem dX12_record_195 : decode cX12_record 195 = .ok (.iconst (-1), 1) := by decide +kernel
theorem dX12_record_196 : decode cX12_record 196 = .ok (.iastore, 1) := by decide +kernel
theorem dX12_record_197 : decode cX12_record 197 = .ok (.aload_n 0, 1) := by decide +kernel
theorem dX12_record_198 : decode cX12_record 198 = .ok (.dup, 1) := by decide +kernel
theorem dX12_record_199 : decode cX12_record 199 = .ok (.getfield 197, 3) := by decide +kernel
theorem dX12_record_202 : decode cX12_record 202 = .ok (.iconst 1, 1) := by decide +kernel
theorem dX12_record_203 : decode cX12_record 203 = .ok (.iadd, 1) := by decide +kernel
theorem dX12_record_204 : decode cX12_record 204 = .ok (.putfield 197, 3) := by decide +kernel
theorem dX12_record_207 : decode cX12_record 207 = .ok (.aload_n 0, 1) := by decide +kernel
theorem dX12_record_208 : decode cX12_record 208 = .ok (.getfield 197, 3) := by decide +kernel
theorem dX12_record_211 : decode cX12_record 211 = .ok (.iconst 1, 1) := by decide +kernel
theorem dX12_record_212 : decode cX12_record 212 = .ok (.isub, 1) := by decide +kernel
theorem dX12_record_213 : decode cX12_record 213 = .ok (.ireturn, 1) := by decide +kernel
set_option maxRecDepth 100000 in
set_option maxHeartbeats 4000000 in
theorem c_X12_record {h : ai_H} {S : Md} (hmd : md_at h S) (hs : 0 ≤ (S.1 5).toInt ∧ (S.1 5).toInt ≤ 400) (n s t o w e u : Int32) : ai_QM MX12_record [.ref 307, .int n, .int s, .int t, .int o, .int w, .int e, .int u] h (md_q h (some (.int (ms_rec S n s t o w e u))) (ms_recS S n s t o w e u)) := by
  refine qm_of (ls := [.ref 307, .int n, .int s, .int t, .int o, .int w, .int e, .int u]) (by decide) (by simp [ai_en, Value.category]) (by rfl) ?_
  refine wq (fun _ _ kk => rs_aload_n (pc := 0) dX12_record_0 rfl kk) ?_
  refine wq (fun _ _ kk => rs_getf (pc := 1) dX12_record_1 fX12_197 (md_lt hmd (by decide)) hmd.2.1 rfl kk) ?_
  refine wq (fun _ _ kk => rs_sipush (v := 400) (pc := 4) dX12_record_4 rfl kk) ?_
  refine wq_br (fun _ _ kt kf => rs_icmp_eq (tgt := 68) (pc := 7) dX12_record_7 rfl kt kf) (fun c_7 => ?_) (fun c_7 => ?_)
  · refine wq (fun _ _ kk => rs_iconst (v := -1) (pc := 68) dX12_record_68 rfl kk) ?_
    refine wq_ret ?_ (rs_iret (pc := 69) dX12_record_69 rfl)
    exact ⟨by rw [ms_rec, if_pos (by simp [c_7])], md_ext.rf, by rw [ms_recS, if_pos (by simp [c_7])]; exact hmd⟩
  · refine wq (fun _ _ kk => rs_aload_n (pc := 10) dX12_record_10 rfl kk) ?_
    refine wq (fun _ _ kk => rs_iload_n (pc := 11) dX12_record_11 rfl kk) ?_
    refine wq (fun _ _ kk => rs_callV (as := [_]) (pc := 12) dX12_record_12 mk_X12_isNight mlX12_210 in_X12_isNight se_X12_isNight rfl (md_lt hmd (by decide)) hmd.2.1 rfl rfl (Nat.le_of_ble_eq_true rfl) (c_X12_isNight hmd _) kk) ?_
    refine wq_br (fun _ _ kt kf => rs_if_eq (tgt := 68) (pc := 15) dX12_record_15 rfl kt kf) (fun c_15 => ?_) (fun c_15 => ?_)
    · refine wq (fun _ _ kk => rs_iconst (v := -1) (pc := 68) dX12_record_68 rfl kk) ?_
      refine wq_ret ?_ (rs_iret (pc := 69) dX12_record_69 rfl)
      exact ⟨by rw [ms_rec, if_pos (by simp [c_7, c_15])], md_ext.rf, by rw [ms_recS, if_pos (by simp [c_7, c_15])]; exact hmd⟩
    · refine wq (fun _ _ kk => rs_aload_n (pc := 18) dX12_record_18 rfl kk) ?_
      refine wq (fun _ _ kk => rs_iload_n (pc := 19) dX12_record_19 rfl kk) ?_
      refine wq (fun _ _ kk => rs_callV (as := [_]) (pc := 20) dX12_record_20 mk_X12_isStar mlX12_214 in_X12_isStar se_X12_isStar rfl (md_lt hmd (by decide)) hmd.2.1 rfl rfl (Nat.le_of_ble_eq_true rfl) (c_X12_isStar hmd _) kk) ?_
      refine wq_br (fun _ _ kt kf => rs_if_eq (tgt := 68) (pc := 23) dX12_record_23 rfl kt kf) (fun c_23 => ?_) (fun c_23 => ?_)
      · refine wq (fun _ _ kk => rs_iconst (v := -1) (pc := 68) dX12_record_68 rfl kk) ?_
        refine wq_ret ?_ (rs_iret (pc := 69) dX12_record_69 rfl)
        exact ⟨by rw [ms_rec, if_pos (by simp [c_7, c_15, c_23])], md_ext.rf, by rw [ms_recS, if_pos (by simp [c_7, c_15, c_23])]; exact hmd⟩
      · refine wq (fun _ _ kk => rs_iload_n (pc := 26) dX12_record_26 rfl kk) ?_
        refine wq (fun _ _ kk => rs_i2l (pc := 27) dX12_record_27 kk) ?_
        refine wq (fun _ _ kk => rs_lconst (v := 0) (pc := 28) dX12_record_28 rfl kk) ?_
        refine wq (fun _ _ kk => rs_ldc2 (pc := 29) dX12_record_29 cnX12_200 kk) ?_
        refine wq (fun _ _ kk => rs_callS (as := [_, _, _]) (pc := 32) dX12_record_32 mk_X12_in mlX12_181 st_X12_in rfl rfl (Nat.le_of_ble_eq_true rfl) (c_X12_in) kk) ?_
        refine wq_br (fun _ _ kt kf => rs_if_eq (tgt := 68) (pc := 35) dX12_record_35 rfl kt kf) (fun c_35 => ?_) (fun c_35 => ?_)
        · replace c_35 := inL_0 (a := t) (b := 0) (c := 4) rfl rfl rfl c_35
          refine wq (fun _ _ kk => rs_iconst (v := -1) (pc := 68) dX12_record_68 rfl kk) ?_
          refine wq_ret ?_ (rs_iret (pc := 69) dX12_record_69 rfl)
          exact ⟨by rw [ms_rec, if_pos (by simp [c_7, c_15, c_23, c_35])], md_ext.rf, by rw [ms_recS, if_pos (by simp [c_7, c_15, c_23, c_35])]; exact hmd⟩
        · replace c_35 := inL_1 (a := t) (b := 0) (c := 4) rfl rfl rfl c_35
          refine wq (fun _ _ kk => rs_aload_n (pc := 38) dX12_record_38 rfl kk) ?_
          refine wq (fun _ _ kk => rs_iload (pc := 39) dX12_record_39 rfl kk) ?_
          refine wq (fun _ _ kk => rs_callV (as := [_]) (pc := 41) dX12_record_41 mk_X12_isObserver mlX12_217 in_X12_isObserver se_X12_isObserver rfl (md_lt hmd (by decide)) hmd.2.1 rfl rfl (Nat.le_of_ble_eq_true rfl) (c_X12_isObserver hmd _) kk) ?_
          refine wq_br (fun _ _ kt kf => rs_if_eq (tgt := 68) (pc := 44) dX12_record_44 rfl kt kf) (fun c_44 => ?_) (fun c_44 => ?_)
          · refine wq (fun _ _ kk => rs_iconst (v := -1) (pc := 68) dX12_record_68 rfl kk) ?_
            refine wq_ret ?_ (rs_iret (pc := 69) dX12_record_69 rfl)
            exact ⟨by rw [ms_rec, if_pos (by simp [c_7, c_15, c_23, c_35, c_44])], md_ext.rf, by rw [ms_recS, if_pos (by simp [c_7, c_15, c_23, c_35, c_44])]; exact hmd⟩
          · refine wq (fun _ _ kk => rs_iload (pc := 47) dX12_record_47 rfl kk) ?_
            refine wq (fun _ _ kk => rs_callS (as := [_]) (pc := 49) dX12_record_49 mk_X12_isWay mlX12_220 st_X12_isWay rfl rfl (Nat.le_of_ble_eq_true rfl) (c_X12_isWay _) kk) ?_
            refine wq_br (fun _ _ kt kf => rs_if_eq (tgt := 68) (pc := 52) dX12_record_52 rfl kt kf) (fun c_52 => ?_) (fun c_52 => ?_)
            · refine wq (fun _ _ kk => rs_iconst (v := -1) (pc := 68) dX12_record_68 rfl kk) ?_
              refine wq_ret ?_ (rs_iret (pc := 69) dX12_record_69 rfl)
              exact ⟨by rw [ms_rec, if_pos (by simp [c_7, c_15, c_23, c_35, c_44, c_52])], md_ext.rf, by rw [ms_recS, if_pos (by simp [c_7, c_15, c_23, c_35, c_44, c_52])]; exact hmd⟩
            · refine wq (fun _ _ kk => rs_iload (pc := 55) dX12_record_55 rfl kk) ?_
              refine wq (fun _ _ kk => rs_i2l (pc := 57) dX12_record_57 kk) ?_
              refine wq (fun _ _ kk => rs_lconst (v := 0) (pc := 58) dX12_record_58 rfl kk) ?_
              refine wq (fun _ _ kk => rs_ldc2 (pc := 59) dX12_record_59 cnX12_179 kk) ?_
              refine wq (fun _ _ kk => rs_callS (as := [_, _, _]) (pc := 62) dX12_record_62 mk_X12_in mlX12_181 st_X12_in rfl rfl (Nat.le_of_ble_eq_true rfl) (c_X12_in) kk) ?_
              refine wq_bn (fun _ _ kt kf => rs_if_ne (tgt := 70) (pc := 65) dX12_record_65 rfl kt kf) (fun c_65 => ?_) (fun c_65 => ?_)
              · replace c_65 := inL_1 (a := e) (b := 0) (c := 9999) rfl rfl rfl c_65
                refine wq (fun _ _ kk => rs_iload (pc := 70) dX12_record_70 rfl kk) ?_
                refine wq (fun _ _ kk => rs_iconst (v := 3) (pc := 72) dX12_record_72 rfl kk) ?_
                refine wq_bn (fun _ _ kt kf => rs_icmp_ne (tgt := 92) (pc := 73) dX12_record_73 rfl kt kf) (fun c_73 => ?_) (fun c_73 => ?_)
                · refine wq (fun _ _ kk => rs_iload (pc := 92) dX12_record_92 rfl kk) ?_
                  refine wq (fun _ _ kk => rs_iconst (v := -1) (pc := 94) dX12_record_94 rfl kk) ?_
                  refine wq_br (fun _ _ kt kf => rs_icmp_eq (tgt := 100) (pc := 95) dX12_record_95 rfl kt kf) (fun c_95 => ?_) (fun c_95 => ?_)
                  · have told : ¬ xs_told w u = 0 := by rw [xs_told, if_neg c_73, if_pos c_95]; decide
                    clear c_95 c_73
                    have hbd : vp_in (S.1 5) 400 := vp_in_iff.mpr ⟨hs.1, by have := i32_neN (n := 400) c_7 rfl; omega⟩
                    have nb : ¬ (S.1 5 = 400 ∨ bi_in n 0 (S.1 4 - 1) = 0 ∨ bi_in s 0 (S.1 3 - 1) = 0 ∨ bi_in t 0 4 = 0 ∨ bi_in o 0 (S.1 2 - 1) = 0 ∨ bi_in w 0 4 = 0 ∨ bi_in e 0 9999 = 0 ∨ xs_told w u = 0) := by simp [c_7, c_15, c_23, c_35, c_44, c_52, c_65, told]
                    refine wq (fun _ _ kk => rs_aload_n (pc := 100) dX12_record_100 rfl kk) ?_
                    refine wq (fun _ _ kk => rs_getf (pc := 101) dX12_record_101 fX12_31 (md_lt hmd (by decide)) hmd.2.1 rfl kk) ?_
                    refine wq (fun _ _ kk => rs_aload_n (pc := 104) dX12_record_104 rfl kk) ?_
                    refine wq (fun _ _ kk => rs_getf (pc := 105) dX12_record_105 fX12_197 (md_lt hmd (by decide)) hmd.2.1 rfl kk) ?_
                    refine wq (fun _ _ kk => rs_iload_n (pc := 108) dX12_record_108 rfl kk) ?_
                    refine wq (fun _ _ kk => rs_iast (pc := 109) dX12_record_109 (md_lt hmd (by decide)) (hmd.2.2 7 _ rfl) hbd kk) ?_
                    refine wq_gen (fun h_1 e_1 => ?_)
                    obtain ⟨m_1, s_1, g_1, o_1⟩ := ai_e1 e_1
                    replace hmd := md_at_ai (d := 7) rfl (by decide) hmd m_1 g_1 o_1
                    have E_1 := (md_ext.rf).trans (md_ext_of m_1 s_1 o_1 (by decide))
                    refine wq (fun _ _ kk => rs_aload_n (pc := 110) dX12_record_110 rfl kk) ?_
                    refine wq (fun _ _ kk => rs_getf (pc := 111) dX12_record_111 fX12_34 (md_lt hmd (by decide)) hmd.2.1 rfl kk) ?_
                    refine wq (fun _ _ kk => rs_aload_n (pc := 114) dX12_record_114 rfl kk) ?_
                    refine wq (fun _ _ kk => rs_getf (pc := 115) dX12_record_115 fX12_197 (md_lt hmd (by decide)) hmd.2.1 rfl kk) ?_
                    refine wq (fun _ _ kk => rs_iload_n (pc := 118) dX12_record_118 rfl kk) ?_
                    refine wq (fun _ _ kk => rs_iast (pc := 119) dX12_record_119 (md_lt hmd (by decide)) (hmd.2.2 8 _ rfl) hbd kk) ?_
                    refine wq_gen (fun h_2 e_2 => ?_)
                    obtain ⟨m_2, s_2, g_2, o_2⟩ := ai_e1 e_2
                    replace hmd := md_at_ai (d := 8) rfl (by decide) hmd m_2 g_2 o_2
                    have E_2 := (E_1).trans (md_ext_of m_2 s_2 o_2 (by decide))
                    refine wq (fun _ _ kk => rs_aload_n (pc := 120) dX12_record_120 rfl kk) ?_
                    refine wq (fun _ _ kk => rs_getf (pc := 121) dX12_record_121 fX12_37 (md_lt hmd (by decide)) hmd.2.1 rfl kk) ?_
                    refine wq (fun _ _ kk => rs_aload_n (pc := 124) dX12_record_124 rfl kk) ?_
                    refine wq (fun _ _ kk => rs_getf (pc := 125) dX12_record_125 fX12_197 (md_lt hmd (by decide)) hmd.2.1 rfl kk) ?_
                    refine wq (fun _ _ kk => rs_iload_n (pc := 128) dX12_record_128 rfl kk) ?_
                    refine wq (fun _ _ kk => rs_iast (pc := 129) dX12_record_129 (md_lt hmd (by decide)) (hmd.2.2 9 _ rfl) hbd kk) ?_
                    refine wq_gen (fun h_3 e_3 => ?_)
                    obtain ⟨m_3, s_3, g_3, o_3⟩ := ai_e1 e_3
                    replace hmd := md_at_ai (d := 9) rfl (by decide) hmd m_3 g_3 o_3
                    have E_3 := (E_2).trans (md_ext_of m_3 s_3 o_3 (by decide))
                    refine wq (fun _ _ kk => rs_aload_n (pc := 130) dX12_record_130 rfl kk) ?_
                    refine wq (fun _ _ kk => rs_getf (pc := 131) dX12_record_131 fX12_40 (md_lt hmd (by decide)) hmd.2.1 rfl kk) ?_
                    refine wq (fun _ _ kk => rs_aload_n (pc := 134) dX12_record_134 rfl kk) ?_
                    refine wq (fun _ _ kk => rs_getf (pc := 135) dX12_record_135 fX12_197 (md_lt hmd (by decide)) hmd.2.1 rfl kk) ?_
                    refine wq (fun _ _ kk => rs_iload (pc := 138) dX12_record_138 rfl kk) ?_
                    refine wq (fun _ _ kk => rs_iast (pc := 140) dX12_record_140 (md_lt hmd (by decide)) (hmd.2.2 10 _ rfl) hbd kk) ?_
                    refine wq_gen (fun h_4 e_4 => ?_)
                    obtain ⟨m_4, s_4, g_4, o_4⟩ := ai_e1 e_4
                    replace hmd := md_at_ai (d := 10) rfl (by decide) hmd m_4 g_4 o_4
                    have E_4 := (E_3).trans (md_ext_of m_4 s_4 o_4 (by decide))
                    refine wq (fun _ _ kk => rs_aload_n (pc := 141) dX12_record_141 rfl kk) ?_
                    refine wq (fun _ _ kk => rs_getf (pc := 142) dX12_record_142 fX12_43 (md_lt hmd (by decide)) hmd.2.1 rfl kk) ?_
                    refine wq (fun _ _ kk => rs_aload_n (pc := 145) dX12_record_145 rfl kk) ?_
                    refine wq (fun _ _ kk => rs_getf (pc := 146) dX12_record_146 fX12_197 (md_lt hmd (by decide)) hmd.2.1 rfl kk) ?_
                    refine wq (fun _ _ kk => rs_iload (pc := 149) dX12_record_149 rfl kk) ?_
                    refine wq (fun _ _ kk => rs_iast (pc := 151) dX12_record_151 (md_lt hmd (by decide)) (hmd.2.2 11 _ rfl) hbd kk) ?_
                    refine wq_gen (fun h_5 e_5 => ?_)
                    obtain ⟨m_5, s_5, g_5, o_5⟩ := ai_e1 e_5
                    replace hmd := md_at_ai (d := 11) rfl (by decide) hmd m_5 g_5 o_5
                    have E_5 := (E_4).trans (md_ext_of m_5 s_5 o_5 (by decide))
                    refine wq (fun _ _ kk => rs_aload_n (pc := 152) dX12_record_152 rfl kk) ?_
                    refine wq (fun _ _ kk => rs_getf (pc := 153) dX12_record_153 fX12_46 (md_lt hmd (by decide)) hmd.2.1 rfl kk) ?_
                    refine wq (fun _ _ kk => rs_aload_n (pc := 156) dX12_record_156 rfl kk) ?_
                    refine wq (fun _ _ kk => rs_getf (pc := 157) dX12_record_157 fX12_197 (md_lt hmd (by decide)) hmd.2.1 rfl kk) ?_
                    refine wq (fun _ _ kk => rs_iload (pc := 160) dX12_record_160 rfl kk) ?_
                    refine wq (fun _ _ kk => rs_iast (pc := 162) dX12_record_162 (md_lt hmd (by decide)) (hmd.2.2 12 _ rfl) hbd kk) ?_
                    refine wq_gen (fun h_6 e_6 => ?_)
                    obtain ⟨m_6, s_6, g_6, o_6⟩ := ai_e1 e_6
                    replace hmd := md_at_ai (d := 12) rfl (by decide) hmd m_6 g_6 o_6
                    have E_6 := (E_5).trans (md_ext_of m_6 s_6 o_6 (by decide))
                    refine wq (fun _ _ kk => rs_aload_n (pc := 163) dX12_record_163 rfl kk) ?_
                    refine wq (fun _ _ kk => rs_getf (pc := 164) dX12_record_164 fX12_49 (md_lt hmd (by decide)) hmd.2.1 rfl kk) ?_
                    refine wq (fun _ _ kk => rs_aload_n (pc := 167) dX12_record_167 rfl kk) ?_
                    refine wq (fun _ _ kk => rs_getf (pc := 168) dX12_record_168 fX12_197 (md_lt hmd (by decide)) hmd.2.1 rfl kk) ?_
                    refine wq (fun _ _ kk => rs_iload (pc := 171) dX12_record_171 rfl kk) ?_
                    refine wq (fun _ _ kk => rs_iast (pc := 173) dX12_record_173 (md_lt hmd (by decide)) (hmd.2.2 13 _ rfl) hbd kk) ?_
                    refine wq_gen (fun h_7 e_7 => ?_)
                    obtain ⟨m_7, s_7, g_7, o_7⟩ := ai_e1 e_7
                    replace hmd := md_at_ai (d := 13) rfl (by decide) hmd m_7 g_7 o_7
                    have E_7 := (E_6).trans (md_ext_of m_7 s_7 o_7 (by decide))
                    refine wq (fun _ _ kk => rs_aload_n (pc := 174) dX12_record_174 rfl kk) ?_
                    refine wq (fun _ _ kk => rs_getf (pc := 175) dX12_record_175 fX12_52 (md_lt hmd (by decide)) hmd.2.1 rfl kk) ?_
                    refine wq (fun _ _ kk => rs_aload_n (pc := 178) dX12_record_178 rfl kk) ?_
                    refine wq (fun _ _ kk => rs_getf (pc := 179) dX12_record_179 fX12_197 (md_lt hmd (by decide)) hmd.2.1 rfl kk) ?_
                    refine wq (fun _ _ kk => rs_aload_n (pc := 182) dX12_record_182 rfl kk) ?_
                    refine wq (fun _ _ kk => rs_getf (pc := 183) dX12_record_183 fX12_185 (md_lt hmd (by decide)) hmd.2.1 rfl kk) ?_
                    refine wq (fun _ _ kk => rs_iast (pc := 186) dX12_record_186 (md_lt hmd (by decide)) (hmd.2.2 14 _ rfl) hbd kk) ?_
                    refine wq_gen (fun h_8 e_8 => ?_)
                    obtain ⟨m_8, s_8, g_8, o_8⟩ := ai_e1 e_8
                    replace hmd := md_at_ai (d := 14) rfl (by decide) hmd m_8 g_8 o_8
                    have E_8 := (E_7).trans (md_ext_of m_8 s_8 o_8 (by decide))
                    refine wq (fun _ _ kk => rs_aload_n (pc := 187) dX12_record_187 rfl kk) ?_
                    refine wq (fun _ _ kk => rs_getf (pc := 188) dX12_record_188 fX12_55 (md_lt hmd (by decide)) hmd.2.1 rfl kk) ?_
                    refine wq (fun _ _ kk => rs_aload_n (pc := 191) dX12_record_191 rfl kk) ?_
                    refine wq (fun _ _ kk => rs_getf (pc := 192) dX12_record_192 fX12_197 (md_lt hmd (by decide)) hmd.2.1 rfl kk) ?_
                    refine wq (fun _ _ kk => rs_iconst (v := -1) (pc := 195) dX12_record_195 rfl kk) ?_
                    refine wq (fun _ _ kk => rs_iast (pc := 196) dX12_record_196 (md_lt hmd (by decide)) (hmd.2.2 15 _ rfl) hbd kk) ?_
                    refine wq_gen (fun h_9 e_9 => ?_)
                    obtain ⟨m_9, s_9, g_9, o_9⟩ := ai_e1 e_9
                    replace hmd := md_at_ai (d := 15) rfl (by decide) hmd m_9 g_9 o_9
                    have E_9 := (E_8).trans (md_ext_of m_9 s_9 o_9 (by decide))
                    refine wq (fun _ _ kk => rs_aload_n (pc := 197) dX12_record_197 rfl kk) ?_
                    refine wq (fun _ _ kk => rs_dup (pc := 198) dX12_record_198 rfl kk) ?_
                    refine wq (fun _ _ kk => rs_getf (pc := 199) dX12_record_199 fX12_197 (md_lt hmd (by decide)) hmd.2.1 rfl kk) ?_
                    refine wq (fun _ _ kk => rs_iconst (v := 1) (pc := 202) dX12_record_202 rfl kk) ?_
                    refine wq (fun _ _ kk => rs_iadd (pc := 203) dX12_record_203 kk) ?_
                    refine wq (fun _ _ kk => rs_putf (pc := 204) dX12_record_204 fX12_197 (md_lt hmd (by decide)) hmd.2.1 rfl (Nat.le_of_ble_eq_true rfl) kk) ?_
                    refine wq_gen (fun h_10 e_10 => ?_)
                    obtain ⟨m_10, s_10, g_10, o_10⟩ := ai_e1 e_10
                    replace hmd := md_at_si (k := 5) hmd m_10 g_10 o_10 rfl
                    have E_10 := (E_9).trans (md_ext_of m_10 s_10 o_10 (by decide))
                    refine wq (fun _ _ kk => rs_aload_n (pc := 207) dX12_record_207 rfl kk) ?_
                    refine wq (fun _ _ kk => rs_getf (pc := 208) dX12_record_208 fX12_197 (md_lt hmd (by decide)) hmd.2.1 rfl kk) ?_
                    refine wq (fun _ _ kk => rs_iconst (v := 1) (pc := 211) dX12_record_211 rfl kk) ?_
                    refine wq (fun _ _ kk => rs_isub (pc := 212) dX12_record_212 kk) ?_
                    refine wq_ret ?_ (rs_iret (pc := 213) dX12_record_213 rfl)
                    refine ⟨?_, E_10, ?_⟩
                    · rw [ms_rec, if_neg nb]; rfl
                    · rw [ms_recS, if_neg nb]; exact hmd
                  · have told : xs_told w u = 0 := by rw [xs_told, if_neg c_73, if_neg c_95]
                    clear c_95 c_73
                    refine wq (fun _ _ kk => rs_iconst (v := -1) (pc := 98) dX12_record_98 rfl kk) ?_
                    refine wq_ret ?_ (rs_iret (pc := 99) dX12_record_99 rfl)
                    exact ⟨by rw [ms_rec, if_pos (by simp [told])], md_ext.rf, by rw [ms_recS, if_pos (by simp [told])]; exact hmd⟩
                · refine wq (fun _ _ kk => rs_iload (pc := 76) dX12_record_76 rfl kk) ?_
                  refine wq (fun _ _ kk => rs_i2l (pc := 78) dX12_record_78 kk) ?_
                  refine wq (fun _ _ kk => rs_lconst (v := 0) (pc := 79) dX12_record_79 rfl kk) ?_
                  refine wq (fun _ _ kk => rs_ldc2 (pc := 80) dX12_record_80 cnX12_179 kk) ?_
                  refine wq (fun _ _ kk => rs_callS (as := [_, _, _]) (pc := 83) dX12_record_83 mk_X12_in mlX12_181 st_X12_in rfl rfl (Nat.le_of_ble_eq_true rfl) (c_X12_in) kk) ?_
                  refine wq_bn (fun _ _ kt kf => rs_if_ne (tgt := 100) (pc := 86) dX12_record_86 rfl kt kf) (fun c_86 => ?_) (fun c_86 => ?_)
                  · replace c_86 := inL_1 (a := u) (b := 0) (c := 9999) rfl rfl rfl c_86
                    have told : ¬ xs_told w u = 0 := by rw [xs_told, if_pos c_73]; exact c_86
                    clear c_86 c_73
                    have hbd : vp_in (S.1 5) 400 := vp_in_iff.mpr ⟨hs.1, by have := i32_neN (n := 400) c_7 rfl; omega⟩
                    have nb : ¬ (S.1 5 = 400 ∨ bi_in n 0 (S.1 4 - 1) = 0 ∨ bi_in s 0 (S.1 3 - 1) = 0 ∨ bi_in t 0 4 = 0 ∨ bi_in o 0 (S.1 2 - 1) = 0 ∨ bi_in w 0 4 = 0 ∨ bi_in e 0 9999 = 0 ∨ xs_told w u = 0) := by simp [c_7, c_15, c_23, c_35, c_44, c_52, c_65, told]
                    refine wq (fun _ _ kk => rs_aload_n (pc := 100) dX12_record_100 rfl kk) ?_
                    refine wq (fun _ _ kk => rs_getf (pc := 101) dX12_record_101 fX12_31 (md_lt hmd (by decide)) hmd.2.1 rfl kk) ?_
                    refine wq (fun _ _ kk => rs_aload_n (pc := 104) dX12_record_104 rfl kk) ?_
                    refine wq (fun _ _ kk => rs_getf (pc := 105) dX12_record_105 fX12_197 (md_lt hmd (by decide)) hmd.2.1 rfl kk) ?_
                    refine wq (fun _ _ kk => rs_iload_n (pc := 108) dX12_record_108 rfl kk) ?_
                    refine wq (fun _ _ kk => rs_iast (pc := 109) dX12_record_109 (md_lt hmd (by decide)) (hmd.2.2 7 _ rfl) hbd kk) ?_
                    refine wq_gen (fun h_11 e_11 => ?_)
                    obtain ⟨m_11, s_11, g_11, o_11⟩ := ai_e1 e_11
                    replace hmd := md_at_ai (d := 7) rfl (by decide) hmd m_11 g_11 o_11
                    have E_11 := (md_ext.rf).trans (md_ext_of m_11 s_11 o_11 (by decide))
                    refine wq (fun _ _ kk => rs_aload_n (pc := 110) dX12_record_110 rfl kk) ?_
                    refine wq (fun _ _ kk => rs_getf (pc := 111) dX12_record_111 fX12_34 (md_lt hmd (by decide)) hmd.2.1 rfl kk) ?_
                    refine wq (fun _ _ kk => rs_aload_n (pc := 114) dX12_record_114 rfl kk) ?_
                    refine wq (fun _ _ kk => rs_getf (pc := 115) dX12_record_115 fX12_197 (md_lt hmd (by decide)) hmd.2.1 rfl kk) ?_
                    refine wq (fun _ _ kk => rs_iload_n (pc := 118) dX12_record_118 rfl kk) ?_
                    refine wq (fun _ _ kk => rs_iast (pc := 119) dX12_record_119 (md_lt hmd (by decide)) (hmd.2.2 8 _ rfl) hbd kk) ?_
                    refine wq_gen (fun h_12 e_12 => ?_)
                    obtain ⟨m_12, s_12, g_12, o_12⟩ := ai_e1 e_12
                    replace hmd := md_at_ai (d := 8) rfl (by decide) hmd m_12 g_12 o_12
                    have E_12 := (E_11).trans (md_ext_of m_12 s_12 o_12 (by decide))
                    refine wq (fun _ _ kk => rs_aload_n (pc := 120) dX12_record_120 rfl kk) ?_
                    refine wq (fun _ _ kk => rs_getf (pc := 121) dX12_record_121 fX12_37 (md_lt hmd (by decide)) hmd.2.1 rfl kk) ?_
                    refine wq (fun _ _ kk => rs_aload_n (pc := 124) dX12_record_124 rfl kk) ?_
                    refine wq (fun _ _ kk => rs_getf (pc := 125) dX12_record_125 fX12_197 (md_lt hmd (by decide)) hmd.2.1 rfl kk) ?_
                    refine wq (fun _ _ kk => rs_iload_n (pc := 128) dX12_record_128 rfl kk) ?_
                    refine wq (fun _ _ kk => rs_iast (pc := 129) dX12_record_129 (md_lt hmd (by decide)) (hmd.2.2 9 _ rfl) hbd kk) ?_
                    refine wq_gen (fun h_13 e_13 => ?_)
                    obtain ⟨m_13, s_13, g_13, o_13⟩ := ai_e1 e_13
                    replace hmd := md_at_ai (d := 9) rfl (by decide) hmd m_13 g_13 o_13
                    have E_13 := (E_12).trans (md_ext_of m_13 s_13 o_13 (by decide))
                    refine wq (fun _ _ kk => rs_aload_n (pc := 130) dX12_record_130 rfl kk) ?_
                    refine wq (fun _ _ kk => rs_getf (pc := 131) dX12_record_131 fX12_40 (md_lt hmd (by decide)) hmd.2.1 rfl kk) ?_
                    refine wq (fun _ _ kk => rs_aload_n (pc := 134) dX12_record_134 rfl kk) ?_
                    refine wq (fun _ _ kk => rs_getf (pc := 135) dX12_record_135 fX12_197 (md_lt hmd (by decide)) hmd.2.1 rfl kk) ?_
                    refine wq (fun _ _ kk => rs_iload (pc := 138) dX12_record_138 rfl kk) ?_
                    refine wq (fun _ _ kk => rs_iast (pc := 140) dX12_record_140 (md_lt hmd (by decide)) (hmd.2.2 10 _ rfl) hbd kk) ?_
                    refine wq_gen (fun h_14 e_14 => ?_)
                    obtain ⟨m_14, s_14, g_14, o_14⟩ := ai_e1 e_14
                    replace hmd := md_at_ai (d := 10) rfl (by decide) hmd m_14 g_14 o_14
                    have E_14 := (E_13).trans (md_ext_of m_14 s_14 o_14 (by decide))
                    refine wq (fun _ _ kk => rs_aload_n (pc := 141) dX12_record_141 rfl kk) ?_
                    refine wq (fun _ _ kk => rs_getf (pc := 142) dX12_record_142 fX12_43 (md_lt hmd (by decide)) hmd.2.1 rfl kk) ?_
                    refine wq (fun _ _ kk => rs_aload_n (pc := 145) dX12_record_145 rfl kk) ?_
                    refine wq (fun _ _ kk => rs_getf (pc := 146) dX12_record_146 fX12_197 (md_lt hmd (by decide)) hmd.2.1 rfl kk) ?_
                    refine wq (fun _ _ kk => rs_iload (pc := 149) dX12_record_149 rfl kk) ?_
                    refine wq (fun _ _ kk => rs_iast (pc := 151) dX12_record_151 (md_lt hmd (by decide)) (hmd.2.2 11 _ rfl) hbd kk) ?_
                    refine wq_gen (fun h_15 e_15 => ?_)
                    obtain ⟨m_15, s_15, g_15, o_15⟩ := ai_e1 e_15
                    replace hmd := md_at_ai (d := 11) rfl (by decide) hmd m_15 g_15 o_15
                    have E_15 := (E_14).trans (md_ext_of m_15 s_15 o_15 (by decide))
                    refine wq (fun _ _ kk => rs_aload_n (pc := 152) dX12_record_152 rfl kk) ?_
                    refine wq (fun _ _ kk => rs_getf (pc := 153) dX12_record_153 fX12_46 (md_lt hmd (by decide)) hmd.2.1 rfl kk) ?_
                    refine wq (fun _ _ kk => rs_aload_n (pc := 156) dX12_record_156 rfl kk) ?_
                    refine wq (fun _ _ kk => rs_getf (pc := 157) dX12_record_157 fX12_197 (md_lt hmd (by decide)) hmd.2.1 rfl kk) ?_
                    refine wq (fun _ _ kk => rs_iload (pc := 160) dX12_record_160 rfl kk) ?_
                    refine wq (fun _ _ kk => rs_iast (pc := 162) dX12_record_162 (md_lt hmd (by decide)) (hmd.2.2 12 _ rfl) hbd kk) ?_
                    refine wq_gen (fun h_16 e_16 => ?_)
                    obtain ⟨m_16, s_16, g_16, o_16⟩ := ai_e1 e_16
                    replace hmd := md_at_ai (d := 12) rfl (by decide) hmd m_16 g_16 o_16
                    have E_16 := (E_15).trans (md_ext_of m_16 s_16 o_16 (by decide))
                    refine wq (fun _ _ kk => rs_aload_n (pc := 163) dX12_record_163 rfl kk) ?_
                    refine wq (fun _ _ kk => rs_getf (pc := 164) dX12_record_164 fX12_49 (md_lt hmd (by decide)) hmd.2.1 rfl kk) ?_
                    refine wq (fun _ _ kk => rs_aload_n (pc := 167) dX12_record_167 rfl kk) ?_
                    refine wq (fun _ _ kk => rs_getf (pc := 168) dX12_record_168 fX12_197 (md_lt hmd (by decide)) hmd.2.1 rfl kk) ?_
                    refine wq (fun _ _ kk => rs_iload (pc := 171) dX12_record_171 rfl kk) ?_
                    refine wq (fun _ _ kk => rs_iast (pc := 173) dX12_record_173 (md_lt hmd (by decide)) (hmd.2.2 13 _ rfl) hbd kk) ?_
                    refine wq_gen (fun h_17 e_17 => ?_)
                    obtain ⟨m_17, s_17, g_17, o_17⟩ := ai_e1 e_17
                    replace hmd := md_at_ai (d := 13) rfl (by decide) hmd m_17 g_17 o_17
                    have E_17 := (E_16).trans (md_ext_of m_17 s_17 o_17 (by decide))
                    refine wq (fun _ _ kk => rs_aload_n (pc := 174) dX12_record_174 rfl kk) ?_
                    refine wq (fun _ _ kk => rs_getf (pc := 175) dX12_record_175 fX12_52 (md_lt hmd (by decide)) hmd.2.1 rfl kk) ?_
                    refine wq (fun _ _ kk => rs_aload_n (pc := 178) dX12_record_178 rfl kk) ?_
                    refine wq (fun _ _ kk => rs_getf (pc := 179) dX12_record_179 fX12_197 (md_lt hmd (by decide)) hmd.2.1 rfl kk) ?_
                    refine wq (fun _ _ kk => rs_aload_n (pc := 182) dX12_record_182 rfl kk) ?_
                    refine wq (fun _ _ kk => rs_getf (pc := 183) dX12_record_183 fX12_185 (md_lt hmd (by decide)) hmd.2.1 rfl kk) ?_
                    refine wq (fun _ _ kk => rs_iast (pc := 186) dX12_record_186 (md_lt hmd (by decide)) (hmd.2.2 14 _ rfl) hbd kk) ?_
                    refine wq_gen (fun h_18 e_18 => ?_)
                    obtain ⟨m_18, s_18, g_18, o_18⟩ := ai_e1 e_18
                    replace hmd := md_at_ai (d := 14) rfl (by decide) hmd m_18 g_18 o_18
                    have E_18 := (E_17).trans (md_ext_of m_18 s_18 o_18 (by decide))
                    refine wq (fun _ _ kk => rs_aload_n (pc := 187) dX12_record_187 rfl kk) ?_
                    refine wq (fun _ _ kk => rs_getf (pc := 188) dX12_record_188 fX12_55 (md_lt hmd (by decide)) hmd.2.1 rfl kk) ?_
                    refine wq (fun _ _ kk => rs_aload_n (pc := 191) dX12_record_191 rfl kk) ?_
                    refine wq (fun _ _ kk => rs_getf (pc := 192) dX12_record_192 fX12_197 (md_lt hmd (by decide)) hmd.2.1 rfl kk) ?_
                    refine wq (fun _ _ kk => rs_iconst (v := -1) (pc := 195) dX12_record_195 rfl kk) ?_
                    refine wq (fun _ _ kk => rs_iast (pc := 196) dX12_record_196 (md_lt hmd (by decide)) (hmd.2.2 15 _ rfl) hbd kk) ?_
                    refine wq_gen (fun h_19 e_19 => ?_)
                    obtain ⟨m_19, s_19, g_19, o_19⟩ := ai_e1 e_19
                    replace hmd := md_at_ai (d := 15) rfl (by decide) hmd m_19 g_19 o_19
                    have E_19 := (E_18).trans (md_ext_of m_19 s_19 o_19 (by decide))
                    refine wq (fun _ _ kk => rs_aload_n (pc := 197) dX12_record_197 rfl kk) ?_
                    refine wq (fun _ _ kk => rs_dup (pc := 198) dX12_record_198 rfl kk) ?_
                    refine wq (fun _ _ kk => rs_getf (pc := 199) dX12_record_199 fX12_197 (md_lt hmd (by decide)) hmd.2.1 rfl kk) ?_
                    refine wq (fun _ _ kk => rs_iconst (v := 1) (pc := 202) dX12_record_202 rfl kk) ?_
                    refine wq (fun _ _ kk => rs_iadd (pc := 203) dX12_record_203 kk) ?_
                    refine wq (fun _ _ kk => rs_putf (pc := 204) dX12_record_204 fX12_197 (md_lt hmd (by decide)) hmd.2.1 rfl (Nat.le_of_ble_eq_true rfl) kk) ?_
                    refine wq_gen (fun h_20 e_20 => ?_)
                    obtain ⟨m_20, s_20, g_20, o_20⟩ := ai_e1 e_20
                    replace hmd := md_at_si (k := 5) hmd m_20 g_20 o_20 rfl
                    have E_20 := (E_19).trans (md_ext_of m_20 s_20 o_20 (by decide))
                    refine wq (fun _ _ kk => rs_aload_n (pc := 207) dX12_record_207 rfl kk) ?_
                    refine wq (fun _ _ kk => rs_getf (pc := 208) dX12_record_208 fX12_197 (md_lt hmd (by decide)) hmd.2.1 rfl kk) ?_
                    refine wq (fun _ _ kk => rs_iconst (v := 1) (pc := 211) dX12_record_211 rfl kk) ?_
                    refine wq (fun _ _ kk => rs_isub (pc := 212) dX12_record_212 kk) ?_
                    refine wq_ret ?_ (rs_iret (pc := 213) dX12_record_213 rfl)
                    refine ⟨?_, E_20, ?_⟩
                    · rw [ms_rec, if_neg nb]; rfl
                    · rw [ms_recS, if_neg nb]; exact hmd
                  · replace c_86 := inL_0 (a := u) (b := 0) (c := 9999) rfl rfl rfl c_86
                    have told : xs_told w u = 0 := by rw [xs_told, if_pos c_73]; exact c_86
                    clear c_86 c_73
                    refine wq (fun _ _ kk => rs_goto (tgt := 98) (pc := 89) dX12_record_89 rfl kk) ?_
                    refine wq (fun _ _ kk => rs_iconst (v := -1) (pc := 98) dX12_record_98 rfl kk) ?_
                    refine wq_ret ?_ (rs_iret (pc := 99) dX12_record_99 rfl)
                    exact ⟨by rw [ms_rec, if_pos (by simp [told])], md_ext.rf, by rw [ms_recS, if_pos (by simp [told])]; exact hmd⟩
              · replace c_65 := inL_0 (a := e) (b := 0) (c := 9999) rfl rfl rfl c_65
                refine wq (fun _ _ kk => rs_iconst (v := -1) (pc := 68) dX12_record_68 rfl kk) ?_
                refine wq_ret ?_ (rs_iret (pc := 69) dX12_record_69 rfl)
                exact ⟨by rw [ms_rec, if_pos (by simp [c_7, c_15, c_23, c_35, c_44, c_52, c_65])], md_ext.rf, by rw [ms_recS, if_pos (by simp [c_7, c_15, c_23, c_35, c_44, c_52, c_65])]; exact hmd⟩
def ms_jour (S : Md) (a b c : Int32) : Int32 := if S.1 60 = 9 ∨ bi_in a 0 (S.1 2 - 1) = 0 ∨ bi_in b 0 (S.1 2 - 1) = 0 ∨ a = b ∨ bi_in c 1 99 = 0 then -1 else S.1 60 + 1 - 1
def ms_jourS (S : Md) (a b c : Int32) : Md := if S.1 60 = 9 ∨ bi_in a 0 (S.1 2 - 1) = 0 ∨ bi_in b 0 (S.1 2 - 1) = 0 ∨ a = b ∨ bi_in c 1 99 = 0 then S else (md_si (md_ai (md_ai (md_ai S 61 (upd (S.2.2.1 61) (S.1 60).toNatClampNeg a)) 62 (upd (S.2.2.1 62) (S.1 60).toNatClampNeg b)) 63 (upd (S.2.2.1 63) (S.1 60).toNatClampNeg c)) 60 (S.1 60 + 1))
theorem dX12_journey_0 : decode cX12_journey 0 = .ok (.aload_n 0, 1) := by decide +kernel
theorem dX12_journey_1 : decode cX12_journey 1 = .ok (.getfield 468, 3) := by decide +kernel
theorem dX12_journey_4 : decode cX12_journey 4 = .ok (.bipush 9, 2) := by decide +kernel
theorem dX12_journey_6 : decode cX12_journey 6 = .ok (.if_icmp .eq 36, 3) := by decide +kernel
theorem dX12_journey_9 : decode cX12_journey 9 = .ok (.aload_n 0, 1) := by decide +kernel
theorem dX12_journey_10 : decode cX12_journey 10 = .ok (.iload_n 1, 1) := by decide +kernel
theorem dX12_journey_11 : decode cX12_journey 11 = .ok (.invokevirtual 217, 3) := by decide +kernel
theorem dX12_journey_14 : decode cX12_journey 14 = .ok (.ifCond .eq 28, 3) := by decide +kernel
theorem dX12_journey_17 : decode cX12_journey 17 = .ok (.aload_n 0, 1) := by decide +kernel
theorem dX12_journey_18 : decode cX12_journey 18 = .ok (.iload_n 2, 1) := by decide +kernel
theorem dX12_journey_19 : decode cX12_journey 19 = .ok (.invokevirtual 217, 3) := by decide +kernel
theorem dX12_journey_22 : decode cX12_journey 22 = .ok (.ifCond .eq 20, 3) := by decide +kernel
theorem dX12_journey_25 : decode cX12_journey 25 = .ok (.iload_n 1, 1) := by decide +kernel
theorem dX12_journey_26 : decode cX12_journey 26 = .ok (.iload_n 2, 1) := by decide +kernel
theorem dX12_journey_27 : decode cX12_journey 27 = .ok (.if_icmp .eq 15, 3) := by decide +kernel
theorem dX12_journey_30 : decode cX12_journey 30 = .ok (.iload_n 3, 1) := by decide +kernel
theorem dX12_journey_31 : decode cX12_journey 31 = .ok (.i2l, 1) := by decide +kernel
theorem dX12_journey_32 : decode cX12_journey 32 = .ok (.lconst 1, 1) := by decide +kernel
theorem dX12_journey_33 : decode cX12_journey 33 = .ok (.ldc2_w 206, 3) := by decide +kernel
theorem dX12_journey_36 : decode cX12_journey 36 = .ok (.invokestatic 181, 3) := by decide +kernel
theorem dX12_journey_39 : decode cX12_journey 39 = .ok (.ifCond .ne 5, 3) := by decide +kernel
theorem dX12_journey_42 : decode cX12_journey 42 = .ok (.iconst (-1), 1) := by decide +kernel
theorem dX12_journey_43 : decode cX12_journey 43 = .ok (.ireturn, 1) := by decide +kernel
theorem dX12_journey_44 : decode cX12_journey 44 = .ok (.aload_n 0, 1) := by decide +kernel
theorem dX12_journey_45 : decode cX12_journey 45 = .ok (.getfield 147, 3) := by decide +kernel
theorem dX12_journey_48 : decode cX12_journey 48 = .ok (.aload_n 0, 1) := by decide +kernel
theorem dX12_journey_49 : decode cX12_journey 49 = .ok (.getfield 468, 3) := by decide +kernel
theorem dX12_journey_52 : decode cX12_journey 52 = .ok (.iload_n 1, 1) := by decide +kernel
theorem dX12_journey_53 : decode cX12_journey 53 = .ok (.iastore, 1) := by decide +kernel
theorem dX12_journey_54 : decode cX12_journey 54 = .ok (.aload_n 0, 1) := by decide +kernel
theorem dX12_journey_55 : decode cX12_journey 55 = .ok (.getfield 150, 3) := by decide +kernel
theorem dX12_journey_58 : decode cX12_journey 58 = .ok (.aload_n 0, 1) := by decide +kernel
theorem dX12_journey_59 : decode cX12_journey 59 = .ok (.getfield 468, 3) := by decide +kernel
theorem dX12_journey_62 : decode cX12_journey 62 = .ok (.iload_n 2, 1) := by decide +kernel
theorem dX12_journey_63 : decode cX12_journey 63 = .ok (.iastore, 1) := by decide +kernel
theorem dX12_journey_64 : decode cX12_journey 64 = .ok (.aload_n 0, 1) := by decide +kernel
theorem dX12_journey_65 : decode cX12_journey 65 = .ok (.getfield 153, 3) := by decide +kernel
theorem dX12_journey_68 : decode cX12_journey 68 = .ok (.aload_n 0, 1) := by decide +kernel
theorem dX12_journey_69 : decode cX12_journey 69 = .ok (.getfield 468, 3) := by decide +kernel
theorem dX12_journey_72 : decode cX12_journey 72 = .ok (.iload_n 3, 1) := by decide +kernel
theorem dX12_journey_73 : decode cX12_journey 73 = .ok (.iastore, 1) := by decide +kernel
theorem dX12_journey_74 : decode cX12_journey 74 = .ok (.aload_n 0, 1) := by decide +kernel
theorem dX12_journey_75 : decode cX12_journey 75 = .ok (.dup, 1) := by decide +kernel
theorem dX12_journey_76 : decode cX12_journey 76 = .ok (.getfield 468, 3) := by decide +kernel
theorem dX12_journey_79 : decode cX12_journey 79 = .ok (.iconst 1, 1) := by decide +kernel
theorem dX12_journey_80 : decode cX12_journey 80 = .ok (.iadd, 1) := by decide +kernel
theorem dX12_journey_81 : decode cX12_journey 81 = .ok (.putfield 468, 3) := by decide +kernel
theorem dX12_journey_84 : decode cX12_journey 84 = .ok (.aload_n 0, 1) := by decide +kernel
theorem dX12_journey_85 : decode cX12_journey 85 = .ok (.getfield 468, 3) := by decide +kernel
theorem dX12_journey_88 : decode cX12_journey 88 = .ok (.iconst 1, 1) := by decide +kernel
theorem dX12_journey_89 : decode cX12_journey 89 = .ok (.isub, 1) := by decide +kernel
theorem dX12_journey_90 : decode cX12_journey 90 = .ok (.ireturn, 1) := by decide +kernel
set_option maxRecDepth 100000 in
set_option maxHeartbeats 4000000 in
theorem c_X12_journey {h : ai_H} {S : Md} (hmd : md_at h S) (hs : 0 ≤ (S.1 60).toInt ∧ (S.1 60).toInt ≤ 9) (a b c : Int32) : ai_QM MX12_journey [.ref 307, .int a, .int b, .int c] h (md_q h (some (.int (ms_jour S a b c))) (ms_jourS S a b c)) := by
  refine qm_of (ls := [.ref 307, .int a, .int b, .int c]) (by decide) (by simp [ai_en, Value.category]) (by rfl) ?_
  refine wq (fun _ _ kk => rs_aload_n (pc := 0) dX12_journey_0 rfl kk) ?_
  refine wq (fun _ _ kk => rs_getf (pc := 1) dX12_journey_1 fX12_468 (md_lt hmd (by decide)) hmd.2.1 rfl kk) ?_
  refine wq (fun _ _ kk => rs_bipush (v := 9) (pc := 4) dX12_journey_4 rfl kk) ?_
  refine wq_br (fun _ _ kt kf => rs_icmp_eq (tgt := 42) (pc := 6) dX12_journey_6 rfl kt kf) (fun c_6 => ?_) (fun c_6 => ?_)
  · refine wq (fun _ _ kk => rs_iconst (v := -1) (pc := 42) dX12_journey_42 rfl kk) ?_
    refine wq_ret ?_ (rs_iret (pc := 43) dX12_journey_43 rfl)
    exact ⟨by simp [ms_jour, c_6], md_ext.rf, by rw [show ms_jourS S a b c = S from by simp [ms_jourS, c_6]]; exact hmd⟩
  · refine wq (fun _ _ kk => rs_aload_n (pc := 9) dX12_journey_9 rfl kk) ?_
    refine wq (fun _ _ kk => rs_iload_n (pc := 10) dX12_journey_10 rfl kk) ?_
    refine wq (fun _ _ kk => rs_callV (as := [_]) (pc := 11) dX12_journey_11 mk_X12_isObserver mlX12_217 in_X12_isObserver se_X12_isObserver rfl (md_lt hmd (by decide)) hmd.2.1 rfl rfl (Nat.le_of_ble_eq_true rfl) (c_X12_isObserver hmd _) kk) ?_
    refine wq_br (fun _ _ kt kf => rs_if_eq (tgt := 42) (pc := 14) dX12_journey_14 rfl kt kf) (fun c_14 => ?_) (fun c_14 => ?_)
    · refine wq (fun _ _ kk => rs_iconst (v := -1) (pc := 42) dX12_journey_42 rfl kk) ?_
      refine wq_ret ?_ (rs_iret (pc := 43) dX12_journey_43 rfl)
      exact ⟨by simp [ms_jour, c_6, c_14], md_ext.rf, by rw [show ms_jourS S a b c = S from by simp [ms_jourS, c_6, c_14]]; exact hmd⟩
    · refine wq (fun _ _ kk => rs_aload_n (pc := 17) dX12_journey_17 rfl kk) ?_
      refine wq (fun _ _ kk => rs_iload_n (pc := 18) dX12_journey_18 rfl kk) ?_
      refine wq (fun _ _ kk => rs_callV (as := [_]) (pc := 19) dX12_journey_19 mk_X12_isObserver mlX12_217 in_X12_isObserver se_X12_isObserver rfl (md_lt hmd (by decide)) hmd.2.1 rfl rfl (Nat.le_of_ble_eq_true rfl) (c_X12_isObserver hmd _) kk) ?_
      refine wq_br (fun _ _ kt kf => rs_if_eq (tgt := 42) (pc := 22) dX12_journey_22 rfl kt kf) (fun c_22 => ?_) (fun c_22 => ?_)
      · refine wq (fun _ _ kk => rs_iconst (v := -1) (pc := 42) dX12_journey_42 rfl kk) ?_
        refine wq_ret ?_ (rs_iret (pc := 43) dX12_journey_43 rfl)
        exact ⟨by simp [ms_jour, c_6, c_14, c_22], md_ext.rf, by rw [show ms_jourS S a b c = S from by simp [ms_jourS, c_6, c_14, c_22]]; exact hmd⟩
      · refine wq (fun _ _ kk => rs_iload_n (pc := 25) dX12_journey_25 rfl kk) ?_
        refine wq (fun _ _ kk => rs_iload_n (pc := 26) dX12_journey_26 rfl kk) ?_
        refine wq_br (fun _ _ kt kf => rs_icmp_eq (tgt := 42) (pc := 27) dX12_journey_27 rfl kt kf) (fun c_27 => ?_) (fun c_27 => ?_)
        · refine wq (fun _ _ kk => rs_iconst (v := -1) (pc := 42) dX12_journey_42 rfl kk) ?_
          refine wq_ret ?_ (rs_iret (pc := 43) dX12_journey_43 rfl)
          exact ⟨by simp [ms_jour, c_6, c_14, c_22, c_27], md_ext.rf, by rw [show ms_jourS S a b c = S from by simp [ms_jourS, c_6, c_14, c_22, c_27]]; exact hmd⟩
        · refine wq (fun _ _ kk => rs_iload_n (pc := 30) dX12_journey_30 rfl kk) ?_
          refine wq (fun _ _ kk => rs_i2l (pc := 31) dX12_journey_31 kk) ?_
          refine wq (fun _ _ kk => rs_lconst (v := 1) (pc := 32) dX12_journey_32 rfl kk) ?_
          refine wq (fun _ _ kk => rs_ldc2 (pc := 33) dX12_journey_33 cnX12_206 kk) ?_
          refine wq (fun _ _ kk => rs_callS (as := [_, _, _]) (pc := 36) dX12_journey_36 mk_X12_in mlX12_181 st_X12_in rfl rfl (Nat.le_of_ble_eq_true rfl) (c_X12_in) kk) ?_
          refine wq_bn (fun _ _ kt kf => rs_if_ne (tgt := 44) (pc := 39) dX12_journey_39 rfl kt kf) (fun c_39 => ?_) (fun c_39 => ?_)
          · replace c_39 := inL_1 (a := c) (b := 1) (c := 99) rfl rfl rfl c_39
            have hbd : vp_in (S.1 60) 9 := vp_in_iff.mpr ⟨hs.1, by have := i32_neN (n := 9) c_6 rfl; omega⟩
            refine wq (fun _ _ kk => rs_aload_n (pc := 44) dX12_journey_44 rfl kk) ?_
            refine wq (fun _ _ kk => rs_getf (pc := 45) dX12_journey_45 fX12_147 (md_lt hmd (by decide)) hmd.2.1 rfl kk) ?_
            refine wq (fun _ _ kk => rs_aload_n (pc := 48) dX12_journey_48 rfl kk) ?_
            refine wq (fun _ _ kk => rs_getf (pc := 49) dX12_journey_49 fX12_468 (md_lt hmd (by decide)) hmd.2.1 rfl kk) ?_
            refine wq (fun _ _ kk => rs_iload_n (pc := 52) dX12_journey_52 rfl kk) ?_
            refine wq (fun _ _ kk => rs_iast (pc := 53) dX12_journey_53 (md_lt hmd (by decide)) (hmd.2.2 45 _ rfl) hbd kk) ?_
            refine wq_gen (fun h_1 e_1 => ?_)
            obtain ⟨m_1, s_1, g_1, o_1⟩ := ai_e1 e_1
            replace hmd := md_at_ai (d := 45) rfl (by decide) hmd m_1 g_1 o_1
            have E_1 := (md_ext.rf).trans (md_ext_of m_1 s_1 o_1 (by decide))
            refine wq (fun _ _ kk => rs_aload_n (pc := 54) dX12_journey_54 rfl kk) ?_
            refine wq (fun _ _ kk => rs_getf (pc := 55) dX12_journey_55 fX12_150 (md_lt hmd (by decide)) hmd.2.1 rfl kk) ?_
            refine wq (fun _ _ kk => rs_aload_n (pc := 58) dX12_journey_58 rfl kk) ?_
            refine wq (fun _ _ kk => rs_getf (pc := 59) dX12_journey_59 fX12_468 (md_lt hmd (by decide)) hmd.2.1 rfl kk) ?_
            refine wq (fun _ _ kk => rs_iload_n (pc := 62) dX12_journey_62 rfl kk) ?_
            refine wq (fun _ _ kk => rs_iast (pc := 63) dX12_journey_63 (md_lt hmd (by decide)) (hmd.2.2 46 _ rfl) hbd kk) ?_
            refine wq_gen (fun h_2 e_2 => ?_)
            obtain ⟨m_2, s_2, g_2, o_2⟩ := ai_e1 e_2
            replace hmd := md_at_ai (d := 46) rfl (by decide) hmd m_2 g_2 o_2
            have E_2 := (E_1).trans (md_ext_of m_2 s_2 o_2 (by decide))
            refine wq (fun _ _ kk => rs_aload_n (pc := 64) dX12_journey_64 rfl kk) ?_
            refine wq (fun _ _ kk => rs_getf (pc := 65) dX12_journey_65 fX12_153 (md_lt hmd (by decide)) hmd.2.1 rfl kk) ?_
            refine wq (fun _ _ kk => rs_aload_n (pc := 68) dX12_journey_68 rfl kk) ?_
            refine wq (fun _ _ kk => rs_getf (pc := 69) dX12_journey_69 fX12_468 (md_lt hmd (by decide)) hmd.2.1 rfl kk) ?_
            refine wq (fun _ _ kk => rs_iload_n (pc := 72) dX12_journey_72 rfl kk) ?_
            refine wq (fun _ _ kk => rs_iast (pc := 73) dX12_journey_73 (md_lt hmd (by decide)) (hmd.2.2 47 _ rfl) hbd kk) ?_
            refine wq_gen (fun h_3 e_3 => ?_)
            obtain ⟨m_3, s_3, g_3, o_3⟩ := ai_e1 e_3
            replace hmd := md_at_ai (d := 47) rfl (by decide) hmd m_3 g_3 o_3
            have E_3 := (E_2).trans (md_ext_of m_3 s_3 o_3 (by decide))
            refine wq (fun _ _ kk => rs_aload_n (pc := 74) dX12_journey_74 rfl kk) ?_
            refine wq (fun _ _ kk => rs_dup (pc := 75) dX12_journey_75 rfl kk) ?_
            refine wq (fun _ _ kk => rs_getf (pc := 76) dX12_journey_76 fX12_468 (md_lt hmd (by decide)) hmd.2.1 rfl kk) ?_
            refine wq (fun _ _ kk => rs_iconst (v := 1) (pc := 79) dX12_journey_79 rfl kk) ?_
            refine wq (fun _ _ kk => rs_iadd (pc := 80) dX12_journey_80 kk) ?_
            refine wq (fun _ _ kk => rs_putf (pc := 81) dX12_journey_81 fX12_468 (md_lt hmd (by decide)) hmd.2.1 rfl (Nat.le_of_ble_eq_true rfl) kk) ?_
            refine wq_gen (fun h_4 e_4 => ?_)
            obtain ⟨m_4, s_4, g_4, o_4⟩ := ai_e1 e_4
            replace hmd := md_at_si (k := 60) hmd m_4 g_4 o_4 rfl
            have E_4 := (E_3).trans (md_ext_of m_4 s_4 o_4 (by decide))
            refine wq (fun _ _ kk => rs_aload_n (pc := 84) dX12_journey_84 rfl kk) ?_
            refine wq (fun _ _ kk => rs_getf (pc := 85) dX12_journey_85 fX12_468 (md_lt hmd (by decide)) hmd.2.1 rfl kk) ?_
            refine wq (fun _ _ kk => rs_iconst (v := 1) (pc := 88) dX12_journey_88 rfl kk) ?_
            refine wq (fun _ _ kk => rs_isub (pc := 89) dX12_journey_89 kk) ?_
            refine wq_ret ?_ (rs_iret (pc := 90) dX12_journey_90 rfl)
            refine ⟨?_, E_4, ?_⟩
            · have e1 : ms_jour S a b c = S.1 60 + 1 - 1 := by simp [ms_jour, c_6, c_14, c_22, c_27, c_39]
              rw [e1]; rfl
            · have e1 : ms_jourS S a b c = (md_si (md_ai (md_ai (md_ai S 61 (upd (S.2.2.1 61) (S.1 60).toNatClampNeg a)) 62 (upd (S.2.2.1 62) (S.1 60).toNatClampNeg b)) 63 (upd (S.2.2.1 63) (S.1 60).toNatClampNeg c)) 60 (S.1 60 + 1)) := by simp [ms_jourS, c_6, c_14, c_22, c_27, c_39]
              rw [e1]; exact hmd
          · replace c_39 := inL_0 (a := c) (b := 1) (c := 99) rfl rfl rfl c_39
            refine wq (fun _ _ kk => rs_iconst (v := -1) (pc := 42) dX12_journey_42 rfl kk) ?_
            refine wq_ret ?_ (rs_iret (pc := 43) dX12_journey_43 rfl)
            exact ⟨by simp [ms_jour, c_6, c_14, c_22, c_27, c_39], md_ext.rf, by rw [show ms_jourS S a b c = S from by simp [ms_jourS, c_6, c_14, c_22, c_27, c_39]]; exact hmd⟩
def ms_strike (S : Md) (i : Int32) : Int32 := if bi_in i 0 (S.1 5 - 1) = 0 then 0 else if S.2.2.1 21 i.toNatClampNeg = -1 then 1 else 0
def ms_strikeS (S : Md) (i : Int32) : Md := if bi_in i 0 (S.1 5 - 1) = 0 then S else if S.2.2.1 21 i.toNatClampNeg = -1 then md_ai S 21 (upd (S.2.2.1 21) i.toNatClampNeg (S.1 1)) else S
def ms_leans (S : Md) (o r : Int32) : Int32 := if bi_in o 0 (S.1 2 - 1) = 0 then 0 else if r = -1 then 1 else if bi_in r 0 (S.1 25 - 1) = 0 then 0 else 1
def ms_leansS (S : Md) (o r : Int32) : Md := if bi_in o 0 (S.1 2 - 1) = 0 then S else if r = -1 then md_ai S 7 (upd (S.2.2.1 7) o.toNatClampNeg r) else if bi_in r 0 (S.1 25 - 1) = 0 then S else md_ai S 7 (upd (S.2.2.1 7) o.toNatClampNeg r)
theorem in_of_size {i s : Int32} {n : Nat} (h : ¬ bi_in i 0 (s - 1) = 0) (hs : 0 ≤ s.toInt ∧ s.toInt ≤ n) : vp_in i n := by
  obtain ⟨h1, h2⟩ := bi_in_1 h
  simp only [i32_lt, i32_0] at h1 h2
  have hm : s.toInt < 2147483648 := Int32.toInt_lt s
  have e : (s - 1).toInt = s.toInt - 1 := by
    rw [Int32.toInt_sub]; exact Int.bmod_eq_of_le (by show _ ≤ s.toInt - 1; omega) (by show s.toInt - 1 < _; omega)
  exact vp_in_iff.mpr ⟨by omega, by omega⟩
theorem dX12_strike_0 : decode cX12_strike 0 = .ok (.aload_n 0, 1) := by decide +kernel
theorem dX12_strike_1 : decode cX12_strike 1 = .ok (.iload_n 1, 1) := by decide +kernel
theorem dX12_strike_2 : decode cX12_strike 2 = .ok (.invokevirtual 223, 3) := by decide +kernel
theorem dX12_strike_5 : decode cX12_strike 5 = .ok (.ifCond .eq 13, 3) := by decide +kernel
theorem dX12_strike_8 : decode cX12_strike 8 = .ok (.aload_n 0, 1) := by decide +kernel
theorem dX12_strike_9 : decode cX12_strike 9 = .ok (.getfield 55, 3) := by decide +kernel
theorem dX12_strike_12 : decode cX12_strike 12 = .ok (.iload_n 1, 1) := by decide +kernel
theorem dX12_strike_13 : decode cX12_strike 13 = .ok (.iaload, 1) := by decide +kernel
theorem dX12_strike_14 : decode cX12_strike 14 = .ok (.iconst (-1), 1) := by decide +kernel
theorem dX12_strike_15 : decode cX12_strike 15 = .ok (.if_icmp .eq 5, 3) := by decide +kernel
theorem dX12_strike_18 : decode cX12_strike 18 = .ok (.iconst 0, 1) := by decide +kernel
theorem dX12_strike_19 : decode cX12_strike 19 = .ok (.ireturn, 1) := by decide +kernel
theorem dX12_strike_20 : decode cX12_strike 20 = .ok (.aload_n 0, 1) := by decide +kernel
theorem dX12_strike_21 : decode cX12_strike 21 = .ok (.getfield 55, 3) := by decide +kernel
theorem dX12_strike_24 : decode cX12_strike 24 = .ok (.iload_n 1, 1) := by decide +kernel
theorem dX12_strike_25 : decode cX12_strike 25 = .ok (.aload_n 0, 1) := by decide +kernel
theorem dX12_strike_26 : decode cX12_strike 26 = .ok (.getfield 185, 3) := by decide +kernel
theorem dX12_strike_29 : decode cX12_strike 29 = .ok (.iastore, 1) := by decide +kernel
theorem dX12_strike_30 : decode cX12_strike 30 = .ok (.iconst 1, 1) := by decide +kernel
theorem dX12_strike_31 : decode cX12_strike 31 = .ok (.ireturn, 1) := by decide +kernel
set_option maxRecDepth 100000 in
set_option maxHeartbeats 4000000 in
theorem c_X12_strike {h : ai_H} {S : Md} (hmd : md_at h S) (hs : 0 ≤ (S.1 5).toInt ∧ (S.1 5).toInt ≤ 400) (i : Int32) : ai_QM MX12_strike [.ref 307, .int i] h (md_q h (some (.int (ms_strike S i))) (ms_strikeS S i)) := by
  refine qm_of (ls := [.ref 307, .int i]) (by decide) (by simp [ai_en, Value.category]) (by rfl) ?_
  refine wq (fun _ _ kk => rs_aload_n (pc := 0) dX12_strike_0 rfl kk) ?_
  refine wq (fun _ _ kk => rs_iload_n (pc := 1) dX12_strike_1 rfl kk) ?_
  refine wq (fun _ _ kk => rs_callV (as := [_]) (pc := 2) dX12_strike_2 mk_X12_isRecord mlX12_223 in_X12_isRecord se_X12_isRecord rfl (md_lt hmd (by decide)) hmd.2.1 rfl rfl (Nat.le_of_ble_eq_true rfl) (c_X12_isRecord hmd _) kk) ?_
  refine wq_br (fun _ _ kt kf => rs_if_eq (tgt := 18) (pc := 5) dX12_strike_5 rfl kt kf) (fun c_5 => ?_) (fun c_5 => ?_)
  · refine wq (fun _ _ kk => rs_iconst (v := 0) (pc := 18) dX12_strike_18 rfl kk) ?_
    refine wq_ret ?_ (rs_zret (pc := 19) dX12_strike_19 rfl (Or.inl rfl))
    exact ⟨by simp [ms_strike, c_5], md_ext.rf, by rw [show ms_strikeS S i = _ from by simp [ms_strikeS, c_5]; rfl]; exact hmd⟩
  · refine wq (fun _ _ kk => rs_aload_n (pc := 8) dX12_strike_8 rfl kk) ?_
    refine wq (fun _ _ kk => rs_getf (pc := 9) dX12_strike_9 fX12_55 (md_lt hmd (by decide)) hmd.2.1 rfl kk) ?_
    refine wq (fun _ _ kk => rs_iload_n (pc := 12) dX12_strike_12 rfl kk) ?_
    refine wq (fun _ _ kk => rs_iald (pc := 13) dX12_strike_13 (md_lt hmd (by decide)) (md_geti (d := 15) (k := 21) (kd := 0) (n := 400) rfl (by decide) hmd) (in_of_size c_5 hs) kk) ?_
    refine wq (fun _ _ kk => rs_iconst (v := -1) (pc := 14) dX12_strike_14 rfl kk) ?_
    refine wq_br (fun _ _ kt kf => rs_icmp_eq (tgt := 20) (pc := 15) dX12_strike_15 rfl kt kf) (fun c_15 => ?_) (fun c_15 => ?_)
    · refine wq (fun _ _ kk => rs_aload_n (pc := 20) dX12_strike_20 rfl kk) ?_
      refine wq (fun _ _ kk => rs_getf (pc := 21) dX12_strike_21 fX12_55 (md_lt hmd (by decide)) hmd.2.1 rfl kk) ?_
      refine wq (fun _ _ kk => rs_iload_n (pc := 24) dX12_strike_24 rfl kk) ?_
      refine wq (fun _ _ kk => rs_aload_n (pc := 25) dX12_strike_25 rfl kk) ?_
      refine wq (fun _ _ kk => rs_getf (pc := 26) dX12_strike_26 fX12_185 (md_lt hmd (by decide)) hmd.2.1 rfl kk) ?_
      refine wq (fun _ _ kk => rs_iast (pc := 29) dX12_strike_29 (md_lt hmd (by decide)) (md_geti (d := 15) (k := 21) (kd := 0) (n := 400) rfl (by decide) hmd) (in_of_size c_5 hs) kk) ?_
      refine wq_gen (fun h_1 e_1 => ?_)
      obtain ⟨m_1, s_1, g_1, o_1⟩ := ai_e1 e_1
      replace hmd := md_at_ai (d := 15) rfl (by decide) hmd m_1 g_1 o_1
      have E_1 := (md_ext.rf).trans (md_ext_of m_1 s_1 o_1 (by decide))
      refine wq (fun _ _ kk => rs_iconst (v := 1) (pc := 30) dX12_strike_30 rfl kk) ?_
      refine wq_ret ?_ (rs_zret (pc := 31) dX12_strike_31 rfl (Or.inr rfl))
      exact ⟨by simp [ms_strike, c_5, c_15], E_1, by rw [show ms_strikeS S i = _ from by simp [ms_strikeS, c_5, c_15]; rfl]; exact hmd⟩
    · refine wq (fun _ _ kk => rs_iconst (v := 0) (pc := 18) dX12_strike_18 rfl kk) ?_
      refine wq_ret ?_ (rs_zret (pc := 19) dX12_strike_19 rfl (Or.inl rfl))
      exact ⟨by simp [ms_strike, c_5, c_15], md_ext.rf, by rw [show ms_strikeS S i = _ from by simp [ms_strikeS, c_5, c_15]; rfl]; exact hmd⟩
theorem dX12_leans_0 : decode cX12_leans 0 = .ok (.aload_n 0, 1) := by decide +kernel
theorem dX12_leans_1 : decode cX12_leans 1 = .ok (.iload_n 1, 1) := by decide +kernel
theorem dX12_leans_2 : decode cX12_leans 2 = .ok (.invokevirtual 217, 3) := by decide +kernel
theorem dX12_leans_5 : decode cX12_leans 5 = .ok (.ifCond .eq 16, 3) := by decide +kernel
theorem dX12_leans_8 : decode cX12_leans 8 = .ok (.iload_n 2, 1) := by decide +kernel
theorem dX12_leans_9 : decode cX12_leans 9 = .ok (.iconst (-1), 1) := by decide +kernel
theorem dX12_leans_10 : decode cX12_leans 10 = .ok (.if_icmp .eq 13, 3) := by decide +kernel
theorem dX12_leans_13 : decode cX12_leans 13 = .ok (.aload_n 0, 1) := by decide +kernel
theorem dX12_leans_14 : decode cX12_leans 14 = .ok (.iload_n 2, 1) := by decide +kernel
theorem dX12_leans_15 : decode cX12_leans 15 = .ok (.invokevirtual 390, 3) := by decide +kernel
theorem dX12_leans_18 : decode cX12_leans 18 = .ok (.ifCond .ne 5, 3) := by decide +kernel
theorem dX12_leans_21 : decode cX12_leans 21 = .ok (.iconst 0, 1) := by decide +kernel
theorem dX12_leans_22 : decode cX12_leans 22 = .ok (.ireturn, 1) := by decide +kernel
theorem dX12_leans_23 : decode cX12_leans 23 = .ok (.aload_n 0, 1) := by decide +kernel
theorem dX12_leans_24 : decode cX12_leans 24 = .ok (.getfield 13, 3) := by decide +kernel
theorem dX12_leans_27 : decode cX12_leans 27 = .ok (.iload_n 1, 1) := by decide +kernel
theorem dX12_leans_28 : decode cX12_leans 28 = .ok (.iload_n 2, 1) := by decide +kernel
theorem dX12_leans_29 : decode cX12_leans 29 = .ok (.iastore, 1) := by decide +kernel
theorem dX12_leans_30 : decode cX12_leans 30 = .ok (.iconst 1, 1) := by decide +kernel
theorem dX12_leans_31 : decode cX12_leans 31 = .ok (.ireturn, 1) := by decide +kernel
set_option maxRecDepth 100000 in
set_option maxHeartbeats 4000000 in
theorem c_X12_leans {h : ai_H} {S : Md} (hmd : md_at h S) (hs : 0 ≤ (S.1 2).toInt ∧ (S.1 2).toInt ≤ 16) (o r : Int32) : ai_QM MX12_leans [.ref 307, .int o, .int r] h (md_q h (some (.int (ms_leans S o r))) (ms_leansS S o r)) := by
  refine qm_of (ls := [.ref 307, .int o, .int r]) (by decide) (by simp [ai_en, Value.category]) (by rfl) ?_
  refine wq (fun _ _ kk => rs_aload_n (pc := 0) dX12_leans_0 rfl kk) ?_
  refine wq (fun _ _ kk => rs_iload_n (pc := 1) dX12_leans_1 rfl kk) ?_
  refine wq (fun _ _ kk => rs_callV (as := [_]) (pc := 2) dX12_leans_2 mk_X12_isObserver mlX12_217 in_X12_isObserver se_X12_isObserver rfl (md_lt hmd (by decide)) hmd.2.1 rfl rfl (Nat.le_of_ble_eq_true rfl) (c_X12_isObserver hmd _) kk) ?_
  refine wq_br (fun _ _ kt kf => rs_if_eq (tgt := 21) (pc := 5) dX12_leans_5 rfl kt kf) (fun c_5 => ?_) (fun c_5 => ?_)
  · refine wq (fun _ _ kk => rs_iconst (v := 0) (pc := 21) dX12_leans_21 rfl kk) ?_
    refine wq_ret ?_ (rs_zret (pc := 22) dX12_leans_22 rfl (Or.inl rfl))
    exact ⟨by simp [ms_leans, c_5], md_ext.rf, by rw [show ms_leansS S o r = _ from by simp [ms_leansS, c_5]; rfl]; exact hmd⟩
  · refine wq (fun _ _ kk => rs_iload_n (pc := 8) dX12_leans_8 rfl kk) ?_
    refine wq (fun _ _ kk => rs_iconst (v := -1) (pc := 9) dX12_leans_9 rfl kk) ?_
    refine wq_br (fun _ _ kt kf => rs_icmp_eq (tgt := 23) (pc := 10) dX12_leans_10 rfl kt kf) (fun c_10 => ?_) (fun c_10 => ?_)
    · refine wq (fun _ _ kk => rs_aload_n (pc := 23) dX12_leans_23 rfl kk) ?_
      refine wq (fun _ _ kk => rs_getf (pc := 24) dX12_leans_24 fX12_13 (md_lt hmd (by decide)) hmd.2.1 rfl kk) ?_
      refine wq (fun _ _ kk => rs_iload_n (pc := 27) dX12_leans_27 rfl kk) ?_
      refine wq (fun _ _ kk => rs_iload_n (pc := 28) dX12_leans_28 rfl kk) ?_
      refine wq (fun _ _ kk => rs_iast (pc := 29) dX12_leans_29 (md_lt hmd (by decide)) (md_geti (d := 1) (k := 7) (kd := 0) (n := 16) rfl (by decide) hmd) (in_of_size c_5 hs) kk) ?_
      refine wq_gen (fun h_1 e_1 => ?_)
      obtain ⟨m_1, s_1, g_1, o_1⟩ := ai_e1 e_1
      replace hmd := md_at_ai (d := 1) rfl (by decide) hmd m_1 g_1 o_1
      have E_1 := (md_ext.rf).trans (md_ext_of m_1 s_1 o_1 (by decide))
      refine wq (fun _ _ kk => rs_iconst (v := 1) (pc := 30) dX12_leans_30 rfl kk) ?_
      refine wq_ret ?_ (rs_zret (pc := 31) dX12_leans_31 rfl (Or.inr rfl))
      exact ⟨by simp [ms_leans, c_5, c_10], E_1, by first | (rw [ms_leansS, if_neg c_5, if_pos c_10]; exact hmd) | (rw [ms_leansS, if_neg c_5, if_neg c_10, if_neg c_18]; exact hmd)⟩
    · refine wq (fun _ _ kk => rs_aload_n (pc := 13) dX12_leans_13 rfl kk) ?_
      refine wq (fun _ _ kk => rs_iload_n (pc := 14) dX12_leans_14 rfl kk) ?_
      refine wq (fun _ _ kk => rs_callV (as := [_]) (pc := 15) dX12_leans_15 mk_X12_isLaw mlX12_390 in_X12_isLaw se_X12_isLaw rfl (md_lt hmd (by decide)) hmd.2.1 rfl rfl (Nat.le_of_ble_eq_true rfl) (c_X12_isLaw hmd _) kk) ?_
      refine wq_bn (fun _ _ kt kf => rs_if_ne (tgt := 23) (pc := 18) dX12_leans_18 rfl kt kf) (fun c_18 => ?_) (fun c_18 => ?_)
      · refine wq (fun _ _ kk => rs_aload_n (pc := 23) dX12_leans_23 rfl kk) ?_
        refine wq (fun _ _ kk => rs_getf (pc := 24) dX12_leans_24 fX12_13 (md_lt hmd (by decide)) hmd.2.1 rfl kk) ?_
        refine wq (fun _ _ kk => rs_iload_n (pc := 27) dX12_leans_27 rfl kk) ?_
        refine wq (fun _ _ kk => rs_iload_n (pc := 28) dX12_leans_28 rfl kk) ?_
        refine wq (fun _ _ kk => rs_iast (pc := 29) dX12_leans_29 (md_lt hmd (by decide)) (md_geti (d := 1) (k := 7) (kd := 0) (n := 16) rfl (by decide) hmd) (in_of_size c_5 hs) kk) ?_
        refine wq_gen (fun h_2 e_2 => ?_)
        obtain ⟨m_2, s_2, g_2, o_2⟩ := ai_e1 e_2
        replace hmd := md_at_ai (d := 1) rfl (by decide) hmd m_2 g_2 o_2
        have E_2 := (md_ext.rf).trans (md_ext_of m_2 s_2 o_2 (by decide))
        refine wq (fun _ _ kk => rs_iconst (v := 1) (pc := 30) dX12_leans_30 rfl kk) ?_
        refine wq_ret ?_ (rs_zret (pc := 31) dX12_leans_31 rfl (Or.inr rfl))
        exact ⟨by simp [ms_leans, c_5, c_10, c_18], E_2, by first | (rw [ms_leansS, if_neg c_5, if_pos c_10]; exact hmd) | (rw [ms_leansS, if_neg c_5, if_neg c_10, if_neg c_18]; exact hmd)⟩
      · refine wq (fun _ _ kk => rs_iconst (v := 0) (pc := 21) dX12_leans_21 rfl kk) ?_
        refine wq_ret ?_ (rs_zret (pc := 22) dX12_leans_22 rfl (Or.inl rfl))
        exact ⟨by simp [ms_leans, c_5, c_10, c_18], md_ext.rf, by rw [show ms_leansS S o r = _ from by simp [ms_leansS, c_5, c_10, c_18]; rfl]; exact hmd⟩
def ms_count (S : Md) (k : Int32) : Int32 := if k = 0 then S.1 1 else if k = 1 then S.1 2 else if k = 2 then S.1 3 else if k = 3 then S.1 4 else if k = 4 then S.1 5 else if k = 5 then S.1 25 else if k = 6 then S.1 60 else if k = 7 then S.1 22 else -1
def ms_end (S : Md) (n : Int32) : Int32 := if n < 0 then -1 else if n ≤ S.1 22 then n else -1
def ms_endS (S : Md) (n : Int32) : Md := if n < 0 then S else if n ≤ S.1 22 then md_si S 22 n else S
theorem dX12_count_0 : decode cX12_count 0 = .ok (.iload_n 1, 1) := by decide +kernel
theorem dX12_count_1 : decode cX12_count 1 = .ok (.tableswitch 87 0 7 #[47, 52, 57, 62, 67, 72, 77, 82], 47) := by decide +kernel
theorem dX12_count_48 : decode cX12_count 48 = .ok (.aload_n 0, 1) := by decide +kernel
theorem dX12_count_49 : decode cX12_count 49 = .ok (.getfield 185, 3) := by decide +kernel
theorem dX12_count_52 : decode cX12_count 52 = .ok (.ireturn, 1) := by decide +kernel
theorem dX12_count_53 : decode cX12_count 53 = .ok (.aload_n 0, 1) := by decide +kernel
theorem dX12_count_54 : decode cX12_count 54 = .ok (.getfield 188, 3) := by decide +kernel
theorem dX12_count_57 : decode cX12_count 57 = .ok (.ireturn, 1) := by decide +kernel
theorem dX12_count_58 : decode cX12_count 58 = .ok (.aload_n 0, 1) := by decide +kernel
theorem dX12_count_59 : decode cX12_count 59 = .ok (.getfield 191, 3) := by decide +kernel
theorem dX12_count_62 : decode cX12_count 62 = .ok (.ireturn, 1) := by decide +kernel
theorem dX12_count_63 : decode cX12_count 63 = .ok (.aload_n 0, 1) := by decide +kernel
theorem dX12_count_64 : decode cX12_count 64 = .ok (.getfield 194, 3) := by decide +kernel
theorem dX12_count_67 : decode cX12_count 67 = .ok (.ireturn, 1) := by decide +kernel
theorem dX12_count_68 : decode cX12_count 68 = .ok (.aload_n 0, 1) := by decide +kernel
theorem dX12_count_69 : decode cX12_count 69 = .ok (.getfield 197, 3) := by decide +kernel
theorem dX12_count_72 : decode cX12_count 72 = .ok (.ireturn, 1) := by decide +kernel
theorem dX12_count_73 : decode cX12_count 73 = .ok (.aload_n 0, 1) := by decide +kernel
theorem dX12_count_74 : decode cX12_count 74 = .ok (.getfield 294, 3) := by decide +kernel
theorem dX12_count_77 : decode cX12_count 77 = .ok (.ireturn, 1) := by decide +kernel
theorem dX12_count_78 : decode cX12_count 78 = .ok (.aload_n 0, 1) := by decide +kernel
theorem dX12_count_79 : decode cX12_count 79 = .ok (.getfield 468, 3) := by decide +kernel
theorem dX12_count_82 : decode cX12_count 82 = .ok (.ireturn, 1) := by decide +kernel
theorem dX12_count_83 : decode cX12_count 83 = .ok (.aload_n 0, 1) := by decide +kernel
theorem dX12_count_84 : decode cX12_count 84 = .ok (.getfield 241, 3) := by decide +kernel
theorem dX12_count_87 : decode cX12_count 87 = .ok (.ireturn, 1) := by decide +kernel
theorem dX12_count_88 : decode cX12_count 88 = .ok (.iconst (-1), 1) := by decide +kernel
theorem dX12_count_89 : decode cX12_count 89 = .ok (.ireturn, 1) := by decide +kernel
set_option maxRecDepth 100000 in
set_option maxHeartbeats 4000000 in
theorem c_X12_count {h : ai_H} {S : Md} (hmd : md_at h S) (k : Int32) : ai_QM MX12_count [.ref 307, .int k] h (md_q h (some (.int (ms_count S k))) S) := by
  refine qm_of (ls := [.ref 307, .int k]) (by decide) (by simp [ai_en, Value.category]) (by rfl) ?_
  refine wq (fun _ _ kk => rs_iload_n (pc := 0) dX12_count_0 rfl kk) ?_
  by_cases e1_0 : k = 0
  · refine wq (fun _ _ kk => wk_tab 0 e1_0 (tgt := 48) (pc := 1) dX12_count_1 (by decide) (by decide) rfl rfl kk) ?_
    refine wq (fun _ _ kk => rs_aload_n (pc := 48) dX12_count_48 rfl kk) ?_
    refine wq (fun _ _ kk => rs_getf (pc := 49) dX12_count_49 fX12_185 (md_lt hmd (by decide)) hmd.2.1 rfl kk) ?_
    refine wq_ret ?_ (rs_iret (pc := 52) dX12_count_52 rfl)
    exact ⟨by simp [ms_count, e1_0], md_ext.rf, hmd⟩
  by_cases e1_1 : k = 1
  · refine wq (fun _ _ kk => wk_tab 1 e1_1 (tgt := 53) (pc := 1) dX12_count_1 (by decide) (by decide) rfl rfl kk) ?_
    refine wq (fun _ _ kk => rs_aload_n (pc := 53) dX12_count_53 rfl kk) ?_
    refine wq (fun _ _ kk => rs_getf (pc := 54) dX12_count_54 fX12_188 (md_lt hmd (by decide)) hmd.2.1 rfl kk) ?_
    refine wq_ret ?_ (rs_iret (pc := 57) dX12_count_57 rfl)
    exact ⟨by simp [ms_count, e1_1], md_ext.rf, hmd⟩
  by_cases e1_2 : k = 2
  · refine wq (fun _ _ kk => wk_tab 2 e1_2 (tgt := 58) (pc := 1) dX12_count_1 (by decide) (by decide) rfl rfl kk) ?_
    refine wq (fun _ _ kk => rs_aload_n (pc := 58) dX12_count_58 rfl kk) ?_
    refine wq (fun _ _ kk => rs_getf (pc := 59) dX12_count_59 fX12_191 (md_lt hmd (by decide)) hmd.2.1 rfl kk) ?_
    refine wq_ret ?_ (rs_iret (pc := 62) dX12_count_62 rfl)
    exact ⟨by simp [ms_count, e1_2], md_ext.rf, hmd⟩
  by_cases e1_3 : k = 3
  · refine wq (fun _ _ kk => wk_tab 3 e1_3 (tgt := 63) (pc := 1) dX12_count_1 (by decide) (by decide) rfl rfl kk) ?_
    refine wq (fun _ _ kk => rs_aload_n (pc := 63) dX12_count_63 rfl kk) ?_
    refine wq (fun _ _ kk => rs_getf (pc := 64) dX12_count_64 fX12_194 (md_lt hmd (by decide)) hmd.2.1 rfl kk) ?_
    refine wq_ret ?_ (rs_iret (pc := 67) dX12_count_67 rfl)
    exact ⟨by simp [ms_count, e1_3], md_ext.rf, hmd⟩
  by_cases e1_4 : k = 4
  · refine wq (fun _ _ kk => wk_tab 4 e1_4 (tgt := 68) (pc := 1) dX12_count_1 (by decide) (by decide) rfl rfl kk) ?_
    refine wq (fun _ _ kk => rs_aload_n (pc := 68) dX12_count_68 rfl kk) ?_
    refine wq (fun _ _ kk => rs_getf (pc := 69) dX12_count_69 fX12_197 (md_lt hmd (by decide)) hmd.2.1 rfl kk) ?_
    refine wq_ret ?_ (rs_iret (pc := 72) dX12_count_72 rfl)
    exact ⟨by simp [ms_count, e1_4], md_ext.rf, hmd⟩
  by_cases e1_5 : k = 5
  · refine wq (fun _ _ kk => wk_tab 5 e1_5 (tgt := 73) (pc := 1) dX12_count_1 (by decide) (by decide) rfl rfl kk) ?_
    refine wq (fun _ _ kk => rs_aload_n (pc := 73) dX12_count_73 rfl kk) ?_
    refine wq (fun _ _ kk => rs_getf (pc := 74) dX12_count_74 fX12_294 (md_lt hmd (by decide)) hmd.2.1 rfl kk) ?_
    refine wq_ret ?_ (rs_iret (pc := 77) dX12_count_77 rfl)
    exact ⟨by simp [ms_count, e1_5], md_ext.rf, hmd⟩
  by_cases e1_6 : k = 6
  · refine wq (fun _ _ kk => wk_tab 6 e1_6 (tgt := 78) (pc := 1) dX12_count_1 (by decide) (by decide) rfl rfl kk) ?_
    refine wq (fun _ _ kk => rs_aload_n (pc := 78) dX12_count_78 rfl kk) ?_
    refine wq (fun _ _ kk => rs_getf (pc := 79) dX12_count_79 fX12_468 (md_lt hmd (by decide)) hmd.2.1 rfl kk) ?_
    refine wq_ret ?_ (rs_iret (pc := 82) dX12_count_82 rfl)
    exact ⟨by simp [ms_count, e1_6], md_ext.rf, hmd⟩
  by_cases e1_7 : k = 7
  · refine wq (fun _ _ kk => wk_tab 7 e1_7 (tgt := 83) (pc := 1) dX12_count_1 (by decide) (by decide) rfl rfl kk) ?_
    refine wq (fun _ _ kk => rs_aload_n (pc := 83) dX12_count_83 rfl kk) ?_
    refine wq (fun _ _ kk => rs_getf (pc := 84) dX12_count_84 fX12_241 (md_lt hmd (by decide)) hmd.2.1 rfl kk) ?_
    refine wq_ret ?_ (rs_iret (pc := 87) dX12_count_87 rfl)
    exact ⟨by simp [ms_count, e1_7], md_ext.rf, hmd⟩
  have qe1_0 := i32_nek (n := 0) e1_0 (by decide)
  have qe1_1 := i32_nek (n := 1) e1_1 (by decide)
  have qe1_2 := i32_nek (n := 2) e1_2 (by decide)
  have qe1_3 := i32_nek (n := 3) e1_3 (by decide)
  have qe1_4 := i32_nek (n := 4) e1_4 (by decide)
  have qe1_5 := i32_nek (n := 5) e1_5 (by decide)
  have qe1_6 := i32_nek (n := 6) e1_6 (by decide)
  have qe1_7 := i32_nek (n := 7) e1_7 (by decide)
  refine wq (fun _ _ kk => rs_tableOut (tgt := 88) (pc := 1) dX12_count_1 (by omega) rfl kk) ?_
  refine wq (fun _ _ kk => rs_iconst (v := -1) (pc := 88) dX12_count_88 rfl kk) ?_
  refine wq_ret ?_ (rs_iret (pc := 89) dX12_count_89 rfl)
  exact ⟨by simp [ms_count, e1_0, e1_1, e1_2, e1_3, e1_4, e1_5, e1_6, e1_7], md_ext.rf, hmd⟩
theorem dX12_end_0 : decode cX12_end 0 = .ok (.iload_n 1, 1) := by decide +kernel
theorem dX12_end_1 : decode cX12_end 1 = .ok (.ifCond .lt 11, 3) := by decide +kernel
theorem dX12_end_4 : decode cX12_end 4 = .ok (.iload_n 1, 1) := by decide +kernel
theorem dX12_end_5 : decode cX12_end 5 = .ok (.aload_n 0, 1) := by decide +kernel
theorem dX12_end_6 : decode cX12_end 6 = .ok (.getfield 241, 3) := by decide +kernel
theorem dX12_end_9 : decode cX12_end 9 = .ok (.if_icmp .le 5, 3) := by decide +kernel
theorem dX12_end_12 : decode cX12_end 12 = .ok (.iconst (-1), 1) := by decide +kernel
theorem dX12_end_13 : decode cX12_end 13 = .ok (.ireturn, 1) := by decide +kernel
theorem dX12_end_14 : decode cX12_end 14 = .ok (.aload_n 0, 1) := by decide +kernel
theorem dX12_end_15 : decode cX12_end 15 = .ok (.iload_n 1, 1) := by decide +kernel
theorem dX12_end_16 : decode cX12_end 16 = .ok (.putfield 241, 3) := by decide +kernel
theorem dX12_end_19 : decode cX12_end 19 = .ok (.iload_n 1, 1) := by decide +kernel
theorem dX12_end_20 : decode cX12_end 20 = .ok (.ireturn, 1) := by decide +kernel
set_option maxRecDepth 100000 in
set_option maxHeartbeats 4000000 in
theorem c_X12_end {h : ai_H} {S : Md} (hmd : md_at h S) (n : Int32) : ai_QM MX12_end [.ref 307, .int n] h (md_q h (some (.int (ms_end S n))) (ms_endS S n)) := by
  refine qm_of (ls := [.ref 307, .int n]) (by decide) (by simp [ai_en, Value.category]) (by rfl) ?_
  refine wq (fun _ _ kk => rs_iload_n (pc := 0) dX12_end_0 rfl kk) ?_
  refine wq_br (fun _ _ kt kf => rs_if_lt (tgt := 12) (pc := 1) dX12_end_1 rfl kt kf) (fun c_1 => ?_) (fun c_1 => ?_)
  · refine wq (fun _ _ kk => rs_iconst (v := -1) (pc := 12) dX12_end_12 rfl kk) ?_
    refine wq_ret ?_ (rs_iret (pc := 13) dX12_end_13 rfl)
    exact ⟨by simp [ms_end, c_1], md_ext.rf, by rw [show ms_endS S n = _ from by simp [ms_endS, c_1]; rfl]; exact hmd⟩
  · refine wq (fun _ _ kk => rs_iload_n (pc := 4) dX12_end_4 rfl kk) ?_
    refine wq (fun _ _ kk => rs_aload_n (pc := 5) dX12_end_5 rfl kk) ?_
    refine wq (fun _ _ kk => rs_getf (pc := 6) dX12_end_6 fX12_241 (md_lt hmd (by decide)) hmd.2.1 rfl kk) ?_
    refine wq_br (fun _ _ kt kf => rs_icmp_le (tgt := 14) (pc := 9) dX12_end_9 rfl kt kf) (fun c_9 => ?_) (fun c_9 => ?_)
    · refine wq (fun _ _ kk => rs_aload_n (pc := 14) dX12_end_14 rfl kk) ?_
      refine wq (fun _ _ kk => rs_iload_n (pc := 15) dX12_end_15 rfl kk) ?_
      refine wq (fun _ _ kk => rs_putf (pc := 16) dX12_end_16 fX12_241 (md_lt hmd (by decide)) hmd.2.1 rfl (Nat.le_of_ble_eq_true rfl) kk) ?_
      refine wq_gen (fun h_1 e_1 => ?_)
      obtain ⟨m_1, s_1, g_1, o_1⟩ := ai_e1 e_1
      replace hmd := md_at_si (k := 22) hmd m_1 g_1 o_1 rfl
      have E_1 := (md_ext.rf).trans (md_ext_of m_1 s_1 o_1 (by decide))
      refine wq (fun _ _ kk => rs_iload_n (pc := 19) dX12_end_19 rfl kk) ?_
      refine wq_ret ?_ (rs_iret (pc := 20) dX12_end_20 rfl)
      exact ⟨by simp [ms_end, c_1, c_9], E_1, by rw [show ms_endS S n = _ from by simp [ms_endS, c_1, c_9]; rfl]; exact hmd⟩
    · refine wq (fun _ _ kk => rs_iconst (v := -1) (pc := 12) dX12_end_12 rfl kk) ?_
      refine wq_ret ?_ (rs_iret (pc := 13) dX12_end_13 rfl)
      exact ⟨by simp [ms_end, c_1, c_9], md_ext.rf, by rw [show ms_endS S n = _ from by simp [ms_endS, c_1, c_9]; rfl]; exact hmd⟩
def ms_counts (S : Md) (k : Nat) (w : Int32) : Int32 := if w < S.2.2.1 20 k then 0 else if S.2.2.1 21 k = -1 then 1 else if S.2.2.1 21 k ≤ w then 0 else 1
theorem ms_counts_b (S : Md) (k : Nat) (w : Int32) : ms_counts S k w = 0 ∨ ms_counts S k w = 1 := by
  unfold ms_counts
  split
  · exact Or.inl rfl
  · split
    · exact Or.inr rfl
    · split
      · exact Or.inl rfl
      · exact Or.inr rfl
def ms_thr (S : Md) (k : Nat) : Int32 := (S.2.2.1 15 k - 2) * S.2.2.1 9 (S.2.2.1 14 k).toNatClampNeg
def ms_red (S : Md) (k : Nat) : Int32 := S.2.2.1 18 k - ms_thr S k
theorem dX12_counts_0 : decode cX12_counts 0 = .ok (.aload_n 0, 1) := by decide +kernel
theorem dX12_counts_1 : decode cX12_counts 1 = .ok (.getfield 52, 3) := by decide +kernel
theorem dX12_counts_4 : decode cX12_counts 4 = .ok (.iload_n 1, 1) := by decide +kernel
theorem dX12_counts_5 : decode cX12_counts 5 = .ok (.iaload, 1) := by decide +kernel
theorem dX12_counts_6 : decode cX12_counts 6 = .ok (.iload_n 2, 1) := by decide +kernel
theorem dX12_counts_7 : decode cX12_counts 7 = .ok (.if_icmp .gt 27, 3) := by decide +kernel
theorem dX12_counts_10 : decode cX12_counts 10 = .ok (.aload_n 0, 1) := by decide +kernel
theorem dX12_counts_11 : decode cX12_counts 11 = .ok (.getfield 55, 3) := by decide +kernel
theorem dX12_counts_14 : decode cX12_counts 14 = .ok (.iload_n 1, 1) := by decide +kernel
theorem dX12_counts_15 : decode cX12_counts 15 = .ok (.iaload, 1) := by decide +kernel
theorem dX12_counts_16 : decode cX12_counts 16 = .ok (.iconst (-1), 1) := by decide +kernel
theorem dX12_counts_17 : decode cX12_counts 17 = .ok (.if_icmp .eq 13, 3) := by decide +kernel
theorem dX12_counts_20 : decode cX12_counts 20 = .ok (.aload_n 0, 1) := by decide +kernel
theorem dX12_counts_21 : decode cX12_counts 21 = .ok (.getfield 55, 3) := by decide +kernel
theorem dX12_counts_24 : decode cX12_counts 24 = .ok (.iload_n 1, 1) := by decide +kernel
theorem dX12_counts_25 : decode cX12_counts 25 = .ok (.iaload, 1) := by decide +kernel
theorem dX12_counts_26 : decode cX12_counts 26 = .ok (.iload_n 2, 1) := by decide +kernel
theorem dX12_counts_27 : decode cX12_counts 27 = .ok (.if_icmp .le 7, 3) := by decide +kernel
theorem dX12_counts_30 : decode cX12_counts 30 = .ok (.iconst 1, 1) := by decide +kernel
theorem dX12_counts_31 : decode cX12_counts 31 = .ok (.goto 4, 3) := by decide +kernel
theorem dX12_counts_34 : decode cX12_counts 34 = .ok (.iconst 0, 1) := by decide +kernel
theorem dX12_counts_35 : decode cX12_counts 35 = .ok (.ireturn, 1) := by decide +kernel
set_option maxRecDepth 100000 in
set_option maxHeartbeats 4000000 in
theorem c_X12_counts {h : ai_H} {S : Md} (hmd : md_at h S) {k : Nat} (hk : k < 400) (w : Int32) : ai_Met MX12_counts [.ref 307, .int (nI k), .int w] h (some (.int (ms_counts S k w))) h := by
  refine ai_met (ls := [.ref 307, .int (nI k), .int w]) (by decide) (by simp [ai_en, Value.category]) (by rfl) ?_
  refine rs_aload_n (pc := 0) dX12_counts_0 rfl ?_
  refine rs_getf (pc := 1) dX12_counts_1 fX12_52 (md_lt hmd (by decide)) hmd.2.1 rfl ?_
  refine rs_iload_n (pc := 4) dX12_counts_4 rfl ?_
  refine rs_iald (pc := 5) dX12_counts_5 (md_lt hmd (by decide)) (md_geti (d := 14) (k := 20) (kd := 0) (n := 400) rfl (by decide) hmd) (vp_in_nI hk (by decide)) ?_
  rw [nI_clamp (show k < 2 ^ 31 by omega)]
  refine rs_iload_n (pc := 6) dX12_counts_6 rfl ?_
  refine rs_icmp_gt (tgt := 34) (pc := 7) dX12_counts_7 rfl (fun c_7 => ?_) (fun c_7 => ?_)
  · refine rs_iconst (v := 0) (pc := 34) dX12_counts_34 rfl ?_
    exact wk_zret (pc := 35) dX12_counts_35 rfl (Or.inl rfl) (by simp [ms_counts, c_7]) (rfl)
  · refine rs_aload_n (pc := 10) dX12_counts_10 rfl ?_
    refine rs_getf (pc := 11) dX12_counts_11 fX12_55 (md_lt hmd (by decide)) hmd.2.1 rfl ?_
    refine rs_iload_n (pc := 14) dX12_counts_14 rfl ?_
    refine rs_iald (pc := 15) dX12_counts_15 (md_lt hmd (by decide)) (md_geti (d := 15) (k := 21) (kd := 0) (n := 400) rfl (by decide) hmd) (vp_in_nI hk (by decide)) ?_
    rw [nI_clamp (show k < 2 ^ 31 by omega)]
    refine rs_iconst (v := -1) (pc := 16) dX12_counts_16 rfl ?_
    refine rs_icmp_eq (tgt := 30) (pc := 17) dX12_counts_17 rfl (fun c_17 => ?_) (fun c_17 => ?_)
    · refine rs_iconst (v := 1) (pc := 30) dX12_counts_30 rfl ?_
      refine rs_goto (tgt := 35) (pc := 31) dX12_counts_31 rfl ?_
      exact wk_zret (pc := 35) dX12_counts_35 rfl (Or.inr rfl) (by simp [ms_counts, c_7, c_17]) (rfl)
    · refine rs_aload_n (pc := 20) dX12_counts_20 rfl ?_
      refine rs_getf (pc := 21) dX12_counts_21 fX12_55 (md_lt hmd (by decide)) hmd.2.1 rfl ?_
      refine rs_iload_n (pc := 24) dX12_counts_24 rfl ?_
      refine rs_iald (pc := 25) dX12_counts_25 (md_lt hmd (by decide)) (md_geti (d := 15) (k := 21) (kd := 0) (n := 400) rfl (by decide) hmd) (vp_in_nI hk (by decide)) ?_
      rw [nI_clamp (show k < 2 ^ 31 by omega)]
      refine rs_iload_n (pc := 26) dX12_counts_26 rfl ?_
      refine rs_icmp_le (tgt := 34) (pc := 27) dX12_counts_27 rfl (fun c_27 => ?_) (fun c_27 => ?_)
      · refine rs_iconst (v := 0) (pc := 34) dX12_counts_34 rfl ?_
        exact wk_zret (pc := 35) dX12_counts_35 rfl (Or.inl rfl) (by simp [ms_counts, c_7, c_17, c_27]) (rfl)
      · refine rs_iconst (v := 1) (pc := 30) dX12_counts_30 rfl ?_
        refine rs_goto (tgt := 35) (pc := 31) dX12_counts_31 rfl ?_
        exact wk_zret (pc := 35) dX12_counts_35 rfl (Or.inr rfl) (by simp [ms_counts, c_7, c_17, c_27]) (rfl)
theorem dX12_threaded_0 : decode cX12_threaded 0 = .ok (.aload_n 0, 1) := by decide +kernel
theorem dX12_threaded_1 : decode cX12_threaded 1 = .ok (.getfield 37, 3) := by decide +kernel
theorem dX12_threaded_4 : decode cX12_threaded 4 = .ok (.iload_n 1, 1) := by decide +kernel
theorem dX12_threaded_5 : decode cX12_threaded 5 = .ok (.iaload, 1) := by decide +kernel
theorem dX12_threaded_6 : decode cX12_threaded 6 = .ok (.iconst 2, 1) := by decide +kernel
theorem dX12_threaded_7 : decode cX12_threaded 7 = .ok (.isub, 1) := by decide +kernel
theorem dX12_threaded_8 : decode cX12_threaded 8 = .ok (.aload_n 0, 1) := by decide +kernel
theorem dX12_threaded_9 : decode cX12_threaded 9 = .ok (.getfield 19, 3) := by decide +kernel
theorem dX12_threaded_12 : decode cX12_threaded 12 = .ok (.aload_n 0, 1) := by decide +kernel
theorem dX12_threaded_13 : decode cX12_threaded 13 = .ok (.getfield 34, 3) := by decide +kernel
theorem dX12_threaded_16 : decode cX12_threaded 16 = .ok (.iload_n 1, 1) := by decide +kernel
theorem dX12_threaded_17 : decode cX12_threaded 17 = .ok (.iaload, 1) := by decide +kernel
theorem dX12_threaded_18 : decode cX12_threaded 18 = .ok (.iaload, 1) := by decide +kernel
theorem dX12_threaded_19 : decode cX12_threaded 19 = .ok (.imul, 1) := by decide +kernel
theorem dX12_threaded_20 : decode cX12_threaded 20 = .ok (.ireturn, 1) := by decide +kernel
set_option maxRecDepth 100000 in
set_option maxHeartbeats 4000000 in
theorem c_X12_threaded {h : ai_H} {S : Md} (hmd : md_at h S) {k : Nat} (hk : k < 400) (hst : vp_in (S.2.2.1 14 k) 24) : ai_Met MX12_threaded [.ref 307, .int (nI k)] h (some (.int (ms_thr S k))) h := by
  refine ai_met (ls := [.ref 307, .int (nI k)]) (by decide) (by simp [ai_en, Value.category]) (by rfl) ?_
  refine rs_aload_n (pc := 0) dX12_threaded_0 rfl ?_
  refine rs_getf (pc := 1) dX12_threaded_1 fX12_37 (md_lt hmd (by decide)) hmd.2.1 rfl ?_
  refine rs_iload_n (pc := 4) dX12_threaded_4 rfl ?_
  refine rs_iald (pc := 5) dX12_threaded_5 (md_lt hmd (by decide)) (md_geti (d := 9) (k := 15) (kd := 0) (n := 400) rfl (by decide) hmd) (vp_in_nI hk (by decide)) ?_
  rw [nI_clamp (show k < 2 ^ 31 by omega)]
  refine rs_iconst (v := 2) (pc := 6) dX12_threaded_6 rfl ?_
  refine rs_isub (pc := 7) dX12_threaded_7 ?_
  refine rs_aload_n (pc := 8) dX12_threaded_8 rfl ?_
  refine rs_getf (pc := 9) dX12_threaded_9 fX12_19 (md_lt hmd (by decide)) hmd.2.1 rfl ?_
  refine rs_aload_n (pc := 12) dX12_threaded_12 rfl ?_
  refine rs_getf (pc := 13) dX12_threaded_13 fX12_34 (md_lt hmd (by decide)) hmd.2.1 rfl ?_
  refine rs_iload_n (pc := 16) dX12_threaded_16 rfl ?_
  refine rs_iald (pc := 17) dX12_threaded_17 (md_lt hmd (by decide)) (md_geti (d := 8) (k := 14) (kd := 0) (n := 400) rfl (by decide) hmd) (vp_in_nI hk (by decide)) ?_
  rw [nI_clamp (show k < 2 ^ 31 by omega)]
  refine rs_iald (pc := 18) dX12_threaded_18 (md_lt hmd (by decide)) (md_geti (d := 3) (k := 9) (kd := 0) (n := 24) rfl (by decide) hmd) hst ?_
  refine rs_imul (pc := 19) dX12_threaded_19 ?_
  exact wk_iret (pc := 20) dX12_threaded_20 rfl (rfl) (rfl)
theorem dX12_reduced_0 : decode cX12_reduced 0 = .ok (.aload_n 0, 1) := by decide +kernel
theorem dX12_reduced_1 : decode cX12_reduced 1 = .ok (.getfield 46, 3) := by decide +kernel
theorem dX12_reduced_4 : decode cX12_reduced 4 = .ok (.iload_n 1, 1) := by decide +kernel
theorem dX12_reduced_5 : decode cX12_reduced 5 = .ok (.iaload, 1) := by decide +kernel
theorem dX12_reduced_6 : decode cX12_reduced 6 = .ok (.aload_n 0, 1) := by decide +kernel
theorem dX12_reduced_7 : decode cX12_reduced 7 = .ok (.iload_n 1, 1) := by decide +kernel
theorem dX12_reduced_8 : decode cX12_reduced 8 = .ok (.invokevirtual 226, 3) := by decide +kernel
theorem dX12_reduced_11 : decode cX12_reduced 11 = .ok (.isub, 1) := by decide +kernel
theorem dX12_reduced_12 : decode cX12_reduced 12 = .ok (.ireturn, 1) := by decide +kernel
set_option maxRecDepth 100000 in
set_option maxHeartbeats 4000000 in
theorem c_X12_reduced {h : ai_H} {S : Md} (hmd : md_at h S) {k : Nat} (hk : k < 400) (hst : vp_in (S.2.2.1 14 k) 24) : ai_Met MX12_reduced [.ref 307, .int (nI k)] h (some (.int (ms_red S k))) h := by
  refine ai_met (ls := [.ref 307, .int (nI k)]) (by decide) (by simp [ai_en, Value.category]) (by rfl) ?_
  refine rs_aload_n (pc := 0) dX12_reduced_0 rfl ?_
  refine rs_getf (pc := 1) dX12_reduced_1 fX12_46 (md_lt hmd (by decide)) hmd.2.1 rfl ?_
  refine rs_iload_n (pc := 4) dX12_reduced_4 rfl ?_
  refine rs_iald (pc := 5) dX12_reduced_5 (md_lt hmd (by decide)) (md_geti (d := 12) (k := 18) (kd := 0) (n := 400) rfl (by decide) hmd) (vp_in_nI hk (by decide)) ?_
  rw [nI_clamp (show k < 2 ^ 31 by omega)]
  refine rs_aload_n (pc := 6) dX12_reduced_6 rfl ?_
  refine rs_iload_n (pc := 7) dX12_reduced_7 rfl ?_
  refine rs_callV (as := [_]) (pc := 8) dX12_reduced_8 mk_X12_threaded mlX12_226 in_X12_threaded se_X12_threaded rfl (md_lt hmd (by decide)) hmd.2.1 rfl rfl (Nat.le_of_ble_eq_true rfl) (c_X12_threaded hmd hk hst) ?_
  refine rs_isub (pc := 11) dX12_reduced_11 ?_
  exact wk_iret (pc := 12) dX12_reduced_12 rfl (rfl) (rfl)
