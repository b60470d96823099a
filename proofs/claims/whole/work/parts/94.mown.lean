/-! 94: own of the model (walks laid by wip/whole/p94.py) -/
/-- own, up to record i -/
def owF (B : Bk) (o y k : Int32) (i : Nat) : Ty := ty_fold (xs_ownp B o y k) (fun i => (bk_late B (nI i)).toInt64) i
theorem owF_y {B : Bk} {o y k : Int32} {i : Nat} (h : xs_ownp B o y k i = true) : owF B o y k (i + 1) = ty_add (owF B o y k i) (bk_late B (nI i)).toInt64 := by
  unfold owF
  rw [ty_fold, if_pos h]
theorem owF_n {B : Bk} {o y k : Int32} {i : Nat} (h : ¬ xs_ownp B o y k i = true) : owF B o y k (i + 1) = owF B o y k i := by
  unfold owF
  rw [ty_fold, if_neg h]
theorem c64_lt {a b : Int64} : (a < b) ↔ a.toInt < b.toInt := Int64.lt_iff_toInt_lt
theorem c6432 {a : Int64} {v : Int32} (ha : a = a.toInt32.toInt64) : (v.toInt64 < a ↔ v.toInt < a.toInt32.toInt) ∧ (a < v.toInt64 ↔ a.toInt32.toInt < v.toInt) := by
  have e : a.toInt = a.toInt32.toInt := by
    conv => lhs; rw [ha]
    exact Int32.toInt_toInt64 _
  rw [c64_lt, c64_lt, Int32.toInt_toInt64, e]
  exact ⟨Iff.rfl, Iff.rfl⟩
theorem lo32 {t : Ty} {v : Int32} (h : t.2.2.1 = t.2.2.1.toInt32.toInt64) : (ty_add t v.toInt64).2.2.1.toInt32 = (if t.1 = 0 ∨ ¬ t.2.2.1.toInt32 ≤ v then v else t.2.2.1.toInt32) := by
  show (ty_lo t.1 t.2.2.1 v.toInt64).toInt32 = _
  unfold ty_lo bi_minL
  by_cases c : t.1 = 0
  · rw [if_pos c, if_pos (Or.inl c), Int32.toInt32_toInt64]
  · rw [if_neg c]
    by_cases d : v.toInt64 < t.2.2.1
    · have z := (c6432 h).1.mp d
      rw [if_pos d, if_pos (Or.inr (by rw [i32_le]; omega)), Int32.toInt32_toInt64]
    · have z : ¬ v.toInt < t.2.2.1.toInt32.toInt := fun w => d ((c6432 h).1.mpr w)
      rw [if_neg d, if_neg (by rw [i32_le]; rintro (w | w); exact c w; exact w (by omega))]
theorem hi32 {t : Ty} {v : Int32} (h : t.2.2.2 = t.2.2.2.toInt32.toInt64) : (ty_add t v.toInt64).2.2.2.toInt32 = (if t.1 = 0 ∨ ¬ v ≤ t.2.2.2.toInt32 then v else t.2.2.2.toInt32) := by
  show (ty_hi t.1 t.2.2.2 v.toInt64).toInt32 = _
  unfold ty_hi bi_maxL
  by_cases c : t.1 = 0
  · rw [if_pos c, if_pos (Or.inl c), Int32.toInt32_toInt64]
  · rw [if_neg c]
    by_cases d : t.2.2.2 < v.toInt64
    · have z := (c6432 h).2.mp d
      rw [if_pos d, if_pos (Or.inr (by rw [i32_le]; omega)), Int32.toInt32_toInt64]
    · have z : ¬ t.2.2.2.toInt32.toInt < v.toInt := fun w => d ((c6432 h).2.mpr w)
      rw [if_neg d, if_neg (by rw [i32_le]; rintro (w | w); exact c w; exact w (by omega))]
theorem c3264 (v : Int32) : v.toInt64 = v.toInt64.toInt32.toInt64 := by rw [Int32.toInt32_toInt64]
theorem owF_lo (B : Bk) (o y k : Int32) (i : Nat) : (owF B o y k i).2.2.1 = (owF B o y k i).2.2.1.toInt32.toInt64 ∧ (owF B o y k i).2.2.2 = (owF B o y k i).2.2.2.toInt32.toInt64 := by
  induction i with
  | zero =>
    show (0 : Int64) = (0 : Int64).toInt32.toInt64 ∧ (0 : Int64) = (0 : Int64).toInt32.toInt64
    exact ⟨by decide, by decide⟩
  | succ i ih =>
    by_cases h : xs_ownp B o y k i = true
    · rw [owF_y h]
      show ty_lo _ _ _ = (ty_lo _ _ _).toInt32.toInt64 ∧ ty_hi _ _ _ = (ty_hi _ _ _).toInt32.toInt64
      unfold ty_lo ty_hi bi_minL bi_maxL
      constructor
      · split
        · exact c3264 _
        · split
          · exact c3264 _
          · exact ih.1
      · split
        · exact c3264 _
        · split
          · exact c3264 _
          · exact ih.2
    · rw [owF_n h]
      exact ih
theorem owF_n0 {B : Bk} {ln : Nat} (hok : bk_ok B ln) (o y k : Int32) (i : Nat) (hi : i ≤ nR B) : (∃ m, m ≤ i ∧ (owF B o y k i).1 = nI m) ∧ ∃ Z : Int, -(10000 * i) ≤ Z ∧ Z ≤ 10000 * i ∧ (owF B o y k i).2.1 = aL Z := by
  induction i with
  | zero => exact ⟨⟨0, by omega, rfl⟩, 0, by omega, by omega, rfl⟩
  | succ i ih =>
    obtain ⟨⟨m, hm, e1⟩, Z, z1, z2, e2⟩ := ih (by omega)
    by_cases h : xs_ownp B o y k i = true
    · rw [owF_y h]
      have hr := hok.2.2.2.2.1.2.2 i (by omega)
      obtain ⟨-, -, -, -, -, -, -, -, -, -, a1, a2, a3, a4, -⟩ := hr
      have hl : (bk_late B (nI i)).toInt64 = aL ((bk_rat B (nI i) 5).toInt - (bk_rat B (nI i) 6).toInt) := by
        unfold bk_late
        rw [← aI_to (bk_rat B (nI i) 5), ← aI_to (bk_rat B (nI i) 6), aI_sub, aI_i2l (by omega) (by omega), aI_to, aI_to]
      refine ⟨⟨m + 1, by omega, ?_⟩, Z + ((bk_rat B (nI i) 5).toInt - (bk_rat B (nI i) 6).toInt), by omega, by omega, ?_⟩
      · rw [ty_add1, e1, nI_1]
      · show (owF B o y k i).2.1 + _ = _
        rw [e2, hl, aL_add]
    · rw [owF_n h]
      exact ⟨⟨m, by omega, e1⟩, Z, by omega, by omega, e2⟩
theorem ow_thou {B : Bk} {ln : Nat} (hok : bk_ok B ln) {o y k : Int32} (h : ¬ (owF B o y k (nR B)).1 = 0) : bi_fl (1000 * (owF B o y k (nR B)).2.1) (owF B o y k (nR B)).1.toInt64 = ty_thou (owF B o y k (nR B)).1 (owF B o y k (nR B)).2.1 := by
  obtain ⟨⟨m, hm, e1⟩, Z, z1, z2, e2⟩ := owF_n0 hok o y k (nR B) (Nat.le_refl _)
  have h4 := hok.2.2.2.2.1.2.1
  have hm0 : 0 < m := Nat.pos_of_ne_zero fun z => h (by rw [e1, z]; rfl)
  unfold ty_thou
  rw [if_neg h, e1, e2, show (nI m).toInt64 = aL (m : Int) from aI_i2l (a := (m : Int)) (by omega) (by omega), show (1000 : Int64) = aL 1000 from rfl, aL_mul, aL_fl (by omega) (by omega) (by omega) (by omega), aL_fd (by omega) (by omega) (by omega) (by omega)]
theorem dX12_own_0 : decode cX12_own 0 = .ok (.aload_n 0, 1) := by decide +kernel
theorem dX12_own_1 : decode cX12_own 1 = .ok (.iload_n 1, 1) := by decide +kernel
theorem dX12_own_2 : decode cX12_own 2 = .ok (.invokevirtual 217, 3) := by decide +kernel
theorem dX12_own_5 : decode cX12_own 5 = .ok (.ifCond .eq 37, 3) := by decide +kernel
theorem dX12_own_8 : decode cX12_own 8 = .ok (.iload_n 2, 1) := by decide +kernel
theorem dX12_own_9 : decode cX12_own 9 = .ok (.i2l, 1) := by decide +kernel
theorem dX12_own_10 : decode cX12_own 10 = .ok (.ldc2_w 446, 3) := by decide +kernel
theorem dX12_own_13 : decode cX12_own 13 = .ok (.ldc2_w 448, 3) := by decide +kernel
theorem dX12_own_16 : decode cX12_own 16 = .ok (.invokestatic 181, 3) := by decide +kernel
theorem dX12_own_19 : decode cX12_own 19 = .ok (.ifCond .eq 23, 3) := by decide +kernel
theorem dX12_own_22 : decode cX12_own 22 = .ok (.iload_n 3, 1) := by decide +kernel
theorem dX12_own_23 : decode cX12_own 23 = .ok (.invokestatic 230, 3) := by decide +kernel
theorem dX12_own_26 : decode cX12_own 26 = .ok (.ifCond .eq 16, 3) := by decide +kernel
theorem dX12_own_29 : decode cX12_own 29 = .ok (.iload 4, 2) := by decide +kernel
theorem dX12_own_31 : decode cX12_own 31 = .ok (.i2l, 1) := by decide +kernel
theorem dX12_own_32 : decode cX12_own 32 = .ok (.lconst 0, 1) := by decide +kernel
theorem dX12_own_33 : decode cX12_own 33 = .ok (.ldc2_w 441, 3) := by decide +kernel
theorem dX12_own_36 : decode cX12_own 36 = .ok (.invokestatic 181, 3) := by decide +kernel
theorem dX12_own_39 : decode cX12_own 39 = .ok (.ifCond .ne 7, 3) := by decide +kernel
theorem dX12_own_42 : decode cX12_own 42 = .ok (.ldc_w 425, 3) := by decide +kernel
theorem dX12_own_45 : decode cX12_own 45 = .ok (.ireturn, 1) := by decide +kernel
theorem dX12_own_46 : decode cX12_own 46 = .ok (.iconst 0, 1) := by decide +kernel
theorem dX12_own_47 : decode cX12_own 47 = .ok (.istore 5, 2) := by decide +kernel
theorem dX12_own_49 : decode cX12_own 49 = .ok (.lconst 0, 1) := by decide +kernel
theorem dX12_own_50 : decode cX12_own 50 = .ok (.lstore 6, 2) := by decide +kernel
theorem dX12_own_52 : decode cX12_own 52 = .ok (.iconst 0, 1) := by decide +kernel
theorem dX12_own_53 : decode cX12_own 53 = .ok (.istore 8, 2) := by decide +kernel
theorem dX12_own_55 : decode cX12_own 55 = .ok (.iconst 0, 1) := by decide +kernel
theorem dX12_own_56 : decode cX12_own 56 = .ok (.istore 9, 2) := by decide +kernel
theorem dX12_own_58 : decode cX12_own 58 = .ok (.iconst 0, 1) := by decide +kernel
theorem dX12_own_59 : decode cX12_own 59 = .ok (.istore 10, 2) := by decide +kernel
theorem dX12_own_61 : decode cX12_own 61 = .ok (.iload 10, 2) := by decide +kernel
theorem dX12_own_63 : decode cX12_own 63 = .ok (.aload_n 0, 1) := by decide +kernel
theorem dX12_own_64 : decode cX12_own 64 = .ok (.getfield 197, 3) := by decide +kernel
theorem dX12_own_67 : decode cX12_own 67 = .ok (.if_icmp .ge 114, 3) := by decide +kernel
theorem dX12_own_70 : decode cX12_own 70 = .ok (.aload_n 0, 1) := by decide +kernel
theorem dX12_own_71 : decode cX12_own 71 = .ok (.iload 10, 2) := by decide +kernel
theorem dX12_own_73 : decode cX12_own 73 = .ok (.iload_n 1, 1) := by decide +kernel
theorem dX12_own_74 : decode cX12_own 74 = .ok (.iload_n 3, 1) := by decide +kernel
theorem dX12_own_75 : decode cX12_own 75 = .ok (.invokevirtual 450, 3) := by decide +kernel
theorem dX12_own_78 : decode cX12_own 78 = .ok (.ifCond .eq 97, 3) := by decide +kernel
theorem dX12_own_81 : decode cX12_own 81 = .ok (.iload_n 2, 1) := by decide +kernel
theorem dX12_own_82 : decode cX12_own 82 = .ok (.iconst (-1), 1) := by decide +kernel
theorem dX12_own_83 : decode cX12_own 83 = .ok (.if_icmp .eq 22, 3) := by decide +kernel
theorem dX12_own_86 : decode cX12_own 86 = .ok (.aload_n 0, 1) := by decide +kernel
theorem dX12_own_87 : decode cX12_own 87 = .ok (.getfield 28, 3) := by decide +kernel
theorem dX12_own_90 : decode cX12_own 90 = .ok (.aload_n 0, 1) := by decide +kernel
theorem dX12_own_91 : decode cX12_own 91 = .ok (.getfield 31, 3) := by decide +kernel
theorem dX12_own_94 : decode cX12_own 94 = .ok (.iload 10, 2) := by decide +kernel
theorem dX12_own_96 : decode cX12_own 96 = .ok (.iaload, 1) := by decide +kernel
theorem dX12_own_97 : decode cX12_own 97 = .ok (.iaload, 1) := by decide +kernel
theorem dX12_own_98 : decode cX12_own 98 = .ok (.bipush 52, 2) := by decide +kernel
theorem dX12_own_100 : decode cX12_own 100 = .ok (.idiv, 1) := by decide +kernel
theorem dX12_own_101 : decode cX12_own 101 = .ok (.iload_n 2, 1) := by decide +kernel
theorem dX12_own_102 : decode cX12_own 102 = .ok (.if_icmp .ne 73, 3) := by decide +kernel
theorem dX12_own_105 : decode cX12_own 105 = .ok (.aload_n 0, 1) := by decide +kernel
theorem dX12_own_106 : decode cX12_own 106 = .ok (.getfield 46, 3) := by decide +kernel
theorem dX12_own_109 : decode cX12_own 109 = .ok (.iload 10, 2) := by decide +kernel
theorem dX12_own_111 : decode cX12_own 111 = .ok (.iaload, 1) := by decide +kernel
theorem dX12_own_112 : decode cX12_own 112 = .ok (.aload_n 0, 1) := by decide +kernel
theorem dX12_own_113 : decode cX12_own 113 = .ok (.getfield 49, 3) := by decide +kernel
theorem dX12_own_116 : decode cX12_own 116 = .ok (.iload 10, 2) := by decide +kernel
theorem dX12_own_118 : decode cX12_own 118 = .ok (.iaload, 1) := by decide +kernel
theorem dX12_own_119 : decode cX12_own 119 = .ok (.isub, 1) := by decide +kernel
theorem dX12_own_120 : decode cX12_own 120 = .ok (.istore 11, 2) := by decide +kernel
theorem dX12_own_122 : decode cX12_own 122 = .ok (.iload 5, 2) := by decide +kernel
theorem dX12_own_124 : decode cX12_own 124 = .ok (.ifCond .eq 10, 3) := by decide +kernel
theorem dX12_own_127 : decode cX12_own 127 = .ok (.iload 11, 2) := by decide +kernel
theorem dX12_own_129 : decode cX12_own 129 = .ok (.iload 8, 2) := by decide +kernel
theorem dX12_own_131 : decode cX12_own 131 = .ok (.if_icmp .ge 8, 3) := by decide +kernel
theorem dX12_own_134 : decode cX12_own 134 = .ok (.iload 11, 2) := by decide +kernel
theorem dX12_own_136 : decode cX12_own 136 = .ok (.goto 5, 3) := by decide +kernel
theorem dX12_own_139 : decode cX12_own 139 = .ok (.iload 8, 2) := by decide +kernel
theorem dX12_own_141 : decode cX12_own 141 = .ok (.istore 8, 2) := by decide +kernel
theorem dX12_own_143 : decode cX12_own 143 = .ok (.iload 5, 2) := by decide +kernel
theorem dX12_own_145 : decode cX12_own 145 = .ok (.ifCond .eq 10, 3) := by decide +kernel
theorem dX12_own_148 : decode cX12_own 148 = .ok (.iload 11, 2) := by decide +kernel
theorem dX12_own_150 : decode cX12_own 150 = .ok (.iload 9, 2) := by decide +kernel
theorem dX12_own_152 : decode cX12_own 152 = .ok (.if_icmp .le 8, 3) := by decide +kernel
theorem dX12_own_155 : decode cX12_own 155 = .ok (.iload 11, 2) := by decide +kernel
theorem dX12_own_157 : decode cX12_own 157 = .ok (.goto 5, 3) := by decide +kernel
theorem dX12_own_160 : decode cX12_own 160 = .ok (.iload 9, 2) := by decide +kernel
theorem dX12_own_162 : decode cX12_own 162 = .ok (.istore 9, 2) := by decide +kernel
theorem dX12_own_164 : decode cX12_own 164 = .ok (.lload 6, 2) := by decide +kernel
theorem dX12_own_166 : decode cX12_own 166 = .ok (.iload 11, 2) := by decide +kernel
theorem dX12_own_168 : decode cX12_own 168 = .ok (.i2l, 1) := by decide +kernel
theorem dX12_own_169 : decode cX12_own 169 = .ok (.ladd, 1) := by decide +kernel
theorem dX12_own_170 : decode cX12_own 170 = .ok (.lstore 6, 2) := by decide +kernel
theorem dX12_own_172 : decode cX12_own 172 = .ok (.iinc 5 1, 3) := by decide +kernel
theorem dX12_own_175 : decode cX12_own 175 = .ok (.iinc 10 1, 3) := by decide +kernel
theorem dX12_own_178 : decode cX12_own 178 = .ok (.goto (-117), 3) := by decide +kernel
theorem dX12_own_181 : decode cX12_own 181 = .ok (.iload 4, 2) := by decide +kernel
theorem dX12_own_183 : decode cX12_own 183 = .ok (.ifCond .ne 6, 3) := by decide +kernel
theorem dX12_own_186 : decode cX12_own 186 = .ok (.iload 5, 2) := by decide +kernel
theorem dX12_own_188 : decode cX12_own 188 = .ok (.ireturn, 1) := by decide +kernel
theorem dX12_own_189 : decode cX12_own 189 = .ok (.iload 5, 2) := by decide +kernel
theorem dX12_own_191 : decode cX12_own 191 = .ok (.ifCond .ne 8, 3) := by decide +kernel
theorem dX12_own_194 : decode cX12_own 194 = .ok (.ldc 233, 2) := by decide +kernel
theorem dX12_own_196 : decode cX12_own 196 = .ok (.goto 30, 3) := by decide +kernel
theorem dX12_own_199 : decode cX12_own 199 = .ok (.iload 4, 2) := by decide +kernel
theorem dX12_own_201 : decode cX12_own 201 = .ok (.iconst 1, 1) := by decide +kernel
theorem dX12_own_202 : decode cX12_own 202 = .ok (.if_icmp .ne 19, 3) := by decide +kernel
theorem dX12_own_205 : decode cX12_own 205 = .ok (.ldc2_w 401, 3) := by decide +kernel
theorem dX12_own_208 : decode cX12_own 208 = .ok (.lload 6, 2) := by decide +kernel
theorem dX12_own_210 : decode cX12_own 210 = .ok (.lmul, 1) := by decide +kernel
theorem dX12_own_211 : decode cX12_own 211 = .ok (.iload 5, 2) := by decide +kernel
theorem dX12_own_213 : decode cX12_own 213 = .ok (.i2l, 1) := by decide +kernel
theorem dX12_own_214 : decode cX12_own 214 = .ok (.invokestatic 403, 3) := by decide +kernel
theorem dX12_own_217 : decode cX12_own 217 = .ok (.l2i, 1) := by decide +kernel
theorem dX12_own_218 : decode cX12_own 218 = .ok (.goto 8, 3) := by decide +kernel
theorem dX12_own_221 : decode cX12_own 221 = .ok (.iload 9, 2) := by decide +kernel
theorem dX12_own_223 : decode cX12_own 223 = .ok (.iload 8, 2) := by decide +kernel
theorem dX12_own_225 : decode cX12_own 225 = .ok (.isub, 1) := by decide +kernel
theorem dX12_own_226 : decode cX12_own 226 = .ok (.ireturn, 1) := by decide +kernel
set_option maxRecDepth 100000 in
set_option maxHeartbeats 4000000 in
theorem l_X12_own {h : ai_H} {S : Md} {B : Bk} {ln : Nat} {o y k x : Int32} (hok : bk_ok B ln) (hRB : RB B S) (hw : k.toInt ≤ 9999) (hmd : md_at h S) : ∀ (m i : Nat) (u11 : Value), i ≤ nR B → nR B + 1 ≤ i + m → ai_W MX12_own 61 [.ref 307, .int o, .int y, .int k, .int x, .int (owF B o y k i).1, .long (owF B o y k i).2.1, .float 0, .int (owF B o y k i).2.2.1.toInt32, .int (owF B o y k i).2.2.2.toInt32, .int (nI i), u11] [] h (fun res g => g = h ∧ res = some (.int (if x = 0 then (owF B o y k (nR B)).1 else if (owF B o y k (nR B)).1 = 0 then -1000000000 else if x = 1 then (ty_thou (owF B o y k (nR B)).1 (owF B o y k (nR B)).2.1).toInt32 else ((owF B o y k (nR B)).2.2.2 - (owF B o y k (nR B)).2.2.1).toInt32))) := by
  have hr4 := hok.2.2.2.2.1.2.1
  intro m
  induction m with
  | zero => intro i u11 h1 h2; exact absurd h2 (by omega)
  | succ m ih =>
    intro i u11 hi0 him
    refine wq (fun _ _ kk => rs_iload (pc := 61) dX12_own_61 rfl kk) ?_
    refine wq (fun _ _ kk => rs_aload_n (pc := 63) dX12_own_63 rfl kk) ?_
    refine wq (fun _ _ kk => rs_getf (pc := 64) dX12_own_64 fX12_197 (md_lt hmd (by decide)) hmd.2.1 rfl kk) ?_
    rw [hRB.1.2.2.2.2.1, hok.2.2.2.2.1.1]
    refine wq_br (fun _ _ kt kf => rs_icmp_ge (tgt := 181) (pc := 67) dX12_own_67 rfl kt kf) (fun c_67 => ?_) (fun c_67 => ?_)
    · have hie : i = nR B := lp_exit rfl (by omega) hi0 c_67
      subst hie
      refine wq (fun _ _ kk => rs_iload (pc := 181) dX12_own_181 rfl kk) ?_
      refine wq_bn (fun _ _ kt kf => rs_if_ne (tgt := 189) (pc := 183) dX12_own_183 rfl kt kf) (fun c_183 => ?_) (fun c_183 => ?_)
      · refine wq (fun _ _ kk => rs_iload (pc := 189) dX12_own_189 rfl kk) ?_
        refine wq_bn (fun _ _ kt kf => rs_if_ne (tgt := 199) (pc := 191) dX12_own_191 rfl kt kf) (fun c_191 => ?_) (fun c_191 => ?_)
        · refine wq (fun _ _ kk => rs_iload (pc := 199) dX12_own_199 rfl kk) ?_
          refine wq (fun _ _ kk => rs_iconst (v := 1) (pc := 201) dX12_own_201 rfl kk) ?_
          refine wq_bn (fun _ _ kt kf => rs_icmp_ne (tgt := 221) (pc := 202) dX12_own_202 rfl kt kf) (fun c_202 => ?_) (fun c_202 => ?_)
          · refine wq (fun _ _ kk => rs_iload (pc := 221) dX12_own_221 rfl kk) ?_
            refine wq (fun _ _ kk => rs_iload (pc := 223) dX12_own_223 rfl kk) ?_
            refine wq (fun _ _ kk => rs_isub (pc := 225) dX12_own_225 kk) ?_
            refine wq_ret ?_ (rs_iret (pc := 226) dX12_own_226 rfl)
            refine ⟨rfl, ?_⟩
            rw [if_neg c_183]
            first
            | (rw [if_pos c_191]; done)
            | (rw [if_neg c_191, if_pos c_202, ← ow_thou hok c_191]; done)
            | (rw [if_neg c_191, if_neg c_202, Int64.toInt32_sub])
          · refine wq (fun _ _ kk => rs_ldc2 (pc := 205) dX12_own_205 cnX12_401 kk) ?_
            refine wq (fun _ _ kk => rs_lload (pc := 208) dX12_own_208 rfl kk) ?_
            refine wq (fun _ _ kk => rs_lmul (pc := 210) dX12_own_210 kk) ?_
            refine wq (fun _ _ kk => rs_iload (pc := 211) dX12_own_211 rfl kk) ?_
            refine wq (fun _ _ kk => rs_i2l (pc := 213) dX12_own_213 kk) ?_
            refine wq (fun _ _ kk => rs_callS (as := [_, _]) (pc := 214) dX12_own_214 mk_X12_floorOf mlX12_403 st_X12_floorOf rfl rfl (Nat.le_of_ble_eq_true rfl) (c_X12_floorOf (i64_ne0 c_191)) kk) ?_
            refine wq (fun _ _ kk => rs_l2i (pc := 217) dX12_own_217 kk) ?_
            refine wq (fun _ _ kk => rs_goto (tgt := 226) (pc := 218) dX12_own_218 rfl kk) ?_
            refine wq_ret ?_ (rs_iret (pc := 226) dX12_own_226 rfl)
            refine ⟨rfl, ?_⟩
            rw [if_neg c_183]
            first
            | (rw [if_pos c_191]; done)
            | (rw [if_neg c_191, if_pos c_202, ← ow_thou hok c_191]; done)
            | (rw [if_neg c_191, if_neg c_202, Int64.toInt32_sub])
        · refine wq (fun _ _ kk => rs_ldc (pc := 194) dX12_own_194 cnX12_233 kk) ?_
          refine wq (fun _ _ kk => rs_goto (tgt := 226) (pc := 196) dX12_own_196 rfl kk) ?_
          refine wq_ret ?_ (rs_iret (pc := 226) dX12_own_226 rfl)
          refine ⟨rfl, ?_⟩
          rw [if_neg c_183]
          first
          | (rw [if_pos c_191]; done)
          | (rw [if_neg c_191, if_pos c_202, ← ow_thou hok c_191]; done)
          | (rw [if_neg c_191, if_neg c_202, Int64.toInt32_sub])
      · refine wq (fun _ _ kk => rs_iload (pc := 186) dX12_own_186 rfl kk) ?_
        refine wq_ret ?_ (rs_iret (pc := 188) dX12_own_188 rfl)
        exact ⟨rfl, by rw [if_pos c_183]⟩
    · have hi : i < nR B := lp_go rfl (by omega) c_67
      obtain ⟨q1, -, -, -, -, q6, q7, -⟩ := hRB.2.2.2.2.1 i hi
      have hri := hok.2.2.2.2.1.2.2 i hi
      obtain ⟨n', hn', en⟩ := i32_ex hri.1 hri.2.1
      have hn8 := hok.2.2.2.1.2.1
      have q9 : S.2.2.1 12 n' = bk_nat B (nI n') 1 := (hRB.2.2.2.1 n' hn').2
      have hyr : bk_year B (nI i) = bk_nat B (nI n') 1 / 52 := by
        unfold bk_year bk_week
        rw [en]
        exact yr_is (hok.2.2.2.1.2.2 n' hn').2.2.1 (hok.2.2.2.1.2.2 n' hn').2.2.2
      refine wq (fun _ _ kk => rs_aload_n (pc := 70) dX12_own_70 rfl kk) ?_
      refine wq (fun _ _ kk => rs_iload (pc := 71) dX12_own_71 rfl kk) ?_
      refine wq (fun _ _ kk => rs_iload_n (pc := 73) dX12_own_73 rfl kk) ?_
      refine wq (fun _ _ kk => rs_iload_n (pc := 74) dX12_own_74 rfl kk) ?_
      refine wq (fun _ _ kk => rs_callV (as := [_, _, _]) (pc := 75) dX12_own_75 mk_X12_isOwn mlX12_450 in_X12_isOwn se_X12_isOwn rfl (md_lt hmd (by decide)) hmd.2.1 rfl rfl (Nat.le_of_ble_eq_true rfl) (c_X12_isOwn hok hRB hi hw hmd) kk) ?_
      refine wq_br (fun _ _ kt kf => rs_if_eq (tgt := 175) (pc := 78) dX12_own_78 rfl kt kf) (fun c_78 => ?_) (fun c_78 => ?_)
      · refine wq (fun _ _ kk => wk_iinc10 (v := nI (i + 1)) (pc := 175) dX12_own_175 (by decide) rfl (nI_1 i) kk) ?_
        refine wq (fun _ _ kk => rs_goto (tgt := 61) (pc := 178) dX12_own_178 rfl kk) ?_
        have e := fun u => ih (i + 1) u (by omega) (by omega)
        first
        | (rw [owF_n (show ¬ xs_ownp B o y k i = true from fun z => (of_decide_eq_true z).1 c_78)] at e; exact e _)
        | (rw [owF_n (show ¬ xs_ownp B o y k i = true from fun z => (of_decide_eq_true z).2.elim c_83 c_102)] at e; exact e _)
        | (have cc : xs_ownp B o y k i = true := decide_eq_true ⟨c_78, Or.inl c_83⟩
           rw [owF_y cc, ty_add1, lo32 (owF_lo ..).1, hi32 (owF_lo ..).2] at e
           first
           | rw [if_pos (Or.inl c_124)] at e
           | rw [if_pos (Or.inr c_131)] at e
           | rw [if_neg (fun z => z.elim c_124 (fun w => w c_131))] at e
           first
           | rw [if_pos (Or.inl c_145)] at e
           | rw [if_pos (Or.inr c_152)] at e
           | rw [if_neg (fun z => z.elim c_145 (fun w => w c_152))] at e
           exact e _)
        | (have cc : xs_ownp B o y k i = true := decide_eq_true ⟨c_78, Or.inr c_102⟩
           rw [owF_y cc, ty_add1, lo32 (owF_lo ..).1, hi32 (owF_lo ..).2] at e
           first
           | rw [if_pos (Or.inl c_124)] at e
           | rw [if_pos (Or.inr c_131)] at e
           | rw [if_neg (fun z => z.elim c_124 (fun w => w c_131))] at e
           first
           | rw [if_pos (Or.inl c_145)] at e
           | rw [if_pos (Or.inr c_152)] at e
           | rw [if_neg (fun z => z.elim c_145 (fun w => w c_152))] at e
           exact e _)
      · refine wq (fun _ _ kk => rs_iload_n (pc := 81) dX12_own_81 rfl kk) ?_
        refine wq (fun _ _ kk => rs_iconst (v := -1) (pc := 82) dX12_own_82 rfl kk) ?_
        refine wq_br (fun _ _ kt kf => rs_icmp_eq (tgt := 105) (pc := 83) dX12_own_83 rfl kt kf) (fun c_83 => ?_) (fun c_83 => ?_)
        · refine wq (fun _ _ kk => rs_aload_n (pc := 105) dX12_own_105 rfl kk) ?_
          refine wq (fun _ _ kk => rs_getf (pc := 106) dX12_own_106 fX12_46 (md_lt hmd (by decide)) hmd.2.1 rfl kk) ?_
          refine wq (fun _ _ kk => rs_iload (pc := 109) dX12_own_109 rfl kk) ?_
          refine wq (fun _ _ kk => rs_iald (pc := 111) dX12_own_111 (md_lt hmd (by decide)) (md_geti (d := 12) (k := 18) (kd := 0) (n := 400) rfl (by decide) hmd) (vp_in_nI (n := i) (N := 400) (by omega) (by decide)) kk) ?_
          rw [nI_clamp (show i < 2 ^ 31 by omega), q6]
          refine wq (fun _ _ kk => rs_aload_n (pc := 112) dX12_own_112 rfl kk) ?_
          refine wq (fun _ _ kk => rs_getf (pc := 113) dX12_own_113 fX12_49 (md_lt hmd (by decide)) hmd.2.1 rfl kk) ?_
          refine wq (fun _ _ kk => rs_iload (pc := 116) dX12_own_116 rfl kk) ?_
          refine wq (fun _ _ kk => rs_iald (pc := 118) dX12_own_118 (md_lt hmd (by decide)) (md_geti (d := 13) (k := 19) (kd := 0) (n := 400) rfl (by decide) hmd) (vp_in_nI (n := i) (N := 400) (by omega) (by decide)) kk) ?_
          rw [nI_clamp (show i < 2 ^ 31 by omega), q7]
          refine wq (fun _ _ kk => rs_isub (pc := 119) dX12_own_119 kk) ?_
          rw [show bk_rat B (nI i) 5 - bk_rat B (nI i) 6 = bk_late B (nI i) from rfl]
          refine wq (fun _ _ kk => wk_ist11 (pc := 120) dX12_own_120 (by decide) rfl kk) ?_
          refine wq (fun _ _ kk => rs_iload (pc := 122) dX12_own_122 rfl kk) ?_
          refine wq_br (fun _ _ kt kf => rs_if_eq (tgt := 134) (pc := 124) dX12_own_124 rfl kt kf) (fun c_124 => ?_) (fun c_124 => ?_)
          · refine wq (fun _ _ kk => rs_iload (pc := 134) dX12_own_134 rfl kk) ?_
            refine wq (fun _ _ kk => rs_goto (tgt := 141) (pc := 136) dX12_own_136 rfl kk) ?_
            refine wq (fun _ _ kk => wk_ist8 (pc := 141) dX12_own_141 (by decide) rfl kk) ?_
            refine wq (fun _ _ kk => rs_iload (pc := 143) dX12_own_143 rfl kk) ?_
            refine wq_br (fun _ _ kt kf => rs_if_eq (tgt := 155) (pc := 145) dX12_own_145 rfl kt kf) (fun c_145 => ?_) (fun c_145 => ?_)
            · refine wq (fun _ _ kk => rs_iload (pc := 155) dX12_own_155 rfl kk) ?_
              refine wq (fun _ _ kk => rs_goto (tgt := 162) (pc := 157) dX12_own_157 rfl kk) ?_
              refine wq (fun _ _ kk => wk_ist9 (pc := 162) dX12_own_162 (by decide) rfl kk) ?_
              refine wq (fun _ _ kk => rs_lload (pc := 164) dX12_own_164 rfl kk) ?_
              refine wq (fun _ _ kk => rs_iload (pc := 166) dX12_own_166 rfl kk) ?_
              refine wq (fun _ _ kk => rs_i2l (pc := 168) dX12_own_168 kk) ?_
              refine wq (fun _ _ kk => rs_ladd (pc := 169) dX12_own_169 kk) ?_
              refine wq (fun _ _ kk => wk_lst6 (pc := 170) dX12_own_170 (by decide) rfl kk) ?_
              refine wq (fun _ _ kk => wk_iinc5 (pc := 172) dX12_own_172 (by decide) rfl rfl kk) ?_
              refine wq (fun _ _ kk => wk_iinc10 (v := nI (i + 1)) (pc := 175) dX12_own_175 (by decide) rfl (nI_1 i) kk) ?_
              refine wq (fun _ _ kk => rs_goto (tgt := 61) (pc := 178) dX12_own_178 rfl kk) ?_
              have e := fun u => ih (i + 1) u (by omega) (by omega)
              first
              | (rw [owF_n (show ¬ xs_ownp B o y k i = true from fun z => (of_decide_eq_true z).1 c_78)] at e; exact e _)
              | (rw [owF_n (show ¬ xs_ownp B o y k i = true from fun z => (of_decide_eq_true z).2.elim c_83 c_102)] at e; exact e _)
              | (have cc : xs_ownp B o y k i = true := decide_eq_true ⟨c_78, Or.inl c_83⟩
                 rw [owF_y cc, ty_add1, lo32 (owF_lo ..).1, hi32 (owF_lo ..).2] at e
                 first
                 | rw [if_pos (Or.inl c_124)] at e
                 | rw [if_pos (Or.inr c_131)] at e
                 | rw [if_neg (fun z => z.elim c_124 (fun w => w c_131))] at e
                 first
                 | rw [if_pos (Or.inl c_145)] at e
                 | rw [if_pos (Or.inr c_152)] at e
                 | rw [if_neg (fun z => z.elim c_145 (fun w => w c_152))] at e
                 exact e _)
              | (have cc : xs_ownp B o y k i = true := decide_eq_true ⟨c_78, Or.inr c_102⟩
                 rw [owF_y cc, ty_add1, lo32 (owF_lo ..).1, hi32 (owF_lo ..).2] at e
                 first
                 | rw [if_pos (Or.inl c_124)] at e
                 | rw [if_pos (Or.inr c_131)] at e
                 | rw [if_neg (fun z => z.elim c_124 (fun w => w c_131))] at e
                 first
                 | rw [if_pos (Or.inl c_145)] at e
                 | rw [if_pos (Or.inr c_152)] at e
                 | rw [if_neg (fun z => z.elim c_145 (fun w => w c_152))] at e
                 exact e _)
            · refine wq (fun _ _ kk => rs_iload (pc := 148) dX12_own_148 rfl kk) ?_
              refine wq (fun _ _ kk => rs_iload (pc := 150) dX12_own_150 rfl kk) ?_
              refine wq_br (fun _ _ kt kf => rs_icmp_le (tgt := 160) (pc := 152) dX12_own_152 rfl kt kf) (fun c_152 => ?_) (fun c_152 => ?_)
              · refine wq (fun _ _ kk => rs_iload (pc := 160) dX12_own_160 rfl kk) ?_
                refine wq (fun _ _ kk => wk_ist9 (pc := 162) dX12_own_162 (by decide) rfl kk) ?_
                refine wq (fun _ _ kk => rs_lload (pc := 164) dX12_own_164 rfl kk) ?_
                refine wq (fun _ _ kk => rs_iload (pc := 166) dX12_own_166 rfl kk) ?_
                refine wq (fun _ _ kk => rs_i2l (pc := 168) dX12_own_168 kk) ?_
                refine wq (fun _ _ kk => rs_ladd (pc := 169) dX12_own_169 kk) ?_
                refine wq (fun _ _ kk => wk_lst6 (pc := 170) dX12_own_170 (by decide) rfl kk) ?_
                refine wq (fun _ _ kk => wk_iinc5 (pc := 172) dX12_own_172 (by decide) rfl rfl kk) ?_
                refine wq (fun _ _ kk => wk_iinc10 (v := nI (i + 1)) (pc := 175) dX12_own_175 (by decide) rfl (nI_1 i) kk) ?_
                refine wq (fun _ _ kk => rs_goto (tgt := 61) (pc := 178) dX12_own_178 rfl kk) ?_
                have e := fun u => ih (i + 1) u (by omega) (by omega)
                first
                | (rw [owF_n (show ¬ xs_ownp B o y k i = true from fun z => (of_decide_eq_true z).1 c_78)] at e; exact e _)
                | (rw [owF_n (show ¬ xs_ownp B o y k i = true from fun z => (of_decide_eq_true z).2.elim c_83 c_102)] at e; exact e _)
                | (have cc : xs_ownp B o y k i = true := decide_eq_true ⟨c_78, Or.inl c_83⟩
                   rw [owF_y cc, ty_add1, lo32 (owF_lo ..).1, hi32 (owF_lo ..).2] at e
                   first
                   | rw [if_pos (Or.inl c_124)] at e
                   | rw [if_pos (Or.inr c_131)] at e
                   | rw [if_neg (fun z => z.elim c_124 (fun w => w c_131))] at e
                   first
                   | rw [if_pos (Or.inl c_145)] at e
                   | rw [if_pos (Or.inr c_152)] at e
                   | rw [if_neg (fun z => z.elim c_145 (fun w => w c_152))] at e
                   exact e _)
                | (have cc : xs_ownp B o y k i = true := decide_eq_true ⟨c_78, Or.inr c_102⟩
                   rw [owF_y cc, ty_add1, lo32 (owF_lo ..).1, hi32 (owF_lo ..).2] at e
                   first
                   | rw [if_pos (Or.inl c_124)] at e
                   | rw [if_pos (Or.inr c_131)] at e
                   | rw [if_neg (fun z => z.elim c_124 (fun w => w c_131))] at e
                   first
                   | rw [if_pos (Or.inl c_145)] at e
                   | rw [if_pos (Or.inr c_152)] at e
                   | rw [if_neg (fun z => z.elim c_145 (fun w => w c_152))] at e
                   exact e _)
              · refine wq (fun _ _ kk => rs_iload (pc := 155) dX12_own_155 rfl kk) ?_
                refine wq (fun _ _ kk => rs_goto (tgt := 162) (pc := 157) dX12_own_157 rfl kk) ?_
                refine wq (fun _ _ kk => wk_ist9 (pc := 162) dX12_own_162 (by decide) rfl kk) ?_
                refine wq (fun _ _ kk => rs_lload (pc := 164) dX12_own_164 rfl kk) ?_
                refine wq (fun _ _ kk => rs_iload (pc := 166) dX12_own_166 rfl kk) ?_
                refine wq (fun _ _ kk => rs_i2l (pc := 168) dX12_own_168 kk) ?_
                refine wq (fun _ _ kk => rs_ladd (pc := 169) dX12_own_169 kk) ?_
                refine wq (fun _ _ kk => wk_lst6 (pc := 170) dX12_own_170 (by decide) rfl kk) ?_
                refine wq (fun _ _ kk => wk_iinc5 (pc := 172) dX12_own_172 (by decide) rfl rfl kk) ?_
                refine wq (fun _ _ kk => wk_iinc10 (v := nI (i + 1)) (pc := 175) dX12_own_175 (by decide) rfl (nI_1 i) kk) ?_
                refine wq (fun _ _ kk => rs_goto (tgt := 61) (pc := 178) dX12_own_178 rfl kk) ?_
                have e := fun u => ih (i + 1) u (by omega) (by omega)
                first
                | (rw [owF_n (show ¬ xs_ownp B o y k i = true from fun z => (of_decide_eq_true z).1 c_78)] at e; exact e _)
                | (rw [owF_n (show ¬ xs_ownp B o y k i = true from fun z => (of_decide_eq_true z).2.elim c_83 c_102)] at e; exact e _)
                | (have cc : xs_ownp B o y k i = true := decide_eq_true ⟨c_78, Or.inl c_83⟩
                   rw [owF_y cc, ty_add1, lo32 (owF_lo ..).1, hi32 (owF_lo ..).2] at e
                   first
                   | rw [if_pos (Or.inl c_124)] at e
                   | rw [if_pos (Or.inr c_131)] at e
                   | rw [if_neg (fun z => z.elim c_124 (fun w => w c_131))] at e
                   first
                   | rw [if_pos (Or.inl c_145)] at e
                   | rw [if_pos (Or.inr c_152)] at e
                   | rw [if_neg (fun z => z.elim c_145 (fun w => w c_152))] at e
                   exact e _)
                | (have cc : xs_ownp B o y k i = true := decide_eq_true ⟨c_78, Or.inr c_102⟩
                   rw [owF_y cc, ty_add1, lo32 (owF_lo ..).1, hi32 (owF_lo ..).2] at e
                   first
                   | rw [if_pos (Or.inl c_124)] at e
                   | rw [if_pos (Or.inr c_131)] at e
                   | rw [if_neg (fun z => z.elim c_124 (fun w => w c_131))] at e
                   first
                   | rw [if_pos (Or.inl c_145)] at e
                   | rw [if_pos (Or.inr c_152)] at e
                   | rw [if_neg (fun z => z.elim c_145 (fun w => w c_152))] at e
                   exact e _)
          · refine wq (fun _ _ kk => rs_iload (pc := 127) dX12_own_127 rfl kk) ?_
            refine wq (fun _ _ kk => rs_iload (pc := 129) dX12_own_129 rfl kk) ?_
            refine wq_br (fun _ _ kt kf => rs_icmp_ge (tgt := 139) (pc := 131) dX12_own_131 rfl kt kf) (fun c_131 => ?_) (fun c_131 => ?_)
            · refine wq (fun _ _ kk => rs_iload (pc := 139) dX12_own_139 rfl kk) ?_
              refine wq (fun _ _ kk => wk_ist8 (pc := 141) dX12_own_141 (by decide) rfl kk) ?_
              refine wq (fun _ _ kk => rs_iload (pc := 143) dX12_own_143 rfl kk) ?_
              refine wq_br (fun _ _ kt kf => rs_if_eq (tgt := 155) (pc := 145) dX12_own_145 rfl kt kf) (fun c_145 => ?_) (fun c_145 => ?_)
              · refine wq (fun _ _ kk => rs_iload (pc := 155) dX12_own_155 rfl kk) ?_
                refine wq (fun _ _ kk => rs_goto (tgt := 162) (pc := 157) dX12_own_157 rfl kk) ?_
                refine wq (fun _ _ kk => wk_ist9 (pc := 162) dX12_own_162 (by decide) rfl kk) ?_
                refine wq (fun _ _ kk => rs_lload (pc := 164) dX12_own_164 rfl kk) ?_
                refine wq (fun _ _ kk => rs_iload (pc := 166) dX12_own_166 rfl kk) ?_
                refine wq (fun _ _ kk => rs_i2l (pc := 168) dX12_own_168 kk) ?_
                refine wq (fun _ _ kk => rs_ladd (pc := 169) dX12_own_169 kk) ?_
                refine wq (fun _ _ kk => wk_lst6 (pc := 170) dX12_own_170 (by decide) rfl kk) ?_
                refine wq (fun _ _ kk => wk_iinc5 (pc := 172) dX12_own_172 (by decide) rfl rfl kk) ?_
                refine wq (fun _ _ kk => wk_iinc10 (v := nI (i + 1)) (pc := 175) dX12_own_175 (by decide) rfl (nI_1 i) kk) ?_
                refine wq (fun _ _ kk => rs_goto (tgt := 61) (pc := 178) dX12_own_178 rfl kk) ?_
                have e := fun u => ih (i + 1) u (by omega) (by omega)
                first
                | (rw [owF_n (show ¬ xs_ownp B o y k i = true from fun z => (of_decide_eq_true z).1 c_78)] at e; exact e _)
                | (rw [owF_n (show ¬ xs_ownp B o y k i = true from fun z => (of_decide_eq_true z).2.elim c_83 c_102)] at e; exact e _)
                | (have cc : xs_ownp B o y k i = true := decide_eq_true ⟨c_78, Or.inl c_83⟩
                   rw [owF_y cc, ty_add1, lo32 (owF_lo ..).1, hi32 (owF_lo ..).2] at e
                   first
                   | rw [if_pos (Or.inl c_124)] at e
                   | rw [if_pos (Or.inr c_131)] at e
                   | rw [if_neg (fun z => z.elim c_124 (fun w => w c_131))] at e
                   first
                   | rw [if_pos (Or.inl c_145)] at e
                   | rw [if_pos (Or.inr c_152)] at e
                   | rw [if_neg (fun z => z.elim c_145 (fun w => w c_152))] at e
                   exact e _)
                | (have cc : xs_ownp B o y k i = true := decide_eq_true ⟨c_78, Or.inr c_102⟩
                   rw [owF_y cc, ty_add1, lo32 (owF_lo ..).1, hi32 (owF_lo ..).2] at e
                   first
                   | rw [if_pos (Or.inl c_124)] at e
                   | rw [if_pos (Or.inr c_131)] at e
                   | rw [if_neg (fun z => z.elim c_124 (fun w => w c_131))] at e
                   first
                   | rw [if_pos (Or.inl c_145)] at e
                   | rw [if_pos (Or.inr c_152)] at e
                   | rw [if_neg (fun z => z.elim c_145 (fun w => w c_152))] at e
                   exact e _)
              · refine wq (fun _ _ kk => rs_iload (pc := 148) dX12_own_148 rfl kk) ?_
                refine wq (fun _ _ kk => rs_iload (pc := 150) dX12_own_150 rfl kk) ?_
                refine wq_br (fun _ _ kt kf => rs_icmp_le (tgt := 160) (pc := 152) dX12_own_152 rfl kt kf) (fun c_152 => ?_) (fun c_152 => ?_)
                · refine wq (fun _ _ kk => rs_iload (pc := 160) dX12_own_160 rfl kk) ?_
                  refine wq (fun _ _ kk => wk_ist9 (pc := 162) dX12_own_162 (by decide) rfl kk) ?_
                  refine wq (fun _ _ kk => rs_lload (pc := 164) dX12_own_164 rfl kk) ?_
                  refine wq (fun _ _ kk => rs_iload (pc := 166) dX12_own_166 rfl kk) ?_
                  refine wq (fun _ _ kk => rs_i2l (pc := 168) dX12_own_168 kk) ?_
                  refine wq (fun _ _ kk => rs_ladd (pc := 169) dX12_own_169 kk) ?_
                  refine wq (fun _ _ kk => wk_lst6 (pc := 170) dX12_own_170 (by decide) rfl kk) ?_
                  refine wq (fun _ _ kk => wk_iinc5 (pc := 172) dX12_own_172 (by decide) rfl rfl kk) ?_
                  refine wq (fun _ _ kk => wk_iinc10 (v := nI (i + 1)) (pc := 175) dX12_own_175 (by decide) rfl (nI_1 i) kk) ?_
                  refine wq (fun _ _ kk => rs_goto (tgt := 61) (pc := 178) dX12_own_178 rfl kk) ?_
                  have e := fun u => ih (i + 1) u (by omega) (by omega)
                  first
                  | (rw [owF_n (show ¬ xs_ownp B o y k i = true from fun z => (of_decide_eq_true z).1 c_78)] at e; exact e _)
                  | (rw [owF_n (show ¬ xs_ownp B o y k i = true from fun z => (of_decide_eq_true z).2.elim c_83 c_102)] at e; exact e _)
                  | (have cc : xs_ownp B o y k i = true := decide_eq_true ⟨c_78, Or.inl c_83⟩
                     rw [owF_y cc, ty_add1, lo32 (owF_lo ..).1, hi32 (owF_lo ..).2] at e
                     first
                     | rw [if_pos (Or.inl c_124)] at e
                     | rw [if_pos (Or.inr c_131)] at e
                     | rw [if_neg (fun z => z.elim c_124 (fun w => w c_131))] at e
                     first
                     | rw [if_pos (Or.inl c_145)] at e
                     | rw [if_pos (Or.inr c_152)] at e
                     | rw [if_neg (fun z => z.elim c_145 (fun w => w c_152))] at e
                     exact e _)
                  | (have cc : xs_ownp B o y k i = true := decide_eq_true ⟨c_78, Or.inr c_102⟩
                     rw [owF_y cc, ty_add1, lo32 (owF_lo ..).1, hi32 (owF_lo ..).2] at e
                     first
                     | rw [if_pos (Or.inl c_124)] at e
                     | rw [if_pos (Or.inr c_131)] at e
                     | rw [if_neg (fun z => z.elim c_124 (fun w => w c_131))] at e
                     first
                     | rw [if_pos (Or.inl c_145)] at e
                     | rw [if_pos (Or.inr c_152)] at e
                     | rw [if_neg (fun z => z.elim c_145 (fun w => w c_152))] at e
                     exact e _)
                · refine wq (fun _ _ kk => rs_iload (pc := 155) dX12_own_155 rfl kk) ?_
                  refine wq (fun _ _ kk => rs_goto (tgt := 162) (pc := 157) dX12_own_157 rfl kk) ?_
                  refine wq (fun _ _ kk => wk_ist9 (pc := 162) dX12_own_162 (by decide) rfl kk) ?_
                  refine wq (fun _ _ kk => rs_lload (pc := 164) dX12_own_164 rfl kk) ?_
                  refine wq (fun _ _ kk => rs_iload (pc := 166) dX12_own_166 rfl kk) ?_
                  refine wq (fun _ _ kk => rs_i2l (pc := 168) dX12_own_168 kk) ?_
                  refine wq (fun _ _ kk => rs_ladd (pc := 169) dX12_own_169 kk) ?_
                  refine wq (fun _ _ kk => wk_lst6 (pc := 170) dX12_own_170 (by decide) rfl kk) ?_
                  refine wq (fun _ _ kk => wk_iinc5 (pc := 172) dX12_own_172 (by decide) rfl rfl kk) ?_
                  refine wq (fun _ _ kk => wk_iinc10 (v := nI (i + 1)) (pc := 175) dX12_own_175 (by decide) rfl (nI_1 i) kk) ?_
                  refine wq (fun _ _ kk => rs_goto (tgt := 61) (pc := 178) dX12_own_178 rfl kk) ?_
                  have e := fun u => ih (i + 1) u (by omega) (by omega)
                  first
                  | (rw [owF_n (show ¬ xs_ownp B o y k i = true from fun z => (of_decide_eq_true z).1 c_78)] at e; exact e _)
                  | (rw [owF_n (show ¬ xs_ownp B o y k i = true from fun z => (of_decide_eq_true z).2.elim c_83 c_102)] at e; exact e _)
                  | (have cc : xs_ownp B o y k i = true := decide_eq_true ⟨c_78, Or.inl c_83⟩
                     rw [owF_y cc, ty_add1, lo32 (owF_lo ..).1, hi32 (owF_lo ..).2] at e
                     first
                     | rw [if_pos (Or.inl c_124)] at e
                     | rw [if_pos (Or.inr c_131)] at e
                     | rw [if_neg (fun z => z.elim c_124 (fun w => w c_131))] at e
                     first
                     | rw [if_pos (Or.inl c_145)] at e
                     | rw [if_pos (Or.inr c_152)] at e
                     | rw [if_neg (fun z => z.elim c_145 (fun w => w c_152))] at e
                     exact e _)
                  | (have cc : xs_ownp B o y k i = true := decide_eq_true ⟨c_78, Or.inr c_102⟩
                     rw [owF_y cc, ty_add1, lo32 (owF_lo ..).1, hi32 (owF_lo ..).2] at e
                     first
                     | rw [if_pos (Or.inl c_124)] at e
                     | rw [if_pos (Or.inr c_131)] at e
                     | rw [if_neg (fun z => z.elim c_124 (fun w => w c_131))] at e
                     first
                     | rw [if_pos (Or.inl c_145)] at e
                     | rw [if_pos (Or.inr c_152)] at e
                     | rw [if_neg (fun z => z.elim c_145 (fun w => w c_152))] at e
                     exact e _)
            · refine wq (fun _ _ kk => rs_iload (pc := 134) dX12_own_134 rfl kk) ?_
              refine wq (fun _ _ kk => rs_goto (tgt := 141) (pc := 136) dX12_own_136 rfl kk) ?_
              refine wq (fun _ _ kk => wk_ist8 (pc := 141) dX12_own_141 (by decide) rfl kk) ?_
              refine wq (fun _ _ kk => rs_iload (pc := 143) dX12_own_143 rfl kk) ?_
              refine wq_br (fun _ _ kt kf => rs_if_eq (tgt := 155) (pc := 145) dX12_own_145 rfl kt kf) (fun c_145 => ?_) (fun c_145 => ?_)
              · refine wq (fun _ _ kk => rs_iload (pc := 155) dX12_own_155 rfl kk) ?_
                refine wq (fun _ _ kk => rs_goto (tgt := 162) (pc := 157) dX12_own_157 rfl kk) ?_
                refine wq (fun _ _ kk => wk_ist9 (pc := 162) dX12_own_162 (by decide) rfl kk) ?_
                refine wq (fun _ _ kk => rs_lload (pc := 164) dX12_own_164 rfl kk) ?_
                refine wq (fun _ _ kk => rs_iload (pc := 166) dX12_own_166 rfl kk) ?_
                refine wq (fun _ _ kk => rs_i2l (pc := 168) dX12_own_168 kk) ?_
                refine wq (fun _ _ kk => rs_ladd (pc := 169) dX12_own_169 kk) ?_
                refine wq (fun _ _ kk => wk_lst6 (pc := 170) dX12_own_170 (by decide) rfl kk) ?_
                refine wq (fun _ _ kk => wk_iinc5 (pc := 172) dX12_own_172 (by decide) rfl rfl kk) ?_
                refine wq (fun _ _ kk => wk_iinc10 (v := nI (i + 1)) (pc := 175) dX12_own_175 (by decide) rfl (nI_1 i) kk) ?_
                refine wq (fun _ _ kk => rs_goto (tgt := 61) (pc := 178) dX12_own_178 rfl kk) ?_
                have e := fun u => ih (i + 1) u (by omega) (by omega)
                first
                | (rw [owF_n (show ¬ xs_ownp B o y k i = true from fun z => (of_decide_eq_true z).1 c_78)] at e; exact e _)
                | (rw [owF_n (show ¬ xs_ownp B o y k i = true from fun z => (of_decide_eq_true z).2.elim c_83 c_102)] at e; exact e _)
                | (have cc : xs_ownp B o y k i = true := decide_eq_true ⟨c_78, Or.inl c_83⟩
                   rw [owF_y cc, ty_add1, lo32 (owF_lo ..).1, hi32 (owF_lo ..).2] at e
                   first
                   | rw [if_pos (Or.inl c_124)] at e
                   | rw [if_pos (Or.inr c_131)] at e
                   | rw [if_neg (fun z => z.elim c_124 (fun w => w c_131))] at e
                   first
                   | rw [if_pos (Or.inl c_145)] at e
                   | rw [if_pos (Or.inr c_152)] at e
                   | rw [if_neg (fun z => z.elim c_145 (fun w => w c_152))] at e
                   exact e _)
                | (have cc : xs_ownp B o y k i = true := decide_eq_true ⟨c_78, Or.inr c_102⟩
                   rw [owF_y cc, ty_add1, lo32 (owF_lo ..).1, hi32 (owF_lo ..).2] at e
                   first
                   | rw [if_pos (Or.inl c_124)] at e
                   | rw [if_pos (Or.inr c_131)] at e
                   | rw [if_neg (fun z => z.elim c_124 (fun w => w c_131))] at e
                   first
                   | rw [if_pos (Or.inl c_145)] at e
                   | rw [if_pos (Or.inr c_152)] at e
                   | rw [if_neg (fun z => z.elim c_145 (fun w => w c_152))] at e
                   exact e _)
              · refine wq (fun _ _ kk => rs_iload (pc := 148) dX12_own_148 rfl kk) ?_
                refine wq (fun _ _ kk => rs_iload (pc := 150) dX12_own_150 rfl kk) ?_
                refine wq_br (fun _ _ kt kf => rs_icmp_le (tgt := 160) (pc := 152) dX12_own_152 rfl kt kf) (fun c_152 => ?_) (fun c_152 => ?_)
                · refine wq (fun _ _ kk => rs_iload (pc := 160) dX12_own_160 rfl kk) ?_
                  refine wq (fun _ _ kk => wk_ist9 (pc := 162) dX12_own_162 (by decide) rfl kk) ?_
                  refine wq (fun _ _ kk => rs_lload (pc := 164) dX12_own_164 rfl kk) ?_
                  refine wq (fun _ _ kk => rs_iload (pc := 166) dX12_own_166 rfl kk) ?_
                  refine wq (fun _ _ kk => rs_i2l (pc := 168) dX12_own_168 kk) ?_
                  refine wq (fun _ _ kk => rs_ladd (pc := 169) dX12_own_169 kk) ?_
                  refine wq (fun _ _ kk => wk_lst6 (pc := 170) dX12_own_170 (by decide) rfl kk) ?_
                  refine wq (fun _ _ kk => wk_iinc5 (pc := 172) dX12_own_172 (by decide) rfl rfl kk) ?_
                  refine wq (fun _ _ kk => wk_iinc10 (v := nI (i + 1)) (pc := 175) dX12_own_175 (by decide) rfl (nI_1 i) kk) ?_
                  refine wq (fun _ _ kk => rs_goto (tgt := 61) (pc := 178) dX12_own_178 rfl kk) ?_
                  have e := fun u => ih (i + 1) u (by omega) (by omega)
                  first
                  | (rw [owF_n (show ¬ xs_ownp B o y k i = true from fun z => (of_decide_eq_true z).1 c_78)] at e; exact e _)
                  | (rw [owF_n (show ¬ xs_ownp B o y k i = true from fun z => (of_decide_eq_true z).2.elim c_83 c_102)] at e; exact e _)
                  | (have cc : xs_ownp B o y k i = true := decide_eq_true ⟨c_78, Or.inl c_83⟩
                     rw [owF_y cc, ty_add1, lo32 (owF_lo ..).1, hi32 (owF_lo ..).2] at e
                     first
                     | rw [if_pos (Or.inl c_124)] at e
                     | rw [if_pos (Or.inr c_131)] at e
                     | rw [if_neg (fun z => z.elim c_124 (fun w => w c_131))] at e
                     first
                     | rw [if_pos (Or.inl c_145)] at e
                     | rw [if_pos (Or.inr c_152)] at e
                     | rw [if_neg (fun z => z.elim c_145 (fun w => w c_152))] at e
                     exact e _)
                  | (have cc : xs_ownp B o y k i = true := decide_eq_true ⟨c_78, Or.inr c_102⟩
                     rw [owF_y cc, ty_add1, lo32 (owF_lo ..).1, hi32 (owF_lo ..).2] at e
                     first
                     | rw [if_pos (Or.inl c_124)] at e
                     | rw [if_pos (Or.inr c_131)] at e
                     | rw [if_neg (fun z => z.elim c_124 (fun w => w c_131))] at e
                     first
                     | rw [if_pos (Or.inl c_145)] at e
                     | rw [if_pos (Or.inr c_152)] at e
                     | rw [if_neg (fun z => z.elim c_145 (fun w => w c_152))] at e
                     exact e _)
                · refine wq (fun _ _ kk => rs_iload (pc := 155) dX12_own_155 rfl kk) ?_
                  refine wq (fun _ _ kk => rs_goto (tgt := 162) (pc := 157) dX12_own_157 rfl kk) ?_
                  refine wq (fun _ _ kk => wk_ist9 (pc := 162) dX12_own_162 (by decide) rfl kk) ?_
                  refine wq (fun _ _ kk => rs_lload (pc := 164) dX12_own_164 rfl kk) ?_
                  refine wq (fun _ _ kk => rs_iload (pc := 166) dX12_own_166 rfl kk) ?_
                  refine wq (fun _ _ kk => rs_i2l (pc := 168) dX12_own_168 kk) ?_
                  refine wq (fun _ _ kk => rs_ladd (pc := 169) dX12_own_169 kk) ?_
                  refine wq (fun _ _ kk => wk_lst6 (pc := 170) dX12_own_170 (by decide) rfl kk) ?_
                  refine wq (fun _ _ kk => wk_iinc5 (pc := 172) dX12_own_172 (by decide) rfl rfl kk) ?_
                  refine wq (fun _ _ kk => wk_iinc10 (v := nI (i + 1)) (pc := 175) dX12_own_175 (by decide) rfl (nI_1 i) kk) ?_
                  refine wq (fun _ _ kk => rs_goto (tgt := 61) (pc := 178) dX12_own_178 rfl kk) ?_
                  have e := fun u => ih (i + 1) u (by omega) (by omega)
                  first
                  | (rw [owF_n (show ¬ xs_ownp B o y k i = true from fun z => (of_decide_eq_true z).1 c_78)] at e; exact e _)
                  | (rw [owF_n (show ¬ xs_ownp B o y k i = true from fun z => (of_decide_eq_true z).2.elim c_83 c_102)] at e; exact e _)
                  | (have cc : xs_ownp B o y k i = true := decide_eq_true ⟨c_78, Or.inl c_83⟩
                     rw [owF_y cc, ty_add1, lo32 (owF_lo ..).1, hi32 (owF_lo ..).2] at e
                     first
                     | rw [if_pos (Or.inl c_124)] at e
                     | rw [if_pos (Or.inr c_131)] at e
                     | rw [if_neg (fun z => z.elim c_124 (fun w => w c_131))] at e
                     first
                     | rw [if_pos (Or.inl c_145)] at e
                     | rw [if_pos (Or.inr c_152)] at e
                     | rw [if_neg (fun z => z.elim c_145 (fun w => w c_152))] at e
                     exact e _)
                  | (have cc : xs_ownp B o y k i = true := decide_eq_true ⟨c_78, Or.inr c_102⟩
                     rw [owF_y cc, ty_add1, lo32 (owF_lo ..).1, hi32 (owF_lo ..).2] at e
                     first
                     | rw [if_pos (Or.inl c_124)] at e
                     | rw [if_pos (Or.inr c_131)] at e
                     | rw [if_neg (fun z => z.elim c_124 (fun w => w c_131))] at e
                     first
                     | rw [if_pos (Or.inl c_145)] at e
                     | rw [if_pos (Or.inr c_152)] at e
                     | rw [if_neg (fun z => z.elim c_145 (fun w => w c_152))] at e
                     exact e _)
        · refine wq (fun _ _ kk => rs_aload_n (pc := 86) dX12_own_86 rfl kk) ?_
          refine wq (fun _ _ kk => rs_getf (pc := 87) dX12_own_87 fX12_28 (md_lt hmd (by decide)) hmd.2.1 rfl kk) ?_
          refine wq (fun _ _ kk => rs_aload_n (pc := 90) dX12_own_90 rfl kk) ?_
          refine wq (fun _ _ kk => rs_getf (pc := 91) dX12_own_91 fX12_31 (md_lt hmd (by decide)) hmd.2.1 rfl kk) ?_
          refine wq (fun _ _ kk => rs_iload (pc := 94) dX12_own_94 rfl kk) ?_
          refine wq (fun _ _ kk => rs_iald (pc := 96) dX12_own_96 (md_lt hmd (by decide)) (md_geti (d := 7) (k := 13) (kd := 0) (n := 400) rfl (by decide) hmd) (vp_in_nI (n := i) (N := 400) (by omega) (by decide)) kk) ?_
          rw [nI_clamp (show i < 2 ^ 31 by omega), q1, en]
          refine wq (fun _ _ kk => rs_iald (pc := 97) dX12_own_97 (md_lt hmd (by decide)) (md_geti (d := 6) (k := 12) (kd := 0) (n := 80) rfl (by decide) hmd) (vp_in_nI (n := n') (N := 80) (by omega) (by decide)) kk) ?_
          rw [nI_clamp (show n' < 2 ^ 31 by omega), q9]
          refine wq (fun _ _ kk => rs_bipush (v := 52) (pc := 98) dX12_own_98 rfl kk) ?_
          refine wq (fun _ _ kk => rs_idiv (pc := 100) dX12_own_100 (by decide) kk) ?_
          rw [← hyr]
          refine wq (fun _ _ kk => rs_iload_n (pc := 101) dX12_own_101 rfl kk) ?_
          refine wq_bn (fun _ _ kt kf => rs_icmp_ne (tgt := 175) (pc := 102) dX12_own_102 rfl kt kf) (fun c_102 => ?_) (fun c_102 => ?_)
          · refine wq (fun _ _ kk => wk_iinc10 (v := nI (i + 1)) (pc := 175) dX12_own_175 (by decide) rfl (nI_1 i) kk) ?_
            refine wq (fun _ _ kk => rs_goto (tgt := 61) (pc := 178) dX12_own_178 rfl kk) ?_
            have e := fun u => ih (i + 1) u (by omega) (by omega)
            first
            | (rw [owF_n (show ¬ xs_ownp B o y k i = true from fun z => (of_decide_eq_true z).1 c_78)] at e; exact e _)
            | (rw [owF_n (show ¬ xs_ownp B o y k i = true from fun z => (of_decide_eq_true z).2.elim c_83 c_102)] at e; exact e _)
            | (have cc : xs_ownp B o y k i = true := decide_eq_true ⟨c_78, Or.inl c_83⟩
               rw [owF_y cc, ty_add1, lo32 (owF_lo ..).1, hi32 (owF_lo ..).2] at e
               first
               | rw [if_pos (Or.inl c_124)] at e
               | rw [if_pos (Or.inr c_131)] at e
               | rw [if_neg (fun z => z.elim c_124 (fun w => w c_131))] at e
               first
               | rw [if_pos (Or.inl c_145)] at e
               | rw [if_pos (Or.inr c_152)] at e
               | rw [if_neg (fun z => z.elim c_145 (fun w => w c_152))] at e
               exact e _)
            | (have cc : xs_ownp B o y k i = true := decide_eq_true ⟨c_78, Or.inr c_102⟩
               rw [owF_y cc, ty_add1, lo32 (owF_lo ..).1, hi32 (owF_lo ..).2] at e
               first
               | rw [if_pos (Or.inl c_124)] at e
               | rw [if_pos (Or.inr c_131)] at e
               | rw [if_neg (fun z => z.elim c_124 (fun w => w c_131))] at e
               first
               | rw [if_pos (Or.inl c_145)] at e
               | rw [if_pos (Or.inr c_152)] at e
               | rw [if_neg (fun z => z.elim c_145 (fun w => w c_152))] at e
               exact e _)
          · refine wq (fun _ _ kk => rs_aload_n (pc := 105) dX12_own_105 rfl kk) ?_
            refine wq (fun _ _ kk => rs_getf (pc := 106) dX12_own_106 fX12_46 (md_lt hmd (by decide)) hmd.2.1 rfl kk) ?_
            refine wq (fun _ _ kk => rs_iload (pc := 109) dX12_own_109 rfl kk) ?_
            refine wq (fun _ _ kk => rs_iald (pc := 111) dX12_own_111 (md_lt hmd (by decide)) (md_geti (d := 12) (k := 18) (kd := 0) (n := 400) rfl (by decide) hmd) (vp_in_nI (n := i) (N := 400) (by omega) (by decide)) kk) ?_
            rw [nI_clamp (show i < 2 ^ 31 by omega), q6]
            refine wq (fun _ _ kk => rs_aload_n (pc := 112) dX12_own_112 rfl kk) ?_
            refine wq (fun _ _ kk => rs_getf (pc := 113) dX12_own_113 fX12_49 (md_lt hmd (by decide)) hmd.2.1 rfl kk) ?_
            refine wq (fun _ _ kk => rs_iload (pc := 116) dX12_own_116 rfl kk) ?_
            refine wq (fun _ _ kk => rs_iald (pc := 118) dX12_own_118 (md_lt hmd (by decide)) (md_geti (d := 13) (k := 19) (kd := 0) (n := 400) rfl (by decide) hmd) (vp_in_nI (n := i) (N := 400) (by omega) (by decide)) kk) ?_
            rw [nI_clamp (show i < 2 ^ 31 by omega), q7]
            refine wq (fun _ _ kk => rs_isub (pc := 119) dX12_own_119 kk) ?_
            rw [show bk_rat B (nI i) 5 - bk_rat B (nI i) 6 = bk_late B (nI i) from rfl]
            refine wq (fun _ _ kk => wk_ist11 (pc := 120) dX12_own_120 (by decide) rfl kk) ?_
            refine wq (fun _ _ kk => rs_iload (pc := 122) dX12_own_122 rfl kk) ?_
            refine wq_br (fun _ _ kt kf => rs_if_eq (tgt := 134) (pc := 124) dX12_own_124 rfl kt kf) (fun c_124 => ?_) (fun c_124 => ?_)
            · refine wq (fun _ _ kk => rs_iload (pc := 134) dX12_own_134 rfl kk) ?_
              refine wq (fun _ _ kk => rs_goto (tgt := 141) (pc := 136) dX12_own_136 rfl kk) ?_
              refine wq (fun _ _ kk => wk_ist8 (pc := 141) dX12_own_141 (by decide) rfl kk) ?_
              refine wq (fun _ _ kk => rs_iload (pc := 143) dX12_own_143 rfl kk) ?_
              refine wq_br (fun _ _ kt kf => rs_if_eq (tgt := 155) (pc := 145) dX12_own_145 rfl kt kf) (fun c_145 => ?_) (fun c_145 => ?_)
              · refine wq (fun _ _ kk => rs_iload (pc := 155) dX12_own_155 rfl kk) ?_
                refine wq (fun _ _ kk => rs_goto (tgt := 162) (pc := 157) dX12_own_157 rfl kk) ?_
                refine wq (fun _ _ kk => wk_ist9 (pc := 162) dX12_own_162 (by decide) rfl kk) ?_
                refine wq (fun _ _ kk => rs_lload (pc := 164) dX12_own_164 rfl kk) ?_
                refine wq (fun _ _ kk => rs_iload (pc := 166) dX12_own_166 rfl kk) ?_
                refine wq (fun _ _ kk => rs_i2l (pc := 168) dX12_own_168 kk) ?_
                refine wq (fun _ _ kk => rs_ladd (pc := 169) dX12_own_169 kk) ?_
                refine wq (fun _ _ kk => wk_lst6 (pc := 170) dX12_own_170 (by decide) rfl kk) ?_
                refine wq (fun _ _ kk => wk_iinc5 (pc := 172) dX12_own_172 (by decide) rfl rfl kk) ?_
                refine wq (fun _ _ kk => wk_iinc10 (v := nI (i + 1)) (pc := 175) dX12_own_175 (by decide) rfl (nI_1 i) kk) ?_
                refine wq (fun _ _ kk => rs_goto (tgt := 61) (pc := 178) dX12_own_178 rfl kk) ?_
                have e := fun u => ih (i + 1) u (by omega) (by omega)
                first
                | (rw [owF_n (show ¬ xs_ownp B o y k i = true from fun z => (of_decide_eq_true z).1 c_78)] at e; exact e _)
                | (rw [owF_n (show ¬ xs_ownp B o y k i = true from fun z => (of_decide_eq_true z).2.elim c_83 c_102)] at e; exact e _)
                | (have cc : xs_ownp B o y k i = true := decide_eq_true ⟨c_78, Or.inl c_83⟩
                   rw [owF_y cc, ty_add1, lo32 (owF_lo ..).1, hi32 (owF_lo ..).2] at e
                   first
                   | rw [if_pos (Or.inl c_124)] at e
                   | rw [if_pos (Or.inr c_131)] at e
                   | rw [if_neg (fun z => z.elim c_124 (fun w => w c_131))] at e
                   first
                   | rw [if_pos (Or.inl c_145)] at e
                   | rw [if_pos (Or.inr c_152)] at e
                   | rw [if_neg (fun z => z.elim c_145 (fun w => w c_152))] at e
                   exact e _)
                | (have cc : xs_ownp B o y k i = true := decide_eq_true ⟨c_78, Or.inr c_102⟩
                   rw [owF_y cc, ty_add1, lo32 (owF_lo ..).1, hi32 (owF_lo ..).2] at e
                   first
                   | rw [if_pos (Or.inl c_124)] at e
                   | rw [if_pos (Or.inr c_131)] at e
                   | rw [if_neg (fun z => z.elim c_124 (fun w => w c_131))] at e
                   first
                   | rw [if_pos (Or.inl c_145)] at e
                   | rw [if_pos (Or.inr c_152)] at e
                   | rw [if_neg (fun z => z.elim c_145 (fun w => w c_152))] at e
                   exact e _)
              · refine wq (fun _ _ kk => rs_iload (pc := 148) dX12_own_148 rfl kk) ?_
                refine wq (fun _ _ kk => rs_iload (pc := 150) dX12_own_150 rfl kk) ?_
                refine wq_br (fun _ _ kt kf => rs_icmp_le (tgt := 160) (pc := 152) dX12_own_152 rfl kt kf) (fun c_152 => ?_) (fun c_152 => ?_)
                · refine wq (fun _ _ kk => rs_iload (pc := 160) dX12_own_160 rfl kk) ?_
                  refine wq (fun _ _ kk => wk_ist9 (pc := 162) dX12_own_162 (by decide) rfl kk) ?_
                  refine wq (fun _ _ kk => rs_lload (pc := 164) dX12_own_164 rfl kk) ?_
                  refine wq (fun _ _ kk => rs_iload (pc := 166) dX12_own_166 rfl kk) ?_
                  refine wq (fun _ _ kk => rs_i2l (pc := 168) dX12_own_168 kk) ?_
                  refine wq (fun _ _ kk => rs_ladd (pc := 169) dX12_own_169 kk) ?_
                  refine wq (fun _ _ kk => wk_lst6 (pc := 170) dX12_own_170 (by decide) rfl kk) ?_
                  refine wq (fun _ _ kk => wk_iinc5 (pc := 172) dX12_own_172 (by decide) rfl rfl kk) ?_
                  refine wq (fun _ _ kk => wk_iinc10 (v := nI (i + 1)) (pc := 175) dX12_own_175 (by decide) rfl (nI_1 i) kk) ?_
                  refine wq (fun _ _ kk => rs_goto (tgt := 61) (pc := 178) dX12_own_178 rfl kk) ?_
                  have e := fun u => ih (i + 1) u (by omega) (by omega)
                  first
                  | (rw [owF_n (show ¬ xs_ownp B o y k i = true from fun z => (of_decide_eq_true z).1 c_78)] at e; exact e _)
                  | (rw [owF_n (show ¬ xs_ownp B o y k i = true from fun z => (of_decide_eq_true z).2.elim c_83 c_102)] at e; exact e _)
                  | (have cc : xs_ownp B o y k i = true := decide_eq_true ⟨c_78, Or.inl c_83⟩
                     rw [owF_y cc, ty_add1, lo32 (owF_lo ..).1, hi32 (owF_lo ..).2] at e
                     first
                     | rw [if_pos (Or.inl c_124)] at e
                     | rw [if_pos (Or.inr c_131)] at e
                     | rw [if_neg (fun z => z.elim c_124 (fun w => w c_131))] at e
                     first
                     | rw [if_pos (Or.inl c_145)] at e
                     | rw [if_pos (Or.inr c_152)] at e
                     | rw [if_neg (fun z => z.elim c_145 (fun w => w c_152))] at e
                     exact e _)
                  | (have cc : xs_ownp B o y k i = true := decide_eq_true ⟨c_78, Or.inr c_102⟩
                     rw [owF_y cc, ty_add1, lo32 (owF_lo ..).1, hi32 (owF_lo ..).2] at e
                     first
                     | rw [if_pos (Or.inl c_124)] at e
                     | rw [if_pos (Or.inr c_131)] at e
                     | rw [if_neg (fun z => z.elim c_124 (fun w => w c_131))] at e
                     first
                     | rw [if_pos (Or.inl c_145)] at e
                     | rw [if_pos (Or.inr c_152)] at e
                     | rw [if_neg (fun z => z.elim c_145 (fun w => w c_152))] at e
                     exact e _)
                · refine wq (fun _ _ kk => rs_iload (pc := 155) dX12_own_155 rfl kk) ?_
                  refine wq (fun _ _ kk => rs_goto (tgt := 162) (pc := 157) dX12_own_157 rfl kk) ?_
                  refine wq (fun _ _ kk => wk_ist9 (pc := 162) dX12_own_162 (by decide) rfl kk) ?_
                  refine wq (fun _ _ kk => rs_lload (pc := 164) dX12_own_164 rfl kk) ?_
                  refine wq (fun _ _ kk => rs_iload (pc := 166) dX12_own_166 rfl kk) ?_
                  refine wq (fun _ _ kk => rs_i2l (pc := 168) dX12_own_168 kk) ?_
                  refine wq (fun _ _ kk => rs_ladd (pc := 169) dX12_own_169 kk) ?_
                  refine wq (fun _ _ kk => wk_lst6 (pc := 170) dX12_own_170 (by decide) rfl kk) ?_
                  refine wq (fun _ _ kk => wk_iinc5 (pc := 172) dX12_own_172 (by decide) rfl rfl kk) ?_
                  refine wq (fun _ _ kk => wk_iinc10 (v := nI (i + 1)) (pc := 175) dX12_own_175 (by decide) rfl (nI_1 i) kk) ?_
                  refine wq (fun _ _ kk => rs_goto (tgt := 61) (pc := 178) dX12_own_178 rfl kk) ?_
                  have e := fun u => ih (i + 1) u (by omega) (by omega)
                  first
                  | (rw [owF_n (show ¬ xs_ownp B o y k i = true from fun z => (of_decide_eq_true z).1 c_78)] at e; exact e _)
                  | (rw [owF_n (show ¬ xs_ownp B o y k i = true from fun z => (of_decide_eq_true z).2.elim c_83 c_102)] at e; exact e _)
                  | (have cc : xs_ownp B o y k i = true := decide_eq_true ⟨c_78, Or.inl c_83⟩
                     rw [owF_y cc, ty_add1, lo32 (owF_lo ..).1, hi32 (owF_lo ..).2] at e
                     first
                     | rw [if_pos (Or.inl c_124)] at e
                     | rw [if_pos (Or.inr c_131)] at e
                     | rw [if_neg (fun z => z.elim c_124 (fun w => w c_131))] at e
                     first
                     | rw [if_pos (Or.inl c_145)] at e
                     | rw [if_pos (Or.inr c_152)] at e
                     | rw [if_neg (fun z => z.elim c_145 (fun w => w c_152))] at e
                     exact e _)
                  | (have cc : xs_ownp B o y k i = true := decide_eq_true ⟨c_78, Or.inr c_102⟩
                     rw [owF_y cc, ty_add1, lo32 (owF_lo ..).1, hi32 (owF_lo ..).2] at e
                     first
                     | rw [if_pos (Or.inl c_124)] at e
                     | rw [if_pos (Or.inr c_131)] at e
                     | rw [if_neg (fun z => z.elim c_124 (fun w => w c_131))] at e
                     first
                     | rw [if_pos (Or.inl c_145)] at e
                     | rw [if_pos (Or.inr c_152)] at e
                     | rw [if_neg (fun z => z.elim c_145 (fun w => w c_152))] at e
                     exact e _)
            · refine wq (fun _ _ kk => rs_iload (pc := 127) dX12_own_127 rfl kk) ?_
              refine wq (fun _ _ kk => rs_iload (pc := 129) dX12_own_129 rfl kk) ?_
              refine wq_br (fun _ _ kt kf => rs_icmp_ge (tgt := 139) (pc := 131) dX12_own_131 rfl kt kf) (fun c_131 => ?_) (fun c_131 => ?_)
              · refine wq (fun _ _ kk => rs_iload (pc := 139) dX12_own_139 rfl kk) ?_
                refine wq (fun _ _ kk => wk_ist8 (pc := 141) dX12_own_141 (by decide) rfl kk) ?_
                refine wq (fun _ _ kk => rs_iload (pc := 143) dX12_own_143 rfl kk) ?_
                refine wq_br (fun _ _ kt kf => rs_if_eq (tgt := 155) (pc := 145) dX12_own_145 rfl kt kf) (fun c_145 => ?_) (fun c_145 => ?_)
                · refine wq (fun _ _ kk => rs_iload (pc := 155) dX12_own_155 rfl kk) ?_
                  refine wq (fun _ _ kk => rs_goto (tgt := 162) (pc := 157) dX12_own_157 rfl kk) ?_
                  refine wq (fun _ _ kk => wk_ist9 (pc := 162) dX12_own_162 (by decide) rfl kk) ?_
                  refine wq (fun _ _ kk => rs_lload (pc := 164) dX12_own_164 rfl kk) ?_
                  refine wq (fun _ _ kk => rs_iload (pc := 166) dX12_own_166 rfl kk) ?_
                  refine wq (fun _ _ kk => rs_i2l (pc := 168) dX12_own_168 kk) ?_
                  refine wq (fun _ _ kk => rs_ladd (pc := 169) dX12_own_169 kk) ?_
                  refine wq (fun _ _ kk => wk_lst6 (pc := 170) dX12_own_170 (by decide) rfl kk) ?_
                  refine wq (fun _ _ kk => wk_iinc5 (pc := 172) dX12_own_172 (by decide) rfl rfl kk) ?_
                  refine wq (fun _ _ kk => wk_iinc10 (v := nI (i + 1)) (pc := 175) dX12_own_175 (by decide) rfl (nI_1 i) kk) ?_
                  refine wq (fun _ _ kk => rs_goto (tgt := 61) (pc := 178) dX12_own_178 rfl kk) ?_
                  have e := fun u => ih (i + 1) u (by omega) (by omega)
                  first
                  | (rw [owF_n (show ¬ xs_ownp B o y k i = true from fun z => (of_decide_eq_true z).1 c_78)] at e; exact e _)
                  | (rw [owF_n (show ¬ xs_ownp B o y k i = true from fun z => (of_decide_eq_true z).2.elim c_83 c_102)] at e; exact e _)
                  | (have cc : xs_ownp B o y k i = true := decide_eq_true ⟨c_78, Or.inl c_83⟩
                     rw [owF_y cc, ty_add1, lo32 (owF_lo ..).1, hi32 (owF_lo ..).2] at e
                     first
                     | rw [if_pos (Or.inl c_124)] at e
                     | rw [if_pos (Or.inr c_131)] at e
                     | rw [if_neg (fun z => z.elim c_124 (fun w => w c_131))] at e
                     first
                     | rw [if_pos (Or.inl c_145)] at e
                     | rw [if_pos (Or.inr c_152)] at e
                     | rw [if_neg (fun z => z.elim c_145 (fun w => w c_152))] at e
                     exact e _)
                  | (have cc : xs_ownp B o y k i = true := decide_eq_true ⟨c_78, Or.inr c_102⟩
                     rw [owF_y cc, ty_add1, lo32 (owF_lo ..).1, hi32 (owF_lo ..).2] at e
                     first
                     | rw [if_pos (Or.inl c_124)] at e
                     | rw [if_pos (Or.inr c_131)] at e
                     | rw [if_neg (fun z => z.elim c_124 (fun w => w c_131))] at e
                     first
                     | rw [if_pos (Or.inl c_145)] at e
                     | rw [if_pos (Or.inr c_152)] at e
                     | rw [if_neg (fun z => z.elim c_145 (fun w => w c_152))] at e
                     exact e _)
                · refine wq (fun _ _ kk => rs_iload (pc := 148) dX12_own_148 rfl kk) ?_
                  refine wq (fun _ _ kk => rs_iload (pc := 150) dX12_own_150 rfl kk) ?_
                  refine wq_br (fun _ _ kt kf => rs_icmp_le (tgt := 160) (pc := 152) dX12_own_152 rfl kt kf) (fun c_152 => ?_) (fun c_152 => ?_)
                  · refine wq (fun _ _ kk => rs_iload (pc := 160) dX12_own_160 rfl kk) ?_
                    refine wq (fun _ _ kk => wk_ist9 (pc := 162) dX12_own_162 (by decide) rfl kk) ?_
                    refine wq (fun _ _ kk => rs_lload (pc := 164) dX12_own_164 rfl kk) ?_
                    refine wq (fun _ _ kk => rs_iload (pc := 166) dX12_own_166 rfl kk) ?_
                    refine wq (fun _ _ kk => rs_i2l (pc := 168) dX12_own_168 kk) ?_
                    refine wq (fun _ _ kk => rs_ladd (pc := 169) dX12_own_169 kk) ?_
                    refine wq (fun _ _ kk => wk_lst6 (pc := 170) dX12_own_170 (by decide) rfl kk) ?_
                    refine wq (fun _ _ kk => wk_iinc5 (pc := 172) dX12_own_172 (by decide) rfl rfl kk) ?_
                    refine wq (fun _ _ kk => wk_iinc10 (v := nI (i + 1)) (pc := 175) dX12_own_175 (by decide) rfl (nI_1 i) kk) ?_
                    refine wq (fun _ _ kk => rs_goto (tgt := 61) (pc := 178) dX12_own_178 rfl kk) ?_
                    have e := fun u => ih (i + 1) u (by omega) (by omega)
                    first
                    | (rw [owF_n (show ¬ xs_ownp B o y k i = true from fun z => (of_decide_eq_true z).1 c_78)] at e; exact e _)
                    | (rw [owF_n (show ¬ xs_ownp B o y k i = true from fun z => (of_decide_eq_true z).2.elim c_83 c_102)] at e; exact e _)
                    | (have cc : xs_ownp B o y k i = true := decide_eq_true ⟨c_78, Or.inl c_83⟩
                       rw [owF_y cc, ty_add1, lo32 (owF_lo ..).1, hi32 (owF_lo ..).2] at e
                       first
                       | rw [if_pos (Or.inl c_124)] at e
                       | rw [if_pos (Or.inr c_131)] at e
                       | rw [if_neg (fun z => z.elim c_124 (fun w => w c_131))] at e
                       first
                       | rw [if_pos (Or.inl c_145)] at e
                       | rw [if_pos (Or.inr c_152)] at e
                       | rw [if_neg (fun z => z.elim c_145 (fun w => w c_152))] at e
                       exact e _)
                    | (have cc : xs_ownp B o y k i = true := decide_eq_true ⟨c_78, Or.inr c_102⟩
                       rw [owF_y cc, ty_add1, lo32 (owF_lo ..).1, hi32 (owF_lo ..).2] at e
                       first
                       | rw [if_pos (Or.inl c_124)] at e
                       | rw [if_pos (Or.inr c_131)] at e
                       | rw [if_neg (fun z => z.elim c_124 (fun w => w c_131))] at e
                       first
                       | rw [if_pos (Or.inl c_145)] at e
                       | rw [if_pos (Or.inr c_152)] at e
                       | rw [if_neg (fun z => z.elim c_145 (fun w => w c_152))] at e
                       exact e _)
                  · refine wq (fun _ _ kk => rs_iload (pc := 155) dX12_own_155 rfl kk) ?_
                    refine wq (fun _ _ kk => rs_goto (tgt := 162) (pc := 157) dX12_own_157 rfl kk) ?_
                    refine wq (fun _ _ kk => wk_ist9 (pc := 162) dX12_own_162 (by decide) rfl kk) ?_
                    refine wq (fun _ _ kk => rs_lload (pc := 164) dX12_own_164 rfl kk) ?_
                    refine wq (fun _ _ kk => rs_iload (pc := 166) dX12_own_166 rfl kk) ?_
                    refine wq (fun _ _ kk => rs_i2l (pc := 168) dX12_own_168 kk) ?_
                    refine wq (fun _ _ kk => rs_ladd (pc := 169) dX12_own_169 kk) ?_
                    refine wq (fun _ _ kk => wk_lst6 (pc := 170) dX12_own_170 (by decide) rfl kk) ?_
                    refine wq (fun _ _ kk => wk_iinc5 (pc := 172) dX12_own_172 (by decide) rfl rfl kk) ?_
                    refine wq (fun _ _ kk => wk_iinc10 (v := nI (i + 1)) (pc := 175) dX12_own_175 (by decide) rfl (nI_1 i) kk) ?_
                    refine wq (fun _ _ kk => rs_goto (tgt := 61) (pc := 178) dX12_own_178 rfl kk) ?_
                    have e := fun u => ih (i + 1) u (by omega) (by omega)
                    first
                    | (rw [owF_n (show ¬ xs_ownp B o y k i = true from fun z => (of_decide_eq_true z).1 c_78)] at e; exact e _)
                    | (rw [owF_n (show ¬ xs_ownp B o y k i = true from fun z => (of_decide_eq_true z).2.elim c_83 c_102)] at e; exact e _)
                    | (have cc : xs_ownp B o y k i = true := decide_eq_true ⟨c_78, Or.inl c_83⟩
                       rw [owF_y cc, ty_add1, lo32 (owF_lo ..).1, hi32 (owF_lo ..).2] at e
                       first
                       | rw [if_pos (Or.inl c_124)] at e
                       | rw [if_pos (Or.inr c_131)] at e
                       | rw [if_neg (fun z => z.elim c_124 (fun w => w c_131))] at e
                       first
                       | rw [if_pos (Or.inl c_145)] at e
                       | rw [if_pos (Or.inr c_152)] at e
                       | rw [if_neg (fun z => z.elim c_145 (fun w => w c_152))] at e
                       exact e _)
                    | (have cc : xs_ownp B o y k i = true := decide_eq_true ⟨c_78, Or.inr c_102⟩
                       rw [owF_y cc, ty_add1, lo32 (owF_lo ..).1, hi32 (owF_lo ..).2] at e
                       first
                       | rw [if_pos (Or.inl c_124)] at e
                       | rw [if_pos (Or.inr c_131)] at e
                       | rw [if_neg (fun z => z.elim c_124 (fun w => w c_131))] at e
                       first
                       | rw [if_pos (Or.inl c_145)] at e
                       | rw [if_pos (Or.inr c_152)] at e
                       | rw [if_neg (fun z => z.elim c_145 (fun w => w c_152))] at e
                       exact e _)
              · refine wq (fun _ _ kk => rs_iload (pc := 134) dX12_own_134 rfl kk) ?_
                refine wq (fun _ _ kk => rs_goto (tgt := 141) (pc := 136) dX12_own_136 rfl kk) ?_
                refine wq (fun _ _ kk => wk_ist8 (pc := 141) dX12_own_141 (by decide) rfl kk) ?_
                refine wq (fun _ _ kk => rs_iload (pc := 143) dX12_own_143 rfl kk) ?_
                refine wq_br (fun _ _ kt kf => rs_if_eq (tgt := 155) (pc := 145) dX12_own_145 rfl kt kf) (fun c_145 => ?_) (fun c_145 => ?_)
                · refine wq (fun _ _ kk => rs_iload (pc := 155) dX12_own_155 rfl kk) ?_
                  refine wq (fun _ _ kk => rs_goto (tgt := 162) (pc := 157) dX12_own_157 rfl kk) ?_
                  refine wq (fun _ _ kk => wk_ist9 (pc := 162) dX12_own_162 (by decide) rfl kk) ?_
                  refine wq (fun _ _ kk => rs_lload (pc := 164) dX12_own_164 rfl kk) ?_
                  refine wq (fun _ _ kk => rs_iload (pc := 166) dX12_own_166 rfl kk) ?_
                  refine wq (fun _ _ kk => rs_i2l (pc := 168) dX12_own_168 kk) ?_
                  refine wq (fun _ _ kk => rs_ladd (pc := 169) dX12_own_169 kk) ?_
                  refine wq (fun _ _ kk => wk_lst6 (pc := 170) dX12_own_170 (by decide) rfl kk) ?_
                  refine wq (fun _ _ kk => wk_iinc5 (pc := 172) dX12_own_172 (by decide) rfl rfl kk) ?_
                  refine wq (fun _ _ kk => wk_iinc10 (v := nI (i + 1)) (pc := 175) dX12_own_175 (by decide) rfl (nI_1 i) kk) ?_
                  refine wq (fun _ _ kk => rs_goto (tgt := 61) (pc := 178) dX12_own_178 rfl kk) ?_
                  have e := fun u => ih (i + 1) u (by omega) (by omega)
                  first
                  | (rw [owF_n (show ¬ xs_ownp B o y k i = true from fun z => (of_decide_eq_true z).1 c_78)] at e; exact e _)
                  | (rw [owF_n (show ¬ xs_ownp B o y k i = true from fun z => (of_decide_eq_true z).2.elim c_83 c_102)] at e; exact e _)
                  | (have cc : xs_ownp B o y k i = true := decide_eq_true ⟨c_78, Or.inl c_83⟩
                     rw [owF_y cc, ty_add1, lo32 (owF_lo ..).1, hi32 (owF_lo ..).2] at e
                     first
                     | rw [if_pos (Or.inl c_124)] at e
                     | rw [if_pos (Or.inr c_131)] at e
                     | rw [if_neg (fun z => z.elim c_124 (fun w => w c_131))] at e
                     first
                     | rw [if_pos (Or.inl c_145)] at e
                     | rw [if_pos (Or.inr c_152)] at e
                     | rw [if_neg (fun z => z.elim c_145 (fun w => w c_152))] at e
                     exact e _)
                  | (have cc : xs_ownp B o y k i = true := decide_eq_true ⟨c_78, Or.inr c_102⟩
                     rw [owF_y cc, ty_add1, lo32 (owF_lo ..).1, hi32 (owF_lo ..).2] at e
                     first
                     | rw [if_pos (Or.inl c_124)] at e
                     | rw [if_pos (Or.inr c_131)] at e
                     | rw [if_neg (fun z => z.elim c_124 (fun w => w c_131))] at e
                     first
                     | rw [if_pos (Or.inl c_145)] at e
                     | rw [if_pos (Or.inr c_152)] at e
                     | rw [if_neg (fun z => z.elim c_145 (fun w => w c_152))] at e
                     exact e _)
                · refine wq (fun _ _ kk => rs_iload (pc := 148) dX12_own_148 rfl kk) ?_
                  refine wq (fun _ _ kk => rs_iload (pc := 150) dX12_own_150 rfl kk) ?_
                  refine wq_br (fun _ _ kt kf => rs_icmp_le (tgt := 160) (pc := 152) dX12_own_152 rfl kt kf) (fun c_152 => ?_) (fun c_152 => ?_)
                  · refine wq (fun _ _ kk => rs_iload (pc := 160) dX12_own_160 rfl kk) ?_
                    refine wq (fun _ _ kk => wk_ist9 (pc := 162) dX12_own_162 (by decide) rfl kk) ?_
                    refine wq (fun _ _ kk => rs_lload (pc := 164) dX12_own_164 rfl kk) ?_
                    refine wq (fun _ _ kk => rs_iload (pc := 166) dX12_own_166 rfl kk) ?_
                    refine wq (fun _ _ kk => rs_i2l (pc := 168) dX12_own_168 kk) ?_
                    refine wq (fun _ _ kk => rs_ladd (pc := 169) dX12_own_169 kk) ?_
                    refine wq (fun _ _ kk => wk_lst6 (pc := 170) dX12_own_170 (by decide) rfl kk) ?_
                    refine wq (fun _ _ kk => wk_iinc5 (pc := 172) dX12_own_172 (by decide) rfl rfl kk) ?_
                    refine wq (fun _ _ kk => wk_iinc10 (v := nI (i + 1)) (pc := 175) dX12_own_175 (by decide) rfl (nI_1 i) kk) ?_
                    refine wq (fun _ _ kk => rs_goto (tgt := 61) (pc := 178) dX12_own_178 rfl kk) ?_
                    have e := fun u => ih (i + 1) u (by omega) (by omega)
                    first
                    | (rw [owF_n (show ¬ xs_ownp B o y k i = true from fun z => (of_decide_eq_true z).1 c_78)] at e; exact e _)
                    | (rw [owF_n (show ¬ xs_ownp B o y k i = true from fun z => (of_decide_eq_true z).2.elim c_83 c_102)] at e; exact e _)
                    | (have cc : xs_ownp B o y k i = true := decide_eq_true ⟨c_78, Or.inl c_83⟩
                       rw [owF_y cc, ty_add1, lo32 (owF_lo ..).1, hi32 (owF_lo ..).2] at e
                       first
                       | rw [if_pos (Or.inl c_124)] at e
                       | rw [if_pos (Or.inr c_131)] at e
                       | rw [if_neg (fun z => z.elim c_124 (fun w => w c_131))] at e
                       first
                       | rw [if_pos (Or.inl c_145)] at e
                       | rw [if_pos (Or.inr c_152)] at e
                       | rw [if_neg (fun z => z.elim c_145 (fun w => w c_152))] at e
                       exact e _)
                    | (have cc : xs_ownp B o y k i = true := decide_eq_true ⟨c_78, Or.inr c_102⟩
                       rw [owF_y cc, ty_add1, lo32 (owF_lo ..).1, hi32 (owF_lo ..).2] at e
                       first
                       | rw [if_pos (Or.inl c_124)] at e
                       | rw [if_pos (Or.inr c_131)] at e
                       | rw [if_neg (fun z => z.elim c_124 (fun w => w c_131))] at e
                       first
                       | rw [if_pos (Or.inl c_145)] at e
                       | rw [if_pos (Or.inr c_152)] at e
                       | rw [if_neg (fun z => z.elim c_145 (fun w => w c_152))] at e
                       exact e _)
                  · refine wq (fun _ _ kk => rs_iload (pc := 155) dX12_own_155 rfl kk) ?_
                    refine wq (fun _ _ kk => rs_goto (tgt := 162) (pc := 157) dX12_own_157 rfl kk) ?_
                    refine wq (fun _ _ kk => wk_ist9 (pc := 162) dX12_own_162 (by decide) rfl kk) ?_
                    refine wq (fun _ _ kk => rs_lload (pc := 164) dX12_own_164 rfl kk) ?_
                    refine wq (fun _ _ kk => rs_iload (pc := 166) dX12_own_166 rfl kk) ?_
                    refine wq (fun _ _ kk => rs_i2l (pc := 168) dX12_own_168 kk) ?_
                    refine wq (fun _ _ kk => rs_ladd (pc := 169) dX12_own_169 kk) ?_
                    refine wq (fun _ _ kk => wk_lst6 (pc := 170) dX12_own_170 (by decide) rfl kk) ?_
                    refine wq (fun _ _ kk => wk_iinc5 (pc := 172) dX12_own_172 (by decide) rfl rfl kk) ?_
                    refine wq (fun _ _ kk => wk_iinc10 (v := nI (i + 1)) (pc := 175) dX12_own_175 (by decide) rfl (nI_1 i) kk) ?_
                    refine wq (fun _ _ kk => rs_goto (tgt := 61) (pc := 178) dX12_own_178 rfl kk) ?_
                    have e := fun u => ih (i + 1) u (by omega) (by omega)
                    first
                    | (rw [owF_n (show ¬ xs_ownp B o y k i = true from fun z => (of_decide_eq_true z).1 c_78)] at e; exact e _)
                    | (rw [owF_n (show ¬ xs_ownp B o y k i = true from fun z => (of_decide_eq_true z).2.elim c_83 c_102)] at e; exact e _)
                    | (have cc : xs_ownp B o y k i = true := decide_eq_true ⟨c_78, Or.inl c_83⟩
                       rw [owF_y cc, ty_add1, lo32 (owF_lo ..).1, hi32 (owF_lo ..).2] at e
                       first
                       | rw [if_pos (Or.inl c_124)] at e
                       | rw [if_pos (Or.inr c_131)] at e
                       | rw [if_neg (fun z => z.elim c_124 (fun w => w c_131))] at e
                       first
                       | rw [if_pos (Or.inl c_145)] at e
                       | rw [if_pos (Or.inr c_152)] at e
                       | rw [if_neg (fun z => z.elim c_145 (fun w => w c_152))] at e
                       exact e _)
                    | (have cc : xs_ownp B o y k i = true := decide_eq_true ⟨c_78, Or.inr c_102⟩
                       rw [owF_y cc, ty_add1, lo32 (owF_lo ..).1, hi32 (owF_lo ..).2] at e
                       first
                       | rw [if_pos (Or.inl c_124)] at e
                       | rw [if_pos (Or.inr c_131)] at e
                       | rw [if_neg (fun z => z.elim c_124 (fun w => w c_131))] at e
                       first
                       | rw [if_pos (Or.inl c_145)] at e
                       | rw [if_pos (Or.inr c_152)] at e
                       | rw [if_neg (fun z => z.elim c_145 (fun w => w c_152))] at e
                       exact e _)
set_option maxRecDepth 100000 in
set_option maxHeartbeats 4000000 in
theorem c_X12_own {h : ai_H} {S : Md} {B : Bk} {ln : Nat} (hok : bk_ok B ln) (hRB : RB B S) (hmd : md_at h S) (o y k x : Int32) : ai_QM MX12_own [.ref 307, .int o, .int y, .int k, .int x] h (fun res g => g = h ∧ res = some (.int (xs_own B o y k x))) := by
  refine qm_of (ls := [.ref 307, .int o, .int y, .int k, .int x, .float 0, .float 0, .float 0, .float 0, .float 0, .float 0, .float 0]) (by decide) (by simp [ai_en, Value.category]) (by rfl) ?_
  refine wq (fun _ _ kk => rs_aload_n (pc := 0) dX12_own_0 rfl kk) ?_
  refine wq (fun _ _ kk => rs_iload_n (pc := 1) dX12_own_1 rfl kk) ?_
  refine wq (fun _ _ kk => rs_callV (as := [_]) (pc := 2) dX12_own_2 mk_X12_isObserver mlX12_217 in_X12_isObserver se_X12_isObserver rfl (md_lt hmd (by decide)) hmd.2.1 rfl rfl (Nat.le_of_ble_eq_true rfl) (c_X12_isObserver hmd _) kk) ?_
  rw [rb_obs hok hRB]
  refine wq_br (fun _ _ kt kf => rs_if_eq (tgt := 42) (pc := 5) dX12_own_5 rfl kt kf) (fun c_5 => ?_) (fun c_5 => ?_)
  · refine wq (fun _ _ kk => rs_ldcw (pc := 42) dX12_own_42 cnX12_425 kk) ?_
    refine wq_ret ?_ (rs_iret (pc := 45) dX12_own_45 rfl)
    refine ⟨rfl, ?_⟩
    have ok : (tb_has (bk_o B).1 o = 0 ∨ bi_in y (-1) 192 = 0 ∨ bi_in k 0 9999 = 0 ∨ bi_in x 0 2 = 0) := by
      first
      | exact Or.inl c_5
      | exact Or.inr (Or.inl c_19)
      | exact Or.inr (Or.inr (Or.inl c_26))
      | exact Or.inr (Or.inr (Or.inr c_39))
    rw [xs_own, if_pos ok]
  · refine wq (fun _ _ kk => rs_iload_n (pc := 8) dX12_own_8 rfl kk) ?_
    refine wq (fun _ _ kk => rs_i2l (pc := 9) dX12_own_9 kk) ?_
    refine wq (fun _ _ kk => rs_ldc2 (pc := 10) dX12_own_10 cnX12_446 kk) ?_
    refine wq (fun _ _ kk => rs_ldc2 (pc := 13) dX12_own_13 cnX12_448 kk) ?_
    refine wq (fun _ _ kk => rs_callS (as := [_, _, _]) (pc := 16) dX12_own_16 mk_X12_in mlX12_181 st_X12_in rfl rfl (Nat.le_of_ble_eq_true rfl) (c_X12_inI y (-1) 192) kk) ?_
    refine wq_br (fun _ _ kt kf => rs_if_eq (tgt := 42) (pc := 19) dX12_own_19 rfl kt kf) (fun c_19 => ?_) (fun c_19 => ?_)
    · refine wq (fun _ _ kk => rs_ldcw (pc := 42) dX12_own_42 cnX12_425 kk) ?_
      refine wq_ret ?_ (rs_iret (pc := 45) dX12_own_45 rfl)
      refine ⟨rfl, ?_⟩
      have ok : (tb_has (bk_o B).1 o = 0 ∨ bi_in y (-1) 192 = 0 ∨ bi_in k 0 9999 = 0 ∨ bi_in x 0 2 = 0) := by
        first
        | exact Or.inl c_5
        | exact Or.inr (Or.inl c_19)
        | exact Or.inr (Or.inr (Or.inl c_26))
        | exact Or.inr (Or.inr (Or.inr c_39))
      rw [xs_own, if_pos ok]
    · refine wq (fun _ _ kk => rs_iload_n (pc := 22) dX12_own_22 rfl kk) ?_
      refine wq (fun _ _ kk => rs_callS (as := [_]) (pc := 23) dX12_own_23 mk_X12_isWeek mlX12_230 st_X12_isWeek rfl rfl (Nat.le_of_ble_eq_true rfl) (c_X12_isWeek _) kk) ?_
      refine wq_br (fun _ _ kt kf => rs_if_eq (tgt := 42) (pc := 26) dX12_own_26 rfl kt kf) (fun c_26 => ?_) (fun c_26 => ?_)
      · refine wq (fun _ _ kk => rs_ldcw (pc := 42) dX12_own_42 cnX12_425 kk) ?_
        refine wq_ret ?_ (rs_iret (pc := 45) dX12_own_45 rfl)
        refine ⟨rfl, ?_⟩
        have ok : (tb_has (bk_o B).1 o = 0 ∨ bi_in y (-1) 192 = 0 ∨ bi_in k 0 9999 = 0 ∨ bi_in x 0 2 = 0) := by
          first
          | exact Or.inl c_5
          | exact Or.inr (Or.inl c_19)
          | exact Or.inr (Or.inr (Or.inl c_26))
          | exact Or.inr (Or.inr (Or.inr c_39))
        rw [xs_own, if_pos ok]
      · refine wq (fun _ _ kk => rs_iload (pc := 29) dX12_own_29 rfl kk) ?_
        refine wq (fun _ _ kk => rs_i2l (pc := 31) dX12_own_31 kk) ?_
        refine wq (fun _ _ kk => rs_lconst (v := 0) (pc := 32) dX12_own_32 rfl kk) ?_
        refine wq (fun _ _ kk => rs_ldc2 (pc := 33) dX12_own_33 cnX12_441 kk) ?_
        refine wq (fun _ _ kk => rs_callS (as := [_, _, _]) (pc := 36) dX12_own_36 mk_X12_in mlX12_181 st_X12_in rfl rfl (Nat.le_of_ble_eq_true rfl) (c_X12_inI x 0 2) kk) ?_
        refine wq_bn (fun _ _ kt kf => rs_if_ne (tgt := 46) (pc := 39) dX12_own_39 rfl kt kf) (fun c_39 => ?_) (fun c_39 => ?_)
        · refine wq (fun _ _ kk => rs_iconst (v := 0) (pc := 46) dX12_own_46 rfl kk) ?_
          refine wq (fun _ _ kk => wk_ist5 (pc := 47) dX12_own_47 (by decide) rfl kk) ?_
          refine wq (fun _ _ kk => rs_lconst (v := 0) (pc := 49) dX12_own_49 rfl kk) ?_
          refine wq (fun _ _ kk => wk_lst6 (pc := 50) dX12_own_50 (by decide) rfl kk) ?_
          refine wq (fun _ _ kk => rs_iconst (v := 0) (pc := 52) dX12_own_52 rfl kk) ?_
          refine wq (fun _ _ kk => wk_ist8 (pc := 53) dX12_own_53 (by decide) rfl kk) ?_
          refine wq (fun _ _ kk => rs_iconst (v := 0) (pc := 55) dX12_own_55 rfl kk) ?_
          refine wq (fun _ _ kk => wk_ist9 (pc := 56) dX12_own_56 (by decide) rfl kk) ?_
          refine wq (fun _ _ kk => rs_iconst (v := 0) (pc := 58) dX12_own_58 rfl kk) ?_
          refine wq (fun _ _ kk => wk_ist10 (pc := 59) dX12_own_59 (by decide) rfl kk) ?_
          have ok : ¬ (tb_has (bk_o B).1 o = 0 ∨ bi_in y (-1) 192 = 0 ∨ bi_in k 0 9999 = 0 ∨ bi_in x 0 2 = 0) := by
            rintro (z | z | z | z)
            · exact c_5 z
            · exact c_19 z
            · exact c_26 z
            · exact c_39 z
          refine wq_mono (Q := (fun res g => g = h ∧ res = some (.int (if x = 0 then (owF B o y k (nR B)).1 else if (owF B o y k (nR B)).1 = 0 then -1000000000 else if x = 1 then (ty_thou (owF B o y k (nR B)).1 (owF B o y k (nR B)).2.1).toInt32 else ((owF B o y k (nR B)).2.2.2 - (owF B o y k (nR B)).2.2.1).toInt32)))) ?_ ?_
          · rintro r g ⟨e1, e2⟩
            exact ⟨e1, by rw [e2, xs_own, if_neg ok]; rfl⟩
          · exact l_X12_own hok hRB (bi_in_9 c_26).2 hmd (nR B + 1) 0 _ (by omega) (by omega)
        · refine wq (fun _ _ kk => rs_ldcw (pc := 42) dX12_own_42 cnX12_425 kk) ?_
          refine wq_ret ?_ (rs_iret (pc := 45) dX12_own_45 rfl)
          refine ⟨rfl, ?_⟩
          have ok : (tb_has (bk_o B).1 o = 0 ∨ bi_in y (-1) 192 = 0 ∨ bi_in k 0 9999 = 0 ∨ bi_in x 0 2 = 0) := by
            first
            | exact Or.inl c_5
            | exact Or.inr (Or.inl c_19)
            | exact Or.inr (Or.inr (Or.inl c_26))
            | exact Or.inr (Or.inr (Or.inr c_39))
          rw [xs_own, if_pos ok]
