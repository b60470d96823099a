/-! 89: a law that was read is a law; bytes; feed of the model (walks laid by wip/whole/p89.py) -/
theorem lw_ok {n : Nat} {y : PS} (hn : n ≤ 400) (hy : pok n y) (h0 : pF y = 0) (h9 : pZ y = 9) : lwOK (pD y) := by
  have hI := hy.1 h0
  obtain ⟨r1, r2, r3⟩ := py_room hn hI
  obtain ⟨⟨i1, i2⟩, -, -, ⟨t0, -⟩, ⟨i7, -⟩, -⟩ := hI
  obtain ⟨eA, eB, -⟩ := t0 (Or.inr h9)
  rw [eA, eB, List.append_nil, List.append_nil] at i2 r2
  exact ⟨i7, Nat.le_trans i2 i1, r3, by have : (ent (pD y)).length + _ + _ ≤ 253 := r2; omega⟩
theorem by8_se : ∀ c, c < 256 → (by8 c).toBitVec = (BitVec.ofNat 8 c).signExtend 32 := by decide +kernel
theorem by8_id : ∀ c, c < 256 → (by8 c).toInt8.toInt32 = by8 c := by decide +kernel
theorem b255 : ∀ i, i < 32 → (255#32).getLsbD i = decide (i < 8) := by decide
/-- a byte of a number: as the class keeps it, as the model does -/
theorem byte_bv (B : BitVec 32) {s : Nat} (hs : s ≤ 24) : ∃ c, c < 256 ∧ (B.ushiftRight s &&& 255#32) = BitVec.ofNat 32 c ∧ ((B.sshiftRight s).signExtend 8).signExtend 32 = (by8 c).toBitVec := by
  have hc : (B.extractLsb' s 8).toNat < 256 := (B.extractLsb' s 8).isLt
  refine ⟨(B.extractLsb' s 8).toNat, hc, ?_, ?_⟩
  · apply BitVec.eq_of_getLsbD_eq
    intro i hi
    rw [BitVec.getLsbD_and, b255 i hi, BitVec.getLsbD_ofNat, BitVec.testBit_toNat, BitVec.getLsbD_extractLsb']
    show ((B >>> s).getLsbD i && _) = _
    rw [BitVec.getLsbD_ushiftRight]
    by_cases h8 : i < 8
    · simp [h8, hi]
    · simp [h8]
  · rw [by8_se _ hc]
    congr 1
    rw [BitVec.ofNat_toNat, BitVec.setWidth_eq]
    apply BitVec.eq_of_getLsbD_eq
    intro i hi
    have h1 : i < 32 := by omega
    have h2 : s + i < 32 := by omega
    have h3 : decide (32 ≤ i) = false := decide_eq_false (by omega)
    rw [BitVec.getLsbD_signExtend, BitVec.getLsbD_extractLsb', if_pos h1, BitVec.getLsbD_sshiftRight, if_pos h2, h3]
    simp
/-- two tapes, sign by sign -/
def tpr (n : Nat) (f g : Nat → Int32) : Prop := ∀ q, q < n → ∃ c, c < 256 ∧ f q = nI c ∧ g q = by8 c
theorem byte24 (x : Int32) : ∃ c, c < 256 ∧ xs_byte x 24 = nI c ∧ vp_nar .byte (x >>> ((24 : Int32) &&& 31)).toInt8.toInt32 = by8 c := by
  obtain ⟨c, h1, h2, h3⟩ := byte_bv x.toBitVec (s := 24) (by decide)
  refine ⟨c, h1, Int32.toBitVec_inj.mp h2, ?_⟩
  have h4 : (x >>> ((24 : Int32) &&& 31)).toInt8.toInt32 = by8 c := Int32.toBitVec_inj.mp h3
  rw [vp_nar_byte, h4, by8_id c h1]
theorem byte16 (x : Int32) : ∃ c, c < 256 ∧ xs_byte x 16 = nI c ∧ vp_nar .byte (x >>> ((16 : Int32) &&& 31)).toInt8.toInt32 = by8 c := by
  obtain ⟨c, h1, h2, h3⟩ := byte_bv x.toBitVec (s := 16) (by decide)
  refine ⟨c, h1, Int32.toBitVec_inj.mp h2, ?_⟩
  have h4 : (x >>> ((16 : Int32) &&& 31)).toInt8.toInt32 = by8 c := Int32.toBitVec_inj.mp h3
  rw [vp_nar_byte, h4, by8_id c h1]
theorem byte8 (x : Int32) : ∃ c, c < 256 ∧ xs_byte x 8 = nI c ∧ vp_nar .byte (x >>> ((8 : Int32) &&& 31)).toInt8.toInt32 = by8 c := by
  obtain ⟨c, h1, h2, h3⟩ := byte_bv x.toBitVec (s := 8) (by decide)
  refine ⟨c, h1, Int32.toBitVec_inj.mp h2, ?_⟩
  have h4 : (x >>> ((8 : Int32) &&& 31)).toInt8.toInt32 = by8 c := Int32.toBitVec_inj.mp h3
  rw [vp_nar_byte, h4, by8_id c h1]
theorem byte0 (x : Int32) : ∃ c, c < 256 ∧ xs_byte x 0 = nI c ∧ vp_nar .byte (x >>> ((0 : Int32) &&& 31)).toInt8.toInt32 = by8 c := by
  obtain ⟨c, h1, h2, h3⟩ := byte_bv x.toBitVec (s := 0) (by decide)
  refine ⟨c, h1, Int32.toBitVec_inj.mp h2, ?_⟩
  have h4 : (x >>> ((0 : Int32) &&& 31)).toInt8.toInt32 = by8 c := Int32.toBitVec_inj.mp h3
  rw [vp_nar_byte, h4, by8_id c h1]
def mp_b (x s : Int32) : Int32 := vp_nar .byte (x >>> (s &&& 31)).toInt8.toInt32
def mp_put (f : Nat → Int32) (k : Nat) (x : Int32) : Nat → Int32 := upd (upd (upd (upd f k (mp_b x 24)) (k + 1) (mp_b x 16)) (k + 2) (mp_b x 8)) (k + 3) (mp_b x 0)
theorem tpr_1 {n : Nat} {f g : Nat → Int32} {u v : Int32} (h : tpr n f g) (hc : ∃ c, c < 256 ∧ u = nI c ∧ v = by8 c) : tpr (n + 1) (upd f n u) (upd g n v) := by
  intro q hq
  by_cases e : q = n
  · subst e
    rw [pk_us, pk_us]
    exact hc
  · rw [pk_un e, pk_un e]
    exact h q (by omega)
theorem tpr_4 {n : Nat} {f g : Nat → Int32} (h : tpr n f g) (x : Int32) : tpr (n + 4) (tp_put f n x) (mp_put g n x) := tpr_1 (tpr_1 (tpr_1 (tpr_1 h (byte24 x)) (byte16 x)) (byte8 x)) (byte0 x)
theorem tpr.le {n m : Nat} {f g : Nat → Int32} (h : tpr n f g) (hm : m ≤ n) : tpr m f g := fun q hq => h q (by omega)
/-- a text of both tapes -/
theorem tpr_t {n : Nat} {f g : Nat → Int32} (h : tpr n f g) : ∃ t : Nat → Nat, ∀ q, q < n → t q < 256 ∧ f q = nI (t q) ∧ g q = by8 (t q) := by
  refine ⟨fun q => if hq : q < n then Classical.choose (h q hq) else 0, fun q hq => ?_⟩
  simp only [dif_pos hq]
  exact Classical.choose_spec (h q hq)
theorem dX12_put_0 : decode cX12_put 0 = .ok (.bipush 24, 2) := by decide +kernel
theorem dX12_put_2 : decode cX12_put 2 = .ok (.istore_n 2, 1) := by decide +kernel
theorem dX12_put_3 : decode cX12_put 3 = .ok (.iload_n 2, 1) := by decide +kernel
theorem dX12_put_4 : decode cX12_put 4 = .ok (.ifCond .lt 32, 3) := by decide +kernel
theorem dX12_put_7 : decode cX12_put 7 = .ok (.aload_n 0, 1) := by decide +kernel
theorem dX12_put_8 : decode cX12_put 8 = .ok (.getfield 58, 3) := by decide +kernel
theorem dX12_put_11 : decode cX12_put 11 = .ok (.aload_n 0, 1) := by decide +kernel
theorem dX12_put_12 : decode cX12_put 12 = .ok (.getfield 241, 3) := by decide +kernel
theorem dX12_put_15 : decode cX12_put 15 = .ok (.iload_n 1, 1) := by decide +kernel
theorem dX12_put_16 : decode cX12_put 16 = .ok (.iload_n 2, 1) := by decide +kernel
theorem dX12_put_17 : decode cX12_put 17 = .ok (.ishr, 1) := by decide +kernel
theorem dX12_put_18 : decode cX12_put 18 = .ok (.i2b, 1) := by decide +kernel
theorem dX12_put_19 : decode cX12_put 19 = .ok (.bastore, 1) := by decide +kernel
theorem dX12_put_20 : decode cX12_put 20 = .ok (.aload_n 0, 1) := by decide +kernel
theorem dX12_put_21 : decode cX12_put 21 = .ok (.dup, 1) := by decide +kernel
theorem dX12_put_22 : decode cX12_put 22 = .ok (.getfield 241, 3) := by decide +kernel
theorem dX12_put_25 : decode cX12_put 25 = .ok (.iconst 1, 1) := by decide +kernel
theorem dX12_put_26 : decode cX12_put 26 = .ok (.iadd, 1) := by decide +kernel
theorem dX12_put_27 : decode cX12_put 27 = .ok (.putfield 241, 3) := by decide +kernel
theorem dX12_put_30 : decode cX12_put 30 = .ok (.iinc 2 (-8), 3) := by decide +kernel
theorem dX12_put_33 : decode cX12_put 33 = .ok (.goto (-30), 3) := by decide +kernel
theorem dX12_put_36 : decode cX12_put 36 = .ok (.return_, 1) := by decide +kernel
set_option maxRecDepth 100000 in
set_option maxHeartbeats 4000000 in
theorem c_X12_put {h : ai_H} {S : Md} {k : Nat} (hk : k + 4 ≤ 400) (hmd : md_at h S) (h22 : S.1 22 = nI (k + 0)) (x : Int32) : ai_QM MX12_put [.ref 307, .int x] h (fun rv g => rv = none ∧ md_ext h g ∧ ∃ T, md_at g T ∧ (∀ j, j ≠ 22 → T.1 j = S.1 j) ∧ T.1 22 = nI (k + 4) ∧ T.2.1 = S.2.1 ∧ T.2.2.2 = S.2.2.2 ∧ (∀ j, j ≠ 30 → T.2.2.1 j = S.2.2.1 j) ∧ T.2.2.1 30 = mp_put (S.2.2.1 30) k x) := by
  refine qm_of (ls := [.ref 307, .int x, .float 0]) (by decide) (by simp [ai_en, Value.category]) (by rfl) ?_
  refine wq (fun _ _ kk => rs_bipush (v := 24) (pc := 0) dX12_put_0 rfl kk) ?_
  refine wq (fun _ _ kk => wk_istn2 (pc := 2) dX12_put_2 (by decide) rfl kk) ?_
  refine wq (fun _ _ kk => rs_iload_n (pc := 3) dX12_put_3 rfl kk) ?_
  refine wq_br (fun _ _ kt kf => rs_if_lt (tgt := 36) (pc := 4) dX12_put_4 rfl kt kf) (fun c_4 => absurd c_4 (by decide)) (fun c_4 => ?_)
  refine wq (fun _ _ kk => rs_aload_n (pc := 7) dX12_put_7 rfl kk) ?_
  refine wq (fun _ _ kk => rs_getf (pc := 8) dX12_put_8 fX12_58 (md_lt hmd (by decide)) hmd.2.1 rfl kk) ?_
  refine wq (fun _ _ kk => rs_aload_n (pc := 11) dX12_put_11 rfl kk) ?_
  refine wq (fun _ _ kk => rs_getf (pc := 12) dX12_put_12 fX12_241 (md_lt hmd (by decide)) hmd.2.1 rfl kk) ?_
  rw [h22]
  refine wq (fun _ _ kk => rs_iload_n (pc := 15) dX12_put_15 rfl kk) ?_
  refine wq (fun _ _ kk => rs_iload_n (pc := 16) dX12_put_16 rfl kk) ?_
  refine wq (fun _ _ kk => rs_ishr (pc := 17) dX12_put_17 kk) ?_
  refine wq (fun _ _ kk => rs_i2b (pc := 18) dX12_put_18 kk) ?_
  refine wq (fun _ _ kk => rs_bast (pc := 19) dX12_put_19 (md_lt hmd (by decide)) (md_geti (d := 16) (k := 30) (kd := 3) (n := 400) rfl (by decide) hmd) (vp_in_nI (n := k + 0) (N := 400) (by omega) (by decide)) kk) ?_
  refine wq_gen (fun h_1 e_1 => ?_)
  obtain ⟨m_1, s_1, g_1, o_1⟩ := ai_e1 e_1
  replace hmd := md_at_ai (d := 16) rfl (by decide) hmd m_1 g_1 o_1
  have E_1 := (md_ext.rf).trans (md_ext_of m_1 s_1 o_1 (by decide))
  rw [nI_clamp (show k + 0 < 2 ^ 31 by omega)] at hmd
  obtain ⟨R_0, hmd, e_0r, a_0r, b_0r, c_0r, d_0r⟩ := md_row hmd
  refine wq (fun _ _ kk => rs_aload_n (pc := 20) dX12_put_20 rfl kk) ?_
  refine wq (fun _ _ kk => rs_dup (pc := 21) dX12_put_21 rfl kk) ?_
  refine wq (fun _ _ kk => rs_getf (pc := 22) dX12_put_22 fX12_241 (md_lt hmd (by decide)) hmd.2.1 rfl kk) ?_
  rw [a_0r, h22]
  refine wq (fun _ _ kk => rs_iconst (v := 1) (pc := 25) dX12_put_25 rfl kk) ?_
  refine wq (fun _ _ kk => rs_iadd (pc := 26) dX12_put_26 kk) ?_
  refine wq (fun _ _ kk => rs_putf (pc := 27) dX12_put_27 fX12_241 (md_lt hmd (by decide)) hmd.2.1 rfl (Nat.le_of_ble_eq_true rfl) kk) ?_
  refine wq_gen (fun h_2 e_2 => ?_)
  obtain ⟨m_2, s_2, g_2, o_2⟩ := ai_e1 e_2
  replace hmd := md_at_si (k := 22) hmd m_2 g_2 o_2 rfl
  have E_2 := (E_1).trans (md_ext_of m_2 s_2 o_2 (by decide))
  obtain ⟨Q_0, hmd, k_0q, r_0q, s_0q⟩ := md_new hmd
  replace k_0q : Q_0.1 22 = nI (k + 1) := k_0q.trans (nI_1 (k + 0))
  refine wq (fun _ _ kk => wk_iinc2 (v := 16) (pc := 30) dX12_put_30 (by decide) rfl (by decide) kk) ?_
  refine wq (fun _ _ kk => rs_goto (tgt := 3) (pc := 33) dX12_put_33 rfl kk) ?_
  refine wq (fun _ _ kk => rs_iload_n (pc := 3) dX12_put_3 rfl kk) ?_
  refine wq_br (fun _ _ kt kf => rs_if_lt (tgt := 36) (pc := 4) dX12_put_4 rfl kt kf) (fun c_4 => absurd c_4 (by decide)) (fun c_4 => ?_)
  refine wq (fun _ _ kk => rs_aload_n (pc := 7) dX12_put_7 rfl kk) ?_
  refine wq (fun _ _ kk => rs_getf (pc := 8) dX12_put_8 fX12_58 (md_lt hmd (by decide)) hmd.2.1 rfl kk) ?_
  refine wq (fun _ _ kk => rs_aload_n (pc := 11) dX12_put_11 rfl kk) ?_
  refine wq (fun _ _ kk => rs_getf (pc := 12) dX12_put_12 fX12_241 (md_lt hmd (by decide)) hmd.2.1 rfl kk) ?_
  rw [k_0q]
  refine wq (fun _ _ kk => rs_iload_n (pc := 15) dX12_put_15 rfl kk) ?_
  refine wq (fun _ _ kk => rs_iload_n (pc := 16) dX12_put_16 rfl kk) ?_
  refine wq (fun _ _ kk => rs_ishr (pc := 17) dX12_put_17 kk) ?_
  refine wq (fun _ _ kk => rs_i2b (pc := 18) dX12_put_18 kk) ?_
  refine wq (fun _ _ kk => rs_bast (pc := 19) dX12_put_19 (md_lt hmd (by decide)) (md_geti (d := 16) (k := 30) (kd := 3) (n := 400) rfl (by decide) hmd) (vp_in_nI (n := k + 1) (N := 400) (by omega) (by decide)) kk) ?_
  refine wq_gen (fun h_3 e_3 => ?_)
  obtain ⟨m_3, s_3, g_3, o_3⟩ := ai_e1 e_3
  replace hmd := md_at_ai (d := 16) rfl (by decide) hmd m_3 g_3 o_3
  have E_3 := (E_2).trans (md_ext_of m_3 s_3 o_3 (by decide))
  rw [nI_clamp (show k + 1 < 2 ^ 31 by omega)] at hmd
  obtain ⟨R_1, hmd, e_1r, a_1r, b_1r, c_1r, d_1r⟩ := md_row hmd
  refine wq (fun _ _ kk => rs_aload_n (pc := 20) dX12_put_20 rfl kk) ?_
  refine wq (fun _ _ kk => rs_dup (pc := 21) dX12_put_21 rfl kk) ?_
  refine wq (fun _ _ kk => rs_getf (pc := 22) dX12_put_22 fX12_241 (md_lt hmd (by decide)) hmd.2.1 rfl kk) ?_
  rw [a_1r, k_0q]
  refine wq (fun _ _ kk => rs_iconst (v := 1) (pc := 25) dX12_put_25 rfl kk) ?_
  refine wq (fun _ _ kk => rs_iadd (pc := 26) dX12_put_26 kk) ?_
  refine wq (fun _ _ kk => rs_putf (pc := 27) dX12_put_27 fX12_241 (md_lt hmd (by decide)) hmd.2.1 rfl (Nat.le_of_ble_eq_true rfl) kk) ?_
  refine wq_gen (fun h_4 e_4 => ?_)
  obtain ⟨m_4, s_4, g_4, o_4⟩ := ai_e1 e_4
  replace hmd := md_at_si (k := 22) hmd m_4 g_4 o_4 rfl
  have E_4 := (E_3).trans (md_ext_of m_4 s_4 o_4 (by decide))
  obtain ⟨Q_1, hmd, k_1q, r_1q, s_1q⟩ := md_new hmd
  replace k_1q : Q_1.1 22 = nI (k + 2) := k_1q.trans (nI_1 (k + 1))
  refine wq (fun _ _ kk => wk_iinc2 (v := 8) (pc := 30) dX12_put_30 (by decide) rfl (by decide) kk) ?_
  refine wq (fun _ _ kk => rs_goto (tgt := 3) (pc := 33) dX12_put_33 rfl kk) ?_
  refine wq (fun _ _ kk => rs_iload_n (pc := 3) dX12_put_3 rfl kk) ?_
  refine wq_br (fun _ _ kt kf => rs_if_lt (tgt := 36) (pc := 4) dX12_put_4 rfl kt kf) (fun c_4 => absurd c_4 (by decide)) (fun c_4 => ?_)
  refine wq (fun _ _ kk => rs_aload_n (pc := 7) dX12_put_7 rfl kk) ?_
  refine wq (fun _ _ kk => rs_getf (pc := 8) dX12_put_8 fX12_58 (md_lt hmd (by decide)) hmd.2.1 rfl kk) ?_
  refine wq (fun _ _ kk => rs_aload_n (pc := 11) dX12_put_11 rfl kk) ?_
  refine wq (fun _ _ kk => rs_getf (pc := 12) dX12_put_12 fX12_241 (md_lt hmd (by decide)) hmd.2.1 rfl kk) ?_
  rw [k_1q]
  refine wq (fun _ _ kk => rs_iload_n (pc := 15) dX12_put_15 rfl kk) ?_
  refine wq (fun _ _ kk => rs_iload_n (pc := 16) dX12_put_16 rfl kk) ?_
  refine wq (fun _ _ kk => rs_ishr (pc := 17) dX12_put_17 kk) ?_
  refine wq (fun _ _ kk => rs_i2b (pc := 18) dX12_put_18 kk) ?_
  refine wq (fun _ _ kk => rs_bast (pc := 19) dX12_put_19 (md_lt hmd (by decide)) (md_geti (d := 16) (k := 30) (kd := 3) (n := 400) rfl (by decide) hmd) (vp_in_nI (n := k + 2) (N := 400) (by omega) (by decide)) kk) ?_
  refine wq_gen (fun h_5 e_5 => ?_)
  obtain ⟨m_5, s_5, g_5, o_5⟩ := ai_e1 e_5
  replace hmd := md_at_ai (d := 16) rfl (by decide) hmd m_5 g_5 o_5
  have E_5 := (E_4).trans (md_ext_of m_5 s_5 o_5 (by decide))
  rw [nI_clamp (show k + 2 < 2 ^ 31 by omega)] at hmd
  obtain ⟨R_2, hmd, e_2r, a_2r, b_2r, c_2r, d_2r⟩ := md_row hmd
  refine wq (fun _ _ kk => rs_aload_n (pc := 20) dX12_put_20 rfl kk) ?_
  refine wq (fun _ _ kk => rs_dup (pc := 21) dX12_put_21 rfl kk) ?_
  refine wq (fun _ _ kk => rs_getf (pc := 22) dX12_put_22 fX12_241 (md_lt hmd (by decide)) hmd.2.1 rfl kk) ?_
  rw [a_2r, k_1q]
  refine wq (fun _ _ kk => rs_iconst (v := 1) (pc := 25) dX12_put_25 rfl kk) ?_
  refine wq (fun _ _ kk => rs_iadd (pc := 26) dX12_put_26 kk) ?_
  refine wq (fun _ _ kk => rs_putf (pc := 27) dX12_put_27 fX12_241 (md_lt hmd (by decide)) hmd.2.1 rfl (Nat.le_of_ble_eq_true rfl) kk) ?_
  refine wq_gen (fun h_6 e_6 => ?_)
  obtain ⟨m_6, s_6, g_6, o_6⟩ := ai_e1 e_6
  replace hmd := md_at_si (k := 22) hmd m_6 g_6 o_6 rfl
  have E_6 := (E_5).trans (md_ext_of m_6 s_6 o_6 (by decide))
  obtain ⟨Q_2, hmd, k_2q, r_2q, s_2q⟩ := md_new hmd
  replace k_2q : Q_2.1 22 = nI (k + 3) := k_2q.trans (nI_1 (k + 2))
  refine wq (fun _ _ kk => wk_iinc2 (v := 0) (pc := 30) dX12_put_30 (by decide) rfl (by decide) kk) ?_
  refine wq (fun _ _ kk => rs_goto (tgt := 3) (pc := 33) dX12_put_33 rfl kk) ?_
  refine wq (fun _ _ kk => rs_iload_n (pc := 3) dX12_put_3 rfl kk) ?_
  refine wq_br (fun _ _ kt kf => rs_if_lt (tgt := 36) (pc := 4) dX12_put_4 rfl kt kf) (fun c_4 => absurd c_4 (by decide)) (fun c_4 => ?_)
  refine wq (fun _ _ kk => rs_aload_n (pc := 7) dX12_put_7 rfl kk) ?_
  refine wq (fun _ _ kk => rs_getf (pc := 8) dX12_put_8 fX12_58 (md_lt hmd (by decide)) hmd.2.1 rfl kk) ?_
  refine wq (fun _ _ kk => rs_aload_n (pc := 11) dX12_put_11 rfl kk) ?_
  refine wq (fun _ _ kk => rs_getf (pc := 12) dX12_put_12 fX12_241 (md_lt hmd (by decide)) hmd.2.1 rfl kk) ?_
  rw [k_2q]
  refine wq (fun _ _ kk => rs_iload_n (pc := 15) dX12_put_15 rfl kk) ?_
  refine wq (fun _ _ kk => rs_iload_n (pc := 16) dX12_put_16 rfl kk) ?_
  refine wq (fun _ _ kk => rs_ishr (pc := 17) dX12_put_17 kk) ?_
  refine wq (fun _ _ kk => rs_i2b (pc := 18) dX12_put_18 kk) ?_
  refine wq (fun _ _ kk => rs_bast (pc := 19) dX12_put_19 (md_lt hmd (by decide)) (md_geti (d := 16) (k := 30) (kd := 3) (n := 400) rfl (by decide) hmd) (vp_in_nI (n := k + 3) (N := 400) (by omega) (by decide)) kk) ?_
  refine wq_gen (fun h_7 e_7 => ?_)
  obtain ⟨m_7, s_7, g_7, o_7⟩ := ai_e1 e_7
  replace hmd := md_at_ai (d := 16) rfl (by decide) hmd m_7 g_7 o_7
  have E_7 := (E_6).trans (md_ext_of m_7 s_7 o_7 (by decide))
  rw [nI_clamp (show k + 3 < 2 ^ 31 by omega)] at hmd
  obtain ⟨R_3, hmd, e_3r, a_3r, b_3r, c_3r, d_3r⟩ := md_row hmd
  refine wq (fun _ _ kk => rs_aload_n (pc := 20) dX12_put_20 rfl kk) ?_
  refine wq (fun _ _ kk => rs_dup (pc := 21) dX12_put_21 rfl kk) ?_
  refine wq (fun _ _ kk => rs_getf (pc := 22) dX12_put_22 fX12_241 (md_lt hmd (by decide)) hmd.2.1 rfl kk) ?_
  rw [a_3r, k_2q]
  refine wq (fun _ _ kk => rs_iconst (v := 1) (pc := 25) dX12_put_25 rfl kk) ?_
  refine wq (fun _ _ kk => rs_iadd (pc := 26) dX12_put_26 kk) ?_
  refine wq (fun _ _ kk => rs_putf (pc := 27) dX12_put_27 fX12_241 (md_lt hmd (by decide)) hmd.2.1 rfl (Nat.le_of_ble_eq_true rfl) kk) ?_
  refine wq_gen (fun h_8 e_8 => ?_)
  obtain ⟨m_8, s_8, g_8, o_8⟩ := ai_e1 e_8
  replace hmd := md_at_si (k := 22) hmd m_8 g_8 o_8 rfl
  have E_8 := (E_7).trans (md_ext_of m_8 s_8 o_8 (by decide))
  obtain ⟨Q_3, hmd, k_3q, r_3q, s_3q⟩ := md_new hmd
  replace k_3q : Q_3.1 22 = nI (k + 4) := k_3q.trans (nI_1 (k + 3))
  refine wq (fun _ _ kk => wk_iinc2 (v := -8) (pc := 30) dX12_put_30 (by decide) rfl (by decide) kk) ?_
  refine wq (fun _ _ kk => rs_goto (tgt := 3) (pc := 33) dX12_put_33 rfl kk) ?_
  refine wq (fun _ _ kk => rs_iload_n (pc := 3) dX12_put_3 rfl kk) ?_
  refine wq_br (fun _ _ kt kf => rs_if_lt (tgt := 36) (pc := 4) dX12_put_4 rfl kt kf) (fun c_4 => ?_) (fun c_4 => absurd c_4 (by decide))
  refine wq_ret ?_ (rs_vret (pc := 36) dX12_put_36 rfl)
  refine ⟨rfl, E_8, Q_3, hmd, fun j hj => by rw [r_3q j hj, a_3r, r_2q j hj, a_2r, r_1q j hj, a_1r, r_0q j hj, a_0r], k_3q, by rw [s_3q, b_3r, s_2q, b_2r, s_1q, b_1r, s_0q, b_0r], by rw [s_3q, c_3r, s_2q, c_2r, s_1q, c_1r, s_0q, c_0r], fun j hj => by rw [s_3q, d_3r j hj, s_2q, d_2r j hj, s_1q, d_1r j hj, s_0q, d_0r j hj], ?_⟩
  rw [s_3q, e_3r, s_2q, e_2r, s_1q, e_1r, s_0q, e_0r]
  rfl
theorem dX12_feed_0 : decode cX12_feed 0 = .ok (.aload_n 0, 1) := by decide +kernel
theorem dX12_feed_1 : decode cX12_feed 1 = .ok (.getfield 241, 3) := by decide +kernel
theorem dX12_feed_4 : decode cX12_feed 4 = .ok (.bipush 20, 2) := by decide +kernel
theorem dX12_feed_6 : decode cX12_feed 6 = .ok (.iadd, 1) := by decide +kernel
theorem dX12_feed_7 : decode cX12_feed 7 = .ok (.sipush 400, 3) := by decide +kernel
theorem dX12_feed_10 : decode cX12_feed 10 = .ok (.if_icmp .le 5, 3) := by decide +kernel
theorem dX12_feed_13 : decode cX12_feed 13 = .ok (.iconst (-1), 1) := by decide +kernel
theorem dX12_feed_14 : decode cX12_feed 14 = .ok (.ireturn, 1) := by decide +kernel
theorem dX12_feed_15 : decode cX12_feed 15 = .ok (.aload_n 0, 1) := by decide +kernel
theorem dX12_feed_16 : decode cX12_feed 16 = .ok (.iload_n 1, 1) := by decide +kernel
theorem dX12_feed_17 : decode cX12_feed 17 = .ok (.invokevirtual 244, 3) := by decide +kernel
theorem dX12_feed_20 : decode cX12_feed 20 = .ok (.aload_n 0, 1) := by decide +kernel
theorem dX12_feed_21 : decode cX12_feed 21 = .ok (.iload_n 2, 1) := by decide +kernel
theorem dX12_feed_22 : decode cX12_feed 22 = .ok (.invokevirtual 244, 3) := by decide +kernel
theorem dX12_feed_25 : decode cX12_feed 25 = .ok (.aload_n 0, 1) := by decide +kernel
theorem dX12_feed_26 : decode cX12_feed 26 = .ok (.iload_n 3, 1) := by decide +kernel
theorem dX12_feed_27 : decode cX12_feed 27 = .ok (.invokevirtual 244, 3) := by decide +kernel
theorem dX12_feed_30 : decode cX12_feed 30 = .ok (.aload_n 0, 1) := by decide +kernel
theorem dX12_feed_31 : decode cX12_feed 31 = .ok (.iload 4, 2) := by decide +kernel
theorem dX12_feed_33 : decode cX12_feed 33 = .ok (.invokevirtual 244, 3) := by decide +kernel
theorem dX12_feed_36 : decode cX12_feed 36 = .ok (.aload_n 0, 1) := by decide +kernel
theorem dX12_feed_37 : decode cX12_feed 37 = .ok (.iload 5, 2) := by decide +kernel
theorem dX12_feed_39 : decode cX12_feed 39 = .ok (.invokevirtual 244, 3) := by decide +kernel
theorem dX12_feed_42 : decode cX12_feed 42 = .ok (.aload_n 0, 1) := by decide +kernel
theorem dX12_feed_43 : decode cX12_feed 43 = .ok (.getfield 241, 3) := by decide +kernel
theorem dX12_feed_46 : decode cX12_feed 46 = .ok (.ireturn, 1) := by decide +kernel
set_option maxRecDepth 100000 in
set_option maxHeartbeats 4000000 in
theorem c_X12_feed {h : ai_H} {S : Md} {k : Nat} (hk4 : k ≤ 400) (hmd : md_at h S) (h22 : S.1 22 = nI k) (a b c d e : Int32) : ai_QM MX12_feed [.ref 307, .int a, .int b, .int c, .int d, .int e] h (fun rv g => md_ext h g ∧ ∃ T, md_at g T ∧ ((k + 20 ≤ 400 ∧ rv = some (.int (nI (k + 20))) ∧ (∀ j, j ≠ 22 → T.1 j = S.1 j) ∧ T.1 22 = nI (k + 20) ∧ T.2.1 = S.2.1 ∧ T.2.2.2 = S.2.2.2 ∧ (∀ j, j ≠ 30 → T.2.2.1 j = S.2.2.1 j) ∧ T.2.2.1 30 = mp_put (mp_put (mp_put (mp_put (mp_put (S.2.2.1 30) k a) (k + 4) b) (k + 8) c) (k + 12) d) (k + 16) e) ∨ (¬ k + 20 ≤ 400 ∧ rv = some (.int (-1)) ∧ T = S))) := by
  refine qm_of (ls := [.ref 307, .int a, .int b, .int c, .int d, .int e]) (by decide) (by simp [ai_en, Value.category]) (by rfl) ?_
  refine wq (fun _ _ kk => rs_aload_n (pc := 0) dX12_feed_0 rfl kk) ?_
  refine wq (fun _ _ kk => rs_getf (pc := 1) dX12_feed_1 fX12_241 (md_lt hmd (by decide)) hmd.2.1 rfl kk) ?_
  rw [h22]
  refine wq (fun _ _ kk => rs_bipush (v := 20) (pc := 4) dX12_feed_4 rfl kk) ?_
  refine wq (fun _ _ kk => rs_iadd (pc := 6) dX12_feed_6 kk) ?_
  rw [show nI k + 20 = nI (k + 20) from nI_add k 20]
  refine wq (fun _ _ kk => rs_sipush (v := 400) (pc := 7) dX12_feed_7 rfl kk) ?_
  refine wq_br (fun _ _ kt kf => rs_icmp_le (tgt := 15) (pc := 10) dX12_feed_10 rfl kt kf) (fun c_10 => ?_) (fun c_10 => ?_)
  · have hk : k + 20 ≤ 400 := tx_ge1 (b := 400) (by omega) (by decide) rfl c_10
    refine wq (fun _ _ kk => rs_aload_n (pc := 15) dX12_feed_15 rfl kk) ?_
    refine wq (fun _ _ kk => rs_iload_n (pc := 16) dX12_feed_16 rfl kk) ?_
    obtain ⟨rv_17, hc_17, ⟨rfl, ee_17, T_17, hmd_17, x_17, y_17, z_17, v_17, u_17, t_17⟩, hm_17⟩ := c_X12_put (k := k + 0) (by omega) hmd h22 a
    refine wq (fun _ _ kk => rs_callV (as := [_]) (pc := 17) dX12_feed_17 mk_X12_put mlX12_244 in_X12_put se_X12_put rfl (md_lt hmd (by decide)) hmd.2.1 rfl rfl (Nat.le_of_ble_eq_true rfl) (hm_17) kk) ?_
    replace hmd := hmd_17
    have E_17 := (md_ext.rf).trans ee_17
    refine wq (fun _ _ kk => rs_aload_n (pc := 20) dX12_feed_20 rfl kk) ?_
    refine wq (fun _ _ kk => rs_iload_n (pc := 21) dX12_feed_21 rfl kk) ?_
    obtain ⟨rv_22, hc_22, ⟨rfl, ee_22, T_22, hmd_22, x_22, y_22, z_22, v_22, u_22, t_22⟩, hm_22⟩ := c_X12_put (k := k + 4) (by omega) hmd y_17 b
    refine wq (fun _ _ kk => rs_callV (as := [_]) (pc := 22) dX12_feed_22 mk_X12_put mlX12_244 in_X12_put se_X12_put rfl (md_lt hmd (by decide)) hmd.2.1 rfl rfl (Nat.le_of_ble_eq_true rfl) (hm_22) kk) ?_
    replace hmd := hmd_22
    have E_22 := (E_17).trans ee_22
    refine wq (fun _ _ kk => rs_aload_n (pc := 25) dX12_feed_25 rfl kk) ?_
    refine wq (fun _ _ kk => rs_iload_n (pc := 26) dX12_feed_26 rfl kk) ?_
    obtain ⟨rv_27, hc_27, ⟨rfl, ee_27, T_27, hmd_27, x_27, y_27, z_27, v_27, u_27, t_27⟩, hm_27⟩ := c_X12_put (k := k + 8) (by omega) hmd y_22 c
    refine wq (fun _ _ kk => rs_callV (as := [_]) (pc := 27) dX12_feed_27 mk_X12_put mlX12_244 in_X12_put se_X12_put rfl (md_lt hmd (by decide)) hmd.2.1 rfl rfl (Nat.le_of_ble_eq_true rfl) (hm_27) kk) ?_
    replace hmd := hmd_27
    have E_27 := (E_22).trans ee_27
    refine wq (fun _ _ kk => rs_aload_n (pc := 30) dX12_feed_30 rfl kk) ?_
    refine wq (fun _ _ kk => rs_iload (pc := 31) dX12_feed_31 rfl kk) ?_
    obtain ⟨rv_33, hc_33, ⟨rfl, ee_33, T_33, hmd_33, x_33, y_33, z_33, v_33, u_33, t_33⟩, hm_33⟩ := c_X12_put (k := k + 12) (by omega) hmd y_27 d
    refine wq (fun _ _ kk => rs_callV (as := [_]) (pc := 33) dX12_feed_33 mk_X12_put mlX12_244 in_X12_put se_X12_put rfl (md_lt hmd (by decide)) hmd.2.1 rfl rfl (Nat.le_of_ble_eq_true rfl) (hm_33) kk) ?_
    replace hmd := hmd_33
    have E_33 := (E_27).trans ee_33
    refine wq (fun _ _ kk => rs_aload_n (pc := 36) dX12_feed_36 rfl kk) ?_
    refine wq (fun _ _ kk => rs_iload (pc := 37) dX12_feed_37 rfl kk) ?_
    obtain ⟨rv_39, hc_39, ⟨rfl, ee_39, T_39, hmd_39, x_39, y_39, z_39, v_39, u_39, t_39⟩, hm_39⟩ := c_X12_put (k := k + 16) (by omega) hmd y_33 e
    refine wq (fun _ _ kk => rs_callV (as := [_]) (pc := 39) dX12_feed_39 mk_X12_put mlX12_244 in_X12_put se_X12_put rfl (md_lt hmd (by decide)) hmd.2.1 rfl rfl (Nat.le_of_ble_eq_true rfl) (hm_39) kk) ?_
    replace hmd := hmd_39
    have E_39 := (E_33).trans ee_39
    refine wq (fun _ _ kk => rs_aload_n (pc := 42) dX12_feed_42 rfl kk) ?_
    refine wq (fun _ _ kk => rs_getf (pc := 43) dX12_feed_43 fX12_241 (md_lt hmd (by decide)) hmd.2.1 rfl kk) ?_
    rw [y_39]
    refine wq_ret ?_ (rs_iret (pc := 46) dX12_feed_46 rfl)
    refine ⟨E_39, T_39, hmd, Or.inl ⟨hk, rfl, fun j hj => by rw [x_39 j hj, x_33 j hj, x_27 j hj, x_22 j hj, x_17 j hj], y_39, by rw [z_39, z_33, z_27, z_22, z_17], by rw [v_39, v_33, v_27, v_22, v_17], fun j hj => by rw [u_39 j hj, u_33 j hj, u_27 j hj, u_22 j hj, u_17 j hj], by rw [t_39, t_33, t_27, t_22, t_17]; rfl⟩⟩
  · have hk : ¬ k + 20 ≤ 400 := Nat.not_le.mpr (tx_ge2 (b := 400) (by omega) (by decide) rfl c_10)
    refine wq (fun _ _ kk => rs_iconst (v := -1) (pc := 13) dX12_feed_13 rfl kk) ?_
    refine wq_ret ?_ (rs_iret (pc := 14) dX12_feed_14 rfl)
    exact ⟨md_ext.rf, S, hmd, Or.inr ⟨hk, rfl, rfl⟩⟩
theorem tpr_20 {n : Nat} {f g : Nat → Int32} (h : tpr n f g) (a b c d e : Int32) : tpr (n + 20) (tp_put5 f n a b c d e) (mp_put (mp_put (mp_put (mp_put (mp_put g n a) (n + 4) b) (n + 8) c) (n + 12) d) (n + 16) e) := tpr_4 (tpr_4 (tpr_4 (tpr_4 (tpr_4 h a) b) c) d) e
