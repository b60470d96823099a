/-! 64: marks of the class: books copied -/
/-- the table C begins as T, as far as T goes -/
def cpt (w : Nat) (T C : Int32 × (Nat → Int32)) : Prop := C.1 = T.1 ∧ ∀ i, i < T.1.toInt.toNat * w → C.2 i = T.2 i
def cpd (B C : Bk) : Prop := bk_now C = bk_now B ∧ cpt 2 (bk_o B) (bk_o C) ∧ cpt 3 (bk_s B) (bk_s C) ∧ cpt 2 (bk_n B) (bk_n C) ∧ cpt 9 (bk_r B) (bk_r C) ∧ cpt 3 (bk_j B) (bk_j C)
theorem tb_mul {lim wid siz : Int32} {n w : Nat} (h : tb_ok lim wid siz n) (hw : wid.toInt = w) : ¬ siz * wid < 0 ∧ (siz * wid).toNatClampNeg = siz.toInt.toNat * w ∧ (siz * wid).toNatClampNeg ≤ n := by
  obtain ⟨g1, g2, g3, g4, g5⟩ := h
  have b1 : 0 ≤ siz.toInt * wid.toInt := Int.mul_nonneg g1 g3
  have b2 : siz.toInt * wid.toInt ≤ lim.toInt * wid.toInt := Int.mul_le_mul_of_nonneg_right g2 g3
  have m1 : (siz * wid).toInt = siz.toInt * wid.toInt := i32_mul (by omega) (by omega)
  have m2 := i32_clamp (a := siz * wid) (by omega)
  have m3 : ((siz.toInt.toNat * w : Nat) : Int) = siz.toInt * wid.toInt := by
    rw [hw, Int.natCast_mul, Int.toNat_of_nonneg g1]
  refine ⟨?_, ?_, ?_⟩
  · rw [i32_lt, i32_0]; omega
  · omega
  · omega
theorem tb_at_cp {lim wid : Int32} {n w : Nat} {T C : Int32 × (Nat → Int32)} (h : tb_ok lim wid T.1 n) (hw : wid.toInt = w) (c : cpt w T C) (row col : Int32) : tb_at wid C.1 C.2 row col = tb_at wid T.1 T.2 row col := by
  unfold tb_at
  rw [c.1]
  by_cases h1 : row < 0
  · rw [if_pos h1, if_pos h1]
  rw [if_neg h1, if_neg h1]
  by_cases h2 : T.1 ≤ row
  · rw [if_pos h2, if_pos h2]
  rw [if_neg h2, if_neg h2]
  by_cases h3 : col < 0
  · rw [if_pos h3, if_pos h3]
  rw [if_neg h3, if_neg h3]
  by_cases h4 : wid ≤ col
  · rw [if_pos h4, if_pos h4]
  rw [if_neg h4, if_neg h4]
  obtain ⟨p1, p2, p3⟩ := tb_place h h1 h2 h3 h4
  have m2 := i32_clamp p2
  obtain ⟨g1, g2, g3, g4, g5⟩ := h
  simp only [i32_lt, i32_le, i32_0] at h1 h2 h3 h4
  apply c.2
  have b2 : (row.toInt + 1) * wid.toInt ≤ T.1.toInt * wid.toInt := Int.mul_le_mul_of_nonneg_right (by omega) g3
  rw [Int.add_mul] at b2
  have m3 : ((T.1.toInt.toNat * w : Nat) : Int) = T.1.toInt * wid.toInt := by
    rw [hw, Int.natCast_mul, Int.toNat_of_nonneg g1]
  omega
theorem dX8_become_0 : decode cX8_become 0 = .ok (.aload_n 1, 1) := by decide +kernel
theorem dX8_become_1 : decode cX8_become 1 = .ok (.getfield 15, 3) := by decide +kernel
theorem dX8_become_4 : decode cX8_become 4 = .ok (.aload_n 0, 1) := by decide +kernel
theorem dX8_become_5 : decode cX8_become 5 = .ok (.getfield 15, 3) := by decide +kernel
theorem dX8_become_8 : decode cX8_become 8 = .ok (.if_icmp .ne 44, 3) := by decide +kernel
theorem dX8_become_11 : decode cX8_become 11 = .ok (.aload_n 1, 1) := by decide +kernel
theorem dX8_become_12 : decode cX8_become 12 = .ok (.getfield 18, 3) := by decide +kernel
theorem dX8_become_15 : decode cX8_become 15 = .ok (.aload_n 0, 1) := by decide +kernel
theorem dX8_become_16 : decode cX8_become 16 = .ok (.getfield 18, 3) := by decide +kernel
theorem dX8_become_19 : decode cX8_become 19 = .ok (.if_icmp .ne 33, 3) := by decide +kernel
theorem dX8_become_22 : decode cX8_become 22 = .ok (.aload_n 1, 1) := by decide +kernel
theorem dX8_become_23 : decode cX8_become 23 = .ok (.getfield 21, 3) := by decide +kernel
theorem dX8_become_26 : decode cX8_become 26 = .ok (.iconst 0, 1) := by decide +kernel
theorem dX8_become_27 : decode cX8_become 27 = .ok (.aload_n 0, 1) := by decide +kernel
theorem dX8_become_28 : decode cX8_become 28 = .ok (.getfield 21, 3) := by decide +kernel
theorem dX8_become_31 : decode cX8_become 31 = .ok (.iconst 0, 1) := by decide +kernel
theorem dX8_become_32 : decode cX8_become 32 = .ok (.aload_n 1, 1) := by decide +kernel
theorem dX8_become_33 : decode cX8_become 33 = .ok (.getfield 9, 3) := by decide +kernel
theorem dX8_become_36 : decode cX8_become 36 = .ok (.aload_n 0, 1) := by decide +kernel
theorem dX8_become_37 : decode cX8_become 37 = .ok (.getfield 18, 3) := by decide +kernel
theorem dX8_become_40 : decode cX8_become 40 = .ok (.imul, 1) := by decide +kernel
theorem dX8_become_41 : decode cX8_become 41 = .ok (.invokestatic 29, 3) := by decide +kernel
theorem dX8_become_44 : decode cX8_become 44 = .ok (.aload_n 0, 1) := by decide +kernel
theorem dX8_become_45 : decode cX8_become 45 = .ok (.aload_n 1, 1) := by decide +kernel
theorem dX8_become_46 : decode cX8_become 46 = .ok (.getfield 9, 3) := by decide +kernel
theorem dX8_become_49 : decode cX8_become 49 = .ok (.putfield 9, 3) := by decide +kernel
theorem dX8_become_52 : decode cX8_become 52 = .ok (.return_, 1) := by decide +kernel
set_option maxRecDepth 100000 in
set_option maxHeartbeats 4000000 in
theorem c_X8_become {h : ai_H} {q q2 p p2 n : Nat} {l wd s s2 : Int32} {f f2 : Nat → Int32} (hq_t : q < h.1) (he_t : h.2.2 q = .inr (8, [.int l, .int wd, .ref p, .int s])) (hq_a : p < h.1) (he_a : h.2.2 p = .inl (0, n, .inl f)) (hq_u : q2 < h.1) (he_u : h.2.2 q2 = .inr (8, [.int l, .int wd, .ref p2, .int s2])) (hq_b : p2 < h.1) (he_b : h.2.2 p2 = .inl (0, n, .inl f2)) (hn1 : q ≠ q2) (hn2 : p ≠ p2) (h1 : ¬ s2 * wd < 0) (h2 : (s2 * wd).toNatClampNeg ≤ n) : ai_Met MX8_become [.ref q, .ref q2] h none (ai_set (ai_set h p (.inl (0, n, .inl (va_cpy f2 f 0 0 (s2 * wd).toNatClampNeg)))) q (.inr (8, [.int l, .int wd, .ref p, .int s2]))) := by
  refine ai_met (ls := [.ref q, .ref q2]) (by decide) (by simp [ai_en, Value.category]) (by rfl) ?_
  refine rs_aload_n (pc := 0) dX8_become_0 rfl ?_
  refine rs_getf (pc := 1) dX8_become_1 fX8_15 hq_u he_u rfl ?_
  refine rs_aload_n (pc := 4) dX8_become_4 rfl ?_
  refine rs_getf (pc := 5) dX8_become_5 fX8_15 hq_t he_t rfl ?_
  refine rs_icmp_ne (tgt := 52) (pc := 8) dX8_become_8 rfl (fun c_8 => absurd c_8 (fun z => z rfl)) (fun c_8 => ?_)
  refine rs_aload_n (pc := 11) dX8_become_11 rfl ?_
  refine rs_getf (pc := 12) dX8_become_12 fX8_18 hq_u he_u rfl ?_
  refine rs_aload_n (pc := 15) dX8_become_15 rfl ?_
  refine rs_getf (pc := 16) dX8_become_16 fX8_18 hq_t he_t rfl ?_
  refine rs_icmp_ne (tgt := 52) (pc := 19) dX8_become_19 rfl (fun c_19 => absurd c_19 (fun z => z rfl)) (fun c_19 => ?_)
  refine rs_aload_n (pc := 22) dX8_become_22 rfl ?_
  refine rs_getf (pc := 23) dX8_become_23 fX8_21 hq_u he_u rfl ?_
  refine rs_iconst (v := 0) (pc := 26) dX8_become_26 rfl ?_
  refine rs_aload_n (pc := 27) dX8_become_27 rfl ?_
  refine rs_getf (pc := 28) dX8_become_28 fX8_21 hq_t he_t rfl ?_
  refine rs_iconst (v := 0) (pc := 31) dX8_become_31 rfl ?_
  refine rs_aload_n (pc := 32) dX8_become_32 rfl ?_
  refine rs_getf (pc := 33) dX8_become_33 fX8_9 hq_u he_u rfl ?_
  refine rs_aload_n (pc := 36) dX8_become_36 rfl ?_
  refine rs_getf (pc := 37) dX8_become_37 fX8_18 hq_t he_t rfl ?_
  refine rs_imul (pc := 40) dX8_become_40 ?_
  refine wk_copy (pc := 41) dX8_become_41 mlX8_29 cp_na cp_st cp_in hq_b he_b hq_a he_a (by decide) (by decide) h1 (by simpa using h2) (by simpa using h2) (by decide) (Nat.le_of_ble_eq_true rfl) (fun h_1 m_1 s_1 g_1 o_1 e_1 => ?_)
  have he_t' := (o_1 _ (ai_ne he_t he_a (by intro z; cases z))).trans he_t
  have he_u' := (o_1 _ (ai_ne he_u he_a (by intro z; cases z))).trans he_u
  have he_b' := (o_1 _ (Ne.symm hn2)).trans he_b
  have hq_t' : q < h_1.1 := by rw [m_1]; exact hq_t
  have hq_a' : p < h_1.1 := by rw [m_1]; exact hq_a
  have hq_u' : q2 < h_1.1 := by rw [m_1]; exact hq_u
  have hq_b' : p2 < h_1.1 := by rw [m_1]; exact hq_b
  replace he_t := he_t'
  replace hq_t := hq_t'
  replace he_a := g_1
  replace hq_a := hq_a'
  replace he_u := he_u'
  replace hq_u := hq_u'
  replace he_b := he_b'
  replace hq_b := hq_b'
  have M_1 : h_1.1 = h.1 := m_1
  have S_1 : h_1.2.1 = h.2.1 := s_1
  have O_1 : ∀ j, j ≠ p → j ≠ q → h_1.2.2 j = h.2.2 j := fun j z0 z1 => o_1 j z0
  refine rs_aload_n (pc := 44) dX8_become_44 rfl ?_
  refine rs_aload_n (pc := 45) dX8_become_45 rfl ?_
  refine rs_getf (pc := 46) dX8_become_46 fX8_9 hq_u he_u rfl ?_
  refine wk_putf (fs' := [_, _, _, _]) (pc := 49) dX8_become_49 fX8_9 hq_t he_t rfl (Nat.le_of_ble_eq_true rfl) rfl (fun h_2 m_2 s_2 g_2 o_2 e_2 => ?_)
  have he_a' := (o_2 _ (ai_ne he_a he_t (by intro z; cases z))).trans he_a
  have he_u' := (o_2 _ (Ne.symm hn1)).trans he_u
  have he_b' := (o_2 _ (ai_ne he_b he_t (by intro z; cases z))).trans he_b
  have hq_t' : q < h_2.1 := by rw [m_2]; exact hq_t
  have hq_a' : p < h_2.1 := by rw [m_2]; exact hq_a
  have hq_u' : q2 < h_2.1 := by rw [m_2]; exact hq_u
  have hq_b' : p2 < h_2.1 := by rw [m_2]; exact hq_b
  replace he_t := g_2
  replace hq_t := hq_t'
  replace he_a := he_a'
  replace hq_a := hq_a'
  replace he_u := he_u'
  replace hq_u := hq_u'
  replace he_b := he_b'
  replace hq_b := hq_b'
  have M_2 : h_2.1 = h.1 := m_2.trans M_1
  have S_2 : h_2.2.1 = h.2.1 := s_2.trans S_1
  have O_2 : ∀ j, j ≠ p → j ≠ q → h_2.2.2 j = h.2.2 j := fun j z0 z1 => (o_2 j z1).trans (O_1 j z0 z1)
  exact wk_vret (pc := 52) dX8_become_52 rfl (rfl) (ai_is2 M_2 S_2 he_a he_t O_2)
theorem dX1_become_0 : decode cX1_become 0 = .ok (.aload_n 0, 1) := by decide +kernel
theorem dX1_become_1 : decode cX1_become 1 = .ok (.aload_n 1, 1) := by decide +kernel
theorem dX1_become_2 : decode cX1_become 2 = .ok (.getfield 9, 3) := by decide +kernel
theorem dX1_become_5 : decode cX1_become 5 = .ok (.putfield 9, 3) := by decide +kernel
theorem dX1_become_8 : decode cX1_become 8 = .ok (.aload_n 0, 1) := by decide +kernel
theorem dX1_become_9 : decode cX1_become 9 = .ok (.getfield 20, 3) := by decide +kernel
theorem dX1_become_12 : decode cX1_become 12 = .ok (.aload_n 1, 1) := by decide +kernel
theorem dX1_become_13 : decode cX1_become 13 = .ok (.getfield 20, 3) := by decide +kernel
theorem dX1_become_16 : decode cX1_become 16 = .ok (.invokevirtual 36, 3) := by decide +kernel
theorem dX1_become_19 : decode cX1_become 19 = .ok (.aload_n 0, 1) := by decide +kernel
theorem dX1_become_20 : decode cX1_become 20 = .ok (.getfield 24, 3) := by decide +kernel
theorem dX1_become_23 : decode cX1_become 23 = .ok (.aload_n 1, 1) := by decide +kernel
theorem dX1_become_24 : decode cX1_become 24 = .ok (.getfield 24, 3) := by decide +kernel
theorem dX1_become_27 : decode cX1_become 27 = .ok (.invokevirtual 36, 3) := by decide +kernel
theorem dX1_become_30 : decode cX1_become 30 = .ok (.aload_n 0, 1) := by decide +kernel
theorem dX1_become_31 : decode cX1_become 31 = .ok (.getfield 27, 3) := by decide +kernel
theorem dX1_become_34 : decode cX1_become 34 = .ok (.aload_n 1, 1) := by decide +kernel
theorem dX1_become_35 : decode cX1_become 35 = .ok (.getfield 27, 3) := by decide +kernel
theorem dX1_become_38 : decode cX1_become 38 = .ok (.invokevirtual 36, 3) := by decide +kernel
theorem dX1_become_41 : decode cX1_become 41 = .ok (.aload_n 0, 1) := by decide +kernel
theorem dX1_become_42 : decode cX1_become 42 = .ok (.getfield 30, 3) := by decide +kernel
theorem dX1_become_45 : decode cX1_become 45 = .ok (.aload_n 1, 1) := by decide +kernel
theorem dX1_become_46 : decode cX1_become 46 = .ok (.getfield 30, 3) := by decide +kernel
theorem dX1_become_49 : decode cX1_become 49 = .ok (.invokevirtual 36, 3) := by decide +kernel
theorem dX1_become_52 : decode cX1_become 52 = .ok (.aload_n 0, 1) := by decide +kernel
theorem dX1_become_53 : decode cX1_become 53 = .ok (.getfield 33, 3) := by decide +kernel
theorem dX1_become_56 : decode cX1_become 56 = .ok (.aload_n 1, 1) := by decide +kernel
theorem dX1_become_57 : decode cX1_become 57 = .ok (.getfield 33, 3) := by decide +kernel
theorem dX1_become_60 : decode cX1_become 60 = .ok (.invokevirtual 36, 3) := by decide +kernel
theorem dX1_become_63 : decode cX1_become 63 = .ok (.return_, 1) := by decide +kernel
set_option maxRecDepth 100000 in
set_option maxHeartbeats 4000000 in
theorem c_X1_become {h : ai_H} {q q2 : Nat} {B C : Bk} (hC : bk_at h q C) (hB : bk_at h q2 B) (hd : q + 10 < q2 ∨ q2 + 10 < q) : ai_QM MX1_become [.ref q, .ref q2] h (fun r g => r = none ∧ g.1 = h.1 ∧ g.2.1 = h.2.1 ∧ (∀ j, (j < q ∨ q + 10 < j) → g.2.2 j = h.2.2 j) ∧ ∃ D, bk_at g q D ∧ cpd B D) := by
  obtain ⟨zA, he_B, ⟨he_t0, he_a0, z0⟩, ⟨he_t1, he_a1, z1⟩, ⟨he_t2, he_a2, z2⟩, ⟨he_t3, he_a3, z3⟩, he_t4, he_a4, z4⟩ := hC
  obtain ⟨zB, he_C, ⟨he_u0, he_b0, k0⟩, ⟨he_u1, he_b1, k1⟩, ⟨he_u2, he_b2, k2⟩, ⟨he_u3, he_b3, k3⟩, he_u4, he_b4, k4⟩ := hB
  have hq_B : q < h.1 := by omega
  have hq_t0 : (q + 1) < h.1 := by omega
  have hq_a0 : (q + 2) < h.1 := by omega
  have hq_t1 : (q + 3) < h.1 := by omega
  have hq_a1 : (q + 4) < h.1 := by omega
  have hq_t2 : (q + 5) < h.1 := by omega
  have hq_a2 : (q + 6) < h.1 := by omega
  have hq_t3 : (q + 7) < h.1 := by omega
  have hq_a3 : (q + 8) < h.1 := by omega
  have hq_t4 : (q + 9) < h.1 := by omega
  have hq_a4 : (q + 10) < h.1 := by omega
  have hq_C : q2 < h.1 := by omega
  have hq_u0 : (q2 + 1) < h.1 := by omega
  have hq_b0 : (q2 + 2) < h.1 := by omega
  have hq_u1 : (q2 + 3) < h.1 := by omega
  have hq_b1 : (q2 + 4) < h.1 := by omega
  have hq_u2 : (q2 + 5) < h.1 := by omega
  have hq_b2 : (q2 + 6) < h.1 := by omega
  have hq_u3 : (q2 + 7) < h.1 := by omega
  have hq_b3 : (q2 + 8) < h.1 := by omega
  have hq_u4 : (q2 + 9) < h.1 := by omega
  have hq_b4 : (q2 + 10) < h.1 := by omega
  refine qm_of (ls := [.ref q, .ref q2]) (by decide) (by simp [ai_en, Value.category]) (by rfl) ?_
  refine wq (fun _ _ kk => rs_aload_n (pc := 0) dX1_become_0 rfl kk) ?_
  refine wq (fun _ _ kk => rs_aload_n (pc := 1) dX1_become_1 rfl kk) ?_
  refine wq (fun _ _ kk => rs_getf (pc := 2) dX1_become_2 fX1_9 hq_C he_C rfl kk) ?_
  refine wq (fun _ _ kk => rs_putf (pc := 5) dX1_become_5 fX1_9 hq_B he_B rfl (Nat.le_of_ble_eq_true rfl) kk) ?_
  refine wq_gen (fun h_1 e_1 => ?_)
  obtain ⟨m_1, s_1, g_1, o_1⟩ := ai_e1 e_1
  replace g_1 : h_1.2.2 q = .inr (1, [_, _, _, _, _, _]) := g_1
  have he_t0' := (o_1 _ (by omega)).trans he_t0
  have he_a0' := (o_1 _ (by omega)).trans he_a0
  have he_t1' := (o_1 _ (by omega)).trans he_t1
  have he_a1' := (o_1 _ (by omega)).trans he_a1
  have he_t2' := (o_1 _ (by omega)).trans he_t2
  have he_a2' := (o_1 _ (by omega)).trans he_a2
  have he_t3' := (o_1 _ (by omega)).trans he_t3
  have he_a3' := (o_1 _ (by omega)).trans he_a3
  have he_t4' := (o_1 _ (by omega)).trans he_t4
  have he_a4' := (o_1 _ (by omega)).trans he_a4
  have he_C' := (o_1 _ (by omega)).trans he_C
  have he_u0' := (o_1 _ (by omega)).trans he_u0
  have he_b0' := (o_1 _ (by omega)).trans he_b0
  have he_u1' := (o_1 _ (by omega)).trans he_u1
  have he_b1' := (o_1 _ (by omega)).trans he_b1
  have he_u2' := (o_1 _ (by omega)).trans he_u2
  have he_b2' := (o_1 _ (by omega)).trans he_b2
  have he_u3' := (o_1 _ (by omega)).trans he_u3
  have he_b3' := (o_1 _ (by omega)).trans he_b3
  have he_u4' := (o_1 _ (by omega)).trans he_u4
  have he_b4' := (o_1 _ (by omega)).trans he_b4
  have hq_B' : q < h_1.1 := by rw [m_1]; exact hq_B
  have hq_t0' : (q + 1) < h_1.1 := by rw [m_1]; exact hq_t0
  have hq_a0' : (q + 2) < h_1.1 := by rw [m_1]; exact hq_a0
  have hq_t1' : (q + 3) < h_1.1 := by rw [m_1]; exact hq_t1
  have hq_a1' : (q + 4) < h_1.1 := by rw [m_1]; exact hq_a1
  have hq_t2' : (q + 5) < h_1.1 := by rw [m_1]; exact hq_t2
  have hq_a2' : (q + 6) < h_1.1 := by rw [m_1]; exact hq_a2
  have hq_t3' : (q + 7) < h_1.1 := by rw [m_1]; exact hq_t3
  have hq_a3' : (q + 8) < h_1.1 := by rw [m_1]; exact hq_a3
  have hq_t4' : (q + 9) < h_1.1 := by rw [m_1]; exact hq_t4
  have hq_a4' : (q + 10) < h_1.1 := by rw [m_1]; exact hq_a4
  have hq_C' : q2 < h_1.1 := by rw [m_1]; exact hq_C
  have hq_u0' : (q2 + 1) < h_1.1 := by rw [m_1]; exact hq_u0
  have hq_b0' : (q2 + 2) < h_1.1 := by rw [m_1]; exact hq_b0
  have hq_u1' : (q2 + 3) < h_1.1 := by rw [m_1]; exact hq_u1
  have hq_b1' : (q2 + 4) < h_1.1 := by rw [m_1]; exact hq_b1
  have hq_u2' : (q2 + 5) < h_1.1 := by rw [m_1]; exact hq_u2
  have hq_b2' : (q2 + 6) < h_1.1 := by rw [m_1]; exact hq_b2
  have hq_u3' : (q2 + 7) < h_1.1 := by rw [m_1]; exact hq_u3
  have hq_b3' : (q2 + 8) < h_1.1 := by rw [m_1]; exact hq_b3
  have hq_u4' : (q2 + 9) < h_1.1 := by rw [m_1]; exact hq_u4
  have hq_b4' : (q2 + 10) < h_1.1 := by rw [m_1]; exact hq_b4
  replace he_B := g_1
  replace hq_B := hq_B'
  replace he_t0 := he_t0'
  replace hq_t0 := hq_t0'
  replace he_a0 := he_a0'
  replace hq_a0 := hq_a0'
  replace he_t1 := he_t1'
  replace hq_t1 := hq_t1'
  replace he_a1 := he_a1'
  replace hq_a1 := hq_a1'
  replace he_t2 := he_t2'
  replace hq_t2 := hq_t2'
  replace he_a2 := he_a2'
  replace hq_a2 := hq_a2'
  replace he_t3 := he_t3'
  replace hq_t3 := hq_t3'
  replace he_a3 := he_a3'
  replace hq_a3 := hq_a3'
  replace he_t4 := he_t4'
  replace hq_t4 := hq_t4'
  replace he_a4 := he_a4'
  replace hq_a4 := hq_a4'
  replace he_C := he_C'
  replace hq_C := hq_C'
  replace he_u0 := he_u0'
  replace hq_u0 := hq_u0'
  replace he_b0 := he_b0'
  replace hq_b0 := hq_b0'
  replace he_u1 := he_u1'
  replace hq_u1 := hq_u1'
  replace he_b1 := he_b1'
  replace hq_b1 := hq_b1'
  replace he_u2 := he_u2'
  replace hq_u2 := hq_u2'
  replace he_b2 := he_b2'
  replace hq_b2 := hq_b2'
  replace he_u3 := he_u3'
  replace hq_u3 := hq_u3'
  replace he_b3 := he_b3'
  replace hq_b3 := hq_b3'
  replace he_u4 := he_u4'
  replace hq_u4 := hq_u4'
  replace he_b4 := he_b4'
  replace hq_b4 := hq_b4'
  have M_1 : h_1.1 = h.1 := m_1
  have S_1 : h_1.2.1 = h.2.1 := s_1
  have O_1 : ∀ j, j ≠ q → j ≠ (q + 1) → j ≠ (q + 2) → j ≠ (q + 3) → j ≠ (q + 4) → j ≠ (q + 5) → j ≠ (q + 6) → j ≠ (q + 7) → j ≠ (q + 8) → j ≠ (q + 9) → j ≠ (q + 10) → h_1.2.2 j = h.2.2 j := fun j z0 z1 z2 z3 z4 z5 z6 z7 z8 z9 z10 => o_1 j z0
  refine wq (fun _ _ kk => rs_aload_n (pc := 8) dX1_become_8 rfl kk) ?_
  refine wq (fun _ _ kk => rs_getf (pc := 9) dX1_become_9 fX1_20 hq_B he_B rfl kk) ?_
  refine wq (fun _ _ kk => rs_aload_n (pc := 12) dX1_become_12 rfl kk) ?_
  refine wq (fun _ _ kk => rs_getf (pc := 13) dX1_become_13 fX1_20 hq_C he_C rfl kk) ?_
  refine wq (fun _ _ kk => rs_callV (as := [_]) (pc := 16) dX1_become_16 mk_X8_become mlX1_36 in_X8_become se_X8_become rfl hq_t0 he_t0 rfl rfl (Nat.le_of_ble_eq_true rfl) (c_X8_become hq_t0 he_t0 hq_a0 he_a0 hq_u0 he_u0 hq_b0 he_b0 (by omega) (by omega) (tb_mul k0 (w := 2) rfl).1 (tb_mul k0 (w := 2) rfl).2.2) kk) ?_
  refine wq_gen (fun h_2 e_2 => ?_)
  obtain ⟨m_2, s_2, g_2_0, g_2_1, o_2⟩ := ai_e2 (by omega) e_2
  have he_B' := (o_2 _ (by omega) (by omega)).trans he_B
  have he_t1' := (o_2 _ (by omega) (by omega)).trans he_t1
  have he_a1' := (o_2 _ (by omega) (by omega)).trans he_a1
  have he_t2' := (o_2 _ (by omega) (by omega)).trans he_t2
  have he_a2' := (o_2 _ (by omega) (by omega)).trans he_a2
  have he_t3' := (o_2 _ (by omega) (by omega)).trans he_t3
  have he_a3' := (o_2 _ (by omega) (by omega)).trans he_a3
  have he_t4' := (o_2 _ (by omega) (by omega)).trans he_t4
  have he_a4' := (o_2 _ (by omega) (by omega)).trans he_a4
  have he_C' := (o_2 _ (by omega) (by omega)).trans he_C
  have he_u0' := (o_2 _ (by omega) (by omega)).trans he_u0
  have he_b0' := (o_2 _ (by omega) (by omega)).trans he_b0
  have he_u1' := (o_2 _ (by omega) (by omega)).trans he_u1
  have he_b1' := (o_2 _ (by omega) (by omega)).trans he_b1
  have he_u2' := (o_2 _ (by omega) (by omega)).trans he_u2
  have he_b2' := (o_2 _ (by omega) (by omega)).trans he_b2
  have he_u3' := (o_2 _ (by omega) (by omega)).trans he_u3
  have he_b3' := (o_2 _ (by omega) (by omega)).trans he_b3
  have he_u4' := (o_2 _ (by omega) (by omega)).trans he_u4
  have he_b4' := (o_2 _ (by omega) (by omega)).trans he_b4
  replace he_B := he_B'
  replace hq_B : q < h_2.1 := by rw [m_2]; exact hq_B
  replace he_t0 := g_2_1
  replace hq_t0 : (q + 1) < h_2.1 := by rw [m_2]; exact hq_t0
  replace he_a0 := g_2_0
  replace hq_a0 : (q + 2) < h_2.1 := by rw [m_2]; exact hq_a0
  replace he_t1 := he_t1'
  replace hq_t1 : (q + 3) < h_2.1 := by rw [m_2]; exact hq_t1
  replace he_a1 := he_a1'
  replace hq_a1 : (q + 4) < h_2.1 := by rw [m_2]; exact hq_a1
  replace he_t2 := he_t2'
  replace hq_t2 : (q + 5) < h_2.1 := by rw [m_2]; exact hq_t2
  replace he_a2 := he_a2'
  replace hq_a2 : (q + 6) < h_2.1 := by rw [m_2]; exact hq_a2
  replace he_t3 := he_t3'
  replace hq_t3 : (q + 7) < h_2.1 := by rw [m_2]; exact hq_t3
  replace he_a3 := he_a3'
  replace hq_a3 : (q + 8) < h_2.1 := by rw [m_2]; exact hq_a3
  replace he_t4 := he_t4'
  replace hq_t4 : (q + 9) < h_2.1 := by rw [m_2]; exact hq_t4
  replace he_a4 := he_a4'
  replace hq_a4 : (q + 10) < h_2.1 := by rw [m_2]; exact hq_a4
  replace he_C := he_C'
  replace hq_C : q2 < h_2.1 := by rw [m_2]; exact hq_C
  replace he_u0 := he_u0'
  replace hq_u0 : (q2 + 1) < h_2.1 := by rw [m_2]; exact hq_u0
  replace he_b0 := he_b0'
  replace hq_b0 : (q2 + 2) < h_2.1 := by rw [m_2]; exact hq_b0
  replace he_u1 := he_u1'
  replace hq_u1 : (q2 + 3) < h_2.1 := by rw [m_2]; exact hq_u1
  replace he_b1 := he_b1'
  replace hq_b1 : (q2 + 4) < h_2.1 := by rw [m_2]; exact hq_b1
  replace he_u2 := he_u2'
  replace hq_u2 : (q2 + 5) < h_2.1 := by rw [m_2]; exact hq_u2
  replace he_b2 := he_b2'
  replace hq_b2 : (q2 + 6) < h_2.1 := by rw [m_2]; exact hq_b2
  replace he_u3 := he_u3'
  replace hq_u3 : (q2 + 7) < h_2.1 := by rw [m_2]; exact hq_u3
  replace he_b3 := he_b3'
  replace hq_b3 : (q2 + 8) < h_2.1 := by rw [m_2]; exact hq_b3
  replace he_u4 := he_u4'
  replace hq_u4 : (q2 + 9) < h_2.1 := by rw [m_2]; exact hq_u4
  replace he_b4 := he_b4'
  replace hq_b4 : (q2 + 10) < h_2.1 := by rw [m_2]; exact hq_b4
  have M_2 : h_2.1 = h.1 := m_2.trans M_1
  have S_2 : h_2.2.1 = h.2.1 := s_2.trans S_1
  have O_2 : ∀ j, j ≠ q → j ≠ (q + 1) → j ≠ (q + 2) → j ≠ (q + 3) → j ≠ (q + 4) → j ≠ (q + 5) → j ≠ (q + 6) → j ≠ (q + 7) → j ≠ (q + 8) → j ≠ (q + 9) → j ≠ (q + 10) → h_2.2.2 j = h.2.2 j := fun j z0 z1 z2 z3 z4 z5 z6 z7 z8 z9 z10 => (o_2 j z2 z1).trans (O_1 j z0 z1 z2 z3 z4 z5 z6 z7 z8 z9 z10)
  refine wq (fun _ _ kk => rs_aload_n (pc := 19) dX1_become_19 rfl kk) ?_
  refine wq (fun _ _ kk => rs_getf (pc := 20) dX1_become_20 fX1_24 hq_B he_B rfl kk) ?_
  refine wq (fun _ _ kk => rs_aload_n (pc := 23) dX1_become_23 rfl kk) ?_
  refine wq (fun _ _ kk => rs_getf (pc := 24) dX1_become_24 fX1_24 hq_C he_C rfl kk) ?_
  refine wq (fun _ _ kk => rs_callV (as := [_]) (pc := 27) dX1_become_27 mk_X8_become mlX1_36 in_X8_become se_X8_become rfl hq_t1 he_t1 rfl rfl (Nat.le_of_ble_eq_true rfl) (c_X8_become hq_t1 he_t1 hq_a1 he_a1 hq_u1 he_u1 hq_b1 he_b1 (by omega) (by omega) (tb_mul k1 (w := 3) rfl).1 (tb_mul k1 (w := 3) rfl).2.2) kk) ?_
  refine wq_gen (fun h_3 e_3 => ?_)
  obtain ⟨m_3, s_3, g_3_0, g_3_1, o_3⟩ := ai_e2 (by omega) e_3
  have he_B' := (o_3 _ (by omega) (by omega)).trans he_B
  have he_t0' := (o_3 _ (by omega) (by omega)).trans he_t0
  have he_a0' := (o_3 _ (by omega) (by omega)).trans he_a0
  have he_t2' := (o_3 _ (by omega) (by omega)).trans he_t2
  have he_a2' := (o_3 _ (by omega) (by omega)).trans he_a2
  have he_t3' := (o_3 _ (by omega) (by omega)).trans he_t3
  have he_a3' := (o_3 _ (by omega) (by omega)).trans he_a3
  have he_t4' := (o_3 _ (by omega) (by omega)).trans he_t4
  have he_a4' := (o_3 _ (by omega) (by omega)).trans he_a4
  have he_C' := (o_3 _ (by omega) (by omega)).trans he_C
  have he_u0' := (o_3 _ (by omega) (by omega)).trans he_u0
  have he_b0' := (o_3 _ (by omega) (by omega)).trans he_b0
  have he_u1' := (o_3 _ (by omega) (by omega)).trans he_u1
  have he_b1' := (o_3 _ (by omega) (by omega)).trans he_b1
  have he_u2' := (o_3 _ (by omega) (by omega)).trans he_u2
  have he_b2' := (o_3 _ (by omega) (by omega)).trans he_b2
  have he_u3' := (o_3 _ (by omega) (by omega)).trans he_u3
  have he_b3' := (o_3 _ (by omega) (by omega)).trans he_b3
  have he_u4' := (o_3 _ (by omega) (by omega)).trans he_u4
  have he_b4' := (o_3 _ (by omega) (by omega)).trans he_b4
  replace he_B := he_B'
  replace hq_B : q < h_3.1 := by rw [m_3]; exact hq_B
  replace he_t0 := he_t0'
  replace hq_t0 : (q + 1) < h_3.1 := by rw [m_3]; exact hq_t0
  replace he_a0 := he_a0'
  replace hq_a0 : (q + 2) < h_3.1 := by rw [m_3]; exact hq_a0
  replace he_t1 := g_3_1
  replace hq_t1 : (q + 3) < h_3.1 := by rw [m_3]; exact hq_t1
  replace he_a1 := g_3_0
  replace hq_a1 : (q + 4) < h_3.1 := by rw [m_3]; exact hq_a1
  replace he_t2 := he_t2'
  replace hq_t2 : (q + 5) < h_3.1 := by rw [m_3]; exact hq_t2
  replace he_a2 := he_a2'
  replace hq_a2 : (q + 6) < h_3.1 := by rw [m_3]; exact hq_a2
  replace he_t3 := he_t3'
  replace hq_t3 : (q + 7) < h_3.1 := by rw [m_3]; exact hq_t3
  replace he_a3 := he_a3'
  replace hq_a3 : (q + 8) < h_3.1 := by rw [m_3]; exact hq_a3
  replace he_t4 := he_t4'
  replace hq_t4 : (q + 9) < h_3.1 := by rw [m_3]; exact hq_t4
  replace he_a4 := he_a4'
  replace hq_a4 : (q + 10) < h_3.1 := by rw [m_3]; exact hq_a4
  replace he_C := he_C'
  replace hq_C : q2 < h_3.1 := by rw [m_3]; exact hq_C
  replace he_u0 := he_u0'
  replace hq_u0 : (q2 + 1) < h_3.1 := by rw [m_3]; exact hq_u0
  replace he_b0 := he_b0'
  replace hq_b0 : (q2 + 2) < h_3.1 := by rw [m_3]; exact hq_b0
  replace he_u1 := he_u1'
  replace hq_u1 : (q2 + 3) < h_3.1 := by rw [m_3]; exact hq_u1
  replace he_b1 := he_b1'
  replace hq_b1 : (q2 + 4) < h_3.1 := by rw [m_3]; exact hq_b1
  replace he_u2 := he_u2'
  replace hq_u2 : (q2 + 5) < h_3.1 := by rw [m_3]; exact hq_u2
  replace he_b2 := he_b2'
  replace hq_b2 : (q2 + 6) < h_3.1 := by rw [m_3]; exact hq_b2
  replace he_u3 := he_u3'
  replace hq_u3 : (q2 + 7) < h_3.1 := by rw [m_3]; exact hq_u3
  replace he_b3 := he_b3'
  replace hq_b3 : (q2 + 8) < h_3.1 := by rw [m_3]; exact hq_b3
  replace he_u4 := he_u4'
  replace hq_u4 : (q2 + 9) < h_3.1 := by rw [m_3]; exact hq_u4
  replace he_b4 := he_b4'
  replace hq_b4 : (q2 + 10) < h_3.1 := by rw [m_3]; exact hq_b4
  have M_3 : h_3.1 = h.1 := m_3.trans M_2
  have S_3 : h_3.2.1 = h.2.1 := s_3.trans S_2
  have O_3 : ∀ j, j ≠ q → j ≠ (q + 1) → j ≠ (q + 2) → j ≠ (q + 3) → j ≠ (q + 4) → j ≠ (q + 5) → j ≠ (q + 6) → j ≠ (q + 7) → j ≠ (q + 8) → j ≠ (q + 9) → j ≠ (q + 10) → h_3.2.2 j = h.2.2 j := fun j z0 z1 z2 z3 z4 z5 z6 z7 z8 z9 z10 => (o_3 j z4 z3).trans (O_2 j z0 z1 z2 z3 z4 z5 z6 z7 z8 z9 z10)
  refine wq (fun _ _ kk => rs_aload_n (pc := 30) dX1_become_30 rfl kk) ?_
  refine wq (fun _ _ kk => rs_getf (pc := 31) dX1_become_31 fX1_27 hq_B he_B rfl kk) ?_
  refine wq (fun _ _ kk => rs_aload_n (pc := 34) dX1_become_34 rfl kk) ?_
  refine wq (fun _ _ kk => rs_getf (pc := 35) dX1_become_35 fX1_27 hq_C he_C rfl kk) ?_
  refine wq (fun _ _ kk => rs_callV (as := [_]) (pc := 38) dX1_become_38 mk_X8_become mlX1_36 in_X8_become se_X8_become rfl hq_t2 he_t2 rfl rfl (Nat.le_of_ble_eq_true rfl) (c_X8_become hq_t2 he_t2 hq_a2 he_a2 hq_u2 he_u2 hq_b2 he_b2 (by omega) (by omega) (tb_mul k2 (w := 2) rfl).1 (tb_mul k2 (w := 2) rfl).2.2) kk) ?_
  refine wq_gen (fun h_4 e_4 => ?_)
  obtain ⟨m_4, s_4, g_4_0, g_4_1, o_4⟩ := ai_e2 (by omega) e_4
  have he_B' := (o_4 _ (by omega) (by omega)).trans he_B
  have he_t0' := (o_4 _ (by omega) (by omega)).trans he_t0
  have he_a0' := (o_4 _ (by omega) (by omega)).trans he_a0
  have he_t1' := (o_4 _ (by omega) (by omega)).trans he_t1
  have he_a1' := (o_4 _ (by omega) (by omega)).trans he_a1
  have he_t3' := (o_4 _ (by omega) (by omega)).trans he_t3
  have he_a3' := (o_4 _ (by omega) (by omega)).trans he_a3
  have he_t4' := (o_4 _ (by omega) (by omega)).trans he_t4
  have he_a4' := (o_4 _ (by omega) (by omega)).trans he_a4
  have he_C' := (o_4 _ (by omega) (by omega)).trans he_C
  have he_u0' := (o_4 _ (by omega) (by omega)).trans he_u0
  have he_b0' := (o_4 _ (by omega) (by omega)).trans he_b0
  have he_u1' := (o_4 _ (by omega) (by omega)).trans he_u1
  have he_b1' := (o_4 _ (by omega) (by omega)).trans he_b1
  have he_u2' := (o_4 _ (by omega) (by omega)).trans he_u2
  have he_b2' := (o_4 _ (by omega) (by omega)).trans he_b2
  have he_u3' := (o_4 _ (by omega) (by omega)).trans he_u3
  have he_b3' := (o_4 _ (by omega) (by omega)).trans he_b3
  have he_u4' := (o_4 _ (by omega) (by omega)).trans he_u4
  have he_b4' := (o_4 _ (by omega) (by omega)).trans he_b4
  replace he_B := he_B'
  replace hq_B : q < h_4.1 := by rw [m_4]; exact hq_B
  replace he_t0 := he_t0'
  replace hq_t0 : (q + 1) < h_4.1 := by rw [m_4]; exact hq_t0
  replace he_a0 := he_a0'
  replace hq_a0 : (q + 2) < h_4.1 := by rw [m_4]; exact hq_a0
  replace he_t1 := he_t1'
  replace hq_t1 : (q + 3) < h_4.1 := by rw [m_4]; exact hq_t1
  replace he_a1 := he_a1'
  replace hq_a1 : (q + 4) < h_4.1 := by rw [m_4]; exact hq_a1
  replace he_t2 := g_4_1
  replace hq_t2 : (q + 5) < h_4.1 := by rw [m_4]; exact hq_t2
  replace he_a2 := g_4_0
  replace hq_a2 : (q + 6) < h_4.1 := by rw [m_4]; exact hq_a2
  replace he_t3 := he_t3'
  replace hq_t3 : (q + 7) < h_4.1 := by rw [m_4]; exact hq_t3
  replace he_a3 := he_a3'
  replace hq_a3 : (q + 8) < h_4.1 := by rw [m_4]; exact hq_a3
  replace he_t4 := he_t4'
  replace hq_t4 : (q + 9) < h_4.1 := by rw [m_4]; exact hq_t4
  replace he_a4 := he_a4'
  replace hq_a4 : (q + 10) < h_4.1 := by rw [m_4]; exact hq_a4
  replace he_C := he_C'
  replace hq_C : q2 < h_4.1 := by rw [m_4]; exact hq_C
  replace he_u0 := he_u0'
  replace hq_u0 : (q2 + 1) < h_4.1 := by rw [m_4]; exact hq_u0
  replace he_b0 := he_b0'
  replace hq_b0 : (q2 + 2) < h_4.1 := by rw [m_4]; exact hq_b0
  replace he_u1 := he_u1'
  replace hq_u1 : (q2 + 3) < h_4.1 := by rw [m_4]; exact hq_u1
  replace he_b1 := he_b1'
  replace hq_b1 : (q2 + 4) < h_4.1 := by rw [m_4]; exact hq_b1
  replace he_u2 := he_u2'
  replace hq_u2 : (q2 + 5) < h_4.1 := by rw [m_4]; exact hq_u2
  replace he_b2 := he_b2'
  replace hq_b2 : (q2 + 6) < h_4.1 := by rw [m_4]; exact hq_b2
  replace he_u3 := he_u3'
  replace hq_u3 : (q2 + 7) < h_4.1 := by rw [m_4]; exact hq_u3
  replace he_b3 := he_b3'
  replace hq_b3 : (q2 + 8) < h_4.1 := by rw [m_4]; exact hq_b3
  replace he_u4 := he_u4'
  replace hq_u4 : (q2 + 9) < h_4.1 := by rw [m_4]; exact hq_u4
  replace he_b4 := he_b4'
  replace hq_b4 : (q2 + 10) < h_4.1 := by rw [m_4]; exact hq_b4
  have M_4 : h_4.1 = h.1 := m_4.trans M_3
  have S_4 : h_4.2.1 = h.2.1 := s_4.trans S_3
  have O_4 : ∀ j, j ≠ q → j ≠ (q + 1) → j ≠ (q + 2) → j ≠ (q + 3) → j ≠ (q + 4) → j ≠ (q + 5) → j ≠ (q + 6) → j ≠ (q + 7) → j ≠ (q + 8) → j ≠ (q + 9) → j ≠ (q + 10) → h_4.2.2 j = h.2.2 j := fun j z0 z1 z2 z3 z4 z5 z6 z7 z8 z9 z10 => (o_4 j z6 z5).trans (O_3 j z0 z1 z2 z3 z4 z5 z6 z7 z8 z9 z10)
  refine wq (fun _ _ kk => rs_aload_n (pc := 41) dX1_become_41 rfl kk) ?_
  refine wq (fun _ _ kk => rs_getf (pc := 42) dX1_become_42 fX1_30 hq_B he_B rfl kk) ?_
  refine wq (fun _ _ kk => rs_aload_n (pc := 45) dX1_become_45 rfl kk) ?_
  refine wq (fun _ _ kk => rs_getf (pc := 46) dX1_become_46 fX1_30 hq_C he_C rfl kk) ?_
  refine wq (fun _ _ kk => rs_callV (as := [_]) (pc := 49) dX1_become_49 mk_X8_become mlX1_36 in_X8_become se_X8_become rfl hq_t3 he_t3 rfl rfl (Nat.le_of_ble_eq_true rfl) (c_X8_become hq_t3 he_t3 hq_a3 he_a3 hq_u3 he_u3 hq_b3 he_b3 (by omega) (by omega) (tb_mul k3 (w := 9) rfl).1 (tb_mul k3 (w := 9) rfl).2.2) kk) ?_
  refine wq_gen (fun h_5 e_5 => ?_)
  obtain ⟨m_5, s_5, g_5_0, g_5_1, o_5⟩ := ai_e2 (by omega) e_5
  have he_B' := (o_5 _ (by omega) (by omega)).trans he_B
  have he_t0' := (o_5 _ (by omega) (by omega)).trans he_t0
  have he_a0' := (o_5 _ (by omega) (by omega)).trans he_a0
  have he_t1' := (o_5 _ (by omega) (by omega)).trans he_t1
  have he_a1' := (o_5 _ (by omega) (by omega)).trans he_a1
  have he_t2' := (o_5 _ (by omega) (by omega)).trans he_t2
  have he_a2' := (o_5 _ (by omega) (by omega)).trans he_a2
  have he_t4' := (o_5 _ (by omega) (by omega)).trans he_t4
  have he_a4' := (o_5 _ (by omega) (by omega)).trans he_a4
  have he_C' := (o_5 _ (by omega) (by omega)).trans he_C
  have he_u0' := (o_5 _ (by omega) (by omega)).trans he_u0
  have he_b0' := (o_5 _ (by omega) (by omega)).trans he_b0
  have he_u1' := (o_5 _ (by omega) (by omega)).trans he_u1
  have he_b1' := (o_5 _ (by omega) (by omega)).trans he_b1
  have he_u2' := (o_5 _ (by omega) (by omega)).trans he_u2
  have he_b2' := (o_5 _ (by omega) (by omega)).trans he_b2
  have he_u3' := (o_5 _ (by omega) (by omega)).trans he_u3
  have he_b3' := (o_5 _ (by omega) (by omega)).trans he_b3
  have he_u4' := (o_5 _ (by omega) (by omega)).trans he_u4
  have he_b4' := (o_5 _ (by omega) (by omega)).trans he_b4
  replace he_B := he_B'
  replace hq_B : q < h_5.1 := by rw [m_5]; exact hq_B
  replace he_t0 := he_t0'
  replace hq_t0 : (q + 1) < h_5.1 := by rw [m_5]; exact hq_t0
  replace he_a0 := he_a0'
  replace hq_a0 : (q + 2) < h_5.1 := by rw [m_5]; exact hq_a0
  replace he_t1 := he_t1'
  replace hq_t1 : (q + 3) < h_5.1 := by rw [m_5]; exact hq_t1
  replace he_a1 := he_a1'
  replace hq_a1 : (q + 4) < h_5.1 := by rw [m_5]; exact hq_a1
  replace he_t2 := he_t2'
  replace hq_t2 : (q + 5) < h_5.1 := by rw [m_5]; exact hq_t2
  replace he_a2 := he_a2'
  replace hq_a2 : (q + 6) < h_5.1 := by rw [m_5]; exact hq_a2
  replace he_t3 := g_5_1
  replace hq_t3 : (q + 7) < h_5.1 := by rw [m_5]; exact hq_t3
  replace he_a3 := g_5_0
  replace hq_a3 : (q + 8) < h_5.1 := by rw [m_5]; exact hq_a3
  replace he_t4 := he_t4'
  replace hq_t4 : (q + 9) < h_5.1 := by rw [m_5]; exact hq_t4
  replace he_a4 := he_a4'
  replace hq_a4 : (q + 10) < h_5.1 := by rw [m_5]; exact hq_a4
  replace he_C := he_C'
  replace hq_C : q2 < h_5.1 := by rw [m_5]; exact hq_C
  replace he_u0 := he_u0'
  replace hq_u0 : (q2 + 1) < h_5.1 := by rw [m_5]; exact hq_u0
  replace he_b0 := he_b0'
  replace hq_b0 : (q2 + 2) < h_5.1 := by rw [m_5]; exact hq_b0
  replace he_u1 := he_u1'
  replace hq_u1 : (q2 + 3) < h_5.1 := by rw [m_5]; exact hq_u1
  replace he_b1 := he_b1'
  replace hq_b1 : (q2 + 4) < h_5.1 := by rw [m_5]; exact hq_b1
  replace he_u2 := he_u2'
  replace hq_u2 : (q2 + 5) < h_5.1 := by rw [m_5]; exact hq_u2
  replace he_b2 := he_b2'
  replace hq_b2 : (q2 + 6) < h_5.1 := by rw [m_5]; exact hq_b2
  replace he_u3 := he_u3'
  replace hq_u3 : (q2 + 7) < h_5.1 := by rw [m_5]; exact hq_u3
  replace he_b3 := he_b3'
  replace hq_b3 : (q2 + 8) < h_5.1 := by rw [m_5]; exact hq_b3
  replace he_u4 := he_u4'
  replace hq_u4 : (q2 + 9) < h_5.1 := by rw [m_5]; exact hq_u4
  replace he_b4 := he_b4'
  replace hq_b4 : (q2 + 10) < h_5.1 := by rw [m_5]; exact hq_b4
  have M_5 : h_5.1 = h.1 := m_5.trans M_4
  have S_5 : h_5.2.1 = h.2.1 := s_5.trans S_4
  have O_5 : ∀ j, j ≠ q → j ≠ (q + 1) → j ≠ (q + 2) → j ≠ (q + 3) → j ≠ (q + 4) → j ≠ (q + 5) → j ≠ (q + 6) → j ≠ (q + 7) → j ≠ (q + 8) → j ≠ (q + 9) → j ≠ (q + 10) → h_5.2.2 j = h.2.2 j := fun j z0 z1 z2 z3 z4 z5 z6 z7 z8 z9 z10 => (o_5 j z8 z7).trans (O_4 j z0 z1 z2 z3 z4 z5 z6 z7 z8 z9 z10)
  refine wq (fun _ _ kk => rs_aload_n (pc := 52) dX1_become_52 rfl kk) ?_
  refine wq (fun _ _ kk => rs_getf (pc := 53) dX1_become_53 fX1_33 hq_B he_B rfl kk) ?_
  refine wq (fun _ _ kk => rs_aload_n (pc := 56) dX1_become_56 rfl kk) ?_
  refine wq (fun _ _ kk => rs_getf (pc := 57) dX1_become_57 fX1_33 hq_C he_C rfl kk) ?_
  refine wq (fun _ _ kk => rs_callV (as := [_]) (pc := 60) dX1_become_60 mk_X8_become mlX1_36 in_X8_become se_X8_become rfl hq_t4 he_t4 rfl rfl (Nat.le_of_ble_eq_true rfl) (c_X8_become hq_t4 he_t4 hq_a4 he_a4 hq_u4 he_u4 hq_b4 he_b4 (by omega) (by omega) (tb_mul k4 (w := 3) rfl).1 (tb_mul k4 (w := 3) rfl).2.2) kk) ?_
  refine wq_gen (fun h_6 e_6 => ?_)
  obtain ⟨m_6, s_6, g_6_0, g_6_1, o_6⟩ := ai_e2 (by omega) e_6
  have he_B' := (o_6 _ (by omega) (by omega)).trans he_B
  have he_t0' := (o_6 _ (by omega) (by omega)).trans he_t0
  have he_a0' := (o_6 _ (by omega) (by omega)).trans he_a0
  have he_t1' := (o_6 _ (by omega) (by omega)).trans he_t1
  have he_a1' := (o_6 _ (by omega) (by omega)).trans he_a1
  have he_t2' := (o_6 _ (by omega) (by omega)).trans he_t2
  have he_a2' := (o_6 _ (by omega) (by omega)).trans he_a2
  have he_t3' := (o_6 _ (by omega) (by omega)).trans he_t3
  have he_a3' := (o_6 _ (by omega) (by omega)).trans he_a3
  have he_C' := (o_6 _ (by omega) (by omega)).trans he_C
  have he_u0' := (o_6 _ (by omega) (by omega)).trans he_u0
  have he_b0' := (o_6 _ (by omega) (by omega)).trans he_b0
  have he_u1' := (o_6 _ (by omega) (by omega)).trans he_u1
  have he_b1' := (o_6 _ (by omega) (by omega)).trans he_b1
  have he_u2' := (o_6 _ (by omega) (by omega)).trans he_u2
  have he_b2' := (o_6 _ (by omega) (by omega)).trans he_b2
  have he_u3' := (o_6 _ (by omega) (by omega)).trans he_u3
  have he_b3' := (o_6 _ (by omega) (by omega)).trans he_b3
  have he_u4' := (o_6 _ (by omega) (by omega)).trans he_u4
  have he_b4' := (o_6 _ (by omega) (by omega)).trans he_b4
  replace he_B := he_B'
  replace hq_B : q < h_6.1 := by rw [m_6]; exact hq_B
  replace he_t0 := he_t0'
  replace hq_t0 : (q + 1) < h_6.1 := by rw [m_6]; exact hq_t0
  replace he_a0 := he_a0'
  replace hq_a0 : (q + 2) < h_6.1 := by rw [m_6]; exact hq_a0
  replace he_t1 := he_t1'
  replace hq_t1 : (q + 3) < h_6.1 := by rw [m_6]; exact hq_t1
  replace he_a1 := he_a1'
  replace hq_a1 : (q + 4) < h_6.1 := by rw [m_6]; exact hq_a1
  replace he_t2 := he_t2'
  replace hq_t2 : (q + 5) < h_6.1 := by rw [m_6]; exact hq_t2
  replace he_a2 := he_a2'
  replace hq_a2 : (q + 6) < h_6.1 := by rw [m_6]; exact hq_a2
  replace he_t3 := he_t3'
  replace hq_t3 : (q + 7) < h_6.1 := by rw [m_6]; exact hq_t3
  replace he_a3 := he_a3'
  replace hq_a3 : (q + 8) < h_6.1 := by rw [m_6]; exact hq_a3
  replace he_t4 := g_6_1
  replace hq_t4 : (q + 9) < h_6.1 := by rw [m_6]; exact hq_t4
  replace he_a4 := g_6_0
  replace hq_a4 : (q + 10) < h_6.1 := by rw [m_6]; exact hq_a4
  replace he_C := he_C'
  replace hq_C : q2 < h_6.1 := by rw [m_6]; exact hq_C
  replace he_u0 := he_u0'
  replace hq_u0 : (q2 + 1) < h_6.1 := by rw [m_6]; exact hq_u0
  replace he_b0 := he_b0'
  replace hq_b0 : (q2 + 2) < h_6.1 := by rw [m_6]; exact hq_b0
  replace he_u1 := he_u1'
  replace hq_u1 : (q2 + 3) < h_6.1 := by rw [m_6]; exact hq_u1
  replace he_b1 := he_b1'
  replace hq_b1 : (q2 + 4) < h_6.1 := by rw [m_6]; exact hq_b1
  replace he_u2 := he_u2'
  replace hq_u2 : (q2 + 5) < h_6.1 := by rw [m_6]; exact hq_u2
  replace he_b2 := he_b2'
  replace hq_b2 : (q2 + 6) < h_6.1 := by rw [m_6]; exact hq_b2
  replace he_u3 := he_u3'
  replace hq_u3 : (q2 + 7) < h_6.1 := by rw [m_6]; exact hq_u3
  replace he_b3 := he_b3'
  replace hq_b3 : (q2 + 8) < h_6.1 := by rw [m_6]; exact hq_b3
  replace he_u4 := he_u4'
  replace hq_u4 : (q2 + 9) < h_6.1 := by rw [m_6]; exact hq_u4
  replace he_b4 := he_b4'
  replace hq_b4 : (q2 + 10) < h_6.1 := by rw [m_6]; exact hq_b4
  have M_6 : h_6.1 = h.1 := m_6.trans M_5
  have S_6 : h_6.2.1 = h.2.1 := s_6.trans S_5
  have O_6 : ∀ j, j ≠ q → j ≠ (q + 1) → j ≠ (q + 2) → j ≠ (q + 3) → j ≠ (q + 4) → j ≠ (q + 5) → j ≠ (q + 6) → j ≠ (q + 7) → j ≠ (q + 8) → j ≠ (q + 9) → j ≠ (q + 10) → h_6.2.2 j = h.2.2 j := fun j z0 z1 z2 z3 z4 z5 z6 z7 z8 z9 z10 => (o_6 j z10 z9).trans (O_5 j z0 z1 z2 z3 z4 z5 z6 z7 z8 z9 z10)
  refine wq_ret ?_ (rs_vret (pc := 63) dX1_become_63 rfl)
  refine ⟨rfl, M_6, S_6, fun j hj => O_6 j (by omega) (by omega) (by omega) (by omega) (by omega) (by omega) (by omega) (by omega) (by omega) (by omega) (by omega), ⟨bk_now B, ((bk_o B).1, va_cpy (bk_o B).2 (bk_o C).2 0 0 ((bk_o B).1 * 2).toNatClampNeg), ((bk_s B).1, va_cpy (bk_s B).2 (bk_s C).2 0 0 ((bk_s B).1 * 3).toNatClampNeg), ((bk_n B).1, va_cpy (bk_n B).2 (bk_n C).2 0 0 ((bk_n B).1 * 2).toNatClampNeg), ((bk_r B).1, va_cpy (bk_r B).2 (bk_r C).2 0 0 ((bk_r B).1 * 9).toNatClampNeg), ((bk_j B).1, va_cpy (bk_j B).2 (bk_j C).2 0 0 ((bk_j B).1 * 3).toNatClampNeg)⟩, ⟨by omega, he_B, ⟨he_t0, he_a0, k0⟩, ⟨he_t1, he_a1, k1⟩, ⟨he_t2, he_a2, k2⟩, ⟨he_t3, he_a3, k3⟩, he_t4, he_a4, k4⟩, rfl, ⟨rfl, fun i hi => ?_⟩, ⟨rfl, fun i hi => ?_⟩, ⟨rfl, fun i hi => ?_⟩, ⟨rfl, fun i hi => ?_⟩, rfl, fun i hi => ?_⟩
  · rw [← (tb_mul k0 (w := 2) rfl).2.1] at hi
    show va_cpy _ _ 0 0 _ i = _
    rw [va_cpy, if_pos ⟨Nat.zero_le _, by rw [Nat.zero_add]; exact hi⟩, Nat.zero_add, Nat.sub_zero]
  · rw [← (tb_mul k1 (w := 3) rfl).2.1] at hi
    show va_cpy _ _ 0 0 _ i = _
    rw [va_cpy, if_pos ⟨Nat.zero_le _, by rw [Nat.zero_add]; exact hi⟩, Nat.zero_add, Nat.sub_zero]
  · rw [← (tb_mul k2 (w := 2) rfl).2.1] at hi
    show va_cpy _ _ 0 0 _ i = _
    rw [va_cpy, if_pos ⟨Nat.zero_le _, by rw [Nat.zero_add]; exact hi⟩, Nat.zero_add, Nat.sub_zero]
  · rw [← (tb_mul k3 (w := 9) rfl).2.1] at hi
    show va_cpy _ _ 0 0 _ i = _
    rw [va_cpy, if_pos ⟨Nat.zero_le _, by rw [Nat.zero_add]; exact hi⟩, Nat.zero_add, Nat.sub_zero]
  · rw [← (tb_mul k4 (w := 3) rfl).2.1] at hi
    show va_cpy _ _ 0 0 _ i = _
    rw [va_cpy, if_pos ⟨Nat.zero_le _, by rw [Nat.zero_add]; exact hi⟩, Nat.zero_add, Nat.sub_zero]
theorem dX11_mark_0 : decode cX11_mark 0 = .ok (.iload_n 1, 1) := by decide +kernel
theorem dX11_mark_1 : decode cX11_mark 1 = .ok (.iconst 0, 1) := by decide +kernel
theorem dX11_mark_2 : decode cX11_mark 2 = .ok (.iconst 3, 1) := by decide +kernel
theorem dX11_mark_3 : decode cX11_mark 3 = .ok (.invokestatic 104, 3) := by decide +kernel
theorem dX11_mark_6 : decode cX11_mark 6 = .ok (.ifCond .ne 5, 3) := by decide +kernel
theorem dX11_mark_9 : decode cX11_mark 9 = .ok (.iconst (-1), 1) := by decide +kernel
theorem dX11_mark_10 : decode cX11_mark 10 = .ok (.ireturn, 1) := by decide +kernel
theorem dX11_mark_11 : decode cX11_mark 11 = .ok (.aload_n 0, 1) := by decide +kernel
theorem dX11_mark_12 : decode cX11_mark 12 = .ok (.getfield 16, 3) := by decide +kernel
theorem dX11_mark_15 : decode cX11_mark 15 = .ok (.iload_n 1, 1) := by decide +kernel
theorem dX11_mark_16 : decode cX11_mark 16 = .ok (.aaload, 1) := by decide +kernel
theorem dX11_mark_17 : decode cX11_mark 17 = .ok (.astore_n 2, 1) := by decide +kernel
theorem dX11_mark_18 : decode cX11_mark 18 = .ok (.aload_n 2, 1) := by decide +kernel
theorem dX11_mark_19 : decode cX11_mark 19 = .ok (.ifnonnull 18, 3) := by decide +kernel
theorem dX11_mark_22 : decode cX11_mark 22 = .ok (.new 7, 3) := by decide +kernel
theorem dX11_mark_25 : decode cX11_mark 25 = .ok (.dup, 1) := by decide +kernel
theorem dX11_mark_26 : decode cX11_mark 26 = .ok (.invokespecial 9, 3) := by decide +kernel
theorem dX11_mark_29 : decode cX11_mark 29 = .ok (.astore_n 2, 1) := by decide +kernel
theorem dX11_mark_30 : decode cX11_mark 30 = .ok (.aload_n 0, 1) := by decide +kernel
theorem dX11_mark_31 : decode cX11_mark 31 = .ok (.getfield 16, 3) := by decide +kernel
theorem dX11_mark_34 : decode cX11_mark 34 = .ok (.iload_n 1, 1) := by decide +kernel
theorem dX11_mark_35 : decode cX11_mark 35 = .ok (.aload_n 2, 1) := by decide +kernel
theorem dX11_mark_36 : decode cX11_mark 36 = .ok (.aastore, 1) := by decide +kernel
theorem dX11_mark_37 : decode cX11_mark 37 = .ok (.aload_n 2, 1) := by decide +kernel
theorem dX11_mark_38 : decode cX11_mark 38 = .ok (.aload_n 0, 1) := by decide +kernel
theorem dX11_mark_39 : decode cX11_mark 39 = .ok (.getfield 10, 3) := by decide +kernel
theorem dX11_mark_42 : decode cX11_mark 42 = .ok (.invokevirtual 313, 3) := by decide +kernel
theorem dX11_mark_45 : decode cX11_mark 45 = .ok (.aload_n 0, 1) := by decide +kernel
theorem dX11_mark_46 : decode cX11_mark 46 = .ok (.getfield 10, 3) := by decide +kernel
theorem dX11_mark_49 : decode cX11_mark 49 = .ok (.getfield 101, 3) := by decide +kernel
theorem dX11_mark_52 : decode cX11_mark 52 = .ok (.ireturn, 1) := by decide +kernel
set_option maxRecDepth 100000 in
set_option maxHeartbeats 4000000 in
theorem c_X11_mark_s {h : ai_H} {tb lm : Int32} {B : Bk} {K : Nat → Option Nat} (hx : x_at h tb lm) (hB : bk_at h 1 B) (hM : h.2.2 12 = .inl (6, 4, .inr (.inr (.inr (.inr K))))) {r q : Nat} {C : Bk} (hr : r ≤ 3) (hKr : K r = some q) (hk : bk_at h q C) (hq : 361 < q) (hin : bi_in (nI r) 0 3 = 1) : ai_QM MX11_mark [.ref 0, .int (nI r)] h (fun res g => res = some (.int (bk_now B)) ∧ g.1 = h.1 ∧ g.2.1 = h.2.1 ∧ (∀ j, (j < q ∨ q + 10 < j) → g.2.2 j = h.2.2 j) ∧ ∃ D, bk_at g q D ∧ cpd B D) := by
  refine qm_of (ls := [.ref 0, .int (nI r), .float 0]) (by decide) (by simp [ai_en, Value.category]) (by rfl) ?_
  refine wq (fun _ _ kk => rs_iload_n (pc := 0) dX11_mark_0 rfl kk) ?_
  refine wq (fun _ _ kk => rs_iconst (v := 0) (pc := 1) dX11_mark_1 rfl kk) ?_
  refine wq (fun _ _ kk => rs_iconst (v := 3) (pc := 2) dX11_mark_2 rfl kk) ?_
  refine wq (fun _ _ kk => rs_callS (as := [_, _, _]) (pc := 3) dX11_mark_3 mk_X11_isWithin mlX11_104 st_X11_isWithin rfl rfl (Nat.le_of_ble_eq_true rfl) (c_X11_isWithin) kk) ?_
  refine wq_bn (fun _ _ kt kf => rs_if_ne (tgt := 11) (pc := 6) dX11_mark_6 rfl kt kf) (fun c_6 => ?_) (fun c_6 => absurd c_6 (by rw [hin]; decide))
  refine wq (fun _ _ kk => rs_aload_n (pc := 11) dX11_mark_11 rfl kk) ?_
  refine wq (fun _ _ kk => rs_getf (pc := 12) dX11_mark_12 fX11_16 (Nat.lt_of_le_of_lt (by decide) hx.1) hx.2 rfl kk) ?_
  refine wq (fun _ _ kk => rs_iload_n (pc := 15) dX11_mark_15 rfl kk) ?_
  refine wq (fun _ _ kk => rs_aald (pc := 16) dX11_mark_16 (fun _ => rfl) (Nat.lt_of_le_of_lt (by decide) hx.1) hM (vp_in_nI (n := r) (N := 4) (by omega) (by decide)) kk) ?_
  rw [nI_clamp (show r < 2 ^ 31 by omega), hKr]
  show ai_W _ _ _ [.ref q] _ _
  refine wq (fun _ _ kk => wk_astn2 (pc := 17) dX11_mark_17 (by decide) rfl kk) ?_
  refine wq (fun _ _ kk => rs_aload_n (pc := 18) dX11_mark_18 rfl kk) ?_
  refine wq (fun _ _ kk => rs_ifnonnull (tgt := 37) (pc := 19) dX11_mark_19 rfl kk) ?_
  refine wq (fun _ _ kk => rs_aload_n (pc := 37) dX11_mark_37 rfl kk) ?_
  refine wq (fun _ _ kk => rs_aload_n (pc := 38) dX11_mark_38 rfl kk) ?_
  refine wq (fun _ _ kk => rs_getf (pc := 39) dX11_mark_39 fX11_10 (Nat.lt_of_le_of_lt (by decide) hx.1) hx.2 rfl kk) ?_
  obtain ⟨rv_42, hc_42, ⟨rfl, m_1, s_1, o_1, D, hD, hcp⟩, hm_42⟩ := c_X1_become hk hB (by omega)
  refine wq (fun _ _ kk => rs_callV (as := [_]) (pc := 42) dX11_mark_42 mk_X1_become mlX11_313 in_X1_become se_X1_become rfl (bk_lt hk (by omega)) hk.2.1 rfl rfl (Nat.le_of_ble_eq_true rfl) (hm_42) kk) ?_
  have hx1 : x_at hc_42 tb lm := ⟨by rw [m_1]; exact hx.1, (o_1 0 (by omega)).trans hx.2⟩
  have hB1 : bk_at hc_42 1 B := hB.keep m_1 (fun j _ hj => o_1 j (by omega))
  replace hx := hx1
  replace hB := hB1
  refine wq (fun _ _ kk => rs_aload_n (pc := 45) dX11_mark_45 rfl kk) ?_
  refine wq (fun _ _ kk => rs_getf (pc := 46) dX11_mark_46 fX11_10 (Nat.lt_of_le_of_lt (by decide) hx.1) hx.2 rfl kk) ?_
  refine wq (fun _ _ kk => rs_getf (pc := 49) dX11_mark_49 fX11_101 (bk_lt hB (by decide)) hB.2.1 rfl kk) ?_
  refine wq_ret ?_ (rs_iret (pc := 52) dX11_mark_52 rfl)
  exact ⟨rfl, m_1, s_1, o_1, D, hD, hcp⟩
set_option maxRecDepth 100000 in
set_option maxHeartbeats 4000000 in
theorem c_X11_mark_f {h : ai_H} {tb lm : Int32} {B : Bk} {K : Nat → Option Nat} (hx : x_at h tb lm) (hB : bk_at h 1 B) (hM : h.2.2 12 = .inl (6, 4, .inr (.inr (.inr (.inr K))))) {k : Int32} (hin : bi_in k 0 3 = 0) : ai_QM MX11_mark [.ref 0, .int k] h (fun res g => res = some (.int (-1)) ∧ g = h) := by
  refine qm_of (ls := [.ref 0, .int k, .float 0]) (by decide) (by simp [ai_en, Value.category]) (by rfl) ?_
  refine wq (fun _ _ kk => rs_iload_n (pc := 0) dX11_mark_0 rfl kk) ?_
  refine wq (fun _ _ kk => rs_iconst (v := 0) (pc := 1) dX11_mark_1 rfl kk) ?_
  refine wq (fun _ _ kk => rs_iconst (v := 3) (pc := 2) dX11_mark_2 rfl kk) ?_
  refine wq (fun _ _ kk => rs_callS (as := [_, _, _]) (pc := 3) dX11_mark_3 mk_X11_isWithin mlX11_104 st_X11_isWithin rfl rfl (Nat.le_of_ble_eq_true rfl) (c_X11_isWithin) kk) ?_
  refine wq_bn (fun _ _ kt kf => rs_if_ne (tgt := 11) (pc := 6) dX11_mark_6 rfl kt kf) (fun c_6 => absurd c_6 (fun z => z hin)) (fun c_6 => ?_)
  refine wq (fun _ _ kk => rs_iconst (v := -1) (pc := 9) dX11_mark_9 rfl kk) ?_
  refine wq_ret ?_ (rs_iret (pc := 10) dX11_mark_10 rfl)
  exact ⟨rfl, rfl⟩
def bkz : Bk := (0, (0, fun _ => 0), (0, fun _ => 0), (0, fun _ => 0), (0, fun _ => 0), (0, fun _ => 0))
theorem wq_e {M : ai_M} {pc : Nat} {ls st : List Value} {h h2 : ai_H} {Q : Option Value → ai_H → Prop} (e : h = h2) (k : ai_W M pc ls st h2 Q) : ai_W M pc ls st h Q := e ▸ k
theorem bk0_at {h : ai_H} : bk_at (ap h (bk0 h.1)) h.1 bkz := by
  refine ⟨?_, ap_get (i := 0) rfl, ⟨ap_get (i := 1) rfl, ap_get (i := 2) rfl, ⟨by decide, by decide, by decide, by decide, by decide⟩⟩, ⟨ap_get (i := 3) rfl, ap_get (i := 4) rfl, ⟨by decide, by decide, by decide, by decide, by decide⟩⟩, ⟨ap_get (i := 5) rfl, ap_get (i := 6) rfl, ⟨by decide, by decide, by decide, by decide, by decide⟩⟩, ⟨ap_get (i := 7) rfl, ap_get (i := 8) rfl, ⟨by decide, by decide, by decide, by decide, by decide⟩⟩, ap_get (i := 9) rfl, ap_get (i := 10) rfl, ⟨by decide, by decide, by decide, by decide, by decide⟩⟩
  show h.1 + 10 < h.1 + 11
  omega
set_option maxRecDepth 100000 in
set_option maxHeartbeats 4000000 in
theorem c_X11_mark_n {h : ai_H} {tb lm : Int32} {B : Bk} {K : Nat → Option Nat} (hx : x_at h tb lm) (hB : bk_at h 1 B) (hM : h.2.2 12 = .inl (6, 4, .inr (.inr (.inr (.inr K))))) {r : Nat} (hr : r ≤ 3) (hKr : K r = none) (hin : bi_in (nI r) 0 3 = 1) : ai_QM MX11_mark [.ref 0, .int (nI r)] h (fun res g => res = some (.int (bk_now B)) ∧ g.1 = h.1 + 11 ∧ g.2.1 = h.2.1 + 3917 ∧ g.2.2 12 = .inl (6, 4, .inr (.inr (.inr (.inr (va_up K r (some h.1)))))) ∧ (∀ j, j < h.1 → j ≠ 12 → g.2.2 j = h.2.2 j) ∧ ∃ D, bk_at g h.1 D ∧ cpd B D) := by
  refine qm_of (ls := [.ref 0, .int (nI r), .float 0]) (by decide) (by simp [ai_en, Value.category]) (by rfl) ?_
  refine wq (fun _ _ kk => rs_iload_n (pc := 0) dX11_mark_0 rfl kk) ?_
  refine wq (fun _ _ kk => rs_iconst (v := 0) (pc := 1) dX11_mark_1 rfl kk) ?_
  refine wq (fun _ _ kk => rs_iconst (v := 3) (pc := 2) dX11_mark_2 rfl kk) ?_
  refine wq (fun _ _ kk => rs_callS (as := [_, _, _]) (pc := 3) dX11_mark_3 mk_X11_isWithin mlX11_104 st_X11_isWithin rfl rfl (Nat.le_of_ble_eq_true rfl) (c_X11_isWithin) kk) ?_
  refine wq_bn (fun _ _ kt kf => rs_if_ne (tgt := 11) (pc := 6) dX11_mark_6 rfl kt kf) (fun c_6 => ?_) (fun c_6 => absurd c_6 (by rw [hin]; decide))
  refine wq (fun _ _ kk => rs_aload_n (pc := 11) dX11_mark_11 rfl kk) ?_
  refine wq (fun _ _ kk => rs_getf (pc := 12) dX11_mark_12 fX11_16 (Nat.lt_of_le_of_lt (by decide) hx.1) hx.2 rfl kk) ?_
  refine wq (fun _ _ kk => rs_iload_n (pc := 15) dX11_mark_15 rfl kk) ?_
  refine wq (fun _ _ kk => rs_aald (pc := 16) dX11_mark_16 (fun _ => rfl) (Nat.lt_of_le_of_lt (by decide) hx.1) hM (vp_in_nI (n := r) (N := 4) (by omega) (by decide)) kk) ?_
  rw [nI_clamp (show r < 2 ^ 31 by omega), hKr]
  show ai_W _ _ _ [.null] _ _
  refine wq (fun _ _ kk => wk_nstn2 (pc := 17) dX11_mark_17 (by decide) rfl kk) ?_
  refine wq (fun _ _ kk => rs_aload_nN (pc := 18) dX11_mark_18 rfl kk) ?_
  refine wq (fun _ _ kk => rs_ifnonnullN (pc := 19) dX11_mark_19 kk) ?_
  refine wq_e (ap_nil h).symm ?_
  refine wq (fun _ _ kk => cw_new (n := 0) [.int 0, .null, .null, .null, .null, .null] (pc := 22) dX11_mark_22 kX1 clX11_7 nX1 dfX1 rfl rfl rfl kk) ?_
  refine wq (fun _ _ kk => rs_dup (pc := 25) dX11_mark_25 rfl kk) ?_
  refine wq (fun _ _ kk => cw_init (as := []) (b := 0) (pc := 26) dX11_mark_26 mk_X1_init rfl mlX11_9 in_X1_init rfl rfl rfl (Nat.le_of_ble_eq_true rfl) rfl (c_X1_init (ap_q rfl rfl)) kk) ?_
  refine wq_gen (fun g eg => ?_)
  have eg2 : g = ap h (bk0 h.1) := eg
  have g1 : g.1 = h.1 + 11 := by rw [eg2]; rfl
  have g2 : g.2.1 = h.2.1 + 3917 := by rw [eg2]; rfl
  have g3 : ∀ j, j < h.1 → g.2.2 j = h.2.2 j := fun j hj => by rw [eg2]; exact ap_old hj
  have g4 : bk_at g h.1 bkz := by rw [eg2]; exact bk0_at
  have hl : 306 < h.1 := hx.1
  have gx : x_at g tb lm := ⟨by rw [g1]; omega, (g3 0 (by omega)).trans hx.2⟩
  have gM := (g3 12 (by omega)).trans hM
  refine wq (fun _ _ kk => wk_astn2 (pc := 29) dX11_mark_29 (by decide) rfl kk) ?_
  refine wq (fun _ _ kk => rs_aload_n (pc := 30) dX11_mark_30 rfl kk) ?_
  refine wq (fun _ _ kk => rs_getf (pc := 31) dX11_mark_31 fX11_16 (Nat.lt_of_le_of_lt (by decide) gx.1) gx.2 rfl kk) ?_
  refine wq (fun _ _ kk => rs_iload_n (pc := 34) dX11_mark_34 rfl kk) ?_
  refine wq (fun _ _ kk => rs_aload_n (pc := 35) dX11_mark_35 rfl kk) ?_
  refine wq (fun _ _ kk => rs_aast (pc := 36) (k := 6) dX11_mark_36 (fun _ => rfl) rfl (Nat.lt_of_le_of_lt (by decide) gx.1) gM (bk_lt g4 (by show h.1 + 0 ≤ _; omega)) g4.2.1 (vp_in_nI (n := r) (N := 4) (by omega) (by decide)) kk) ?_
  rw [nI_clamp (show r < 2 ^ 31 by omega)]
  refine wq_gen (fun f ef => ?_)
  obtain ⟨f1, f2, f3, f4⟩ := ai_e1 ef
  have fB : bk_at f 1 B := by
    obtain ⟨z1, z⟩ := hB
    have e : ∀ j, j < 12 → f.2.2 j = h.2.2 j := fun j hj => (f4 j (by omega)).trans (g3 j (by omega))
    refine ⟨by rw [f1, g1]; omega, ?_⟩
    rw [e 1 (by decide), e (1 + 1) (by decide), e (1 + 2) (by decide), e (1 + 3) (by decide), e (1 + 4) (by decide), e (1 + 5) (by decide), e (1 + 6) (by decide), e (1 + 7) (by decide), e (1 + 8) (by decide), e (1 + 9) (by decide), e (1 + 10) (by decide)]
    exact z
  have fC : bk_at f h.1 bkz := g4.keep f1 (fun j hj _ => f4 j (by omega))
  have fx : x_at f tb lm := ⟨by rw [f1]; exact gx.1, (f4 0 (by decide)).trans gx.2⟩
  refine wq (fun _ _ kk => rs_aload_n (pc := 37) dX11_mark_37 rfl kk) ?_
  refine wq (fun _ _ kk => rs_aload_n (pc := 38) dX11_mark_38 rfl kk) ?_
  refine wq (fun _ _ kk => rs_getf (pc := 39) dX11_mark_39 fX11_10 (Nat.lt_of_le_of_lt (by decide) fx.1) fx.2 rfl kk) ?_
  obtain ⟨rv, e9, ⟨rfl, m_1, s_1, o_1, D, hD, hcp⟩, hm⟩ := c_X1_become fC fB (by omega)
  refine wq (fun _ _ kk => rs_callV (as := [_]) (pc := 42) dX11_mark_42 mk_X1_become mlX11_313 in_X1_become se_X1_become rfl (bk_lt fC (by show h.1 + 0 ≤ _; omega)) fC.2.1 rfl rfl (Nat.le_of_ble_eq_true rfl) hm kk) ?_
  have ex : x_at e9 tb lm := ⟨by rw [m_1]; exact fx.1, (o_1 0 (by omega)).trans fx.2⟩
  have eB : bk_at e9 1 B := fB.keep m_1 (fun j _ hj => o_1 j (by omega))
  refine wq (fun _ _ kk => rs_aload_n (pc := 45) dX11_mark_45 rfl kk) ?_
  refine wq (fun _ _ kk => rs_getf (pc := 46) dX11_mark_46 fX11_10 (Nat.lt_of_le_of_lt (by decide) ex.1) ex.2 rfl kk) ?_
  refine wq (fun _ _ kk => rs_getf (pc := 49) dX11_mark_49 fX11_101 (bk_lt eB (by decide)) eB.2.1 rfl kk) ?_
  refine wq_ret ?_ (rs_iret (pc := 52) dX11_mark_52 rfl)
  exact ⟨rfl, by rw [m_1, f1, g1], by rw [s_1, f2, g2], (o_1 12 (by omega)).trans f3, fun j h1 h2 => ((o_1 j (by omega)).trans (f4 j h2)).trans (g3 j h1), D, hD, hcp⟩
theorem dX11_back_0 : decode cX11_back 0 = .ok (.iload_n 1, 1) := by decide +kernel
theorem dX11_back_1 : decode cX11_back 1 = .ok (.iconst 0, 1) := by decide +kernel
theorem dX11_back_2 : decode cX11_back 2 = .ok (.iconst 3, 1) := by decide +kernel
theorem dX11_back_3 : decode cX11_back 3 = .ok (.invokestatic 104, 3) := by decide +kernel
theorem dX11_back_6 : decode cX11_back 6 = .ok (.ifCond .ne 5, 3) := by decide +kernel
theorem dX11_back_9 : decode cX11_back 9 = .ok (.iconst (-1), 1) := by decide +kernel
theorem dX11_back_10 : decode cX11_back 10 = .ok (.ireturn, 1) := by decide +kernel
theorem dX11_back_11 : decode cX11_back 11 = .ok (.aload_n 0, 1) := by decide +kernel
theorem dX11_back_12 : decode cX11_back 12 = .ok (.getfield 16, 3) := by decide +kernel
theorem dX11_back_15 : decode cX11_back 15 = .ok (.iload_n 1, 1) := by decide +kernel
theorem dX11_back_16 : decode cX11_back 16 = .ok (.aaload, 1) := by decide +kernel
theorem dX11_back_17 : decode cX11_back 17 = .ok (.astore_n 2, 1) := by decide +kernel
theorem dX11_back_18 : decode cX11_back 18 = .ok (.aload_n 2, 1) := by decide +kernel
theorem dX11_back_19 : decode cX11_back 19 = .ok (.ifnonnull 5, 3) := by decide +kernel
theorem dX11_back_22 : decode cX11_back 22 = .ok (.iconst (-1), 1) := by decide +kernel
theorem dX11_back_23 : decode cX11_back 23 = .ok (.ireturn, 1) := by decide +kernel
theorem dX11_back_24 : decode cX11_back 24 = .ok (.aload_n 0, 1) := by decide +kernel
theorem dX11_back_25 : decode cX11_back 25 = .ok (.getfield 10, 3) := by decide +kernel
theorem dX11_back_28 : decode cX11_back 28 = .ok (.aload_n 2, 1) := by decide +kernel
theorem dX11_back_29 : decode cX11_back 29 = .ok (.invokevirtual 313, 3) := by decide +kernel
theorem dX11_back_32 : decode cX11_back 32 = .ok (.aload_n 0, 1) := by decide +kernel
theorem dX11_back_33 : decode cX11_back 33 = .ok (.getfield 10, 3) := by decide +kernel
theorem dX11_back_36 : decode cX11_back 36 = .ok (.getfield 101, 3) := by decide +kernel
theorem dX11_back_39 : decode cX11_back 39 = .ok (.ireturn, 1) := by decide +kernel
set_option maxRecDepth 100000 in
set_option maxHeartbeats 4000000 in
theorem c_X11_back_s {h : ai_H} {tb lm : Int32} {B : Bk} {K : Nat → Option Nat} (hx : x_at h tb lm) (hB : bk_at h 1 B) (hM : h.2.2 12 = .inl (6, 4, .inr (.inr (.inr (.inr K))))) {r q : Nat} {C : Bk} (hr : r ≤ 3) (hKr : K r = some q) (hk : bk_at h q C) (hq : 361 < q) (hin : bi_in (nI r) 0 3 = 1) : ai_QM MX11_back [.ref 0, .int (nI r)] h (fun res g => res = some (.int (bk_now C)) ∧ g.1 = h.1 ∧ g.2.1 = h.2.1 ∧ (∀ j, (j < 1 ∨ 11 < j) → g.2.2 j = h.2.2 j) ∧ ∃ D, bk_at g 1 D ∧ cpd C D) := by
  refine qm_of (ls := [.ref 0, .int (nI r), .float 0]) (by decide) (by simp [ai_en, Value.category]) (by rfl) ?_
  refine wq (fun _ _ kk => rs_iload_n (pc := 0) dX11_back_0 rfl kk) ?_
  refine wq (fun _ _ kk => rs_iconst (v := 0) (pc := 1) dX11_back_1 rfl kk) ?_
  refine wq (fun _ _ kk => rs_iconst (v := 3) (pc := 2) dX11_back_2 rfl kk) ?_
  refine wq (fun _ _ kk => rs_callS (as := [_, _, _]) (pc := 3) dX11_back_3 mk_X11_isWithin mlX11_104 st_X11_isWithin rfl rfl (Nat.le_of_ble_eq_true rfl) (c_X11_isWithin) kk) ?_
  refine wq_bn (fun _ _ kt kf => rs_if_ne (tgt := 11) (pc := 6) dX11_back_6 rfl kt kf) (fun c_6 => ?_) (fun c_6 => absurd c_6 (by rw [hin]; decide))
  refine wq (fun _ _ kk => rs_aload_n (pc := 11) dX11_back_11 rfl kk) ?_
  refine wq (fun _ _ kk => rs_getf (pc := 12) dX11_back_12 fX11_16 (Nat.lt_of_le_of_lt (by decide) hx.1) hx.2 rfl kk) ?_
  refine wq (fun _ _ kk => rs_iload_n (pc := 15) dX11_back_15 rfl kk) ?_
  refine wq (fun _ _ kk => rs_aald (pc := 16) dX11_back_16 (fun _ => rfl) (Nat.lt_of_le_of_lt (by decide) hx.1) hM (vp_in_nI (n := r) (N := 4) (by omega) (by decide)) kk) ?_
  rw [nI_clamp (show r < 2 ^ 31 by omega), hKr]
  show ai_W _ _ _ [.ref q] _ _
  refine wq (fun _ _ kk => wk_astn2 (pc := 17) dX11_back_17 (by decide) rfl kk) ?_
  refine wq (fun _ _ kk => rs_aload_n (pc := 18) dX11_back_18 rfl kk) ?_
  refine wq (fun _ _ kk => rs_ifnonnull (tgt := 24) (pc := 19) dX11_back_19 rfl kk) ?_
  refine wq (fun _ _ kk => rs_aload_n (pc := 24) dX11_back_24 rfl kk) ?_
  refine wq (fun _ _ kk => rs_getf (pc := 25) dX11_back_25 fX11_10 (Nat.lt_of_le_of_lt (by decide) hx.1) hx.2 rfl kk) ?_
  refine wq (fun _ _ kk => rs_aload_n (pc := 28) dX11_back_28 rfl kk) ?_
  obtain ⟨rv_29, hc_29, ⟨rfl, m_1, s_1, o_1, D, hD, hcp⟩, hm_29⟩ := c_X1_become hB hk (by omega)
  refine wq (fun _ _ kk => rs_callV (as := [_]) (pc := 29) dX11_back_29 mk_X1_become mlX11_313 in_X1_become se_X1_become rfl (bk_lt hB (by decide)) hB.2.1 rfl rfl (Nat.le_of_ble_eq_true rfl) (hm_29) kk) ?_
  have hx1 : x_at hc_29 tb lm := ⟨by rw [m_1]; exact hx.1, (o_1 0 (by omega)).trans hx.2⟩
  replace hx := hx1
  replace hB := hD
  refine wq (fun _ _ kk => rs_aload_n (pc := 32) dX11_back_32 rfl kk) ?_
  refine wq (fun _ _ kk => rs_getf (pc := 33) dX11_back_33 fX11_10 (Nat.lt_of_le_of_lt (by decide) hx.1) hx.2 rfl kk) ?_
  refine wq (fun _ _ kk => rs_getf (pc := 36) dX11_back_36 fX11_101 (bk_lt hB (by decide)) hB.2.1 rfl kk) ?_
  refine wq_ret ?_ (rs_iret (pc := 39) dX11_back_39 rfl)
  exact ⟨by rw [hcp.1], m_1, s_1, o_1, D, hD, hcp⟩
set_option maxRecDepth 100000 in
set_option maxHeartbeats 4000000 in
theorem c_X11_back_f {h : ai_H} {tb lm : Int32} {B : Bk} {K : Nat → Option Nat} (hx : x_at h tb lm) (hB : bk_at h 1 B) (hM : h.2.2 12 = .inl (6, 4, .inr (.inr (.inr (.inr K))))) {k : Int32} (hin : bi_in k 0 3 = 0) : ai_QM MX11_back [.ref 0, .int k] h (fun res g => res = some (.int (-1)) ∧ g = h) := by
  refine qm_of (ls := [.ref 0, .int k, .float 0]) (by decide) (by simp [ai_en, Value.category]) (by rfl) ?_
  refine wq (fun _ _ kk => rs_iload_n (pc := 0) dX11_back_0 rfl kk) ?_
  refine wq (fun _ _ kk => rs_iconst (v := 0) (pc := 1) dX11_back_1 rfl kk) ?_
  refine wq (fun _ _ kk => rs_iconst (v := 3) (pc := 2) dX11_back_2 rfl kk) ?_
  refine wq (fun _ _ kk => rs_callS (as := [_, _, _]) (pc := 3) dX11_back_3 mk_X11_isWithin mlX11_104 st_X11_isWithin rfl rfl (Nat.le_of_ble_eq_true rfl) (c_X11_isWithin) kk) ?_
  refine wq_bn (fun _ _ kt kf => rs_if_ne (tgt := 11) (pc := 6) dX11_back_6 rfl kt kf) (fun c_6 => absurd c_6 (fun z => z hin)) (fun c_6 => ?_)
  refine wq (fun _ _ kk => rs_iconst (v := -1) (pc := 9) dX11_back_9 rfl kk) ?_
  refine wq_ret ?_ (rs_iret (pc := 10) dX11_back_10 rfl)
  exact ⟨rfl, rfl⟩
set_option maxRecDepth 100000 in
set_option maxHeartbeats 4000000 in
theorem c_X11_back_n {h : ai_H} {tb lm : Int32} {B : Bk} {K : Nat → Option Nat} (hx : x_at h tb lm) (hB : bk_at h 1 B) (hM : h.2.2 12 = .inl (6, 4, .inr (.inr (.inr (.inr K))))) {r : Nat} (hr : r ≤ 3) (hKr : K r = none) (hin : bi_in (nI r) 0 3 = 1) : ai_QM MX11_back [.ref 0, .int (nI r)] h (fun res g => res = some (.int (-1)) ∧ g = h) := by
  refine qm_of (ls := [.ref 0, .int (nI r), .float 0]) (by decide) (by simp [ai_en, Value.category]) (by rfl) ?_
  refine wq (fun _ _ kk => rs_iload_n (pc := 0) dX11_back_0 rfl kk) ?_
  refine wq (fun _ _ kk => rs_iconst (v := 0) (pc := 1) dX11_back_1 rfl kk) ?_
  refine wq (fun _ _ kk => rs_iconst (v := 3) (pc := 2) dX11_back_2 rfl kk) ?_
  refine wq (fun _ _ kk => rs_callS (as := [_, _, _]) (pc := 3) dX11_back_3 mk_X11_isWithin mlX11_104 st_X11_isWithin rfl rfl (Nat.le_of_ble_eq_true rfl) (c_X11_isWithin) kk) ?_
  refine wq_bn (fun _ _ kt kf => rs_if_ne (tgt := 11) (pc := 6) dX11_back_6 rfl kt kf) (fun c_6 => ?_) (fun c_6 => absurd c_6 (by rw [hin]; decide))
  refine wq (fun _ _ kk => rs_aload_n (pc := 11) dX11_back_11 rfl kk) ?_
  refine wq (fun _ _ kk => rs_getf (pc := 12) dX11_back_12 fX11_16 (Nat.lt_of_le_of_lt (by decide) hx.1) hx.2 rfl kk) ?_
  refine wq (fun _ _ kk => rs_iload_n (pc := 15) dX11_back_15 rfl kk) ?_
  refine wq (fun _ _ kk => rs_aald (pc := 16) dX11_back_16 (fun _ => rfl) (Nat.lt_of_le_of_lt (by decide) hx.1) hM (vp_in_nI (n := r) (N := 4) (by omega) (by decide)) kk) ?_
  rw [nI_clamp (show r < 2 ^ 31 by omega), hKr]
  show ai_W _ _ _ [.null] _ _
  refine wq (fun _ _ kk => wk_nstn2 (pc := 17) dX11_back_17 (by decide) rfl kk) ?_
  refine wq (fun _ _ kk => rs_aload_nN (pc := 18) dX11_back_18 rfl kk) ?_
  refine wq (fun _ _ kk => rs_ifnonnullN (pc := 19) dX11_back_19 kk) ?_
  refine wq (fun _ _ kk => rs_iconst (v := -1) (pc := 22) dX11_back_22 rfl kk) ?_
  refine wq_ret ?_ (rs_iret (pc := 23) dX11_back_23 rfl)
  exact ⟨rfl, rfl⟩
theorem cpd.rows {q : Nat} {h : ai_H} {B C : Bk} (hB : bk_at h q B) (c : cpd B C) : bk_now C = bk_now B ∧ (bk_o C).1 = (bk_o B).1 ∧ (bk_s C).1 = (bk_s B).1 ∧ (bk_n C).1 = (bk_n B).1 ∧ (bk_r C).1 = (bk_r B).1 ∧ (bk_j C).1 = (bk_j B).1 ∧ (∀ i k, bk_oat C i k = bk_oat B i k) ∧ (∀ i k, bk_sat C i k = bk_sat B i k) ∧ (∀ i k, bk_nat C i k = bk_nat B i k) ∧ (∀ i k, bk_rat C i k = bk_rat B i k) ∧ ∀ i k, bk_jat C i k = bk_jat B i k := by
  obtain ⟨-, -, ⟨-, -, k0⟩, ⟨-, -, k1⟩, ⟨-, -, k2⟩, ⟨-, -, k3⟩, -, -, k4⟩ := hB
  obtain ⟨c0, c1, c2, c3, c4, c5⟩ := c
  exact ⟨c0, c1.1, c2.1, c3.1, c4.1, c5.1, fun i k => tb_at_cp k0 rfl c1 i k, fun i k => tb_at_cp k1 rfl c2 i k, fun i k => tb_at_cp k2 rfl c3 i k, fun i k => tb_at_cp k3 rfl c4 i k, fun i k => tb_at_cp k4 rfl c5 i k⟩
theorem cpd.ok {q lm : Nat} {h : ai_H} {B C : Bk} (hB : bk_at h q B) (c : cpd B C) (k : bk_ok B lm) : bk_ok C lm := by
  obtain ⟨c0, c1, c2, c3, c4, c5, a1, a2, a3, a4, a5⟩ := c.rows hB
  unfold bk_ok ok_o ok_s ok_n ok_r ok_j nO nS nN nR nJ at k ⊢
  simp only [c0, c1, c2, c3, c4, c5, a1, a2, a3, a4, a5]
  exact k
theorem cpd.rb {q : Nat} {h : ai_H} {B C : Bk} {S : Md} (hB : bk_at h q B) (c : cpd B C) (k : RB B S) : RB C S := by
  obtain ⟨c0, c1, c2, c3, c4, c5, a1, a2, a3, a4, a5⟩ := c.rows hB
  unfold RB rb_o rb_s rb_n rb_r rb_j nO nS nN nR nJ at k ⊢
  simp only [c0, c1, c2, c3, c4, c5, a1, a2, a3, a4, a5]
  exact k
theorem bk_ok.mono {B : Bk} {n m : Nat} (h : bk_ok B n) (hm : n ≤ m) : bk_ok B m := ⟨h.1, ⟨h.2.1.1, h.2.1.2.1, fun k hk => ⟨(h.2.1.2.2 k hk).1, (h.2.1.2.2 k hk).2.1, (h.2.1.2.2 k hk).2.2.1, by have := (h.2.1.2.2 k hk).2.2.2; omega⟩⟩, h.2.2⟩
