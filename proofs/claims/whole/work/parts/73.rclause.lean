/-! 73: the class's reader: clauses, brackets, follow (walks laid by wip/whole/p73.py) -/
theorem kc_cm : ∀ k, k < 20 → (200003 ≤ tx_kc k ∧ tx_kc k ≤ 200007 ↔ 4 ≤ k ∧ k ≤ 8) := by decide +kernel
theorem py_va {n st p pa de br : Nat} {D : List Cl} {A B : List Tk} {pl : List Nat} (h : py_I n st p pa de br D A B pl) : ∀ x, x ∈ pl → 2 ≤ x ∧ x ≤ 13 := by
  obtain ⟨-, -, -, ⟨t0, t1, t2, t3, t4, t5, t6, t7, t8, t9⟩, -, -, -, hst⟩ := h
  have : st = 0 ∨ st = 9 ∨ st = 1 ∨ st = 2 ∨ st = 3 ∨ st = 4 ∨ st = 5 ∨ st = 6 ∨ st = 7 ∨ st = 8 := by clear t0 t1 t2 t3 t4 t5 t6 t7 t8 t9; omega
  rcases this with h | h | h | h | h | h | h | h | h | h
  · rw [(t0 (Or.inl h)).2.2]; intro x hx; cases hx
  · rw [(t0 (Or.inr h)).2.2]; intro x hx; cases hx
  · exact py_okt_va (t1 h).2.1
  · exact py_okt_va (t2 h).2.1
  · exact py_okt_va (t4 h).1
  · exact py_okl_va (t5 h).1
  · exact py_okl_va (t6 h).1
  · exact py_okt_va (t7 h).1
  · exact py_okt_va (t8 h).1
  · exact py_okt_va (t9 h).1
theorem py_Bne {n st p pa de br : Nat} {D : List Cl} {A B : List Tk} {pl : List Nat} (h : py_I n st p pa de br D A B pl) (hs : st = 7 ∨ st = 8) : B ≠ [] := by
  obtain ⟨-, -, -, ⟨t0, t1, t2, t3, t4, t5, t6, t7, t8, t9⟩, -⟩ := h
  rintro rfl
  rcases hs with h | h
  · have := (t8 h).2; cases this
  · have := (t9 h).2; cases this
theorem py_B2 {n st p pa de br : Nat} {D : List Cl} {A B : List Tk} {pl : List Nat} (h : py_I n st p pa de br D A B pl) (hs : st = 1 ∨ st = 2) : B = [] := by
  obtain ⟨-, -, -, ⟨t0, t1, t2, t3, t4, t5, t6, t7, t8, t9⟩, -⟩ := h
  rcases hs with h | h
  · exact (t1 h).1
  · exact (t2 h).1
theorem out_c2 (D : List Cl) (A P : List Tk) : stp (D ++ [(A ++ P, [])]) ++ List.map tkN ([] ++ []) = stp D ++ List.map tkN (A ++ []) ++ List.map tkN P ++ [200011] := by
  rw [stp_app]
  simp [mkc]
theorem out_c7 (D : List Cl) (A B P : List Tk) (h : B ++ P ≠ []) : stp (D ++ [(A, B ++ P)]) ++ List.map tkN ([] ++ []) = stp D ++ List.map tkN (A ++ B) ++ List.map tkN P ++ [200012] := by
  rw [stp_app, show mkc (A, B ++ P) = 200012 from if_neg h]
  simp
theorem dX5_closeClause_0 : decode cX5_closeClause 0 = .ok (.aload_n 0, 1) := by decide +kernel
theorem dX5_closeClause_1 : decode cX5_closeClause 1 = .ok (.getfield 26, 3) := by decide +kernel
theorem dX5_closeClause_4 : decode cX5_closeClause 4 = .ok (.ldc 174, 2) := by decide +kernel
theorem dX5_closeClause_6 : decode cX5_closeClause 6 = .ok (.if_icmp .eq 18, 3) := by decide +kernel
theorem dX5_closeClause_9 : decode cX5_closeClause 9 = .ok (.aload_n 0, 1) := by decide +kernel
theorem dX5_closeClause_10 : decode cX5_closeClause 10 = .ok (.getfield 26, 3) := by decide +kernel
theorem dX5_closeClause_13 : decode cX5_closeClause 13 = .ok (.ldc 90, 2) := by decide +kernel
theorem dX5_closeClause_15 : decode cX5_closeClause 15 = .ok (.if_icmp .eq 9, 3) := by decide +kernel
theorem dX5_closeClause_18 : decode cX5_closeClause 18 = .ok (.aload_n 0, 1) := by decide +kernel
theorem dX5_closeClause_19 : decode cX5_closeClause 19 = .ok (.iconst 0, 1) := by decide +kernel
theorem dX5_closeClause_20 : decode cX5_closeClause 20 = .ok (.invokevirtual 205, 3) := by decide +kernel
theorem dX5_closeClause_23 : decode cX5_closeClause 23 = .ok (.return_, 1) := by decide +kernel
theorem dX5_closeClause_24 : decode cX5_closeClause 24 = .ok (.aload_n 0, 1) := by decide +kernel
theorem dX5_closeClause_25 : decode cX5_closeClause 25 = .ok (.iconst 1, 1) := by decide +kernel
theorem dX5_closeClause_26 : decode cX5_closeClause 26 = .ok (.invokevirtual 219, 3) := by decide +kernel
theorem dX5_closeClause_29 : decode cX5_closeClause 29 = .ok (.aload_n 0, 1) := by decide +kernel
theorem dX5_closeClause_30 : decode cX5_closeClause 30 = .ok (.aload_n 0, 1) := by decide +kernel
theorem dX5_closeClause_31 : decode cX5_closeClause 31 = .ok (.getfield 41, 3) := by decide +kernel
theorem dX5_closeClause_34 : decode cX5_closeClause 34 = .ok (.ifCond .eq 8, 3) := by decide +kernel
theorem dX5_closeClause_37 : decode cX5_closeClause 37 = .ok (.ldc 231, 2) := by decide +kernel
theorem dX5_closeClause_39 : decode cX5_closeClause 39 = .ok (.goto 5, 3) := by decide +kernel
theorem dX5_closeClause_42 : decode cX5_closeClause 42 = .ok (.ldc 232, 2) := by decide +kernel
theorem dX5_closeClause_44 : decode cX5_closeClause 44 = .ok (.invokevirtual 209, 3) := by decide +kernel
theorem dX5_closeClause_47 : decode cX5_closeClause 47 = .ok (.aload_n 0, 1) := by decide +kernel
theorem dX5_closeClause_48 : decode cX5_closeClause 48 = .ok (.aload_n 0, 1) := by decide +kernel
theorem dX5_closeClause_49 : decode cX5_closeClause 49 = .ok (.getfield 26, 3) := by decide +kernel
theorem dX5_closeClause_52 : decode cX5_closeClause 52 = .ok (.ldc 90, 2) := by decide +kernel
theorem dX5_closeClause_54 : decode cX5_closeClause 54 = .ok (.if_icmp .ne 8, 3) := by decide +kernel
theorem dX5_closeClause_57 : decode cX5_closeClause 57 = .ok (.bipush 9, 2) := by decide +kernel
theorem dX5_closeClause_59 : decode cX5_closeClause 59 = .ok (.goto 4, 3) := by decide +kernel
theorem dX5_closeClause_62 : decode cX5_closeClause 62 = .ok (.iconst 0, 1) := by decide +kernel
theorem dX5_closeClause_63 : decode cX5_closeClause 63 = .ok (.putfield 32, 3) := by decide +kernel
theorem dX5_closeClause_66 : decode cX5_closeClause 66 = .ok (.return_, 1) := by decide +kernel
set_option maxRecDepth 100000 in
set_option maxHeartbeats 4000000 in
theorem c_X5_closeClause {h : ai_H} {S : Md} {n st p pa de br k v a e : Nat} {D : List Cl} {A B : List Tk} {pl : List Nat} (hrd : rd_at 13 h S) (hm : rd_m S st pa de br D A B pl) (ht : rd_tk S n k v a e) (hI : py_I n st p pa de br D A B pl) (hpa : p ≤ a) (hst : st = 2 ∨ st = 7 ∨ st = 8) : ai_QM MX5_closeClause [.ref 16] h (fun r g => r = none ∧ xd h g ∧ ∃ T, rd_at 13 g T ∧ T.1 1 = S.1 1 ∧ rd_x T (py_close k a e (st, p, 0, pa, de, br, D, A, B, pl))) := by
  obtain ⟨t2, t3, t4, t5, hk19, han, hae, hen, hv0, hv1, hn4⟩ := ht
  obtain ⟨⟨m6, m7, m8⟩, ⟨m9a, m9b⟩, ⟨m10, m11, m12⟩, mo, mp⟩ := id hm
  obtain ⟨z1, z2, z3, z4, z5, z6⟩ := rd_room hn4 hI
  refine qm_of (ls := [.ref 16]) (by decide) (by simp [ai_en, Value.category]) (by rfl) ?_
  refine wq (fun _ _ kk => rs_aload_n (pc := 0) dX5_closeClause_0 rfl kk) ?_
  refine wq (fun _ _ kk => rs_getf (pc := 1) dX5_closeClause_1 fX5_26 (mo_lt hrd (by decide)) hrd.2.1 rfl kk) ?_
  rw [t4]
  refine wq (fun _ _ kk => rs_ldc (pc := 4) dX5_closeClause_4 cnX5_174 kk) ?_
  refine wq_br (fun _ _ kt kf => rs_icmp_eq (tgt := 24) (pc := 6) dX5_closeClause_6 rfl kt kf) (fun c_6 => ?_) (fun c_6 => ?_)
  · have g1 : k = 17 := kc_in hk19 (by decide) c_6
    refine wq (fun _ _ kk => rs_aload_n (pc := 24) dX5_closeClause_24 rfl kk) ?_
    refine wq (fun _ _ kk => rs_iconst (v := 1) (pc := 25) dX5_closeClause_25 rfl kk) ?_
    obtain ⟨rv_26, hc_26, ⟨rfl, ee_26, T_26, hrd_26, ho_26, hp_26, h11_26, w1, w2, w3⟩, hm_26⟩ := c_X5_settle (r0 := 1) (by decide) (py_va hI) (by omega) (by omega) (by have := py_nt_le (r := 1) (pl := pl) (by decide); have := hI.2.2.1.1; omega) (by omega) hrd mo mp m11
    refine wq (fun _ _ kk => rs_callV (as := [_]) (pc := 26) dX5_closeClause_26 mk_X5_settle mlX5_219 in_X5_settle se_X5_settle rfl (mo_lt hrd (by decide)) hrd.2.1 rfl rfl (Nat.le_of_ble_eq_true rfl) (hm_26) kk) ?_
    replace hrd := hrd_26
    rw [kc_tw (by decide) (py_va hI)] at ho_26
    have E_26 := (xd.rf).trans ee_26
    refine wq (fun _ _ kk => rs_aload_n (pc := 29) dX5_closeClause_29 rfl kk) ?_
    refine wq (fun _ _ kk => rs_aload_n (pc := 30) dX5_closeClause_30 rfl kk) ?_
    refine wq (fun _ _ kk => rs_getf (pc := 31) dX5_closeClause_31 fX5_41 (mo_lt hrd (by decide)) hrd.2.1 rfl kk) ?_
    rw [w1 9 (by decide) (by decide) (by decide)]
    refine wq_br (fun _ _ kt kf => rs_if_eq (tgt := 42) (pc := 34) dX5_closeClause_34 rfl kt kf) (fun c_34 => ?_) (fun c_34 => ?_)
    · have g3 : S.1 9 = 0 := c_34
      refine wq (fun _ _ kk => rs_ldc (pc := 42) dX5_closeClause_42 cnX5_232 kk) ?_
      obtain ⟨rv_44, hc_44, ⟨rfl, ee_44, T_44, hrd_44, ho_44, v1, v2, v3⟩, hm_44⟩ := c_X5_step (x := 200011) hrd ho_26 (by rw [List.length_append, List.length_map, show (py_tk (py_tw 1 pl)).length = (py_tw 1 pl).length by unfold py_tk; rw [List.length_map]]; have := (List.takeWhile_prefix (fun k => decide (1 ≤ py_rk k)) (l := pl)).length_le; unfold py_tw; omega)
      refine wq (fun _ _ kk => rs_callV (as := [_]) (pc := 44) dX5_closeClause_44 mk_X5_step mlX5_209 in_X5_step se_X5_step rfl (mo_lt hrd (by decide)) hrd.2.1 rfl rfl (Nat.le_of_ble_eq_true rfl) (hm_44) kk) ?_
      replace hrd := hrd_44
      have E_44 := (E_26).trans ee_44
      refine wq (fun _ _ kk => rs_aload_n (pc := 47) dX5_closeClause_47 rfl kk) ?_
      refine wq (fun _ _ kk => rs_aload_n (pc := 48) dX5_closeClause_48 rfl kk) ?_
      refine wq (fun _ _ kk => rs_getf (pc := 49) dX5_closeClause_49 fX5_26 (mo_lt hrd (by decide)) hrd.2.1 rfl kk) ?_
      rw [v1 4 (by decide), w1 4 (by decide) (by decide) (by decide), t4]
      refine wq (fun _ _ kk => rs_ldc (pc := 52) dX5_closeClause_52 cnX5_90 kk) ?_
      refine wq_bn (fun _ _ kt kf => rs_icmp_ne (tgt := 62) (pc := 54) dX5_closeClause_54 rfl kt kf) (fun c_54 => ?_) (fun c_54 => ?_)
      · have g4 : ¬ k = 18 := fun z => c_54 (by rw [z]; rfl)
        refine wq (fun _ _ kk => rs_iconst (v := 0) (pc := 62) dX5_closeClause_62 rfl kk) ?_
        refine wq (fun _ _ kk => rs_putf (pc := 63) dX5_closeClause_63 fX5_32 (mo_lt hrd (by decide)) hrd.2.1 rfl (Nat.le_of_ble_eq_true rfl) kk) ?_
        refine wq_gen (fun h_1 e_1 => ?_)
        obtain ⟨m_1, s_1, g_1, o_1⟩ := ai_e1 e_1
        replace hrd := mo_si (k := 6) hrd m_1 g_1 o_1 rfl
        have E_1 := (E_44).trans (xd_of m_1 s_1 o_1 (by decide))
        obtain ⟨S_63, hrd, k_63, r_63, s_63⟩ := rd_new hrd
        replace k_63 : S_63.1 6 = nI (if k = 18 then 9 else 0) := k_63.trans (by rw [if_neg g4]; rfl)
        have hz0 : (if k = 18 then 9 else 0) = 0 ∨ (if k = 18 then 9 else 0) = 9 := by rw [if_neg g4]; decide
        have hz1 : ¬ ((if k = 18 then 9 else 0) = 1 ∨ (if k = 18 then 9 else 0) = 2) := by rw [if_neg g4]; decide
        have hz2 : ¬ (3 ≤ (if k = 18 then 9 else 0) ∧ (if k = 18 then 9 else 0) ≤ 8) := by rw [if_neg g4]; decide
        refine wq_ret ?_ (rs_vret (pc := 66) dX5_closeClause_66 rfl)
        have q : ∀ j, j ≠ 6 → j ≠ 11 → j ≠ 14 → j ≠ 16 → S_63.1 j = S.1 j := fun j a b c d => by rw [r_63 j a, v1 j c, w1 j b c d]
        refine ⟨rfl, E_1, _, hrd, q 1 (by decide) (by decide) (by decide) (by decide), ?_⟩
        unfold py_close
        show rd_x S_63 (if k ≠ 17 ∧ k ≠ 18 then _ else _)
        rw [if_neg (by omega)]
        refine rd_x_i (by rw [q 3 (by decide) (by decide) (by decide) (by decide)]; exact t3) ⟨⟨k_63, by rw [q 7 (by decide) (by decide) (by decide) (by decide)]; exact m7, ?_⟩, ⟨fun z => absurd z hz1, fun z => absurd z hz2⟩, ⟨by rw [q 10 (by decide) (by decide) (by decide) (by decide)]; exact m10, by rw [r_63 11 (by decide), v1 11 (by decide)]; exact h11_26, by rw [q 12 (by decide) (by decide) (by decide) (by decide)]; exact m12⟩, ?_, ?_⟩
        · rw [q 8 (by decide) (by decide) (by decide) (by decide), m8, List.length_append, if_neg (by omega), if_pos hz0]
          rfl
        · skip
          have hou : rd_out S_63 (stp D ++ (A ++ B).map tkN ++ (py_tk (py_tw 1 pl)).map tkN ++ [200011]) := ⟨by rw [r_63 14 (by decide)]; exact ho_44.1, by rw [s_63]; exact ho_44.2⟩
          by_cases h2 : st = 2
          · obtain rfl := py_B2 hI (Or.inr h2)
            rw [if_pos h2]
            rw [out_c2]
            exact hou
          · rw [if_neg h2]
            have hne : B ++ py_tk (py_tw 1 pl) ≠ [] := fun z => py_Bne hI (by omega) (List.append_eq_nil_iff.mp z).1
            rw [out_c7 _ _ _ _ hne]
            exact absurd (m9b (by omega)) (fun z => absurd (g3.symm.trans z) (by decide))
        · exact ⟨by rw [r_63 16 (by decide), v1 16 (by decide)]; exact hp_26.1, by rw [s_63, v3 15 (by decide)]; exact hp_26.2⟩
      · have g4 : k = 18 := kc_in hk19 (by decide) c_54
        refine wq (fun _ _ kk => rs_bipush (v := 9) (pc := 57) dX5_closeClause_57 rfl kk) ?_
        refine wq (fun _ _ kk => rs_goto (tgt := 63) (pc := 59) dX5_closeClause_59 rfl kk) ?_
        refine wq (fun _ _ kk => rs_putf (pc := 63) dX5_closeClause_63 fX5_32 (mo_lt hrd (by decide)) hrd.2.1 rfl (Nat.le_of_ble_eq_true rfl) kk) ?_
        refine wq_gen (fun h_2 e_2 => ?_)
        obtain ⟨m_2, s_2, g_2, o_2⟩ := ai_e1 e_2
        replace hrd := mo_si (k := 6) hrd m_2 g_2 o_2 rfl
        have E_2 := (E_44).trans (xd_of m_2 s_2 o_2 (by decide))
        obtain ⟨S_63, hrd, k_63, r_63, s_63⟩ := rd_new hrd
        replace k_63 : S_63.1 6 = nI (if k = 18 then 9 else 0) := k_63.trans (by rw [if_pos g4]; rfl)
        have hz0 : (if k = 18 then 9 else 0) = 0 ∨ (if k = 18 then 9 else 0) = 9 := by rw [if_pos g4]; decide
        have hz1 : ¬ ((if k = 18 then 9 else 0) = 1 ∨ (if k = 18 then 9 else 0) = 2) := by rw [if_pos g4]; decide
        have hz2 : ¬ (3 ≤ (if k = 18 then 9 else 0) ∧ (if k = 18 then 9 else 0) ≤ 8) := by rw [if_pos g4]; decide
        refine wq_ret ?_ (rs_vret (pc := 66) dX5_closeClause_66 rfl)
        have q : ∀ j, j ≠ 6 → j ≠ 11 → j ≠ 14 → j ≠ 16 → S_63.1 j = S.1 j := fun j a b c d => by rw [r_63 j a, v1 j c, w1 j b c d]
        refine ⟨rfl, E_2, _, hrd, q 1 (by decide) (by decide) (by decide) (by decide), ?_⟩
        unfold py_close
        show rd_x S_63 (if k ≠ 17 ∧ k ≠ 18 then _ else _)
        rw [if_neg (by omega)]
        refine rd_x_i (by rw [q 3 (by decide) (by decide) (by decide) (by decide)]; exact t3) ⟨⟨k_63, by rw [q 7 (by decide) (by decide) (by decide) (by decide)]; exact m7, ?_⟩, ⟨fun z => absurd z hz1, fun z => absurd z hz2⟩, ⟨by rw [q 10 (by decide) (by decide) (by decide) (by decide)]; exact m10, by rw [r_63 11 (by decide), v1 11 (by decide)]; exact h11_26, by rw [q 12 (by decide) (by decide) (by decide) (by decide)]; exact m12⟩, ?_, ?_⟩
        · rw [q 8 (by decide) (by decide) (by decide) (by decide), m8, List.length_append, if_neg (by omega), if_pos hz0]
          rfl
        · skip
          have hou : rd_out S_63 (stp D ++ (A ++ B).map tkN ++ (py_tk (py_tw 1 pl)).map tkN ++ [200011]) := ⟨by rw [r_63 14 (by decide)]; exact ho_44.1, by rw [s_63]; exact ho_44.2⟩
          by_cases h2 : st = 2
          · obtain rfl := py_B2 hI (Or.inr h2)
            rw [if_pos h2]
            rw [out_c2]
            exact hou
          · rw [if_neg h2]
            have hne : B ++ py_tk (py_tw 1 pl) ≠ [] := fun z => py_Bne hI (by omega) (List.append_eq_nil_iff.mp z).1
            rw [out_c7 _ _ _ _ hne]
            exact absurd (m9b (by omega)) (fun z => absurd (g3.symm.trans z) (by decide))
        · exact ⟨by rw [r_63 16 (by decide), v1 16 (by decide)]; exact hp_26.1, by rw [s_63, v3 15 (by decide)]; exact hp_26.2⟩
    · have g3 : ¬ S.1 9 = 0 := c_34
      refine wq (fun _ _ kk => rs_ldc (pc := 37) dX5_closeClause_37 cnX5_231 kk) ?_
      refine wq (fun _ _ kk => rs_goto (tgt := 44) (pc := 39) dX5_closeClause_39 rfl kk) ?_
      obtain ⟨rv_44, hc_44, ⟨rfl, ee_44, T_44, hrd_44, ho_44, v1, v2, v3⟩, hm_44⟩ := c_X5_step (x := 200012) hrd ho_26 (by rw [List.length_append, List.length_map, show (py_tk (py_tw 1 pl)).length = (py_tw 1 pl).length by unfold py_tk; rw [List.length_map]]; have := (List.takeWhile_prefix (fun k => decide (1 ≤ py_rk k)) (l := pl)).length_le; unfold py_tw; omega)
      refine wq (fun _ _ kk => rs_callV (as := [_]) (pc := 44) dX5_closeClause_44 mk_X5_step mlX5_209 in_X5_step se_X5_step rfl (mo_lt hrd (by decide)) hrd.2.1 rfl rfl (Nat.le_of_ble_eq_true rfl) (hm_44) kk) ?_
      replace hrd := hrd_44
      have E_44 := (E_26).trans ee_44
      refine wq (fun _ _ kk => rs_aload_n (pc := 47) dX5_closeClause_47 rfl kk) ?_
      refine wq (fun _ _ kk => rs_aload_n (pc := 48) dX5_closeClause_48 rfl kk) ?_
      refine wq (fun _ _ kk => rs_getf (pc := 49) dX5_closeClause_49 fX5_26 (mo_lt hrd (by decide)) hrd.2.1 rfl kk) ?_
      rw [v1 4 (by decide), w1 4 (by decide) (by decide) (by decide), t4]
      refine wq (fun _ _ kk => rs_ldc (pc := 52) dX5_closeClause_52 cnX5_90 kk) ?_
      refine wq_bn (fun _ _ kt kf => rs_icmp_ne (tgt := 62) (pc := 54) dX5_closeClause_54 rfl kt kf) (fun c_54 => ?_) (fun c_54 => ?_)
      · have g4 : ¬ k = 18 := fun z => c_54 (by rw [z]; rfl)
        refine wq (fun _ _ kk => rs_iconst (v := 0) (pc := 62) dX5_closeClause_62 rfl kk) ?_
        refine wq (fun _ _ kk => rs_putf (pc := 63) dX5_closeClause_63 fX5_32 (mo_lt hrd (by decide)) hrd.2.1 rfl (Nat.le_of_ble_eq_true rfl) kk) ?_
        refine wq_gen (fun h_3 e_3 => ?_)
        obtain ⟨m_3, s_3, g_3, o_3⟩ := ai_e1 e_3
        replace hrd := mo_si (k := 6) hrd m_3 g_3 o_3 rfl
        have E_3 := (E_44).trans (xd_of m_3 s_3 o_3 (by decide))
        obtain ⟨S_63, hrd, k_63, r_63, s_63⟩ := rd_new hrd
        replace k_63 : S_63.1 6 = nI (if k = 18 then 9 else 0) := k_63.trans (by rw [if_neg g4]; rfl)
        have hz0 : (if k = 18 then 9 else 0) = 0 ∨ (if k = 18 then 9 else 0) = 9 := by rw [if_neg g4]; decide
        have hz1 : ¬ ((if k = 18 then 9 else 0) = 1 ∨ (if k = 18 then 9 else 0) = 2) := by rw [if_neg g4]; decide
        have hz2 : ¬ (3 ≤ (if k = 18 then 9 else 0) ∧ (if k = 18 then 9 else 0) ≤ 8) := by rw [if_neg g4]; decide
        refine wq_ret ?_ (rs_vret (pc := 66) dX5_closeClause_66 rfl)
        have q : ∀ j, j ≠ 6 → j ≠ 11 → j ≠ 14 → j ≠ 16 → S_63.1 j = S.1 j := fun j a b c d => by rw [r_63 j a, v1 j c, w1 j b c d]
        refine ⟨rfl, E_3, _, hrd, q 1 (by decide) (by decide) (by decide) (by decide), ?_⟩
        unfold py_close
        show rd_x S_63 (if k ≠ 17 ∧ k ≠ 18 then _ else _)
        rw [if_neg (by omega)]
        refine rd_x_i (by rw [q 3 (by decide) (by decide) (by decide) (by decide)]; exact t3) ⟨⟨k_63, by rw [q 7 (by decide) (by decide) (by decide) (by decide)]; exact m7, ?_⟩, ⟨fun z => absurd z hz1, fun z => absurd z hz2⟩, ⟨by rw [q 10 (by decide) (by decide) (by decide) (by decide)]; exact m10, by rw [r_63 11 (by decide), v1 11 (by decide)]; exact h11_26, by rw [q 12 (by decide) (by decide) (by decide) (by decide)]; exact m12⟩, ?_, ?_⟩
        · rw [q 8 (by decide) (by decide) (by decide) (by decide), m8, List.length_append, if_neg (by omega), if_pos hz0]
          rfl
        · skip
          have hou : rd_out S_63 (stp D ++ (A ++ B).map tkN ++ (py_tk (py_tw 1 pl)).map tkN ++ [200012]) := ⟨by rw [r_63 14 (by decide)]; exact ho_44.1, by rw [s_63]; exact ho_44.2⟩
          by_cases h2 : st = 2
          · obtain rfl := py_B2 hI (Or.inr h2)
            rw [if_pos h2]
            rw [out_c2]
            exact absurd (m9a (Or.inr h2)) (fun z => g3 z)
          · rw [if_neg h2]
            have hne : B ++ py_tk (py_tw 1 pl) ≠ [] := fun z => py_Bne hI (by omega) (List.append_eq_nil_iff.mp z).1
            rw [out_c7 _ _ _ _ hne]
            exact hou
        · exact ⟨by rw [r_63 16 (by decide), v1 16 (by decide)]; exact hp_26.1, by rw [s_63, v3 15 (by decide)]; exact hp_26.2⟩
      · have g4 : k = 18 := kc_in hk19 (by decide) c_54
        refine wq (fun _ _ kk => rs_bipush (v := 9) (pc := 57) dX5_closeClause_57 rfl kk) ?_
        refine wq (fun _ _ kk => rs_goto (tgt := 63) (pc := 59) dX5_closeClause_59 rfl kk) ?_
        refine wq (fun _ _ kk => rs_putf (pc := 63) dX5_closeClause_63 fX5_32 (mo_lt hrd (by decide)) hrd.2.1 rfl (Nat.le_of_ble_eq_true rfl) kk) ?_
        refine wq_gen (fun h_4 e_4 => ?_)
        obtain ⟨m_4, s_4, g_4, o_4⟩ := ai_e1 e_4
        replace hrd := mo_si (k := 6) hrd m_4 g_4 o_4 rfl
        have E_4 := (E_44).trans (xd_of m_4 s_4 o_4 (by decide))
        obtain ⟨S_63, hrd, k_63, r_63, s_63⟩ := rd_new hrd
        replace k_63 : S_63.1 6 = nI (if k = 18 then 9 else 0) := k_63.trans (by rw [if_pos g4]; rfl)
        have hz0 : (if k = 18 then 9 else 0) = 0 ∨ (if k = 18 then 9 else 0) = 9 := by rw [if_pos g4]; decide
        have hz1 : ¬ ((if k = 18 then 9 else 0) = 1 ∨ (if k = 18 then 9 else 0) = 2) := by rw [if_pos g4]; decide
        have hz2 : ¬ (3 ≤ (if k = 18 then 9 else 0) ∧ (if k = 18 then 9 else 0) ≤ 8) := by rw [if_pos g4]; decide
        refine wq_ret ?_ (rs_vret (pc := 66) dX5_closeClause_66 rfl)
        have q : ∀ j, j ≠ 6 → j ≠ 11 → j ≠ 14 → j ≠ 16 → S_63.1 j = S.1 j := fun j a b c d => by rw [r_63 j a, v1 j c, w1 j b c d]
        refine ⟨rfl, E_4, _, hrd, q 1 (by decide) (by decide) (by decide) (by decide), ?_⟩
        unfold py_close
        show rd_x S_63 (if k ≠ 17 ∧ k ≠ 18 then _ else _)
        rw [if_neg (by omega)]
        refine rd_x_i (by rw [q 3 (by decide) (by decide) (by decide) (by decide)]; exact t3) ⟨⟨k_63, by rw [q 7 (by decide) (by decide) (by decide) (by decide)]; exact m7, ?_⟩, ⟨fun z => absurd z hz1, fun z => absurd z hz2⟩, ⟨by rw [q 10 (by decide) (by decide) (by decide) (by decide)]; exact m10, by rw [r_63 11 (by decide), v1 11 (by decide)]; exact h11_26, by rw [q 12 (by decide) (by decide) (by decide) (by decide)]; exact m12⟩, ?_, ?_⟩
        · rw [q 8 (by decide) (by decide) (by decide) (by decide), m8, List.length_append, if_neg (by omega), if_pos hz0]
          rfl
        · skip
          have hou : rd_out S_63 (stp D ++ (A ++ B).map tkN ++ (py_tk (py_tw 1 pl)).map tkN ++ [200012]) := ⟨by rw [r_63 14 (by decide)]; exact ho_44.1, by rw [s_63]; exact ho_44.2⟩
          by_cases h2 : st = 2
          · obtain rfl := py_B2 hI (Or.inr h2)
            rw [if_pos h2]
            rw [out_c2]
            exact absurd (m9a (Or.inr h2)) (fun z => g3 z)
          · rw [if_neg h2]
            have hne : B ++ py_tk (py_tw 1 pl) ≠ [] := fun z => py_Bne hI (by omega) (List.append_eq_nil_iff.mp z).1
            rw [out_c7 _ _ _ _ hne]
            exact hou
        · exact ⟨by rw [r_63 16 (by decide), v1 16 (by decide)]; exact hp_26.1, by rw [s_63, v3 15 (by decide)]; exact hp_26.2⟩
  · have g1 : ¬ k = 17 := fun z => c_6 (by rw [z]; rfl)
    refine wq (fun _ _ kk => rs_aload_n (pc := 9) dX5_closeClause_9 rfl kk) ?_
    refine wq (fun _ _ kk => rs_getf (pc := 10) dX5_closeClause_10 fX5_26 (mo_lt hrd (by decide)) hrd.2.1 rfl kk) ?_
    rw [t4]
    refine wq (fun _ _ kk => rs_ldc (pc := 13) dX5_closeClause_13 cnX5_90 kk) ?_
    refine wq_br (fun _ _ kt kf => rs_icmp_eq (tgt := 24) (pc := 15) dX5_closeClause_15 rfl kt kf) (fun c_15 => ?_) (fun c_15 => ?_)
    · have g2 : k = 18 := kc_in hk19 (by decide) c_15
      refine wq (fun _ _ kk => rs_aload_n (pc := 24) dX5_closeClause_24 rfl kk) ?_
      refine wq (fun _ _ kk => rs_iconst (v := 1) (pc := 25) dX5_closeClause_25 rfl kk) ?_
      obtain ⟨rv_26, hc_26, ⟨rfl, ee_26, T_26, hrd_26, ho_26, hp_26, h11_26, w1, w2, w3⟩, hm_26⟩ := c_X5_settle (r0 := 1) (by decide) (py_va hI) (by omega) (by omega) (by have := py_nt_le (r := 1) (pl := pl) (by decide); have := hI.2.2.1.1; omega) (by omega) hrd mo mp m11
      refine wq (fun _ _ kk => rs_callV (as := [_]) (pc := 26) dX5_closeClause_26 mk_X5_settle mlX5_219 in_X5_settle se_X5_settle rfl (mo_lt hrd (by decide)) hrd.2.1 rfl rfl (Nat.le_of_ble_eq_true rfl) (hm_26) kk) ?_
      replace hrd := hrd_26
      rw [kc_tw (by decide) (py_va hI)] at ho_26
      have E_26 := (xd.rf).trans ee_26
      refine wq (fun _ _ kk => rs_aload_n (pc := 29) dX5_closeClause_29 rfl kk) ?_
      refine wq (fun _ _ kk => rs_aload_n (pc := 30) dX5_closeClause_30 rfl kk) ?_
      refine wq (fun _ _ kk => rs_getf (pc := 31) dX5_closeClause_31 fX5_41 (mo_lt hrd (by decide)) hrd.2.1 rfl kk) ?_
      rw [w1 9 (by decide) (by decide) (by decide)]
      refine wq_br (fun _ _ kt kf => rs_if_eq (tgt := 42) (pc := 34) dX5_closeClause_34 rfl kt kf) (fun c_34 => ?_) (fun c_34 => ?_)
      · have g3 : S.1 9 = 0 := c_34
        refine wq (fun _ _ kk => rs_ldc (pc := 42) dX5_closeClause_42 cnX5_232 kk) ?_
        obtain ⟨rv_44, hc_44, ⟨rfl, ee_44, T_44, hrd_44, ho_44, v1, v2, v3⟩, hm_44⟩ := c_X5_step (x := 200011) hrd ho_26 (by rw [List.length_append, List.length_map, show (py_tk (py_tw 1 pl)).length = (py_tw 1 pl).length by unfold py_tk; rw [List.length_map]]; have := (List.takeWhile_prefix (fun k => decide (1 ≤ py_rk k)) (l := pl)).length_le; unfold py_tw; omega)
        refine wq (fun _ _ kk => rs_callV (as := [_]) (pc := 44) dX5_closeClause_44 mk_X5_step mlX5_209 in_X5_step se_X5_step rfl (mo_lt hrd (by decide)) hrd.2.1 rfl rfl (Nat.le_of_ble_eq_true rfl) (hm_44) kk) ?_
        replace hrd := hrd_44
        have E_44 := (E_26).trans ee_44
        refine wq (fun _ _ kk => rs_aload_n (pc := 47) dX5_closeClause_47 rfl kk) ?_
        refine wq (fun _ _ kk => rs_aload_n (pc := 48) dX5_closeClause_48 rfl kk) ?_
        refine wq (fun _ _ kk => rs_getf (pc := 49) dX5_closeClause_49 fX5_26 (mo_lt hrd (by decide)) hrd.2.1 rfl kk) ?_
        rw [v1 4 (by decide), w1 4 (by decide) (by decide) (by decide), t4]
        refine wq (fun _ _ kk => rs_ldc (pc := 52) dX5_closeClause_52 cnX5_90 kk) ?_
        refine wq_bn (fun _ _ kt kf => rs_icmp_ne (tgt := 62) (pc := 54) dX5_closeClause_54 rfl kt kf) (fun c_54 => ?_) (fun c_54 => ?_)
        · have g4 : ¬ k = 18 := fun z => c_54 (by rw [z]; rfl)
          refine wq (fun _ _ kk => rs_iconst (v := 0) (pc := 62) dX5_closeClause_62 rfl kk) ?_
          refine wq (fun _ _ kk => rs_putf (pc := 63) dX5_closeClause_63 fX5_32 (mo_lt hrd (by decide)) hrd.2.1 rfl (Nat.le_of_ble_eq_true rfl) kk) ?_
          refine wq_gen (fun h_5 e_5 => ?_)
          obtain ⟨m_5, s_5, g_5, o_5⟩ := ai_e1 e_5
          replace hrd := mo_si (k := 6) hrd m_5 g_5 o_5 rfl
          have E_5 := (E_44).trans (xd_of m_5 s_5 o_5 (by decide))
          obtain ⟨S_63, hrd, k_63, r_63, s_63⟩ := rd_new hrd
          replace k_63 : S_63.1 6 = nI (if k = 18 then 9 else 0) := k_63.trans (by rw [if_neg g4]; rfl)
          have hz0 : (if k = 18 then 9 else 0) = 0 ∨ (if k = 18 then 9 else 0) = 9 := by rw [if_neg g4]; decide
          have hz1 : ¬ ((if k = 18 then 9 else 0) = 1 ∨ (if k = 18 then 9 else 0) = 2) := by rw [if_neg g4]; decide
          have hz2 : ¬ (3 ≤ (if k = 18 then 9 else 0) ∧ (if k = 18 then 9 else 0) ≤ 8) := by rw [if_neg g4]; decide
          refine wq_ret ?_ (rs_vret (pc := 66) dX5_closeClause_66 rfl)
          have q : ∀ j, j ≠ 6 → j ≠ 11 → j ≠ 14 → j ≠ 16 → S_63.1 j = S.1 j := fun j a b c d => by rw [r_63 j a, v1 j c, w1 j b c d]
          refine ⟨rfl, E_5, _, hrd, q 1 (by decide) (by decide) (by decide) (by decide), ?_⟩
          unfold py_close
          show rd_x S_63 (if k ≠ 17 ∧ k ≠ 18 then _ else _)
          rw [if_neg (by omega)]
          refine rd_x_i (by rw [q 3 (by decide) (by decide) (by decide) (by decide)]; exact t3) ⟨⟨k_63, by rw [q 7 (by decide) (by decide) (by decide) (by decide)]; exact m7, ?_⟩, ⟨fun z => absurd z hz1, fun z => absurd z hz2⟩, ⟨by rw [q 10 (by decide) (by decide) (by decide) (by decide)]; exact m10, by rw [r_63 11 (by decide), v1 11 (by decide)]; exact h11_26, by rw [q 12 (by decide) (by decide) (by decide) (by decide)]; exact m12⟩, ?_, ?_⟩
          · rw [q 8 (by decide) (by decide) (by decide) (by decide), m8, List.length_append, if_neg (by omega), if_pos hz0]
            rfl
          · skip
            have hou : rd_out S_63 (stp D ++ (A ++ B).map tkN ++ (py_tk (py_tw 1 pl)).map tkN ++ [200011]) := ⟨by rw [r_63 14 (by decide)]; exact ho_44.1, by rw [s_63]; exact ho_44.2⟩
            by_cases h2 : st = 2
            · obtain rfl := py_B2 hI (Or.inr h2)
              rw [if_pos h2]
              rw [out_c2]
              exact hou
            · rw [if_neg h2]
              have hne : B ++ py_tk (py_tw 1 pl) ≠ [] := fun z => py_Bne hI (by omega) (List.append_eq_nil_iff.mp z).1
              rw [out_c7 _ _ _ _ hne]
              exact absurd (m9b (by omega)) (fun z => absurd (g3.symm.trans z) (by decide))
          · exact ⟨by rw [r_63 16 (by decide), v1 16 (by decide)]; exact hp_26.1, by rw [s_63, v3 15 (by decide)]; exact hp_26.2⟩
        · have g4 : k = 18 := kc_in hk19 (by decide) c_54
          refine wq (fun _ _ kk => rs_bipush (v := 9) (pc := 57) dX5_closeClause_57 rfl kk) ?_
          refine wq (fun _ _ kk => rs_goto (tgt := 63) (pc := 59) dX5_closeClause_59 rfl kk) ?_
          refine wq (fun _ _ kk => rs_putf (pc := 63) dX5_closeClause_63 fX5_32 (mo_lt hrd (by decide)) hrd.2.1 rfl (Nat.le_of_ble_eq_true rfl) kk) ?_
          refine wq_gen (fun h_6 e_6 => ?_)
          obtain ⟨m_6, s_6, g_6, o_6⟩ := ai_e1 e_6
          replace hrd := mo_si (k := 6) hrd m_6 g_6 o_6 rfl
          have E_6 := (E_44).trans (xd_of m_6 s_6 o_6 (by decide))
          obtain ⟨S_63, hrd, k_63, r_63, s_63⟩ := rd_new hrd
          replace k_63 : S_63.1 6 = nI (if k = 18 then 9 else 0) := k_63.trans (by rw [if_pos g4]; rfl)
          have hz0 : (if k = 18 then 9 else 0) = 0 ∨ (if k = 18 then 9 else 0) = 9 := by rw [if_pos g4]; decide
          have hz1 : ¬ ((if k = 18 then 9 else 0) = 1 ∨ (if k = 18 then 9 else 0) = 2) := by rw [if_pos g4]; decide
          have hz2 : ¬ (3 ≤ (if k = 18 then 9 else 0) ∧ (if k = 18 then 9 else 0) ≤ 8) := by rw [if_pos g4]; decide
          refine wq_ret ?_ (rs_vret (pc := 66) dX5_closeClause_66 rfl)
          have q : ∀ j, j ≠ 6 → j ≠ 11 → j ≠ 14 → j ≠ 16 → S_63.1 j = S.1 j := fun j a b c d => by rw [r_63 j a, v1 j c, w1 j b c d]
          refine ⟨rfl, E_6, _, hrd, q 1 (by decide) (by decide) (by decide) (by decide), ?_⟩
          unfold py_close
          show rd_x S_63 (if k ≠ 17 ∧ k ≠ 18 then _ else _)
          rw [if_neg (by omega)]
          refine rd_x_i (by rw [q 3 (by decide) (by decide) (by decide) (by decide)]; exact t3) ⟨⟨k_63, by rw [q 7 (by decide) (by decide) (by decide) (by decide)]; exact m7, ?_⟩, ⟨fun z => absurd z hz1, fun z => absurd z hz2⟩, ⟨by rw [q 10 (by decide) (by decide) (by decide) (by decide)]; exact m10, by rw [r_63 11 (by decide), v1 11 (by decide)]; exact h11_26, by rw [q 12 (by decide) (by decide) (by decide) (by decide)]; exact m12⟩, ?_, ?_⟩
          · rw [q 8 (by decide) (by decide) (by decide) (by decide), m8, List.length_append, if_neg (by omega), if_pos hz0]
            rfl
          · skip
            have hou : rd_out S_63 (stp D ++ (A ++ B).map tkN ++ (py_tk (py_tw 1 pl)).map tkN ++ [200011]) := ⟨by rw [r_63 14 (by decide)]; exact ho_44.1, by rw [s_63]; exact ho_44.2⟩
            by_cases h2 : st = 2
            · obtain rfl := py_B2 hI (Or.inr h2)
              rw [if_pos h2]
              rw [out_c2]
              exact hou
            · rw [if_neg h2]
              have hne : B ++ py_tk (py_tw 1 pl) ≠ [] := fun z => py_Bne hI (by omega) (List.append_eq_nil_iff.mp z).1
              rw [out_c7 _ _ _ _ hne]
              exact absurd (m9b (by omega)) (fun z => absurd (g3.symm.trans z) (by decide))
          · exact ⟨by rw [r_63 16 (by decide), v1 16 (by decide)]; exact hp_26.1, by rw [s_63, v3 15 (by decide)]; exact hp_26.2⟩
      · have g3 : ¬ S.1 9 = 0 := c_34
        refine wq (fun _ _ kk => rs_ldc (pc := 37) dX5_closeClause_37 cnX5_231 kk) ?_
        refine wq (fun _ _ kk => rs_goto (tgt := 44) (pc := 39) dX5_closeClause_39 rfl kk) ?_
        obtain ⟨rv_44, hc_44, ⟨rfl, ee_44, T_44, hrd_44, ho_44, v1, v2, v3⟩, hm_44⟩ := c_X5_step (x := 200012) hrd ho_26 (by rw [List.length_append, List.length_map, show (py_tk (py_tw 1 pl)).length = (py_tw 1 pl).length by unfold py_tk; rw [List.length_map]]; have := (List.takeWhile_prefix (fun k => decide (1 ≤ py_rk k)) (l := pl)).length_le; unfold py_tw; omega)
        refine wq (fun _ _ kk => rs_callV (as := [_]) (pc := 44) dX5_closeClause_44 mk_X5_step mlX5_209 in_X5_step se_X5_step rfl (mo_lt hrd (by decide)) hrd.2.1 rfl rfl (Nat.le_of_ble_eq_true rfl) (hm_44) kk) ?_
        replace hrd := hrd_44
        have E_44 := (E_26).trans ee_44
        refine wq (fun _ _ kk => rs_aload_n (pc := 47) dX5_closeClause_47 rfl kk) ?_
        refine wq (fun _ _ kk => rs_aload_n (pc := 48) dX5_closeClause_48 rfl kk) ?_
        refine wq (fun _ _ kk => rs_getf (pc := 49) dX5_closeClause_49 fX5_26 (mo_lt hrd (by decide)) hrd.2.1 rfl kk) ?_
        rw [v1 4 (by decide), w1 4 (by decide) (by decide) (by decide), t4]
        refine wq (fun _ _ kk => rs_ldc (pc := 52) dX5_closeClause_52 cnX5_90 kk) ?_
        refine wq_bn (fun _ _ kt kf => rs_icmp_ne (tgt := 62) (pc := 54) dX5_closeClause_54 rfl kt kf) (fun c_54 => ?_) (fun c_54 => ?_)
        · have g4 : ¬ k = 18 := fun z => c_54 (by rw [z]; rfl)
          refine wq (fun _ _ kk => rs_iconst (v := 0) (pc := 62) dX5_closeClause_62 rfl kk) ?_
          refine wq (fun _ _ kk => rs_putf (pc := 63) dX5_closeClause_63 fX5_32 (mo_lt hrd (by decide)) hrd.2.1 rfl (Nat.le_of_ble_eq_true rfl) kk) ?_
          refine wq_gen (fun h_7 e_7 => ?_)
          obtain ⟨m_7, s_7, g_7, o_7⟩ := ai_e1 e_7
          replace hrd := mo_si (k := 6) hrd m_7 g_7 o_7 rfl
          have E_7 := (E_44).trans (xd_of m_7 s_7 o_7 (by decide))
          obtain ⟨S_63, hrd, k_63, r_63, s_63⟩ := rd_new hrd
          replace k_63 : S_63.1 6 = nI (if k = 18 then 9 else 0) := k_63.trans (by rw [if_neg g4]; rfl)
          have hz0 : (if k = 18 then 9 else 0) = 0 ∨ (if k = 18 then 9 else 0) = 9 := by rw [if_neg g4]; decide
          have hz1 : ¬ ((if k = 18 then 9 else 0) = 1 ∨ (if k = 18 then 9 else 0) = 2) := by rw [if_neg g4]; decide
          have hz2 : ¬ (3 ≤ (if k = 18 then 9 else 0) ∧ (if k = 18 then 9 else 0) ≤ 8) := by rw [if_neg g4]; decide
          refine wq_ret ?_ (rs_vret (pc := 66) dX5_closeClause_66 rfl)
          have q : ∀ j, j ≠ 6 → j ≠ 11 → j ≠ 14 → j ≠ 16 → S_63.1 j = S.1 j := fun j a b c d => by rw [r_63 j a, v1 j c, w1 j b c d]
          refine ⟨rfl, E_7, _, hrd, q 1 (by decide) (by decide) (by decide) (by decide), ?_⟩
          unfold py_close
          show rd_x S_63 (if k ≠ 17 ∧ k ≠ 18 then _ else _)
          rw [if_neg (by omega)]
          refine rd_x_i (by rw [q 3 (by decide) (by decide) (by decide) (by decide)]; exact t3) ⟨⟨k_63, by rw [q 7 (by decide) (by decide) (by decide) (by decide)]; exact m7, ?_⟩, ⟨fun z => absurd z hz1, fun z => absurd z hz2⟩, ⟨by rw [q 10 (by decide) (by decide) (by decide) (by decide)]; exact m10, by rw [r_63 11 (by decide), v1 11 (by decide)]; exact h11_26, by rw [q 12 (by decide) (by decide) (by decide) (by decide)]; exact m12⟩, ?_, ?_⟩
          · rw [q 8 (by decide) (by decide) (by decide) (by decide), m8, List.length_append, if_neg (by omega), if_pos hz0]
            rfl
          · skip
            have hou : rd_out S_63 (stp D ++ (A ++ B).map tkN ++ (py_tk (py_tw 1 pl)).map tkN ++ [200012]) := ⟨by rw [r_63 14 (by decide)]; exact ho_44.1, by rw [s_63]; exact ho_44.2⟩
            by_cases h2 : st = 2
            · obtain rfl := py_B2 hI (Or.inr h2)
              rw [if_pos h2]
              rw [out_c2]
              exact absurd (m9a (Or.inr h2)) (fun z => g3 z)
            · rw [if_neg h2]
              have hne : B ++ py_tk (py_tw 1 pl) ≠ [] := fun z => py_Bne hI (by omega) (List.append_eq_nil_iff.mp z).1
              rw [out_c7 _ _ _ _ hne]
              exact hou
          · exact ⟨by rw [r_63 16 (by decide), v1 16 (by decide)]; exact hp_26.1, by rw [s_63, v3 15 (by decide)]; exact hp_26.2⟩
        · have g4 : k = 18 := kc_in hk19 (by decide) c_54
          refine wq (fun _ _ kk => rs_bipush (v := 9) (pc := 57) dX5_closeClause_57 rfl kk) ?_
          refine wq (fun _ _ kk => rs_goto (tgt := 63) (pc := 59) dX5_closeClause_59 rfl kk) ?_
          refine wq (fun _ _ kk => rs_putf (pc := 63) dX5_closeClause_63 fX5_32 (mo_lt hrd (by decide)) hrd.2.1 rfl (Nat.le_of_ble_eq_true rfl) kk) ?_
          refine wq_gen (fun h_8 e_8 => ?_)
          obtain ⟨m_8, s_8, g_8, o_8⟩ := ai_e1 e_8
          replace hrd := mo_si (k := 6) hrd m_8 g_8 o_8 rfl
          have E_8 := (E_44).trans (xd_of m_8 s_8 o_8 (by decide))
          obtain ⟨S_63, hrd, k_63, r_63, s_63⟩ := rd_new hrd
          replace k_63 : S_63.1 6 = nI (if k = 18 then 9 else 0) := k_63.trans (by rw [if_pos g4]; rfl)
          have hz0 : (if k = 18 then 9 else 0) = 0 ∨ (if k = 18 then 9 else 0) = 9 := by rw [if_pos g4]; decide
          have hz1 : ¬ ((if k = 18 then 9 else 0) = 1 ∨ (if k = 18 then 9 else 0) = 2) := by rw [if_pos g4]; decide
          have hz2 : ¬ (3 ≤ (if k = 18 then 9 else 0) ∧ (if k = 18 then 9 else 0) ≤ 8) := by rw [if_pos g4]; decide
          refine wq_ret ?_ (rs_vret (pc := 66) dX5_closeClause_66 rfl)
          have q : ∀ j, j ≠ 6 → j ≠ 11 → j ≠ 14 → j ≠ 16 → S_63.1 j = S.1 j := fun j a b c d => by rw [r_63 j a, v1 j c, w1 j b c d]
          refine ⟨rfl, E_8, _, hrd, q 1 (by decide) (by decide) (by decide) (by decide), ?_⟩
          unfold py_close
          show rd_x S_63 (if k ≠ 17 ∧ k ≠ 18 then _ else _)
          rw [if_neg (by omega)]
          refine rd_x_i (by rw [q 3 (by decide) (by decide) (by decide) (by decide)]; exact t3) ⟨⟨k_63, by rw [q 7 (by decide) (by decide) (by decide) (by decide)]; exact m7, ?_⟩, ⟨fun z => absurd z hz1, fun z => absurd z hz2⟩, ⟨by rw [q 10 (by decide) (by decide) (by decide) (by decide)]; exact m10, by rw [r_63 11 (by decide), v1 11 (by decide)]; exact h11_26, by rw [q 12 (by decide) (by decide) (by decide) (by decide)]; exact m12⟩, ?_, ?_⟩
          · rw [q 8 (by decide) (by decide) (by decide) (by decide), m8, List.length_append, if_neg (by omega), if_pos hz0]
            rfl
          · skip
            have hou : rd_out S_63 (stp D ++ (A ++ B).map tkN ++ (py_tk (py_tw 1 pl)).map tkN ++ [200012]) := ⟨by rw [r_63 14 (by decide)]; exact ho_44.1, by rw [s_63]; exact ho_44.2⟩
            by_cases h2 : st = 2
            · obtain rfl := py_B2 hI (Or.inr h2)
              rw [if_pos h2]
              rw [out_c2]
              exact absurd (m9a (Or.inr h2)) (fun z => g3 z)
            · rw [if_neg h2]
              have hne : B ++ py_tk (py_tw 1 pl) ≠ [] := fun z => py_Bne hI (by omega) (List.append_eq_nil_iff.mp z).1
              rw [out_c7 _ _ _ _ hne]
              exact hou
          · exact ⟨by rw [r_63 16 (by decide), v1 16 (by decide)]; exact hp_26.1, by rw [s_63, v3 15 (by decide)]; exact hp_26.2⟩
    · have g2 : ¬ k = 18 := fun z => c_15 (by rw [z]; rfl)
      refine wq (fun _ _ kk => rs_aload_n (pc := 18) dX5_closeClause_18 rfl kk) ?_
      refine wq (fun _ _ kk => rs_iconst (v := 0) (pc := 19) dX5_closeClause_19 rfl kk) ?_
      obtain ⟨rv_20, hc_20, ⟨rfl, ee_20, T_20, hrd_20, k_20, r_20, s_20⟩, hm_20⟩ := c_X5_fail (c := 0) hrd t2
      refine wq (fun _ _ kk => rs_callV (as := [_]) (pc := 20) dX5_closeClause_20 mk_X5_fail mlX5_205 in_X5_fail se_X5_fail rfl (mo_lt hrd (by decide)) hrd.2.1 rfl rfl (Nat.le_of_ble_eq_true rfl) (hm_20) kk) ?_
      replace hrd := hrd_20
      have hf : ∀ x : PS, rd_x T_20 (py_fail 0 a x) := fun x => rd_x_f k_20
      have hb : T_20.1 1 = S.1 1 := r_20 1 (by decide)
      have E_20 := (xd.rf).trans ee_20
      refine wq_ret ?_ (rs_vret (pc := 23) dX5_closeClause_23 rfl)
      refine ⟨rfl, E_20, _, hrd, hb, ?_⟩
      unfold py_close
      show rd_x T_20 (if k ≠ 17 ∧ k ≠ 18 then _ else _)
      rw [if_pos ⟨g1, g2⟩]
      exact hf _
theorem dX5_closeBracket_0 : decode cX5_closeBracket 0 = .ok (.aload_n 0, 1) := by decide +kernel
theorem dX5_closeBracket_1 : decode cX5_closeBracket 1 = .ok (.iconst 1, 1) := by decide +kernel
theorem dX5_closeBracket_2 : decode cX5_closeBracket 2 = .ok (.invokevirtual 219, 3) := by decide +kernel
theorem dX5_closeBracket_5 : decode cX5_closeBracket 5 = .ok (.aload_n 0, 1) := by decide +kernel
theorem dX5_closeBracket_6 : decode cX5_closeBracket 6 = .ok (.getfield 63, 3) := by decide +kernel
theorem dX5_closeBracket_9 : decode cX5_closeBracket 9 = .ok (.ifCond .le 13, 3) := by decide +kernel
theorem dX5_closeBracket_12 : decode cX5_closeBracket 12 = .ok (.aload_n 0, 1) := by decide +kernel
theorem dX5_closeBracket_13 : decode cX5_closeBracket 13 = .ok (.dup, 1) := by decide +kernel
theorem dX5_closeBracket_14 : decode cX5_closeBracket 14 = .ok (.getfield 63, 3) := by decide +kernel
theorem dX5_closeBracket_17 : decode cX5_closeBracket 17 = .ok (.iconst 1, 1) := by decide +kernel
theorem dX5_closeBracket_18 : decode cX5_closeBracket 18 = .ok (.isub, 1) := by decide +kernel
theorem dX5_closeBracket_19 : decode cX5_closeBracket 19 = .ok (.putfield 63, 3) := by decide +kernel
theorem dX5_closeBracket_22 : decode cX5_closeBracket 22 = .ok (.aload_n 0, 1) := by decide +kernel
theorem dX5_closeBracket_23 : decode cX5_closeBracket 23 = .ok (.dup, 1) := by decide +kernel
theorem dX5_closeBracket_24 : decode cX5_closeBracket 24 = .ok (.getfield 48, 3) := by decide +kernel
theorem dX5_closeBracket_27 : decode cX5_closeBracket 27 = .ok (.iconst 1, 1) := by decide +kernel
theorem dX5_closeBracket_28 : decode cX5_closeBracket 28 = .ok (.isub, 1) := by decide +kernel
theorem dX5_closeBracket_29 : decode cX5_closeBracket 29 = .ok (.putfield 48, 3) := by decide +kernel
theorem dX5_closeBracket_32 : decode cX5_closeBracket 32 = .ok (.aload_n 0, 1) := by decide +kernel
theorem dX5_closeBracket_33 : decode cX5_closeBracket 33 = .ok (.dup, 1) := by decide +kernel
theorem dX5_closeBracket_34 : decode cX5_closeBracket 34 = .ok (.getfield 51, 3) := by decide +kernel
theorem dX5_closeBracket_37 : decode cX5_closeBracket 37 = .ok (.iconst 1, 1) := by decide +kernel
theorem dX5_closeBracket_38 : decode cX5_closeBracket 38 = .ok (.isub, 1) := by decide +kernel
theorem dX5_closeBracket_39 : decode cX5_closeBracket 39 = .ok (.putfield 51, 3) := by decide +kernel
theorem dX5_closeBracket_42 : decode cX5_closeBracket 42 = .ok (.aload_n 0, 1) := by decide +kernel
theorem dX5_closeBracket_43 : decode cX5_closeBracket 43 = .ok (.bipush 8, 2) := by decide +kernel
theorem dX5_closeBracket_45 : decode cX5_closeBracket 45 = .ok (.putfield 32, 3) := by decide +kernel
theorem dX5_closeBracket_48 : decode cX5_closeBracket 48 = .ok (.return_, 1) := by decide +kernel
set_option maxRecDepth 100000 in
set_option maxHeartbeats 4000000 in
theorem c_X5_closeBracket {h : ai_H} {S : Md} {n st p pa de br k v a e : Nat} {D : List Cl} {A B : List Tk} {pl : List Nat} (hrd : rd_at 13 h S) (hm : rd_m S st pa de br D A B pl) (ht : rd_tk S n k v a e) (hI : py_I n st p pa de br D A B pl) (hpa : p ≤ a) (hst : st = 7 ∨ st = 8) (hbr : br ≠ 0) : ai_QM MX5_closeBracket [.ref 16] h (fun r g => r = none ∧ xd h g ∧ ∃ T, rd_at 13 g T ∧ T.1 1 = S.1 1 ∧ rd_x T (8, e, 0, pa, de - py_nt (py_tw 1 pl) - 1, br - 1, D, A, B ++ py_tk (py_tw 1 pl), (py_dw 1 pl).tail)) := by
  obtain ⟨t2, t3, t4, t5, hk19, han, hae, hen, hv0, hv1, hn4⟩ := ht
  obtain ⟨⟨m6, m7, m8⟩, ⟨m9a, m9b⟩, ⟨m10, m11, m12⟩, mo, mp⟩ := id hm
  obtain ⟨z1, z2, z3, z4, z5, z6⟩ := rd_room hn4 hI
  obtain ⟨m, hm12⟩ := py_dw1b pl (by have := hI.2.2.1.2.2.1; omega)
  have hde1 : 1 ≤ de - py_nt (py_tw 1 pl) := by
    have h1 := (py_cnt (r := 1) (by decide) pl).2.1
    have h2 : py_dp (12 :: m) = py_dp m + 1 := by unfold py_dp; rw [List.countP_cons]; rfl
    rw [hm12, h2] at h1
    have := hI.2.2.1.1
    omega
  have hdl : (py_dw 1 pl).length ≤ 35 := Nat.le_trans (List.dropWhile_suffix _).length_le z1
  refine qm_of (ls := [.ref 16]) (by decide) (by simp [ai_en, Value.category]) (by rfl) ?_
  refine wq (fun _ _ kk => rs_aload_n (pc := 0) dX5_closeBracket_0 rfl kk) ?_
  refine wq (fun _ _ kk => rs_iconst (v := 1) (pc := 1) dX5_closeBracket_1 rfl kk) ?_
  obtain ⟨rv_2, hc_2, ⟨rfl, ee_2, T_2, hrd_2, ho_2, hp_2, h11_2, w1, w2, w3⟩, hm_2⟩ := c_X5_settle (r0 := 1) (by decide) (py_va hI) (by omega) (by omega) (by have := py_nt_le (r := 1) (pl := pl) (by decide); have := hI.2.2.1.1; omega) (by omega) hrd mo mp m11
  refine wq (fun _ _ kk => rs_callV (as := [_]) (pc := 2) dX5_closeBracket_2 mk_X5_settle mlX5_219 in_X5_settle se_X5_settle rfl (mo_lt hrd (by decide)) hrd.2.1 rfl rfl (Nat.le_of_ble_eq_true rfl) (hm_2) kk) ?_
  replace hrd := hrd_2
  rw [kc_tw (by decide) (py_va hI)] at ho_2
  have E_2 := (xd.rf).trans ee_2
  refine wq (fun _ _ kk => rs_aload_n (pc := 5) dX5_closeBracket_5 rfl kk) ?_
  refine wq (fun _ _ kk => rs_getf (pc := 6) dX5_closeBracket_6 fX5_63 (mo_lt hrd (by decide)) hrd.2.1 rfl kk) ?_
  rw [hp_2.1]
  refine wq_br (fun _ _ kt kf => rs_if_le (tgt := 22) (pc := 9) dX5_closeBracket_9 rfl kt kf) (fun c_9 => absurd c_9 (nI_nle (n := (py_dw 1 pl).length) (by rw [hm12, List.length_cons]; omega) (by omega))) (fun c_9 => ?_)
  refine wq (fun _ _ kk => rs_aload_n (pc := 12) dX5_closeBracket_12 rfl kk) ?_
  refine wq (fun _ _ kk => rs_dup (pc := 13) dX5_closeBracket_13 rfl kk) ?_
  refine wq (fun _ _ kk => rs_getf (pc := 14) dX5_closeBracket_14 fX5_63 (mo_lt hrd (by decide)) hrd.2.1 rfl kk) ?_
  rw [hp_2.1]
  refine wq (fun _ _ kk => rs_iconst (v := 1) (pc := 17) dX5_closeBracket_17 rfl kk) ?_
  refine wq (fun _ _ kk => rs_isub (pc := 18) dX5_closeBracket_18 kk) ?_
  rw [hm12, show nI (12 :: m).length - 1 = nI m.length from nI_pred m.length]
  refine wq (fun _ _ kk => rs_putf (pc := 19) dX5_closeBracket_19 fX5_63 (mo_lt hrd (by decide)) hrd.2.1 rfl (Nat.le_of_ble_eq_true rfl) kk) ?_
  refine wq_gen (fun h_1 e_1 => ?_)
  obtain ⟨m_1, s_1, g_1, o_1⟩ := ai_e1 e_1
  replace hrd := mo_si (k := 16) hrd m_1 g_1 o_1 rfl
  have E_1 := (E_2).trans (xd_of m_1 s_1 o_1 (by decide))
  obtain ⟨S_19, hrd, k_19, r_19, s_19⟩ := rd_new hrd
  refine wq (fun _ _ kk => rs_aload_n (pc := 22) dX5_closeBracket_22 rfl kk) ?_
  refine wq (fun _ _ kk => rs_dup (pc := 23) dX5_closeBracket_23 rfl kk) ?_
  refine wq (fun _ _ kk => rs_getf (pc := 24) dX5_closeBracket_24 fX5_48 (mo_lt hrd (by decide)) hrd.2.1 rfl kk) ?_
  rw [r_19 11 (by decide), h11_2]
  refine wq (fun _ _ kk => rs_iconst (v := 1) (pc := 27) dX5_closeBracket_27 rfl kk) ?_
  refine wq (fun _ _ kk => rs_isub (pc := 28) dX5_closeBracket_28 kk) ?_
  rw [show nI (de - py_nt (py_tw 1 pl)) - 1 = nI (de - py_nt (py_tw 1 pl) - 1) from nI_sub (b := 1) hde1]
  refine wq (fun _ _ kk => rs_putf (pc := 29) dX5_closeBracket_29 fX5_48 (mo_lt hrd (by decide)) hrd.2.1 rfl (Nat.le_of_ble_eq_true rfl) kk) ?_
  refine wq_gen (fun h_2 e_2 => ?_)
  obtain ⟨m_2, s_2, g_2, o_2⟩ := ai_e1 e_2
  replace hrd := mo_si (k := 11) hrd m_2 g_2 o_2 rfl
  have E_2 := (E_1).trans (xd_of m_2 s_2 o_2 (by decide))
  obtain ⟨S_29, hrd, k_29, r_29, s_29⟩ := rd_new hrd
  refine wq (fun _ _ kk => rs_aload_n (pc := 32) dX5_closeBracket_32 rfl kk) ?_
  refine wq (fun _ _ kk => rs_dup (pc := 33) dX5_closeBracket_33 rfl kk) ?_
  refine wq (fun _ _ kk => rs_getf (pc := 34) dX5_closeBracket_34 fX5_51 (mo_lt hrd (by decide)) hrd.2.1 rfl kk) ?_
  rw [r_29 12 (by decide), r_19 12 (by decide), w1 12 (by decide) (by decide) (by decide), m12]
  refine wq (fun _ _ kk => rs_iconst (v := 1) (pc := 37) dX5_closeBracket_37 rfl kk) ?_
  refine wq (fun _ _ kk => rs_isub (pc := 38) dX5_closeBracket_38 kk) ?_
  rw [show nI br - 1 = nI (br - 1) from nI_sub (b := 1) (by omega)]
  refine wq (fun _ _ kk => rs_putf (pc := 39) dX5_closeBracket_39 fX5_51 (mo_lt hrd (by decide)) hrd.2.1 rfl (Nat.le_of_ble_eq_true rfl) kk) ?_
  refine wq_gen (fun h_3 e_3 => ?_)
  obtain ⟨m_3, s_3, g_3, o_3⟩ := ai_e1 e_3
  replace hrd := mo_si (k := 12) hrd m_3 g_3 o_3 rfl
  have E_3 := (E_2).trans (xd_of m_3 s_3 o_3 (by decide))
  obtain ⟨S_39, hrd, k_39, r_39, s_39⟩ := rd_new hrd
  refine wq (fun _ _ kk => rs_aload_n (pc := 42) dX5_closeBracket_42 rfl kk) ?_
  refine wq (fun _ _ kk => rs_bipush (v := 8) (pc := 43) dX5_closeBracket_43 rfl kk) ?_
  refine wq (fun _ _ kk => rs_putf (pc := 45) dX5_closeBracket_45 fX5_32 (mo_lt hrd (by decide)) hrd.2.1 rfl (Nat.le_of_ble_eq_true rfl) kk) ?_
  refine wq_gen (fun h_4 e_4 => ?_)
  obtain ⟨m_4, s_4, g_4, o_4⟩ := ai_e1 e_4
  replace hrd := mo_si (k := 6) hrd m_4 g_4 o_4 rfl
  have E_4 := (E_3).trans (xd_of m_4 s_4 o_4 (by decide))
  obtain ⟨S_45, hrd, k_45, r_45, s_45⟩ := rd_new hrd
  refine wq_ret ?_ (rs_vret (pc := 48) dX5_closeBracket_48 rfl)
  have q : ∀ j, j ≠ 6 → j ≠ 11 → j ≠ 12 → j ≠ 14 → j ≠ 16 → S_45.1 j = S.1 j := fun j a b c d e => by rw [r_45 j a, r_39 j c, r_29 j b, r_19 j e, w1 j b d e]
  refine ⟨rfl, E_4, _, hrd, q 1 (by decide) (by decide) (by decide) (by decide) (by decide), ?_⟩
  refine rd_x_i (by rw [q 3 (by decide) (by decide) (by decide) (by decide) (by decide)]; exact t3) ⟨⟨k_45, by rw [q 7 (by decide) (by decide) (by decide) (by decide) (by decide)]; exact m7, ?_⟩, ⟨fun z => absurd z (by decide), fun _ => by rw [q 9 (by decide) (by decide) (by decide) (by decide) (by decide)]; exact m9b (by omega)⟩, ⟨by rw [q 10 (by decide) (by decide) (by decide) (by decide) (by decide)]; exact m10, by rw [r_45 11 (by decide), r_39 11 (by decide)]; exact k_29, by rw [r_45 12 (by decide)]; exact k_39⟩, ?_, ?_⟩
  · rw [q 8 (by decide) (by decide) (by decide) (by decide) (by decide), m8, if_neg (by omega), if_neg (by decide)]
  · rw [out_B]
    exact ⟨by rw [r_45 14 (by decide), r_39 14 (by decide), r_29 14 (by decide), r_19 14 (by decide)]; exact ho_2.1, by rw [s_45, s_39, s_29, s_19]; exact ho_2.2⟩
  · refine ⟨by rw [r_45 16 (by decide), r_39 16 (by decide), r_29 16 (by decide)]; exact k_19, ?_⟩
    rw [s_45, s_39, s_29, s_19]
    rw [hm12] at hp_2
    exact hp_2.2.2
theorem dX5_openClause_0 : decode cX5_openClause 0 = .ok (.aload_n 0, 1) := by decide +kernel
theorem dX5_openClause_1 : decode cX5_openClause 1 = .ok (.getfield 26, 3) := by decide +kernel
theorem dX5_openClause_4 : decode cX5_openClause 4 = .ok (.ldc 122, 2) := by decide +kernel
theorem dX5_openClause_6 : decode cX5_openClause 6 = .ok (.if_icmp .eq 11, 3) := by decide +kernel
theorem dX5_openClause_9 : decode cX5_openClause 9 = .ok (.aload_n 0, 1) := by decide +kernel
theorem dX5_openClause_10 : decode cX5_openClause 10 = .ok (.iconst 0, 1) := by decide +kernel
theorem dX5_openClause_11 : decode cX5_openClause 11 = .ok (.invokevirtual 205, 3) := by decide +kernel
theorem dX5_openClause_14 : decode cX5_openClause 14 = .ok (.goto 40, 3) := by decide +kernel
theorem dX5_openClause_17 : decode cX5_openClause 17 = .ok (.aload_n 0, 1) := by decide +kernel
theorem dX5_openClause_18 : decode cX5_openClause 18 = .ok (.getfield 38, 3) := by decide +kernel
theorem dX5_openClause_21 : decode cX5_openClause 21 = .ok (.bipush 12, 2) := by decide +kernel
theorem dX5_openClause_23 : decode cX5_openClause 23 = .ok (.if_icmp .ne 11, 3) := by decide +kernel
theorem dX5_openClause_26 : decode cX5_openClause 26 = .ok (.aload_n 0, 1) := by decide +kernel
theorem dX5_openClause_27 : decode cX5_openClause 27 = .ok (.iconst 4, 1) := by decide +kernel
theorem dX5_openClause_28 : decode cX5_openClause 28 = .ok (.invokevirtual 205, 3) := by decide +kernel
theorem dX5_openClause_31 : decode cX5_openClause 31 = .ok (.goto 23, 3) := by decide +kernel
theorem dX5_openClause_34 : decode cX5_openClause 34 = .ok (.aload_n 0, 1) := by decide +kernel
theorem dX5_openClause_35 : decode cX5_openClause 35 = .ok (.dup, 1) := by decide +kernel
theorem dX5_openClause_36 : decode cX5_openClause 36 = .ok (.getfield 38, 3) := by decide +kernel
theorem dX5_openClause_39 : decode cX5_openClause 39 = .ok (.iconst 1, 1) := by decide +kernel
theorem dX5_openClause_40 : decode cX5_openClause 40 = .ok (.iadd, 1) := by decide +kernel
theorem dX5_openClause_41 : decode cX5_openClause 41 = .ok (.putfield 38, 3) := by decide +kernel
theorem dX5_openClause_44 : decode cX5_openClause 44 = .ok (.aload_n 0, 1) := by decide +kernel
theorem dX5_openClause_45 : decode cX5_openClause 45 = .ok (.iconst 0, 1) := by decide +kernel
theorem dX5_openClause_46 : decode cX5_openClause 46 = .ok (.putfield 41, 3) := by decide +kernel
theorem dX5_openClause_49 : decode cX5_openClause 49 = .ok (.aload_n 0, 1) := by decide +kernel
theorem dX5_openClause_50 : decode cX5_openClause 50 = .ok (.iconst 1, 1) := by decide +kernel
theorem dX5_openClause_51 : decode cX5_openClause 51 = .ok (.putfield 32, 3) := by decide +kernel
theorem dX5_openClause_54 : decode cX5_openClause 54 = .ok (.return_, 1) := by decide +kernel
set_option maxRecDepth 100000 in
set_option maxHeartbeats 4000000 in
theorem c_X5_openClause {h : ai_H} {S : Md} {n p pa de br k v a e : Nat} {D : List Cl} {A B : List Tk} {pl : List Nat} (hrd : rd_at 13 h S) (hm : rd_m S 0 pa de br D A B pl) (ht : rd_tk S n k v a e) (hI : py_I n 0 p pa de br D A B pl) (hpa : p ≤ a) : ai_QM MX5_openClause [.ref 16] h (fun r g => r = none ∧ xd h g ∧ ∃ T, rd_at 13 g T ∧ T.1 1 = S.1 1 ∧ rd_x T (py_step1 k v a e (0, p, 0, pa, de, br, D, A, B, pl))) := by
  obtain ⟨t2, t3, t4, t5, hk19, han, hae, hen, hv0, hv1, hn4⟩ := ht
  obtain ⟨⟨m6, m7, m8⟩, ⟨m9a, m9b⟩, ⟨m10, m11, m12⟩, mo, mp⟩ := id hm
  obtain ⟨z1, z2, z3, z4, z5, z6⟩ := rd_room hn4 hI
  replace m8 : S.1 8 = nI D.length := m8
  refine qm_of (ls := [.ref 16]) (by decide) (by simp [ai_en, Value.category]) (by rfl) ?_
  refine wq (fun _ _ kk => rs_aload_n (pc := 0) dX5_openClause_0 rfl kk) ?_
  refine wq (fun _ _ kk => rs_getf (pc := 1) dX5_openClause_1 fX5_26 (mo_lt hrd (by decide)) hrd.2.1 rfl kk) ?_
  rw [t4]
  refine wq (fun _ _ kk => rs_ldc (pc := 4) dX5_openClause_4 cnX5_122 kk) ?_
  refine wq_br (fun _ _ kt kf => rs_icmp_eq (tgt := 17) (pc := 6) dX5_openClause_6 rfl kt kf) (fun c_6 => ?_) (fun c_6 => ?_)
  · have g1 : k = 14 := kc_in hk19 (by decide) c_6
    refine wq (fun _ _ kk => rs_aload_n (pc := 17) dX5_openClause_17 rfl kk) ?_
    refine wq (fun _ _ kk => rs_getf (pc := 18) dX5_openClause_18 fX5_38 (mo_lt hrd (by decide)) hrd.2.1 rfl kk) ?_
    rw [m8]
    refine wq (fun _ _ kk => rs_bipush (v := 12) (pc := 21) dX5_openClause_21 rfl kk) ?_
    refine wq_bn (fun _ _ kt kf => rs_icmp_ne (tgt := 34) (pc := 23) dX5_openClause_23 rfl kt kf) (fun c_23 => ?_) (fun c_23 => ?_)
    · have g2 : ¬ D.length = 12 := fun z => c_23 (by rw [z]; rfl)
      refine wq (fun _ _ kk => rs_aload_n (pc := 34) dX5_openClause_34 rfl kk) ?_
      refine wq (fun _ _ kk => rs_dup (pc := 35) dX5_openClause_35 rfl kk) ?_
      refine wq (fun _ _ kk => rs_getf (pc := 36) dX5_openClause_36 fX5_38 (mo_lt hrd (by decide)) hrd.2.1 rfl kk) ?_
      rw [m8]
      refine wq (fun _ _ kk => rs_iconst (v := 1) (pc := 39) dX5_openClause_39 rfl kk) ?_
      refine wq (fun _ _ kk => rs_iadd (pc := 40) dX5_openClause_40 kk) ?_
      refine wq (fun _ _ kk => rs_putf (pc := 41) dX5_openClause_41 fX5_38 (mo_lt hrd (by decide)) hrd.2.1 rfl (Nat.le_of_ble_eq_true rfl) kk) ?_
      refine wq_gen (fun h_1 e_1 => ?_)
      obtain ⟨m_1, s_1, g_1, o_1⟩ := ai_e1 e_1
      replace hrd := mo_si (k := 8) hrd m_1 g_1 o_1 rfl
      have E_1 := (xd.rf).trans (xd_of m_1 s_1 o_1 (by decide))
      obtain ⟨S_41, hrd, k_41, r_41, s_41⟩ := rd_new hrd
      refine wq (fun _ _ kk => rs_aload_n (pc := 44) dX5_openClause_44 rfl kk) ?_
      refine wq (fun _ _ kk => rs_iconst (v := 0) (pc := 45) dX5_openClause_45 rfl kk) ?_
      refine wq (fun _ _ kk => rs_putf (pc := 46) dX5_openClause_46 fX5_41 (mo_lt hrd (by decide)) hrd.2.1 rfl (Nat.le_of_ble_eq_true rfl) kk) ?_
      refine wq_gen (fun h_2 e_2 => ?_)
      obtain ⟨m_2, s_2, g_2, o_2⟩ := ai_e1 e_2
      replace hrd := mo_si (k := 9) hrd m_2 g_2 o_2 rfl
      have E_2 := (E_1).trans (xd_of m_2 s_2 o_2 (by decide))
      obtain ⟨S_46, hrd, k_46, r_46, s_46⟩ := rd_new hrd
      refine wq (fun _ _ kk => rs_aload_n (pc := 49) dX5_openClause_49 rfl kk) ?_
      refine wq (fun _ _ kk => rs_iconst (v := 1) (pc := 50) dX5_openClause_50 rfl kk) ?_
      refine wq (fun _ _ kk => rs_putf (pc := 51) dX5_openClause_51 fX5_32 (mo_lt hrd (by decide)) hrd.2.1 rfl (Nat.le_of_ble_eq_true rfl) kk) ?_
      refine wq_gen (fun h_3 e_3 => ?_)
      obtain ⟨m_3, s_3, g_3, o_3⟩ := ai_e1 e_3
      replace hrd := mo_si (k := 6) hrd m_3 g_3 o_3 rfl
      have E_3 := (E_2).trans (xd_of m_3 s_3 o_3 (by decide))
      obtain ⟨S_51, hrd, k_51, r_51, s_51⟩ := rd_new hrd
      refine wq_ret ?_ (rs_vret (pc := 54) dX5_openClause_54 rfl)
      refine ⟨rfl, E_3, _, hrd, by rw [r_51 1 (by decide), r_46 1 (by decide), r_41 1 (by decide)], ?_⟩
      show rd_x _ (if k ≠ 14 then _ else _)
      rw [if_neg (fun z => z g1), if_neg g2]
      have q : ∀ j, j ≠ 6 → j ≠ 8 → j ≠ 9 → S_51.1 j = S.1 j := fun j a b c => by rw [r_51 j a, r_46 j c, r_41 j b]
      refine rd_x_i (by rw [q 3 (by decide) (by decide) (by decide)]; exact t3) ⟨⟨k_51, by rw [q 7 (by decide) (by decide) (by decide)]; exact m7, ?_⟩, ⟨fun _ => by rw [r_51 9 (by decide)]; exact k_46, fun z => absurd z (by decide)⟩, ⟨by rw [q 10 (by decide) (by decide) (by decide)]; exact m10, by rw [q 11 (by decide) (by decide) (by decide)]; exact m11, by rw [q 12 (by decide) (by decide) (by decide)]; exact m12⟩, ⟨by rw [q 14 (by decide) (by decide) (by decide)]; exact mo.1, by rw [s_51, s_46, s_41]; exact mo.2⟩, by rw [q 16 (by decide) (by decide) (by decide)]; exact mp.1, by rw [s_51, s_46, s_41]; exact mp.2⟩
      rw [r_51 8 (by decide), r_46 8 (by decide), k_41]
      exact nI_1 D.length
    · have g2 : D.length = 12 := tx_eq1 (a := D.length) (b := 12) (by omega) (by decide) rfl c_23
      refine wq (fun _ _ kk => rs_aload_n (pc := 26) dX5_openClause_26 rfl kk) ?_
      refine wq (fun _ _ kk => rs_iconst (v := 4) (pc := 27) dX5_openClause_27 rfl kk) ?_
      obtain ⟨rv_28, hc_28, ⟨rfl, ee_28, T_28, hrd_28, k_28, r_28, s_28⟩, hm_28⟩ := c_X5_fail (c := 4) hrd t2
      refine wq (fun _ _ kk => rs_callV (as := [_]) (pc := 28) dX5_openClause_28 mk_X5_fail mlX5_205 in_X5_fail se_X5_fail rfl (mo_lt hrd (by decide)) hrd.2.1 rfl rfl (Nat.le_of_ble_eq_true rfl) (hm_28) kk) ?_
      replace hrd := hrd_28
      have hf : ∀ x : PS, rd_x T_28 (py_fail 4 a x) := fun x => rd_x_f k_28
      have hb : T_28.1 1 = S.1 1 := r_28 1 (by decide)
      have E_28 := (xd.rf).trans ee_28
      refine wq (fun _ _ kk => rs_goto (tgt := 54) (pc := 31) dX5_openClause_31 rfl kk) ?_
      refine wq_ret ?_ (rs_vret (pc := 54) dX5_openClause_54 rfl)
      refine ⟨rfl, E_28, _, hrd, hb, ?_⟩
      show rd_x _ (if k ≠ 14 then _ else _)
      rw [if_neg (fun z => z g1), if_pos g2]
      exact hf _
  · have g1 : ¬ k = 14 := fun z => c_6 (by rw [z]; rfl)
    refine wq (fun _ _ kk => rs_aload_n (pc := 9) dX5_openClause_9 rfl kk) ?_
    refine wq (fun _ _ kk => rs_iconst (v := 0) (pc := 10) dX5_openClause_10 rfl kk) ?_
    obtain ⟨rv_11, hc_11, ⟨rfl, ee_11, T_11, hrd_11, k_11, r_11, s_11⟩, hm_11⟩ := c_X5_fail (c := 0) hrd t2
    refine wq (fun _ _ kk => rs_callV (as := [_]) (pc := 11) dX5_openClause_11 mk_X5_fail mlX5_205 in_X5_fail se_X5_fail rfl (mo_lt hrd (by decide)) hrd.2.1 rfl rfl (Nat.le_of_ble_eq_true rfl) (hm_11) kk) ?_
    replace hrd := hrd_11
    have hf : ∀ x : PS, rd_x T_11 (py_fail 0 a x) := fun x => rd_x_f k_11
    have hb : T_11.1 1 = S.1 1 := r_11 1 (by decide)
    have E_11 := (xd.rf).trans ee_11
    refine wq (fun _ _ kk => rs_goto (tgt := 54) (pc := 14) dX5_openClause_14 rfl kk) ?_
    refine wq_ret ?_ (rs_vret (pc := 54) dX5_openClause_54 rfl)
    refine ⟨rfl, E_11, _, hrd, hb, ?_⟩
    show rd_x _ (if k ≠ 14 then _ else _)
    rw [if_pos g1]
    exact hf _
theorem dX5_followValue_0 : decode cX5_followValue 0 = .ok (.aload_n 0, 1) := by decide +kernel
theorem dX5_followValue_1 : decode cX5_followValue 1 = .ok (.invokevirtual 212, 3) := by decide +kernel
theorem dX5_followValue_4 : decode cX5_followValue 4 = .ok (.ifCond .eq 11, 3) := by decide +kernel
theorem dX5_followValue_7 : decode cX5_followValue 7 = .ok (.aload_n 0, 1) := by decide +kernel
theorem dX5_followValue_8 : decode cX5_followValue 8 = .ok (.iconst 1, 1) := by decide +kernel
theorem dX5_followValue_9 : decode cX5_followValue 9 = .ok (.invokevirtual 216, 3) := by decide +kernel
theorem dX5_followValue_12 : decode cX5_followValue 12 = .ok (.goto 34, 3) := by decide +kernel
theorem dX5_followValue_15 : decode cX5_followValue 15 = .ok (.aload_n 0, 1) := by decide +kernel
theorem dX5_followValue_16 : decode cX5_followValue 16 = .ok (.getfield 26, 3) := by decide +kernel
theorem dX5_followValue_19 : decode cX5_followValue 19 = .ok (.ldc 125, 2) := by decide +kernel
theorem dX5_followValue_21 : decode cX5_followValue 21 = .ok (.if_icmp .ne 21, 3) := by decide +kernel
theorem dX5_followValue_24 : decode cX5_followValue 24 = .ok (.aload_n 0, 1) := by decide +kernel
theorem dX5_followValue_25 : decode cX5_followValue 25 = .ok (.iconst 1, 1) := by decide +kernel
theorem dX5_followValue_26 : decode cX5_followValue 26 = .ok (.invokevirtual 219, 3) := by decide +kernel
theorem dX5_followValue_29 : decode cX5_followValue 29 = .ok (.aload_n 0, 1) := by decide +kernel
theorem dX5_followValue_30 : decode cX5_followValue 30 = .ok (.iconst 1, 1) := by decide +kernel
theorem dX5_followValue_31 : decode cX5_followValue 31 = .ok (.putfield 41, 3) := by decide +kernel
theorem dX5_followValue_34 : decode cX5_followValue 34 = .ok (.aload_n 0, 1) := by decide +kernel
theorem dX5_followValue_35 : decode cX5_followValue 35 = .ok (.iconst 3, 1) := by decide +kernel
theorem dX5_followValue_36 : decode cX5_followValue 36 = .ok (.putfield 32, 3) := by decide +kernel
theorem dX5_followValue_39 : decode cX5_followValue 39 = .ok (.goto 7, 3) := by decide +kernel
theorem dX5_followValue_42 : decode cX5_followValue 42 = .ok (.aload_n 0, 1) := by decide +kernel
theorem dX5_followValue_43 : decode cX5_followValue 43 = .ok (.invokevirtual 222, 3) := by decide +kernel
theorem dX5_followValue_46 : decode cX5_followValue 46 = .ok (.return_, 1) := by decide +kernel
set_option maxRecDepth 100000 in
set_option maxHeartbeats 4000000 in
theorem c_X5_followValue {h : ai_H} {S : Md} {n p pa de br k v a e : Nat} {D : List Cl} {A B : List Tk} {pl : List Nat} (hrd : rd_at 13 h S) (hm : rd_m S 2 pa de br D A B pl) (ht : rd_tk S n k v a e) (hI : py_I n 2 p pa de br D A B pl) (hpa : p ≤ a) : ai_QM MX5_followValue [.ref 16] h (fun r g => r = none ∧ xd h g ∧ ∃ T, rd_at 13 g T ∧ T.1 1 = S.1 1 ∧ rd_x T (py_step1 k v a e (2, p, 0, pa, de, br, D, A, B, pl))) := by
  obtain ⟨t2, t3, t4, t5, hk19, han, hae, hen, hv0, hv1, hn4⟩ := id ht
  obtain ⟨⟨m6, m7, m8⟩, ⟨m9a, m9b⟩, ⟨m10, m11, m12⟩, mo, mp⟩ := id hm
  obtain ⟨z1, z2, z3, z4, z5, z6⟩ := rd_room hn4 hI
  refine qm_of (ls := [.ref 16]) (by decide) (by simp [ai_en, Value.category]) (by rfl) ?_
  refine wq (fun _ _ kk => rs_aload_n (pc := 0) dX5_followValue_0 rfl kk) ?_
  refine wq (fun _ _ kk => rs_callV (as := []) (pc := 1) dX5_followValue_1 mk_X5_isArithmetic mlX5_212 in_X5_isArithmetic se_X5_isArithmetic rfl (mo_lt hrd (by decide)) hrd.2.1 rfl rfl (Nat.le_of_ble_eq_true rfl) (c_X5_isArithmetic hrd t4 hk19) kk) ?_
  refine wq_br (fun _ _ kt kf => rs_if_eq (tgt := 15) (pc := 4) dX5_followValue_4 rfl kt kf) (fun c_4 => ?_) (fun c_4 => ?_)
  · have g1 : ¬ (k = 2 ∨ k = 3 ∨ k = 13) := fun z => absurd c_4 (by rw [if_pos z]; decide)
    refine wq (fun _ _ kk => rs_aload_n (pc := 15) dX5_followValue_15 rfl kk) ?_
    refine wq (fun _ _ kk => rs_getf (pc := 16) dX5_followValue_16 fX5_26 (mo_lt hrd (by decide)) hrd.2.1 rfl kk) ?_
    rw [t4]
    refine wq (fun _ _ kk => rs_ldc (pc := 19) dX5_followValue_19 cnX5_125 kk) ?_
    refine wq_bn (fun _ _ kt kf => rs_icmp_ne (tgt := 42) (pc := 21) dX5_followValue_21 rfl kt kf) (fun c_21 => ?_) (fun c_21 => ?_)
    · have g2 : ¬ k = 15 := fun z => c_21 (by rw [z]; rfl)
      refine wq (fun _ _ kk => rs_aload_n (pc := 42) dX5_followValue_42 rfl kk) ?_
      obtain ⟨rv_43, hc_43, ⟨rfl, ee_43, T_43, hrd_43, hb, hres⟩, hm_43⟩ := c_X5_closeClause hrd hm ht hI hpa (Or.inl rfl)
      refine wq (fun _ _ kk => rs_callV (as := []) (pc := 43) dX5_followValue_43 mk_X5_closeClause mlX5_222 in_X5_closeClause se_X5_closeClause rfl (mo_lt hrd (by decide)) hrd.2.1 rfl rfl (Nat.le_of_ble_eq_true rfl) (hm_43) kk) ?_
      replace hrd := hrd_43
      have E_43 := (xd.rf).trans ee_43
      refine wq_ret ?_ (rs_vret (pc := 46) dX5_followValue_46 rfl)
      refine ⟨rfl, E_43, _, hrd, hb, ?_⟩
      show rd_x _ (if k = 2 ∨ k = 3 ∨ k = 13 then _ else _)
      rw [if_neg g1, if_neg g2]
      exact hres
    · have g2 : k = 15 := kc_in hk19 (by decide) c_21
      refine wq (fun _ _ kk => rs_aload_n (pc := 24) dX5_followValue_24 rfl kk) ?_
      refine wq (fun _ _ kk => rs_iconst (v := 1) (pc := 25) dX5_followValue_25 rfl kk) ?_
      obtain ⟨rv_26, hc_26, ⟨rfl, ee_26, T_26, hrd_26, ho_26, hp_26, h11_26, w1, w2, w3⟩, hm_26⟩ := c_X5_settle (r0 := 1) (by decide) (py_va hI) (by omega) (by omega) (by have := py_nt_le (r := 1) (pl := pl) (by decide); have := hI.2.2.1.1; omega) (by omega) hrd mo mp m11
      refine wq (fun _ _ kk => rs_callV (as := [_]) (pc := 26) dX5_followValue_26 mk_X5_settle mlX5_219 in_X5_settle se_X5_settle rfl (mo_lt hrd (by decide)) hrd.2.1 rfl rfl (Nat.le_of_ble_eq_true rfl) (hm_26) kk) ?_
      replace hrd := hrd_26
      rw [kc_tw (by decide) (py_va hI)] at ho_26
      have E_26 := (xd.rf).trans ee_26
      refine wq (fun _ _ kk => rs_aload_n (pc := 29) dX5_followValue_29 rfl kk) ?_
      refine wq (fun _ _ kk => rs_iconst (v := 1) (pc := 30) dX5_followValue_30 rfl kk) ?_
      refine wq (fun _ _ kk => rs_putf (pc := 31) dX5_followValue_31 fX5_41 (mo_lt hrd (by decide)) hrd.2.1 rfl (Nat.le_of_ble_eq_true rfl) kk) ?_
      refine wq_gen (fun h_1 e_1 => ?_)
      obtain ⟨m_1, s_1, g_1, o_1⟩ := ai_e1 e_1
      replace hrd := mo_si (k := 9) hrd m_1 g_1 o_1 rfl
      have E_1 := (E_26).trans (xd_of m_1 s_1 o_1 (by decide))
      obtain ⟨S_31, hrd, k_31, r_31, s_31⟩ := rd_new hrd
      refine wq (fun _ _ kk => rs_aload_n (pc := 34) dX5_followValue_34 rfl kk) ?_
      refine wq (fun _ _ kk => rs_iconst (v := 3) (pc := 35) dX5_followValue_35 rfl kk) ?_
      refine wq (fun _ _ kk => rs_putf (pc := 36) dX5_followValue_36 fX5_32 (mo_lt hrd (by decide)) hrd.2.1 rfl (Nat.le_of_ble_eq_true rfl) kk) ?_
      refine wq_gen (fun h_2 e_2 => ?_)
      obtain ⟨m_2, s_2, g_2, o_2⟩ := ai_e1 e_2
      replace hrd := mo_si (k := 6) hrd m_2 g_2 o_2 rfl
      have E_2 := (E_1).trans (xd_of m_2 s_2 o_2 (by decide))
      obtain ⟨S_36, hrd, k_36, r_36, s_36⟩ := rd_new hrd
      refine wq (fun _ _ kk => rs_goto (tgt := 46) (pc := 39) dX5_followValue_39 rfl kk) ?_
      refine wq_ret ?_ (rs_vret (pc := 46) dX5_followValue_46 rfl)
      refine ⟨rfl, E_2, _, hrd, by rw [r_36 1 (by decide), r_31 1 (by decide), w1 1 (by decide) (by decide) (by decide)], ?_⟩
      show rd_x _ (if k = 2 ∨ k = 3 ∨ k = 13 then _ else _)
      rw [if_neg g1, if_pos g2]
      have q : ∀ j, j ≠ 6 → j ≠ 9 → j ≠ 11 → j ≠ 14 → j ≠ 16 → S_36.1 j = S.1 j := fun j a b c d e => by rw [r_36 j a, r_31 j b, w1 j c d e]
      obtain rfl := py_B2 hI (Or.inr rfl)
      refine rd_x_i (by rw [q 3 (by decide) (by decide) (by decide) (by decide) (by decide)]; exact t3) ⟨⟨k_36, by rw [q 7 (by decide) (by decide) (by decide) (by decide) (by decide)]; exact m7, by rw [q 8 (by decide) (by decide) (by decide) (by decide) (by decide)]; exact m8⟩, ⟨fun z => absurd z (by decide), fun _ => by rw [r_36 9 (by decide)]; exact k_31⟩, ⟨by rw [q 10 (by decide) (by decide) (by decide) (by decide) (by decide)]; exact m10, by rw [r_36 11 (by decide), r_31 11 (by decide)]; exact h11_26, by rw [q 12 (by decide) (by decide) (by decide) (by decide) (by decide)]; exact m12⟩, ?_, by rw [r_36 16 (by decide), r_31 16 (by decide)]; exact hp_26.1, by rw [s_36, s_31]; exact hp_26.2⟩
      rw [out_A]
      exact ⟨by rw [r_36 14 (by decide), r_31 14 (by decide)]; exact ho_26.1, by rw [s_36, s_31]; exact ho_26.2⟩
  · have g1 : k = 2 ∨ k = 3 ∨ k = 13 := Classical.byContradiction fun z => c_4 (if_neg z)
    have g1r := py_rk_ar (py_ar_i g1)
    refine wq (fun _ _ kk => rs_aload_n (pc := 7) dX5_followValue_7 rfl kk) ?_
    refine wq (fun _ _ kk => rs_iconst (v := 1) (pc := 8) dX5_followValue_8 rfl kk) ?_
    obtain ⟨rv_9, hc_9, ⟨rfl, ee_9, T_9, hrd_9, hb, hres⟩, hm_9⟩ := c_X5_join (s := 1) hrd hm ht hI hpa (Or.inl ⟨rfl, rfl⟩) (by omega) (by omega) (py_va hI) (fun _ => py_B2 hI (Or.inr rfl))
    refine wq (fun _ _ kk => rs_callV (as := [_]) (pc := 9) dX5_followValue_9 mk_X5_join mlX5_216 in_X5_join se_X5_join rfl (mo_lt hrd (by decide)) hrd.2.1 rfl rfl (Nat.le_of_ble_eq_true rfl) (hm_9) kk) ?_
    replace hrd := hrd_9
    have E_9 := (xd.rf).trans ee_9
    refine wq (fun _ _ kk => rs_goto (tgt := 46) (pc := 12) dX5_followValue_12 rfl kk) ?_
    refine wq_ret ?_ (rs_vret (pc := 46) dX5_followValue_46 rfl)
    refine ⟨rfl, E_9, _, hrd, hb, ?_⟩
    show rd_x _ (if k = 2 ∨ k = 3 ∨ k = 13 then _ else _)
    rw [if_pos g1]
    exact hres
theorem nI_sub0 (a : Nat) : nI a + 0 = nI a := Int32.add_zero _
theorem dX5_openFact_0 : decode cX5_openFact 0 = .ok (.aload_n 0, 1) := by decide +kernel
theorem dX5_openFact_1 : decode cX5_openFact 1 = .ok (.getfield 26, 3) := by decide +kernel
theorem dX5_openFact_4 : decode cX5_openFact 4 = .ok (.ldc 134, 2) := by decide +kernel
theorem dX5_openFact_6 : decode cX5_openFact 6 = .ok (.if_icmp .eq 20, 3) := by decide +kernel
theorem dX5_openFact_9 : decode cX5_openFact 9 = .ok (.aload_n 0, 1) := by decide +kernel
theorem dX5_openFact_10 : decode cX5_openFact 10 = .ok (.getfield 26, 3) := by decide +kernel
theorem dX5_openFact_13 : decode cX5_openFact 13 = .ok (.ldc 175, 2) := by decide +kernel
theorem dX5_openFact_15 : decode cX5_openFact 15 = .ok (.if_icmp .eq 11, 3) := by decide +kernel
theorem dX5_openFact_18 : decode cX5_openFact 18 = .ok (.aload_n 0, 1) := by decide +kernel
theorem dX5_openFact_19 : decode cX5_openFact 19 = .ok (.iconst 5, 1) := by decide +kernel
theorem dX5_openFact_20 : decode cX5_openFact 20 = .ok (.invokevirtual 186, 3) := by decide +kernel
theorem dX5_openFact_23 : decode cX5_openFact 23 = .ok (.goto 61, 3) := by decide +kernel
theorem dX5_openFact_26 : decode cX5_openFact 26 = .ok (.aload_n 0, 1) := by decide +kernel
theorem dX5_openFact_27 : decode cX5_openFact 27 = .ok (.getfield 48, 3) := by decide +kernel
theorem dX5_openFact_30 : decode cX5_openFact 30 = .ok (.bipush 10, 2) := by decide +kernel
theorem dX5_openFact_32 : decode cX5_openFact 32 = .ok (.if_icmp .ne 11, 3) := by decide +kernel
theorem dX5_openFact_35 : decode cX5_openFact 35 = .ok (.aload_n 0, 1) := by decide +kernel
theorem dX5_openFact_36 : decode cX5_openFact 36 = .ok (.iconst 2, 1) := by decide +kernel
theorem dX5_openFact_37 : decode cX5_openFact 37 = .ok (.invokevirtual 205, 3) := by decide +kernel
theorem dX5_openFact_40 : decode cX5_openFact 40 = .ok (.goto 44, 3) := by decide +kernel
theorem dX5_openFact_43 : decode cX5_openFact 43 = .ok (.aload_n 0, 1) := by decide +kernel
theorem dX5_openFact_44 : decode cX5_openFact 44 = .ok (.dup, 1) := by decide +kernel
theorem dX5_openFact_45 : decode cX5_openFact 45 = .ok (.getfield 48, 3) := by decide +kernel
theorem dX5_openFact_48 : decode cX5_openFact 48 = .ok (.iconst 1, 1) := by decide +kernel
theorem dX5_openFact_49 : decode cX5_openFact 49 = .ok (.iadd, 1) := by decide +kernel
theorem dX5_openFact_50 : decode cX5_openFact 50 = .ok (.putfield 48, 3) := by decide +kernel
theorem dX5_openFact_53 : decode cX5_openFact 53 = .ok (.aload_n 0, 1) := by decide +kernel
theorem dX5_openFact_54 : decode cX5_openFact 54 = .ok (.dup, 1) := by decide +kernel
theorem dX5_openFact_55 : decode cX5_openFact 55 = .ok (.getfield 51, 3) := by decide +kernel
theorem dX5_openFact_58 : decode cX5_openFact 58 = .ok (.aload_n 0, 1) := by decide +kernel
theorem dX5_openFact_59 : decode cX5_openFact 59 = .ok (.getfield 26, 3) := by decide +kernel
theorem dX5_openFact_62 : decode cX5_openFact 62 = .ok (.ldc 175, 2) := by decide +kernel
theorem dX5_openFact_64 : decode cX5_openFact 64 = .ok (.if_icmp .ne 7, 3) := by decide +kernel
theorem dX5_openFact_67 : decode cX5_openFact 67 = .ok (.iconst 1, 1) := by decide +kernel
theorem dX5_openFact_68 : decode cX5_openFact 68 = .ok (.goto 4, 3) := by decide +kernel
theorem dX5_openFact_71 : decode cX5_openFact 71 = .ok (.iconst 0, 1) := by decide +kernel
theorem dX5_openFact_72 : decode cX5_openFact 72 = .ok (.iadd, 1) := by decide +kernel
theorem dX5_openFact_73 : decode cX5_openFact 73 = .ok (.putfield 51, 3) := by decide +kernel
theorem dX5_openFact_76 : decode cX5_openFact 76 = .ok (.aload_n 0, 1) := by decide +kernel
theorem dX5_openFact_77 : decode cX5_openFact 77 = .ok (.aload_n 0, 1) := by decide +kernel
theorem dX5_openFact_78 : decode cX5_openFact 78 = .ok (.getfield 26, 3) := by decide +kernel
theorem dX5_openFact_81 : decode cX5_openFact 81 = .ok (.invokevirtual 225, 3) := by decide +kernel
theorem dX5_openFact_84 : decode cX5_openFact 84 = .ok (.return_, 1) := by decide +kernel
set_option maxRecDepth 100000 in
set_option maxHeartbeats 4000000 in
theorem c_X5_openFact {h : ai_H} {S : Md} {n p pa de br k v a e : Nat} {D : List Cl} {A B : List Tk} {pl : List Nat} (hrd : rd_at 13 h S) (hm : rd_m S 3 pa de br D A B pl) (ht : rd_tk S n k v a e) (hI : py_I n 3 p pa de br D A B pl) (hpa : p ≤ a) : ai_QM MX5_openFact [.ref 16] h (fun r g => r = none ∧ xd h g ∧ ∃ T, rd_at 13 g T ∧ T.1 1 = S.1 1 ∧ rd_x T (py_step1 k v a e (3, p, 0, pa, de, br, D, A, B, pl))) := by
  obtain ⟨t2, t3, t4, t5, hk19, han, hae, hen, hv0, hv1, hn4⟩ := id ht
  obtain ⟨⟨m6, m7, m8⟩, ⟨m9a, m9b⟩, ⟨m10, m11, m12⟩, mo, mp⟩ := id hm
  obtain ⟨z1, z2, z3, z4, z5, z6⟩ := rd_room hn4 hI
  refine qm_of (ls := [.ref 16]) (by decide) (by simp [ai_en, Value.category]) (by rfl) ?_
  refine wq (fun _ _ kk => rs_aload_n (pc := 0) dX5_openFact_0 rfl kk) ?_
  refine wq (fun _ _ kk => rs_getf (pc := 1) dX5_openFact_1 fX5_26 (mo_lt hrd (by decide)) hrd.2.1 rfl kk) ?_
  rw [t4]
  refine wq (fun _ _ kk => rs_ldc (pc := 4) dX5_openFact_4 cnX5_134 kk) ?_
  refine wq_br (fun _ _ kt kf => rs_icmp_eq (tgt := 26) (pc := 6) dX5_openFact_6 rfl kt kf) (fun c_6 => ?_) (fun c_6 => ?_)
  · have g1 : k = 9 := kc_in hk19 (by decide) c_6
    refine wq (fun _ _ kk => rs_aload_n (pc := 26) dX5_openFact_26 rfl kk) ?_
    refine wq (fun _ _ kk => rs_getf (pc := 27) dX5_openFact_27 fX5_48 (mo_lt hrd (by decide)) hrd.2.1 rfl kk) ?_
    rw [m11]
    refine wq (fun _ _ kk => rs_bipush (v := 10) (pc := 30) dX5_openFact_30 rfl kk) ?_
    refine wq_bn (fun _ _ kt kf => rs_icmp_ne (tgt := 43) (pc := 32) dX5_openFact_32 rfl kt kf) (fun c_32 => ?_) (fun c_32 => ?_)
    · have g3 : ¬ de = 10 := fun z => c_32 (by rw [z]; rfl)
      refine wq (fun _ _ kk => rs_aload_n (pc := 43) dX5_openFact_43 rfl kk) ?_
      refine wq (fun _ _ kk => rs_dup (pc := 44) dX5_openFact_44 rfl kk) ?_
      refine wq (fun _ _ kk => rs_getf (pc := 45) dX5_openFact_45 fX5_48 (mo_lt hrd (by decide)) hrd.2.1 rfl kk) ?_
      rw [m11]
      refine wq (fun _ _ kk => rs_iconst (v := 1) (pc := 48) dX5_openFact_48 rfl kk) ?_
      refine wq (fun _ _ kk => rs_iadd (pc := 49) dX5_openFact_49 kk) ?_
      refine wq (fun _ _ kk => rs_putf (pc := 50) dX5_openFact_50 fX5_48 (mo_lt hrd (by decide)) hrd.2.1 rfl (Nat.le_of_ble_eq_true rfl) kk) ?_
      refine wq_gen (fun h_1 e_1 => ?_)
      obtain ⟨m_1, s_1, g_1, o_1⟩ := ai_e1 e_1
      replace hrd := mo_si (k := 11) hrd m_1 g_1 o_1 rfl
      have E_1 := (xd.rf).trans (xd_of m_1 s_1 o_1 (by decide))
      obtain ⟨S_50, hrd, k_50, r_50, s_50⟩ := rd_new hrd
      refine wq (fun _ _ kk => rs_aload_n (pc := 53) dX5_openFact_53 rfl kk) ?_
      refine wq (fun _ _ kk => rs_dup (pc := 54) dX5_openFact_54 rfl kk) ?_
      refine wq (fun _ _ kk => rs_getf (pc := 55) dX5_openFact_55 fX5_51 (mo_lt hrd (by decide)) hrd.2.1 rfl kk) ?_
      rw [r_50 12 (by decide), m12]
      refine wq (fun _ _ kk => rs_aload_n (pc := 58) dX5_openFact_58 rfl kk) ?_
      refine wq (fun _ _ kk => rs_getf (pc := 59) dX5_openFact_59 fX5_26 (mo_lt hrd (by decide)) hrd.2.1 rfl kk) ?_
      rw [r_50 4 (by decide), t4]
      refine wq (fun _ _ kk => rs_ldc (pc := 62) dX5_openFact_62 cnX5_175 kk) ?_
      refine wq_bn (fun _ _ kt kf => rs_icmp_ne (tgt := 71) (pc := 64) dX5_openFact_64 rfl kt kf) (fun c_64 => ?_) (fun c_64 => ?_)
      · have g4 : ¬ k = 12 := fun z => c_64 (by rw [z]; rfl)
        refine wq (fun _ _ kk => rs_iconst (v := 0) (pc := 71) dX5_openFact_71 rfl kk) ?_
        refine wq (fun _ _ kk => rs_iadd (pc := 72) dX5_openFact_72 kk) ?_
        refine wq (fun _ _ kk => rs_putf (pc := 73) dX5_openFact_73 fX5_51 (mo_lt hrd (by decide)) hrd.2.1 rfl (Nat.le_of_ble_eq_true rfl) kk) ?_
        refine wq_gen (fun h_2 e_2 => ?_)
        obtain ⟨m_2, s_2, g_2, o_2⟩ := ai_e1 e_2
        replace hrd := mo_si (k := 12) hrd m_2 g_2 o_2 rfl
        have E_2 := (E_1).trans (xd_of m_2 s_2 o_2 (by decide))
        obtain ⟨S_73, hrd, k_73, r_73, s_73⟩ := rd_new hrd
        refine wq (fun _ _ kk => rs_aload_n (pc := 76) dX5_openFact_76 rfl kk) ?_
        refine wq (fun _ _ kk => rs_aload_n (pc := 77) dX5_openFact_77 rfl kk) ?_
        refine wq (fun _ _ kk => rs_getf (pc := 78) dX5_openFact_78 fX5_26 (mo_lt hrd (by decide)) hrd.2.1 rfl kk) ?_
        rw [r_73 4 (by decide), r_50 4 (by decide), t4]
        obtain ⟨rv_81, hc_81, ⟨rfl, ee_81, T_81, hrd_81, hp_81, v1, v2, v3⟩, hm_81⟩ := c_X5_putBy (k := k) hrd (pl := pl) ⟨by rw [r_73 16 (by decide), r_50 16 (by decide)]; exact mp.1, by rw [s_73, s_50]; exact mp.2⟩ (by omega)
        refine wq (fun _ _ kk => rs_callV (as := [_]) (pc := 81) dX5_openFact_81 mk_X5_putBy mlX5_225 in_X5_putBy se_X5_putBy rfl (mo_lt hrd (by decide)) hrd.2.1 rfl rfl (Nat.le_of_ble_eq_true rfl) (hm_81) kk) ?_
        replace hrd := hrd_81
        have E_81 := (E_2).trans ee_81
        refine wq_ret ?_ (rs_vret (pc := 84) dX5_openFact_84 rfl)
        have q : ∀ j, j ≠ 11 → j ≠ 12 → j ≠ 16 → T_81.1 j = S.1 j := fun j a b c => by rw [v1 j c, r_73 j b, r_50 j a]
        refine ⟨rfl, E_81, _, hrd, q 1 (by decide) (by decide) (by decide), ?_⟩
        show rd_x _ (if k ≠ 9 ∧ k ≠ 12 then _ else _)
        rw [if_neg (by omega), if_neg g3]
        exact rd_x_i (by rw [q 3 (by decide) (by decide) (by decide)]; exact t3) ⟨⟨by rw [q 6 (by decide) (by decide) (by decide)]; exact m6, by rw [q 7 (by decide) (by decide) (by decide)]; exact m7, by rw [q 8 (by decide) (by decide) (by decide)]; exact m8⟩, ⟨fun z => absurd z (by decide), fun _ => by rw [q 9 (by decide) (by decide) (by decide)]; exact m9b (by decide)⟩, ⟨by rw [q 10 (by decide) (by decide) (by decide)]; exact m10, by rw [v1 11 (by decide), r_73 11 (by decide), k_50]; exact nI_1 de, by rw [v1 12 (by decide), k_73]; exact by rw [if_neg g4]; exact nI_sub0 br⟩, ⟨by rw [q 14 (by decide) (by decide) (by decide)]; exact mo.1, by rw [v3 13 (by decide), s_73, s_50]; exact mo.2⟩, hp_81⟩
      · have g4 : k = 12 := kc_in hk19 (by decide) c_64
        refine wq (fun _ _ kk => rs_iconst (v := 1) (pc := 67) dX5_openFact_67 rfl kk) ?_
        refine wq (fun _ _ kk => rs_goto (tgt := 72) (pc := 68) dX5_openFact_68 rfl kk) ?_
        refine wq (fun _ _ kk => rs_iadd (pc := 72) dX5_openFact_72 kk) ?_
        refine wq (fun _ _ kk => rs_putf (pc := 73) dX5_openFact_73 fX5_51 (mo_lt hrd (by decide)) hrd.2.1 rfl (Nat.le_of_ble_eq_true rfl) kk) ?_
        refine wq_gen (fun h_3 e_3 => ?_)
        obtain ⟨m_3, s_3, g_3, o_3⟩ := ai_e1 e_3
        replace hrd := mo_si (k := 12) hrd m_3 g_3 o_3 rfl
        have E_3 := (E_1).trans (xd_of m_3 s_3 o_3 (by decide))
        obtain ⟨S_73, hrd, k_73, r_73, s_73⟩ := rd_new hrd
        refine wq (fun _ _ kk => rs_aload_n (pc := 76) dX5_openFact_76 rfl kk) ?_
        refine wq (fun _ _ kk => rs_aload_n (pc := 77) dX5_openFact_77 rfl kk) ?_
        refine wq (fun _ _ kk => rs_getf (pc := 78) dX5_openFact_78 fX5_26 (mo_lt hrd (by decide)) hrd.2.1 rfl kk) ?_
        rw [r_73 4 (by decide), r_50 4 (by decide), t4]
        obtain ⟨rv_81, hc_81, ⟨rfl, ee_81, T_81, hrd_81, hp_81, v1, v2, v3⟩, hm_81⟩ := c_X5_putBy (k := k) hrd (pl := pl) ⟨by rw [r_73 16 (by decide), r_50 16 (by decide)]; exact mp.1, by rw [s_73, s_50]; exact mp.2⟩ (by omega)
        refine wq (fun _ _ kk => rs_callV (as := [_]) (pc := 81) dX5_openFact_81 mk_X5_putBy mlX5_225 in_X5_putBy se_X5_putBy rfl (mo_lt hrd (by decide)) hrd.2.1 rfl rfl (Nat.le_of_ble_eq_true rfl) (hm_81) kk) ?_
        replace hrd := hrd_81
        have E_81 := (E_3).trans ee_81
        refine wq_ret ?_ (rs_vret (pc := 84) dX5_openFact_84 rfl)
        have q : ∀ j, j ≠ 11 → j ≠ 12 → j ≠ 16 → T_81.1 j = S.1 j := fun j a b c => by rw [v1 j c, r_73 j b, r_50 j a]
        refine ⟨rfl, E_81, _, hrd, q 1 (by decide) (by decide) (by decide), ?_⟩
        show rd_x _ (if k ≠ 9 ∧ k ≠ 12 then _ else _)
        rw [if_neg (by omega), if_neg g3]
        exact rd_x_i (by rw [q 3 (by decide) (by decide) (by decide)]; exact t3) ⟨⟨by rw [q 6 (by decide) (by decide) (by decide)]; exact m6, by rw [q 7 (by decide) (by decide) (by decide)]; exact m7, by rw [q 8 (by decide) (by decide) (by decide)]; exact m8⟩, ⟨fun z => absurd z (by decide), fun _ => by rw [q 9 (by decide) (by decide) (by decide)]; exact m9b (by decide)⟩, ⟨by rw [q 10 (by decide) (by decide) (by decide)]; exact m10, by rw [v1 11 (by decide), r_73 11 (by decide), k_50]; exact nI_1 de, by rw [v1 12 (by decide), k_73]; exact by rw [if_pos g4]; exact nI_1 br⟩, ⟨by rw [q 14 (by decide) (by decide) (by decide)]; exact mo.1, by rw [v3 13 (by decide), s_73, s_50]; exact mo.2⟩, hp_81⟩
    · have g3 : de = 10 := tx_eq1 (b := 10) (by omega) (by decide) rfl c_32
      refine wq (fun _ _ kk => rs_aload_n (pc := 35) dX5_openFact_35 rfl kk) ?_
      refine wq (fun _ _ kk => rs_iconst (v := 2) (pc := 36) dX5_openFact_36 rfl kk) ?_
      obtain ⟨rv_37, hc_37, ⟨rfl, ee_37, T_37, hrd_37, k_37, r_37, s_37⟩, hm_37⟩ := c_X5_fail (c := 2) hrd t2
      refine wq (fun _ _ kk => rs_callV (as := [_]) (pc := 37) dX5_openFact_37 mk_X5_fail mlX5_205 in_X5_fail se_X5_fail rfl (mo_lt hrd (by decide)) hrd.2.1 rfl rfl (Nat.le_of_ble_eq_true rfl) (hm_37) kk) ?_
      replace hrd := hrd_37
      have hf : ∀ x : PS, rd_x T_37 (py_fail 2 a x) := fun x => rd_x_f k_37
      have hb : T_37.1 1 = S.1 1 := r_37 1 (by decide)
      have E_37 := (xd.rf).trans ee_37
      refine wq (fun _ _ kk => rs_goto (tgt := 84) (pc := 40) dX5_openFact_40 rfl kk) ?_
      refine wq_ret ?_ (rs_vret (pc := 84) dX5_openFact_84 rfl)
      refine ⟨rfl, E_37, _, hrd, hb, ?_⟩
      show rd_x _ (if k ≠ 9 ∧ k ≠ 12 then _ else _)
      rw [if_neg (by omega), if_pos g3]
      exact hf _
  · have g1 : ¬ k = 9 := fun z => c_6 (by rw [z]; rfl)
    refine wq (fun _ _ kk => rs_aload_n (pc := 9) dX5_openFact_9 rfl kk) ?_
    refine wq (fun _ _ kk => rs_getf (pc := 10) dX5_openFact_10 fX5_26 (mo_lt hrd (by decide)) hrd.2.1 rfl kk) ?_
    rw [t4]
    refine wq (fun _ _ kk => rs_ldc (pc := 13) dX5_openFact_13 cnX5_175 kk) ?_
    refine wq_br (fun _ _ kt kf => rs_icmp_eq (tgt := 26) (pc := 15) dX5_openFact_15 rfl kt kf) (fun c_15 => ?_) (fun c_15 => ?_)
    · have g2 : k = 12 := kc_in hk19 (by decide) c_15
      refine wq (fun _ _ kk => rs_aload_n (pc := 26) dX5_openFact_26 rfl kk) ?_
      refine wq (fun _ _ kk => rs_getf (pc := 27) dX5_openFact_27 fX5_48 (mo_lt hrd (by decide)) hrd.2.1 rfl kk) ?_
      rw [m11]
      refine wq (fun _ _ kk => rs_bipush (v := 10) (pc := 30) dX5_openFact_30 rfl kk) ?_
      refine wq_bn (fun _ _ kt kf => rs_icmp_ne (tgt := 43) (pc := 32) dX5_openFact_32 rfl kt kf) (fun c_32 => ?_) (fun c_32 => ?_)
      · have g3 : ¬ de = 10 := fun z => c_32 (by rw [z]; rfl)
        refine wq (fun _ _ kk => rs_aload_n (pc := 43) dX5_openFact_43 rfl kk) ?_
        refine wq (fun _ _ kk => rs_dup (pc := 44) dX5_openFact_44 rfl kk) ?_
        refine wq (fun _ _ kk => rs_getf (pc := 45) dX5_openFact_45 fX5_48 (mo_lt hrd (by decide)) hrd.2.1 rfl kk) ?_
        rw [m11]
        refine wq (fun _ _ kk => rs_iconst (v := 1) (pc := 48) dX5_openFact_48 rfl kk) ?_
        refine wq (fun _ _ kk => rs_iadd (pc := 49) dX5_openFact_49 kk) ?_
        refine wq (fun _ _ kk => rs_putf (pc := 50) dX5_openFact_50 fX5_48 (mo_lt hrd (by decide)) hrd.2.1 rfl (Nat.le_of_ble_eq_true rfl) kk) ?_
        refine wq_gen (fun h_4 e_4 => ?_)
        obtain ⟨m_4, s_4, g_4, o_4⟩ := ai_e1 e_4
        replace hrd := mo_si (k := 11) hrd m_4 g_4 o_4 rfl
        have E_4 := (xd.rf).trans (xd_of m_4 s_4 o_4 (by decide))
        obtain ⟨S_50, hrd, k_50, r_50, s_50⟩ := rd_new hrd
        refine wq (fun _ _ kk => rs_aload_n (pc := 53) dX5_openFact_53 rfl kk) ?_
        refine wq (fun _ _ kk => rs_dup (pc := 54) dX5_openFact_54 rfl kk) ?_
        refine wq (fun _ _ kk => rs_getf (pc := 55) dX5_openFact_55 fX5_51 (mo_lt hrd (by decide)) hrd.2.1 rfl kk) ?_
        rw [r_50 12 (by decide), m12]
        refine wq (fun _ _ kk => rs_aload_n (pc := 58) dX5_openFact_58 rfl kk) ?_
        refine wq (fun _ _ kk => rs_getf (pc := 59) dX5_openFact_59 fX5_26 (mo_lt hrd (by decide)) hrd.2.1 rfl kk) ?_
        rw [r_50 4 (by decide), t4]
        refine wq (fun _ _ kk => rs_ldc (pc := 62) dX5_openFact_62 cnX5_175 kk) ?_
        refine wq_bn (fun _ _ kt kf => rs_icmp_ne (tgt := 71) (pc := 64) dX5_openFact_64 rfl kt kf) (fun c_64 => ?_) (fun c_64 => ?_)
        · have g4 : ¬ k = 12 := fun z => c_64 (by rw [z]; rfl)
          refine wq (fun _ _ kk => rs_iconst (v := 0) (pc := 71) dX5_openFact_71 rfl kk) ?_
          refine wq (fun _ _ kk => rs_iadd (pc := 72) dX5_openFact_72 kk) ?_
          refine wq (fun _ _ kk => rs_putf (pc := 73) dX5_openFact_73 fX5_51 (mo_lt hrd (by decide)) hrd.2.1 rfl (Nat.le_of_ble_eq_true rfl) kk) ?_
          refine wq_gen (fun h_5 e_5 => ?_)
          obtain ⟨m_5, s_5, g_5, o_5⟩ := ai_e1 e_5
          replace hrd := mo_si (k := 12) hrd m_5 g_5 o_5 rfl
          have E_5 := (E_4).trans (xd_of m_5 s_5 o_5 (by decide))
          obtain ⟨S_73, hrd, k_73, r_73, s_73⟩ := rd_new hrd
          refine wq (fun _ _ kk => rs_aload_n (pc := 76) dX5_openFact_76 rfl kk) ?_
          refine wq (fun _ _ kk => rs_aload_n (pc := 77) dX5_openFact_77 rfl kk) ?_
          refine wq (fun _ _ kk => rs_getf (pc := 78) dX5_openFact_78 fX5_26 (mo_lt hrd (by decide)) hrd.2.1 rfl kk) ?_
          rw [r_73 4 (by decide), r_50 4 (by decide), t4]
          obtain ⟨rv_81, hc_81, ⟨rfl, ee_81, T_81, hrd_81, hp_81, v1, v2, v3⟩, hm_81⟩ := c_X5_putBy (k := k) hrd (pl := pl) ⟨by rw [r_73 16 (by decide), r_50 16 (by decide)]; exact mp.1, by rw [s_73, s_50]; exact mp.2⟩ (by omega)
          refine wq (fun _ _ kk => rs_callV (as := [_]) (pc := 81) dX5_openFact_81 mk_X5_putBy mlX5_225 in_X5_putBy se_X5_putBy rfl (mo_lt hrd (by decide)) hrd.2.1 rfl rfl (Nat.le_of_ble_eq_true rfl) (hm_81) kk) ?_
          replace hrd := hrd_81
          have E_81 := (E_5).trans ee_81
          refine wq_ret ?_ (rs_vret (pc := 84) dX5_openFact_84 rfl)
          have q : ∀ j, j ≠ 11 → j ≠ 12 → j ≠ 16 → T_81.1 j = S.1 j := fun j a b c => by rw [v1 j c, r_73 j b, r_50 j a]
          refine ⟨rfl, E_81, _, hrd, q 1 (by decide) (by decide) (by decide), ?_⟩
          show rd_x _ (if k ≠ 9 ∧ k ≠ 12 then _ else _)
          rw [if_neg (by omega), if_neg g3]
          exact rd_x_i (by rw [q 3 (by decide) (by decide) (by decide)]; exact t3) ⟨⟨by rw [q 6 (by decide) (by decide) (by decide)]; exact m6, by rw [q 7 (by decide) (by decide) (by decide)]; exact m7, by rw [q 8 (by decide) (by decide) (by decide)]; exact m8⟩, ⟨fun z => absurd z (by decide), fun _ => by rw [q 9 (by decide) (by decide) (by decide)]; exact m9b (by decide)⟩, ⟨by rw [q 10 (by decide) (by decide) (by decide)]; exact m10, by rw [v1 11 (by decide), r_73 11 (by decide), k_50]; exact nI_1 de, by rw [v1 12 (by decide), k_73]; exact by rw [if_neg g4]; exact nI_sub0 br⟩, ⟨by rw [q 14 (by decide) (by decide) (by decide)]; exact mo.1, by rw [v3 13 (by decide), s_73, s_50]; exact mo.2⟩, hp_81⟩
        · have g4 : k = 12 := kc_in hk19 (by decide) c_64
          refine wq (fun _ _ kk => rs_iconst (v := 1) (pc := 67) dX5_openFact_67 rfl kk) ?_
          refine wq (fun _ _ kk => rs_goto (tgt := 72) (pc := 68) dX5_openFact_68 rfl kk) ?_
          refine wq (fun _ _ kk => rs_iadd (pc := 72) dX5_openFact_72 kk) ?_
          refine wq (fun _ _ kk => rs_putf (pc := 73) dX5_openFact_73 fX5_51 (mo_lt hrd (by decide)) hrd.2.1 rfl (Nat.le_of_ble_eq_true rfl) kk) ?_
          refine wq_gen (fun h_6 e_6 => ?_)
          obtain ⟨m_6, s_6, g_6, o_6⟩ := ai_e1 e_6
          replace hrd := mo_si (k := 12) hrd m_6 g_6 o_6 rfl
          have E_6 := (E_4).trans (xd_of m_6 s_6 o_6 (by decide))
          obtain ⟨S_73, hrd, k_73, r_73, s_73⟩ := rd_new hrd
          refine wq (fun _ _ kk => rs_aload_n (pc := 76) dX5_openFact_76 rfl kk) ?_
          refine wq (fun _ _ kk => rs_aload_n (pc := 77) dX5_openFact_77 rfl kk) ?_
          refine wq (fun _ _ kk => rs_getf (pc := 78) dX5_openFact_78 fX5_26 (mo_lt hrd (by decide)) hrd.2.1 rfl kk) ?_
          rw [r_73 4 (by decide), r_50 4 (by decide), t4]
          obtain ⟨rv_81, hc_81, ⟨rfl, ee_81, T_81, hrd_81, hp_81, v1, v2, v3⟩, hm_81⟩ := c_X5_putBy (k := k) hrd (pl := pl) ⟨by rw [r_73 16 (by decide), r_50 16 (by decide)]; exact mp.1, by rw [s_73, s_50]; exact mp.2⟩ (by omega)
          refine wq (fun _ _ kk => rs_callV (as := [_]) (pc := 81) dX5_openFact_81 mk_X5_putBy mlX5_225 in_X5_putBy se_X5_putBy rfl (mo_lt hrd (by decide)) hrd.2.1 rfl rfl (Nat.le_of_ble_eq_true rfl) (hm_81) kk) ?_
          replace hrd := hrd_81
          have E_81 := (E_6).trans ee_81
          refine wq_ret ?_ (rs_vret (pc := 84) dX5_openFact_84 rfl)
          have q : ∀ j, j ≠ 11 → j ≠ 12 → j ≠ 16 → T_81.1 j = S.1 j := fun j a b c => by rw [v1 j c, r_73 j b, r_50 j a]
          refine ⟨rfl, E_81, _, hrd, q 1 (by decide) (by decide) (by decide), ?_⟩
          show rd_x _ (if k ≠ 9 ∧ k ≠ 12 then _ else _)
          rw [if_neg (by omega), if_neg g3]
          exact rd_x_i (by rw [q 3 (by decide) (by decide) (by decide)]; exact t3) ⟨⟨by rw [q 6 (by decide) (by decide) (by decide)]; exact m6, by rw [q 7 (by decide) (by decide) (by decide)]; exact m7, by rw [q 8 (by decide) (by decide) (by decide)]; exact m8⟩, ⟨fun z => absurd z (by decide), fun _ => by rw [q 9 (by decide) (by decide) (by decide)]; exact m9b (by decide)⟩, ⟨by rw [q 10 (by decide) (by decide) (by decide)]; exact m10, by rw [v1 11 (by decide), r_73 11 (by decide), k_50]; exact nI_1 de, by rw [v1 12 (by decide), k_73]; exact by rw [if_pos g4]; exact nI_1 br⟩, ⟨by rw [q 14 (by decide) (by decide) (by decide)]; exact mo.1, by rw [v3 13 (by decide), s_73, s_50]; exact mo.2⟩, hp_81⟩
      · have g3 : de = 10 := tx_eq1 (b := 10) (by omega) (by decide) rfl c_32
        refine wq (fun _ _ kk => rs_aload_n (pc := 35) dX5_openFact_35 rfl kk) ?_
        refine wq (fun _ _ kk => rs_iconst (v := 2) (pc := 36) dX5_openFact_36 rfl kk) ?_
        obtain ⟨rv_37, hc_37, ⟨rfl, ee_37, T_37, hrd_37, k_37, r_37, s_37⟩, hm_37⟩ := c_X5_fail (c := 2) hrd t2
        refine wq (fun _ _ kk => rs_callV (as := [_]) (pc := 37) dX5_openFact_37 mk_X5_fail mlX5_205 in_X5_fail se_X5_fail rfl (mo_lt hrd (by decide)) hrd.2.1 rfl rfl (Nat.le_of_ble_eq_true rfl) (hm_37) kk) ?_
        replace hrd := hrd_37
        have hf : ∀ x : PS, rd_x T_37 (py_fail 2 a x) := fun x => rd_x_f k_37
        have hb : T_37.1 1 = S.1 1 := r_37 1 (by decide)
        have E_37 := (xd.rf).trans ee_37
        refine wq (fun _ _ kk => rs_goto (tgt := 84) (pc := 40) dX5_openFact_40 rfl kk) ?_
        refine wq_ret ?_ (rs_vret (pc := 84) dX5_openFact_84 rfl)
        refine ⟨rfl, E_37, _, hrd, hb, ?_⟩
        show rd_x _ (if k ≠ 9 ∧ k ≠ 12 then _ else _)
        rw [if_neg (by omega), if_pos g3]
        exact hf _
    · have g2 : ¬ k = 12 := fun z => c_15 (by rw [z]; rfl)
      refine wq (fun _ _ kk => rs_aload_n (pc := 18) dX5_openFact_18 rfl kk) ?_
      refine wq (fun _ _ kk => rs_iconst (v := 5) (pc := 19) dX5_openFact_19 rfl kk) ?_
      obtain ⟨rv_20, hc_20, ⟨rfl, ee_20, T_20, hrd_20, hb, hres⟩, hm_20⟩ := c_X5_putValue (s := 5) hrd hm ht hI hpa (Or.inr (Or.inl ⟨rfl, rfl⟩))
      refine wq (fun _ _ kk => rs_callV (as := [_]) (pc := 20) dX5_openFact_20 mk_X5_putValue mlX5_186 in_X5_putValue se_X5_putValue rfl (mo_lt hrd (by decide)) hrd.2.1 rfl rfl (Nat.le_of_ble_eq_true rfl) (hm_20) kk) ?_
      replace hrd := hrd_20
      have E_20 := (xd.rf).trans ee_20
      refine wq (fun _ _ kk => rs_goto (tgt := 84) (pc := 23) dX5_openFact_23 rfl kk) ?_
      refine wq_ret ?_ (rs_vret (pc := 84) dX5_openFact_84 rfl)
      refine ⟨rfl, E_20, _, hrd, hb, ?_⟩
      show rd_x _ (if k ≠ 9 ∧ k ≠ 12 then _ else _)
      rw [if_pos ⟨g1, g2⟩]
      exact hres
theorem dX5_followLeft_0 : decode cX5_followLeft 0 = .ok (.aload_n 0, 1) := by decide +kernel
theorem dX5_followLeft_1 : decode cX5_followLeft 1 = .ok (.invokevirtual 212, 3) := by decide +kernel
theorem dX5_followLeft_4 : decode cX5_followLeft 4 = .ok (.ifCond .eq 11, 3) := by decide +kernel
theorem dX5_followLeft_7 : decode cX5_followLeft 7 = .ok (.aload_n 0, 1) := by decide +kernel
theorem dX5_followLeft_8 : decode cX5_followLeft 8 = .ok (.iconst 4, 1) := by decide +kernel
theorem dX5_followLeft_9 : decode cX5_followLeft 9 = .ok (.invokevirtual 216, 3) := by decide +kernel
theorem dX5_followLeft_12 : decode cX5_followLeft 12 = .ok (.goto 62, 3) := by decide +kernel
theorem dX5_followLeft_15 : decode cX5_followLeft 15 = .ok (.aload_n 0, 1) := by decide +kernel
theorem dX5_followLeft_16 : decode cX5_followLeft 16 = .ok (.getfield 26, 3) := by decide +kernel
theorem dX5_followLeft_19 : decode cX5_followLeft 19 = .ok (.ldc 181, 2) := by decide +kernel
theorem dX5_followLeft_21 : decode cX5_followLeft 21 = .ok (.if_icmp .lt 12, 3) := by decide +kernel
theorem dX5_followLeft_24 : decode cX5_followLeft 24 = .ok (.aload_n 0, 1) := by decide +kernel
theorem dX5_followLeft_25 : decode cX5_followLeft 25 = .ok (.getfield 26, 3) := by decide +kernel
theorem dX5_followLeft_28 : decode cX5_followLeft 28 = .ok (.ldc 182, 2) := by decide +kernel
theorem dX5_followLeft_30 : decode cX5_followLeft 30 = .ok (.if_icmp .le 11, 3) := by decide +kernel
theorem dX5_followLeft_33 : decode cX5_followLeft 33 = .ok (.aload_n 0, 1) := by decide +kernel
theorem dX5_followLeft_34 : decode cX5_followLeft 34 = .ok (.iconst 0, 1) := by decide +kernel
theorem dX5_followLeft_35 : decode cX5_followLeft 35 = .ok (.invokevirtual 205, 3) := by decide +kernel
theorem dX5_followLeft_38 : decode cX5_followLeft 38 = .ok (.goto 36, 3) := by decide +kernel
theorem dX5_followLeft_41 : decode cX5_followLeft 41 = .ok (.aload_n 0, 1) := by decide +kernel
theorem dX5_followLeft_42 : decode cX5_followLeft 42 = .ok (.getfield 45, 3) := by decide +kernel
theorem dX5_followLeft_45 : decode cX5_followLeft 45 = .ok (.bipush 60, 2) := by decide +kernel
theorem dX5_followLeft_47 : decode cX5_followLeft 47 = .ok (.if_icmp .ne 11, 3) := by decide +kernel
theorem dX5_followLeft_50 : decode cX5_followLeft 50 = .ok (.aload_n 0, 1) := by decide +kernel
theorem dX5_followLeft_51 : decode cX5_followLeft 51 = .ok (.iconst 3, 1) := by decide +kernel
theorem dX5_followLeft_52 : decode cX5_followLeft 52 = .ok (.invokevirtual 205, 3) := by decide +kernel
theorem dX5_followLeft_55 : decode cX5_followLeft 55 = .ok (.goto 19, 3) := by decide +kernel
theorem dX5_followLeft_58 : decode cX5_followLeft 58 = .ok (.aload_n 0, 1) := by decide +kernel
theorem dX5_followLeft_59 : decode cX5_followLeft 59 = .ok (.dup, 1) := by decide +kernel
theorem dX5_followLeft_60 : decode cX5_followLeft 60 = .ok (.getfield 45, 3) := by decide +kernel
theorem dX5_followLeft_63 : decode cX5_followLeft 63 = .ok (.iconst 1, 1) := by decide +kernel
theorem dX5_followLeft_64 : decode cX5_followLeft 64 = .ok (.iadd, 1) := by decide +kernel
theorem dX5_followLeft_65 : decode cX5_followLeft 65 = .ok (.putfield 45, 3) := by decide +kernel
theorem dX5_followLeft_68 : decode cX5_followLeft 68 = .ok (.aload_n 0, 1) := by decide +kernel
theorem dX5_followLeft_69 : decode cX5_followLeft 69 = .ok (.bipush 6, 2) := by decide +kernel
theorem dX5_followLeft_71 : decode cX5_followLeft 71 = .ok (.invokevirtual 216, 3) := by decide +kernel
theorem dX5_followLeft_74 : decode cX5_followLeft 74 = .ok (.return_, 1) := by decide +kernel
set_option maxRecDepth 100000 in
set_option maxHeartbeats 4000000 in
theorem c_X5_followLeft {h : ai_H} {S : Md} {n p pa de br k v a e : Nat} {D : List Cl} {A B : List Tk} {pl : List Nat} (hrd : rd_at 13 h S) (hm : rd_m S 5 pa de br D A B pl) (ht : rd_tk S n k v a e) (hI : py_I n 5 p pa de br D A B pl) (hpa : p ≤ a) : ai_QM MX5_followLeft [.ref 16] h (fun r g => r = none ∧ xd h g ∧ ∃ T, rd_at 13 g T ∧ T.1 1 = S.1 1 ∧ rd_x T (py_step1 k v a e (5, p, 0, pa, de, br, D, A, B, pl))) := by
  obtain ⟨t2, t3, t4, t5, hk19, han, hae, hen, hv0, hv1, hn4⟩ := id ht
  obtain ⟨⟨m6, m7, m8⟩, ⟨m9a, m9b⟩, ⟨m10, m11, m12⟩, mo, mp⟩ := id hm
  obtain ⟨z1, z2, z3, z4, z5, z6⟩ := rd_room hn4 hI
  refine qm_of (ls := [.ref 16]) (by decide) (by simp [ai_en, Value.category]) (by rfl) ?_
  refine wq (fun _ _ kk => rs_aload_n (pc := 0) dX5_followLeft_0 rfl kk) ?_
  refine wq (fun _ _ kk => rs_callV (as := []) (pc := 1) dX5_followLeft_1 mk_X5_isArithmetic mlX5_212 in_X5_isArithmetic se_X5_isArithmetic rfl (mo_lt hrd (by decide)) hrd.2.1 rfl rfl (Nat.le_of_ble_eq_true rfl) (c_X5_isArithmetic hrd t4 hk19) kk) ?_
  refine wq_br (fun _ _ kt kf => rs_if_eq (tgt := 15) (pc := 4) dX5_followLeft_4 rfl kt kf) (fun c_4 => ?_) (fun c_4 => ?_)
  · have g1 : ¬ (k = 2 ∨ k = 3 ∨ k = 13) := fun z => absurd c_4 (by rw [if_pos z]; decide)
    refine wq (fun _ _ kk => rs_aload_n (pc := 15) dX5_followLeft_15 rfl kk) ?_
    refine wq (fun _ _ kk => rs_getf (pc := 16) dX5_followLeft_16 fX5_26 (mo_lt hrd (by decide)) hrd.2.1 rfl kk) ?_
    rw [t4]
    refine wq (fun _ _ kk => rs_ldc (pc := 19) dX5_followLeft_19 cnX5_181 kk) ?_
    refine wq_br (fun _ _ kt kf => rs_icmp_lt (tgt := 33) (pc := 21) dX5_followLeft_21 rfl kt kf) (fun c_21 => ?_) (fun c_21 => ?_)
    · have hkb := (tx_kc_b k (by omega)).1
      have g2 : ¬ (4 ≤ k ∧ k ≤ 8) := fun z => absurd ((kc_cm k (by omega)).mpr z).1 (Nat.not_le.mpr (tx_lt1 (b := 200003) (by omega) (by decide) rfl c_21))
      refine wq (fun _ _ kk => rs_aload_n (pc := 33) dX5_followLeft_33 rfl kk) ?_
      refine wq (fun _ _ kk => rs_iconst (v := 0) (pc := 34) dX5_followLeft_34 rfl kk) ?_
      obtain ⟨rv_35, hc_35, ⟨rfl, ee_35, T_35, hrd_35, k_35, r_35, s_35⟩, hm_35⟩ := c_X5_fail (c := 0) hrd t2
      refine wq (fun _ _ kk => rs_callV (as := [_]) (pc := 35) dX5_followLeft_35 mk_X5_fail mlX5_205 in_X5_fail se_X5_fail rfl (mo_lt hrd (by decide)) hrd.2.1 rfl rfl (Nat.le_of_ble_eq_true rfl) (hm_35) kk) ?_
      replace hrd := hrd_35
      have hf : ∀ x : PS, rd_x T_35 (py_fail 0 a x) := fun x => rd_x_f k_35
      have hb : T_35.1 1 = S.1 1 := r_35 1 (by decide)
      have E_35 := (xd.rf).trans ee_35
      refine wq (fun _ _ kk => rs_goto (tgt := 74) (pc := 38) dX5_followLeft_38 rfl kk) ?_
      refine wq_ret ?_ (rs_vret (pc := 74) dX5_followLeft_74 rfl)
      refine ⟨rfl, E_35, _, hrd, hb, ?_⟩
      show rd_x _ (if k = 2 ∨ k = 3 ∨ k = 13 then _ else _)
      rw [if_neg g1, if_pos g2]
      exact hf _
    · have hkb := (tx_kc_b k (by omega)).1
      have g2a := tx_lt2 (b := 200003) (by omega) (by decide) rfl c_21
      refine wq (fun _ _ kk => rs_aload_n (pc := 24) dX5_followLeft_24 rfl kk) ?_
      refine wq (fun _ _ kk => rs_getf (pc := 25) dX5_followLeft_25 fX5_26 (mo_lt hrd (by decide)) hrd.2.1 rfl kk) ?_
      rw [t4]
      refine wq (fun _ _ kk => rs_ldc (pc := 28) dX5_followLeft_28 cnX5_182 kk) ?_
      refine wq_br (fun _ _ kt kf => rs_icmp_le (tgt := 41) (pc := 30) dX5_followLeft_30 rfl kt kf) (fun c_30 => ?_) (fun c_30 => ?_)
      · have g2 : 4 ≤ k ∧ k ≤ 8 := (kc_cm k (by omega)).mp ⟨g2a, tx_ge1 (b := 200007) (by omega) (by decide) rfl c_30⟩
        refine wq (fun _ _ kk => rs_aload_n (pc := 41) dX5_followLeft_41 rfl kk) ?_
        refine wq (fun _ _ kk => rs_getf (pc := 42) dX5_followLeft_42 fX5_45 (mo_lt hrd (by decide)) hrd.2.1 rfl kk) ?_
        rw [m10]
        refine wq (fun _ _ kk => rs_bipush (v := 60) (pc := 45) dX5_followLeft_45 rfl kk) ?_
        refine wq_bn (fun _ _ kt kf => rs_icmp_ne (tgt := 58) (pc := 47) dX5_followLeft_47 rfl kt kf) (fun c_47 => ?_) (fun c_47 => ?_)
        · have g3 : ¬ pa = 60 := fun z => c_47 (by rw [z]; rfl)
          refine wq (fun _ _ kk => rs_aload_n (pc := 58) dX5_followLeft_58 rfl kk) ?_
          refine wq (fun _ _ kk => rs_dup (pc := 59) dX5_followLeft_59 rfl kk) ?_
          refine wq (fun _ _ kk => rs_getf (pc := 60) dX5_followLeft_60 fX5_45 (mo_lt hrd (by decide)) hrd.2.1 rfl kk) ?_
          rw [m10]
          refine wq (fun _ _ kk => rs_iconst (v := 1) (pc := 63) dX5_followLeft_63 rfl kk) ?_
          refine wq (fun _ _ kk => rs_iadd (pc := 64) dX5_followLeft_64 kk) ?_
          refine wq (fun _ _ kk => rs_putf (pc := 65) dX5_followLeft_65 fX5_45 (mo_lt hrd (by decide)) hrd.2.1 rfl (Nat.le_of_ble_eq_true rfl) kk) ?_
          refine wq_gen (fun h_1 e_1 => ?_)
          obtain ⟨m_1, s_1, g_1, o_1⟩ := ai_e1 e_1
          replace hrd := mo_si (k := 10) hrd m_1 g_1 o_1 rfl
          have E_1 := (xd.rf).trans (xd_of m_1 s_1 o_1 (by decide))
          obtain ⟨S_65, hrd, k_65, r_65, s_65⟩ := rd_new hrd
          have hm2 : rd_m S_65 5 (pa + 1) de br D A B pl := ⟨⟨by rw [r_65 6 (by decide)]; exact m6, by rw [r_65 7 (by decide)]; exact m7, by rw [r_65 8 (by decide)]; exact m8⟩, ⟨fun z => absurd z (by decide), fun _ => by rw [r_65 9 (by decide)]; exact m9b (by decide)⟩, ⟨k_65.trans (nI_1 pa), by rw [r_65 11 (by decide)]; exact m11, by rw [r_65 12 (by decide)]; exact m12⟩, ⟨by rw [r_65 14 (by decide)]; exact mo.1, by rw [s_65]; exact mo.2⟩, by rw [r_65 16 (by decide)]; exact mp.1, by rw [s_65]; exact mp.2⟩
          have ht2 : rd_tk S_65 n k v a e := ⟨by rw [r_65 2 (by decide)]; exact t2, by rw [r_65 3 (by decide)]; exact t3, by rw [r_65 4 (by decide)]; exact t4, by rw [r_65 5 (by decide)]; exact t5, hk19, han, hae, hen, hv0, hv1, hn4⟩
          have hI2 : py_I n 5 p (pa + 1) de br D A B pl := ⟨⟨by omega, by have := hI.1.2; omega⟩, hI.2⟩
          have g2r := py_rk_cm (decide_eq_true g2 : cm k = true)
          refine wq (fun _ _ kk => rs_aload_n (pc := 68) dX5_followLeft_68 rfl kk) ?_
          refine wq (fun _ _ kk => rs_bipush (v := 6) (pc := 69) dX5_followLeft_69 rfl kk) ?_
          obtain ⟨rv_71, hc_71, ⟨rfl, ee_71, T_71, hrd_71, hb, hres⟩, hm_71⟩ := c_X5_join (s := 6) hrd hm2 ht2 hI2 hpa (Or.inr (by decide)) (by omega) (by omega) (py_va hI) (fun z => absurd z (by decide))
          refine wq (fun _ _ kk => rs_callV (as := [_]) (pc := 71) dX5_followLeft_71 mk_X5_join mlX5_216 in_X5_join se_X5_join rfl (mo_lt hrd (by decide)) hrd.2.1 rfl rfl (Nat.le_of_ble_eq_true rfl) (hm_71) kk) ?_
          replace hrd := hrd_71
          rw [r_65 1 (by decide)] at hb
          have E_71 := (E_1).trans ee_71
          refine wq_ret ?_ (rs_vret (pc := 74) dX5_followLeft_74 rfl)
          refine ⟨rfl, E_71, _, hrd, hb, ?_⟩
          show rd_x _ (if k = 2 ∨ k = 3 ∨ k = 13 then _ else _)
          rw [if_neg g1, if_neg (fun z => z g2), if_neg g3]
          exact hres
        · have g3 : pa = 60 := tx_eq1 (b := 60) (by omega) (by decide) rfl c_47
          refine wq (fun _ _ kk => rs_aload_n (pc := 50) dX5_followLeft_50 rfl kk) ?_
          refine wq (fun _ _ kk => rs_iconst (v := 3) (pc := 51) dX5_followLeft_51 rfl kk) ?_
          obtain ⟨rv_52, hc_52, ⟨rfl, ee_52, T_52, hrd_52, k_52, r_52, s_52⟩, hm_52⟩ := c_X5_fail (c := 3) hrd t2
          refine wq (fun _ _ kk => rs_callV (as := [_]) (pc := 52) dX5_followLeft_52 mk_X5_fail mlX5_205 in_X5_fail se_X5_fail rfl (mo_lt hrd (by decide)) hrd.2.1 rfl rfl (Nat.le_of_ble_eq_true rfl) (hm_52) kk) ?_
          replace hrd := hrd_52
          have hf : ∀ x : PS, rd_x T_52 (py_fail 3 a x) := fun x => rd_x_f k_52
          have hb : T_52.1 1 = S.1 1 := r_52 1 (by decide)
          have E_52 := (xd.rf).trans ee_52
          refine wq (fun _ _ kk => rs_goto (tgt := 74) (pc := 55) dX5_followLeft_55 rfl kk) ?_
          refine wq_ret ?_ (rs_vret (pc := 74) dX5_followLeft_74 rfl)
          refine ⟨rfl, E_52, _, hrd, hb, ?_⟩
          show rd_x _ (if k = 2 ∨ k = 3 ∨ k = 13 then _ else _)
          rw [if_neg g1, if_neg (fun z => z g2), if_pos g3]
          exact hf _
      · have g2 : ¬ (4 ≤ k ∧ k ≤ 8) := fun z => absurd ((kc_cm k (by omega)).mpr z).2 (Nat.not_le.mpr (tx_ge2 (b := 200007) (by omega) (by decide) rfl c_30))
        refine wq (fun _ _ kk => rs_aload_n (pc := 33) dX5_followLeft_33 rfl kk) ?_
        refine wq (fun _ _ kk => rs_iconst (v := 0) (pc := 34) dX5_followLeft_34 rfl kk) ?_
        obtain ⟨rv_35, hc_35, ⟨rfl, ee_35, T_35, hrd_35, k_35, r_35, s_35⟩, hm_35⟩ := c_X5_fail (c := 0) hrd t2
        refine wq (fun _ _ kk => rs_callV (as := [_]) (pc := 35) dX5_followLeft_35 mk_X5_fail mlX5_205 in_X5_fail se_X5_fail rfl (mo_lt hrd (by decide)) hrd.2.1 rfl rfl (Nat.le_of_ble_eq_true rfl) (hm_35) kk) ?_
        replace hrd := hrd_35
        have hf : ∀ x : PS, rd_x T_35 (py_fail 0 a x) := fun x => rd_x_f k_35
        have hb : T_35.1 1 = S.1 1 := r_35 1 (by decide)
        have E_35 := (xd.rf).trans ee_35
        refine wq (fun _ _ kk => rs_goto (tgt := 74) (pc := 38) dX5_followLeft_38 rfl kk) ?_
        refine wq_ret ?_ (rs_vret (pc := 74) dX5_followLeft_74 rfl)
        refine ⟨rfl, E_35, _, hrd, hb, ?_⟩
        show rd_x _ (if k = 2 ∨ k = 3 ∨ k = 13 then _ else _)
        rw [if_neg g1, if_pos g2]
        exact hf _
  · have g1 : k = 2 ∨ k = 3 ∨ k = 13 := Classical.byContradiction fun z => c_4 (if_neg z)
    have g1r := py_rk_ar (py_ar_i g1)
    refine wq (fun _ _ kk => rs_aload_n (pc := 7) dX5_followLeft_7 rfl kk) ?_
    refine wq (fun _ _ kk => rs_iconst (v := 4) (pc := 8) dX5_followLeft_8 rfl kk) ?_
    obtain ⟨rv_9, hc_9, ⟨rfl, ee_9, T_9, hrd_9, hb, hres⟩, hm_9⟩ := c_X5_join (s := 4) hrd hm ht hI hpa (Or.inr (by decide)) (by omega) (by omega) (py_va hI) (fun z => absurd z (by decide))
    refine wq (fun _ _ kk => rs_callV (as := [_]) (pc := 9) dX5_followLeft_9 mk_X5_join mlX5_216 in_X5_join se_X5_join rfl (mo_lt hrd (by decide)) hrd.2.1 rfl rfl (Nat.le_of_ble_eq_true rfl) (hm_9) kk) ?_
    replace hrd := hrd_9
    have E_9 := (xd.rf).trans ee_9
    refine wq (fun _ _ kk => rs_goto (tgt := 74) (pc := 12) dX5_followLeft_12 rfl kk) ?_
    refine wq_ret ?_ (rs_vret (pc := 74) dX5_followLeft_74 rfl)
    refine ⟨rfl, E_9, _, hrd, hb, ?_⟩
    show rd_x _ (if k = 2 ∨ k = 3 ∨ k = 13 then _ else _)
    rw [if_pos g1]
    exact hres
theorem dX5_followFact_0 : decode cX5_followFact 0 = .ok (.aload_n 0, 1) := by decide +kernel
theorem dX5_followFact_1 : decode cX5_followFact 1 = .ok (.getfield 26, 3) := by decide +kernel
theorem dX5_followFact_4 : decode cX5_followFact 4 = .ok (.ldc 131, 2) := by decide +kernel
theorem dX5_followFact_6 : decode cX5_followFact 6 = .ok (.if_icmp .eq 12, 3) := by decide +kernel
theorem dX5_followFact_9 : decode cX5_followFact 9 = .ok (.aload_n 0, 1) := by decide +kernel
theorem dX5_followFact_10 : decode cX5_followFact 10 = .ok (.getfield 26, 3) := by decide +kernel
theorem dX5_followFact_13 : decode cX5_followFact 13 = .ok (.ldc 128, 2) := by decide +kernel
theorem dX5_followFact_15 : decode cX5_followFact 15 = .ok (.if_icmp .ne 11, 3) := by decide +kernel
theorem dX5_followFact_18 : decode cX5_followFact 18 = .ok (.aload_n 0, 1) := by decide +kernel
theorem dX5_followFact_19 : decode cX5_followFact 19 = .ok (.iconst 3, 1) := by decide +kernel
theorem dX5_followFact_20 : decode cX5_followFact 20 = .ok (.invokevirtual 216, 3) := by decide +kernel
theorem dX5_followFact_23 : decode cX5_followFact 23 = .ok (.goto 38, 3) := by decide +kernel
theorem dX5_followFact_26 : decode cX5_followFact 26 = .ok (.aload_n 0, 1) := by decide +kernel
theorem dX5_followFact_27 : decode cX5_followFact 27 = .ok (.getfield 51, 3) := by decide +kernel
theorem dX5_followFact_30 : decode cX5_followFact 30 = .ok (.ifCond .ne 10, 3) := by decide +kernel
theorem dX5_followFact_33 : decode cX5_followFact 33 = .ok (.aload_n 0, 1) := by decide +kernel
theorem dX5_followFact_34 : decode cX5_followFact 34 = .ok (.invokevirtual 222, 3) := by decide +kernel
theorem dX5_followFact_37 : decode cX5_followFact 37 = .ok (.goto 24, 3) := by decide +kernel
theorem dX5_followFact_40 : decode cX5_followFact 40 = .ok (.aload_n 0, 1) := by decide +kernel
theorem dX5_followFact_41 : decode cX5_followFact 41 = .ok (.getfield 26, 3) := by decide +kernel
theorem dX5_followFact_44 : decode cX5_followFact 44 = .ok (.ldc 176, 2) := by decide +kernel
theorem dX5_followFact_46 : decode cX5_followFact 46 = .ok (.if_icmp .ne 10, 3) := by decide +kernel
theorem dX5_followFact_49 : decode cX5_followFact 49 = .ok (.aload_n 0, 1) := by decide +kernel
theorem dX5_followFact_50 : decode cX5_followFact 50 = .ok (.invokevirtual 228, 3) := by decide +kernel
theorem dX5_followFact_53 : decode cX5_followFact 53 = .ok (.goto 8, 3) := by decide +kernel
theorem dX5_followFact_56 : decode cX5_followFact 56 = .ok (.aload_n 0, 1) := by decide +kernel
theorem dX5_followFact_57 : decode cX5_followFact 57 = .ok (.iconst 0, 1) := by decide +kernel
theorem dX5_followFact_58 : decode cX5_followFact 58 = .ok (.invokevirtual 205, 3) := by decide +kernel
theorem dX5_followFact_61 : decode cX5_followFact 61 = .ok (.return_, 1) := by decide +kernel
set_option maxRecDepth 100000 in
set_option maxHeartbeats 4000000 in
theorem c_X5_followFact {h : ai_H} {S : Md} {n st p pa de br k v a e : Nat} {D : List Cl} {A B : List Tk} {pl : List Nat} (hrd : rd_at 13 h S) (hm : rd_m S st pa de br D A B pl) (ht : rd_tk S n k v a e) (hI : py_I n st p pa de br D A B pl) (hpa : p ≤ a) (hst : st = 7 ∨ st = 8) : ai_QM MX5_followFact [.ref 16] h (fun r g => r = none ∧ xd h g ∧ ∃ T, rd_at 13 g T ∧ T.1 1 = S.1 1 ∧ rd_x T (py_fact k a e (st, p, 0, pa, de, br, D, A, B, pl))) := by
  obtain ⟨t2, t3, t4, t5, hk19, han, hae, hen, hv0, hv1, hn4⟩ := id ht
  obtain ⟨⟨m6, m7, m8⟩, ⟨m9a, m9b⟩, ⟨m10, m11, m12⟩, mo, mp⟩ := id hm
  obtain ⟨z1, z2, z3, z4, z5, z6⟩ := rd_room hn4 hI
  refine qm_of (ls := [.ref 16]) (by decide) (by simp [ai_en, Value.category]) (by rfl) ?_
  refine wq (fun _ _ kk => rs_aload_n (pc := 0) dX5_followFact_0 rfl kk) ?_
  refine wq (fun _ _ kk => rs_getf (pc := 1) dX5_followFact_1 fX5_26 (mo_lt hrd (by decide)) hrd.2.1 rfl kk) ?_
  rw [t4]
  refine wq (fun _ _ kk => rs_ldc (pc := 4) dX5_followFact_4 cnX5_131 kk) ?_
  refine wq_br (fun _ _ kt kf => rs_icmp_eq (tgt := 18) (pc := 6) dX5_followFact_6 rfl kt kf) (fun c_6 => ?_) (fun c_6 => ?_)
  · have g1 : k = 10 := kc_in hk19 (by decide) c_6
    refine wq (fun _ _ kk => rs_aload_n (pc := 18) dX5_followFact_18 rfl kk) ?_
    refine wq (fun _ _ kk => rs_iconst (v := 3) (pc := 19) dX5_followFact_19 rfl kk) ?_
    obtain ⟨rv_20, hc_20, ⟨rfl, ee_20, T_20, hrd_20, hb, hres⟩, hm_20⟩ := c_X5_join (s := 3) hrd hm ht hI hpa (Or.inr (by omega)) (by omega) (by rcases (show k = 10 ∨ k = 11 by omega) with rfl | rfl <;> decide) (py_va hI) (fun z => absurd z (by decide))
    refine wq (fun _ _ kk => rs_callV (as := [_]) (pc := 20) dX5_followFact_20 mk_X5_join mlX5_216 in_X5_join se_X5_join rfl (mo_lt hrd (by decide)) hrd.2.1 rfl rfl (Nat.le_of_ble_eq_true rfl) (hm_20) kk) ?_
    replace hrd := hrd_20
    have E_20 := (xd.rf).trans ee_20
    refine wq (fun _ _ kk => rs_goto (tgt := 61) (pc := 23) dX5_followFact_23 rfl kk) ?_
    refine wq_ret ?_ (rs_vret (pc := 61) dX5_followFact_61 rfl)
    refine ⟨rfl, E_20, _, hrd, hb, ?_⟩
    unfold py_fact
    show rd_x _ (if k = 10 ∨ k = 11 then _ else _)
    rw [if_pos (by omega)]
    exact hres
  · have g1 : ¬ k = 10 := fun z => c_6 (by rw [z]; rfl)
    refine wq (fun _ _ kk => rs_aload_n (pc := 9) dX5_followFact_9 rfl kk) ?_
    refine wq (fun _ _ kk => rs_getf (pc := 10) dX5_followFact_10 fX5_26 (mo_lt hrd (by decide)) hrd.2.1 rfl kk) ?_
    rw [t4]
    refine wq (fun _ _ kk => rs_ldc (pc := 13) dX5_followFact_13 cnX5_128 kk) ?_
    refine wq_bn (fun _ _ kt kf => rs_icmp_ne (tgt := 26) (pc := 15) dX5_followFact_15 rfl kt kf) (fun c_15 => ?_) (fun c_15 => ?_)
    · have g2 : ¬ k = 11 := fun z => c_15 (by rw [z]; rfl)
      refine wq (fun _ _ kk => rs_aload_n (pc := 26) dX5_followFact_26 rfl kk) ?_
      refine wq (fun _ _ kk => rs_getf (pc := 27) dX5_followFact_27 fX5_51 (mo_lt hrd (by decide)) hrd.2.1 rfl kk) ?_
      rw [m12]
      refine wq_bn (fun _ _ kt kf => rs_if_ne (tgt := 40) (pc := 30) dX5_followFact_30 rfl kt kf) (fun c_30 => ?_) (fun c_30 => ?_)
      · have g3 : ¬ br = 0 := fun z => c_30 (by rw [z]; rfl)
        refine wq (fun _ _ kk => rs_aload_n (pc := 40) dX5_followFact_40 rfl kk) ?_
        refine wq (fun _ _ kk => rs_getf (pc := 41) dX5_followFact_41 fX5_26 (mo_lt hrd (by decide)) hrd.2.1 rfl kk) ?_
        rw [t4]
        refine wq (fun _ _ kk => rs_ldc (pc := 44) dX5_followFact_44 cnX5_176 kk) ?_
        refine wq_bn (fun _ _ kt kf => rs_icmp_ne (tgt := 56) (pc := 46) dX5_followFact_46 rfl kt kf) (fun c_46 => ?_) (fun c_46 => ?_)
        · have g4 : ¬ k = 16 := fun z => c_46 (by rw [z]; rfl)
          refine wq (fun _ _ kk => rs_aload_n (pc := 56) dX5_followFact_56 rfl kk) ?_
          refine wq (fun _ _ kk => rs_iconst (v := 0) (pc := 57) dX5_followFact_57 rfl kk) ?_
          obtain ⟨rv_58, hc_58, ⟨rfl, ee_58, T_58, hrd_58, k_58, r_58, s_58⟩, hm_58⟩ := c_X5_fail (c := 0) hrd t2
          refine wq (fun _ _ kk => rs_callV (as := [_]) (pc := 58) dX5_followFact_58 mk_X5_fail mlX5_205 in_X5_fail se_X5_fail rfl (mo_lt hrd (by decide)) hrd.2.1 rfl rfl (Nat.le_of_ble_eq_true rfl) (hm_58) kk) ?_
          replace hrd := hrd_58
          have hf : ∀ x : PS, rd_x T_58 (py_fail 0 a x) := fun x => rd_x_f k_58
          have hb : T_58.1 1 = S.1 1 := r_58 1 (by decide)
          have E_58 := (xd.rf).trans ee_58
          refine wq_ret ?_ (rs_vret (pc := 61) dX5_followFact_61 rfl)
          refine ⟨rfl, E_58, _, hrd, hb, ?_⟩
          unfold py_fact
          show rd_x _ (if k = 10 ∨ k = 11 then _ else _)
          rw [if_neg (by omega), if_neg g3, if_neg g4]
          exact hf _
        · have g4 : k = 16 := kc_in hk19 (by decide) c_46
          refine wq (fun _ _ kk => rs_aload_n (pc := 49) dX5_followFact_49 rfl kk) ?_
          obtain ⟨rv_50, hc_50, ⟨rfl, ee_50, T_50, hrd_50, hb, hres⟩, hm_50⟩ := c_X5_closeBracket hrd hm ht hI hpa hst g3
          refine wq (fun _ _ kk => rs_callV (as := []) (pc := 50) dX5_followFact_50 mk_X5_closeBracket mlX5_228 in_X5_closeBracket se_X5_closeBracket rfl (mo_lt hrd (by decide)) hrd.2.1 rfl rfl (Nat.le_of_ble_eq_true rfl) (hm_50) kk) ?_
          replace hrd := hrd_50
          have E_50 := (xd.rf).trans ee_50
          refine wq (fun _ _ kk => rs_goto (tgt := 61) (pc := 53) dX5_followFact_53 rfl kk) ?_
          refine wq_ret ?_ (rs_vret (pc := 61) dX5_followFact_61 rfl)
          refine ⟨rfl, E_50, _, hrd, hb, ?_⟩
          unfold py_fact
          show rd_x _ (if k = 10 ∨ k = 11 then _ else _)
          rw [if_neg (by omega), if_neg g3, if_pos g4]
          exact hres
      · have g3 : br = 0 := tx_eq1 (b := 0) (by omega) (by decide) rfl c_30
        refine wq (fun _ _ kk => rs_aload_n (pc := 33) dX5_followFact_33 rfl kk) ?_
        obtain ⟨rv_34, hc_34, ⟨rfl, ee_34, T_34, hrd_34, hb, hres⟩, hm_34⟩ := c_X5_closeClause hrd hm ht hI hpa (Or.inr hst)
        refine wq (fun _ _ kk => rs_callV (as := []) (pc := 34) dX5_followFact_34 mk_X5_closeClause mlX5_222 in_X5_closeClause se_X5_closeClause rfl (mo_lt hrd (by decide)) hrd.2.1 rfl rfl (Nat.le_of_ble_eq_true rfl) (hm_34) kk) ?_
        replace hrd := hrd_34
        have E_34 := (xd.rf).trans ee_34
        refine wq (fun _ _ kk => rs_goto (tgt := 61) (pc := 37) dX5_followFact_37 rfl kk) ?_
        refine wq_ret ?_ (rs_vret (pc := 61) dX5_followFact_61 rfl)
        refine ⟨rfl, E_34, _, hrd, hb, ?_⟩
        unfold py_fact
        show rd_x _ (if k = 10 ∨ k = 11 then _ else _)
        rw [if_neg (by omega), if_pos g3]
        exact hres
    · have g2 : k = 11 := kc_in hk19 (by decide) c_15
      refine wq (fun _ _ kk => rs_aload_n (pc := 18) dX5_followFact_18 rfl kk) ?_
      refine wq (fun _ _ kk => rs_iconst (v := 3) (pc := 19) dX5_followFact_19 rfl kk) ?_
      obtain ⟨rv_20, hc_20, ⟨rfl, ee_20, T_20, hrd_20, hb, hres⟩, hm_20⟩ := c_X5_join (s := 3) hrd hm ht hI hpa (Or.inr (by omega)) (by omega) (by rcases (show k = 10 ∨ k = 11 by omega) with rfl | rfl <;> decide) (py_va hI) (fun z => absurd z (by decide))
      refine wq (fun _ _ kk => rs_callV (as := [_]) (pc := 20) dX5_followFact_20 mk_X5_join mlX5_216 in_X5_join se_X5_join rfl (mo_lt hrd (by decide)) hrd.2.1 rfl rfl (Nat.le_of_ble_eq_true rfl) (hm_20) kk) ?_
      replace hrd := hrd_20
      have E_20 := (xd.rf).trans ee_20
      refine wq (fun _ _ kk => rs_goto (tgt := 61) (pc := 23) dX5_followFact_23 rfl kk) ?_
      refine wq_ret ?_ (rs_vret (pc := 61) dX5_followFact_61 rfl)
      refine ⟨rfl, E_20, _, hrd, hb, ?_⟩
      unfold py_fact
      show rd_x _ (if k = 10 ∨ k = 11 then _ else _)
      rw [if_pos (by omega)]
      exact hres
theorem dX5_followRight_0 : decode cX5_followRight 0 = .ok (.aload_n 0, 1) := by decide +kernel
theorem dX5_followRight_1 : decode cX5_followRight 1 = .ok (.invokevirtual 212, 3) := by decide +kernel
theorem dX5_followRight_4 : decode cX5_followRight 4 = .ok (.ifCond .eq 12, 3) := by decide +kernel
theorem dX5_followRight_7 : decode cX5_followRight 7 = .ok (.aload_n 0, 1) := by decide +kernel
theorem dX5_followRight_8 : decode cX5_followRight 8 = .ok (.bipush 6, 2) := by decide +kernel
theorem dX5_followRight_10 : decode cX5_followRight 10 = .ok (.invokevirtual 216, 3) := by decide +kernel
theorem dX5_followRight_13 : decode cX5_followRight 13 = .ok (.goto 7, 3) := by decide +kernel
theorem dX5_followRight_16 : decode cX5_followRight 16 = .ok (.aload_n 0, 1) := by decide +kernel
theorem dX5_followRight_17 : decode cX5_followRight 17 = .ok (.invokevirtual 202, 3) := by decide +kernel
theorem dX5_followRight_20 : decode cX5_followRight 20 = .ok (.return_, 1) := by decide +kernel
set_option maxRecDepth 100000 in
set_option maxHeartbeats 4000000 in
theorem c_X5_followRight {h : ai_H} {S : Md} {n p pa de br k v a e : Nat} {D : List Cl} {A B : List Tk} {pl : List Nat} (hrd : rd_at 13 h S) (hm : rd_m S 7 pa de br D A B pl) (ht : rd_tk S n k v a e) (hI : py_I n 7 p pa de br D A B pl) (hpa : p ≤ a) : ai_QM MX5_followRight [.ref 16] h (fun r g => r = none ∧ xd h g ∧ ∃ T, rd_at 13 g T ∧ T.1 1 = S.1 1 ∧ rd_x T (py_step1 k v a e (7, p, 0, pa, de, br, D, A, B, pl))) := by
  obtain ⟨t2, t3, t4, t5, hk19, han, hae, hen, hv0, hv1, hn4⟩ := id ht
  obtain ⟨⟨m6, m7, m8⟩, ⟨m9a, m9b⟩, ⟨m10, m11, m12⟩, mo, mp⟩ := id hm
  obtain ⟨z1, z2, z3, z4, z5, z6⟩ := rd_room hn4 hI
  refine qm_of (ls := [.ref 16]) (by decide) (by simp [ai_en, Value.category]) (by rfl) ?_
  refine wq (fun _ _ kk => rs_aload_n (pc := 0) dX5_followRight_0 rfl kk) ?_
  refine wq (fun _ _ kk => rs_callV (as := []) (pc := 1) dX5_followRight_1 mk_X5_isArithmetic mlX5_212 in_X5_isArithmetic se_X5_isArithmetic rfl (mo_lt hrd (by decide)) hrd.2.1 rfl rfl (Nat.le_of_ble_eq_true rfl) (c_X5_isArithmetic hrd t4 hk19) kk) ?_
  refine wq_br (fun _ _ kt kf => rs_if_eq (tgt := 16) (pc := 4) dX5_followRight_4 rfl kt kf) (fun c_4 => ?_) (fun c_4 => ?_)
  · have g1 : ¬ (k = 2 ∨ k = 3 ∨ k = 13) := fun z => absurd c_4 (by rw [if_pos z]; decide)
    refine wq (fun _ _ kk => rs_aload_n (pc := 16) dX5_followRight_16 rfl kk) ?_
    obtain ⟨rv_17, hc_17, ⟨rfl, ee_17, T_17, hrd_17, hb, hres⟩, hm_17⟩ := c_X5_followFact hrd hm ht hI hpa (Or.inl rfl)
    refine wq (fun _ _ kk => rs_callV (as := []) (pc := 17) dX5_followRight_17 mk_X5_followFact mlX5_202 in_X5_followFact se_X5_followFact rfl (mo_lt hrd (by decide)) hrd.2.1 rfl rfl (Nat.le_of_ble_eq_true rfl) (hm_17) kk) ?_
    replace hrd := hrd_17
    have E_17 := (xd.rf).trans ee_17
    refine wq_ret ?_ (rs_vret (pc := 20) dX5_followRight_20 rfl)
    refine ⟨rfl, E_17, _, hrd, hb, ?_⟩
    show rd_x _ (if k = 2 ∨ k = 3 ∨ k = 13 then _ else _)
    rw [if_neg g1]
    exact hres
  · have g1 : k = 2 ∨ k = 3 ∨ k = 13 := Classical.byContradiction fun z => c_4 (if_neg z)
    have g1r := py_rk_ar (py_ar_i g1)
    refine wq (fun _ _ kk => rs_aload_n (pc := 7) dX5_followRight_7 rfl kk) ?_
    refine wq (fun _ _ kk => rs_bipush (v := 6) (pc := 8) dX5_followRight_8 rfl kk) ?_
    obtain ⟨rv_10, hc_10, ⟨rfl, ee_10, T_10, hrd_10, hb, hres⟩, hm_10⟩ := c_X5_join (s := 6) hrd hm ht hI hpa (Or.inr (by decide)) (by omega) (by omega) (py_va hI) (fun z => absurd z (by decide))
    refine wq (fun _ _ kk => rs_callV (as := [_]) (pc := 10) dX5_followRight_10 mk_X5_join mlX5_216 in_X5_join se_X5_join rfl (mo_lt hrd (by decide)) hrd.2.1 rfl rfl (Nat.le_of_ble_eq_true rfl) (hm_10) kk) ?_
    replace hrd := hrd_10
    have E_10 := (xd.rf).trans ee_10
    refine wq (fun _ _ kk => rs_goto (tgt := 20) (pc := 13) dX5_followRight_13 rfl kk) ?_
    refine wq_ret ?_ (rs_vret (pc := 20) dX5_followRight_20 rfl)
    refine ⟨rfl, E_10, _, hrd, hb, ?_⟩
    show rd_x _ (if k = 2 ∨ k = 3 ∨ k = 13 then _ else _)
    rw [if_pos g1]
    exact hres
theorem dX5_follow_0 : decode cX5_follow 0 = .ok (.aload_n 0, 1) := by decide +kernel
theorem dX5_follow_1 : decode cX5_follow 1 = .ok (.getfield 32, 3) := by decide +kernel
theorem dX5_follow_4 : decode cX5_follow 4 = .ok (.tableswitch 108 0 7 #[48, 55, 63, 70, 77, 85, 92, 101], 48) := by decide +kernel
theorem dX5_follow_52 : decode cX5_follow 52 = .ok (.aload_n 0, 1) := by decide +kernel
theorem dX5_follow_53 : decode cX5_follow 53 = .ok (.invokevirtual 183, 3) := by decide +kernel
theorem dX5_follow_56 : decode cX5_follow 56 = .ok (.goto 60, 3) := by decide +kernel
theorem dX5_follow_59 : decode cX5_follow 59 = .ok (.aload_n 0, 1) := by decide +kernel
theorem dX5_follow_60 : decode cX5_follow 60 = .ok (.iconst 2, 1) := by decide +kernel
theorem dX5_follow_61 : decode cX5_follow 61 = .ok (.invokevirtual 186, 3) := by decide +kernel
theorem dX5_follow_64 : decode cX5_follow 64 = .ok (.goto 52, 3) := by decide +kernel
theorem dX5_follow_67 : decode cX5_follow 67 = .ok (.aload_n 0, 1) := by decide +kernel
theorem dX5_follow_68 : decode cX5_follow 68 = .ok (.invokevirtual 190, 3) := by decide +kernel
theorem dX5_follow_71 : decode cX5_follow 71 = .ok (.goto 45, 3) := by decide +kernel
theorem dX5_follow_74 : decode cX5_follow 74 = .ok (.aload_n 0, 1) := by decide +kernel
theorem dX5_follow_75 : decode cX5_follow 75 = .ok (.invokevirtual 193, 3) := by decide +kernel
theorem dX5_follow_78 : decode cX5_follow 78 = .ok (.goto 38, 3) := by decide +kernel
theorem dX5_follow_81 : decode cX5_follow 81 = .ok (.aload_n 0, 1) := by decide +kernel
theorem dX5_follow_82 : decode cX5_follow 82 = .ok (.iconst 5, 1) := by decide +kernel
theorem dX5_follow_83 : decode cX5_follow 83 = .ok (.invokevirtual 186, 3) := by decide +kernel
theorem dX5_follow_86 : decode cX5_follow 86 = .ok (.goto 30, 3) := by decide +kernel
theorem dX5_follow_89 : decode cX5_follow 89 = .ok (.aload_n 0, 1) := by decide +kernel
theorem dX5_follow_90 : decode cX5_follow 90 = .ok (.invokevirtual 196, 3) := by decide +kernel
theorem dX5_follow_93 : decode cX5_follow 93 = .ok (.goto 23, 3) := by decide +kernel
theorem dX5_follow_96 : decode cX5_follow 96 = .ok (.aload_n 0, 1) := by decide +kernel
theorem dX5_follow_97 : decode cX5_follow 97 = .ok (.bipush 7, 2) := by decide +kernel
theorem dX5_follow_99 : decode cX5_follow 99 = .ok (.invokevirtual 186, 3) := by decide +kernel
theorem dX5_follow_102 : decode cX5_follow 102 = .ok (.goto 14, 3) := by decide +kernel
theorem dX5_follow_105 : decode cX5_follow 105 = .ok (.aload_n 0, 1) := by decide +kernel
theorem dX5_follow_106 : decode cX5_follow 106 = .ok (.invokevirtual 199, 3) := by decide +kernel
theorem dX5_follow_109 : decode cX5_follow 109 = .ok (.goto 7, 3) := by decide +kernel
theorem dX5_follow_112 : decode cX5_follow 112 = .ok (.aload_n 0, 1) := by decide +kernel
theorem dX5_follow_113 : decode cX5_follow 113 = .ok (.invokevirtual 202, 3) := by decide +kernel
theorem dX5_follow_116 : decode cX5_follow 116 = .ok (.return_, 1) := by decide +kernel
set_option maxRecDepth 100000 in
set_option maxHeartbeats 4000000 in
theorem c_X5_follow {h : ai_H} {S : Md} {n st p pa de br k v a e : Nat} {D : List Cl} {A B : List Tk} {pl : List Nat} (hrd : rd_at 13 h S) (hm : rd_m S st pa de br D A B pl) (ht : rd_tk S n k v a e) (hI : py_I n st p pa de br D A B pl) (hpa : p ≤ a) (hst : st ≤ 8) : ai_QM MX5_follow [.ref 16] h (fun r g => r = none ∧ xd h g ∧ ∃ T, rd_at 13 g T ∧ T.1 1 = S.1 1 ∧ rd_x T (py_step1 k v a e (st, p, 0, pa, de, br, D, A, B, pl))) := by
  refine qm_of (ls := [.ref 16]) (by decide) (by simp [ai_en, Value.category]) (by rfl) ?_
  have m6 := hm.1.1
  have : st = 0 ∨ st = 1 ∨ st = 2 ∨ st = 3 ∨ st = 4 ∨ st = 5 ∨ st = 6 ∨ st = 7 ∨ st = 8 := by omega
  rcases this with rfl | rfl | rfl | rfl | rfl | rfl | rfl | rfl | rfl
  · obtain ⟨rv, hc, ⟨rfl, ee, T, hrdT, hb, hres⟩, hmt⟩ := c_X5_openClause hrd hm ht hI hpa
    refine wq (fun _ _ kk => rs_aload_n (pc := 0) dX5_follow_0 rfl kk) ?_
    refine wq (fun _ _ kk => rs_getf (pc := 1) dX5_follow_1 fX5_32 (mo_lt hrd (by decide)) hrd.2.1 rfl kk) ?_
    rw [m6]
    refine wq (fun _ _ kk => wk_tab 0 (by rfl) (tgt := 52) (pc := 4) dX5_follow_4 (by decide) (by decide) rfl rfl kk) ?_
    refine wq (fun _ _ kk => rs_aload_n (pc := 52) dX5_follow_52 rfl kk) ?_
    refine wq (fun _ _ kk => rs_callV (as := []) (pc := 53) dX5_follow_53 mk_X5_openClause mlX5_183 in_X5_openClause se_X5_openClause rfl (mo_lt hrd (by decide)) hrd.2.1 rfl rfl (Nat.le_of_ble_eq_true rfl) hmt kk) ?_
    refine wq (fun _ _ kk => rs_goto (tgt := 116) (pc := 56) dX5_follow_56 rfl kk) ?_
    refine wq_ret ?_ (rs_vret (pc := 116) dX5_follow_116 rfl)
    exact ⟨rfl, ee, T, hrdT, hb, hres⟩
  · obtain ⟨rv, hc, ⟨rfl, ee, T, hrdT, hb, hres⟩, hmt⟩ := c_X5_putValue (s := 2) hrd hm ht hI hpa (Or.inl ⟨rfl, rfl⟩)
    refine wq (fun _ _ kk => rs_aload_n (pc := 0) dX5_follow_0 rfl kk) ?_
    refine wq (fun _ _ kk => rs_getf (pc := 1) dX5_follow_1 fX5_32 (mo_lt hrd (by decide)) hrd.2.1 rfl kk) ?_
    rw [m6]
    refine wq (fun _ _ kk => wk_tab 1 (by rfl) (tgt := 59) (pc := 4) dX5_follow_4 (by decide) (by decide) rfl rfl kk) ?_
    refine wq (fun _ _ kk => rs_aload_n (pc := 59) dX5_follow_59 rfl kk) ?_
    refine wq (fun _ _ kk => rs_iconst (v := 2) (pc := 60) dX5_follow_60 rfl kk) ?_
    refine wq (fun _ _ kk => rs_callV (as := [_]) (pc := 61) dX5_follow_61 mk_X5_putValue mlX5_186 in_X5_putValue se_X5_putValue rfl (mo_lt hrd (by decide)) hrd.2.1 rfl rfl (Nat.le_of_ble_eq_true rfl) hmt kk) ?_
    refine wq (fun _ _ kk => rs_goto (tgt := 116) (pc := 64) dX5_follow_64 rfl kk) ?_
    refine wq_ret ?_ (rs_vret (pc := 116) dX5_follow_116 rfl)
    exact ⟨rfl, ee, T, hrdT, hb, hres⟩
  · obtain ⟨rv, hc, ⟨rfl, ee, T, hrdT, hb, hres⟩, hmt⟩ := c_X5_followValue hrd hm ht hI hpa
    refine wq (fun _ _ kk => rs_aload_n (pc := 0) dX5_follow_0 rfl kk) ?_
    refine wq (fun _ _ kk => rs_getf (pc := 1) dX5_follow_1 fX5_32 (mo_lt hrd (by decide)) hrd.2.1 rfl kk) ?_
    rw [m6]
    refine wq (fun _ _ kk => wk_tab 2 (by rfl) (tgt := 67) (pc := 4) dX5_follow_4 (by decide) (by decide) rfl rfl kk) ?_
    refine wq (fun _ _ kk => rs_aload_n (pc := 67) dX5_follow_67 rfl kk) ?_
    refine wq (fun _ _ kk => rs_callV (as := []) (pc := 68) dX5_follow_68 mk_X5_followValue mlX5_190 in_X5_followValue se_X5_followValue rfl (mo_lt hrd (by decide)) hrd.2.1 rfl rfl (Nat.le_of_ble_eq_true rfl) hmt kk) ?_
    refine wq (fun _ _ kk => rs_goto (tgt := 116) (pc := 71) dX5_follow_71 rfl kk) ?_
    refine wq_ret ?_ (rs_vret (pc := 116) dX5_follow_116 rfl)
    exact ⟨rfl, ee, T, hrdT, hb, hres⟩
  · obtain ⟨rv, hc, ⟨rfl, ee, T, hrdT, hb, hres⟩, hmt⟩ := c_X5_openFact hrd hm ht hI hpa
    refine wq (fun _ _ kk => rs_aload_n (pc := 0) dX5_follow_0 rfl kk) ?_
    refine wq (fun _ _ kk => rs_getf (pc := 1) dX5_follow_1 fX5_32 (mo_lt hrd (by decide)) hrd.2.1 rfl kk) ?_
    rw [m6]
    refine wq (fun _ _ kk => wk_tab 3 (by rfl) (tgt := 74) (pc := 4) dX5_follow_4 (by decide) (by decide) rfl rfl kk) ?_
    refine wq (fun _ _ kk => rs_aload_n (pc := 74) dX5_follow_74 rfl kk) ?_
    refine wq (fun _ _ kk => rs_callV (as := []) (pc := 75) dX5_follow_75 mk_X5_openFact mlX5_193 in_X5_openFact se_X5_openFact rfl (mo_lt hrd (by decide)) hrd.2.1 rfl rfl (Nat.le_of_ble_eq_true rfl) hmt kk) ?_
    refine wq (fun _ _ kk => rs_goto (tgt := 116) (pc := 78) dX5_follow_78 rfl kk) ?_
    refine wq_ret ?_ (rs_vret (pc := 116) dX5_follow_116 rfl)
    exact ⟨rfl, ee, T, hrdT, hb, hres⟩
  · obtain ⟨rv, hc, ⟨rfl, ee, T, hrdT, hb, hres⟩, hmt⟩ := c_X5_putValue (s := 5) hrd hm ht hI hpa (Or.inr (Or.inr (Or.inl ⟨rfl, rfl⟩)))
    refine wq (fun _ _ kk => rs_aload_n (pc := 0) dX5_follow_0 rfl kk) ?_
    refine wq (fun _ _ kk => rs_getf (pc := 1) dX5_follow_1 fX5_32 (mo_lt hrd (by decide)) hrd.2.1 rfl kk) ?_
    rw [m6]
    refine wq (fun _ _ kk => wk_tab 4 (by rfl) (tgt := 81) (pc := 4) dX5_follow_4 (by decide) (by decide) rfl rfl kk) ?_
    refine wq (fun _ _ kk => rs_aload_n (pc := 81) dX5_follow_81 rfl kk) ?_
    refine wq (fun _ _ kk => rs_iconst (v := 5) (pc := 82) dX5_follow_82 rfl kk) ?_
    refine wq (fun _ _ kk => rs_callV (as := [_]) (pc := 83) dX5_follow_83 mk_X5_putValue mlX5_186 in_X5_putValue se_X5_putValue rfl (mo_lt hrd (by decide)) hrd.2.1 rfl rfl (Nat.le_of_ble_eq_true rfl) hmt kk) ?_
    refine wq (fun _ _ kk => rs_goto (tgt := 116) (pc := 86) dX5_follow_86 rfl kk) ?_
    refine wq_ret ?_ (rs_vret (pc := 116) dX5_follow_116 rfl)
    exact ⟨rfl, ee, T, hrdT, hb, hres⟩
  · obtain ⟨rv, hc, ⟨rfl, ee, T, hrdT, hb, hres⟩, hmt⟩ := c_X5_followLeft hrd hm ht hI hpa
    refine wq (fun _ _ kk => rs_aload_n (pc := 0) dX5_follow_0 rfl kk) ?_
    refine wq (fun _ _ kk => rs_getf (pc := 1) dX5_follow_1 fX5_32 (mo_lt hrd (by decide)) hrd.2.1 rfl kk) ?_
    rw [m6]
    refine wq (fun _ _ kk => wk_tab 5 (by rfl) (tgt := 89) (pc := 4) dX5_follow_4 (by decide) (by decide) rfl rfl kk) ?_
    refine wq (fun _ _ kk => rs_aload_n (pc := 89) dX5_follow_89 rfl kk) ?_
    refine wq (fun _ _ kk => rs_callV (as := []) (pc := 90) dX5_follow_90 mk_X5_followLeft mlX5_196 in_X5_followLeft se_X5_followLeft rfl (mo_lt hrd (by decide)) hrd.2.1 rfl rfl (Nat.le_of_ble_eq_true rfl) hmt kk) ?_
    refine wq (fun _ _ kk => rs_goto (tgt := 116) (pc := 93) dX5_follow_93 rfl kk) ?_
    refine wq_ret ?_ (rs_vret (pc := 116) dX5_follow_116 rfl)
    exact ⟨rfl, ee, T, hrdT, hb, hres⟩
  · obtain ⟨rv, hc, ⟨rfl, ee, T, hrdT, hb, hres⟩, hmt⟩ := c_X5_putValue (s := 7) hrd hm ht hI hpa (Or.inr (Or.inr (Or.inr ⟨rfl, rfl⟩)))
    refine wq (fun _ _ kk => rs_aload_n (pc := 0) dX5_follow_0 rfl kk) ?_
    refine wq (fun _ _ kk => rs_getf (pc := 1) dX5_follow_1 fX5_32 (mo_lt hrd (by decide)) hrd.2.1 rfl kk) ?_
    rw [m6]
    refine wq (fun _ _ kk => wk_tab 6 (by rfl) (tgt := 96) (pc := 4) dX5_follow_4 (by decide) (by decide) rfl rfl kk) ?_
    refine wq (fun _ _ kk => rs_aload_n (pc := 96) dX5_follow_96 rfl kk) ?_
    refine wq (fun _ _ kk => rs_bipush (v := 7) (pc := 97) dX5_follow_97 rfl kk) ?_
    refine wq (fun _ _ kk => rs_callV (as := [_]) (pc := 99) dX5_follow_99 mk_X5_putValue mlX5_186 in_X5_putValue se_X5_putValue rfl (mo_lt hrd (by decide)) hrd.2.1 rfl rfl (Nat.le_of_ble_eq_true rfl) hmt kk) ?_
    refine wq (fun _ _ kk => rs_goto (tgt := 116) (pc := 102) dX5_follow_102 rfl kk) ?_
    refine wq_ret ?_ (rs_vret (pc := 116) dX5_follow_116 rfl)
    exact ⟨rfl, ee, T, hrdT, hb, hres⟩
  · obtain ⟨rv, hc, ⟨rfl, ee, T, hrdT, hb, hres⟩, hmt⟩ := c_X5_followRight hrd hm ht hI hpa
    refine wq (fun _ _ kk => rs_aload_n (pc := 0) dX5_follow_0 rfl kk) ?_
    refine wq (fun _ _ kk => rs_getf (pc := 1) dX5_follow_1 fX5_32 (mo_lt hrd (by decide)) hrd.2.1 rfl kk) ?_
    rw [m6]
    refine wq (fun _ _ kk => wk_tab 7 (by rfl) (tgt := 105) (pc := 4) dX5_follow_4 (by decide) (by decide) rfl rfl kk) ?_
    refine wq (fun _ _ kk => rs_aload_n (pc := 105) dX5_follow_105 rfl kk) ?_
    refine wq (fun _ _ kk => rs_callV (as := []) (pc := 106) dX5_follow_106 mk_X5_followRight mlX5_199 in_X5_followRight se_X5_followRight rfl (mo_lt hrd (by decide)) hrd.2.1 rfl rfl (Nat.le_of_ble_eq_true rfl) hmt kk) ?_
    refine wq (fun _ _ kk => rs_goto (tgt := 116) (pc := 109) dX5_follow_109 rfl kk) ?_
    refine wq_ret ?_ (rs_vret (pc := 116) dX5_follow_116 rfl)
    exact ⟨rfl, ee, T, hrdT, hb, hres⟩
  · obtain ⟨rv, hc, ⟨rfl, ee, T, hrdT, hb, hres⟩, hmt⟩ := c_X5_followFact hrd hm ht hI hpa (Or.inr rfl)
    refine wq (fun _ _ kk => rs_aload_n (pc := 0) dX5_follow_0 rfl kk) ?_
    refine wq (fun _ _ kk => rs_getf (pc := 1) dX5_follow_1 fX5_32 (mo_lt hrd (by decide)) hrd.2.1 rfl kk) ?_
    rw [m6]
    refine wq (fun _ _ kk => rs_tableOut (tgt := 112) (pc := 4) dX5_follow_4 (by decide) rfl kk) ?_
    refine wq (fun _ _ kk => rs_aload_n (pc := 112) dX5_follow_112 rfl kk) ?_
    refine wq (fun _ _ kk => rs_callV (as := []) (pc := 113) dX5_follow_113 mk_X5_followFact mlX5_202 in_X5_followFact se_X5_followFact rfl (mo_lt hrd (by decide)) hrd.2.1 rfl rfl (Nat.le_of_ble_eq_true rfl) hmt kk) ?_
    refine wq_ret ?_ (rs_vret (pc := 116) dX5_follow_116 rfl)
    exact ⟨rfl, ee, T, hrdT, hb, hres⟩
