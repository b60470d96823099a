/-! 72: the class's reader: what follows a token (walks laid by wip/whole/p72.py) -/
/-- the reader's fields hold a state of the machine -/
def rd_m (S : Md) (st pa de br : Nat) (D : List Cl) (A B : List Tk) (pl : List Nat) : Prop := (S.1 6 = nI st ∧ S.1 7 = 0 ∧ S.1 8 = nI (D.length + if st = 0 ∨ st = 9 then 0 else 1)) ∧ ((st = 1 ∨ st = 2 → S.1 9 = 0) ∧ (3 ≤ st ∧ st ≤ 8 → S.1 9 = 1)) ∧ (S.1 10 = nI pa ∧ S.1 11 = nI de ∧ S.1 12 = nI br) ∧ rd_out S (stp D ++ (A ++ B).map tkN) ∧ rd_pile S pl
def rd_x (S : Md) (x : PS) : Prop := S.1 7 = nI x.2.2.1 ∧ (x.2.2.1 = 0 → S.1 3 = nI x.2.1 ∧ rd_m S x.1 x.2.2.2.1 x.2.2.2.2.1 x.2.2.2.2.2.1 x.2.2.2.2.2.2.1 x.2.2.2.2.2.2.2.1 x.2.2.2.2.2.2.2.2.1 x.2.2.2.2.2.2.2.2.2)
/-- a token has been taken -/
def rd_tk (S : Md) (n k v a e : Nat) : Prop := S.1 2 = nI a ∧ S.1 3 = nI e ∧ S.1 4 = nI (tx_kc k) ∧ (k ≤ 1 → S.1 5 = nI v) ∧ k ≤ 19 ∧ a ≤ n ∧ a + 1 ≤ e ∧ e ≤ n + 1 ∧ (k = 0 → v ≤ 99999) ∧ (k = 1 → v < 10) ∧ n ≤ 400
theorem rd_x_f {T : Md} {c a : Nat} {x : PS} (h : T.1 7 = nI (1 + 8 * a + c)) : rd_x T (py_fail c a x) := by
  obtain ⟨st, p, fl, pa, de, br, D, A, B, pl⟩ := x
  refine ⟨h, fun z => ?_⟩
  exact absurd z (by show ¬ 1 + 8 * a + c = 0; omega)
theorem rd_x_i {T : Md} {st p pa de br : Nat} {D : List Cl} {A B : List Tk} {pl : List Nat} (h3 : T.1 3 = nI p) (h : rd_m T st pa de br D A B pl) : rd_x T (st, p, 0, pa, de, br, D, A, B, pl) := ⟨h.1.2.1, fun _ => ⟨h3, h⟩⟩
theorem kc_tk {x : Nat} (h : 2 ≤ x ∧ x ≤ 13) (h12 : x ≠ 12) : tx_kc x = tkN (x, 0) := by
  have : x = 2 ∨ x = 3 ∨ x = 4 ∨ x = 5 ∨ x = 6 ∨ x = 7 ∨ x = 8 ∨ x = 9 ∨ x = 10 ∨ x = 11 ∨ x = 13 := by omega
  rcases this with rfl | rfl | rfl | rfl | rfl | rfl | rfl | rfl | rfl | rfl | rfl <;> rfl
theorem kc_tw {r : Nat} (hr : 1 ≤ r) : ∀ {l : List Nat}, (∀ x, x ∈ l → 2 ≤ x ∧ x ≤ 13) → (py_tw r l).map tx_kc = (py_tk (py_tw r l)).map tkN
  | [], _ => rfl
  | x :: l, h => by
    by_cases hx : r ≤ py_rk x
    · rw [py_tw_y hx]
      show tx_kc x :: (py_tw r l).map tx_kc = tkN (x, 0) :: (py_tk (py_tw r l)).map tkN
      rw [kc_tw hr (fun y hy => h y (List.mem_cons_of_mem _ hy)), kc_tk (h x (List.mem_cons_self ..)) (fun z => by rw [z] at hx; exact absurd hx (by have : py_rk 12 = 0 := rfl; omega))]
    · rw [py_tw_n hx]; rfl
theorem stp_len2 : ∀ D : List Cl, (stp D).length = (ent D).length + D.length
  | [] => rfl
  | c :: D => by
    show ((c.1 ++ c.2).map tkN ++ mkc c :: stp D).length = (c.1 ++ c.2 ++ ent D).length + (D.length + 1)
    rw [List.length_append, List.length_map, List.length_cons, stp_len2 D, List.length_append (as := c.1 ++ c.2)]
    omega
theorem stp_app : ∀ (D : List Cl) (c : Cl), stp (D ++ [c]) = stp D ++ ((c.1 ++ c.2).map tkN ++ [mkc c])
  | [], c => by show (c.1 ++ c.2).map tkN ++ mkc c :: [] = [] ++ _; rw [List.nil_append]
  | d :: D, c => by
    show (d.1 ++ d.2).map tkN ++ mkc d :: stp (D ++ [c]) = ((d.1 ++ d.2).map tkN ++ mkc d :: stp D) ++ _
    rw [stp_app D c, List.append_assoc, List.cons_append]
theorem out_A (D : List Cl) (A L : List Tk) : stp D ++ (A ++ L ++ []).map tkN = stp D ++ (A ++ []).map tkN ++ L.map tkN := by simp
theorem out_B (D : List Cl) (A B L : List Tk) : stp D ++ (A ++ (B ++ L)).map tkN = stp D ++ (A ++ B).map tkN ++ L.map tkN := by simp
/-- room -/
theorem rd_room {n st p pa de br : Nat} {D : List Cl} {A B : List Tk} {pl : List Nat} (hn : n ≤ 400) (h : py_I n st p pa de br D A B pl) : pl.length ≤ 35 ∧ (stp D ++ (A ++ B).map tkN).length + pl.length ≤ 310 ∧ D.length ≤ 12 ∧ pa ≤ 60 ∧ de ≤ 10 ∧ br ≤ 35 := by
  obtain ⟨a, b, c⟩ := py_room hn h
  have hb : br ≤ pl.length := by rw [h.2.2.1.2.2.1]; exact List.countP_le_length
  refine ⟨a, ?_, c, h.1.1, h.2.2.1.2.1, by omega⟩
  rw [List.length_append, stp_len2, List.length_map]
  rw [List.length_append, List.length_append] at b
  rw [List.length_append]
  omega
theorem py_nt_le {r : Nat} {pl : List Nat} (hr : 1 ≤ r) : py_nt (py_tw r pl) ≤ py_dp pl := by
  have := (py_cnt hr pl).2.1
  omega
theorem rd_m.of {S T : Md} {st pa de br : Nat} {D : List Cl} {A B : List Tk} {pl : List Nat} (h : rd_m S st pa de br D A B pl) (e : ∀ j, 6 ≤ j → j ≤ 16 → T.1 j = S.1 j) (e2 : T.2 = S.2) : rd_m T st pa de br D A B pl := by
  unfold rd_m rd_out rd_pile at h ⊢
  rw [e 6 (by decide) (by decide), e 7 (by decide) (by decide), e 8 (by decide) (by decide), e 9 (by decide) (by decide), e 10 (by decide) (by decide), e 11 (by decide) (by decide), e 12 (by decide) (by decide), e 14 (by decide) (by decide), e 16 (by decide) (by decide), e2]
  exact h
theorem dX5_fail_0 : decode cX5_fail 0 = .ok (.aload_n 0, 1) := by decide +kernel
theorem dX5_fail_1 : decode cX5_fail 1 = .ok (.iconst 1, 1) := by decide +kernel
theorem dX5_fail_2 : decode cX5_fail 2 = .ok (.bipush 8, 2) := by decide +kernel
theorem dX5_fail_4 : decode cX5_fail 4 = .ok (.aload_n 0, 1) := by decide +kernel
theorem dX5_fail_5 : decode cX5_fail 5 = .ok (.getfield 19, 3) := by decide +kernel
theorem dX5_fail_8 : decode cX5_fail 8 = .ok (.imul, 1) := by decide +kernel
theorem dX5_fail_9 : decode cX5_fail 9 = .ok (.iadd, 1) := by decide +kernel
theorem dX5_fail_10 : decode cX5_fail 10 = .ok (.iload_n 1, 1) := by decide +kernel
theorem dX5_fail_11 : decode cX5_fail 11 = .ok (.iadd, 1) := by decide +kernel
theorem dX5_fail_12 : decode cX5_fail 12 = .ok (.putfield 35, 3) := by decide +kernel
theorem dX5_fail_15 : decode cX5_fail 15 = .ok (.return_, 1) := by decide +kernel
set_option maxRecDepth 100000 in
set_option maxHeartbeats 4000000 in
theorem c_X5_fail {h : ai_H} {S : Md} {a c : Nat} (hrd : rd_at 13 h S) (h2 : S.1 2 = nI a) : ai_QM MX5_fail [.ref 16, .int (nI c)] h (fun r g => r = none ∧ xd h g ∧ ∃ T, rd_at 13 g T ∧ T.1 7 = nI (1 + 8 * a + c) ∧ (∀ j, j ≠ 7 → T.1 j = S.1 j) ∧ T.2 = S.2) := by
  refine qm_of (ls := [.ref 16, .int (nI c)]) (by decide) (by simp [ai_en, Value.category]) (by rfl) ?_
  refine wq (fun _ _ kk => rs_aload_n (pc := 0) dX5_fail_0 rfl kk) ?_
  refine wq (fun _ _ kk => rs_iconst (v := 1) (pc := 1) dX5_fail_1 rfl kk) ?_
  refine wq (fun _ _ kk => rs_bipush (v := 8) (pc := 2) dX5_fail_2 rfl kk) ?_
  refine wq (fun _ _ kk => rs_aload_n (pc := 4) dX5_fail_4 rfl kk) ?_
  refine wq (fun _ _ kk => rs_getf (pc := 5) dX5_fail_5 fX5_19 (mo_lt hrd (by decide)) hrd.2.1 rfl kk) ?_
  rw [h2]
  refine wq (fun _ _ kk => rs_imul (pc := 8) dX5_fail_8 kk) ?_
  refine wq (fun _ _ kk => rs_iadd (pc := 9) dX5_fail_9 kk) ?_
  refine wq (fun _ _ kk => rs_iload_n (pc := 10) dX5_fail_10 rfl kk) ?_
  refine wq (fun _ _ kk => rs_iadd (pc := 11) dX5_fail_11 kk) ?_
  rw [show (8 : Int32) = nI 8 from rfl, nI_mul, show (1 : Int32) = nI 1 from rfl, nI_add, nI_add]
  refine wq (fun _ _ kk => rs_putf (pc := 12) dX5_fail_12 fX5_35 (mo_lt hrd (by decide)) hrd.2.1 rfl (Nat.le_of_ble_eq_true rfl) kk) ?_
  refine wq_gen (fun h_1 e_1 => ?_)
  obtain ⟨m_1, s_1, g_1, o_1⟩ := ai_e1 e_1
  replace hrd := mo_si (k := 7) hrd m_1 g_1 o_1 rfl
  have E_1 := (xd.rf).trans (xd_of m_1 s_1 o_1 (by decide))
  obtain ⟨S_12, hrd, k_12, r_12, s_12⟩ := rd_new hrd
  refine wq_ret ?_ (rs_vret (pc := 15) dX5_fail_15 rfl)
  exact ⟨rfl, E_1, S_12, hrd, k_12, r_12, s_12⟩
theorem dX5_isArithmetic_0 : decode cX5_isArithmetic 0 = .ok (.aload_n 0, 1) := by decide +kernel
theorem dX5_isArithmetic_1 : decode cX5_isArithmetic 1 = .ok (.getfield 26, 3) := by decide +kernel
theorem dX5_isArithmetic_4 : decode cX5_isArithmetic 4 = .ok (.ldc 177, 2) := by decide +kernel
theorem dX5_isArithmetic_6 : decode cX5_isArithmetic 6 = .ok (.if_icmp .eq 21, 3) := by decide +kernel
theorem dX5_isArithmetic_9 : decode cX5_isArithmetic 9 = .ok (.aload_n 0, 1) := by decide +kernel
theorem dX5_isArithmetic_10 : decode cX5_isArithmetic 10 = .ok (.getfield 26, 3) := by decide +kernel
theorem dX5_isArithmetic_13 : decode cX5_isArithmetic 13 = .ok (.ldc 178, 2) := by decide +kernel
theorem dX5_isArithmetic_15 : decode cX5_isArithmetic 15 = .ok (.if_icmp .eq 12, 3) := by decide +kernel
theorem dX5_isArithmetic_18 : decode cX5_isArithmetic 18 = .ok (.aload_n 0, 1) := by decide +kernel
theorem dX5_isArithmetic_19 : decode cX5_isArithmetic 19 = .ok (.getfield 26, 3) := by decide +kernel
theorem dX5_isArithmetic_22 : decode cX5_isArithmetic 22 = .ok (.ldc 179, 2) := by decide +kernel
theorem dX5_isArithmetic_24 : decode cX5_isArithmetic 24 = .ok (.if_icmp .ne 7, 3) := by decide +kernel
theorem dX5_isArithmetic_27 : decode cX5_isArithmetic 27 = .ok (.iconst 1, 1) := by decide +kernel
theorem dX5_isArithmetic_28 : decode cX5_isArithmetic 28 = .ok (.goto 4, 3) := by decide +kernel
theorem dX5_isArithmetic_31 : decode cX5_isArithmetic 31 = .ok (.iconst 0, 1) := by decide +kernel
theorem dX5_isArithmetic_32 : decode cX5_isArithmetic 32 = .ok (.ireturn, 1) := by decide +kernel
set_option maxRecDepth 100000 in
set_option maxHeartbeats 4000000 in
theorem c_X5_isArithmetic {h : ai_H} {S : Md} {k : Nat} (hrd : rd_at 13 h S) (t4 : S.1 4 = nI (tx_kc k)) (hk19 : k ≤ 19) : ai_Met MX5_isArithmetic [.ref 16] h (some (.int (if k = 2 ∨ k = 3 ∨ k = 13 then 1 else 0))) h := by
  refine ai_met (ls := [.ref 16]) (by decide) (by simp [ai_en, Value.category]) (by rfl) ?_
  refine rs_aload_n (pc := 0) dX5_isArithmetic_0 rfl ?_
  refine rs_getf (pc := 1) dX5_isArithmetic_1 fX5_26 (mo_lt hrd (by decide)) hrd.2.1 rfl ?_
  rw [t4]
  refine rs_ldc (pc := 4) dX5_isArithmetic_4 cnX5_177 ?_
  refine rs_icmp_eq (tgt := 27) (pc := 6) dX5_isArithmetic_6 rfl (fun c_6 => ?_) (fun c_6 => ?_)
  · have g1 : k = 2 := kc_in hk19 (by decide) c_6
    refine rs_iconst (v := 1) (pc := 27) dX5_isArithmetic_27 rfl ?_
    refine rs_goto (tgt := 32) (pc := 28) dX5_isArithmetic_28 rfl ?_
    exact wk_zret (pc := 32) dX5_isArithmetic_32 rfl (Or.inr rfl) (by rw [if_pos (by omega)]) (rfl)
  · have g1 : ¬ k = 2 := fun z => c_6 (by rw [z]; rfl)
    refine rs_aload_n (pc := 9) dX5_isArithmetic_9 rfl ?_
    refine rs_getf (pc := 10) dX5_isArithmetic_10 fX5_26 (mo_lt hrd (by decide)) hrd.2.1 rfl ?_
    rw [t4]
    refine rs_ldc (pc := 13) dX5_isArithmetic_13 cnX5_178 ?_
    refine rs_icmp_eq (tgt := 27) (pc := 15) dX5_isArithmetic_15 rfl (fun c_15 => ?_) (fun c_15 => ?_)
    · have g2 : k = 3 := kc_in hk19 (by decide) c_15
      refine rs_iconst (v := 1) (pc := 27) dX5_isArithmetic_27 rfl ?_
      refine rs_goto (tgt := 32) (pc := 28) dX5_isArithmetic_28 rfl ?_
      exact wk_zret (pc := 32) dX5_isArithmetic_32 rfl (Or.inr rfl) (by rw [if_pos (by omega)]) (rfl)
    · have g2 : ¬ k = 3 := fun z => c_15 (by rw [z]; rfl)
      refine rs_aload_n (pc := 18) dX5_isArithmetic_18 rfl ?_
      refine rs_getf (pc := 19) dX5_isArithmetic_19 fX5_26 (mo_lt hrd (by decide)) hrd.2.1 rfl ?_
      rw [t4]
      refine rs_ldc (pc := 22) dX5_isArithmetic_22 cnX5_179 ?_
      refine rs_icmp_ne (tgt := 31) (pc := 24) dX5_isArithmetic_24 rfl (fun c_24 => ?_) (fun c_24 => ?_)
      · have g3 : ¬ k = 13 := fun z => c_24 (by rw [z]; rfl)
        refine rs_iconst (v := 0) (pc := 31) dX5_isArithmetic_31 rfl ?_
        exact wk_zret (pc := 32) dX5_isArithmetic_32 rfl (Or.inl rfl) (by rw [if_neg (by omega)]) (rfl)
      · have g3 : k = 13 := kc_in hk19 (by decide) c_24
        refine rs_iconst (v := 1) (pc := 27) dX5_isArithmetic_27 rfl ?_
        refine rs_goto (tgt := 32) (pc := 28) dX5_isArithmetic_28 rfl ?_
        exact wk_zret (pc := 32) dX5_isArithmetic_32 rfl (Or.inr rfl) (by rw [if_pos (by omega)]) (rfl)
theorem dX5_putValue_0 : decode cX5_putValue 0 = .ok (.aload_n 0, 1) := by decide +kernel
theorem dX5_putValue_1 : decode cX5_putValue 1 = .ok (.getfield 26, 3) := by decide +kernel
theorem dX5_putValue_4 : decode cX5_putValue 4 = .ok (.ldc 107, 2) := by decide +kernel
theorem dX5_putValue_6 : decode cX5_putValue 6 = .ok (.if_icmp .eq 20, 3) := by decide +kernel
theorem dX5_putValue_9 : decode cX5_putValue 9 = .ok (.aload_n 0, 1) := by decide +kernel
theorem dX5_putValue_10 : decode cX5_putValue 10 = .ok (.getfield 26, 3) := by decide +kernel
theorem dX5_putValue_13 : decode cX5_putValue 13 = .ok (.ldc 115, 2) := by decide +kernel
theorem dX5_putValue_15 : decode cX5_putValue 15 = .ok (.if_icmp .eq 11, 3) := by decide +kernel
theorem dX5_putValue_18 : decode cX5_putValue 18 = .ok (.aload_n 0, 1) := by decide +kernel
theorem dX5_putValue_19 : decode cX5_putValue 19 = .ok (.iconst 0, 1) := by decide +kernel
theorem dX5_putValue_20 : decode cX5_putValue 20 = .ok (.invokevirtual 205, 3) := by decide +kernel
theorem dX5_putValue_23 : decode cX5_putValue 23 = .ok (.goto 92, 3) := by decide +kernel
theorem dX5_putValue_26 : decode cX5_putValue 26 = .ok (.aload_n 0, 1) := by decide +kernel
theorem dX5_putValue_27 : decode cX5_putValue 27 = .ok (.getfield 26, 3) := by decide +kernel
theorem dX5_putValue_30 : decode cX5_putValue 30 = .ok (.ldc 107, 2) := by decide +kernel
theorem dX5_putValue_32 : decode cX5_putValue 32 = .ok (.if_icmp .ne 24, 3) := by decide +kernel
theorem dX5_putValue_35 : decode cX5_putValue 35 = .ok (.aload_n 0, 1) := by decide +kernel
theorem dX5_putValue_36 : decode cX5_putValue 36 = .ok (.getfield 22, 3) := by decide +kernel
theorem dX5_putValue_39 : decode cX5_putValue 39 = .ok (.aload_n 0, 1) := by decide +kernel
theorem dX5_putValue_40 : decode cX5_putValue 40 = .ok (.getfield 19, 3) := by decide +kernel
theorem dX5_putValue_43 : decode cX5_putValue 43 = .ok (.isub, 1) := by decide +kernel
theorem dX5_putValue_44 : decode cX5_putValue 44 = .ok (.iconst 5, 1) := by decide +kernel
theorem dX5_putValue_45 : decode cX5_putValue 45 = .ok (.if_icmp .le 11, 3) := by decide +kernel
theorem dX5_putValue_48 : decode cX5_putValue 48 = .ok (.aload_n 0, 1) := by decide +kernel
theorem dX5_putValue_49 : decode cX5_putValue 49 = .ok (.iconst 1, 1) := by decide +kernel
theorem dX5_putValue_50 : decode cX5_putValue 50 = .ok (.invokevirtual 205, 3) := by decide +kernel
theorem dX5_putValue_53 : decode cX5_putValue 53 = .ok (.goto 62, 3) := by decide +kernel
theorem dX5_putValue_56 : decode cX5_putValue 56 = .ok (.aload_n 0, 1) := by decide +kernel
theorem dX5_putValue_57 : decode cX5_putValue 57 = .ok (.getfield 45, 3) := by decide +kernel
theorem dX5_putValue_60 : decode cX5_putValue 60 = .ok (.bipush 60, 2) := by decide +kernel
theorem dX5_putValue_62 : decode cX5_putValue 62 = .ok (.if_icmp .ne 11, 3) := by decide +kernel
theorem dX5_putValue_65 : decode cX5_putValue 65 = .ok (.aload_n 0, 1) := by decide +kernel
theorem dX5_putValue_66 : decode cX5_putValue 66 = .ok (.iconst 3, 1) := by decide +kernel
theorem dX5_putValue_67 : decode cX5_putValue 67 = .ok (.invokevirtual 205, 3) := by decide +kernel
theorem dX5_putValue_70 : decode cX5_putValue 70 = .ok (.goto 45, 3) := by decide +kernel
theorem dX5_putValue_73 : decode cX5_putValue 73 = .ok (.aload_n 0, 1) := by decide +kernel
theorem dX5_putValue_74 : decode cX5_putValue 74 = .ok (.dup, 1) := by decide +kernel
theorem dX5_putValue_75 : decode cX5_putValue 75 = .ok (.getfield 45, 3) := by decide +kernel
theorem dX5_putValue_78 : decode cX5_putValue 78 = .ok (.iconst 1, 1) := by decide +kernel
theorem dX5_putValue_79 : decode cX5_putValue 79 = .ok (.iadd, 1) := by decide +kernel
theorem dX5_putValue_80 : decode cX5_putValue 80 = .ok (.putfield 45, 3) := by decide +kernel
theorem dX5_putValue_83 : decode cX5_putValue 83 = .ok (.aload_n 0, 1) := by decide +kernel
theorem dX5_putValue_84 : decode cX5_putValue 84 = .ok (.aload_n 0, 1) := by decide +kernel
theorem dX5_putValue_85 : decode cX5_putValue 85 = .ok (.getfield 26, 3) := by decide +kernel
theorem dX5_putValue_88 : decode cX5_putValue 88 = .ok (.ldc 107, 2) := by decide +kernel
theorem dX5_putValue_90 : decode cX5_putValue 90 = .ok (.if_icmp .ne 10, 3) := by decide +kernel
theorem dX5_putValue_93 : decode cX5_putValue 93 = .ok (.aload_n 0, 1) := by decide +kernel
theorem dX5_putValue_94 : decode cX5_putValue 94 = .ok (.getfield 29, 3) := by decide +kernel
theorem dX5_putValue_97 : decode cX5_putValue 97 = .ok (.goto 10, 3) := by decide +kernel
theorem dX5_putValue_100 : decode cX5_putValue 100 = .ok (.ldc 208, 2) := by decide +kernel
theorem dX5_putValue_102 : decode cX5_putValue 102 = .ok (.aload_n 0, 1) := by decide +kernel
theorem dX5_putValue_103 : decode cX5_putValue 103 = .ok (.getfield 29, 3) := by decide +kernel
theorem dX5_putValue_106 : decode cX5_putValue 106 = .ok (.iadd, 1) := by decide +kernel
theorem dX5_putValue_107 : decode cX5_putValue 107 = .ok (.invokevirtual 209, 3) := by decide +kernel
theorem dX5_putValue_110 : decode cX5_putValue 110 = .ok (.aload_n 0, 1) := by decide +kernel
theorem dX5_putValue_111 : decode cX5_putValue 111 = .ok (.iload_n 1, 1) := by decide +kernel
theorem dX5_putValue_112 : decode cX5_putValue 112 = .ok (.putfield 32, 3) := by decide +kernel
theorem dX5_putValue_115 : decode cX5_putValue 115 = .ok (.return_, 1) := by decide +kernel
set_option maxRecDepth 100000 in
set_option maxHeartbeats 4000000 in
theorem c_X5_putValue {h : ai_H} {S : Md} {n st p pa de br k v a e : Nat} {D : List Cl} {A B : List Tk} {pl : List Nat} (hrd : rd_at 13 h S) (hm : rd_m S st pa de br D A B pl) (ht : rd_tk S n k v a e) (hI : py_I n st p pa de br D A B pl) (hpa : p ≤ a) {s : Nat} (hs : (st = 1 ∧ s = 2) ∨ (st = 3 ∧ s = 5) ∨ (st = 4 ∧ s = 5) ∨ (st = 6 ∧ s = 7)) : ai_QM MX5_putValue [.ref 16, .int (nI s)] h (fun r g => r = none ∧ xd h g ∧ ∃ T, rd_at 13 g T ∧ T.1 1 = S.1 1 ∧ rd_x T (py_put s k v a e (st, p, 0, pa, de, br, D, A, B, pl))) := by
  obtain ⟨t2, t3, t4, t5, hk19, han, hae, hen, hv0, hv1, hn4⟩ := ht
  obtain ⟨⟨m6, m7, m8⟩, ⟨m9a, m9b⟩, ⟨m10, m11, m12⟩, mo, mp⟩ := id hm
  obtain ⟨z1, z2, z3, z4, z5, z6⟩ := rd_room hn4 hI
  refine qm_of (ls := [.ref 16, .int (nI s)]) (by decide) (by simp [ai_en, Value.category]) (by rfl) ?_
  refine wq (fun _ _ kk => rs_aload_n (pc := 0) dX5_putValue_0 rfl kk) ?_
  refine wq (fun _ _ kk => rs_getf (pc := 1) dX5_putValue_1 fX5_26 (mo_lt hrd (by decide)) hrd.2.1 rfl kk) ?_
  rw [t4]
  refine wq (fun _ _ kk => rs_ldc (pc := 4) dX5_putValue_4 cnX5_107 kk) ?_
  refine wq_br (fun _ _ kt kf => rs_icmp_eq (tgt := 26) (pc := 6) dX5_putValue_6 rfl kt kf) (fun c_6 => ?_) (fun c_6 => ?_)
  · have g1 : k = 0 := kc_in hk19 (by decide) c_6
    refine wq (fun _ _ kk => rs_aload_n (pc := 26) dX5_putValue_26 rfl kk) ?_
    refine wq (fun _ _ kk => rs_getf (pc := 27) dX5_putValue_27 fX5_26 (mo_lt hrd (by decide)) hrd.2.1 rfl kk) ?_
    rw [t4]
    refine wq (fun _ _ kk => rs_ldc (pc := 30) dX5_putValue_30 cnX5_107 kk) ?_
    refine wq_bn (fun _ _ kt kf => rs_icmp_ne (tgt := 56) (pc := 32) dX5_putValue_32 rfl kt kf) (fun c_32 => ?_) (fun c_32 => ?_)
    · have g3 : ¬ k = 0 := fun z => c_32 (by rw [z]; rfl)
      refine wq (fun _ _ kk => rs_aload_n (pc := 56) dX5_putValue_56 rfl kk) ?_
      refine wq (fun _ _ kk => rs_getf (pc := 57) dX5_putValue_57 fX5_45 (mo_lt hrd (by decide)) hrd.2.1 rfl kk) ?_
      rw [m10]
      refine wq (fun _ _ kk => rs_bipush (v := 60) (pc := 60) dX5_putValue_60 rfl kk) ?_
      refine wq_bn (fun _ _ kt kf => rs_icmp_ne (tgt := 73) (pc := 62) dX5_putValue_62 rfl kt kf) (fun c_62 => ?_) (fun c_62 => ?_)
      · have g5 : ¬ pa = 60 := fun z => c_62 (by rw [z]; rfl)
        refine wq (fun _ _ kk => rs_aload_n (pc := 73) dX5_putValue_73 rfl kk) ?_
        refine wq (fun _ _ kk => rs_dup (pc := 74) dX5_putValue_74 rfl kk) ?_
        refine wq (fun _ _ kk => rs_getf (pc := 75) dX5_putValue_75 fX5_45 (mo_lt hrd (by decide)) hrd.2.1 rfl kk) ?_
        rw [m10]
        refine wq (fun _ _ kk => rs_iconst (v := 1) (pc := 78) dX5_putValue_78 rfl kk) ?_
        refine wq (fun _ _ kk => rs_iadd (pc := 79) dX5_putValue_79 kk) ?_
        refine wq (fun _ _ kk => rs_putf (pc := 80) dX5_putValue_80 fX5_45 (mo_lt hrd (by decide)) hrd.2.1 rfl (Nat.le_of_ble_eq_true rfl) kk) ?_
        refine wq_gen (fun h_1 e_1 => ?_)
        obtain ⟨m_1, s_1, g_1, o_1⟩ := ai_e1 e_1
        replace hrd := mo_si (k := 10) hrd m_1 g_1 o_1 rfl
        have E_1 := (xd.rf).trans (xd_of m_1 s_1 o_1 (by decide))
        obtain ⟨S_80, hrd, k_80, r_80, s_80⟩ := rd_new hrd
        refine wq (fun _ _ kk => rs_aload_n (pc := 83) dX5_putValue_83 rfl kk) ?_
        refine wq (fun _ _ kk => rs_aload_n (pc := 84) dX5_putValue_84 rfl kk) ?_
        refine wq (fun _ _ kk => rs_getf (pc := 85) dX5_putValue_85 fX5_26 (mo_lt hrd (by decide)) hrd.2.1 rfl kk) ?_
        rw [r_80 4 (by decide), t4]
        refine wq (fun _ _ kk => rs_ldc (pc := 88) dX5_putValue_88 cnX5_107 kk) ?_
        refine wq_bn (fun _ _ kt kf => rs_icmp_ne (tgt := 100) (pc := 90) dX5_putValue_90 rfl kt kf) (fun c_90 => ?_) (fun c_90 => ?_)
        · have g6 : ¬ k = 0 := fun z => c_90 (by rw [z]; rfl)
          refine wq (fun _ _ kk => rs_ldc (pc := 100) dX5_putValue_100 cnX5_208 kk) ?_
          refine wq (fun _ _ kk => rs_aload_n (pc := 102) dX5_putValue_102 rfl kk) ?_
          refine wq (fun _ _ kk => rs_getf (pc := 103) dX5_putValue_103 fX5_29 (mo_lt hrd (by decide)) hrd.2.1 rfl kk) ?_
          refine wq (fun _ _ kk => rs_iadd (pc := 106) dX5_putValue_106 kk) ?_
          rw [r_80 5 (by decide), t5 (by omega), show (100000 : Int32) = nI 100000 from rfl, nI_add, show nI (100000 + v) = nI (tkN (k, v)) by rw [show k = 1 by omega]; rfl]
          obtain ⟨rv_107, hc_107, ⟨rfl, ee_107, T_107, hrd_107, ho_107, w1, w2, w3⟩, hm_107⟩ := c_X5_step (x := tkN (k, v)) hrd (o := stp D ++ (A ++ B).map tkN) ⟨by rw [r_80 14 (by decide)]; exact mo.1, by rw [s_80]; exact mo.2⟩ (by omega)
          refine wq (fun _ _ kk => rs_callV (as := [_]) (pc := 107) dX5_putValue_107 mk_X5_step mlX5_209 in_X5_step se_X5_step rfl (mo_lt hrd (by decide)) hrd.2.1 rfl rfl (Nat.le_of_ble_eq_true rfl) (hm_107) kk) ?_
          replace hrd := hrd_107
          have E_107 := (E_1).trans ee_107
          refine wq (fun _ _ kk => rs_aload_n (pc := 110) dX5_putValue_110 rfl kk) ?_
          refine wq (fun _ _ kk => rs_iload_n (pc := 111) dX5_putValue_111 rfl kk) ?_
          refine wq (fun _ _ kk => rs_putf (pc := 112) dX5_putValue_112 fX5_32 (mo_lt hrd (by decide)) hrd.2.1 rfl (Nat.le_of_ble_eq_true rfl) kk) ?_
          refine wq_gen (fun h_2 e_2 => ?_)
          obtain ⟨m_2, s_2, g_2, o_2⟩ := ai_e1 e_2
          replace hrd := mo_si (k := 6) hrd m_2 g_2 o_2 rfl
          have E_2 := (E_107).trans (xd_of m_2 s_2 o_2 (by decide))
          obtain ⟨S_112, hrd, k_112, r_112, s_112⟩ := rd_new hrd
          have hb : S_112.1 1 = S.1 1 := by rw [r_112 1 (by decide), w1 1 (by decide), r_80 1 (by decide)]
          have q : ∀ j, j ≠ 6 → j ≠ 14 → j ≠ 10 → S_112.1 j = S.1 j := fun j a b c => by rw [r_112 j a, w1 j b, r_80 j c]
          have hpi : rd_pile S_112 pl := ⟨by rw [q 16 (by decide) (by decide) (by decide)]; exact mp.1, by rw [s_112, w3 15 (by decide), s_80]; exact mp.2⟩
          have hou : rd_out S_112 (stp D ++ (A ++ B).map tkN ++ [tkN (k, v)]) := ⟨by rw [r_112 14 (by decide)]; exact ho_107.1, by rw [s_112]; exact ho_107.2⟩
          have hfin : rd_x S_112 (if s = 2 then (s, e, 0, pa + 1, de, br, D, A ++ [(k, v)], B, pl) else (s, e, 0, pa + 1, de, br, D, A, B ++ [(k, v)], pl)) := by
            have h3 : S_112.1 3 = nI e := by rw [q 3 (by decide) (by decide) (by decide)]; exact t3
            have c1 : (if s = 0 ∨ s = 9 then 0 else 1) = (if st = 0 ∨ st = 9 then 0 else 1) := by rw [if_neg (by omega), if_neg (by omega)]
            have hA : S_112.1 6 = nI s ∧ S_112.1 7 = 0 ∧ S_112.1 8 = nI (D.length + if s = 0 ∨ s = 9 then 0 else 1) := ⟨k_112, by rw [q 7 (by decide) (by decide) (by decide)]; exact m7, by rw [q 8 (by decide) (by decide) (by decide), c1]; exact m8⟩
            have hB : (s = 1 ∨ s = 2 → S_112.1 9 = 0) ∧ (3 ≤ s ∧ s ≤ 8 → S_112.1 9 = 1) := by
              rw [q 9 (by decide) (by decide) (by decide)]
              exact ⟨fun z => m9a (by omega), fun z => m9b (by omega)⟩
            have hC : S_112.1 10 = nI (pa + 1) ∧ S_112.1 11 = nI de ∧ S_112.1 12 = nI br := ⟨by rw [r_112 10 (by decide), w1 10 (by decide), k_80]; exact nI_1 pa, by rw [q 11 (by decide) (by decide) (by decide)]; exact m11, by rw [q 12 (by decide) (by decide) (by decide)]; exact m12⟩
            by_cases hs2 : s = 2
            · rw [if_pos hs2]
              have hBn : B = [] := (hI.2.2.2.1.2.1 (by omega)).1
              subst hBn
              refine rd_x_i h3 ⟨hA, hB, hC, ?_, hpi⟩
              rw [out_A]
              exact hou
            · rw [if_neg hs2]
              refine rd_x_i h3 ⟨hA, hB, hC, ?_, hpi⟩
              rw [out_B]
              exact hou
          refine wq_ret ?_ (rs_vret (pc := 115) dX5_putValue_115 rfl)
          refine ⟨rfl, E_2, _, hrd, hb, ?_⟩
          unfold py_put
          show rd_x S_112 (if k ≠ 0 ∧ k ≠ 1 then _ else _)
          rw [if_neg (by omega), if_neg (by omega), if_neg g5]
          exact hfin
        · have g6 : k = 0 := kc_in hk19 (by decide) c_90
          refine wq (fun _ _ kk => rs_aload_n (pc := 93) dX5_putValue_93 rfl kk) ?_
          refine wq (fun _ _ kk => rs_getf (pc := 94) dX5_putValue_94 fX5_29 (mo_lt hrd (by decide)) hrd.2.1 rfl kk) ?_
          rw [r_80 5 (by decide), t5 (by omega), show nI v = nI (tkN (k, v)) by rw [g6]; rfl]
          refine wq (fun _ _ kk => rs_goto (tgt := 107) (pc := 97) dX5_putValue_97 rfl kk) ?_
          obtain ⟨rv_107, hc_107, ⟨rfl, ee_107, T_107, hrd_107, ho_107, w1, w2, w3⟩, hm_107⟩ := c_X5_step (x := tkN (k, v)) hrd (o := stp D ++ (A ++ B).map tkN) ⟨by rw [r_80 14 (by decide)]; exact mo.1, by rw [s_80]; exact mo.2⟩ (by omega)
          refine wq (fun _ _ kk => rs_callV (as := [_]) (pc := 107) dX5_putValue_107 mk_X5_step mlX5_209 in_X5_step se_X5_step rfl (mo_lt hrd (by decide)) hrd.2.1 rfl rfl (Nat.le_of_ble_eq_true rfl) (hm_107) kk) ?_
          replace hrd := hrd_107
          have E_107 := (E_1).trans ee_107
          refine wq (fun _ _ kk => rs_aload_n (pc := 110) dX5_putValue_110 rfl kk) ?_
          refine wq (fun _ _ kk => rs_iload_n (pc := 111) dX5_putValue_111 rfl kk) ?_
          refine wq (fun _ _ kk => rs_putf (pc := 112) dX5_putValue_112 fX5_32 (mo_lt hrd (by decide)) hrd.2.1 rfl (Nat.le_of_ble_eq_true rfl) kk) ?_
          refine wq_gen (fun h_3 e_3 => ?_)
          obtain ⟨m_3, s_3, g_3, o_3⟩ := ai_e1 e_3
          replace hrd := mo_si (k := 6) hrd m_3 g_3 o_3 rfl
          have E_3 := (E_107).trans (xd_of m_3 s_3 o_3 (by decide))
          obtain ⟨S_112, hrd, k_112, r_112, s_112⟩ := rd_new hrd
          have hb : S_112.1 1 = S.1 1 := by rw [r_112 1 (by decide), w1 1 (by decide), r_80 1 (by decide)]
          have q : ∀ j, j ≠ 6 → j ≠ 14 → j ≠ 10 → S_112.1 j = S.1 j := fun j a b c => by rw [r_112 j a, w1 j b, r_80 j c]
          have hpi : rd_pile S_112 pl := ⟨by rw [q 16 (by decide) (by decide) (by decide)]; exact mp.1, by rw [s_112, w3 15 (by decide), s_80]; exact mp.2⟩
          have hou : rd_out S_112 (stp D ++ (A ++ B).map tkN ++ [tkN (k, v)]) := ⟨by rw [r_112 14 (by decide)]; exact ho_107.1, by rw [s_112]; exact ho_107.2⟩
          have hfin : rd_x S_112 (if s = 2 then (s, e, 0, pa + 1, de, br, D, A ++ [(k, v)], B, pl) else (s, e, 0, pa + 1, de, br, D, A, B ++ [(k, v)], pl)) := by
            have h3 : S_112.1 3 = nI e := by rw [q 3 (by decide) (by decide) (by decide)]; exact t3
            have c1 : (if s = 0 ∨ s = 9 then 0 else 1) = (if st = 0 ∨ st = 9 then 0 else 1) := by rw [if_neg (by omega), if_neg (by omega)]
            have hA : S_112.1 6 = nI s ∧ S_112.1 7 = 0 ∧ S_112.1 8 = nI (D.length + if s = 0 ∨ s = 9 then 0 else 1) := ⟨k_112, by rw [q 7 (by decide) (by decide) (by decide)]; exact m7, by rw [q 8 (by decide) (by decide) (by decide), c1]; exact m8⟩
            have hB : (s = 1 ∨ s = 2 → S_112.1 9 = 0) ∧ (3 ≤ s ∧ s ≤ 8 → S_112.1 9 = 1) := by
              rw [q 9 (by decide) (by decide) (by decide)]
              exact ⟨fun z => m9a (by omega), fun z => m9b (by omega)⟩
            have hC : S_112.1 10 = nI (pa + 1) ∧ S_112.1 11 = nI de ∧ S_112.1 12 = nI br := ⟨by rw [r_112 10 (by decide), w1 10 (by decide), k_80]; exact nI_1 pa, by rw [q 11 (by decide) (by decide) (by decide)]; exact m11, by rw [q 12 (by decide) (by decide) (by decide)]; exact m12⟩
            by_cases hs2 : s = 2
            · rw [if_pos hs2]
              have hBn : B = [] := (hI.2.2.2.1.2.1 (by omega)).1
              subst hBn
              refine rd_x_i h3 ⟨hA, hB, hC, ?_, hpi⟩
              rw [out_A]
              exact hou
            · rw [if_neg hs2]
              refine rd_x_i h3 ⟨hA, hB, hC, ?_, hpi⟩
              rw [out_B]
              exact hou
          refine wq_ret ?_ (rs_vret (pc := 115) dX5_putValue_115 rfl)
          refine ⟨rfl, E_3, _, hrd, hb, ?_⟩
          unfold py_put
          show rd_x S_112 (if k ≠ 0 ∧ k ≠ 1 then _ else _)
          rw [if_neg (by omega), if_neg (by omega), if_neg g5]
          exact hfin
      · have g5 : pa = 60 := tx_eq1 (b := 60) (by omega) (by decide) rfl c_62
        refine wq (fun _ _ kk => rs_aload_n (pc := 65) dX5_putValue_65 rfl kk) ?_
        refine wq (fun _ _ kk => rs_iconst (v := 3) (pc := 66) dX5_putValue_66 rfl kk) ?_
        obtain ⟨rv_67, hc_67, ⟨rfl, ee_67, T_67, hrd_67, k_67, r_67, s_67⟩, hm_67⟩ := c_X5_fail (c := 3) hrd t2
        refine wq (fun _ _ kk => rs_callV (as := [_]) (pc := 67) dX5_putValue_67 mk_X5_fail mlX5_205 in_X5_fail se_X5_fail rfl (mo_lt hrd (by decide)) hrd.2.1 rfl rfl (Nat.le_of_ble_eq_true rfl) (hm_67) kk) ?_
        replace hrd := hrd_67
        have hf : ∀ x : PS, rd_x T_67 (py_fail 3 a x) := fun x => rd_x_f k_67
        have hb : T_67.1 1 = S.1 1 := r_67 1 (by decide)
        have E_67 := (xd.rf).trans ee_67
        refine wq (fun _ _ kk => rs_goto (tgt := 115) (pc := 70) dX5_putValue_70 rfl kk) ?_
        refine wq_ret ?_ (rs_vret (pc := 115) dX5_putValue_115 rfl)
        refine ⟨rfl, E_67, _, hrd, hb, ?_⟩
        unfold py_put
        show rd_x T_67 (if k ≠ 0 ∧ k ≠ 1 then _ else _)
        rw [if_neg (by omega), if_neg (by omega), if_pos g5]
        exact hf _
    · have g3 : k = 0 := kc_in hk19 (by decide) c_32
      refine wq (fun _ _ kk => rs_aload_n (pc := 35) dX5_putValue_35 rfl kk) ?_
      refine wq (fun _ _ kk => rs_getf (pc := 36) dX5_putValue_36 fX5_22 (mo_lt hrd (by decide)) hrd.2.1 rfl kk) ?_
      rw [t3]
      refine wq (fun _ _ kk => rs_aload_n (pc := 39) dX5_putValue_39 rfl kk) ?_
      refine wq (fun _ _ kk => rs_getf (pc := 40) dX5_putValue_40 fX5_19 (mo_lt hrd (by decide)) hrd.2.1 rfl kk) ?_
      refine wq (fun _ _ kk => rs_isub (pc := 43) dX5_putValue_43 kk) ?_
      rw [t2, nI_sub (show a ≤ e by omega)]
      refine wq (fun _ _ kk => rs_iconst (v := 5) (pc := 44) dX5_putValue_44 rfl kk) ?_
      refine wq_br (fun _ _ kt kf => rs_icmp_le (tgt := 56) (pc := 45) dX5_putValue_45 rfl kt kf) (fun c_45 => ?_) (fun c_45 => ?_)
      · have g4 : ¬ 5 < e - a := Nat.not_lt.mpr (tx_ge1 (b := 5) (by omega) (by decide) rfl c_45)
        refine wq (fun _ _ kk => rs_aload_n (pc := 56) dX5_putValue_56 rfl kk) ?_
        refine wq (fun _ _ kk => rs_getf (pc := 57) dX5_putValue_57 fX5_45 (mo_lt hrd (by decide)) hrd.2.1 rfl kk) ?_
        rw [m10]
        refine wq (fun _ _ kk => rs_bipush (v := 60) (pc := 60) dX5_putValue_60 rfl kk) ?_
        refine wq_bn (fun _ _ kt kf => rs_icmp_ne (tgt := 73) (pc := 62) dX5_putValue_62 rfl kt kf) (fun c_62 => ?_) (fun c_62 => ?_)
        · have g5 : ¬ pa = 60 := fun z => c_62 (by rw [z]; rfl)
          refine wq (fun _ _ kk => rs_aload_n (pc := 73) dX5_putValue_73 rfl kk) ?_
          refine wq (fun _ _ kk => rs_dup (pc := 74) dX5_putValue_74 rfl kk) ?_
          refine wq (fun _ _ kk => rs_getf (pc := 75) dX5_putValue_75 fX5_45 (mo_lt hrd (by decide)) hrd.2.1 rfl kk) ?_
          rw [m10]
          refine wq (fun _ _ kk => rs_iconst (v := 1) (pc := 78) dX5_putValue_78 rfl kk) ?_
          refine wq (fun _ _ kk => rs_iadd (pc := 79) dX5_putValue_79 kk) ?_
          refine wq (fun _ _ kk => rs_putf (pc := 80) dX5_putValue_80 fX5_45 (mo_lt hrd (by decide)) hrd.2.1 rfl (Nat.le_of_ble_eq_true rfl) kk) ?_
          refine wq_gen (fun h_4 e_4 => ?_)
          obtain ⟨m_4, s_4, g_4, o_4⟩ := ai_e1 e_4
          replace hrd := mo_si (k := 10) hrd m_4 g_4 o_4 rfl
          have E_4 := (xd.rf).trans (xd_of m_4 s_4 o_4 (by decide))
          obtain ⟨S_80, hrd, k_80, r_80, s_80⟩ := rd_new hrd
          refine wq (fun _ _ kk => rs_aload_n (pc := 83) dX5_putValue_83 rfl kk) ?_
          refine wq (fun _ _ kk => rs_aload_n (pc := 84) dX5_putValue_84 rfl kk) ?_
          refine wq (fun _ _ kk => rs_getf (pc := 85) dX5_putValue_85 fX5_26 (mo_lt hrd (by decide)) hrd.2.1 rfl kk) ?_
          rw [r_80 4 (by decide), t4]
          refine wq (fun _ _ kk => rs_ldc (pc := 88) dX5_putValue_88 cnX5_107 kk) ?_
          refine wq_bn (fun _ _ kt kf => rs_icmp_ne (tgt := 100) (pc := 90) dX5_putValue_90 rfl kt kf) (fun c_90 => ?_) (fun c_90 => ?_)
          · have g6 : ¬ k = 0 := fun z => c_90 (by rw [z]; rfl)
            refine wq (fun _ _ kk => rs_ldc (pc := 100) dX5_putValue_100 cnX5_208 kk) ?_
            refine wq (fun _ _ kk => rs_aload_n (pc := 102) dX5_putValue_102 rfl kk) ?_
            refine wq (fun _ _ kk => rs_getf (pc := 103) dX5_putValue_103 fX5_29 (mo_lt hrd (by decide)) hrd.2.1 rfl kk) ?_
            refine wq (fun _ _ kk => rs_iadd (pc := 106) dX5_putValue_106 kk) ?_
            rw [r_80 5 (by decide), t5 (by omega), show (100000 : Int32) = nI 100000 from rfl, nI_add, show nI (100000 + v) = nI (tkN (k, v)) by rw [show k = 1 by omega]; rfl]
            obtain ⟨rv_107, hc_107, ⟨rfl, ee_107, T_107, hrd_107, ho_107, w1, w2, w3⟩, hm_107⟩ := c_X5_step (x := tkN (k, v)) hrd (o := stp D ++ (A ++ B).map tkN) ⟨by rw [r_80 14 (by decide)]; exact mo.1, by rw [s_80]; exact mo.2⟩ (by omega)
            refine wq (fun _ _ kk => rs_callV (as := [_]) (pc := 107) dX5_putValue_107 mk_X5_step mlX5_209 in_X5_step se_X5_step rfl (mo_lt hrd (by decide)) hrd.2.1 rfl rfl (Nat.le_of_ble_eq_true rfl) (hm_107) kk) ?_
            replace hrd := hrd_107
            have E_107 := (E_4).trans ee_107
            refine wq (fun _ _ kk => rs_aload_n (pc := 110) dX5_putValue_110 rfl kk) ?_
            refine wq (fun _ _ kk => rs_iload_n (pc := 111) dX5_putValue_111 rfl kk) ?_
            refine wq (fun _ _ kk => rs_putf (pc := 112) dX5_putValue_112 fX5_32 (mo_lt hrd (by decide)) hrd.2.1 rfl (Nat.le_of_ble_eq_true rfl) kk) ?_
            refine wq_gen (fun h_5 e_5 => ?_)
            obtain ⟨m_5, s_5, g_5, o_5⟩ := ai_e1 e_5
            replace hrd := mo_si (k := 6) hrd m_5 g_5 o_5 rfl
            have E_5 := (E_107).trans (xd_of m_5 s_5 o_5 (by decide))
            obtain ⟨S_112, hrd, k_112, r_112, s_112⟩ := rd_new hrd
            have hb : S_112.1 1 = S.1 1 := by rw [r_112 1 (by decide), w1 1 (by decide), r_80 1 (by decide)]
            have q : ∀ j, j ≠ 6 → j ≠ 14 → j ≠ 10 → S_112.1 j = S.1 j := fun j a b c => by rw [r_112 j a, w1 j b, r_80 j c]
            have hpi : rd_pile S_112 pl := ⟨by rw [q 16 (by decide) (by decide) (by decide)]; exact mp.1, by rw [s_112, w3 15 (by decide), s_80]; exact mp.2⟩
            have hou : rd_out S_112 (stp D ++ (A ++ B).map tkN ++ [tkN (k, v)]) := ⟨by rw [r_112 14 (by decide)]; exact ho_107.1, by rw [s_112]; exact ho_107.2⟩
            have hfin : rd_x S_112 (if s = 2 then (s, e, 0, pa + 1, de, br, D, A ++ [(k, v)], B, pl) else (s, e, 0, pa + 1, de, br, D, A, B ++ [(k, v)], pl)) := by
              have h3 : S_112.1 3 = nI e := by rw [q 3 (by decide) (by decide) (by decide)]; exact t3
              have c1 : (if s = 0 ∨ s = 9 then 0 else 1) = (if st = 0 ∨ st = 9 then 0 else 1) := by rw [if_neg (by omega), if_neg (by omega)]
              have hA : S_112.1 6 = nI s ∧ S_112.1 7 = 0 ∧ S_112.1 8 = nI (D.length + if s = 0 ∨ s = 9 then 0 else 1) := ⟨k_112, by rw [q 7 (by decide) (by decide) (by decide)]; exact m7, by rw [q 8 (by decide) (by decide) (by decide), c1]; exact m8⟩
              have hB : (s = 1 ∨ s = 2 → S_112.1 9 = 0) ∧ (3 ≤ s ∧ s ≤ 8 → S_112.1 9 = 1) := by
                rw [q 9 (by decide) (by decide) (by decide)]
                exact ⟨fun z => m9a (by omega), fun z => m9b (by omega)⟩
              have hC : S_112.1 10 = nI (pa + 1) ∧ S_112.1 11 = nI de ∧ S_112.1 12 = nI br := ⟨by rw [r_112 10 (by decide), w1 10 (by decide), k_80]; exact nI_1 pa, by rw [q 11 (by decide) (by decide) (by decide)]; exact m11, by rw [q 12 (by decide) (by decide) (by decide)]; exact m12⟩
              by_cases hs2 : s = 2
              · rw [if_pos hs2]
                have hBn : B = [] := (hI.2.2.2.1.2.1 (by omega)).1
                subst hBn
                refine rd_x_i h3 ⟨hA, hB, hC, ?_, hpi⟩
                rw [out_A]
                exact hou
              · rw [if_neg hs2]
                refine rd_x_i h3 ⟨hA, hB, hC, ?_, hpi⟩
                rw [out_B]
                exact hou
            refine wq_ret ?_ (rs_vret (pc := 115) dX5_putValue_115 rfl)
            refine ⟨rfl, E_5, _, hrd, hb, ?_⟩
            unfold py_put
            show rd_x S_112 (if k ≠ 0 ∧ k ≠ 1 then _ else _)
            rw [if_neg (by omega), if_neg (by omega), if_neg g5]
            exact hfin
          · have g6 : k = 0 := kc_in hk19 (by decide) c_90
            refine wq (fun _ _ kk => rs_aload_n (pc := 93) dX5_putValue_93 rfl kk) ?_
            refine wq (fun _ _ kk => rs_getf (pc := 94) dX5_putValue_94 fX5_29 (mo_lt hrd (by decide)) hrd.2.1 rfl kk) ?_
            rw [r_80 5 (by decide), t5 (by omega), show nI v = nI (tkN (k, v)) by rw [g6]; rfl]
            refine wq (fun _ _ kk => rs_goto (tgt := 107) (pc := 97) dX5_putValue_97 rfl kk) ?_
            obtain ⟨rv_107, hc_107, ⟨rfl, ee_107, T_107, hrd_107, ho_107, w1, w2, w3⟩, hm_107⟩ := c_X5_step (x := tkN (k, v)) hrd (o := stp D ++ (A ++ B).map tkN) ⟨by rw [r_80 14 (by decide)]; exact mo.1, by rw [s_80]; exact mo.2⟩ (by omega)
            refine wq (fun _ _ kk => rs_callV (as := [_]) (pc := 107) dX5_putValue_107 mk_X5_step mlX5_209 in_X5_step se_X5_step rfl (mo_lt hrd (by decide)) hrd.2.1 rfl rfl (Nat.le_of_ble_eq_true rfl) (hm_107) kk) ?_
            replace hrd := hrd_107
            have E_107 := (E_4).trans ee_107
            refine wq (fun _ _ kk => rs_aload_n (pc := 110) dX5_putValue_110 rfl kk) ?_
            refine wq (fun _ _ kk => rs_iload_n (pc := 111) dX5_putValue_111 rfl kk) ?_
            refine wq (fun _ _ kk => rs_putf (pc := 112) dX5_putValue_112 fX5_32 (mo_lt hrd (by decide)) hrd.2.1 rfl (Nat.le_of_ble_eq_true rfl) kk) ?_
            refine wq_gen (fun h_6 e_6 => ?_)
            obtain ⟨m_6, s_6, g_6, o_6⟩ := ai_e1 e_6
            replace hrd := mo_si (k := 6) hrd m_6 g_6 o_6 rfl
            have E_6 := (E_107).trans (xd_of m_6 s_6 o_6 (by decide))
            obtain ⟨S_112, hrd, k_112, r_112, s_112⟩ := rd_new hrd
            have hb : S_112.1 1 = S.1 1 := by rw [r_112 1 (by decide), w1 1 (by decide), r_80 1 (by decide)]
            have q : ∀ j, j ≠ 6 → j ≠ 14 → j ≠ 10 → S_112.1 j = S.1 j := fun j a b c => by rw [r_112 j a, w1 j b, r_80 j c]
            have hpi : rd_pile S_112 pl := ⟨by rw [q 16 (by decide) (by decide) (by decide)]; exact mp.1, by rw [s_112, w3 15 (by decide), s_80]; exact mp.2⟩
            have hou : rd_out S_112 (stp D ++ (A ++ B).map tkN ++ [tkN (k, v)]) := ⟨by rw [r_112 14 (by decide)]; exact ho_107.1, by rw [s_112]; exact ho_107.2⟩
            have hfin : rd_x S_112 (if s = 2 then (s, e, 0, pa + 1, de, br, D, A ++ [(k, v)], B, pl) else (s, e, 0, pa + 1, de, br, D, A, B ++ [(k, v)], pl)) := by
              have h3 : S_112.1 3 = nI e := by rw [q 3 (by decide) (by decide) (by decide)]; exact t3
              have c1 : (if s = 0 ∨ s = 9 then 0 else 1) = (if st = 0 ∨ st = 9 then 0 else 1) := by rw [if_neg (by omega), if_neg (by omega)]
              have hA : S_112.1 6 = nI s ∧ S_112.1 7 = 0 ∧ S_112.1 8 = nI (D.length + if s = 0 ∨ s = 9 then 0 else 1) := ⟨k_112, by rw [q 7 (by decide) (by decide) (by decide)]; exact m7, by rw [q 8 (by decide) (by decide) (by decide), c1]; exact m8⟩
              have hB : (s = 1 ∨ s = 2 → S_112.1 9 = 0) ∧ (3 ≤ s ∧ s ≤ 8 → S_112.1 9 = 1) := by
                rw [q 9 (by decide) (by decide) (by decide)]
                exact ⟨fun z => m9a (by omega), fun z => m9b (by omega)⟩
              have hC : S_112.1 10 = nI (pa + 1) ∧ S_112.1 11 = nI de ∧ S_112.1 12 = nI br := ⟨by rw [r_112 10 (by decide), w1 10 (by decide), k_80]; exact nI_1 pa, by rw [q 11 (by decide) (by decide) (by decide)]; exact m11, by rw [q 12 (by decide) (by decide) (by decide)]; exact m12⟩
              by_cases hs2 : s = 2
              · rw [if_pos hs2]
                have hBn : B = [] := (hI.2.2.2.1.2.1 (by omega)).1
                subst hBn
                refine rd_x_i h3 ⟨hA, hB, hC, ?_, hpi⟩
                rw [out_A]
                exact hou
              · rw [if_neg hs2]
                refine rd_x_i h3 ⟨hA, hB, hC, ?_, hpi⟩
                rw [out_B]
                exact hou
            refine wq_ret ?_ (rs_vret (pc := 115) dX5_putValue_115 rfl)
            refine ⟨rfl, E_6, _, hrd, hb, ?_⟩
            unfold py_put
            show rd_x S_112 (if k ≠ 0 ∧ k ≠ 1 then _ else _)
            rw [if_neg (by omega), if_neg (by omega), if_neg g5]
            exact hfin
        · have g5 : pa = 60 := tx_eq1 (b := 60) (by omega) (by decide) rfl c_62
          refine wq (fun _ _ kk => rs_aload_n (pc := 65) dX5_putValue_65 rfl kk) ?_
          refine wq (fun _ _ kk => rs_iconst (v := 3) (pc := 66) dX5_putValue_66 rfl kk) ?_
          obtain ⟨rv_67, hc_67, ⟨rfl, ee_67, T_67, hrd_67, k_67, r_67, s_67⟩, hm_67⟩ := c_X5_fail (c := 3) hrd t2
          refine wq (fun _ _ kk => rs_callV (as := [_]) (pc := 67) dX5_putValue_67 mk_X5_fail mlX5_205 in_X5_fail se_X5_fail rfl (mo_lt hrd (by decide)) hrd.2.1 rfl rfl (Nat.le_of_ble_eq_true rfl) (hm_67) kk) ?_
          replace hrd := hrd_67
          have hf : ∀ x : PS, rd_x T_67 (py_fail 3 a x) := fun x => rd_x_f k_67
          have hb : T_67.1 1 = S.1 1 := r_67 1 (by decide)
          have E_67 := (xd.rf).trans ee_67
          refine wq (fun _ _ kk => rs_goto (tgt := 115) (pc := 70) dX5_putValue_70 rfl kk) ?_
          refine wq_ret ?_ (rs_vret (pc := 115) dX5_putValue_115 rfl)
          refine ⟨rfl, E_67, _, hrd, hb, ?_⟩
          unfold py_put
          show rd_x T_67 (if k ≠ 0 ∧ k ≠ 1 then _ else _)
          rw [if_neg (by omega), if_neg (by omega), if_pos g5]
          exact hf _
      · have g4 : 5 < e - a := tx_ge2 (b := 5) (by omega) (by decide) rfl c_45
        refine wq (fun _ _ kk => rs_aload_n (pc := 48) dX5_putValue_48 rfl kk) ?_
        refine wq (fun _ _ kk => rs_iconst (v := 1) (pc := 49) dX5_putValue_49 rfl kk) ?_
        obtain ⟨rv_50, hc_50, ⟨rfl, ee_50, T_50, hrd_50, k_50, r_50, s_50⟩, hm_50⟩ := c_X5_fail (c := 1) hrd t2
        refine wq (fun _ _ kk => rs_callV (as := [_]) (pc := 50) dX5_putValue_50 mk_X5_fail mlX5_205 in_X5_fail se_X5_fail rfl (mo_lt hrd (by decide)) hrd.2.1 rfl rfl (Nat.le_of_ble_eq_true rfl) (hm_50) kk) ?_
        replace hrd := hrd_50
        have hf : ∀ x : PS, rd_x T_50 (py_fail 1 a x) := fun x => rd_x_f k_50
        have hb : T_50.1 1 = S.1 1 := r_50 1 (by decide)
        have E_50 := (xd.rf).trans ee_50
        refine wq (fun _ _ kk => rs_goto (tgt := 115) (pc := 53) dX5_putValue_53 rfl kk) ?_
        refine wq_ret ?_ (rs_vret (pc := 115) dX5_putValue_115 rfl)
        refine ⟨rfl, E_50, _, hrd, hb, ?_⟩
        unfold py_put
        show rd_x T_50 (if k ≠ 0 ∧ k ≠ 1 then _ else _)
        rw [if_neg (by omega), if_pos ⟨g3, g4⟩]
        exact hf _
  · have g1 : ¬ k = 0 := fun z => c_6 (by rw [z]; rfl)
    refine wq (fun _ _ kk => rs_aload_n (pc := 9) dX5_putValue_9 rfl kk) ?_
    refine wq (fun _ _ kk => rs_getf (pc := 10) dX5_putValue_10 fX5_26 (mo_lt hrd (by decide)) hrd.2.1 rfl kk) ?_
    rw [t4]
    refine wq (fun _ _ kk => rs_ldc (pc := 13) dX5_putValue_13 cnX5_115 kk) ?_
    refine wq_br (fun _ _ kt kf => rs_icmp_eq (tgt := 26) (pc := 15) dX5_putValue_15 rfl kt kf) (fun c_15 => ?_) (fun c_15 => ?_)
    · have g2 : k = 1 := kc_in hk19 (by decide) c_15
      refine wq (fun _ _ kk => rs_aload_n (pc := 26) dX5_putValue_26 rfl kk) ?_
      refine wq (fun _ _ kk => rs_getf (pc := 27) dX5_putValue_27 fX5_26 (mo_lt hrd (by decide)) hrd.2.1 rfl kk) ?_
      rw [t4]
      refine wq (fun _ _ kk => rs_ldc (pc := 30) dX5_putValue_30 cnX5_107 kk) ?_
      refine wq_bn (fun _ _ kt kf => rs_icmp_ne (tgt := 56) (pc := 32) dX5_putValue_32 rfl kt kf) (fun c_32 => ?_) (fun c_32 => ?_)
      · have g3 : ¬ k = 0 := fun z => c_32 (by rw [z]; rfl)
        refine wq (fun _ _ kk => rs_aload_n (pc := 56) dX5_putValue_56 rfl kk) ?_
        refine wq (fun _ _ kk => rs_getf (pc := 57) dX5_putValue_57 fX5_45 (mo_lt hrd (by decide)) hrd.2.1 rfl kk) ?_
        rw [m10]
        refine wq (fun _ _ kk => rs_bipush (v := 60) (pc := 60) dX5_putValue_60 rfl kk) ?_
        refine wq_bn (fun _ _ kt kf => rs_icmp_ne (tgt := 73) (pc := 62) dX5_putValue_62 rfl kt kf) (fun c_62 => ?_) (fun c_62 => ?_)
        · have g5 : ¬ pa = 60 := fun z => c_62 (by rw [z]; rfl)
          refine wq (fun _ _ kk => rs_aload_n (pc := 73) dX5_putValue_73 rfl kk) ?_
          refine wq (fun _ _ kk => rs_dup (pc := 74) dX5_putValue_74 rfl kk) ?_
          refine wq (fun _ _ kk => rs_getf (pc := 75) dX5_putValue_75 fX5_45 (mo_lt hrd (by decide)) hrd.2.1 rfl kk) ?_
          rw [m10]
          refine wq (fun _ _ kk => rs_iconst (v := 1) (pc := 78) dX5_putValue_78 rfl kk) ?_
          refine wq (fun _ _ kk => rs_iadd (pc := 79) dX5_putValue_79 kk) ?_
          refine wq (fun _ _ kk => rs_putf (pc := 80) dX5_putValue_80 fX5_45 (mo_lt hrd (by decide)) hrd.2.1 rfl (Nat.le_of_ble_eq_true rfl) kk) ?_
          refine wq_gen (fun h_7 e_7 => ?_)
          obtain ⟨m_7, s_7, g_7, o_7⟩ := ai_e1 e_7
          replace hrd := mo_si (k := 10) hrd m_7 g_7 o_7 rfl
          have E_7 := (xd.rf).trans (xd_of m_7 s_7 o_7 (by decide))
          obtain ⟨S_80, hrd, k_80, r_80, s_80⟩ := rd_new hrd
          refine wq (fun _ _ kk => rs_aload_n (pc := 83) dX5_putValue_83 rfl kk) ?_
          refine wq (fun _ _ kk => rs_aload_n (pc := 84) dX5_putValue_84 rfl kk) ?_
          refine wq (fun _ _ kk => rs_getf (pc := 85) dX5_putValue_85 fX5_26 (mo_lt hrd (by decide)) hrd.2.1 rfl kk) ?_
          rw [r_80 4 (by decide), t4]
          refine wq (fun _ _ kk => rs_ldc (pc := 88) dX5_putValue_88 cnX5_107 kk) ?_
          refine wq_bn (fun _ _ kt kf => rs_icmp_ne (tgt := 100) (pc := 90) dX5_putValue_90 rfl kt kf) (fun c_90 => ?_) (fun c_90 => ?_)
          · have g6 : ¬ k = 0 := fun z => c_90 (by rw [z]; rfl)
            refine wq (fun _ _ kk => rs_ldc (pc := 100) dX5_putValue_100 cnX5_208 kk) ?_
            refine wq (fun _ _ kk => rs_aload_n (pc := 102) dX5_putValue_102 rfl kk) ?_
            refine wq (fun _ _ kk => rs_getf (pc := 103) dX5_putValue_103 fX5_29 (mo_lt hrd (by decide)) hrd.2.1 rfl kk) ?_
            refine wq (fun _ _ kk => rs_iadd (pc := 106) dX5_putValue_106 kk) ?_
            rw [r_80 5 (by decide), t5 (by omega), show (100000 : Int32) = nI 100000 from rfl, nI_add, show nI (100000 + v) = nI (tkN (k, v)) by rw [show k = 1 by omega]; rfl]
            obtain ⟨rv_107, hc_107, ⟨rfl, ee_107, T_107, hrd_107, ho_107, w1, w2, w3⟩, hm_107⟩ := c_X5_step (x := tkN (k, v)) hrd (o := stp D ++ (A ++ B).map tkN) ⟨by rw [r_80 14 (by decide)]; exact mo.1, by rw [s_80]; exact mo.2⟩ (by omega)
            refine wq (fun _ _ kk => rs_callV (as := [_]) (pc := 107) dX5_putValue_107 mk_X5_step mlX5_209 in_X5_step se_X5_step rfl (mo_lt hrd (by decide)) hrd.2.1 rfl rfl (Nat.le_of_ble_eq_true rfl) (hm_107) kk) ?_
            replace hrd := hrd_107
            have E_107 := (E_7).trans ee_107
            refine wq (fun _ _ kk => rs_aload_n (pc := 110) dX5_putValue_110 rfl kk) ?_
            refine wq (fun _ _ kk => rs_iload_n (pc := 111) dX5_putValue_111 rfl kk) ?_
            refine wq (fun _ _ kk => rs_putf (pc := 112) dX5_putValue_112 fX5_32 (mo_lt hrd (by decide)) hrd.2.1 rfl (Nat.le_of_ble_eq_true rfl) kk) ?_
            refine wq_gen (fun h_8 e_8 => ?_)
            obtain ⟨m_8, s_8, g_8, o_8⟩ := ai_e1 e_8
            replace hrd := mo_si (k := 6) hrd m_8 g_8 o_8 rfl
            have E_8 := (E_107).trans (xd_of m_8 s_8 o_8 (by decide))
            obtain ⟨S_112, hrd, k_112, r_112, s_112⟩ := rd_new hrd
            have hb : S_112.1 1 = S.1 1 := by rw [r_112 1 (by decide), w1 1 (by decide), r_80 1 (by decide)]
            have q : ∀ j, j ≠ 6 → j ≠ 14 → j ≠ 10 → S_112.1 j = S.1 j := fun j a b c => by rw [r_112 j a, w1 j b, r_80 j c]
            have hpi : rd_pile S_112 pl := ⟨by rw [q 16 (by decide) (by decide) (by decide)]; exact mp.1, by rw [s_112, w3 15 (by decide), s_80]; exact mp.2⟩
            have hou : rd_out S_112 (stp D ++ (A ++ B).map tkN ++ [tkN (k, v)]) := ⟨by rw [r_112 14 (by decide)]; exact ho_107.1, by rw [s_112]; exact ho_107.2⟩
            have hfin : rd_x S_112 (if s = 2 then (s, e, 0, pa + 1, de, br, D, A ++ [(k, v)], B, pl) else (s, e, 0, pa + 1, de, br, D, A, B ++ [(k, v)], pl)) := by
              have h3 : S_112.1 3 = nI e := by rw [q 3 (by decide) (by decide) (by decide)]; exact t3
              have c1 : (if s = 0 ∨ s = 9 then 0 else 1) = (if st = 0 ∨ st = 9 then 0 else 1) := by rw [if_neg (by omega), if_neg (by omega)]
              have hA : S_112.1 6 = nI s ∧ S_112.1 7 = 0 ∧ S_112.1 8 = nI (D.length + if s = 0 ∨ s = 9 then 0 else 1) := ⟨k_112, by rw [q 7 (by decide) (by decide) (by decide)]; exact m7, by rw [q 8 (by decide) (by decide) (by decide), c1]; exact m8⟩
              have hB : (s = 1 ∨ s = 2 → S_112.1 9 = 0) ∧ (3 ≤ s ∧ s ≤ 8 → S_112.1 9 = 1) := by
                rw [q 9 (by decide) (by decide) (by decide)]
                exact ⟨fun z => m9a (by omega), fun z => m9b (by omega)⟩
              have hC : S_112.1 10 = nI (pa + 1) ∧ S_112.1 11 = nI de ∧ S_112.1 12 = nI br := ⟨by rw [r_112 10 (by decide), w1 10 (by decide), k_80]; exact nI_1 pa, by rw [q 11 (by decide) (by decide) (by decide)]; exact m11, by rw [q 12 (by decide) (by decide) (by decide)]; exact m12⟩
              by_cases hs2 : s = 2
              · rw [if_pos hs2]
                have hBn : B = [] := (hI.2.2.2.1.2.1 (by omega)).1
                subst hBn
                refine rd_x_i h3 ⟨hA, hB, hC, ?_, hpi⟩
                rw [out_A]
                exact hou
              · rw [if_neg hs2]
                refine rd_x_i h3 ⟨hA, hB, hC, ?_, hpi⟩
                rw [out_B]
                exact hou
            refine wq_ret ?_ (rs_vret (pc := 115) dX5_putValue_115 rfl)
            refine ⟨rfl, E_8, _, hrd, hb, ?_⟩
            unfold py_put
            show rd_x S_112 (if k ≠ 0 ∧ k ≠ 1 then _ else _)
            rw [if_neg (by omega), if_neg (by omega), if_neg g5]
            exact hfin
          · have g6 : k = 0 := kc_in hk19 (by decide) c_90
            refine wq (fun _ _ kk => rs_aload_n (pc := 93) dX5_putValue_93 rfl kk) ?_
            refine wq (fun _ _ kk => rs_getf (pc := 94) dX5_putValue_94 fX5_29 (mo_lt hrd (by decide)) hrd.2.1 rfl kk) ?_
            rw [r_80 5 (by decide), t5 (by omega), show nI v = nI (tkN (k, v)) by rw [g6]; rfl]
            refine wq (fun _ _ kk => rs_goto (tgt := 107) (pc := 97) dX5_putValue_97 rfl kk) ?_
            obtain ⟨rv_107, hc_107, ⟨rfl, ee_107, T_107, hrd_107, ho_107, w1, w2, w3⟩, hm_107⟩ := c_X5_step (x := tkN (k, v)) hrd (o := stp D ++ (A ++ B).map tkN) ⟨by rw [r_80 14 (by decide)]; exact mo.1, by rw [s_80]; exact mo.2⟩ (by omega)
            refine wq (fun _ _ kk => rs_callV (as := [_]) (pc := 107) dX5_putValue_107 mk_X5_step mlX5_209 in_X5_step se_X5_step rfl (mo_lt hrd (by decide)) hrd.2.1 rfl rfl (Nat.le_of_ble_eq_true rfl) (hm_107) kk) ?_
            replace hrd := hrd_107
            have E_107 := (E_7).trans ee_107
            refine wq (fun _ _ kk => rs_aload_n (pc := 110) dX5_putValue_110 rfl kk) ?_
            refine wq (fun _ _ kk => rs_iload_n (pc := 111) dX5_putValue_111 rfl kk) ?_
            refine wq (fun _ _ kk => rs_putf (pc := 112) dX5_putValue_112 fX5_32 (mo_lt hrd (by decide)) hrd.2.1 rfl (Nat.le_of_ble_eq_true rfl) kk) ?_
            refine wq_gen (fun h_9 e_9 => ?_)
            obtain ⟨m_9, s_9, g_9, o_9⟩ := ai_e1 e_9
            replace hrd := mo_si (k := 6) hrd m_9 g_9 o_9 rfl
            have E_9 := (E_107).trans (xd_of m_9 s_9 o_9 (by decide))
            obtain ⟨S_112, hrd, k_112, r_112, s_112⟩ := rd_new hrd
            have hb : S_112.1 1 = S.1 1 := by rw [r_112 1 (by decide), w1 1 (by decide), r_80 1 (by decide)]
            have q : ∀ j, j ≠ 6 → j ≠ 14 → j ≠ 10 → S_112.1 j = S.1 j := fun j a b c => by rw [r_112 j a, w1 j b, r_80 j c]
            have hpi : rd_pile S_112 pl := ⟨by rw [q 16 (by decide) (by decide) (by decide)]; exact mp.1, by rw [s_112, w3 15 (by decide), s_80]; exact mp.2⟩
            have hou : rd_out S_112 (stp D ++ (A ++ B).map tkN ++ [tkN (k, v)]) := ⟨by rw [r_112 14 (by decide)]; exact ho_107.1, by rw [s_112]; exact ho_107.2⟩
            have hfin : rd_x S_112 (if s = 2 then (s, e, 0, pa + 1, de, br, D, A ++ [(k, v)], B, pl) else (s, e, 0, pa + 1, de, br, D, A, B ++ [(k, v)], pl)) := by
              have h3 : S_112.1 3 = nI e := by rw [q 3 (by decide) (by decide) (by decide)]; exact t3
              have c1 : (if s = 0 ∨ s = 9 then 0 else 1) = (if st = 0 ∨ st = 9 then 0 else 1) := by rw [if_neg (by omega), if_neg (by omega)]
              have hA : S_112.1 6 = nI s ∧ S_112.1 7 = 0 ∧ S_112.1 8 = nI (D.length + if s = 0 ∨ s = 9 then 0 else 1) := ⟨k_112, by rw [q 7 (by decide) (by decide) (by decide)]; exact m7, by rw [q 8 (by decide) (by decide) (by decide), c1]; exact m8⟩
              have hB : (s = 1 ∨ s = 2 → S_112.1 9 = 0) ∧ (3 ≤ s ∧ s ≤ 8 → S_112.1 9 = 1) := by
                rw [q 9 (by decide) (by decide) (by decide)]
                exact ⟨fun z => m9a (by omega), fun z => m9b (by omega)⟩
              have hC : S_112.1 10 = nI (pa + 1) ∧ S_112.1 11 = nI de ∧ S_112.1 12 = nI br := ⟨by rw [r_112 10 (by decide), w1 10 (by decide), k_80]; exact nI_1 pa, by rw [q 11 (by decide) (by decide) (by decide)]; exact m11, by rw [q 12 (by decide) (by decide) (by decide)]; exact m12⟩
              by_cases hs2 : s = 2
              · rw [if_pos hs2]
                have hBn : B = [] := (hI.2.2.2.1.2.1 (by omega)).1
                subst hBn
                refine rd_x_i h3 ⟨hA, hB, hC, ?_, hpi⟩
                rw [out_A]
                exact hou
              · rw [if_neg hs2]
                refine rd_x_i h3 ⟨hA, hB, hC, ?_, hpi⟩
                rw [out_B]
                exact hou
            refine wq_ret ?_ (rs_vret (pc := 115) dX5_putValue_115 rfl)
            refine ⟨rfl, E_9, _, hrd, hb, ?_⟩
            unfold py_put
            show rd_x S_112 (if k ≠ 0 ∧ k ≠ 1 then _ else _)
            rw [if_neg (by omega), if_neg (by omega), if_neg g5]
            exact hfin
        · have g5 : pa = 60 := tx_eq1 (b := 60) (by omega) (by decide) rfl c_62
          refine wq (fun _ _ kk => rs_aload_n (pc := 65) dX5_putValue_65 rfl kk) ?_
          refine wq (fun _ _ kk => rs_iconst (v := 3) (pc := 66) dX5_putValue_66 rfl kk) ?_
          obtain ⟨rv_67, hc_67, ⟨rfl, ee_67, T_67, hrd_67, k_67, r_67, s_67⟩, hm_67⟩ := c_X5_fail (c := 3) hrd t2
          refine wq (fun _ _ kk => rs_callV (as := [_]) (pc := 67) dX5_putValue_67 mk_X5_fail mlX5_205 in_X5_fail se_X5_fail rfl (mo_lt hrd (by decide)) hrd.2.1 rfl rfl (Nat.le_of_ble_eq_true rfl) (hm_67) kk) ?_
          replace hrd := hrd_67
          have hf : ∀ x : PS, rd_x T_67 (py_fail 3 a x) := fun x => rd_x_f k_67
          have hb : T_67.1 1 = S.1 1 := r_67 1 (by decide)
          have E_67 := (xd.rf).trans ee_67
          refine wq (fun _ _ kk => rs_goto (tgt := 115) (pc := 70) dX5_putValue_70 rfl kk) ?_
          refine wq_ret ?_ (rs_vret (pc := 115) dX5_putValue_115 rfl)
          refine ⟨rfl, E_67, _, hrd, hb, ?_⟩
          unfold py_put
          show rd_x T_67 (if k ≠ 0 ∧ k ≠ 1 then _ else _)
          rw [if_neg (by omega), if_neg (by omega), if_pos g5]
          exact hf _
      · have g3 : k = 0 := kc_in hk19 (by decide) c_32
        refine wq (fun _ _ kk => rs_aload_n (pc := 35) dX5_putValue_35 rfl kk) ?_
        refine wq (fun _ _ kk => rs_getf (pc := 36) dX5_putValue_36 fX5_22 (mo_lt hrd (by decide)) hrd.2.1 rfl kk) ?_
        rw [t3]
        refine wq (fun _ _ kk => rs_aload_n (pc := 39) dX5_putValue_39 rfl kk) ?_
        refine wq (fun _ _ kk => rs_getf (pc := 40) dX5_putValue_40 fX5_19 (mo_lt hrd (by decide)) hrd.2.1 rfl kk) ?_
        refine wq (fun _ _ kk => rs_isub (pc := 43) dX5_putValue_43 kk) ?_
        rw [t2, nI_sub (show a ≤ e by omega)]
        refine wq (fun _ _ kk => rs_iconst (v := 5) (pc := 44) dX5_putValue_44 rfl kk) ?_
        refine wq_br (fun _ _ kt kf => rs_icmp_le (tgt := 56) (pc := 45) dX5_putValue_45 rfl kt kf) (fun c_45 => ?_) (fun c_45 => ?_)
        · have g4 : ¬ 5 < e - a := Nat.not_lt.mpr (tx_ge1 (b := 5) (by omega) (by decide) rfl c_45)
          refine wq (fun _ _ kk => rs_aload_n (pc := 56) dX5_putValue_56 rfl kk) ?_
          refine wq (fun _ _ kk => rs_getf (pc := 57) dX5_putValue_57 fX5_45 (mo_lt hrd (by decide)) hrd.2.1 rfl kk) ?_
          rw [m10]
          refine wq (fun _ _ kk => rs_bipush (v := 60) (pc := 60) dX5_putValue_60 rfl kk) ?_
          refine wq_bn (fun _ _ kt kf => rs_icmp_ne (tgt := 73) (pc := 62) dX5_putValue_62 rfl kt kf) (fun c_62 => ?_) (fun c_62 => ?_)
          · have g5 : ¬ pa = 60 := fun z => c_62 (by rw [z]; rfl)
            refine wq (fun _ _ kk => rs_aload_n (pc := 73) dX5_putValue_73 rfl kk) ?_
            refine wq (fun _ _ kk => rs_dup (pc := 74) dX5_putValue_74 rfl kk) ?_
            refine wq (fun _ _ kk => rs_getf (pc := 75) dX5_putValue_75 fX5_45 (mo_lt hrd (by decide)) hrd.2.1 rfl kk) ?_
            rw [m10]
            refine wq (fun _ _ kk => rs_iconst (v := 1) (pc := 78) dX5_putValue_78 rfl kk) ?_
            refine wq (fun _ _ kk => rs_iadd (pc := 79) dX5_putValue_79 kk) ?_
            refine wq (fun _ _ kk => rs_putf (pc := 80) dX5_putValue_80 fX5_45 (mo_lt hrd (by decide)) hrd.2.1 rfl (Nat.le_of_ble_eq_true rfl) kk) ?_
            refine wq_gen (fun h_10 e_10 => ?_)
            obtain ⟨m_10, s_10, g_10, o_10⟩ := ai_e1 e_10
            replace hrd := mo_si (k := 10) hrd m_10 g_10 o_10 rfl
            have E_10 := (xd.rf).trans (xd_of m_10 s_10 o_10 (by decide))
            obtain ⟨S_80, hrd, k_80, r_80, s_80⟩ := rd_new hrd
            refine wq (fun _ _ kk => rs_aload_n (pc := 83) dX5_putValue_83 rfl kk) ?_
            refine wq (fun _ _ kk => rs_aload_n (pc := 84) dX5_putValue_84 rfl kk) ?_
            refine wq (fun _ _ kk => rs_getf (pc := 85) dX5_putValue_85 fX5_26 (mo_lt hrd (by decide)) hrd.2.1 rfl kk) ?_
            rw [r_80 4 (by decide), t4]
            refine wq (fun _ _ kk => rs_ldc (pc := 88) dX5_putValue_88 cnX5_107 kk) ?_
            refine wq_bn (fun _ _ kt kf => rs_icmp_ne (tgt := 100) (pc := 90) dX5_putValue_90 rfl kt kf) (fun c_90 => ?_) (fun c_90 => ?_)
            · have g6 : ¬ k = 0 := fun z => c_90 (by rw [z]; rfl)
              refine wq (fun _ _ kk => rs_ldc (pc := 100) dX5_putValue_100 cnX5_208 kk) ?_
              refine wq (fun _ _ kk => rs_aload_n (pc := 102) dX5_putValue_102 rfl kk) ?_
              refine wq (fun _ _ kk => rs_getf (pc := 103) dX5_putValue_103 fX5_29 (mo_lt hrd (by decide)) hrd.2.1 rfl kk) ?_
              refine wq (fun _ _ kk => rs_iadd (pc := 106) dX5_putValue_106 kk) ?_
              rw [r_80 5 (by decide), t5 (by omega), show (100000 : Int32) = nI 100000 from rfl, nI_add, show nI (100000 + v) = nI (tkN (k, v)) by rw [show k = 1 by omega]; rfl]
              obtain ⟨rv_107, hc_107, ⟨rfl, ee_107, T_107, hrd_107, ho_107, w1, w2, w3⟩, hm_107⟩ := c_X5_step (x := tkN (k, v)) hrd (o := stp D ++ (A ++ B).map tkN) ⟨by rw [r_80 14 (by decide)]; exact mo.1, by rw [s_80]; exact mo.2⟩ (by omega)
              refine wq (fun _ _ kk => rs_callV (as := [_]) (pc := 107) dX5_putValue_107 mk_X5_step mlX5_209 in_X5_step se_X5_step rfl (mo_lt hrd (by decide)) hrd.2.1 rfl rfl (Nat.le_of_ble_eq_true rfl) (hm_107) kk) ?_
              replace hrd := hrd_107
              have E_107 := (E_10).trans ee_107
              refine wq (fun _ _ kk => rs_aload_n (pc := 110) dX5_putValue_110 rfl kk) ?_
              refine wq (fun _ _ kk => rs_iload_n (pc := 111) dX5_putValue_111 rfl kk) ?_
              refine wq (fun _ _ kk => rs_putf (pc := 112) dX5_putValue_112 fX5_32 (mo_lt hrd (by decide)) hrd.2.1 rfl (Nat.le_of_ble_eq_true rfl) kk) ?_
              refine wq_gen (fun h_11 e_11 => ?_)
              obtain ⟨m_11, s_11, g_11, o_11⟩ := ai_e1 e_11
              replace hrd := mo_si (k := 6) hrd m_11 g_11 o_11 rfl
              have E_11 := (E_107).trans (xd_of m_11 s_11 o_11 (by decide))
              obtain ⟨S_112, hrd, k_112, r_112, s_112⟩ := rd_new hrd
              have hb : S_112.1 1 = S.1 1 := by rw [r_112 1 (by decide), w1 1 (by decide), r_80 1 (by decide)]
              have q : ∀ j, j ≠ 6 → j ≠ 14 → j ≠ 10 → S_112.1 j = S.1 j := fun j a b c => by rw [r_112 j a, w1 j b, r_80 j c]
              have hpi : rd_pile S_112 pl := ⟨by rw [q 16 (by decide) (by decide) (by decide)]; exact mp.1, by rw [s_112, w3 15 (by decide), s_80]; exact mp.2⟩
              have hou : rd_out S_112 (stp D ++ (A ++ B).map tkN ++ [tkN (k, v)]) := ⟨by rw [r_112 14 (by decide)]; exact ho_107.1, by rw [s_112]; exact ho_107.2⟩
              have hfin : rd_x S_112 (if s = 2 then (s, e, 0, pa + 1, de, br, D, A ++ [(k, v)], B, pl) else (s, e, 0, pa + 1, de, br, D, A, B ++ [(k, v)], pl)) := by
                have h3 : S_112.1 3 = nI e := by rw [q 3 (by decide) (by decide) (by decide)]; exact t3
                have c1 : (if s = 0 ∨ s = 9 then 0 else 1) = (if st = 0 ∨ st = 9 then 0 else 1) := by rw [if_neg (by omega), if_neg (by omega)]
                have hA : S_112.1 6 = nI s ∧ S_112.1 7 = 0 ∧ S_112.1 8 = nI (D.length + if s = 0 ∨ s = 9 then 0 else 1) := ⟨k_112, by rw [q 7 (by decide) (by decide) (by decide)]; exact m7, by rw [q 8 (by decide) (by decide) (by decide), c1]; exact m8⟩
                have hB : (s = 1 ∨ s = 2 → S_112.1 9 = 0) ∧ (3 ≤ s ∧ s ≤ 8 → S_112.1 9 = 1) := by
                  rw [q 9 (by decide) (by decide) (by decide)]
                  exact ⟨fun z => m9a (by omega), fun z => m9b (by omega)⟩
                have hC : S_112.1 10 = nI (pa + 1) ∧ S_112.1 11 = nI de ∧ S_112.1 12 = nI br := ⟨by rw [r_112 10 (by decide), w1 10 (by decide), k_80]; exact nI_1 pa, by rw [q 11 (by decide) (by decide) (by decide)]; exact m11, by rw [q 12 (by decide) (by decide) (by decide)]; exact m12⟩
                by_cases hs2 : s = 2
                · rw [if_pos hs2]
                  have hBn : B = [] := (hI.2.2.2.1.2.1 (by omega)).1
                  subst hBn
                  refine rd_x_i h3 ⟨hA, hB, hC, ?_, hpi⟩
                  rw [out_A]
                  exact hou
                · rw [if_neg hs2]
                  refine rd_x_i h3 ⟨hA, hB, hC, ?_, hpi⟩
                  rw [out_B]
                  exact hou
              refine wq_ret ?_ (rs_vret (pc := 115) dX5_putValue_115 rfl)
              refine ⟨rfl, E_11, _, hrd, hb, ?_⟩
              unfold py_put
              show rd_x S_112 (if k ≠ 0 ∧ k ≠ 1 then _ else _)
              rw [if_neg (by omega), if_neg (by omega), if_neg g5]
              exact hfin
            · have g6 : k = 0 := kc_in hk19 (by decide) c_90
              refine wq (fun _ _ kk => rs_aload_n (pc := 93) dX5_putValue_93 rfl kk) ?_
              refine wq (fun _ _ kk => rs_getf (pc := 94) dX5_putValue_94 fX5_29 (mo_lt hrd (by decide)) hrd.2.1 rfl kk) ?_
              rw [r_80 5 (by decide), t5 (by omega), show nI v = nI (tkN (k, v)) by rw [g6]; rfl]
              refine wq (fun _ _ kk => rs_goto (tgt := 107) (pc := 97) dX5_putValue_97 rfl kk) ?_
              obtain ⟨rv_107, hc_107, ⟨rfl, ee_107, T_107, hrd_107, ho_107, w1, w2, w3⟩, hm_107⟩ := c_X5_step (x := tkN (k, v)) hrd (o := stp D ++ (A ++ B).map tkN) ⟨by rw [r_80 14 (by decide)]; exact mo.1, by rw [s_80]; exact mo.2⟩ (by omega)
              refine wq (fun _ _ kk => rs_callV (as := [_]) (pc := 107) dX5_putValue_107 mk_X5_step mlX5_209 in_X5_step se_X5_step rfl (mo_lt hrd (by decide)) hrd.2.1 rfl rfl (Nat.le_of_ble_eq_true rfl) (hm_107) kk) ?_
              replace hrd := hrd_107
              have E_107 := (E_10).trans ee_107
              refine wq (fun _ _ kk => rs_aload_n (pc := 110) dX5_putValue_110 rfl kk) ?_
              refine wq (fun _ _ kk => rs_iload_n (pc := 111) dX5_putValue_111 rfl kk) ?_
              refine wq (fun _ _ kk => rs_putf (pc := 112) dX5_putValue_112 fX5_32 (mo_lt hrd (by decide)) hrd.2.1 rfl (Nat.le_of_ble_eq_true rfl) kk) ?_
              refine wq_gen (fun h_12 e_12 => ?_)
              obtain ⟨m_12, s_12, g_12, o_12⟩ := ai_e1 e_12
              replace hrd := mo_si (k := 6) hrd m_12 g_12 o_12 rfl
              have E_12 := (E_107).trans (xd_of m_12 s_12 o_12 (by decide))
              obtain ⟨S_112, hrd, k_112, r_112, s_112⟩ := rd_new hrd
              have hb : S_112.1 1 = S.1 1 := by rw [r_112 1 (by decide), w1 1 (by decide), r_80 1 (by decide)]
              have q : ∀ j, j ≠ 6 → j ≠ 14 → j ≠ 10 → S_112.1 j = S.1 j := fun j a b c => by rw [r_112 j a, w1 j b, r_80 j c]
              have hpi : rd_pile S_112 pl := ⟨by rw [q 16 (by decide) (by decide) (by decide)]; exact mp.1, by rw [s_112, w3 15 (by decide), s_80]; exact mp.2⟩
              have hou : rd_out S_112 (stp D ++ (A ++ B).map tkN ++ [tkN (k, v)]) := ⟨by rw [r_112 14 (by decide)]; exact ho_107.1, by rw [s_112]; exact ho_107.2⟩
              have hfin : rd_x S_112 (if s = 2 then (s, e, 0, pa + 1, de, br, D, A ++ [(k, v)], B, pl) else (s, e, 0, pa + 1, de, br, D, A, B ++ [(k, v)], pl)) := by
                have h3 : S_112.1 3 = nI e := by rw [q 3 (by decide) (by decide) (by decide)]; exact t3
                have c1 : (if s = 0 ∨ s = 9 then 0 else 1) = (if st = 0 ∨ st = 9 then 0 else 1) := by rw [if_neg (by omega), if_neg (by omega)]
                have hA : S_112.1 6 = nI s ∧ S_112.1 7 = 0 ∧ S_112.1 8 = nI (D.length + if s = 0 ∨ s = 9 then 0 else 1) := ⟨k_112, by rw [q 7 (by decide) (by decide) (by decide)]; exact m7, by rw [q 8 (by decide) (by decide) (by decide), c1]; exact m8⟩
                have hB : (s = 1 ∨ s = 2 → S_112.1 9 = 0) ∧ (3 ≤ s ∧ s ≤ 8 → S_112.1 9 = 1) := by
                  rw [q 9 (by decide) (by decide) (by decide)]
                  exact ⟨fun z => m9a (by omega), fun z => m9b (by omega)⟩
                have hC : S_112.1 10 = nI (pa + 1) ∧ S_112.1 11 = nI de ∧ S_112.1 12 = nI br := ⟨by rw [r_112 10 (by decide), w1 10 (by decide), k_80]; exact nI_1 pa, by rw [q 11 (by decide) (by decide) (by decide)]; exact m11, by rw [q 12 (by decide) (by decide) (by decide)]; exact m12⟩
                by_cases hs2 : s = 2
                · rw [if_pos hs2]
                  have hBn : B = [] := (hI.2.2.2.1.2.1 (by omega)).1
                  subst hBn
                  refine rd_x_i h3 ⟨hA, hB, hC, ?_, hpi⟩
                  rw [out_A]
                  exact hou
                · rw [if_neg hs2]
                  refine rd_x_i h3 ⟨hA, hB, hC, ?_, hpi⟩
                  rw [out_B]
                  exact hou
              refine wq_ret ?_ (rs_vret (pc := 115) dX5_putValue_115 rfl)
              refine ⟨rfl, E_12, _, hrd, hb, ?_⟩
              unfold py_put
              show rd_x S_112 (if k ≠ 0 ∧ k ≠ 1 then _ else _)
              rw [if_neg (by omega), if_neg (by omega), if_neg g5]
              exact hfin
          · have g5 : pa = 60 := tx_eq1 (b := 60) (by omega) (by decide) rfl c_62
            refine wq (fun _ _ kk => rs_aload_n (pc := 65) dX5_putValue_65 rfl kk) ?_
            refine wq (fun _ _ kk => rs_iconst (v := 3) (pc := 66) dX5_putValue_66 rfl kk) ?_
            obtain ⟨rv_67, hc_67, ⟨rfl, ee_67, T_67, hrd_67, k_67, r_67, s_67⟩, hm_67⟩ := c_X5_fail (c := 3) hrd t2
            refine wq (fun _ _ kk => rs_callV (as := [_]) (pc := 67) dX5_putValue_67 mk_X5_fail mlX5_205 in_X5_fail se_X5_fail rfl (mo_lt hrd (by decide)) hrd.2.1 rfl rfl (Nat.le_of_ble_eq_true rfl) (hm_67) kk) ?_
            replace hrd := hrd_67
            have hf : ∀ x : PS, rd_x T_67 (py_fail 3 a x) := fun x => rd_x_f k_67
            have hb : T_67.1 1 = S.1 1 := r_67 1 (by decide)
            have E_67 := (xd.rf).trans ee_67
            refine wq (fun _ _ kk => rs_goto (tgt := 115) (pc := 70) dX5_putValue_70 rfl kk) ?_
            refine wq_ret ?_ (rs_vret (pc := 115) dX5_putValue_115 rfl)
            refine ⟨rfl, E_67, _, hrd, hb, ?_⟩
            unfold py_put
            show rd_x T_67 (if k ≠ 0 ∧ k ≠ 1 then _ else _)
            rw [if_neg (by omega), if_neg (by omega), if_pos g5]
            exact hf _
        · have g4 : 5 < e - a := tx_ge2 (b := 5) (by omega) (by decide) rfl c_45
          refine wq (fun _ _ kk => rs_aload_n (pc := 48) dX5_putValue_48 rfl kk) ?_
          refine wq (fun _ _ kk => rs_iconst (v := 1) (pc := 49) dX5_putValue_49 rfl kk) ?_
          obtain ⟨rv_50, hc_50, ⟨rfl, ee_50, T_50, hrd_50, k_50, r_50, s_50⟩, hm_50⟩ := c_X5_fail (c := 1) hrd t2
          refine wq (fun _ _ kk => rs_callV (as := [_]) (pc := 50) dX5_putValue_50 mk_X5_fail mlX5_205 in_X5_fail se_X5_fail rfl (mo_lt hrd (by decide)) hrd.2.1 rfl rfl (Nat.le_of_ble_eq_true rfl) (hm_50) kk) ?_
          replace hrd := hrd_50
          have hf : ∀ x : PS, rd_x T_50 (py_fail 1 a x) := fun x => rd_x_f k_50
          have hb : T_50.1 1 = S.1 1 := r_50 1 (by decide)
          have E_50 := (xd.rf).trans ee_50
          refine wq (fun _ _ kk => rs_goto (tgt := 115) (pc := 53) dX5_putValue_53 rfl kk) ?_
          refine wq_ret ?_ (rs_vret (pc := 115) dX5_putValue_115 rfl)
          refine ⟨rfl, E_50, _, hrd, hb, ?_⟩
          unfold py_put
          show rd_x T_50 (if k ≠ 0 ∧ k ≠ 1 then _ else _)
          rw [if_neg (by omega), if_pos ⟨g3, g4⟩]
          exact hf _
    · have g2 : ¬ k = 1 := fun z => c_15 (by rw [z]; rfl)
      refine wq (fun _ _ kk => rs_aload_n (pc := 18) dX5_putValue_18 rfl kk) ?_
      refine wq (fun _ _ kk => rs_iconst (v := 0) (pc := 19) dX5_putValue_19 rfl kk) ?_
      obtain ⟨rv_20, hc_20, ⟨rfl, ee_20, T_20, hrd_20, k_20, r_20, s_20⟩, hm_20⟩ := c_X5_fail (c := 0) hrd t2
      refine wq (fun _ _ kk => rs_callV (as := [_]) (pc := 20) dX5_putValue_20 mk_X5_fail mlX5_205 in_X5_fail se_X5_fail rfl (mo_lt hrd (by decide)) hrd.2.1 rfl rfl (Nat.le_of_ble_eq_true rfl) (hm_20) kk) ?_
      replace hrd := hrd_20
      have hf : ∀ x : PS, rd_x T_20 (py_fail 0 a x) := fun x => rd_x_f k_20
      have hb : T_20.1 1 = S.1 1 := r_20 1 (by decide)
      have E_20 := (xd.rf).trans ee_20
      refine wq (fun _ _ kk => rs_goto (tgt := 115) (pc := 23) dX5_putValue_23 rfl kk) ?_
      refine wq_ret ?_ (rs_vret (pc := 115) dX5_putValue_115 rfl)
      refine ⟨rfl, E_20, _, hrd, hb, ?_⟩
      unfold py_put
      show rd_x T_20 (if k ≠ 0 ∧ k ≠ 1 then _ else _)
      rw [if_pos ⟨g1, g2⟩]
      exact hf _
theorem dX5_join_0 : decode cX5_join 0 = .ok (.aload_n 0, 1) := by decide +kernel
theorem dX5_join_1 : decode cX5_join 1 = .ok (.aload_n 0, 1) := by decide +kernel
theorem dX5_join_2 : decode cX5_join 2 = .ok (.getfield 26, 3) := by decide +kernel
theorem dX5_join_5 : decode cX5_join 5 = .ok (.invokestatic 233, 3) := by decide +kernel
theorem dX5_join_8 : decode cX5_join 8 = .ok (.invokevirtual 219, 3) := by decide +kernel
theorem dX5_join_11 : decode cX5_join 11 = .ok (.aload_n 0, 1) := by decide +kernel
theorem dX5_join_12 : decode cX5_join 12 = .ok (.aload_n 0, 1) := by decide +kernel
theorem dX5_join_13 : decode cX5_join 13 = .ok (.getfield 26, 3) := by decide +kernel
theorem dX5_join_16 : decode cX5_join 16 = .ok (.invokevirtual 225, 3) := by decide +kernel
theorem dX5_join_19 : decode cX5_join 19 = .ok (.aload_n 0, 1) := by decide +kernel
theorem dX5_join_20 : decode cX5_join 20 = .ok (.iload_n 1, 1) := by decide +kernel
theorem dX5_join_21 : decode cX5_join 21 = .ok (.putfield 32, 3) := by decide +kernel
theorem dX5_join_24 : decode cX5_join 24 = .ok (.return_, 1) := by decide +kernel
set_option maxRecDepth 100000 in
set_option maxHeartbeats 4000000 in
theorem c_X5_join {h : ai_H} {S : Md} {n st p pa de br k v a e : Nat} {D : List Cl} {A B : List Tk} {pl : List Nat} (hrd : rd_at 13 h S) (hm : rd_m S st pa de br D A B pl) (ht : rd_tk S n k v a e) (hI : py_I n st p pa de br D A B pl) (hpa : p ≤ a) {s : Nat} (hs : (st = 2 ∧ s = 1) ∨ (3 ≤ st ∧ st ≤ 8 ∧ 3 ≤ s ∧ s ≤ 8)) (hk : 2 ≤ k ∧ k ≤ 13) (hr : 1 ≤ py_rk k) (hva : ∀ x, x ∈ pl → 2 ≤ x ∧ x ≤ 13) (hBn : s = 1 → B = []) : ai_QM MX5_join [.ref 16, .int (nI s)] h (fun r g => r = none ∧ xd h g ∧ ∃ T, rd_at 13 g T ∧ T.1 1 = S.1 1 ∧ rd_x T (py_join s k e (st, p, 0, pa, de, br, D, A, B, pl))) := by
  obtain ⟨t2, t3, t4, t5, hk19, han, hae, hen, hv0, hv1, hn4⟩ := ht
  obtain ⟨⟨m6, m7, m8⟩, ⟨m9a, m9b⟩, ⟨m10, m11, m12⟩, mo, mp⟩ := id hm
  obtain ⟨z1, z2, z3, z4, z5, z6⟩ := rd_room hn4 hI
  have hpl2 : (py_dw (py_rk k) pl).length ≤ 35 := Nat.le_trans (List.dropWhile_suffix _).length_le z1
  refine qm_of (ls := [.ref 16, .int (nI s)]) (by decide) (by simp [ai_en, Value.category]) (by rfl) ?_
  refine wq (fun _ _ kk => rs_aload_n (pc := 0) dX5_join_0 rfl kk) ?_
  refine wq (fun _ _ kk => rs_aload_n (pc := 1) dX5_join_1 rfl kk) ?_
  refine wq (fun _ _ kk => rs_getf (pc := 2) dX5_join_2 fX5_26 (mo_lt hrd (by decide)) hrd.2.1 rfl kk) ?_
  rw [t4]
  refine wq (fun _ _ kk => rs_callS (as := [_]) (pc := 5) dX5_join_5 mk_X5_rank mlX5_233 st_X5_rank rfl rfl (Nat.le_of_ble_eq_true rfl) (c_X5_rank hk) kk) ?_
  obtain ⟨rv_8, hc_8, ⟨rfl, ee_8, T_8, hrd_8, ho_8, hp_8, h11_8, w1, w2, w3⟩, hm_8⟩ := c_X5_settle (r0 := py_rk k) (by have := (py_rk_b k).1; omega) hva (by omega) (by omega) (by have := py_nt_le (pl := pl) hr; have := hI.2.2.1.1; omega) (by omega) hrd mo mp m11
  refine wq (fun _ _ kk => rs_callV (as := [_]) (pc := 8) dX5_join_8 mk_X5_settle mlX5_219 in_X5_settle se_X5_settle rfl (mo_lt hrd (by decide)) hrd.2.1 rfl rfl (Nat.le_of_ble_eq_true rfl) (hm_8) kk) ?_
  replace hrd := hrd_8
  have E_8 := (xd.rf).trans ee_8
  refine wq (fun _ _ kk => rs_aload_n (pc := 11) dX5_join_11 rfl kk) ?_
  refine wq (fun _ _ kk => rs_aload_n (pc := 12) dX5_join_12 rfl kk) ?_
  refine wq (fun _ _ kk => rs_getf (pc := 13) dX5_join_13 fX5_26 (mo_lt hrd (by decide)) hrd.2.1 rfl kk) ?_
  rw [w1 4 (by decide) (by decide) (by decide), t4]
  obtain ⟨rv_16, hc_16, ⟨rfl, ee_16, T_16, hrd_16, hp_16, v1, v2, v3⟩, hm_16⟩ := c_X5_putBy (k := k) hrd hp_8 (by omega)
  refine wq (fun _ _ kk => rs_callV (as := [_]) (pc := 16) dX5_join_16 mk_X5_putBy mlX5_225 in_X5_putBy se_X5_putBy rfl (mo_lt hrd (by decide)) hrd.2.1 rfl rfl (Nat.le_of_ble_eq_true rfl) (hm_16) kk) ?_
  replace hrd := hrd_16
  have E_16 := (E_8).trans ee_16
  refine wq (fun _ _ kk => rs_aload_n (pc := 19) dX5_join_19 rfl kk) ?_
  refine wq (fun _ _ kk => rs_iload_n (pc := 20) dX5_join_20 rfl kk) ?_
  refine wq (fun _ _ kk => rs_putf (pc := 21) dX5_join_21 fX5_32 (mo_lt hrd (by decide)) hrd.2.1 rfl (Nat.le_of_ble_eq_true rfl) kk) ?_
  refine wq_gen (fun h_1 e_1 => ?_)
  obtain ⟨m_1, s_1, g_1, o_1⟩ := ai_e1 e_1
  replace hrd := mo_si (k := 6) hrd m_1 g_1 o_1 rfl
  have E_1 := (E_16).trans (xd_of m_1 s_1 o_1 (by decide))
  obtain ⟨S_21, hrd, k_21, r_21, s_21⟩ := rd_new hrd
  refine wq_ret ?_ (rs_vret (pc := 24) dX5_join_24 rfl)
  have q : ∀ j, j ≠ 6 → j ≠ 11 → j ≠ 14 → j ≠ 16 → S_21.1 j = S.1 j := fun j a b c d => by rw [r_21 j a, v1 j d, w1 j b c d]
  refine ⟨rfl, E_1, _, hrd, q 1 (by decide) (by decide) (by decide) (by decide), ?_⟩
  have h3 : S_21.1 3 = nI e := by rw [q 3 (by decide) (by decide) (by decide) (by decide)]; exact t3
  have c1 : (if s = 0 ∨ s = 9 then 0 else 1) = (if st = 0 ∨ st = 9 then 0 else 1) := by rw [if_neg (by omega), if_neg (by omega)]
  have hA : S_21.1 6 = nI s ∧ S_21.1 7 = 0 ∧ S_21.1 8 = nI (D.length + if s = 0 ∨ s = 9 then 0 else 1) := ⟨k_21, by rw [q 7 (by decide) (by decide) (by decide) (by decide)]; exact m7, by rw [q 8 (by decide) (by decide) (by decide) (by decide), c1]; exact m8⟩
  have hB : (s = 1 ∨ s = 2 → S_21.1 9 = 0) ∧ (3 ≤ s ∧ s ≤ 8 → S_21.1 9 = 1) := by
    rw [q 9 (by decide) (by decide) (by decide) (by decide)]
    exact ⟨fun z => m9a (by omega), fun z => m9b (by omega)⟩
  have hC : S_21.1 10 = nI pa ∧ S_21.1 11 = nI (de - py_nt (py_tw (py_rk k) pl)) ∧ S_21.1 12 = nI br := ⟨by rw [q 10 (by decide) (by decide) (by decide) (by decide)]; exact m10, by rw [r_21 11 (by decide), v1 11 (by decide)]; exact h11_8, by rw [q 12 (by decide) (by decide) (by decide) (by decide)]; exact m12⟩
  have hpi : rd_pile S_21 (k :: py_dw (py_rk k) pl) := ⟨by rw [r_21 16 (by decide)]; exact hp_16.1, by rw [s_21]; exact hp_16.2⟩
  have hou : rd_out S_21 (stp D ++ (A ++ B).map tkN ++ (py_tk (py_tw (py_rk k) pl)).map tkN) := by
    rw [← kc_tw hr hva]
    exact ⟨by rw [r_21 14 (by decide), v1 14 (by decide)]; exact ho_8.1, by rw [s_21, v3 13 (by decide)]; exact ho_8.2⟩
  unfold py_join
  show rd_x S_21 (if s = 1 then _ else _)
  by_cases hs1 : s = 1
  · rw [if_pos hs1]
    obtain rfl := hBn hs1
    refine rd_x_i h3 ⟨hA, hB, hC, ?_, hpi⟩
    rw [out_A]
    exact hou
  · rw [if_neg hs1]
    refine rd_x_i h3 ⟨hA, hB, hC, ?_, hpi⟩
    rw [out_B]
    exact hou
