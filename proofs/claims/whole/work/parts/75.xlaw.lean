/-! 75: law of the class (walks laid by wip/whole/p75.py) -/
theorem dX3_init_0 : decode cX3_init 0 = .ok (.aload_n 0, 1) := by decide +kernel
theorem dX3_init_1 : decode cX3_init 1 = .ok (.invokespecial 1, 3) := by decide +kernel
theorem dX3_init_4 : decode cX3_init 4 = .ok (.iconst 0, 1) := by decide +kernel
theorem dX3_init_5 : decode cX3_init 5 = .ok (.iload_n 2, 1) := by decide +kernel
theorem dX3_init_6 : decode cX3_init 6 = .ok (.aload_n 1, 1) := by decide +kernel
theorem dX3_init_7 : decode cX3_init 7 = .ok (.arraylength, 1) := by decide +kernel
theorem dX3_init_8 : decode cX3_init 8 = .ok (.invokestatic 7, 3) := by decide +kernel
theorem dX3_init_11 : decode cX3_init 11 = .ok (.invokestatic 13, 3) := by decide +kernel
theorem dX3_init_14 : decode cX3_init 14 = .ok (.istore_n 3, 1) := by decide +kernel
theorem dX3_init_15 : decode cX3_init 15 = .ok (.aload_n 0, 1) := by decide +kernel
theorem dX3_init_16 : decode cX3_init 16 = .ok (.iload_n 3, 1) := by decide +kernel
theorem dX3_init_17 : decode cX3_init 17 = .ok (.newarray .int, 2) := by decide +kernel
theorem dX3_init_19 : decode cX3_init 19 = .ok (.putfield 16, 3) := by decide +kernel
theorem dX3_init_22 : decode cX3_init 22 = .ok (.aload_n 1, 1) := by decide +kernel
theorem dX3_init_23 : decode cX3_init 23 = .ok (.iconst 0, 1) := by decide +kernel
theorem dX3_init_24 : decode cX3_init 24 = .ok (.aload_n 0, 1) := by decide +kernel
theorem dX3_init_25 : decode cX3_init 25 = .ok (.getfield 16, 3) := by decide +kernel
theorem dX3_init_28 : decode cX3_init 28 = .ok (.iconst 0, 1) := by decide +kernel
theorem dX3_init_29 : decode cX3_init 29 = .ok (.iload_n 3, 1) := by decide +kernel
theorem dX3_init_30 : decode cX3_init 30 = .ok (.invokestatic 22, 3) := by decide +kernel
theorem dX3_init_33 : decode cX3_init 33 = .ok (.return_, 1) := by decide +kernel
theorem dX5_lawRead_0 : decode cX5_lawRead 0 = .ok (.new 81, 3) := by decide +kernel
theorem dX5_lawRead_3 : decode cX5_lawRead 3 = .ok (.dup, 1) := by decide +kernel
theorem dX5_lawRead_4 : decode cX5_lawRead 4 = .ok (.aload_n 0, 1) := by decide +kernel
theorem dX5_lawRead_5 : decode cX5_lawRead 5 = .ok (.getfield 54, 3) := by decide +kernel
theorem dX5_lawRead_8 : decode cX5_lawRead 8 = .ok (.aload_n 0, 1) := by decide +kernel
theorem dX5_lawRead_9 : decode cX5_lawRead 9 = .ok (.getfield 57, 3) := by decide +kernel
theorem dX5_lawRead_12 : decode cX5_lawRead 12 = .ok (.invokespecial 83, 3) := by decide +kernel
theorem dX5_lawRead_15 : decode cX5_lawRead 15 = .ok (.areturn, 1) := by decide +kernel
theorem dX11_law_0 : decode cX11_law 0 = .ok (.aload_n 0, 1) := by decide +kernel
theorem dX11_law_1 : decode cX11_law 1 = .ok (.getfield 34, 3) := by decide +kernel
theorem dX11_law_4 : decode cX11_law 4 = .ok (.bipush 10, 2) := by decide +kernel
theorem dX11_law_6 : decode cX11_law 6 = .ok (.if_icmp .lt 5, 3) := by decide +kernel
theorem dX11_law_9 : decode cX11_law 9 = .ok (.iconst (-1), 1) := by decide +kernel
theorem dX11_law_10 : decode cX11_law 10 = .ok (.ireturn, 1) := by decide +kernel
theorem dX11_law_11 : decode cX11_law 11 = .ok (.aload_n 0, 1) := by decide +kernel
theorem dX11_law_12 : decode cX11_law 12 = .ok (.getfield 44, 3) := by decide +kernel
theorem dX11_law_15 : decode cX11_law 15 = .ok (.aload_n 0, 1) := by decide +kernel
theorem dX11_law_16 : decode cX11_law 16 = .ok (.getfield 20, 3) := by decide +kernel
theorem dX11_law_19 : decode cX11_law 19 = .ok (.aload_n 0, 1) := by decide +kernel
theorem dX11_law_20 : decode cX11_law 20 = .ok (.getfield 24, 3) := by decide +kernel
theorem dX11_law_23 : decode cX11_law 23 = .ok (.invokevirtual 161, 3) := by decide +kernel
theorem dX11_law_26 : decode cX11_law 26 = .ok (.istore_n 1, 1) := by decide +kernel
theorem dX11_law_27 : decode cX11_law 27 = .ok (.aload_n 0, 1) := by decide +kernel
theorem dX11_law_28 : decode cX11_law 28 = .ok (.iconst 0, 1) := by decide +kernel
theorem dX11_law_29 : decode cX11_law 29 = .ok (.putfield 24, 3) := by decide +kernel
theorem dX11_law_32 : decode cX11_law 32 = .ok (.iload_n 1, 1) := by decide +kernel
theorem dX11_law_33 : decode cX11_law 33 = .ok (.ifCond .eq 8, 3) := by decide +kernel
theorem dX11_law_36 : decode cX11_law 36 = .ok (.bipush (-2), 2) := by decide +kernel
theorem dX11_law_38 : decode cX11_law 38 = .ok (.iload_n 1, 1) := by decide +kernel
theorem dX11_law_39 : decode cX11_law 39 = .ok (.isub, 1) := by decide +kernel
theorem dX11_law_40 : decode cX11_law 40 = .ok (.ireturn, 1) := by decide +kernel
theorem dX11_law_41 : decode cX11_law 41 = .ok (.aload_n 0, 1) := by decide +kernel
theorem dX11_law_42 : decode cX11_law 42 = .ok (.getfield 30, 3) := by decide +kernel
theorem dX11_law_45 : decode cX11_law 45 = .ok (.aload_n 0, 1) := by decide +kernel
theorem dX11_law_46 : decode cX11_law 46 = .ok (.getfield 34, 3) := by decide +kernel
theorem dX11_law_49 : decode cX11_law 49 = .ok (.aload_n 0, 1) := by decide +kernel
theorem dX11_law_50 : decode cX11_law 50 = .ok (.getfield 44, 3) := by decide +kernel
theorem dX11_law_53 : decode cX11_law 53 = .ok (.invokevirtual 165, 3) := by decide +kernel
theorem dX11_law_56 : decode cX11_law 56 = .ok (.aastore, 1) := by decide +kernel
theorem dX11_law_57 : decode cX11_law 57 = .ok (.aload_n 0, 1) := by decide +kernel
theorem dX11_law_58 : decode cX11_law 58 = .ok (.dup, 1) := by decide +kernel
theorem dX11_law_59 : decode cX11_law 59 = .ok (.getfield 34, 3) := by decide +kernel
theorem dX11_law_62 : decode cX11_law 62 = .ok (.iconst 1, 1) := by decide +kernel
theorem dX11_law_63 : decode cX11_law 63 = .ok (.iadd, 1) := by decide +kernel
theorem dX11_law_64 : decode cX11_law 64 = .ok (.putfield 34, 3) := by decide +kernel
theorem dX11_law_67 : decode cX11_law 67 = .ok (.aload_n 0, 1) := by decide +kernel
theorem dX11_law_68 : decode cX11_law 68 = .ok (.getfield 34, 3) := by decide +kernel
theorem dX11_law_71 : decode cX11_law 71 = .ok (.iconst 1, 1) := by decide +kernel
theorem dX11_law_72 : decode cX11_law 72 = .ok (.isub, 1) := by decide +kernel
theorem dX11_law_73 : decode cX11_law 73 = .ok (.ireturn, 1) := by decide +kernel
theorem bi_mm4 {n : Nat} (h : n ≤ 412) : bi_maxI 0 (bi_minI (nI n) 412) = nI n := by
  unfold bi_maxI bi_minI
  by_cases c : (412 : Int32) < nI n
  · exact absurd (tx_gt1 (b := 412) (by omega) (by decide) rfl c) (by omega)
  · rw [if_neg c]
    by_cases c2 : (0 : Int32) < nI n
    · rw [if_pos c2]
    · rw [if_neg c2]
      have : n = 0 := by have := tx_gt2 (b := 0) (by omega) (by decide) rfl c2; omega
      rw [this]; rfl
set_option maxRecDepth 100000 in
set_option maxHeartbeats 4000000 in
theorem c_X3_init {h : ai_H} {f : Nat → Int32} {m : Nat} (h18 : 18 < h.1) (he : h.2.2 18 = .inl (0, 412, .inl f)) (hm : m ≤ 412) : ai_Met MX3_init (.ref (h.1 + 0) :: [.ref 18, .int (nI m)]) (ap h [.inr (3, [.null])]) none (ap h [.inr (3, [.ref (h.1 + 1)]), .inl (0, m, .inl (va_cpy f (fun _ => 0) 0 0 m))]) := by
  refine ai_met (ls := [.ref h.1, .ref 18, .int (nI m), .float 0]) (by decide) (by simp [ai_en, Value.category]) (by rfl) ?_
  have hc : (nI m).toNatClampNeg = m := nI_clamp (by omega)
  refine rs_aload_n (pc := 0) dX3_init_0 rfl ?_
  refine rs_obj (pc := 1) dX3_init_1 mlX3_1 ob_in ob_co (by decide) (Nat.le_of_ble_eq_true rfl) ?_
  refine rs_iconst (v := 0) (pc := 4) dX3_init_4 rfl ?_
  refine rs_iload_n (pc := 5) dX3_init_5 rfl ?_
  refine rs_aload_n (pc := 6) dX3_init_6 rfl ?_
  refine rs_alen (pc := 7) dX3_init_7 (fun _ => rfl) (show 18 < (ap h _).1 from Nat.lt_of_lt_of_le h18 (Nat.le_add_right _ _)) ((ap_old h18).trans he) rfl ?_
  refine rs_callS (as := [_, _]) (pc := 8) dX3_init_8 mk_J9_min_7cf53 mlX3_7 st_J9_min_7cf53 rfl rfl (Nat.le_of_ble_eq_true rfl) c_minI ?_
  refine rs_callS (as := [_, _]) (pc := 11) dX3_init_11 mk_J9_max_7cf53 mlX3_13 st_J9_max_7cf53 rfl rfl (Nat.le_of_ble_eq_true rfl) c_maxI ?_
  show ai_R _ _ _ (.int (bi_maxI 0 (bi_minI (nI m) 412)) :: _) _ _ _
  rw [bi_mm4 hm]
  refine wk_istn3 (pc := 14) dX3_init_14 (by decide) rfl ?_
  refine rs_aload_n (pc := 15) dX3_init_15 rfl ?_
  refine rs_iload_n (pc := 16) dX3_init_16 rfl ?_
  refine cw_newI (N := m) (m := 1) (pc := 17) dX3_init_17 (nI_pos (by omega)) hc (by omega) rfl ?_
  refine cw_putF (k := 0) (i := 0) (pc := 19) dX3_init_19 ffX3_16 rfl rfl rfl (Nat.le_of_ble_eq_true rfl) ?_
  show ai_R _ _ _ _ (ap h [.inr (3, [.ref (h.1 + 1)]), .inl (0, m, .inl (fun _ => 0))]) _ _
  refine rs_aload_n (pc := 22) dX3_init_22 rfl ?_
  refine rs_iconst (v := 0) (pc := 23) dX3_init_23 rfl ?_
  refine rs_aload_n (pc := 24) dX3_init_24 rfl ?_
  refine rs_getf (pc := 25) dX3_init_25 fX3_16 (ap_lt (i := 0) rfl) (ap_get (i := 0) rfl) rfl ?_
  refine rs_iconst (v := 0) (pc := 28) dX3_init_28 rfl ?_
  refine rs_iload_n (pc := 29) dX3_init_29 rfl ?_
  refine rs_copy (pc := 30) dX3_init_30 mlX3_22 cp_na cp_st cp_in (show 18 < (ap h _).1 from Nat.lt_of_lt_of_le h18 (Nat.le_add_right _ _)) ((ap_old h18).trans he) (ap_lt (i := 1) rfl) (ap_get (i := 1) rfl) (by decide) (by decide) (nI_pos (by omega)) (by rw [hc]; show 0 + m ≤ 412; omega) (by rw [hc]; show 0 + m ≤ m; omega) (by decide) (Nat.le_of_ble_eq_true rfl) ?_
  rw [ap_set (i := 1) (e0 := .inl (0, m, .inl (fun _ => 0))) rfl (by simp [csl]), hc]
  exact wk_vret (pc := 33) dX3_init_33 rfl rfl rfl
set_option maxRecDepth 100000 in
set_option maxHeartbeats 4000000 in
theorem c_X5_lawRead {h : ai_H} {S : Md} {o : List Nat} (hrd : rd_at 13 h S) (ho : rd_out S o) (hl : o.length ≤ 412) : ai_Met MX5_lawRead [.ref 16] h (some (.ref h.1)) (ap h [.inr (3, [.ref (h.1 + 1)]), .inl (0, o.length, .inl (va_cpy (S.2.2.1 13) (fun _ => 0) 0 0 o.length))]) := by
  have h18 : 18 < h.1 := mo_lt hrd (by decide)
  have he : h.2.2 18 = .inl (0, 412, .inl (S.2.2.1 13)) := mo_geti (d := 1) (k := 13) (kd := 0) (l := 412) rfl (by decide) hrd
  refine ai_met (ls := [.ref 16]) (by decide) (by simp [ai_en, Value.category]) (by rfl) ?_
  have hgo : ∀ g : ai_H, g = h → ai_R MX5_lawRead 0 [.ref 16] [] g (some (.ref h.1)) (ap h [.inr (3, [.ref (h.1 + 1)]), .inl (0, o.length, .inl (va_cpy (S.2.2.1 13) (fun _ => 0) 0 0 o.length))]) := by
    intro g hg
    rw [hg.trans (ap_nil h).symm]
    refine cw_new (n := 0) [.null] (pc := 0) dX5_lawRead_0 kX3 clX5_81 nX3 dfX3 rfl rfl rfl ?_
    show ai_R _ _ _ _ (ap h [.inr (3, [.null])]) _ _
    refine rs_dup (pc := 3) dX5_lawRead_3 rfl ?_
    refine rs_aload_n (pc := 4) dX5_lawRead_4 rfl ?_
    refine rs_getf (pc := 5) dX5_lawRead_5 fX5_54 (show 16 < (ap h _).1 from Nat.lt_of_lt_of_le (mo_lt hrd (by decide)) (Nat.le_add_right _ _)) ((ap_old (mo_lt hrd (by decide))).trans hrd.2.1) rfl ?_
    refine rs_aload_n (pc := 8) dX5_lawRead_8 rfl ?_
    refine rs_getf (pc := 9) dX5_lawRead_9 fX5_57 (show 16 < (ap h _).1 from Nat.lt_of_lt_of_le (mo_lt hrd (by decide)) (Nat.le_add_right _ _)) ((ap_old (mo_lt hrd (by decide))).trans hrd.2.1) rfl ?_
    rw [ho.1]
    refine rs_callI (as := [_, _]) (b := h.1 + 0) (pc := 12) dX5_lawRead_12 mk_X3_init rfl mlX5_83 in_X3_init rfl (ap_lt (i := 0) rfl) rfl rfl (Nat.le_of_ble_eq_true rfl) (c_X3_init h18 he hl) ?_
    exact wk_aret (pc := 15) dX5_lawRead_15 rfl (Or.inr (Or.inl ⟨_, rfl⟩)) rfl rfl
  exact hgo h rfl
set_option maxRecDepth 100000 in
set_option maxHeartbeats 4000000 in
theorem c_X11_law {h : ai_H} {t : Nat → Nat} {n nl tc : Nat} {S : Md} {L : Nat → Option Nat} (hx : x_at h (nI n) (nI nl)) (hnl : nl ≤ 10) (hrd : rd_at tc h S) (htx : rd_tx t n h) (hL : h.2.2 14 = .inl (5, 10, .inr (.inr (.inr (.inr L))))) : ai_QM MX11_law [.ref 0] h (fun r g => (nl = 10 ∧ r = some (.int (-1)) ∧ g = h) ∨ (nl < 10 ∧ ∃ y : PS, py_rch t n py_x0 y ∧ py_stop y ∧ py_fb y ∧ py_inv n y ∧ (∃ T, rd_at 13 g T) ∧ ((y.2.2.1 ≠ 0 ∧ r = some (.int (-2 - nI y.2.2.1)) ∧ x_at g 0 (nI nl) ∧ g.1 = h.1 ∧ g.2.1 = h.2.1 ∧ ∀ j, j ≠ 0 → (j < 16 ∨ 19 < j) → g.2.2 j = h.2.2 j) ∨ (y.2.2.1 = 0 ∧ r = some (.int (nI nl)) ∧ x_at g 0 (nI (nl + 1)) ∧ g.1 = h.1 + 2 ∧ g.2.1 ≤ h.2.1 + 400 ∧ (∀ j, j < h.1 → j ≠ 0 → j ≠ 14 → (j < 16 ∨ 19 < j) → g.2.2 j = h.2.2 j) ∧ g.2.2 14 = .inl (5, 10, .inr (.inr (.inr (.inr (va_up L nl (some h.1)))))) ∧ g.2.2 h.1 = .inr (3, [.ref (h.1 + 1)]) ∧ ∃ f : Nat → Int32, g.2.2 (h.1 + 1) = .inl (0, (stp y.2.2.2.2.2.2.1).length, .inl f) ∧ ∀ k m, (stp y.2.2.2.2.2.2.1)[k]? = some m → f k = nI m)))) := by
  have hn4 := htx.1
  refine qm_of (ls := [.ref 0, .float 0]) (by decide) (by simp [ai_en, Value.category]) (by rfl) ?_
  refine wq (fun _ _ kk => rs_aload_n (pc := 0) dX11_law_0 rfl kk) ?_
  refine wq (fun _ _ kk => rs_getf (pc := 1) dX11_law_1 fX11_34 (x_lt hx (by decide)) hx.2 rfl kk) ?_
  refine wq (fun _ _ kk => rs_bipush (v := 10) (pc := 4) dX11_law_4 rfl kk) ?_
  refine wq_br (fun _ _ kt kf => rs_icmp_lt (tgt := 11) (pc := 6) dX11_law_6 rfl kt kf) (fun c_6 => ?_) (fun c_6 => ?_)
  · have g1 : nl < 10 := tx_lt1 (b := 10) (by omega) (by decide) rfl c_6
    obtain ⟨rv, h1, ⟨ee, y, T, hre, hs, hfb, hin, rfl, hrdT, hxT⟩, hmt⟩ := c_X5_read hrd htx
    have hx1 : x_at h1 (nI n) (nI nl) := x_at.keep hx ee.1 (ee.2.2 0 (by decide))
    refine wq (fun _ _ kk => rs_aload_n (pc := 11) dX11_law_11 rfl kk) ?_
    refine wq (fun _ _ kk => rs_getf (pc := 12) dX11_law_12 fX11_44 (x_lt hx (by decide)) hx.2 rfl kk) ?_
    refine wq (fun _ _ kk => rs_aload_n (pc := 15) dX11_law_15 rfl kk) ?_
    refine wq (fun _ _ kk => rs_getf (pc := 16) dX11_law_16 fX11_20 (x_lt hx (by decide)) hx.2 rfl kk) ?_
    refine wq (fun _ _ kk => rs_aload_n (pc := 19) dX11_law_19 rfl kk) ?_
    refine wq (fun _ _ kk => rs_getf (pc := 20) dX11_law_20 fX11_24 (x_lt hx (by decide)) hx.2 rfl kk) ?_
    refine wq (fun _ _ kk => rs_callV (as := [_, _]) (pc := 23) dX11_law_23 mk_X5_read mlX11_161 in_X5_read se_X5_read rfl (mo_lt hrd (by decide)) hrd.2.1 rfl rfl (Nat.le_of_ble_eq_true rfl) hmt kk) ?_
    refine wq (fun _ _ kk => wk_istn1 (pc := 26) dX11_law_26 (by decide) rfl kk) ?_
    refine wq (fun _ _ kk => rs_aload_n (pc := 27) dX11_law_27 rfl kk) ?_
    refine wq (fun _ _ kk => rs_iconst (v := 0) (pc := 28) dX11_law_28 rfl kk) ?_
    refine wq (fun _ _ kk => rs_putf (pc := 29) dX11_law_29 fX11_24 (x_lt hx1 (by decide)) hx1.2 rfl (Nat.le_of_ble_eq_true rfl) kk) ?_
    refine wq_gen (fun h2 e_2 => ?_)
    obtain ⟨m_2, s_2, g_2, o_2⟩ := ai_e1 e_2
    have hx2 : x_at h2 0 (nI nl) := ⟨by rw [m_2]; exact hx1.1, g_2⟩
    have hrd2 : rd_at 13 h2 T := rd_keep hrdT m_2 (fun j a b => o_2 j (by omega))
    have f2 : ∀ j, j ≠ 0 → (j < 16 ∨ 19 < j) → h2.2.2 j = h.2.2 j := fun j a b => (o_2 j a).trans (ee.2.2 j b)
    refine wq (fun _ _ kk => rs_iload_n (pc := 32) dX11_law_32 rfl kk) ?_
    refine wq_br (fun _ _ kt kf => rs_if_eq (tgt := 41) (pc := 33) dX11_law_33 rfl kt kf) (fun c_33 => ?_) (fun c_33 => ?_)
    · have g0 : y.2.2.1 = 0 := tx_eq1 (b := 0) (Nat.lt_of_le_of_lt hfb (by decide)) (by decide) rfl c_33
      have h9 : y.1 = 9 := hs.elim (fun z => absurd g0 z) (fun z => z)
      obtain ⟨-, hm⟩ := hxT.2 g0
      have hI := hin g0
      obtain ⟨eA, eB, ep⟩ := hI.2.2.2.1.1 (Or.inr h9)
      have hro := rd_room hn4 hI
      obtain ⟨-, -, -, ho, -⟩ := hm
      rw [eA, eB] at ho hro
      rw [show stp y.2.2.2.2.2.2.1 ++ List.map tkN ([] ++ []) = stp y.2.2.2.2.2.2.1 from List.append_nil _] at ho hro
      have hlaw := c_X5_lawRead hrd2 ho (by omega)
      have h3 := ap h2 [.inr (3, [.ref (h2.1 + 1)]), .inl (0, (stp y.2.2.2.2.2.2.1).length, .inl (va_cpy (T.2.2.1 13) (fun _ => 0) 0 0 (stp y.2.2.2.2.2.2.1).length))]
      refine wq (fun _ _ kk => rs_aload_n (pc := 41) dX11_law_41 rfl kk) ?_
      refine wq (fun _ _ kk => rs_getf (pc := 42) dX11_law_42 fX11_30 (x_lt hx2 (by decide)) hx2.2 rfl kk) ?_
      refine wq (fun _ _ kk => rs_aload_n (pc := 45) dX11_law_45 rfl kk) ?_
      refine wq (fun _ _ kk => rs_getf (pc := 46) dX11_law_46 fX11_34 (x_lt hx2 (by decide)) hx2.2 rfl kk) ?_
      refine wq (fun _ _ kk => rs_aload_n (pc := 49) dX11_law_49 rfl kk) ?_
      refine wq (fun _ _ kk => rs_getf (pc := 50) dX11_law_50 fX11_44 (x_lt hx2 (by decide)) hx2.2 rfl kk) ?_
      refine wq (fun _ _ kk => rs_callV (as := []) (pc := 53) dX11_law_53 mk_X5_lawRead mlX11_165 in_X5_lawRead se_X5_lawRead rfl (mo_lt hrd2 (by decide)) hrd2.2.1 rfl rfl (Nat.le_of_ble_eq_true rfl) hlaw kk) ?_
      clear h3
      refine wq_gen (fun h3 e_3 => ?_)
      have l3 : h3.1 = h2.1 + 2 := by rw [e_3]; rfl
      have n3 : h3.2.1 = h2.2.1 + (1 + (stp y.2.2.2.2.2.2.1).length) := by rw [e_3]; rfl
      have a3 : ∀ j, j < h2.1 → h3.2.2 j = h2.2.2 j := fun j hj => by rw [e_3]; exact ap_old hj
      have b3 : h3.2.2 h2.1 = .inr (3, [.ref (h2.1 + 1)]) := by rw [e_3]; exact ap_get (i := 0) rfl
      have d3 : h3.2.2 (h2.1 + 1) = .inl (0, (stp y.2.2.2.2.2.2.1).length, .inl (va_cpy (T.2.2.1 13) (fun _ => 0) 0 0 (stp y.2.2.2.2.2.2.1).length)) := by rw [e_3]; exact ap_get (i := 1) rfl
      have hl2 : 306 < h2.1 := hx2.1
      have hl1 : h2.1 = h.1 := m_2.trans ee.1
      have hx3 : x_at h3 0 (nI nl) := ⟨by rw [l3]; omega, (a3 0 (by omega)).trans hx2.2⟩
      have hL3 : h3.2.2 14 = .inl (5, 10, .inr (.inr (.inr (.inr L)))) := (a3 14 (by omega)).trans ((f2 14 (by decide) (by decide)).trans hL)
      refine wq (fun _ _ kk => rs_aast (pc := 56) (k := 5) dX11_law_56 (fun _ => rfl) rfl (x_lt hx3 (by decide)) hL3 (show h2.1 < h3.1 by omega) b3 (vp_in_nI (n := nl) (N := 10) g1 (by decide)) kk) ?_
      rw [nI_clamp (show nl < 2 ^ 31 by omega)]
      refine wq_gen (fun h4 e_4 => ?_)
      obtain ⟨m_4, s_4, g_4, o_4⟩ := ai_e1 e_4
      have hx4 : x_at h4 0 (nI nl) := ⟨by rw [m_4]; exact hx3.1, (o_4 0 (by decide)).trans hx3.2⟩
      refine wq (fun _ _ kk => rs_aload_n (pc := 57) dX11_law_57 rfl kk) ?_
      refine wq (fun _ _ kk => rs_dup (pc := 58) dX11_law_58 rfl kk) ?_
      refine wq (fun _ _ kk => rs_getf (pc := 59) dX11_law_59 fX11_34 (x_lt hx4 (by decide)) hx4.2 rfl kk) ?_
      refine wq (fun _ _ kk => rs_iconst (v := 1) (pc := 62) dX11_law_62 rfl kk) ?_
      refine wq (fun _ _ kk => rs_iadd (pc := 63) dX11_law_63 kk) ?_
      rw [nI_1]
      refine wq (fun _ _ kk => rs_putf (pc := 64) dX11_law_64 fX11_34 (x_lt hx4 (by decide)) hx4.2 rfl (Nat.le_of_ble_eq_true rfl) kk) ?_
      refine wq_gen (fun h5 e_5 => ?_)
      obtain ⟨m_5, s_5, g_5, o_5⟩ := ai_e1 e_5
      have hx5 : x_at h5 0 (nI (nl + 1)) := ⟨by rw [m_5]; exact hx4.1, g_5⟩
      refine wq (fun _ _ kk => rs_aload_n (pc := 67) dX11_law_67 rfl kk) ?_
      refine wq (fun _ _ kk => rs_getf (pc := 68) dX11_law_68 fX11_34 (x_lt hx5 (by decide)) hx5.2 rfl kk) ?_
      refine wq (fun _ _ kk => rs_iconst (v := 1) (pc := 71) dX11_law_71 rfl kk) ?_
      refine wq (fun _ _ kk => rs_isub (pc := 72) dX11_law_72 kk) ?_
      rw [show nI (nl + 1) - 1 = nI nl from nI_pred nl]
      refine wq_ret ?_ (rs_iret (pc := 73) dX11_law_73 rfl)
      have f5 : ∀ j, j ≠ 0 → j ≠ 14 → h5.2.2 j = h3.2.2 j := fun j a b => (o_5 j a).trans (o_4 j b)
      refine Or.inr ⟨g1, y, hre, hs, hfb, hin, ⟨T, ?_⟩, Or.inr ⟨g0, rfl, hx5, by rw [m_5, m_4, l3, hl1], ?_, fun j hj a b c => ?_, ?_, ?_, va_cpy (T.2.2.1 13) (fun _ => 0) 0 0 (stp y.2.2.2.2.2.2.1).length, ?_, fun k m hk => ?_⟩⟩
      · refine ⟨by rw [m_5, m_4, l3]; have := hrd2.1; omega, ?_, fun d q hq => ?_⟩
        · rw [f5 16 (by decide) (by decide), a3 16 (by omega)]; exact hrd2.2.1
        · have hd : d < 3 := by
            have := (List.getElem?_eq_some_iff.mp hq).1
            exact this
          rw [f5 (16 + 1 + d) (by omega) (by omega), a3 (16 + 1 + d) (by omega)]
          exact hrd2.2.2 d q hq
      · rw [s_5, s_4, n3, s_2, ee.2.1]; omega
      · rw [f5 j a b, a3 j (by omega)]; exact f2 j a c
      · rw [o_5 14 (by decide), g_4, hl1]
      · rw [← hl1, f5 h2.1 (by omega) (by omega)]; exact b3
      · rw [← hl1, f5 (h2.1 + 1) (by omega) (by omega)]; exact d3
      · have hk2 := (List.getElem?_eq_some_iff.mp hk).1
        show va_cpy _ _ 0 0 _ k = _
        rw [va_cpy, if_pos ⟨Nat.zero_le _, by rw [Nat.zero_add]; exact hk2⟩, Nat.zero_add, Nat.sub_zero]
        exact ho.2 k m hk
    · refine wq (fun _ _ kk => rs_bipush (v := -2) (pc := 36) dX11_law_36 rfl kk) ?_
      refine wq (fun _ _ kk => rs_iload_n (pc := 38) dX11_law_38 rfl kk) ?_
      refine wq (fun _ _ kk => rs_isub (pc := 39) dX11_law_39 kk) ?_
      refine wq_ret ?_ (rs_iret (pc := 40) dX11_law_40 rfl)
      exact Or.inr ⟨g1, y, hre, hs, hfb, hin, ⟨T, hrd2⟩, Or.inl ⟨fun z => c_33 (by rw [z]; rfl), rfl, hx2, m_2.trans ee.1, s_2.trans ee.2.1, f2⟩⟩
  · refine wq (fun _ _ kk => rs_iconst (v := -1) (pc := 9) dX11_law_9 rfl kk) ?_
    refine wq_ret ?_ (rs_iret (pc := 10) dX11_law_10 rfl)
    exact Or.inl ⟨by have := tx_lt2 (b := 10) (by omega) (by decide) rfl c_6; omega, rfl, rfl⟩
