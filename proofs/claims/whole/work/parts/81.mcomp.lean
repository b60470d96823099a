/-! 81: the model's comparisons (walks laid by wip/whole/p81.py) -/
theorem cm_step {t : Nat → Nat} {n k : Nat} {y : PS} (hz : pZ y = 5) (hk : tx_k t n (tx_fr t n (pP y)) = k) (hk2 : 4 ≤ k ∧ k ≤ 8) (h60 : pPa y ≠ 60) : ∃ z, py_at t n (pP y) y = z ∧ pF z = 0 ∧ pZ z = 6 ∧ pP z = tx_e t n (tx_fr t n (pP y)) ∧ pPa z = pPa y + 1 ∧ pDe z = pDe y - py_nt (py_tw 4 (pL y)) ∧ pBr z = pBr y ∧ pD z = pD y ∧ pA z = pA y ∧ pL z = k :: py_dw 4 (pL y) ∧ pE z = pE y ++ py_tk (py_tw 4 (pL y)) := by
  obtain ⟨st, p, fl, pa, de, br, D, A, B, pl⟩ := y
  have hz' : st = 5 := hz
  subst hz'
  unfold py_at
  rw [hk]
  have hr : py_rk k = 4 := (py_rk_cm (decide_eq_true hk2 : cm k = true)).1
  have h60' : ¬ pa = 60 := h60
  refine ⟨_, rfl, ?_⟩
  rw [show py_step1 k (tx_v t n (tx_fr t n (pP (5, p, fl, pa, de, br, D, A, B, pl)))) (tx_fr t n (pP (5, p, fl, pa, de, br, D, A, B, pl))) (tx_e t n (tx_fr t n (pP (5, p, fl, pa, de, br, D, A, B, pl)))) (5, p, fl, pa, de, br, D, A, B, pl) = py_join 6 k (tx_e t n (tx_fr t n p)) (5, p, fl, pa + 1, de, br, D, A, B, pl) from (if_neg (show ¬ (k = 2 ∨ k = 3 ∨ k = 13) by omega)).trans ((if_neg (fun z => z hk2)).trans (if_neg h60'))]
  unfold py_join
  rw [hr]
  refine ⟨rfl, rfl, rfl, rfl, rfl, rfl, rfl, rfl, rfl, ?_⟩
  show ent D ++ A ++ (B ++ py_tk (py_tw 4 pl)) = ent D ++ A ++ B ++ py_tk (py_tw 4 pl)
  simp
theorem cm_fail {t : Nat → Nat} {n k : Nat} {y : PS} (hz : pZ y = 5) (hk : tx_k t n (tx_fr t n (pP y)) = k) (ha : ¬ (k = 2 ∨ k = 3 ∨ k = 13)) : (¬ (4 ≤ k ∧ k ≤ 8) → py_at t n (pP y) y = py_fail 0 (tx_fr t n (pP y)) y) ∧ (4 ≤ k ∧ k ≤ 8 → pPa y = 60 → py_at t n (pP y) y = py_fail 3 (tx_fr t n (pP y)) y) := by
  obtain ⟨st, p, fl, pa, de, br, D, A, B, pl⟩ := y
  have hz' : st = 5 := hz
  subst hz'
  unfold py_at
  rw [hk]
  exact ⟨fun h => (if_neg ha).trans (if_pos h), fun h h6 => (if_neg ha).trans ((if_neg (fun z => z h)).trans (if_pos h6))⟩
/-- no sign of arithmetic follows -/
def nar (t : Nat → Nat) (n : Nat) (y : PS) : Prop := ¬ (tx_k t n (tx_fr t n (pP y)) = 2 ∨ tx_k t n (tx_fr t n (pP y)) = 3 ∨ tx_k t n (tx_fr t n (pP y)) = 13)
/-- y has a whole comparison behind x -/
def cl2 (x y : PS) : Prop := pF y = 0 ∧ pZ y = 7 ∧ pD y = pD x ∧ pDe y = pDe x ∧ pBr y = pBr x ∧ pA y = pA x ∧ pP x < pP y
theorem pF_fail {c a : Nat} {x : PS} : pF (py_fail c a x) = 1 + 8 * a + c := by
  obtain ⟨st, p, fl, pa, de, br, D, A, B, pl⟩ := x
  rfl
theorem dX12_compared_0 : decode cX12_compared 0 = .ok (.aload_n 0, 1) := by decide +kernel
theorem dX12_compared_1 : decode cX12_compared 1 = .ok (.invokevirtual 331, 3) := by decide +kernel
theorem dX12_compared_4 : decode cX12_compared 4 = .ok (.aload_n 0, 1) := by decide +kernel
theorem dX12_compared_5 : decode cX12_compared 5 = .ok (.invokevirtual 270, 3) := by decide +kernel
theorem dX12_compared_8 : decode cX12_compared 8 = .ok (.istore_n 1, 1) := by decide +kernel
theorem dX12_compared_9 : decode cX12_compared 9 = .ok (.iload_n 1, 1) := by decide +kernel
theorem dX12_compared_10 : decode cX12_compared 10 = .ok (.bipush 60, 2) := by decide +kernel
theorem dX12_compared_12 : decode cX12_compared 12 = .ok (.if_icmp .eq 25, 3) := by decide +kernel
theorem dX12_compared_15 : decode cX12_compared 15 = .ok (.iload_n 1, 1) := by decide +kernel
theorem dX12_compared_16 : decode cX12_compared 16 = .ok (.bipush 61, 2) := by decide +kernel
theorem dX12_compared_18 : decode cX12_compared 18 = .ok (.if_icmp .eq 19, 3) := by decide +kernel
theorem dX12_compared_21 : decode cX12_compared 21 = .ok (.iload_n 1, 1) := by decide +kernel
theorem dX12_compared_22 : decode cX12_compared 22 = .ok (.bipush 62, 2) := by decide +kernel
theorem dX12_compared_24 : decode cX12_compared 24 = .ok (.if_icmp .eq 13, 3) := by decide +kernel
theorem dX12_compared_27 : decode cX12_compared 27 = .ok (.aload_n 0, 1) := by decide +kernel
theorem dX12_compared_28 : decode cX12_compared 28 = .ok (.iconst 0, 1) := by decide +kernel
theorem dX12_compared_29 : decode cX12_compared 29 = .ok (.aload_n 0, 1) := by decide +kernel
theorem dX12_compared_30 : decode cX12_compared 30 = .ok (.getfield 267, 3) := by decide +kernel
theorem dX12_compared_33 : decode cX12_compared 33 = .ok (.invokevirtual 303, 3) := by decide +kernel
theorem dX12_compared_36 : decode cX12_compared 36 = .ok (.return_, 1) := by decide +kernel
theorem dX12_compared_37 : decode cX12_compared 37 = .ok (.aload_n 0, 1) := by decide +kernel
theorem dX12_compared_38 : decode cX12_compared 38 = .ok (.aload_n 0, 1) := by decide +kernel
theorem dX12_compared_39 : decode cX12_compared 39 = .ok (.getfield 267, 3) := by decide +kernel
theorem dX12_compared_42 : decode cX12_compared 42 = .ok (.invokevirtual 315, 3) := by decide +kernel
theorem dX12_compared_45 : decode cX12_compared 45 = .ok (.aload_n 0, 1) := by decide +kernel
theorem dX12_compared_46 : decode cX12_compared 46 = .ok (.dup, 1) := by decide +kernel
theorem dX12_compared_47 : decode cX12_compared 47 = .ok (.getfield 267, 3) := by decide +kernel
theorem dX12_compared_50 : decode cX12_compared 50 = .ok (.iconst 1, 1) := by decide +kernel
theorem dX12_compared_51 : decode cX12_compared 51 = .ok (.iadd, 1) := by decide +kernel
theorem dX12_compared_52 : decode cX12_compared 52 = .ok (.putfield 267, 3) := by decide +kernel
theorem dX12_compared_55 : decode cX12_compared 55 = .ok (.iload_n 1, 1) := by decide +kernel
theorem dX12_compared_56 : decode cX12_compared 56 = .ok (.bipush 61, 2) := by decide +kernel
theorem dX12_compared_58 : decode cX12_compared 58 = .ok (.if_icmp .eq 16, 3) := by decide +kernel
theorem dX12_compared_61 : decode cX12_compared 61 = .ok (.aload_n 0, 1) := by decide +kernel
theorem dX12_compared_62 : decode cX12_compared 62 = .ok (.invokevirtual 270, 3) := by decide +kernel
theorem dX12_compared_65 : decode cX12_compared 65 = .ok (.bipush 61, 2) := by decide +kernel
theorem dX12_compared_67 : decode cX12_compared 67 = .ok (.if_icmp .ne 7, 3) := by decide +kernel
theorem dX12_compared_70 : decode cX12_compared 70 = .ok (.iconst 1, 1) := by decide +kernel
theorem dX12_compared_71 : decode cX12_compared 71 = .ok (.goto 4, 3) := by decide +kernel
theorem dX12_compared_74 : decode cX12_compared 74 = .ok (.iconst 0, 1) := by decide +kernel
theorem dX12_compared_75 : decode cX12_compared 75 = .ok (.istore_n 2, 1) := by decide +kernel
theorem dX12_compared_76 : decode cX12_compared 76 = .ok (.aload_n 0, 1) := by decide +kernel
theorem dX12_compared_77 : decode cX12_compared 77 = .ok (.dup, 1) := by decide +kernel
theorem dX12_compared_78 : decode cX12_compared 78 = .ok (.getfield 267, 3) := by decide +kernel
theorem dX12_compared_81 : decode cX12_compared 81 = .ok (.iload_n 2, 1) := by decide +kernel
theorem dX12_compared_82 : decode cX12_compared 82 = .ok (.ifCond .eq 7, 3) := by decide +kernel
theorem dX12_compared_85 : decode cX12_compared 85 = .ok (.iconst 1, 1) := by decide +kernel
theorem dX12_compared_86 : decode cX12_compared 86 = .ok (.goto 4, 3) := by decide +kernel
theorem dX12_compared_89 : decode cX12_compared 89 = .ok (.iconst 0, 1) := by decide +kernel
theorem dX12_compared_90 : decode cX12_compared 90 = .ok (.iadd, 1) := by decide +kernel
theorem dX12_compared_91 : decode cX12_compared 91 = .ok (.putfield 267, 3) := by decide +kernel
theorem dX12_compared_94 : decode cX12_compared 94 = .ok (.aload_n 0, 1) := by decide +kernel
theorem dX12_compared_95 : decode cX12_compared 95 = .ok (.invokevirtual 331, 3) := by decide +kernel
theorem dX12_compared_98 : decode cX12_compared 98 = .ok (.aload_n 0, 1) := by decide +kernel
theorem dX12_compared_99 : decode cX12_compared 99 = .ok (.iload_n 1, 1) := by decide +kernel
theorem dX12_compared_100 : decode cX12_compared 100 = .ok (.bipush 61, 2) := by decide +kernel
theorem dX12_compared_102 : decode cX12_compared 102 = .ok (.if_icmp .ne 8, 3) := by decide +kernel
theorem dX12_compared_105 : decode cX12_compared 105 = .ok (.bipush 6, 2) := by decide +kernel
theorem dX12_compared_107 : decode cX12_compared 107 = .ok (.goto 32, 3) := by decide +kernel
theorem dX12_compared_110 : decode cX12_compared 110 = .ok (.iload_n 1, 1) := by decide +kernel
theorem dX12_compared_111 : decode cX12_compared 111 = .ok (.bipush 60, 2) := by decide +kernel
theorem dX12_compared_113 : decode cX12_compared 113 = .ok (.if_icmp .ne 15, 3) := by decide +kernel
theorem dX12_compared_116 : decode cX12_compared 116 = .ok (.iload_n 2, 1) := by decide +kernel
theorem dX12_compared_117 : decode cX12_compared 117 = .ok (.ifCond .eq 7, 3) := by decide +kernel
theorem dX12_compared_120 : decode cX12_compared 120 = .ok (.iconst 5, 1) := by decide +kernel
theorem dX12_compared_121 : decode cX12_compared 121 = .ok (.goto 18, 3) := by decide +kernel
theorem dX12_compared_124 : decode cX12_compared 124 = .ok (.iconst 4, 1) := by decide +kernel
theorem dX12_compared_125 : decode cX12_compared 125 = .ok (.goto 14, 3) := by decide +kernel
theorem dX12_compared_128 : decode cX12_compared 128 = .ok (.iload_n 2, 1) := by decide +kernel
theorem dX12_compared_129 : decode cX12_compared 129 = .ok (.ifCond .eq 8, 3) := by decide +kernel
theorem dX12_compared_132 : decode cX12_compared 132 = .ok (.bipush 7, 2) := by decide +kernel
theorem dX12_compared_134 : decode cX12_compared 134 = .ok (.goto 5, 3) := by decide +kernel
theorem dX12_compared_137 : decode cX12_compared 137 = .ok (.bipush 8, 2) := by decide +kernel
theorem dX12_compared_139 : decode cX12_compared 139 = .ok (.iconst 0, 1) := by decide +kernel
theorem dX12_compared_140 : decode cX12_compared 140 = .ok (.invokevirtual 318, 3) := by decide +kernel
theorem dX12_compared_143 : decode cX12_compared 143 = .ok (.return_, 1) := by decide +kernel
set_option maxRecDepth 100000 in
set_option maxHeartbeats 4000000 in
theorem l1_X12_compared {t : Nat → Nat} {n r q : Nat} {O : List Nat} {x y : PS} {h g : ai_H} {S0 S : Md} {c : Int32} {u : Value} (hmd : md_at g S) (htx : tx_m t n r S) (hE : md_ext h g) (hpf : pfm r S0 S) (hre : py_rch t n x y) (hy : pok n y) (hd : ded y S) (hq : S.1 23 = nI q) (hqn : q < n) : ai_W MX12_compared 45 [.ref 307, .int c, u] [] g (fun rv g' => rv = none ∧ md_ext h g' ∧ ∃ T y', md_at g' T ∧ pfm r S0 T ∧ py_rch t n x y' ∧ (ded y' T ∨ (cl2 x y' ∧ py_dw 4 (pL y') = pL x ∧ mr t n r (pE y' ++ py_tk (py_tw 4 (pL y'))) (pP y') (pPa y') (pDe y') O T ∧ nar t n y'))) := by
  obtain ⟨x22, hn4, x25, hr9, xt⟩ := id htx
  refine wq (fun _ _ kk => rs_aload_n (pc := 45) dX12_compared_45 rfl kk) ?_
  refine wq (fun _ _ kk => rs_dup (pc := 46) dX12_compared_46 rfl kk) ?_
  refine wq (fun _ _ kk => rs_getf (pc := 47) dX12_compared_47 fX12_267 (md_lt hmd (by decide)) hmd.2.1 rfl kk) ?_
  rw [hq]
  refine wq (fun _ _ kk => rs_iconst (v := 1) (pc := 50) dX12_compared_50 rfl kk) ?_
  refine wq (fun _ _ kk => rs_iadd (pc := 51) dX12_compared_51 kk) ?_
  refine wq (fun _ _ kk => rs_putf (pc := 52) dX12_compared_52 fX12_267 (md_lt hmd (by decide)) hmd.2.1 rfl (Nat.le_of_ble_eq_true rfl) kk) ?_
  refine wq_gen (fun h_1 e_1 => ?_)
  obtain ⟨m_1, s_1, g_1, o_1⟩ := ai_e1 e_1
  replace hmd := md_at_si (k := 23) hmd m_1 g_1 o_1 rfl
  have E_1 := (md_ext.rf).trans (md_ext_of m_1 s_1 o_1 (by decide))
  obtain ⟨S_52, hmd, k_52, r_52, s_52⟩ := md_new hmd
  rw [nI_1] at k_52
  have hpf1 : pfm r S S_52 := pfm.put (by decide) r_52 s_52
  replace htx := htx.of hpf1
  replace hpf := hpf.trans hpf1
  replace hd : ded y S_52 := ⟨hd.1, (r_52 24 (by decide)).trans hd.2.1, _, k_52, by omega⟩
  refine wq (fun _ _ kk => rs_iload_n (pc := 55) dX12_compared_55 rfl kk) ?_
  refine wq (fun _ _ kk => rs_bipush (v := 61) (pc := 56) dX12_compared_56 rfl kk) ?_
  refine wq_br (fun _ _ kt kf => rs_icmp_eq (tgt := 74) (pc := 58) dX12_compared_58 rfl kt kf) (fun c_58 => ?_) (fun c_58 => ?_)
  · refine wq (fun _ _ kk => rs_iconst (v := 0) (pc := 74) dX12_compared_74 rfl kk) ?_
    refine wq (fun _ _ kk => wk_istn2 (pc := 75) dX12_compared_75 (by decide) rfl kk) ?_
    refine wq (fun _ _ kk => rs_aload_n (pc := 76) dX12_compared_76 rfl kk) ?_
    refine wq (fun _ _ kk => rs_dup (pc := 77) dX12_compared_77 rfl kk) ?_
    refine wq (fun _ _ kk => rs_getf (pc := 78) dX12_compared_78 fX12_267 (md_lt hmd (by decide)) hmd.2.1 rfl kk) ?_
    rw [k_52]
    refine wq (fun _ _ kk => rs_iload_n (pc := 81) dX12_compared_81 rfl kk) ?_
    refine wq_br (fun _ _ kt kf => rs_if_eq (tgt := 89) (pc := 82) dX12_compared_82 rfl kt kf) (fun c_82 => ?_) (fun c_82 => absurd c_82 (by decide))
    refine wq (fun _ _ kk => rs_iconst (v := 0) (pc := 89) dX12_compared_89 rfl kk) ?_
    refine wq (fun _ _ kk => rs_iadd (pc := 90) dX12_compared_90 kk) ?_
    rw [show nI (q + 1) + 0 = nI (q + 1 + 0) from nI_add (q + 1) 0]
    refine wq (fun _ _ kk => rs_putf (pc := 91) dX12_compared_91 fX12_267 (md_lt hmd (by decide)) hmd.2.1 rfl (Nat.le_of_ble_eq_true rfl) kk) ?_
    refine wq_gen (fun h_2 e_2 => ?_)
    obtain ⟨m_2, s_2, g_2, o_2⟩ := ai_e1 e_2
    replace hmd := md_at_si (k := 23) hmd m_2 g_2 o_2 rfl
    have E_2 := (E_1).trans (md_ext_of m_2 s_2 o_2 (by decide))
    obtain ⟨S_91, hmd, k_91, r_91, s_91⟩ := md_new hmd
    have hpf2 : pfm r S_52 S_91 := pfm.put (by decide) r_91 s_91
    replace htx := htx.of hpf2
    replace hpf := hpf.trans hpf2
    replace hd : ded y S_91 := ⟨hd.1, (r_91 24 (by decide)).trans hd.2.1, _, k_91, by omega⟩
    refine wq (fun _ _ kk => rs_aload_n (pc := 94) dX12_compared_94 rfl kk) ?_
    obtain ⟨rv_95, hc_95, ⟨rfl, ee_95, T_95, y_95, hmd_95, pf_95, re_95, hs_95⟩, hm_95⟩ := c_sum (O := O) hmd htx hy (Or.inl hd)
    refine wq (fun _ _ kk => rs_callV (as := []) (pc := 95) dX12_compared_95 mk_X12_sum mlX12_331 in_X12_sum se_X12_sum rfl (md_lt hmd (by decide)) hmd.2.1 rfl rfl (Nat.le_of_ble_eq_true rfl) (hm_95) kk) ?_
    replace hmd := hmd_95
    replace htx := htx.of pf_95
    replace hpf := hpf.trans pf_95
    rw [py_dead hd.1 re_95] at hs_95
    replace hd : ded y T_95 := hs_95.resolve_right (fun w => hd.1 w.1.1.1)
    have hgo : ∀ k v : Int32, ai_Met MX12_entry [.ref 307, .int k, .int v] hc_95 none hc_95 := fun k v => by
      obtain ⟨rv, gg, ⟨rfl, rfl⟩, hm⟩ := q_X12_entryF (k := k) (v := v) hmd (hd.ne hy)
      exact hm
    have E_95 := (E_2).trans ee_95
    refine wq (fun _ _ kk => rs_aload_n (pc := 98) dX12_compared_98 rfl kk) ?_
    refine wq (fun _ _ kk => rs_iload_n (pc := 99) dX12_compared_99 rfl kk) ?_
    refine wq (fun _ _ kk => rs_bipush (v := 61) (pc := 100) dX12_compared_100 rfl kk) ?_
    refine wq_bn (fun _ _ kt kf => rs_icmp_ne (tgt := 110) (pc := 102) dX12_compared_102 rfl kt kf) (fun c_102 => ?_) (fun c_102 => ?_)
    · refine wq (fun _ _ kk => rs_iload_n (pc := 110) dX12_compared_110 rfl kk) ?_
      refine wq (fun _ _ kk => rs_bipush (v := 60) (pc := 111) dX12_compared_111 rfl kk) ?_
      refine wq_bn (fun _ _ kt kf => rs_icmp_ne (tgt := 128) (pc := 113) dX12_compared_113 rfl kt kf) (fun c_113 => ?_) (fun c_113 => ?_)
      · refine wq (fun _ _ kk => rs_iload_n (pc := 128) dX12_compared_128 rfl kk) ?_
        refine wq_br (fun _ _ kt kf => rs_if_eq (tgt := 137) (pc := 129) dX12_compared_129 rfl kt kf) (fun c_129 => ?_) (fun c_129 => absurd c_129 (by decide))
        refine wq (fun _ _ kk => rs_bipush (v := 8) (pc := 137) dX12_compared_137 rfl kk) ?_
        refine wq (fun _ _ kk => rs_iconst (v := 0) (pc := 139) dX12_compared_139 rfl kk) ?_
        refine wq (fun _ _ kk => rs_callV (as := [_, _]) (pc := 140) dX12_compared_140 mk_X12_entry mlX12_318 in_X12_entry se_X12_entry rfl (md_lt hmd (by decide)) hmd.2.1 rfl rfl (Nat.le_of_ble_eq_true rfl) (hgo _ _) kk) ?_
        refine wq_ret ?_ (rs_vret (pc := 143) dX12_compared_143 rfl)
        exact ⟨rfl, hE.trans (E_95), _, y, hmd, hpf, hre, Or.inl hd⟩
      · refine wq (fun _ _ kk => rs_iload_n (pc := 116) dX12_compared_116 rfl kk) ?_
        refine wq_br (fun _ _ kt kf => rs_if_eq (tgt := 124) (pc := 117) dX12_compared_117 rfl kt kf) (fun c_117 => ?_) (fun c_117 => absurd c_117 (by decide))
        refine wq (fun _ _ kk => rs_iconst (v := 4) (pc := 124) dX12_compared_124 rfl kk) ?_
        refine wq (fun _ _ kk => rs_goto (tgt := 139) (pc := 125) dX12_compared_125 rfl kk) ?_
        refine wq (fun _ _ kk => rs_iconst (v := 0) (pc := 139) dX12_compared_139 rfl kk) ?_
        refine wq (fun _ _ kk => rs_callV (as := [_, _]) (pc := 140) dX12_compared_140 mk_X12_entry mlX12_318 in_X12_entry se_X12_entry rfl (md_lt hmd (by decide)) hmd.2.1 rfl rfl (Nat.le_of_ble_eq_true rfl) (hgo _ _) kk) ?_
        refine wq_ret ?_ (rs_vret (pc := 143) dX12_compared_143 rfl)
        exact ⟨rfl, hE.trans (E_95), _, y, hmd, hpf, hre, Or.inl hd⟩
    · refine wq (fun _ _ kk => rs_bipush (v := 6) (pc := 105) dX12_compared_105 rfl kk) ?_
      refine wq (fun _ _ kk => rs_goto (tgt := 139) (pc := 107) dX12_compared_107 rfl kk) ?_
      refine wq (fun _ _ kk => rs_iconst (v := 0) (pc := 139) dX12_compared_139 rfl kk) ?_
      refine wq (fun _ _ kk => rs_callV (as := [_, _]) (pc := 140) dX12_compared_140 mk_X12_entry mlX12_318 in_X12_entry se_X12_entry rfl (md_lt hmd (by decide)) hmd.2.1 rfl rfl (Nat.le_of_ble_eq_true rfl) (hgo _ _) kk) ?_
      refine wq_ret ?_ (rs_vret (pc := 143) dX12_compared_143 rfl)
      exact ⟨rfl, hE.trans (E_95), _, y, hmd, hpf, hre, Or.inl hd⟩
  · refine wq (fun _ _ kk => rs_aload_n (pc := 61) dX12_compared_61 rfl kk) ?_
    refine wq (fun _ _ kk => rs_callV (as := []) (pc := 62) dX12_compared_62 mk_X12_sign mlX12_270 in_X12_sign se_X12_sign rfl (md_lt hmd (by decide)) hmd.2.1 rfl rfl (Nat.le_of_ble_eq_true rfl) (c_X12_sign hmd htx k_52 (p := q + 1) (by omega)) kk) ?_
    refine wq (fun _ _ kk => rs_bipush (v := 61) (pc := 65) dX12_compared_65 rfl kk) ?_
    refine wq_bn (fun _ _ kt kf => rs_icmp_ne (tgt := 74) (pc := 67) dX12_compared_67 rfl kt kf) (fun c_67 => ?_) (fun c_67 => ?_)
    · refine wq (fun _ _ kk => rs_iconst (v := 0) (pc := 74) dX12_compared_74 rfl kk) ?_
      refine wq (fun _ _ kk => wk_istn2 (pc := 75) dX12_compared_75 (by decide) rfl kk) ?_
      refine wq (fun _ _ kk => rs_aload_n (pc := 76) dX12_compared_76 rfl kk) ?_
      refine wq (fun _ _ kk => rs_dup (pc := 77) dX12_compared_77 rfl kk) ?_
      refine wq (fun _ _ kk => rs_getf (pc := 78) dX12_compared_78 fX12_267 (md_lt hmd (by decide)) hmd.2.1 rfl kk) ?_
      rw [k_52]
      refine wq (fun _ _ kk => rs_iload_n (pc := 81) dX12_compared_81 rfl kk) ?_
      refine wq_br (fun _ _ kt kf => rs_if_eq (tgt := 89) (pc := 82) dX12_compared_82 rfl kt kf) (fun c_82 => ?_) (fun c_82 => absurd c_82 (by decide))
      refine wq (fun _ _ kk => rs_iconst (v := 0) (pc := 89) dX12_compared_89 rfl kk) ?_
      refine wq (fun _ _ kk => rs_iadd (pc := 90) dX12_compared_90 kk) ?_
      rw [show nI (q + 1) + 0 = nI (q + 1 + 0) from nI_add (q + 1) 0]
      refine wq (fun _ _ kk => rs_putf (pc := 91) dX12_compared_91 fX12_267 (md_lt hmd (by decide)) hmd.2.1 rfl (Nat.le_of_ble_eq_true rfl) kk) ?_
      refine wq_gen (fun h_3 e_3 => ?_)
      obtain ⟨m_3, s_3, g_3, o_3⟩ := ai_e1 e_3
      replace hmd := md_at_si (k := 23) hmd m_3 g_3 o_3 rfl
      have E_3 := (E_1).trans (md_ext_of m_3 s_3 o_3 (by decide))
      obtain ⟨S_91, hmd, k_91, r_91, s_91⟩ := md_new hmd
      have hpf2 : pfm r S_52 S_91 := pfm.put (by decide) r_91 s_91
      replace htx := htx.of hpf2
      replace hpf := hpf.trans hpf2
      replace hd : ded y S_91 := ⟨hd.1, (r_91 24 (by decide)).trans hd.2.1, _, k_91, by omega⟩
      refine wq (fun _ _ kk => rs_aload_n (pc := 94) dX12_compared_94 rfl kk) ?_
      obtain ⟨rv_95, hc_95, ⟨rfl, ee_95, T_95, y_95, hmd_95, pf_95, re_95, hs_95⟩, hm_95⟩ := c_sum (O := O) hmd htx hy (Or.inl hd)
      refine wq (fun _ _ kk => rs_callV (as := []) (pc := 95) dX12_compared_95 mk_X12_sum mlX12_331 in_X12_sum se_X12_sum rfl (md_lt hmd (by decide)) hmd.2.1 rfl rfl (Nat.le_of_ble_eq_true rfl) (hm_95) kk) ?_
      replace hmd := hmd_95
      replace htx := htx.of pf_95
      replace hpf := hpf.trans pf_95
      rw [py_dead hd.1 re_95] at hs_95
      replace hd : ded y T_95 := hs_95.resolve_right (fun w => hd.1 w.1.1.1)
      have hgo : ∀ k v : Int32, ai_Met MX12_entry [.ref 307, .int k, .int v] hc_95 none hc_95 := fun k v => by
        obtain ⟨rv, gg, ⟨rfl, rfl⟩, hm⟩ := q_X12_entryF (k := k) (v := v) hmd (hd.ne hy)
        exact hm
      have E_95 := (E_3).trans ee_95
      refine wq (fun _ _ kk => rs_aload_n (pc := 98) dX12_compared_98 rfl kk) ?_
      refine wq (fun _ _ kk => rs_iload_n (pc := 99) dX12_compared_99 rfl kk) ?_
      refine wq (fun _ _ kk => rs_bipush (v := 61) (pc := 100) dX12_compared_100 rfl kk) ?_
      refine wq_bn (fun _ _ kt kf => rs_icmp_ne (tgt := 110) (pc := 102) dX12_compared_102 rfl kt kf) (fun c_102 => ?_) (fun c_102 => ?_)
      · refine wq (fun _ _ kk => rs_iload_n (pc := 110) dX12_compared_110 rfl kk) ?_
        refine wq (fun _ _ kk => rs_bipush (v := 60) (pc := 111) dX12_compared_111 rfl kk) ?_
        refine wq_bn (fun _ _ kt kf => rs_icmp_ne (tgt := 128) (pc := 113) dX12_compared_113 rfl kt kf) (fun c_113 => ?_) (fun c_113 => ?_)
        · refine wq (fun _ _ kk => rs_iload_n (pc := 128) dX12_compared_128 rfl kk) ?_
          refine wq_br (fun _ _ kt kf => rs_if_eq (tgt := 137) (pc := 129) dX12_compared_129 rfl kt kf) (fun c_129 => ?_) (fun c_129 => absurd c_129 (by decide))
          refine wq (fun _ _ kk => rs_bipush (v := 8) (pc := 137) dX12_compared_137 rfl kk) ?_
          refine wq (fun _ _ kk => rs_iconst (v := 0) (pc := 139) dX12_compared_139 rfl kk) ?_
          refine wq (fun _ _ kk => rs_callV (as := [_, _]) (pc := 140) dX12_compared_140 mk_X12_entry mlX12_318 in_X12_entry se_X12_entry rfl (md_lt hmd (by decide)) hmd.2.1 rfl rfl (Nat.le_of_ble_eq_true rfl) (hgo _ _) kk) ?_
          refine wq_ret ?_ (rs_vret (pc := 143) dX12_compared_143 rfl)
          exact ⟨rfl, hE.trans (E_95), _, y, hmd, hpf, hre, Or.inl hd⟩
        · refine wq (fun _ _ kk => rs_iload_n (pc := 116) dX12_compared_116 rfl kk) ?_
          refine wq_br (fun _ _ kt kf => rs_if_eq (tgt := 124) (pc := 117) dX12_compared_117 rfl kt kf) (fun c_117 => ?_) (fun c_117 => absurd c_117 (by decide))
          refine wq (fun _ _ kk => rs_iconst (v := 4) (pc := 124) dX12_compared_124 rfl kk) ?_
          refine wq (fun _ _ kk => rs_goto (tgt := 139) (pc := 125) dX12_compared_125 rfl kk) ?_
          refine wq (fun _ _ kk => rs_iconst (v := 0) (pc := 139) dX12_compared_139 rfl kk) ?_
          refine wq (fun _ _ kk => rs_callV (as := [_, _]) (pc := 140) dX12_compared_140 mk_X12_entry mlX12_318 in_X12_entry se_X12_entry rfl (md_lt hmd (by decide)) hmd.2.1 rfl rfl (Nat.le_of_ble_eq_true rfl) (hgo _ _) kk) ?_
          refine wq_ret ?_ (rs_vret (pc := 143) dX12_compared_143 rfl)
          exact ⟨rfl, hE.trans (E_95), _, y, hmd, hpf, hre, Or.inl hd⟩
      · refine wq (fun _ _ kk => rs_bipush (v := 6) (pc := 105) dX12_compared_105 rfl kk) ?_
        refine wq (fun _ _ kk => rs_goto (tgt := 139) (pc := 107) dX12_compared_107 rfl kk) ?_
        refine wq (fun _ _ kk => rs_iconst (v := 0) (pc := 139) dX12_compared_139 rfl kk) ?_
        refine wq (fun _ _ kk => rs_callV (as := [_, _]) (pc := 140) dX12_compared_140 mk_X12_entry mlX12_318 in_X12_entry se_X12_entry rfl (md_lt hmd (by decide)) hmd.2.1 rfl rfl (Nat.le_of_ble_eq_true rfl) (hgo _ _) kk) ?_
        refine wq_ret ?_ (rs_vret (pc := 143) dX12_compared_143 rfl)
        exact ⟨rfl, hE.trans (E_95), _, y, hmd, hpf, hre, Or.inl hd⟩
    · have g2 := (tx_s_eq (c := 61) (fun w => (xt _ w).1) (by decide)).mp c_67
      refine wq (fun _ _ kk => rs_iconst (v := 1) (pc := 70) dX12_compared_70 rfl kk) ?_
      refine wq (fun _ _ kk => rs_goto (tgt := 75) (pc := 71) dX12_compared_71 rfl kk) ?_
      refine wq (fun _ _ kk => wk_istn2 (pc := 75) dX12_compared_75 (by decide) rfl kk) ?_
      refine wq (fun _ _ kk => rs_aload_n (pc := 76) dX12_compared_76 rfl kk) ?_
      refine wq (fun _ _ kk => rs_dup (pc := 77) dX12_compared_77 rfl kk) ?_
      refine wq (fun _ _ kk => rs_getf (pc := 78) dX12_compared_78 fX12_267 (md_lt hmd (by decide)) hmd.2.1 rfl kk) ?_
      rw [k_52]
      refine wq (fun _ _ kk => rs_iload_n (pc := 81) dX12_compared_81 rfl kk) ?_
      refine wq_br (fun _ _ kt kf => rs_if_eq (tgt := 89) (pc := 82) dX12_compared_82 rfl kt kf) (fun c_82 => absurd c_82 (by decide)) (fun c_82 => ?_)
      refine wq (fun _ _ kk => rs_iconst (v := 1) (pc := 85) dX12_compared_85 rfl kk) ?_
      refine wq (fun _ _ kk => rs_goto (tgt := 90) (pc := 86) dX12_compared_86 rfl kk) ?_
      refine wq (fun _ _ kk => rs_iadd (pc := 90) dX12_compared_90 kk) ?_
      rw [show nI (q + 1) + 1 = nI (q + 1 + 1) from nI_add (q + 1) 1]
      refine wq (fun _ _ kk => rs_putf (pc := 91) dX12_compared_91 fX12_267 (md_lt hmd (by decide)) hmd.2.1 rfl (Nat.le_of_ble_eq_true rfl) kk) ?_
      refine wq_gen (fun h_4 e_4 => ?_)
      obtain ⟨m_4, s_4, g_4, o_4⟩ := ai_e1 e_4
      replace hmd := md_at_si (k := 23) hmd m_4 g_4 o_4 rfl
      have E_4 := (E_1).trans (md_ext_of m_4 s_4 o_4 (by decide))
      obtain ⟨S_91, hmd, k_91, r_91, s_91⟩ := md_new hmd
      have hpf2 : pfm r S_52 S_91 := pfm.put (by decide) r_91 s_91
      replace htx := htx.of hpf2
      replace hpf := hpf.trans hpf2
      replace hd : ded y S_91 := ⟨hd.1, (r_91 24 (by decide)).trans hd.2.1, _, k_91, by omega⟩
      refine wq (fun _ _ kk => rs_aload_n (pc := 94) dX12_compared_94 rfl kk) ?_
      obtain ⟨rv_95, hc_95, ⟨rfl, ee_95, T_95, y_95, hmd_95, pf_95, re_95, hs_95⟩, hm_95⟩ := c_sum (O := O) hmd htx hy (Or.inl hd)
      refine wq (fun _ _ kk => rs_callV (as := []) (pc := 95) dX12_compared_95 mk_X12_sum mlX12_331 in_X12_sum se_X12_sum rfl (md_lt hmd (by decide)) hmd.2.1 rfl rfl (Nat.le_of_ble_eq_true rfl) (hm_95) kk) ?_
      replace hmd := hmd_95
      replace htx := htx.of pf_95
      replace hpf := hpf.trans pf_95
      rw [py_dead hd.1 re_95] at hs_95
      replace hd : ded y T_95 := hs_95.resolve_right (fun w => hd.1 w.1.1.1)
      have hgo : ∀ k v : Int32, ai_Met MX12_entry [.ref 307, .int k, .int v] hc_95 none hc_95 := fun k v => by
        obtain ⟨rv, gg, ⟨rfl, rfl⟩, hm⟩ := q_X12_entryF (k := k) (v := v) hmd (hd.ne hy)
        exact hm
      have E_95 := (E_4).trans ee_95
      refine wq (fun _ _ kk => rs_aload_n (pc := 98) dX12_compared_98 rfl kk) ?_
      refine wq (fun _ _ kk => rs_iload_n (pc := 99) dX12_compared_99 rfl kk) ?_
      refine wq (fun _ _ kk => rs_bipush (v := 61) (pc := 100) dX12_compared_100 rfl kk) ?_
      refine wq_bn (fun _ _ kt kf => rs_icmp_ne (tgt := 110) (pc := 102) dX12_compared_102 rfl kt kf) (fun c_102 => ?_) (fun c_102 => ?_)
      · refine wq (fun _ _ kk => rs_iload_n (pc := 110) dX12_compared_110 rfl kk) ?_
        refine wq (fun _ _ kk => rs_bipush (v := 60) (pc := 111) dX12_compared_111 rfl kk) ?_
        refine wq_bn (fun _ _ kt kf => rs_icmp_ne (tgt := 128) (pc := 113) dX12_compared_113 rfl kt kf) (fun c_113 => ?_) (fun c_113 => ?_)
        · refine wq (fun _ _ kk => rs_iload_n (pc := 128) dX12_compared_128 rfl kk) ?_
          refine wq_br (fun _ _ kt kf => rs_if_eq (tgt := 137) (pc := 129) dX12_compared_129 rfl kt kf) (fun c_129 => absurd c_129 (by decide)) (fun c_129 => ?_)
          refine wq (fun _ _ kk => rs_bipush (v := 7) (pc := 132) dX12_compared_132 rfl kk) ?_
          refine wq (fun _ _ kk => rs_goto (tgt := 139) (pc := 134) dX12_compared_134 rfl kk) ?_
          refine wq (fun _ _ kk => rs_iconst (v := 0) (pc := 139) dX12_compared_139 rfl kk) ?_
          refine wq (fun _ _ kk => rs_callV (as := [_, _]) (pc := 140) dX12_compared_140 mk_X12_entry mlX12_318 in_X12_entry se_X12_entry rfl (md_lt hmd (by decide)) hmd.2.1 rfl rfl (Nat.le_of_ble_eq_true rfl) (hgo _ _) kk) ?_
          refine wq_ret ?_ (rs_vret (pc := 143) dX12_compared_143 rfl)
          exact ⟨rfl, hE.trans (E_95), _, y, hmd, hpf, hre, Or.inl hd⟩
        · refine wq (fun _ _ kk => rs_iload_n (pc := 116) dX12_compared_116 rfl kk) ?_
          refine wq_br (fun _ _ kt kf => rs_if_eq (tgt := 124) (pc := 117) dX12_compared_117 rfl kt kf) (fun c_117 => absurd c_117 (by decide)) (fun c_117 => ?_)
          refine wq (fun _ _ kk => rs_iconst (v := 5) (pc := 120) dX12_compared_120 rfl kk) ?_
          refine wq (fun _ _ kk => rs_goto (tgt := 139) (pc := 121) dX12_compared_121 rfl kk) ?_
          refine wq (fun _ _ kk => rs_iconst (v := 0) (pc := 139) dX12_compared_139 rfl kk) ?_
          refine wq (fun _ _ kk => rs_callV (as := [_, _]) (pc := 140) dX12_compared_140 mk_X12_entry mlX12_318 in_X12_entry se_X12_entry rfl (md_lt hmd (by decide)) hmd.2.1 rfl rfl (Nat.le_of_ble_eq_true rfl) (hgo _ _) kk) ?_
          refine wq_ret ?_ (rs_vret (pc := 143) dX12_compared_143 rfl)
          exact ⟨rfl, hE.trans (E_95), _, y, hmd, hpf, hre, Or.inl hd⟩
      · refine wq (fun _ _ kk => rs_bipush (v := 6) (pc := 105) dX12_compared_105 rfl kk) ?_
        refine wq (fun _ _ kk => rs_goto (tgt := 139) (pc := 107) dX12_compared_107 rfl kk) ?_
        refine wq (fun _ _ kk => rs_iconst (v := 0) (pc := 139) dX12_compared_139 rfl kk) ?_
        refine wq (fun _ _ kk => rs_callV (as := [_, _]) (pc := 140) dX12_compared_140 mk_X12_entry mlX12_318 in_X12_entry se_X12_entry rfl (md_lt hmd (by decide)) hmd.2.1 rfl rfl (Nat.le_of_ble_eq_true rfl) (hgo _ _) kk) ?_
        refine wq_ret ?_ (rs_vret (pc := 143) dX12_compared_143 rfl)
        exact ⟨rfl, hE.trans (E_95), _, y, hmd, hpf, hre, Or.inl hd⟩
set_option maxRecDepth 100000 in
set_option maxHeartbeats 4000000 in
theorem l2_X12_compared_60 {t : Nat → Nat} {n r : Nat} {O : List Nat} {x y : PS} {h g : ai_H} {S0 S : Md} {u : Value} (hlo : py_lo 4 (pL x)) (hmd : md_at g S) (htx : tx_m t n r S) (hE : md_ext h g) (hpf : pfm r S0 S) (hre : py_rch t n x y) (hy : pok n y) (h5 : pZ y = 5) (hl : pF y = 0 ∧ pD y = pD x ∧ pDe y = pDe x ∧ pBr y = pBr x ∧ pA y = pA x ∧ pP x < pP y) (hb : py_dw 5 (pL y) = pL x) (h60 : pPa y ≠ 60) (hq : S.1 23 = nI (tx_fr t n (pP y))) (hc : tx_fr t n (pP y) < n ∧ t (tx_fr t n (pP y)) = 60) (hm : mr t n r (pE y ++ py_tk (py_tw 5 (pL y))) (pP y) (pPa y + 1) (pDe y) O S) : ai_W MX12_compared 45 [.ref 307, .int 60, u] [] g (fun rv g' => rv = none ∧ md_ext h g' ∧ ∃ T y', md_at g' T ∧ pfm r S0 T ∧ py_rch t n x y' ∧ (ded y' T ∨ (cl2 x y' ∧ py_dw 4 (pL y') = pL x ∧ mr t n r (pE y' ++ py_tk (py_tw 4 (pL y'))) (pP y') (pPa y') (pDe y') O T ∧ nar t n y'))) := by
  obtain ⟨x22, hn4, x25, hr9, xt⟩ := id htx
  refine wq (fun _ _ kk => rs_aload_n (pc := 45) dX12_compared_45 rfl kk) ?_
  refine wq (fun _ _ kk => rs_dup (pc := 46) dX12_compared_46 rfl kk) ?_
  refine wq (fun _ _ kk => rs_getf (pc := 47) dX12_compared_47 fX12_267 (md_lt hmd (by decide)) hmd.2.1 rfl kk) ?_
  rw [hq]
  refine wq (fun _ _ kk => rs_iconst (v := 1) (pc := 50) dX12_compared_50 rfl kk) ?_
  refine wq (fun _ _ kk => rs_iadd (pc := 51) dX12_compared_51 kk) ?_
  refine wq (fun _ _ kk => rs_putf (pc := 52) dX12_compared_52 fX12_267 (md_lt hmd (by decide)) hmd.2.1 rfl (Nat.le_of_ble_eq_true rfl) kk) ?_
  refine wq_gen (fun h_1 e_1 => ?_)
  obtain ⟨m_1, s_1, g_1, o_1⟩ := ai_e1 e_1
  replace hmd := md_at_si (k := 23) hmd m_1 g_1 o_1 rfl
  have E_1 := (md_ext.rf).trans (md_ext_of m_1 s_1 o_1 (by decide))
  obtain ⟨S_52, hmd, k_52, r_52, s_52⟩ := md_new hmd
  rw [nI_1] at k_52
  have hpf1 : pfm r S S_52 := pfm.put (by decide) r_52 s_52
  replace htx := htx.of hpf1
  replace hpf := hpf.trans hpf1
  refine wq (fun _ _ kk => rs_iload_n (pc := 55) dX12_compared_55 rfl kk) ?_
  refine wq (fun _ _ kk => rs_bipush (v := 61) (pc := 56) dX12_compared_56 rfl kk) ?_
  refine wq_br (fun _ _ kt kf => rs_icmp_eq (tgt := 74) (pc := 58) dX12_compared_58 rfl kt kf) (fun c_58 => absurd c_58 (by decide)) (fun c_58 => ?_)
  refine wq (fun _ _ kk => rs_aload_n (pc := 61) dX12_compared_61 rfl kk) ?_
  refine wq (fun _ _ kk => rs_callV (as := []) (pc := 62) dX12_compared_62 mk_X12_sign mlX12_270 in_X12_sign se_X12_sign rfl (md_lt hmd (by decide)) hmd.2.1 rfl rfl (Nat.le_of_ble_eq_true rfl) (c_X12_sign hmd htx k_52 (p := tx_fr t n (pP y) + 1) (by omega)) kk) ?_
  refine wq (fun _ _ kk => rs_bipush (v := 61) (pc := 65) dX12_compared_65 rfl kk) ?_
  refine wq_bn (fun _ _ kt kf => rs_icmp_ne (tgt := 74) (pc := 67) dX12_compared_67 rfl kt kf) (fun c_67 => ?_) (fun c_67 => ?_)
  · have g2 : ¬ (tx_fr t n (pP y) + 1 < n ∧ t (tx_fr t n (pP y) + 1) = 61) := fun w => c_67 ((tx_s_eq (c := 61) (fun w => (xt _ w).1) (by decide)).mpr w)
    have gch : tx_ch t n (tx_fr t n (pP y) + 1) ≠ 61 := fun w => by
      unfold tx_ch at w
      by_cases hh : tx_fr t n (pP y) + 1 < n
      · rw [if_pos hh] at w; exact g2 ⟨hh, w⟩
      · rw [if_neg hh] at w; cases w
    refine wq (fun _ _ kk => rs_iconst (v := 0) (pc := 74) dX12_compared_74 rfl kk) ?_
    refine wq (fun _ _ kk => wk_istn2 (pc := 75) dX12_compared_75 (by decide) rfl kk) ?_
    refine wq (fun _ _ kk => rs_aload_n (pc := 76) dX12_compared_76 rfl kk) ?_
    refine wq (fun _ _ kk => rs_dup (pc := 77) dX12_compared_77 rfl kk) ?_
    refine wq (fun _ _ kk => rs_getf (pc := 78) dX12_compared_78 fX12_267 (md_lt hmd (by decide)) hmd.2.1 rfl kk) ?_
    rw [k_52]
    refine wq (fun _ _ kk => rs_iload_n (pc := 81) dX12_compared_81 rfl kk) ?_
    refine wq_br (fun _ _ kt kf => rs_if_eq (tgt := 89) (pc := 82) dX12_compared_82 rfl kt kf) (fun c_82 => ?_) (fun c_82 => absurd c_82 (by decide))
    refine wq (fun _ _ kk => rs_iconst (v := 0) (pc := 89) dX12_compared_89 rfl kk) ?_
    refine wq (fun _ _ kk => rs_iadd (pc := 90) dX12_compared_90 kk) ?_
    rw [show nI (tx_fr t n (pP y) + 1) + 0 = nI (tx_fr t n (pP y) + 1 + 0) from nI_add (tx_fr t n (pP y) + 1) 0]
    refine wq (fun _ _ kk => rs_putf (pc := 91) dX12_compared_91 fX12_267 (md_lt hmd (by decide)) hmd.2.1 rfl (Nat.le_of_ble_eq_true rfl) kk) ?_
    refine wq_gen (fun h_2 e_2 => ?_)
    obtain ⟨m_2, s_2, g_2, o_2⟩ := ai_e1 e_2
    replace hmd := md_at_si (k := 23) hmd m_2 g_2 o_2 rfl
    have E_2 := (E_1).trans (md_ext_of m_2 s_2 o_2 (by decide))
    obtain ⟨S_91, hmd, k_91, r_91, s_91⟩ := md_new hmd
    have hpf2 : pfm r S_52 S_91 := pfm.put (by decide) r_91 s_91
    replace htx := htx.of hpf2
    replace hpf := hpf.trans hpf2
    obtain ⟨k1, k2⟩ := tx_sg_k (t := t) hc.1 (by omega) (by omega)
    rw [hc.2] at k1 k2
    rw [show tx_sk 60 (tx_ch t n (tx_fr t n (pP y) + 1)) = 4 from if_neg gch] at k1 k2
    have k1 : tx_k t n (tx_fr t n (pP y)) = 4 := k1
    have k2 : tx_e t n (tx_fr t n (pP y)) = tx_fr t n (pP y) + 1 + 0 := k2
    obtain ⟨z, hz, z0, z1, z2, z3, z4, z5, z6, z7, z8, z9⟩ := cm_step (t := t) (n := n) (k := 4) h5 k1 (by decide) h60
    rw [py_nt_hi (by decide) (pL y)] at z4
    have zr : py_rch t n y z := by rw [← hz]; exact py_rch.one hl.1 (show pZ y ≠ 9 by rw [h5]; decide)
    have hyz := pok_rch hn4 zr hy
    obtain ⟨p1, p2⟩ := py_two (r := 5) (s := 4) (by decide) (pL y)
    rw [hb, (py_lo_tw hlo).1, List.append_nil] at p1
    rw [hb, (py_lo_tw hlo).2] at p2
    rw [p1] at z9
    rw [p2] at z8
    have zm : mr t n r (pE z) (pP z) (pPa z) (pDe z) O S_91 := by
      rw [z9, z2, z3, z4, Nat.sub_zero]
      refine mv_mr (mv_mr hm r_52 s_52 k_52 (by omega) rfl) r_91 s_91 (by rw [k2]; exact k_91) (by rw [k2]; omega) rfl
    have zw : wl t n r O z S_91 := ⟨z0, Or.inr (Or.inr (Or.inr z1)), fun w => absurd w (by rw [z1]; decide), zm⟩
    refine wq (fun _ _ kk => rs_aload_n (pc := 94) dX12_compared_94 rfl kk) ?_
    obtain ⟨rv_95, hc_95, ⟨rfl, ee_95, T_95, y3, hmd_95, pf_95, re_95, hs3⟩, hm_95⟩ := c_sum hmd htx hyz (Or.inr ⟨zw, by rw [z8]; show py_rk _ < 5; decide⟩)
    refine wq (fun _ _ kk => rs_callV (as := []) (pc := 95) dX12_compared_95 mk_X12_sum mlX12_331 in_X12_sum se_X12_sum rfl (md_lt hmd (by decide)) hmd.2.1 rfl rfl (Nat.le_of_ble_eq_true rfl) (hm_95) kk) ?_
    replace hmd := hmd_95
    replace htx := htx.of pf_95
    replace hpf := hpf.trans pf_95
    have hy3 := pok_rch hn4 re_95 hyz
    have hEn : T_95.1 24 = 0 → T_95.1 26 = nI (pE y3 ++ py_tk (py_tw 5 (pL y3))).length ∧ MT T_95 r 0 (pE y3 ++ py_tk (py_tw 5 (pL y3))) ∧ (pE y3 ++ py_tk (py_tw 5 (pL y3))).length < 300 := fun w => by
      rcases hs3 with hd | ⟨⟨u1, u2, u3⟩, -⟩
      · exact absurd w (hd.ne hy3)
      · exact ⟨u3.2.2.1.1, u3.2.2.1.2, by have := pE_room hn4 hy3 u1.1; have := tw_len (r := 5) (by decide) (pL y3); rw [List.length_append]; omega⟩
    have E_95 := (E_2).trans ee_95
    refine wq (fun _ _ kk => rs_aload_n (pc := 98) dX12_compared_98 rfl kk) ?_
    refine wq (fun _ _ kk => rs_iload_n (pc := 99) dX12_compared_99 rfl kk) ?_
    refine wq (fun _ _ kk => rs_bipush (v := 61) (pc := 100) dX12_compared_100 rfl kk) ?_
    refine wq_bn (fun _ _ kt kf => rs_icmp_ne (tgt := 110) (pc := 102) dX12_compared_102 rfl kt kf) (fun c_102 => ?_) (fun c_102 => absurd c_102 (by decide))
    refine wq (fun _ _ kk => rs_iload_n (pc := 110) dX12_compared_110 rfl kk) ?_
    refine wq (fun _ _ kk => rs_bipush (v := 60) (pc := 111) dX12_compared_111 rfl kk) ?_
    refine wq_bn (fun _ _ kt kf => rs_icmp_ne (tgt := 128) (pc := 113) dX12_compared_113 rfl kt kf) (fun c_113 => absurd c_113 (by decide)) (fun c_113 => ?_)
    refine wq (fun _ _ kk => rs_iload_n (pc := 116) dX12_compared_116 rfl kk) ?_
    refine wq_br (fun _ _ kt kf => rs_if_eq (tgt := 124) (pc := 117) dX12_compared_117 rfl kt kf) (fun c_117 => ?_) (fun c_117 => absurd c_117 (by decide))
    refine wq (fun _ _ kk => rs_iconst (v := 4) (pc := 124) dX12_compared_124 rfl kk) ?_
    refine wq (fun _ _ kk => rs_goto (tgt := 139) (pc := 125) dX12_compared_125 rfl kk) ?_
    refine wq (fun _ _ kk => rs_iconst (v := 0) (pc := 139) dX12_compared_139 rfl kk) ?_
    obtain ⟨rv_140, hc_140, ⟨rfl, ee_140, T_140, hmd_140, w1, w2, w3, w4⟩, hm_140⟩ := c_X12_entryA (E := pE y3 ++ py_tk (py_tw 5 (pL y3))) (k := 4) (v := 0) hmd htx hEn
    refine wq (fun _ _ kk => rs_callV (as := [_, _]) (pc := 140) dX12_compared_140 mk_X12_entry mlX12_318 in_X12_entry se_X12_entry rfl (md_lt hmd (by decide)) hmd.2.1 rfl rfl (Nat.le_of_ble_eq_true rfl) (hm_140) kk) ?_
    replace hmd := hmd_140
    replace htx := htx.of w1
    replace hpf := hpf.trans w1
    have E_140 := (E_95).trans ee_140
    refine wq_ret ?_ (rs_vret (pc := 143) dX12_compared_143 rfl)
    refine ⟨rfl, hE.trans (E_140), _, y3, hmd, hpf, hre.trans (zr.trans re_95), ?_⟩
    rcases hs3 with hd | ⟨⟨u1, u2, u3⟩, -, -, u6⟩
    · exact Or.inl (ent_ded hd w2)
    · right
      have hm3 := ent_mr u3 w2 w3 w4
      obtain ⟨p3, p4⟩ := py_two (r := 5) (s := 4) (by decide) (pL y3)
      rw [u2, z8, py_tw_y (by decide), (py_lo_tw hlo).1] at p3
      rw [u2, z8, py_dw_y (by decide), (py_lo_tw hlo).2] at p4
      have z1A : pZ z ≠ 1 := by rw [z1]; decide
      refine ⟨⟨u1.1, by rw [u1.2.1, z1]; rfl, u1.2.2.1.trans (z6.trans hl.2.1), u1.2.2.2.1.trans (z4.trans hl.2.2.1), u1.2.2.2.2.1.trans (z5.trans hl.2.2.2.1), (u1.2.2.2.2.2.1 z1A).trans (z7.trans hl.2.2.2.2.1), ?_⟩, p4, ?_, fun w => by rcases w with w | w | w; exact u6.2.1 w; exact u6.2.2 w; exact u6.1 w⟩
      · have q1 := u1.2.2.2.2.2.2
        have q2 := hl.2.2.2.2.2
        have q3 := tx_fr_ge (t := t) (n := n) (p := pP y)
        rw [z2, k2] at q1
        show pP x < pP y3
        omega
      · rw [p3, show py_tk (py_tw 5 (pL y3) ++ [4]) = py_tk (py_tw 5 (pL y3)) ++ [(4, 0)] by simp [py_tk], ← List.append_assoc]
        exact hm3
  · have g2 := (tx_s_eq (c := 61) (fun w => (xt _ w).1) (by decide)).mp c_67
    have gch : tx_ch t n (tx_fr t n (pP y) + 1) = 61 := by unfold tx_ch; rw [if_pos g2.1]; exact g2.2
    refine wq (fun _ _ kk => rs_iconst (v := 1) (pc := 70) dX12_compared_70 rfl kk) ?_
    refine wq (fun _ _ kk => rs_goto (tgt := 75) (pc := 71) dX12_compared_71 rfl kk) ?_
    refine wq (fun _ _ kk => wk_istn2 (pc := 75) dX12_compared_75 (by decide) rfl kk) ?_
    refine wq (fun _ _ kk => rs_aload_n (pc := 76) dX12_compared_76 rfl kk) ?_
    refine wq (fun _ _ kk => rs_dup (pc := 77) dX12_compared_77 rfl kk) ?_
    refine wq (fun _ _ kk => rs_getf (pc := 78) dX12_compared_78 fX12_267 (md_lt hmd (by decide)) hmd.2.1 rfl kk) ?_
    rw [k_52]
    refine wq (fun _ _ kk => rs_iload_n (pc := 81) dX12_compared_81 rfl kk) ?_
    refine wq_br (fun _ _ kt kf => rs_if_eq (tgt := 89) (pc := 82) dX12_compared_82 rfl kt kf) (fun c_82 => absurd c_82 (by decide)) (fun c_82 => ?_)
    refine wq (fun _ _ kk => rs_iconst (v := 1) (pc := 85) dX12_compared_85 rfl kk) ?_
    refine wq (fun _ _ kk => rs_goto (tgt := 90) (pc := 86) dX12_compared_86 rfl kk) ?_
    refine wq (fun _ _ kk => rs_iadd (pc := 90) dX12_compared_90 kk) ?_
    rw [show nI (tx_fr t n (pP y) + 1) + 1 = nI (tx_fr t n (pP y) + 1 + 1) from nI_add (tx_fr t n (pP y) + 1) 1]
    refine wq (fun _ _ kk => rs_putf (pc := 91) dX12_compared_91 fX12_267 (md_lt hmd (by decide)) hmd.2.1 rfl (Nat.le_of_ble_eq_true rfl) kk) ?_
    refine wq_gen (fun h_3 e_3 => ?_)
    obtain ⟨m_3, s_3, g_3, o_3⟩ := ai_e1 e_3
    replace hmd := md_at_si (k := 23) hmd m_3 g_3 o_3 rfl
    have E_3 := (E_1).trans (md_ext_of m_3 s_3 o_3 (by decide))
    obtain ⟨S_91, hmd, k_91, r_91, s_91⟩ := md_new hmd
    have hpf2 : pfm r S_52 S_91 := pfm.put (by decide) r_91 s_91
    replace htx := htx.of hpf2
    replace hpf := hpf.trans hpf2
    obtain ⟨k1, k2⟩ := tx_sg_k (t := t) hc.1 (by omega) (by omega)
    rw [hc.2] at k1 k2
    rw [show tx_sk 60 (tx_ch t n (tx_fr t n (pP y) + 1)) = 5 from if_pos gch] at k1 k2
    have k1 : tx_k t n (tx_fr t n (pP y)) = 5 := k1
    have k2 : tx_e t n (tx_fr t n (pP y)) = tx_fr t n (pP y) + 1 + 1 := k2
    obtain ⟨z, hz, z0, z1, z2, z3, z4, z5, z6, z7, z8, z9⟩ := cm_step (t := t) (n := n) (k := 5) h5 k1 (by decide) h60
    rw [py_nt_hi (by decide) (pL y)] at z4
    have zr : py_rch t n y z := by rw [← hz]; exact py_rch.one hl.1 (show pZ y ≠ 9 by rw [h5]; decide)
    have hyz := pok_rch hn4 zr hy
    obtain ⟨p1, p2⟩ := py_two (r := 5) (s := 4) (by decide) (pL y)
    rw [hb, (py_lo_tw hlo).1, List.append_nil] at p1
    rw [hb, (py_lo_tw hlo).2] at p2
    rw [p1] at z9
    rw [p2] at z8
    have zm : mr t n r (pE z) (pP z) (pPa z) (pDe z) O S_91 := by
      rw [z9, z2, z3, z4, Nat.sub_zero]
      refine mv_mr (mv_mr hm r_52 s_52 k_52 (by omega) rfl) r_91 s_91 (by rw [k2]; exact k_91) (by rw [k2]; omega) rfl
    have zw : wl t n r O z S_91 := ⟨z0, Or.inr (Or.inr (Or.inr z1)), fun w => absurd w (by rw [z1]; decide), zm⟩
    refine wq (fun _ _ kk => rs_aload_n (pc := 94) dX12_compared_94 rfl kk) ?_
    obtain ⟨rv_95, hc_95, ⟨rfl, ee_95, T_95, y3, hmd_95, pf_95, re_95, hs3⟩, hm_95⟩ := c_sum hmd htx hyz (Or.inr ⟨zw, by rw [z8]; show py_rk _ < 5; decide⟩)
    refine wq (fun _ _ kk => rs_callV (as := []) (pc := 95) dX12_compared_95 mk_X12_sum mlX12_331 in_X12_sum se_X12_sum rfl (md_lt hmd (by decide)) hmd.2.1 rfl rfl (Nat.le_of_ble_eq_true rfl) (hm_95) kk) ?_
    replace hmd := hmd_95
    replace htx := htx.of pf_95
    replace hpf := hpf.trans pf_95
    have hy3 := pok_rch hn4 re_95 hyz
    have hEn : T_95.1 24 = 0 → T_95.1 26 = nI (pE y3 ++ py_tk (py_tw 5 (pL y3))).length ∧ MT T_95 r 0 (pE y3 ++ py_tk (py_tw 5 (pL y3))) ∧ (pE y3 ++ py_tk (py_tw 5 (pL y3))).length < 300 := fun w => by
      rcases hs3 with hd | ⟨⟨u1, u2, u3⟩, -⟩
      · exact absurd w (hd.ne hy3)
      · exact ⟨u3.2.2.1.1, u3.2.2.1.2, by have := pE_room hn4 hy3 u1.1; have := tw_len (r := 5) (by decide) (pL y3); rw [List.length_append]; omega⟩
    have E_95 := (E_3).trans ee_95
    refine wq (fun _ _ kk => rs_aload_n (pc := 98) dX12_compared_98 rfl kk) ?_
    refine wq (fun _ _ kk => rs_iload_n (pc := 99) dX12_compared_99 rfl kk) ?_
    refine wq (fun _ _ kk => rs_bipush (v := 61) (pc := 100) dX12_compared_100 rfl kk) ?_
    refine wq_bn (fun _ _ kt kf => rs_icmp_ne (tgt := 110) (pc := 102) dX12_compared_102 rfl kt kf) (fun c_102 => ?_) (fun c_102 => absurd c_102 (by decide))
    refine wq (fun _ _ kk => rs_iload_n (pc := 110) dX12_compared_110 rfl kk) ?_
    refine wq (fun _ _ kk => rs_bipush (v := 60) (pc := 111) dX12_compared_111 rfl kk) ?_
    refine wq_bn (fun _ _ kt kf => rs_icmp_ne (tgt := 128) (pc := 113) dX12_compared_113 rfl kt kf) (fun c_113 => absurd c_113 (by decide)) (fun c_113 => ?_)
    refine wq (fun _ _ kk => rs_iload_n (pc := 116) dX12_compared_116 rfl kk) ?_
    refine wq_br (fun _ _ kt kf => rs_if_eq (tgt := 124) (pc := 117) dX12_compared_117 rfl kt kf) (fun c_117 => absurd c_117 (by decide)) (fun c_117 => ?_)
    refine wq (fun _ _ kk => rs_iconst (v := 5) (pc := 120) dX12_compared_120 rfl kk) ?_
    refine wq (fun _ _ kk => rs_goto (tgt := 139) (pc := 121) dX12_compared_121 rfl kk) ?_
    refine wq (fun _ _ kk => rs_iconst (v := 0) (pc := 139) dX12_compared_139 rfl kk) ?_
    obtain ⟨rv_140, hc_140, ⟨rfl, ee_140, T_140, hmd_140, w1, w2, w3, w4⟩, hm_140⟩ := c_X12_entryA (E := pE y3 ++ py_tk (py_tw 5 (pL y3))) (k := 5) (v := 0) hmd htx hEn
    refine wq (fun _ _ kk => rs_callV (as := [_, _]) (pc := 140) dX12_compared_140 mk_X12_entry mlX12_318 in_X12_entry se_X12_entry rfl (md_lt hmd (by decide)) hmd.2.1 rfl rfl (Nat.le_of_ble_eq_true rfl) (hm_140) kk) ?_
    replace hmd := hmd_140
    replace htx := htx.of w1
    replace hpf := hpf.trans w1
    have E_140 := (E_95).trans ee_140
    refine wq_ret ?_ (rs_vret (pc := 143) dX12_compared_143 rfl)
    refine ⟨rfl, hE.trans (E_140), _, y3, hmd, hpf, hre.trans (zr.trans re_95), ?_⟩
    rcases hs3 with hd | ⟨⟨u1, u2, u3⟩, -, -, u6⟩
    · exact Or.inl (ent_ded hd w2)
    · right
      have hm3 := ent_mr u3 w2 w3 w4
      obtain ⟨p3, p4⟩ := py_two (r := 5) (s := 4) (by decide) (pL y3)
      rw [u2, z8, py_tw_y (by decide), (py_lo_tw hlo).1] at p3
      rw [u2, z8, py_dw_y (by decide), (py_lo_tw hlo).2] at p4
      have z1A : pZ z ≠ 1 := by rw [z1]; decide
      refine ⟨⟨u1.1, by rw [u1.2.1, z1]; rfl, u1.2.2.1.trans (z6.trans hl.2.1), u1.2.2.2.1.trans (z4.trans hl.2.2.1), u1.2.2.2.2.1.trans (z5.trans hl.2.2.2.1), (u1.2.2.2.2.2.1 z1A).trans (z7.trans hl.2.2.2.2.1), ?_⟩, p4, ?_, fun w => by rcases w with w | w | w; exact u6.2.1 w; exact u6.2.2 w; exact u6.1 w⟩
      · have q1 := u1.2.2.2.2.2.2
        have q2 := hl.2.2.2.2.2
        have q3 := tx_fr_ge (t := t) (n := n) (p := pP y)
        rw [z2, k2] at q1
        show pP x < pP y3
        omega
      · rw [p3, show py_tk (py_tw 5 (pL y3) ++ [5]) = py_tk (py_tw 5 (pL y3)) ++ [(5, 0)] by simp [py_tk], ← List.append_assoc]
        exact hm3
set_option maxRecDepth 100000 in
set_option maxHeartbeats 4000000 in
theorem l2_X12_compared_61 {t : Nat → Nat} {n r : Nat} {O : List Nat} {x y : PS} {h g : ai_H} {S0 S : Md} {u : Value} (hlo : py_lo 4 (pL x)) (hmd : md_at g S) (htx : tx_m t n r S) (hE : md_ext h g) (hpf : pfm r S0 S) (hre : py_rch t n x y) (hy : pok n y) (h5 : pZ y = 5) (hl : pF y = 0 ∧ pD y = pD x ∧ pDe y = pDe x ∧ pBr y = pBr x ∧ pA y = pA x ∧ pP x < pP y) (hb : py_dw 5 (pL y) = pL x) (h60 : pPa y ≠ 60) (hq : S.1 23 = nI (tx_fr t n (pP y))) (hc : tx_fr t n (pP y) < n ∧ t (tx_fr t n (pP y)) = 61) (hm : mr t n r (pE y ++ py_tk (py_tw 5 (pL y))) (pP y) (pPa y + 1) (pDe y) O S) : ai_W MX12_compared 45 [.ref 307, .int 61, u] [] g (fun rv g' => rv = none ∧ md_ext h g' ∧ ∃ T y', md_at g' T ∧ pfm r S0 T ∧ py_rch t n x y' ∧ (ded y' T ∨ (cl2 x y' ∧ py_dw 4 (pL y') = pL x ∧ mr t n r (pE y' ++ py_tk (py_tw 4 (pL y'))) (pP y') (pPa y') (pDe y') O T ∧ nar t n y'))) := by
  obtain ⟨x22, hn4, x25, hr9, xt⟩ := id htx
  refine wq (fun _ _ kk => rs_aload_n (pc := 45) dX12_compared_45 rfl kk) ?_
  refine wq (fun _ _ kk => rs_dup (pc := 46) dX12_compared_46 rfl kk) ?_
  refine wq (fun _ _ kk => rs_getf (pc := 47) dX12_compared_47 fX12_267 (md_lt hmd (by decide)) hmd.2.1 rfl kk) ?_
  rw [hq]
  refine wq (fun _ _ kk => rs_iconst (v := 1) (pc := 50) dX12_compared_50 rfl kk) ?_
  refine wq (fun _ _ kk => rs_iadd (pc := 51) dX12_compared_51 kk) ?_
  refine wq (fun _ _ kk => rs_putf (pc := 52) dX12_compared_52 fX12_267 (md_lt hmd (by decide)) hmd.2.1 rfl (Nat.le_of_ble_eq_true rfl) kk) ?_
  refine wq_gen (fun h_1 e_1 => ?_)
  obtain ⟨m_1, s_1, g_1, o_1⟩ := ai_e1 e_1
  replace hmd := md_at_si (k := 23) hmd m_1 g_1 o_1 rfl
  have E_1 := (md_ext.rf).trans (md_ext_of m_1 s_1 o_1 (by decide))
  obtain ⟨S_52, hmd, k_52, r_52, s_52⟩ := md_new hmd
  rw [nI_1] at k_52
  have hpf1 : pfm r S S_52 := pfm.put (by decide) r_52 s_52
  replace htx := htx.of hpf1
  replace hpf := hpf.trans hpf1
  refine wq (fun _ _ kk => rs_iload_n (pc := 55) dX12_compared_55 rfl kk) ?_
  refine wq (fun _ _ kk => rs_bipush (v := 61) (pc := 56) dX12_compared_56 rfl kk) ?_
  refine wq_br (fun _ _ kt kf => rs_icmp_eq (tgt := 74) (pc := 58) dX12_compared_58 rfl kt kf) (fun c_58 => ?_) (fun c_58 => absurd c_58 (by decide))
  refine wq (fun _ _ kk => rs_iconst (v := 0) (pc := 74) dX12_compared_74 rfl kk) ?_
  refine wq (fun _ _ kk => wk_istn2 (pc := 75) dX12_compared_75 (by decide) rfl kk) ?_
  refine wq (fun _ _ kk => rs_aload_n (pc := 76) dX12_compared_76 rfl kk) ?_
  refine wq (fun _ _ kk => rs_dup (pc := 77) dX12_compared_77 rfl kk) ?_
  refine wq (fun _ _ kk => rs_getf (pc := 78) dX12_compared_78 fX12_267 (md_lt hmd (by decide)) hmd.2.1 rfl kk) ?_
  rw [k_52]
  refine wq (fun _ _ kk => rs_iload_n (pc := 81) dX12_compared_81 rfl kk) ?_
  refine wq_br (fun _ _ kt kf => rs_if_eq (tgt := 89) (pc := 82) dX12_compared_82 rfl kt kf) (fun c_82 => ?_) (fun c_82 => absurd c_82 (by decide))
  refine wq (fun _ _ kk => rs_iconst (v := 0) (pc := 89) dX12_compared_89 rfl kk) ?_
  refine wq (fun _ _ kk => rs_iadd (pc := 90) dX12_compared_90 kk) ?_
  rw [show nI (tx_fr t n (pP y) + 1) + 0 = nI (tx_fr t n (pP y) + 1 + 0) from nI_add (tx_fr t n (pP y) + 1) 0]
  refine wq (fun _ _ kk => rs_putf (pc := 91) dX12_compared_91 fX12_267 (md_lt hmd (by decide)) hmd.2.1 rfl (Nat.le_of_ble_eq_true rfl) kk) ?_
  refine wq_gen (fun h_2 e_2 => ?_)
  obtain ⟨m_2, s_2, g_2, o_2⟩ := ai_e1 e_2
  replace hmd := md_at_si (k := 23) hmd m_2 g_2 o_2 rfl
  have E_2 := (E_1).trans (md_ext_of m_2 s_2 o_2 (by decide))
  obtain ⟨S_91, hmd, k_91, r_91, s_91⟩ := md_new hmd
  have hpf2 : pfm r S_52 S_91 := pfm.put (by decide) r_91 s_91
  replace htx := htx.of hpf2
  replace hpf := hpf.trans hpf2
  obtain ⟨k1, k2⟩ := tx_sg_k (t := t) hc.1 (by omega) (by omega)
  rw [hc.2] at k1 k2
  have k1 : tx_k t n (tx_fr t n (pP y)) = 6 := k1
  have k2 : tx_e t n (tx_fr t n (pP y)) = tx_fr t n (pP y) + 1 + 0 := k2
  obtain ⟨z, hz, z0, z1, z2, z3, z4, z5, z6, z7, z8, z9⟩ := cm_step (t := t) (n := n) (k := 6) h5 k1 (by decide) h60
  rw [py_nt_hi (by decide) (pL y)] at z4
  have zr : py_rch t n y z := by rw [← hz]; exact py_rch.one hl.1 (show pZ y ≠ 9 by rw [h5]; decide)
  have hyz := pok_rch hn4 zr hy
  obtain ⟨p1, p2⟩ := py_two (r := 5) (s := 4) (by decide) (pL y)
  rw [hb, (py_lo_tw hlo).1, List.append_nil] at p1
  rw [hb, (py_lo_tw hlo).2] at p2
  rw [p1] at z9
  rw [p2] at z8
  have zm : mr t n r (pE z) (pP z) (pPa z) (pDe z) O S_91 := by
    rw [z9, z2, z3, z4, Nat.sub_zero]
    refine mv_mr (mv_mr hm r_52 s_52 k_52 (by omega) rfl) r_91 s_91 (by rw [k2]; exact k_91) (by rw [k2]; omega) rfl
  have zw : wl t n r O z S_91 := ⟨z0, Or.inr (Or.inr (Or.inr z1)), fun w => absurd w (by rw [z1]; decide), zm⟩
  refine wq (fun _ _ kk => rs_aload_n (pc := 94) dX12_compared_94 rfl kk) ?_
  obtain ⟨rv_95, hc_95, ⟨rfl, ee_95, T_95, y3, hmd_95, pf_95, re_95, hs3⟩, hm_95⟩ := c_sum hmd htx hyz (Or.inr ⟨zw, by rw [z8]; show py_rk _ < 5; decide⟩)
  refine wq (fun _ _ kk => rs_callV (as := []) (pc := 95) dX12_compared_95 mk_X12_sum mlX12_331 in_X12_sum se_X12_sum rfl (md_lt hmd (by decide)) hmd.2.1 rfl rfl (Nat.le_of_ble_eq_true rfl) (hm_95) kk) ?_
  replace hmd := hmd_95
  replace htx := htx.of pf_95
  replace hpf := hpf.trans pf_95
  have hy3 := pok_rch hn4 re_95 hyz
  have hEn : T_95.1 24 = 0 → T_95.1 26 = nI (pE y3 ++ py_tk (py_tw 5 (pL y3))).length ∧ MT T_95 r 0 (pE y3 ++ py_tk (py_tw 5 (pL y3))) ∧ (pE y3 ++ py_tk (py_tw 5 (pL y3))).length < 300 := fun w => by
    rcases hs3 with hd | ⟨⟨u1, u2, u3⟩, -⟩
    · exact absurd w (hd.ne hy3)
    · exact ⟨u3.2.2.1.1, u3.2.2.1.2, by have := pE_room hn4 hy3 u1.1; have := tw_len (r := 5) (by decide) (pL y3); rw [List.length_append]; omega⟩
  have E_95 := (E_2).trans ee_95
  refine wq (fun _ _ kk => rs_aload_n (pc := 98) dX12_compared_98 rfl kk) ?_
  refine wq (fun _ _ kk => rs_iload_n (pc := 99) dX12_compared_99 rfl kk) ?_
  refine wq (fun _ _ kk => rs_bipush (v := 61) (pc := 100) dX12_compared_100 rfl kk) ?_
  refine wq_bn (fun _ _ kt kf => rs_icmp_ne (tgt := 110) (pc := 102) dX12_compared_102 rfl kt kf) (fun c_102 => absurd c_102 (by decide)) (fun c_102 => ?_)
  refine wq (fun _ _ kk => rs_bipush (v := 6) (pc := 105) dX12_compared_105 rfl kk) ?_
  refine wq (fun _ _ kk => rs_goto (tgt := 139) (pc := 107) dX12_compared_107 rfl kk) ?_
  refine wq (fun _ _ kk => rs_iconst (v := 0) (pc := 139) dX12_compared_139 rfl kk) ?_
  obtain ⟨rv_140, hc_140, ⟨rfl, ee_140, T_140, hmd_140, w1, w2, w3, w4⟩, hm_140⟩ := c_X12_entryA (E := pE y3 ++ py_tk (py_tw 5 (pL y3))) (k := 6) (v := 0) hmd htx hEn
  refine wq (fun _ _ kk => rs_callV (as := [_, _]) (pc := 140) dX12_compared_140 mk_X12_entry mlX12_318 in_X12_entry se_X12_entry rfl (md_lt hmd (by decide)) hmd.2.1 rfl rfl (Nat.le_of_ble_eq_true rfl) (hm_140) kk) ?_
  replace hmd := hmd_140
  replace htx := htx.of w1
  replace hpf := hpf.trans w1
  have E_140 := (E_95).trans ee_140
  refine wq_ret ?_ (rs_vret (pc := 143) dX12_compared_143 rfl)
  refine ⟨rfl, hE.trans (E_140), _, y3, hmd, hpf, hre.trans (zr.trans re_95), ?_⟩
  rcases hs3 with hd | ⟨⟨u1, u2, u3⟩, -, -, u6⟩
  · exact Or.inl (ent_ded hd w2)
  · right
    have hm3 := ent_mr u3 w2 w3 w4
    obtain ⟨p3, p4⟩ := py_two (r := 5) (s := 4) (by decide) (pL y3)
    rw [u2, z8, py_tw_y (by decide), (py_lo_tw hlo).1] at p3
    rw [u2, z8, py_dw_y (by decide), (py_lo_tw hlo).2] at p4
    have z1A : pZ z ≠ 1 := by rw [z1]; decide
    refine ⟨⟨u1.1, by rw [u1.2.1, z1]; rfl, u1.2.2.1.trans (z6.trans hl.2.1), u1.2.2.2.1.trans (z4.trans hl.2.2.1), u1.2.2.2.2.1.trans (z5.trans hl.2.2.2.1), (u1.2.2.2.2.2.1 z1A).trans (z7.trans hl.2.2.2.2.1), ?_⟩, p4, ?_, fun w => by rcases w with w | w | w; exact u6.2.1 w; exact u6.2.2 w; exact u6.1 w⟩
    · have q1 := u1.2.2.2.2.2.2
      have q2 := hl.2.2.2.2.2
      have q3 := tx_fr_ge (t := t) (n := n) (p := pP y)
      rw [z2, k2] at q1
      show pP x < pP y3
      omega
    · rw [p3, show py_tk (py_tw 5 (pL y3) ++ [6]) = py_tk (py_tw 5 (pL y3)) ++ [(6, 0)] by simp [py_tk], ← List.append_assoc]
      exact hm3
set_option maxRecDepth 100000 in
set_option maxHeartbeats 4000000 in
theorem l2_X12_compared_62 {t : Nat → Nat} {n r : Nat} {O : List Nat} {x y : PS} {h g : ai_H} {S0 S : Md} {u : Value} (hlo : py_lo 4 (pL x)) (hmd : md_at g S) (htx : tx_m t n r S) (hE : md_ext h g) (hpf : pfm r S0 S) (hre : py_rch t n x y) (hy : pok n y) (h5 : pZ y = 5) (hl : pF y = 0 ∧ pD y = pD x ∧ pDe y = pDe x ∧ pBr y = pBr x ∧ pA y = pA x ∧ pP x < pP y) (hb : py_dw 5 (pL y) = pL x) (h60 : pPa y ≠ 60) (hq : S.1 23 = nI (tx_fr t n (pP y))) (hc : tx_fr t n (pP y) < n ∧ t (tx_fr t n (pP y)) = 62) (hm : mr t n r (pE y ++ py_tk (py_tw 5 (pL y))) (pP y) (pPa y + 1) (pDe y) O S) : ai_W MX12_compared 45 [.ref 307, .int 62, u] [] g (fun rv g' => rv = none ∧ md_ext h g' ∧ ∃ T y', md_at g' T ∧ pfm r S0 T ∧ py_rch t n x y' ∧ (ded y' T ∨ (cl2 x y' ∧ py_dw 4 (pL y') = pL x ∧ mr t n r (pE y' ++ py_tk (py_tw 4 (pL y'))) (pP y') (pPa y') (pDe y') O T ∧ nar t n y'))) := by
  obtain ⟨x22, hn4, x25, hr9, xt⟩ := id htx
  refine wq (fun _ _ kk => rs_aload_n (pc := 45) dX12_compared_45 rfl kk) ?_
  refine wq (fun _ _ kk => rs_dup (pc := 46) dX12_compared_46 rfl kk) ?_
  refine wq (fun _ _ kk => rs_getf (pc := 47) dX12_compared_47 fX12_267 (md_lt hmd (by decide)) hmd.2.1 rfl kk) ?_
  rw [hq]
  refine wq (fun _ _ kk => rs_iconst (v := 1) (pc := 50) dX12_compared_50 rfl kk) ?_
  refine wq (fun _ _ kk => rs_iadd (pc := 51) dX12_compared_51 kk) ?_
  refine wq (fun _ _ kk => rs_putf (pc := 52) dX12_compared_52 fX12_267 (md_lt hmd (by decide)) hmd.2.1 rfl (Nat.le_of_ble_eq_true rfl) kk) ?_
  refine wq_gen (fun h_1 e_1 => ?_)
  obtain ⟨m_1, s_1, g_1, o_1⟩ := ai_e1 e_1
  replace hmd := md_at_si (k := 23) hmd m_1 g_1 o_1 rfl
  have E_1 := (md_ext.rf).trans (md_ext_of m_1 s_1 o_1 (by decide))
  obtain ⟨S_52, hmd, k_52, r_52, s_52⟩ := md_new hmd
  rw [nI_1] at k_52
  have hpf1 : pfm r S S_52 := pfm.put (by decide) r_52 s_52
  replace htx := htx.of hpf1
  replace hpf := hpf.trans hpf1
  refine wq (fun _ _ kk => rs_iload_n (pc := 55) dX12_compared_55 rfl kk) ?_
  refine wq (fun _ _ kk => rs_bipush (v := 61) (pc := 56) dX12_compared_56 rfl kk) ?_
  refine wq_br (fun _ _ kt kf => rs_icmp_eq (tgt := 74) (pc := 58) dX12_compared_58 rfl kt kf) (fun c_58 => absurd c_58 (by decide)) (fun c_58 => ?_)
  refine wq (fun _ _ kk => rs_aload_n (pc := 61) dX12_compared_61 rfl kk) ?_
  refine wq (fun _ _ kk => rs_callV (as := []) (pc := 62) dX12_compared_62 mk_X12_sign mlX12_270 in_X12_sign se_X12_sign rfl (md_lt hmd (by decide)) hmd.2.1 rfl rfl (Nat.le_of_ble_eq_true rfl) (c_X12_sign hmd htx k_52 (p := tx_fr t n (pP y) + 1) (by omega)) kk) ?_
  refine wq (fun _ _ kk => rs_bipush (v := 61) (pc := 65) dX12_compared_65 rfl kk) ?_
  refine wq_bn (fun _ _ kt kf => rs_icmp_ne (tgt := 74) (pc := 67) dX12_compared_67 rfl kt kf) (fun c_67 => ?_) (fun c_67 => ?_)
  · have g2 : ¬ (tx_fr t n (pP y) + 1 < n ∧ t (tx_fr t n (pP y) + 1) = 61) := fun w => c_67 ((tx_s_eq (c := 61) (fun w => (xt _ w).1) (by decide)).mpr w)
    have gch : tx_ch t n (tx_fr t n (pP y) + 1) ≠ 61 := fun w => by
      unfold tx_ch at w
      by_cases hh : tx_fr t n (pP y) + 1 < n
      · rw [if_pos hh] at w; exact g2 ⟨hh, w⟩
      · rw [if_neg hh] at w; cases w
    refine wq (fun _ _ kk => rs_iconst (v := 0) (pc := 74) dX12_compared_74 rfl kk) ?_
    refine wq (fun _ _ kk => wk_istn2 (pc := 75) dX12_compared_75 (by decide) rfl kk) ?_
    refine wq (fun _ _ kk => rs_aload_n (pc := 76) dX12_compared_76 rfl kk) ?_
    refine wq (fun _ _ kk => rs_dup (pc := 77) dX12_compared_77 rfl kk) ?_
    refine wq (fun _ _ kk => rs_getf (pc := 78) dX12_compared_78 fX12_267 (md_lt hmd (by decide)) hmd.2.1 rfl kk) ?_
    rw [k_52]
    refine wq (fun _ _ kk => rs_iload_n (pc := 81) dX12_compared_81 rfl kk) ?_
    refine wq_br (fun _ _ kt kf => rs_if_eq (tgt := 89) (pc := 82) dX12_compared_82 rfl kt kf) (fun c_82 => ?_) (fun c_82 => absurd c_82 (by decide))
    refine wq (fun _ _ kk => rs_iconst (v := 0) (pc := 89) dX12_compared_89 rfl kk) ?_
    refine wq (fun _ _ kk => rs_iadd (pc := 90) dX12_compared_90 kk) ?_
    rw [show nI (tx_fr t n (pP y) + 1) + 0 = nI (tx_fr t n (pP y) + 1 + 0) from nI_add (tx_fr t n (pP y) + 1) 0]
    refine wq (fun _ _ kk => rs_putf (pc := 91) dX12_compared_91 fX12_267 (md_lt hmd (by decide)) hmd.2.1 rfl (Nat.le_of_ble_eq_true rfl) kk) ?_
    refine wq_gen (fun h_2 e_2 => ?_)
    obtain ⟨m_2, s_2, g_2, o_2⟩ := ai_e1 e_2
    replace hmd := md_at_si (k := 23) hmd m_2 g_2 o_2 rfl
    have E_2 := (E_1).trans (md_ext_of m_2 s_2 o_2 (by decide))
    obtain ⟨S_91, hmd, k_91, r_91, s_91⟩ := md_new hmd
    have hpf2 : pfm r S_52 S_91 := pfm.put (by decide) r_91 s_91
    replace htx := htx.of hpf2
    replace hpf := hpf.trans hpf2
    obtain ⟨k1, k2⟩ := tx_sg_k (t := t) hc.1 (by omega) (by omega)
    rw [hc.2] at k1 k2
    rw [show tx_sk 62 (tx_ch t n (tx_fr t n (pP y) + 1)) = 8 from if_neg gch] at k1 k2
    have k1 : tx_k t n (tx_fr t n (pP y)) = 8 := k1
    have k2 : tx_e t n (tx_fr t n (pP y)) = tx_fr t n (pP y) + 1 + 0 := k2
    obtain ⟨z, hz, z0, z1, z2, z3, z4, z5, z6, z7, z8, z9⟩ := cm_step (t := t) (n := n) (k := 8) h5 k1 (by decide) h60
    rw [py_nt_hi (by decide) (pL y)] at z4
    have zr : py_rch t n y z := by rw [← hz]; exact py_rch.one hl.1 (show pZ y ≠ 9 by rw [h5]; decide)
    have hyz := pok_rch hn4 zr hy
    obtain ⟨p1, p2⟩ := py_two (r := 5) (s := 4) (by decide) (pL y)
    rw [hb, (py_lo_tw hlo).1, List.append_nil] at p1
    rw [hb, (py_lo_tw hlo).2] at p2
    rw [p1] at z9
    rw [p2] at z8
    have zm : mr t n r (pE z) (pP z) (pPa z) (pDe z) O S_91 := by
      rw [z9, z2, z3, z4, Nat.sub_zero]
      refine mv_mr (mv_mr hm r_52 s_52 k_52 (by omega) rfl) r_91 s_91 (by rw [k2]; exact k_91) (by rw [k2]; omega) rfl
    have zw : wl t n r O z S_91 := ⟨z0, Or.inr (Or.inr (Or.inr z1)), fun w => absurd w (by rw [z1]; decide), zm⟩
    refine wq (fun _ _ kk => rs_aload_n (pc := 94) dX12_compared_94 rfl kk) ?_
    obtain ⟨rv_95, hc_95, ⟨rfl, ee_95, T_95, y3, hmd_95, pf_95, re_95, hs3⟩, hm_95⟩ := c_sum hmd htx hyz (Or.inr ⟨zw, by rw [z8]; show py_rk _ < 5; decide⟩)
    refine wq (fun _ _ kk => rs_callV (as := []) (pc := 95) dX12_compared_95 mk_X12_sum mlX12_331 in_X12_sum se_X12_sum rfl (md_lt hmd (by decide)) hmd.2.1 rfl rfl (Nat.le_of_ble_eq_true rfl) (hm_95) kk) ?_
    replace hmd := hmd_95
    replace htx := htx.of pf_95
    replace hpf := hpf.trans pf_95
    have hy3 := pok_rch hn4 re_95 hyz
    have hEn : T_95.1 24 = 0 → T_95.1 26 = nI (pE y3 ++ py_tk (py_tw 5 (pL y3))).length ∧ MT T_95 r 0 (pE y3 ++ py_tk (py_tw 5 (pL y3))) ∧ (pE y3 ++ py_tk (py_tw 5 (pL y3))).length < 300 := fun w => by
      rcases hs3 with hd | ⟨⟨u1, u2, u3⟩, -⟩
      · exact absurd w (hd.ne hy3)
      · exact ⟨u3.2.2.1.1, u3.2.2.1.2, by have := pE_room hn4 hy3 u1.1; have := tw_len (r := 5) (by decide) (pL y3); rw [List.length_append]; omega⟩
    have E_95 := (E_2).trans ee_95
    refine wq (fun _ _ kk => rs_aload_n (pc := 98) dX12_compared_98 rfl kk) ?_
    refine wq (fun _ _ kk => rs_iload_n (pc := 99) dX12_compared_99 rfl kk) ?_
    refine wq (fun _ _ kk => rs_bipush (v := 61) (pc := 100) dX12_compared_100 rfl kk) ?_
    refine wq_bn (fun _ _ kt kf => rs_icmp_ne (tgt := 110) (pc := 102) dX12_compared_102 rfl kt kf) (fun c_102 => ?_) (fun c_102 => absurd c_102 (by decide))
    refine wq (fun _ _ kk => rs_iload_n (pc := 110) dX12_compared_110 rfl kk) ?_
    refine wq (fun _ _ kk => rs_bipush (v := 60) (pc := 111) dX12_compared_111 rfl kk) ?_
    refine wq_bn (fun _ _ kt kf => rs_icmp_ne (tgt := 128) (pc := 113) dX12_compared_113 rfl kt kf) (fun c_113 => ?_) (fun c_113 => absurd c_113 (by decide))
    refine wq (fun _ _ kk => rs_iload_n (pc := 128) dX12_compared_128 rfl kk) ?_
    refine wq_br (fun _ _ kt kf => rs_if_eq (tgt := 137) (pc := 129) dX12_compared_129 rfl kt kf) (fun c_129 => ?_) (fun c_129 => absurd c_129 (by decide))
    refine wq (fun _ _ kk => rs_bipush (v := 8) (pc := 137) dX12_compared_137 rfl kk) ?_
    refine wq (fun _ _ kk => rs_iconst (v := 0) (pc := 139) dX12_compared_139 rfl kk) ?_
    obtain ⟨rv_140, hc_140, ⟨rfl, ee_140, T_140, hmd_140, w1, w2, w3, w4⟩, hm_140⟩ := c_X12_entryA (E := pE y3 ++ py_tk (py_tw 5 (pL y3))) (k := 8) (v := 0) hmd htx hEn
    refine wq (fun _ _ kk => rs_callV (as := [_, _]) (pc := 140) dX12_compared_140 mk_X12_entry mlX12_318 in_X12_entry se_X12_entry rfl (md_lt hmd (by decide)) hmd.2.1 rfl rfl (Nat.le_of_ble_eq_true rfl) (hm_140) kk) ?_
    replace hmd := hmd_140
    replace htx := htx.of w1
    replace hpf := hpf.trans w1
    have E_140 := (E_95).trans ee_140
    refine wq_ret ?_ (rs_vret (pc := 143) dX12_compared_143 rfl)
    refine ⟨rfl, hE.trans (E_140), _, y3, hmd, hpf, hre.trans (zr.trans re_95), ?_⟩
    rcases hs3 with hd | ⟨⟨u1, u2, u3⟩, -, -, u6⟩
    · exact Or.inl (ent_ded hd w2)
    · right
      have hm3 := ent_mr u3 w2 w3 w4
      obtain ⟨p3, p4⟩ := py_two (r := 5) (s := 4) (by decide) (pL y3)
      rw [u2, z8, py_tw_y (by decide), (py_lo_tw hlo).1] at p3
      rw [u2, z8, py_dw_y (by decide), (py_lo_tw hlo).2] at p4
      have z1A : pZ z ≠ 1 := by rw [z1]; decide
      refine ⟨⟨u1.1, by rw [u1.2.1, z1]; rfl, u1.2.2.1.trans (z6.trans hl.2.1), u1.2.2.2.1.trans (z4.trans hl.2.2.1), u1.2.2.2.2.1.trans (z5.trans hl.2.2.2.1), (u1.2.2.2.2.2.1 z1A).trans (z7.trans hl.2.2.2.2.1), ?_⟩, p4, ?_, fun w => by rcases w with w | w | w; exact u6.2.1 w; exact u6.2.2 w; exact u6.1 w⟩
      · have q1 := u1.2.2.2.2.2.2
        have q2 := hl.2.2.2.2.2
        have q3 := tx_fr_ge (t := t) (n := n) (p := pP y)
        rw [z2, k2] at q1
        show pP x < pP y3
        omega
      · rw [p3, show py_tk (py_tw 5 (pL y3) ++ [8]) = py_tk (py_tw 5 (pL y3)) ++ [(8, 0)] by simp [py_tk], ← List.append_assoc]
        exact hm3
  · have g2 := (tx_s_eq (c := 61) (fun w => (xt _ w).1) (by decide)).mp c_67
    have gch : tx_ch t n (tx_fr t n (pP y) + 1) = 61 := by unfold tx_ch; rw [if_pos g2.1]; exact g2.2
    refine wq (fun _ _ kk => rs_iconst (v := 1) (pc := 70) dX12_compared_70 rfl kk) ?_
    refine wq (fun _ _ kk => rs_goto (tgt := 75) (pc := 71) dX12_compared_71 rfl kk) ?_
    refine wq (fun _ _ kk => wk_istn2 (pc := 75) dX12_compared_75 (by decide) rfl kk) ?_
    refine wq (fun _ _ kk => rs_aload_n (pc := 76) dX12_compared_76 rfl kk) ?_
    refine wq (fun _ _ kk => rs_dup (pc := 77) dX12_compared_77 rfl kk) ?_
    refine wq (fun _ _ kk => rs_getf (pc := 78) dX12_compared_78 fX12_267 (md_lt hmd (by decide)) hmd.2.1 rfl kk) ?_
    rw [k_52]
    refine wq (fun _ _ kk => rs_iload_n (pc := 81) dX12_compared_81 rfl kk) ?_
    refine wq_br (fun _ _ kt kf => rs_if_eq (tgt := 89) (pc := 82) dX12_compared_82 rfl kt kf) (fun c_82 => absurd c_82 (by decide)) (fun c_82 => ?_)
    refine wq (fun _ _ kk => rs_iconst (v := 1) (pc := 85) dX12_compared_85 rfl kk) ?_
    refine wq (fun _ _ kk => rs_goto (tgt := 90) (pc := 86) dX12_compared_86 rfl kk) ?_
    refine wq (fun _ _ kk => rs_iadd (pc := 90) dX12_compared_90 kk) ?_
    rw [show nI (tx_fr t n (pP y) + 1) + 1 = nI (tx_fr t n (pP y) + 1 + 1) from nI_add (tx_fr t n (pP y) + 1) 1]
    refine wq (fun _ _ kk => rs_putf (pc := 91) dX12_compared_91 fX12_267 (md_lt hmd (by decide)) hmd.2.1 rfl (Nat.le_of_ble_eq_true rfl) kk) ?_
    refine wq_gen (fun h_3 e_3 => ?_)
    obtain ⟨m_3, s_3, g_3, o_3⟩ := ai_e1 e_3
    replace hmd := md_at_si (k := 23) hmd m_3 g_3 o_3 rfl
    have E_3 := (E_1).trans (md_ext_of m_3 s_3 o_3 (by decide))
    obtain ⟨S_91, hmd, k_91, r_91, s_91⟩ := md_new hmd
    have hpf2 : pfm r S_52 S_91 := pfm.put (by decide) r_91 s_91
    replace htx := htx.of hpf2
    replace hpf := hpf.trans hpf2
    obtain ⟨k1, k2⟩ := tx_sg_k (t := t) hc.1 (by omega) (by omega)
    rw [hc.2] at k1 k2
    rw [show tx_sk 62 (tx_ch t n (tx_fr t n (pP y) + 1)) = 7 from if_pos gch] at k1 k2
    have k1 : tx_k t n (tx_fr t n (pP y)) = 7 := k1
    have k2 : tx_e t n (tx_fr t n (pP y)) = tx_fr t n (pP y) + 1 + 1 := k2
    obtain ⟨z, hz, z0, z1, z2, z3, z4, z5, z6, z7, z8, z9⟩ := cm_step (t := t) (n := n) (k := 7) h5 k1 (by decide) h60
    rw [py_nt_hi (by decide) (pL y)] at z4
    have zr : py_rch t n y z := by rw [← hz]; exact py_rch.one hl.1 (show pZ y ≠ 9 by rw [h5]; decide)
    have hyz := pok_rch hn4 zr hy
    obtain ⟨p1, p2⟩ := py_two (r := 5) (s := 4) (by decide) (pL y)
    rw [hb, (py_lo_tw hlo).1, List.append_nil] at p1
    rw [hb, (py_lo_tw hlo).2] at p2
    rw [p1] at z9
    rw [p2] at z8
    have zm : mr t n r (pE z) (pP z) (pPa z) (pDe z) O S_91 := by
      rw [z9, z2, z3, z4, Nat.sub_zero]
      refine mv_mr (mv_mr hm r_52 s_52 k_52 (by omega) rfl) r_91 s_91 (by rw [k2]; exact k_91) (by rw [k2]; omega) rfl
    have zw : wl t n r O z S_91 := ⟨z0, Or.inr (Or.inr (Or.inr z1)), fun w => absurd w (by rw [z1]; decide), zm⟩
    refine wq (fun _ _ kk => rs_aload_n (pc := 94) dX12_compared_94 rfl kk) ?_
    obtain ⟨rv_95, hc_95, ⟨rfl, ee_95, T_95, y3, hmd_95, pf_95, re_95, hs3⟩, hm_95⟩ := c_sum hmd htx hyz (Or.inr ⟨zw, by rw [z8]; show py_rk _ < 5; decide⟩)
    refine wq (fun _ _ kk => rs_callV (as := []) (pc := 95) dX12_compared_95 mk_X12_sum mlX12_331 in_X12_sum se_X12_sum rfl (md_lt hmd (by decide)) hmd.2.1 rfl rfl (Nat.le_of_ble_eq_true rfl) (hm_95) kk) ?_
    replace hmd := hmd_95
    replace htx := htx.of pf_95
    replace hpf := hpf.trans pf_95
    have hy3 := pok_rch hn4 re_95 hyz
    have hEn : T_95.1 24 = 0 → T_95.1 26 = nI (pE y3 ++ py_tk (py_tw 5 (pL y3))).length ∧ MT T_95 r 0 (pE y3 ++ py_tk (py_tw 5 (pL y3))) ∧ (pE y3 ++ py_tk (py_tw 5 (pL y3))).length < 300 := fun w => by
      rcases hs3 with hd | ⟨⟨u1, u2, u3⟩, -⟩
      · exact absurd w (hd.ne hy3)
      · exact ⟨u3.2.2.1.1, u3.2.2.1.2, by have := pE_room hn4 hy3 u1.1; have := tw_len (r := 5) (by decide) (pL y3); rw [List.length_append]; omega⟩
    have E_95 := (E_3).trans ee_95
    refine wq (fun _ _ kk => rs_aload_n (pc := 98) dX12_compared_98 rfl kk) ?_
    refine wq (fun _ _ kk => rs_iload_n (pc := 99) dX12_compared_99 rfl kk) ?_
    refine wq (fun _ _ kk => rs_bipush (v := 61) (pc := 100) dX12_compared_100 rfl kk) ?_
    refine wq_bn (fun _ _ kt kf => rs_icmp_ne (tgt := 110) (pc := 102) dX12_compared_102 rfl kt kf) (fun c_102 => ?_) (fun c_102 => absurd c_102 (by decide))
    refine wq (fun _ _ kk => rs_iload_n (pc := 110) dX12_compared_110 rfl kk) ?_
    refine wq (fun _ _ kk => rs_bipush (v := 60) (pc := 111) dX12_compared_111 rfl kk) ?_
    refine wq_bn (fun _ _ kt kf => rs_icmp_ne (tgt := 128) (pc := 113) dX12_compared_113 rfl kt kf) (fun c_113 => ?_) (fun c_113 => absurd c_113 (by decide))
    refine wq (fun _ _ kk => rs_iload_n (pc := 128) dX12_compared_128 rfl kk) ?_
    refine wq_br (fun _ _ kt kf => rs_if_eq (tgt := 137) (pc := 129) dX12_compared_129 rfl kt kf) (fun c_129 => absurd c_129 (by decide)) (fun c_129 => ?_)
    refine wq (fun _ _ kk => rs_bipush (v := 7) (pc := 132) dX12_compared_132 rfl kk) ?_
    refine wq (fun _ _ kk => rs_goto (tgt := 139) (pc := 134) dX12_compared_134 rfl kk) ?_
    refine wq (fun _ _ kk => rs_iconst (v := 0) (pc := 139) dX12_compared_139 rfl kk) ?_
    obtain ⟨rv_140, hc_140, ⟨rfl, ee_140, T_140, hmd_140, w1, w2, w3, w4⟩, hm_140⟩ := c_X12_entryA (E := pE y3 ++ py_tk (py_tw 5 (pL y3))) (k := 7) (v := 0) hmd htx hEn
    refine wq (fun _ _ kk => rs_callV (as := [_, _]) (pc := 140) dX12_compared_140 mk_X12_entry mlX12_318 in_X12_entry se_X12_entry rfl (md_lt hmd (by decide)) hmd.2.1 rfl rfl (Nat.le_of_ble_eq_true rfl) (hm_140) kk) ?_
    replace hmd := hmd_140
    replace htx := htx.of w1
    replace hpf := hpf.trans w1
    have E_140 := (E_95).trans ee_140
    refine wq_ret ?_ (rs_vret (pc := 143) dX12_compared_143 rfl)
    refine ⟨rfl, hE.trans (E_140), _, y3, hmd, hpf, hre.trans (zr.trans re_95), ?_⟩
    rcases hs3 with hd | ⟨⟨u1, u2, u3⟩, -, -, u6⟩
    · exact Or.inl (ent_ded hd w2)
    · right
      have hm3 := ent_mr u3 w2 w3 w4
      obtain ⟨p3, p4⟩ := py_two (r := 5) (s := 4) (by decide) (pL y3)
      rw [u2, z8, py_tw_y (by decide), (py_lo_tw hlo).1] at p3
      rw [u2, z8, py_dw_y (by decide), (py_lo_tw hlo).2] at p4
      have z1A : pZ z ≠ 1 := by rw [z1]; decide
      refine ⟨⟨u1.1, by rw [u1.2.1, z1]; rfl, u1.2.2.1.trans (z6.trans hl.2.1), u1.2.2.2.1.trans (z4.trans hl.2.2.1), u1.2.2.2.2.1.trans (z5.trans hl.2.2.2.1), (u1.2.2.2.2.2.1 z1A).trans (z7.trans hl.2.2.2.2.1), ?_⟩, p4, ?_, fun w => by rcases w with w | w | w; exact u6.2.1 w; exact u6.2.2 w; exact u6.1 w⟩
      · have q1 := u1.2.2.2.2.2.2
        have q2 := hl.2.2.2.2.2
        have q3 := tx_fr_ge (t := t) (n := n) (p := pP y)
        rw [z2, k2] at q1
        show pP x < pP y3
        omega
      · rw [p3, show py_tk (py_tw 5 (pL y3) ++ [7]) = py_tk (py_tw 5 (pL y3)) ++ [(7, 0)] by simp [py_tk], ← List.append_assoc]
        exact hm3
set_option maxRecDepth 100000 in
set_option maxHeartbeats 4000000 in
theorem l3_X12_compared {t : Nat → Nat} {n r q : Nat} {O : List Nat} {x y : PS} {h g : ai_H} {S0 S : Md} (hmd : md_at g S) (htx : tx_m t n r S) (hE : md_ext h g) (hpf : pfm r S0 S) (hre : py_rch t n x y) (hy : pok n y) (hd : ded y S) (hq : S.1 23 = nI q) (hq5 : q ≤ 500) : ai_W MX12_compared 4 [.ref 307, .float 0, .float 0] [] g (fun rv g' => rv = none ∧ md_ext h g' ∧ ∃ T y', md_at g' T ∧ pfm r S0 T ∧ py_rch t n x y' ∧ (ded y' T ∨ (cl2 x y' ∧ py_dw 4 (pL y') = pL x ∧ mr t n r (pE y' ++ py_tk (py_tw 4 (pL y'))) (pP y') (pPa y') (pDe y') O T ∧ nar t n y'))) := by
  obtain ⟨x22, hn4, x25, hr9, xt⟩ := id htx
  refine wq (fun _ _ kk => rs_aload_n (pc := 4) dX12_compared_4 rfl kk) ?_
  refine wq (fun _ _ kk => rs_callV (as := []) (pc := 5) dX12_compared_5 mk_X12_sign mlX12_270 in_X12_sign se_X12_sign rfl (md_lt hmd (by decide)) hmd.2.1 rfl rfl (Nat.le_of_ble_eq_true rfl) (c_X12_sign hmd htx hq hq5) kk) ?_
  refine wq (fun _ _ kk => wk_istn1 (pc := 8) dX12_compared_8 (by decide) rfl kk) ?_
  refine wq (fun _ _ kk => rs_iload_n (pc := 9) dX12_compared_9 rfl kk) ?_
  refine wq (fun _ _ kk => rs_bipush (v := 60) (pc := 10) dX12_compared_10 rfl kk) ?_
  refine wq_br (fun _ _ kt kf => rs_icmp_eq (tgt := 37) (pc := 12) dX12_compared_12 rfl kt kf) (fun c_12 => ?_) (fun c_12 => ?_)
  · have hqn : q < n := ((tx_s_eq (c := 60) (fun w => (xt _ w).1) (by decide)).mp c_12).1
    refine wq (fun _ _ kk => rs_aload_n (pc := 37) dX12_compared_37 rfl kk) ?_
    refine wq (fun _ _ kk => rs_aload_n (pc := 38) dX12_compared_38 rfl kk) ?_
    refine wq (fun _ _ kk => rs_getf (pc := 39) dX12_compared_39 fX12_267 (md_lt hmd (by decide)) hmd.2.1 rfl kk) ?_
    rw [hq]
    obtain ⟨rv_42, hc_42, ⟨rfl, ee_42, T_42, hmd_42, y1, y2, y3, y4⟩, hm_42⟩ := c_X12_isCounted (a := q) hmd
    refine wq (fun _ _ kk => rs_callV (as := [_]) (pc := 42) dX12_compared_42 mk_X12_isCounted mlX12_315 in_X12_isCounted se_X12_isCounted rfl (md_lt hmd (by decide)) hmd.2.1 rfl rfl (Nat.le_of_ble_eq_true rfl) (hm_42) kk) ?_
    replace hmd := hmd_42
    simp only [if_neg (hd.ne hy), ite_self] at y4
    have pf42 : pfm r S T_42 := ⟨fun j a1 a2 a3 a4 a5 a6 => y1 j a2 a5, by rw [y2], by rw [y2], fun j _ _ _ => by rw [y2], fun i _ => by rw [y2]; exact ⟨rfl, rfl⟩⟩
    have E_42 := (md_ext.rf).trans ee_42
    exact l1_X12_compared hmd (htx.of pf42) (hE.trans (E_42)) (hpf.trans pf42) hre hy ⟨hd.1, y4.trans hd.2.1, q, (y1 23 (by decide) (by decide)).trans hq, hq5⟩ ((y1 23 (by decide) (by decide)).trans hq) hqn
  · refine wq (fun _ _ kk => rs_iload_n (pc := 15) dX12_compared_15 rfl kk) ?_
    refine wq (fun _ _ kk => rs_bipush (v := 61) (pc := 16) dX12_compared_16 rfl kk) ?_
    refine wq_br (fun _ _ kt kf => rs_icmp_eq (tgt := 37) (pc := 18) dX12_compared_18 rfl kt kf) (fun c_18 => ?_) (fun c_18 => ?_)
    · have hqn : q < n := ((tx_s_eq (c := 61) (fun w => (xt _ w).1) (by decide)).mp c_18).1
      refine wq (fun _ _ kk => rs_aload_n (pc := 37) dX12_compared_37 rfl kk) ?_
      refine wq (fun _ _ kk => rs_aload_n (pc := 38) dX12_compared_38 rfl kk) ?_
      refine wq (fun _ _ kk => rs_getf (pc := 39) dX12_compared_39 fX12_267 (md_lt hmd (by decide)) hmd.2.1 rfl kk) ?_
      rw [hq]
      obtain ⟨rv_42, hc_42, ⟨rfl, ee_42, T_42, hmd_42, y1, y2, y3, y4⟩, hm_42⟩ := c_X12_isCounted (a := q) hmd
      refine wq (fun _ _ kk => rs_callV (as := [_]) (pc := 42) dX12_compared_42 mk_X12_isCounted mlX12_315 in_X12_isCounted se_X12_isCounted rfl (md_lt hmd (by decide)) hmd.2.1 rfl rfl (Nat.le_of_ble_eq_true rfl) (hm_42) kk) ?_
      replace hmd := hmd_42
      simp only [if_neg (hd.ne hy), ite_self] at y4
      have pf42 : pfm r S T_42 := ⟨fun j a1 a2 a3 a4 a5 a6 => y1 j a2 a5, by rw [y2], by rw [y2], fun j _ _ _ => by rw [y2], fun i _ => by rw [y2]; exact ⟨rfl, rfl⟩⟩
      have E_42 := (md_ext.rf).trans ee_42
      exact l1_X12_compared hmd (htx.of pf42) (hE.trans (E_42)) (hpf.trans pf42) hre hy ⟨hd.1, y4.trans hd.2.1, q, (y1 23 (by decide) (by decide)).trans hq, hq5⟩ ((y1 23 (by decide) (by decide)).trans hq) hqn
    · refine wq (fun _ _ kk => rs_iload_n (pc := 21) dX12_compared_21 rfl kk) ?_
      refine wq (fun _ _ kk => rs_bipush (v := 62) (pc := 22) dX12_compared_22 rfl kk) ?_
      refine wq_br (fun _ _ kt kf => rs_icmp_eq (tgt := 37) (pc := 24) dX12_compared_24 rfl kt kf) (fun c_24 => ?_) (fun c_24 => ?_)
      · have hqn : q < n := ((tx_s_eq (c := 62) (fun w => (xt _ w).1) (by decide)).mp c_24).1
        refine wq (fun _ _ kk => rs_aload_n (pc := 37) dX12_compared_37 rfl kk) ?_
        refine wq (fun _ _ kk => rs_aload_n (pc := 38) dX12_compared_38 rfl kk) ?_
        refine wq (fun _ _ kk => rs_getf (pc := 39) dX12_compared_39 fX12_267 (md_lt hmd (by decide)) hmd.2.1 rfl kk) ?_
        rw [hq]
        obtain ⟨rv_42, hc_42, ⟨rfl, ee_42, T_42, hmd_42, y1, y2, y3, y4⟩, hm_42⟩ := c_X12_isCounted (a := q) hmd
        refine wq (fun _ _ kk => rs_callV (as := [_]) (pc := 42) dX12_compared_42 mk_X12_isCounted mlX12_315 in_X12_isCounted se_X12_isCounted rfl (md_lt hmd (by decide)) hmd.2.1 rfl rfl (Nat.le_of_ble_eq_true rfl) (hm_42) kk) ?_
        replace hmd := hmd_42
        simp only [if_neg (hd.ne hy), ite_self] at y4
        have pf42 : pfm r S T_42 := ⟨fun j a1 a2 a3 a4 a5 a6 => y1 j a2 a5, by rw [y2], by rw [y2], fun j _ _ _ => by rw [y2], fun i _ => by rw [y2]; exact ⟨rfl, rfl⟩⟩
        have E_42 := (md_ext.rf).trans ee_42
        exact l1_X12_compared hmd (htx.of pf42) (hE.trans (E_42)) (hpf.trans pf42) hre hy ⟨hd.1, y4.trans hd.2.1, q, (y1 23 (by decide) (by decide)).trans hq, hq5⟩ ((y1 23 (by decide) (by decide)).trans hq) hqn
      · refine wq (fun _ _ kk => rs_aload_n (pc := 27) dX12_compared_27 rfl kk) ?_
        refine wq (fun _ _ kk => rs_iconst (v := 0) (pc := 28) dX12_compared_28 rfl kk) ?_
        refine wq (fun _ _ kk => rs_aload_n (pc := 29) dX12_compared_29 rfl kk) ?_
        refine wq (fun _ _ kk => rs_getf (pc := 30) dX12_compared_30 fX12_267 (md_lt hmd (by decide)) hmd.2.1 rfl kk) ?_
        rw [hq]
        obtain ⟨rv_33, hc_33, ⟨rfl, ee_33, T_33, hmd_33, q0, q3⟩, hm_33⟩ := c_X12_fails (c := 0) (a := q) hmd
        refine wq (fun _ _ kk => rs_callV (as := [_, _]) (pc := 33) dX12_compared_33 mk_X12_fails mlX12_303 in_X12_fails se_X12_fails rfl (md_lt hmd (by decide)) hmd.2.1 rfl rfl (Nat.le_of_ble_eq_true rfl) (hm_33) kk) ?_
        replace hmd := hmd_33
        rw [if_neg (hd.ne hy)] at q3
        have E_33 := (md_ext.rf).trans ee_33
        refine wq_ret ?_ (rs_vret (pc := 36) dX12_compared_36 rfl)
        exact ⟨rfl, hE.trans (E_33), _, y, hmd, hpf.trans (q0.f (by decide)), hre, Or.inl ⟨hd.1, q3.trans hd.2.1, q, (q0.1 23 (by decide)).trans hq, hq5⟩⟩
theorem sk_cm {c : Nat} (d : Nat) (h : c = 60 ∨ c = 61 ∨ c = 62) : 4 ≤ tx_sk c d ∧ tx_sk c d ≤ 8 := by
  rcases h with rfl | rfl | rfl
  · show 4 ≤ (if d = 61 then 5 else 4) ∧ (if d = 61 then 5 else 4) ≤ 8
    split <;> decide
  · exact ⟨Nat.le_of_ble_eq_true rfl, Nat.le_of_ble_eq_true rfl⟩
  · show 4 ≤ (if d = 61 then 7 else 8) ∧ (if d = 61 then 7 else 8) ≤ 8
    split <;> decide
set_option maxRecDepth 100000 in
set_option maxHeartbeats 4000000 in
theorem l4_X12_compared {t : Nat → Nat} {n r : Nat} {O : List Nat} {x y : PS} {h g : ai_H} {S0 S : Md} (hlo : py_lo 4 (pL x)) (hmd : md_at g S) (htx : tx_m t n r S) (hE : md_ext h g) (hpf : pfm r S0 S) (hre : py_rch t n x y) (hy : pok n y) (h5 : pZ y = 5) (hl : pF y = 0 ∧ pD y = pD x ∧ pDe y = pDe x ∧ pBr y = pBr x ∧ pA y = pA x ∧ pP x < pP y) (hb : py_dw 5 (pL y) = pL x) (hq : S.1 23 = nI (tx_fr t n (pP y))) (hqn : (tx_fr t n (pP y)) ≤ n) (hnk : tx_k t n (tx_fr t n (pP y)) ≠ 13 ∧ tx_k t n (tx_fr t n (pP y)) ≠ 2 ∧ tx_k t n (tx_fr t n (pP y)) ≠ 3) (hm : mr t n r (pE y ++ py_tk (py_tw 5 (pL y))) (pP y) (pPa y) (pDe y) O S) : ai_W MX12_compared 4 [.ref 307, .float 0, .float 0] [] g (fun rv g' => rv = none ∧ md_ext h g' ∧ ∃ T y', md_at g' T ∧ pfm r S0 T ∧ py_rch t n x y' ∧ (ded y' T ∨ (cl2 x y' ∧ py_dw 4 (pL y') = pL x ∧ mr t n r (pE y' ++ py_tk (py_tw 4 (pL y'))) (pP y') (pPa y') (pDe y') O T ∧ nar t n y'))) := by
  obtain ⟨x22, hn4, x25, hr9, xt⟩ := id htx
  refine wq (fun _ _ kk => rs_aload_n (pc := 4) dX12_compared_4 rfl kk) ?_
  refine wq (fun _ _ kk => rs_callV (as := []) (pc := 5) dX12_compared_5 mk_X12_sign mlX12_270 in_X12_sign se_X12_sign rfl (md_lt hmd (by decide)) hmd.2.1 rfl rfl (Nat.le_of_ble_eq_true rfl) (c_X12_sign hmd htx hq (by omega)) kk) ?_
  refine wq (fun _ _ kk => wk_istn1 (pc := 8) dX12_compared_8 (by decide) rfl kk) ?_
  refine wq (fun _ _ kk => rs_iload_n (pc := 9) dX12_compared_9 rfl kk) ?_
  refine wq (fun _ _ kk => rs_bipush (v := 60) (pc := 10) dX12_compared_10 rfl kk) ?_
  refine wq_br (fun _ _ kt kf => rs_icmp_eq (tgt := 37) (pc := 12) dX12_compared_12 rfl kt kf) (fun c_12 => ?_) (fun c_12 => ?_)
  · have hc := (tx_s_eq (c := 60) (fun w => (xt _ w).1) (by decide)).mp c_12
    refine wq (fun _ _ kk => rs_aload_n (pc := 37) dX12_compared_37 rfl kk) ?_
    refine wq (fun _ _ kk => rs_aload_n (pc := 38) dX12_compared_38 rfl kk) ?_
    refine wq (fun _ _ kk => rs_getf (pc := 39) dX12_compared_39 fX12_267 (md_lt hmd (by decide)) hmd.2.1 rfl kk) ?_
    rw [hq]
    obtain ⟨rv_42, hc_42, ⟨rfl, ee_42, T_42, hmd_42, y1, y2, y3, y4⟩, hm_42⟩ := c_X12_isCounted (a := (tx_fr t n (pP y))) hmd
    refine wq (fun _ _ kk => rs_callV (as := [_]) (pc := 42) dX12_compared_42 mk_X12_isCounted mlX12_315 in_X12_isCounted se_X12_isCounted rfl (md_lt hmd (by decide)) hmd.2.1 rfl rfl (Nat.le_of_ble_eq_true rfl) (hm_42) kk) ?_
    replace hmd := hmd_42
    rw [hm.1, if_pos rfl, hm.2.2.2.2.1] at y4
    rw [hm.2.2.2.2.1] at y3
    have pf42 : pfm r S T_42 := ⟨fun j a1 a2 a3 a4 a5 a6 => y1 j a2 a5, by rw [y2], by rw [y2], fun j _ _ _ => by rw [y2], fun i _ => by rw [y2]; exact ⟨rfl, rfl⟩⟩
    have E_42 := (md_ext.rf).trans ee_42
    by_cases h60 : pPa y = 60
    · rw [if_pos (by rw [h60]; rfl)] at y4
      have hkk : 4 ≤ tx_k t n (tx_fr t n (pP y)) ∧ tx_k t n (tx_fr t n (pP y)) ≤ 8 := by
        rw [(tx_sg_k (t := t) hc.1 (by omega) (by omega)).1, hc.2]
        exact sk_cm _ (by omega)
      have hz := (cm_fail (t := t) (n := n) h5 rfl (by omega)).2 hkk h60
      have hr2 : py_rch t n y (py_fail 3 (tx_fr t n (pP y)) y) := by rw [← hz]; exact py_rch.one hl.1 (show pZ y ≠ 9 by rw [h5]; decide)
      exact l1_X12_compared hmd (htx.of pf42) (hE.trans (E_42)) (hpf.trans pf42) (hre.trans hr2) (pok_rch hn4 hr2 hy) ⟨by rw [pF_fail]; omega, by rw [pF_fail]; exact y4, (tx_fr t n (pP y)), (y1 23 (by decide) (by decide)).trans hq, by omega⟩ ((y1 23 (by decide) (by decide)).trans hq) hc.1
    · have h60' : ¬ nI (pPa y) = 60 := fun w => h60 (tx_eq1 (b := 60) (show pPa y < 1000000 from Nat.lt_of_le_of_lt (hy.1 hl.1).1.1 (by decide)) (by decide) rfl w)
      rw [if_neg h60'] at y4
      rw [show tx_s t n (tx_fr t n (pP y)) = 60 from by rw [c_12]]
      refine l2_X12_compared_60 hlo hmd (htx.of pf42) (hE.trans (E_42)) (hpf.trans pf42) hre hy h5 hl hb h60 ((y1 23 (by decide) (by decide)).trans hq) hc ?_
      obtain ⟨m0, m1, ⟨m2, m2'⟩, m3, m4, m5, m6⟩ := hm
      exact ⟨y4, by rw [y1 23 (by decide) (by decide)]; exact m1, ⟨(y1 26 (by decide) (by decide)).trans m2, MT_cong m2' (fun k _ => by rw [y2]; exact ⟨rfl, rfl⟩)⟩, (y1 27 (by decide) (by decide)).trans m3, y3.trans (nI_1 _), (y1 29 (by decide) (by decide)).trans m5, by rw [y2]; exact m6⟩
  · refine wq (fun _ _ kk => rs_iload_n (pc := 15) dX12_compared_15 rfl kk) ?_
    refine wq (fun _ _ kk => rs_bipush (v := 61) (pc := 16) dX12_compared_16 rfl kk) ?_
    refine wq_br (fun _ _ kt kf => rs_icmp_eq (tgt := 37) (pc := 18) dX12_compared_18 rfl kt kf) (fun c_18 => ?_) (fun c_18 => ?_)
    · have hc := (tx_s_eq (c := 61) (fun w => (xt _ w).1) (by decide)).mp c_18
      refine wq (fun _ _ kk => rs_aload_n (pc := 37) dX12_compared_37 rfl kk) ?_
      refine wq (fun _ _ kk => rs_aload_n (pc := 38) dX12_compared_38 rfl kk) ?_
      refine wq (fun _ _ kk => rs_getf (pc := 39) dX12_compared_39 fX12_267 (md_lt hmd (by decide)) hmd.2.1 rfl kk) ?_
      rw [hq]
      obtain ⟨rv_42, hc_42, ⟨rfl, ee_42, T_42, hmd_42, y1, y2, y3, y4⟩, hm_42⟩ := c_X12_isCounted (a := (tx_fr t n (pP y))) hmd
      refine wq (fun _ _ kk => rs_callV (as := [_]) (pc := 42) dX12_compared_42 mk_X12_isCounted mlX12_315 in_X12_isCounted se_X12_isCounted rfl (md_lt hmd (by decide)) hmd.2.1 rfl rfl (Nat.le_of_ble_eq_true rfl) (hm_42) kk) ?_
      replace hmd := hmd_42
      rw [hm.1, if_pos rfl, hm.2.2.2.2.1] at y4
      rw [hm.2.2.2.2.1] at y3
      have pf42 : pfm r S T_42 := ⟨fun j a1 a2 a3 a4 a5 a6 => y1 j a2 a5, by rw [y2], by rw [y2], fun j _ _ _ => by rw [y2], fun i _ => by rw [y2]; exact ⟨rfl, rfl⟩⟩
      have E_42 := (md_ext.rf).trans ee_42
      by_cases h60 : pPa y = 60
      · rw [if_pos (by rw [h60]; rfl)] at y4
        have hkk : 4 ≤ tx_k t n (tx_fr t n (pP y)) ∧ tx_k t n (tx_fr t n (pP y)) ≤ 8 := by
          rw [(tx_sg_k (t := t) hc.1 (by omega) (by omega)).1, hc.2]
          exact sk_cm _ (by omega)
        have hz := (cm_fail (t := t) (n := n) h5 rfl (by omega)).2 hkk h60
        have hr2 : py_rch t n y (py_fail 3 (tx_fr t n (pP y)) y) := by rw [← hz]; exact py_rch.one hl.1 (show pZ y ≠ 9 by rw [h5]; decide)
        exact l1_X12_compared hmd (htx.of pf42) (hE.trans (E_42)) (hpf.trans pf42) (hre.trans hr2) (pok_rch hn4 hr2 hy) ⟨by rw [pF_fail]; omega, by rw [pF_fail]; exact y4, (tx_fr t n (pP y)), (y1 23 (by decide) (by decide)).trans hq, by omega⟩ ((y1 23 (by decide) (by decide)).trans hq) hc.1
      · have h60' : ¬ nI (pPa y) = 60 := fun w => h60 (tx_eq1 (b := 60) (show pPa y < 1000000 from Nat.lt_of_le_of_lt (hy.1 hl.1).1.1 (by decide)) (by decide) rfl w)
        rw [if_neg h60'] at y4
        rw [show tx_s t n (tx_fr t n (pP y)) = 61 from by rw [c_18]]
        refine l2_X12_compared_61 hlo hmd (htx.of pf42) (hE.trans (E_42)) (hpf.trans pf42) hre hy h5 hl hb h60 ((y1 23 (by decide) (by decide)).trans hq) hc ?_
        obtain ⟨m0, m1, ⟨m2, m2'⟩, m3, m4, m5, m6⟩ := hm
        exact ⟨y4, by rw [y1 23 (by decide) (by decide)]; exact m1, ⟨(y1 26 (by decide) (by decide)).trans m2, MT_cong m2' (fun k _ => by rw [y2]; exact ⟨rfl, rfl⟩)⟩, (y1 27 (by decide) (by decide)).trans m3, y3.trans (nI_1 _), (y1 29 (by decide) (by decide)).trans m5, by rw [y2]; exact m6⟩
    · refine wq (fun _ _ kk => rs_iload_n (pc := 21) dX12_compared_21 rfl kk) ?_
      refine wq (fun _ _ kk => rs_bipush (v := 62) (pc := 22) dX12_compared_22 rfl kk) ?_
      refine wq_br (fun _ _ kt kf => rs_icmp_eq (tgt := 37) (pc := 24) dX12_compared_24 rfl kt kf) (fun c_24 => ?_) (fun c_24 => ?_)
      · have hc := (tx_s_eq (c := 62) (fun w => (xt _ w).1) (by decide)).mp c_24
        refine wq (fun _ _ kk => rs_aload_n (pc := 37) dX12_compared_37 rfl kk) ?_
        refine wq (fun _ _ kk => rs_aload_n (pc := 38) dX12_compared_38 rfl kk) ?_
        refine wq (fun _ _ kk => rs_getf (pc := 39) dX12_compared_39 fX12_267 (md_lt hmd (by decide)) hmd.2.1 rfl kk) ?_
        rw [hq]
        obtain ⟨rv_42, hc_42, ⟨rfl, ee_42, T_42, hmd_42, y1, y2, y3, y4⟩, hm_42⟩ := c_X12_isCounted (a := (tx_fr t n (pP y))) hmd
        refine wq (fun _ _ kk => rs_callV (as := [_]) (pc := 42) dX12_compared_42 mk_X12_isCounted mlX12_315 in_X12_isCounted se_X12_isCounted rfl (md_lt hmd (by decide)) hmd.2.1 rfl rfl (Nat.le_of_ble_eq_true rfl) (hm_42) kk) ?_
        replace hmd := hmd_42
        rw [hm.1, if_pos rfl, hm.2.2.2.2.1] at y4
        rw [hm.2.2.2.2.1] at y3
        have pf42 : pfm r S T_42 := ⟨fun j a1 a2 a3 a4 a5 a6 => y1 j a2 a5, by rw [y2], by rw [y2], fun j _ _ _ => by rw [y2], fun i _ => by rw [y2]; exact ⟨rfl, rfl⟩⟩
        have E_42 := (md_ext.rf).trans ee_42
        by_cases h60 : pPa y = 60
        · rw [if_pos (by rw [h60]; rfl)] at y4
          have hkk : 4 ≤ tx_k t n (tx_fr t n (pP y)) ∧ tx_k t n (tx_fr t n (pP y)) ≤ 8 := by
            rw [(tx_sg_k (t := t) hc.1 (by omega) (by omega)).1, hc.2]
            exact sk_cm _ (by omega)
          have hz := (cm_fail (t := t) (n := n) h5 rfl (by omega)).2 hkk h60
          have hr2 : py_rch t n y (py_fail 3 (tx_fr t n (pP y)) y) := by rw [← hz]; exact py_rch.one hl.1 (show pZ y ≠ 9 by rw [h5]; decide)
          exact l1_X12_compared hmd (htx.of pf42) (hE.trans (E_42)) (hpf.trans pf42) (hre.trans hr2) (pok_rch hn4 hr2 hy) ⟨by rw [pF_fail]; omega, by rw [pF_fail]; exact y4, (tx_fr t n (pP y)), (y1 23 (by decide) (by decide)).trans hq, by omega⟩ ((y1 23 (by decide) (by decide)).trans hq) hc.1
        · have h60' : ¬ nI (pPa y) = 60 := fun w => h60 (tx_eq1 (b := 60) (show pPa y < 1000000 from Nat.lt_of_le_of_lt (hy.1 hl.1).1.1 (by decide)) (by decide) rfl w)
          rw [if_neg h60'] at y4
          rw [show tx_s t n (tx_fr t n (pP y)) = 62 from by rw [c_24]]
          refine l2_X12_compared_62 hlo hmd (htx.of pf42) (hE.trans (E_42)) (hpf.trans pf42) hre hy h5 hl hb h60 ((y1 23 (by decide) (by decide)).trans hq) hc ?_
          obtain ⟨m0, m1, ⟨m2, m2'⟩, m3, m4, m5, m6⟩ := hm
          exact ⟨y4, by rw [y1 23 (by decide) (by decide)]; exact m1, ⟨(y1 26 (by decide) (by decide)).trans m2, MT_cong m2' (fun k _ => by rw [y2]; exact ⟨rfl, rfl⟩)⟩, (y1 27 (by decide) (by decide)).trans m3, y3.trans (nI_1 _), (y1 29 (by decide) (by decide)).trans m5, by rw [y2]; exact m6⟩
      · refine wq (fun _ _ kk => rs_aload_n (pc := 27) dX12_compared_27 rfl kk) ?_
        refine wq (fun _ _ kk => rs_iconst (v := 0) (pc := 28) dX12_compared_28 rfl kk) ?_
        refine wq (fun _ _ kk => rs_aload_n (pc := 29) dX12_compared_29 rfl kk) ?_
        refine wq (fun _ _ kk => rs_getf (pc := 30) dX12_compared_30 fX12_267 (md_lt hmd (by decide)) hmd.2.1 rfl kk) ?_
        rw [hq]
        obtain ⟨rv_33, hc_33, ⟨rfl, ee_33, T_33, hmd_33, q0, q3⟩, hm_33⟩ := c_X12_fails (c := 0) (a := (tx_fr t n (pP y))) hmd
        refine wq (fun _ _ kk => rs_callV (as := [_, _]) (pc := 33) dX12_compared_33 mk_X12_fails mlX12_303 in_X12_fails se_X12_fails rfl (md_lt hmd (by decide)) hmd.2.1 rfl rfl (Nat.le_of_ble_eq_true rfl) (hm_33) kk) ?_
        replace hmd := hmd_33
        rw [if_pos hm.1] at q3
        have E_33 := (md_ext.rf).trans ee_33
        refine wq_ret ?_ (rs_vret (pc := 36) dX12_compared_36 rfl)
        have hnc : ¬ (4 ≤ tx_k t n (tx_fr t n (pP y)) ∧ tx_k t n (tx_fr t n (pP y)) ≤ 8) := fun hk => by
          obtain ⟨k1, k2⟩ := tx_k_sgn (k := tx_k t n (tx_fr t n (pP y))) rfl (by omega)
          rcases (tx_sk_c k2).2.2.2.1 hk with w | w | w
          · exact c_12 ((tx_s_eq (c := 60) (fun w => (xt _ w).1) (by decide)).mpr ⟨k1, w⟩)
          · exact c_18 ((tx_s_eq (c := 61) (fun w => (xt _ w).1) (by decide)).mpr ⟨k1, w⟩)
          · exact c_24 ((tx_s_eq (c := 62) (fun w => (xt _ w).1) (by decide)).mpr ⟨k1, w⟩)
        have hz := (cm_fail (t := t) (n := n) h5 rfl (by omega)).1 hnc
        refine ⟨rfl, hE.trans (E_33), _, py_fail 0 (tx_fr t n (pP y)) y, hmd, hpf.trans (q0.f (by decide)), hre.trans (by rw [← hz]; exact py_rch.one hl.1 (show pZ y ≠ 9 by rw [h5]; decide)), Or.inl ⟨by rw [pF_fail]; omega, by rw [pF_fail]; exact q3, (tx_fr t n (pP y)), (q0.1 23 (by decide)).trans hq, by omega⟩⟩
set_option maxRecDepth 100000 in
set_option maxHeartbeats 4000000 in
theorem c_compared {t : Nat → Nat} {n r : Nat} {O : List Nat} {x : PS} {h : ai_H} {S : Md} (hmd : md_at h S) (htx : tx_m t n r S) (hx : pok n x) (hwl : wl t n r O x S) (h3 : pZ x = 3) (hlo : py_lo 4 (pL x)) : ai_QM MX12_compared [.ref 307] h (fun rv g' => rv = none ∧ md_ext h g' ∧ ∃ T y', md_at g' T ∧ pfm r S T ∧ py_rch t n x y' ∧ (ded y' T ∨ (cl2 x y' ∧ py_dw 4 (pL y') = pL x ∧ mr t n r (pE y' ++ py_tk (py_tw 4 (pL y'))) (pP y') (pPa y') (pDe y') O T ∧ nar t n y'))) := by
  have hn4 := htx.2.1
  refine qm_of (ls := [.ref 307, .float 0, .float 0]) (by decide) (by simp [ai_en, Value.category]) (by rfl) ?_
  refine wq (fun _ _ kk => rs_aload_n (pc := 0) dX12_compared_0 rfl kk) ?_
  obtain ⟨rv_1, hc_1, ⟨rfl, ee_1, T_1, y, hmd_1, pf_1, re_1, hs1⟩, hm_1⟩ := c_sum hmd htx hx (Or.inr ⟨hwl, hlo.le (by decide)⟩)
  refine wq (fun _ _ kk => rs_callV (as := []) (pc := 1) dX12_compared_1 mk_X12_sum mlX12_331 in_X12_sum se_X12_sum rfl (md_lt hmd (by decide)) hmd.2.1 rfl rfl (Nat.le_of_ble_eq_true rfl) (hm_1) kk) ?_
  replace hmd := hmd_1
  replace htx := htx.of pf_1
  have hy := pok_rch hn4 re_1 hx
  have E_1 := (md_ext.rf).trans ee_1
  rcases hs1 with hd | ⟨⟨u1, u2, u3⟩, u4, u5, u6⟩
  · obtain ⟨q, hq, hq5⟩ := hd.2.2
    exact l3_X12_compared hmd htx (E_1) pf_1 re_1 hy hd hq hq5
  · exact l4_X12_compared hlo hmd htx (E_1) pf_1 re_1 hy (by rw [u1.2.1, h3]; rfl) ⟨u1.1, u1.2.2.1, u1.2.2.2.1, u1.2.2.2.2.1, u1.2.2.2.2.2.1 (by rw [h3]; decide), u1.2.2.2.2.2.2⟩ u2 u4 u5 u6 u3
