/-! 70: the class's reader: take (walks laid by wip/whole/p70.py) -/
def lxq (S T : Md) : Prop := (∀ j, j ≠ 2 → j ≠ 3 → j ≠ 4 → j ≠ 5 → T.1 j = S.1 j) ∧ T.2 = S.2
theorem lxq.rf {S : Md} : lxq S S := ⟨fun _ _ _ _ _ => rfl, rfl⟩
theorem lxq.trans {S T V : Md} (a : lxq S T) (b : lxq T V) : lxq S V := ⟨fun j h2 h3 h4 h5 => (b.1 j h2 h3 h4 h5).trans (a.1 j h2 h3 h4 h5), b.2.trans a.2⟩
theorem lxq.put {S T V : Md} {k : Nat} (a : lxq S T) (hk : k = 2 ∨ k = 3 ∨ k = 4 ∨ k = 5) (r : ∀ j, j ≠ k → V.1 j = T.1 j) (s : V.2 = T.2) : lxq S V := ⟨fun j h2 h3 h4 h5 => (r j (by omega)).trans (a.1 j h2 h3 h4 h5), s.trans a.2⟩
theorem rd_new {h : ai_H} {S : Md} {k : Nat} {v : Int32} (a : rd_at 13 h (md_si S k v)) : ∃ T, rd_at 13 h T ∧ T.1 k = v ∧ (∀ j, j ≠ k → T.1 j = S.1 j) ∧ T.2 = S.2 := ⟨md_si S k v, a, if_pos rfl, fun j hj => if_neg hj, rfl⟩
theorem nI_mul (a b : Nat) : nI a * nI b = nI (a * b) := (Int32.ofNat_mul a b).symm
theorem dX5_takeNumber_0 : decode cX5_takeNumber 0 = .ok (.aload_n 0, 1) := by decide +kernel
theorem dX5_takeNumber_1 : decode cX5_takeNumber 1 = .ok (.ldc 107, 2) := by decide +kernel
theorem dX5_takeNumber_3 : decode cX5_takeNumber 3 = .ok (.putfield 26, 3) := by decide +kernel
theorem dX5_takeNumber_6 : decode cX5_takeNumber 6 = .ok (.aload_n 0, 1) := by decide +kernel
theorem dX5_takeNumber_7 : decode cX5_takeNumber 7 = .ok (.aload_n 0, 1) := by decide +kernel
theorem dX5_takeNumber_8 : decode cX5_takeNumber 8 = .ok (.aload_n 0, 1) := by decide +kernel
theorem dX5_takeNumber_9 : decode cX5_takeNumber 9 = .ok (.getfield 19, 3) := by decide +kernel
theorem dX5_takeNumber_12 : decode cX5_takeNumber 12 = .ok (.invokevirtual 86, 3) := by decide +kernel
theorem dX5_takeNumber_15 : decode cX5_takeNumber 15 = .ok (.bipush 48, 2) := by decide +kernel
theorem dX5_takeNumber_17 : decode cX5_takeNumber 17 = .ok (.isub, 1) := by decide +kernel
theorem dX5_takeNumber_18 : decode cX5_takeNumber 18 = .ok (.putfield 29, 3) := by decide +kernel
theorem dX5_takeNumber_21 : decode cX5_takeNumber 21 = .ok (.aload_n 0, 1) := by decide +kernel
theorem dX5_takeNumber_22 : decode cX5_takeNumber 22 = .ok (.getfield 22, 3) := by decide +kernel
theorem dX5_takeNumber_25 : decode cX5_takeNumber 25 = .ok (.aload_n 0, 1) := by decide +kernel
theorem dX5_takeNumber_26 : decode cX5_takeNumber 26 = .ok (.getfield 15, 3) := by decide +kernel
theorem dX5_takeNumber_29 : decode cX5_takeNumber 29 = .ok (.if_icmp .ge 70, 3) := by decide +kernel
theorem dX5_takeNumber_32 : decode cX5_takeNumber 32 = .ok (.aload_n 0, 1) := by decide +kernel
theorem dX5_takeNumber_33 : decode cX5_takeNumber 33 = .ok (.aload_n 0, 1) := by decide +kernel
theorem dX5_takeNumber_34 : decode cX5_takeNumber 34 = .ok (.getfield 22, 3) := by decide +kernel
theorem dX5_takeNumber_37 : decode cX5_takeNumber 37 = .ok (.invokevirtual 91, 3) := by decide +kernel
theorem dX5_takeNumber_40 : decode cX5_takeNumber 40 = .ok (.ifCond .eq 59, 3) := by decide +kernel
theorem dX5_takeNumber_43 : decode cX5_takeNumber 43 = .ok (.aload_n 0, 1) := by decide +kernel
theorem dX5_takeNumber_44 : decode cX5_takeNumber 44 = .ok (.aload_n 0, 1) := by decide +kernel
theorem dX5_takeNumber_45 : decode cX5_takeNumber 45 = .ok (.getfield 22, 3) := by decide +kernel
theorem dX5_takeNumber_48 : decode cX5_takeNumber 48 = .ok (.aload_n 0, 1) := by decide +kernel
theorem dX5_takeNumber_49 : decode cX5_takeNumber 49 = .ok (.getfield 19, 3) := by decide +kernel
theorem dX5_takeNumber_52 : decode cX5_takeNumber 52 = .ok (.isub, 1) := by decide +kernel
theorem dX5_takeNumber_53 : decode cX5_takeNumber 53 = .ok (.iconst 5, 1) := by decide +kernel
theorem dX5_takeNumber_54 : decode cX5_takeNumber 54 = .ok (.if_icmp .ge 25, 3) := by decide +kernel
theorem dX5_takeNumber_57 : decode cX5_takeNumber 57 = .ok (.aload_n 0, 1) := by decide +kernel
theorem dX5_takeNumber_58 : decode cX5_takeNumber 58 = .ok (.getfield 29, 3) := by decide +kernel
theorem dX5_takeNumber_61 : decode cX5_takeNumber 61 = .ok (.bipush 10, 2) := by decide +kernel
theorem dX5_takeNumber_63 : decode cX5_takeNumber 63 = .ok (.imul, 1) := by decide +kernel
theorem dX5_takeNumber_64 : decode cX5_takeNumber 64 = .ok (.aload_n 0, 1) := by decide +kernel
theorem dX5_takeNumber_65 : decode cX5_takeNumber 65 = .ok (.aload_n 0, 1) := by decide +kernel
theorem dX5_takeNumber_66 : decode cX5_takeNumber 66 = .ok (.getfield 22, 3) := by decide +kernel
theorem dX5_takeNumber_69 : decode cX5_takeNumber 69 = .ok (.invokevirtual 86, 3) := by decide +kernel
theorem dX5_takeNumber_72 : decode cX5_takeNumber 72 = .ok (.iadd, 1) := by decide +kernel
theorem dX5_takeNumber_73 : decode cX5_takeNumber 73 = .ok (.bipush 48, 2) := by decide +kernel
theorem dX5_takeNumber_75 : decode cX5_takeNumber 75 = .ok (.isub, 1) := by decide +kernel
theorem dX5_takeNumber_76 : decode cX5_takeNumber 76 = .ok (.goto 7, 3) := by decide +kernel
theorem dX5_takeNumber_79 : decode cX5_takeNumber 79 = .ok (.aload_n 0, 1) := by decide +kernel
theorem dX5_takeNumber_80 : decode cX5_takeNumber 80 = .ok (.getfield 29, 3) := by decide +kernel
theorem dX5_takeNumber_83 : decode cX5_takeNumber 83 = .ok (.putfield 29, 3) := by decide +kernel
theorem dX5_takeNumber_86 : decode cX5_takeNumber 86 = .ok (.aload_n 0, 1) := by decide +kernel
theorem dX5_takeNumber_87 : decode cX5_takeNumber 87 = .ok (.dup, 1) := by decide +kernel
theorem dX5_takeNumber_88 : decode cX5_takeNumber 88 = .ok (.getfield 22, 3) := by decide +kernel
theorem dX5_takeNumber_91 : decode cX5_takeNumber 91 = .ok (.iconst 1, 1) := by decide +kernel
theorem dX5_takeNumber_92 : decode cX5_takeNumber 92 = .ok (.iadd, 1) := by decide +kernel
theorem dX5_takeNumber_93 : decode cX5_takeNumber 93 = .ok (.putfield 22, 3) := by decide +kernel
theorem dX5_takeNumber_96 : decode cX5_takeNumber 96 = .ok (.goto (-75), 3) := by decide +kernel
theorem dX5_takeNumber_99 : decode cX5_takeNumber 99 = .ok (.return_, 1) := by decide +kernel
set_option maxRecDepth 100000 in
set_option maxHeartbeats 4000000 in
theorem l_X5_takeNumber {h : ai_H} {S0 : Md} {t : Nat → Nat} {n a : Nat} (hn4 : n ≤ 400) : ∀ (m b : Nat) (g : ai_H) (S : Md), a + 1 ≤ b → b ≤ n → n + 1 ≤ b + m → tx_rn (tx_dg t) n b = tx_rn (tx_dg t) n (a + 1) → rd_at 13 g S → rd_tx t n g → xd h g → lxq S0 S → S.1 1 = nI n → S.1 2 = nI a → S.1 3 = nI b → S.1 4 = nI 300000 → S.1 5 = nI (tx_nv t a (b - a)) → ai_W MX5_takeNumber 21 [.ref 16] [] g (fun r g => r = none ∧ xd h g ∧ ∃ T, rd_at 13 g T ∧ lxq S0 T ∧ T.1 2 = nI a ∧ T.1 3 = nI (tx_rn (tx_dg t) n (a + 1)) ∧ T.1 4 = nI 300000 ∧ T.1 5 = nI (tx_nv t a (tx_rn (tx_dg t) n (a + 1) - a))) := by
  intro m
  induction m with
  | zero => intro b g S h1 h2 h3; exact absurd h3 (by omega)
  | succ m ih =>
    intro b g S hb0 hb1 him hbe hrd htx hE hlx hn h2 h3 h4 h5
    refine wq (fun _ _ kk => rs_aload_n (pc := 21) dX5_takeNumber_21 rfl kk) ?_
    refine wq (fun _ _ kk => rs_getf (pc := 22) dX5_takeNumber_22 fX5_22 (mo_lt hrd (by decide)) hrd.2.1 rfl kk) ?_
    rw [h3]
    refine wq (fun _ _ kk => rs_aload_n (pc := 25) dX5_takeNumber_25 rfl kk) ?_
    refine wq (fun _ _ kk => rs_getf (pc := 26) dX5_takeNumber_26 fX5_15 (mo_lt hrd (by decide)) hrd.2.1 rfl kk) ?_
    rw [hn]
    refine wq_br (fun _ _ kt kf => rs_icmp_ge (tgt := 99) (pc := 29) dX5_takeNumber_29 rfl kt kf) (fun c_29 => ?_) (fun c_29 => ?_)
    · have g1 : n ≤ b := tx_le1 (by omega) (by omega) rfl c_29
      refine wq_ret ?_ (rs_vret (pc := 99) dX5_takeNumber_99 rfl)
      exact ⟨rfl, hE, _, hrd, hlx, h2, by rw [← hbe, tx_n (by omega)]; exact h3, h4, by rw [← hbe, tx_n (by omega)]; exact h5⟩
    · have g1 : b < n := tx_le2 (by omega) (by omega) rfl c_29
      refine wq (fun _ _ kk => rs_aload_n (pc := 32) dX5_takeNumber_32 rfl kk) ?_
      refine wq (fun _ _ kk => rs_aload_n (pc := 33) dX5_takeNumber_33 rfl kk) ?_
      refine wq (fun _ _ kk => rs_getf (pc := 34) dX5_takeNumber_34 fX5_22 (mo_lt hrd (by decide)) hrd.2.1 rfl kk) ?_
      rw [h3]
      refine wq (fun _ _ kk => rs_callV (as := [_]) (pc := 37) dX5_takeNumber_37 mk_X5_isDigit mlX5_91 in_X5_isDigit se_X5_isDigit rfl (mo_lt hrd (by decide)) hrd.2.1 rfl rfl (Nat.le_of_ble_eq_true rfl) (c_X5_isDigit hrd htx hn (p := b) (by omega)) kk) ?_
      refine wq_br (fun _ _ kt kf => rs_if_eq (tgt := 99) (pc := 40) dX5_takeNumber_40 rfl kt kf) (fun c_40 => ?_) (fun c_40 => ?_)
      · have g2 : ¬ (b < n ∧ tx_dg t b = true) := fun z => absurd c_40 (by rw [if_pos (tx_dg_ch.mpr z)]; decide)
        refine wq_ret ?_ (rs_vret (pc := 99) dX5_takeNumber_99 rfl)
        exact ⟨rfl, hE, _, hrd, hlx, h2, by rw [← hbe, tx_n (by omega)]; exact h3, h4, by rw [← hbe, tx_n (by omega)]; exact h5⟩
      · have g2 : tx_dg t b = true := (tx_dg_ch.mp (Classical.byContradiction fun z => c_40 (if_neg z))).2
        refine wq (fun _ _ kk => rs_aload_n (pc := 43) dX5_takeNumber_43 rfl kk) ?_
        refine wq (fun _ _ kk => rs_aload_n (pc := 44) dX5_takeNumber_44 rfl kk) ?_
        refine wq (fun _ _ kk => rs_getf (pc := 45) dX5_takeNumber_45 fX5_22 (mo_lt hrd (by decide)) hrd.2.1 rfl kk) ?_
        rw [h3]
        refine wq (fun _ _ kk => rs_aload_n (pc := 48) dX5_takeNumber_48 rfl kk) ?_
        refine wq (fun _ _ kk => rs_getf (pc := 49) dX5_takeNumber_49 fX5_19 (mo_lt hrd (by decide)) hrd.2.1 rfl kk) ?_
        refine wq (fun _ _ kk => rs_isub (pc := 52) dX5_takeNumber_52 kk) ?_
        rw [h2, nI_sub (show a ≤ b by omega)]
        refine wq (fun _ _ kk => rs_iconst (v := 5) (pc := 53) dX5_takeNumber_53 rfl kk) ?_
        refine wq_br (fun _ _ kt kf => rs_icmp_ge (tgt := 79) (pc := 54) dX5_takeNumber_54 rfl kt kf) (fun c_54 => ?_) (fun c_54 => ?_)
        · have g3 : ¬ b - a < 5 := Nat.not_lt.mpr (tx_le1 (b := 5) (by omega) (by decide) rfl c_54)
          have hv : tx_nv t a (b + 1 - a) = tx_nv t a (b - a) := by rw [show b + 1 - a = (b - a) + 1 by omega, tx_nv, if_neg g3]
          refine wq (fun _ _ kk => rs_aload_n (pc := 79) dX5_takeNumber_79 rfl kk) ?_
          refine wq (fun _ _ kk => rs_getf (pc := 80) dX5_takeNumber_80 fX5_29 (mo_lt hrd (by decide)) hrd.2.1 rfl kk) ?_
          rw [h5, ← hv]
          refine wq (fun _ _ kk => rs_putf (pc := 83) dX5_takeNumber_83 fX5_29 (mo_lt hrd (by decide)) hrd.2.1 rfl (Nat.le_of_ble_eq_true rfl) kk) ?_
          refine wq_gen (fun h_1 e_1 => ?_)
          obtain ⟨m_1, s_1, g_1, o_1⟩ := ai_e1 e_1
          replace hrd := mo_si (k := 5) hrd m_1 g_1 o_1 rfl
          replace htx := htx.keep (xd_of m_1 s_1 o_1 (by decide))
          have E_1 := (xd.rf).trans (xd_of m_1 s_1 o_1 (by decide))
          obtain ⟨S_83, hrd, k_83, r_83, s_83⟩ := rd_new hrd
          replace hlx := hlx.put (by decide) r_83 s_83
          replace hn := (r_83 1 (by decide)).trans hn
          replace h2 := (r_83 2 (by decide)).trans h2
          replace h3 := (r_83 3 (by decide)).trans h3
          replace h4 := (r_83 4 (by decide)).trans h4
          have h5 : S_83.1 5 = nI (tx_nv t a (b + 1 - a)) := k_83
          refine wq (fun _ _ kk => rs_aload_n (pc := 86) dX5_takeNumber_86 rfl kk) ?_
          refine wq (fun _ _ kk => rs_dup (pc := 87) dX5_takeNumber_87 rfl kk) ?_
          refine wq (fun _ _ kk => rs_getf (pc := 88) dX5_takeNumber_88 fX5_22 (mo_lt hrd (by decide)) hrd.2.1 rfl kk) ?_
          rw [h3]
          refine wq (fun _ _ kk => rs_iconst (v := 1) (pc := 91) dX5_takeNumber_91 rfl kk) ?_
          refine wq (fun _ _ kk => rs_iadd (pc := 92) dX5_takeNumber_92 kk) ?_
          refine wq (fun _ _ kk => rs_putf (pc := 93) dX5_takeNumber_93 fX5_22 (mo_lt hrd (by decide)) hrd.2.1 rfl (Nat.le_of_ble_eq_true rfl) kk) ?_
          refine wq_gen (fun h_2 e_2 => ?_)
          obtain ⟨m_2, s_2, g_2, o_2⟩ := ai_e1 e_2
          replace hrd := mo_si (k := 3) hrd m_2 g_2 o_2 rfl
          replace htx := htx.keep (xd_of m_2 s_2 o_2 (by decide))
          have E_2 := (E_1).trans (xd_of m_2 s_2 o_2 (by decide))
          obtain ⟨S_93, hrd, k_93, r_93, s_93⟩ := rd_new hrd
          replace hlx := hlx.put (by decide) r_93 s_93
          replace hn := (r_93 1 (by decide)).trans hn
          replace h2 := (r_93 2 (by decide)).trans h2
          have h3 : S_93.1 3 = nI (b + 1) := k_93.trans (nI_1 b)
          replace h4 := (r_93 4 (by decide)).trans h4
          replace h5 := (r_93 5 (by decide)).trans h5
          refine wq (fun _ _ kk => rs_goto (tgt := 21) (pc := 96) dX5_takeNumber_96 rfl kk) ?_
          exact ih (b + 1) _ _ (by omega) (by omega) (by omega) (by rw [← tx_y g1 g2]; exact hbe) hrd htx (hE.trans (E_2)) hlx hn h2 h3 h4 h5
        · have g3 : b - a < 5 := tx_le2 (b := 5) (by omega) (by decide) rfl c_54
          have hv : tx_nv t a (b + 1 - a) = 10 * tx_nv t a (b - a) + (t b - 48) := by rw [show b + 1 - a = (b - a) + 1 by omega, tx_nv, if_pos g3, show a + (b - a) = b by omega]
          refine wq (fun _ _ kk => rs_aload_n (pc := 57) dX5_takeNumber_57 rfl kk) ?_
          refine wq (fun _ _ kk => rs_getf (pc := 58) dX5_takeNumber_58 fX5_29 (mo_lt hrd (by decide)) hrd.2.1 rfl kk) ?_
          rw [h5]
          refine wq (fun _ _ kk => rs_bipush (v := 10) (pc := 61) dX5_takeNumber_61 rfl kk) ?_
          refine wq (fun _ _ kk => rs_imul (pc := 63) dX5_takeNumber_63 kk) ?_
          refine wq (fun _ _ kk => rs_aload_n (pc := 64) dX5_takeNumber_64 rfl kk) ?_
          refine wq (fun _ _ kk => rs_aload_n (pc := 65) dX5_takeNumber_65 rfl kk) ?_
          refine wq (fun _ _ kk => rs_getf (pc := 66) dX5_takeNumber_66 fX5_22 (mo_lt hrd (by decide)) hrd.2.1 rfl kk) ?_
          rw [h3]
          refine wq (fun _ _ kk => rs_callV (as := [_]) (pc := 69) dX5_takeNumber_69 mk_X5_byteAt mlX5_86 in_X5_byteAt se_X5_byteAt rfl (mo_lt hrd (by decide)) hrd.2.1 rfl rfl (Nat.le_of_ble_eq_true rfl) (c_X5_byteAt hrd htx hn (p := b) (by omega)) kk) ?_
          refine wq (fun _ _ kk => rs_iadd (pc := 72) dX5_takeNumber_72 kk) ?_
          refine wq (fun _ _ kk => rs_bipush (v := 48) (pc := 73) dX5_takeNumber_73 rfl kk) ?_
          refine wq (fun _ _ kk => rs_isub (pc := 75) dX5_takeNumber_75 kk) ?_
          have hch : tx_ch t n b = t b := if_pos g1
          have hdd := of_decide_eq_true g2
          rw [hch, show (10 : Int32) = nI 10 from rfl, nI_mul, nI_add, show (48 : Int32) = nI 48 from rfl, nI_sub (by omega), show tx_nv t a (b - a) * 10 + t b - 48 = tx_nv t a (b + 1 - a) by omega]
          refine wq (fun _ _ kk => rs_goto (tgt := 83) (pc := 76) dX5_takeNumber_76 rfl kk) ?_
          refine wq (fun _ _ kk => rs_putf (pc := 83) dX5_takeNumber_83 fX5_29 (mo_lt hrd (by decide)) hrd.2.1 rfl (Nat.le_of_ble_eq_true rfl) kk) ?_
          refine wq_gen (fun h_3 e_3 => ?_)
          obtain ⟨m_3, s_3, g_3, o_3⟩ := ai_e1 e_3
          replace hrd := mo_si (k := 5) hrd m_3 g_3 o_3 rfl
          replace htx := htx.keep (xd_of m_3 s_3 o_3 (by decide))
          have E_3 := (xd.rf).trans (xd_of m_3 s_3 o_3 (by decide))
          obtain ⟨S_83, hrd, k_83, r_83, s_83⟩ := rd_new hrd
          replace hlx := hlx.put (by decide) r_83 s_83
          replace hn := (r_83 1 (by decide)).trans hn
          replace h2 := (r_83 2 (by decide)).trans h2
          replace h3 := (r_83 3 (by decide)).trans h3
          replace h4 := (r_83 4 (by decide)).trans h4
          have h5 : S_83.1 5 = nI (tx_nv t a (b + 1 - a)) := k_83
          refine wq (fun _ _ kk => rs_aload_n (pc := 86) dX5_takeNumber_86 rfl kk) ?_
          refine wq (fun _ _ kk => rs_dup (pc := 87) dX5_takeNumber_87 rfl kk) ?_
          refine wq (fun _ _ kk => rs_getf (pc := 88) dX5_takeNumber_88 fX5_22 (mo_lt hrd (by decide)) hrd.2.1 rfl kk) ?_
          rw [h3]
          refine wq (fun _ _ kk => rs_iconst (v := 1) (pc := 91) dX5_takeNumber_91 rfl kk) ?_
          refine wq (fun _ _ kk => rs_iadd (pc := 92) dX5_takeNumber_92 kk) ?_
          refine wq (fun _ _ kk => rs_putf (pc := 93) dX5_takeNumber_93 fX5_22 (mo_lt hrd (by decide)) hrd.2.1 rfl (Nat.le_of_ble_eq_true rfl) kk) ?_
          refine wq_gen (fun h_4 e_4 => ?_)
          obtain ⟨m_4, s_4, g_4, o_4⟩ := ai_e1 e_4
          replace hrd := mo_si (k := 3) hrd m_4 g_4 o_4 rfl
          replace htx := htx.keep (xd_of m_4 s_4 o_4 (by decide))
          have E_4 := (E_3).trans (xd_of m_4 s_4 o_4 (by decide))
          obtain ⟨S_93, hrd, k_93, r_93, s_93⟩ := rd_new hrd
          replace hlx := hlx.put (by decide) r_93 s_93
          replace hn := (r_93 1 (by decide)).trans hn
          replace h2 := (r_93 2 (by decide)).trans h2
          have h3 : S_93.1 3 = nI (b + 1) := k_93.trans (nI_1 b)
          replace h4 := (r_93 4 (by decide)).trans h4
          replace h5 := (r_93 5 (by decide)).trans h5
          refine wq (fun _ _ kk => rs_goto (tgt := 21) (pc := 96) dX5_takeNumber_96 rfl kk) ?_
          exact ih (b + 1) _ _ (by omega) (by omega) (by omega) (by rw [← tx_y g1 g2]; exact hbe) hrd htx (hE.trans (E_4)) hlx hn h2 h3 h4 h5
set_option maxRecDepth 100000 in
set_option maxHeartbeats 4000000 in
theorem c_X5_takeNumber {h : ai_H} {S : Md} {t : Nat → Nat} {n : Nat} (hrd : rd_at 13 h S) (htx : rd_tx t n h) (hn : S.1 1 = nI n) {a : Nat} (h2 : S.1 2 = nI a) (h3 : S.1 3 = nI (a + 1)) (ha : a < n) (hd : tx_dg t a = true) : ai_QM MX5_takeNumber [.ref 16] h (fun r g => r = none ∧ xd h g ∧ ∃ T, rd_at 13 g T ∧ lxq S T ∧ T.1 2 = nI a ∧ T.1 3 = nI (tx_rn (tx_dg t) n (a + 1)) ∧ T.1 4 = nI 300000 ∧ T.1 5 = nI (tx_nv t a (tx_rn (tx_dg t) n (a + 1) - a))) := by
  have hlx : lxq S S := lxq.rf
  have hn4 := htx.1
  refine qm_of (ls := [.ref 16]) (by decide) (by simp [ai_en, Value.category]) (by rfl) ?_
  refine wq (fun _ _ kk => rs_aload_n (pc := 0) dX5_takeNumber_0 rfl kk) ?_
  refine wq (fun _ _ kk => rs_ldc (pc := 1) dX5_takeNumber_1 cnX5_107 kk) ?_
  refine wq (fun _ _ kk => rs_putf (pc := 3) dX5_takeNumber_3 fX5_26 (mo_lt hrd (by decide)) hrd.2.1 rfl (Nat.le_of_ble_eq_true rfl) kk) ?_
  refine wq_gen (fun h_1 e_1 => ?_)
  obtain ⟨m_1, s_1, g_1, o_1⟩ := ai_e1 e_1
  replace hrd := mo_si (k := 4) hrd m_1 g_1 o_1 rfl
  replace htx := htx.keep (xd_of m_1 s_1 o_1 (by decide))
  have E_1 := (xd.rf).trans (xd_of m_1 s_1 o_1 (by decide))
  obtain ⟨S_3, hrd, k_3, r_3, s_3⟩ := rd_new hrd
  replace hlx := hlx.put (by decide) r_3 s_3
  replace hn := (r_3 1 (by decide)).trans hn
  replace h2 := (r_3 2 (by decide)).trans h2
  replace h3 := (r_3 3 (by decide)).trans h3
  have h4 : S_3.1 4 = nI 300000 := k_3
  refine wq (fun _ _ kk => rs_aload_n (pc := 6) dX5_takeNumber_6 rfl kk) ?_
  refine wq (fun _ _ kk => rs_aload_n (pc := 7) dX5_takeNumber_7 rfl kk) ?_
  refine wq (fun _ _ kk => rs_aload_n (pc := 8) dX5_takeNumber_8 rfl kk) ?_
  refine wq (fun _ _ kk => rs_getf (pc := 9) dX5_takeNumber_9 fX5_19 (mo_lt hrd (by decide)) hrd.2.1 rfl kk) ?_
  rw [h2]
  refine wq (fun _ _ kk => rs_callV (as := [_]) (pc := 12) dX5_takeNumber_12 mk_X5_byteAt mlX5_86 in_X5_byteAt se_X5_byteAt rfl (mo_lt hrd (by decide)) hrd.2.1 rfl rfl (Nat.le_of_ble_eq_true rfl) (c_X5_byteAt hrd htx hn (p := a) (by omega)) kk) ?_
  refine wq (fun _ _ kk => rs_bipush (v := 48) (pc := 15) dX5_takeNumber_15 rfl kk) ?_
  refine wq (fun _ _ kk => rs_isub (pc := 17) dX5_takeNumber_17 kk) ?_
  have hch : tx_ch t n a = t a := if_pos ha
  have hdd := of_decide_eq_true hd
  rw [hch, show (48 : Int32) = nI 48 from rfl, nI_sub (by omega)]
  refine wq (fun _ _ kk => rs_putf (pc := 18) dX5_takeNumber_18 fX5_29 (mo_lt hrd (by decide)) hrd.2.1 rfl (Nat.le_of_ble_eq_true rfl) kk) ?_
  refine wq_gen (fun h_2 e_2 => ?_)
  obtain ⟨m_2, s_2, g_2, o_2⟩ := ai_e1 e_2
  replace hrd := mo_si (k := 5) hrd m_2 g_2 o_2 rfl
  replace htx := htx.keep (xd_of m_2 s_2 o_2 (by decide))
  have E_2 := (E_1).trans (xd_of m_2 s_2 o_2 (by decide))
  obtain ⟨S_18, hrd, k_18, r_18, s_18⟩ := rd_new hrd
  replace hlx := hlx.put (by decide) r_18 s_18
  replace hn := (r_18 1 (by decide)).trans hn
  replace h2 := (r_18 2 (by decide)).trans h2
  replace h3 := (r_18 3 (by decide)).trans h3
  replace h4 := (r_18 4 (by decide)).trans h4
  have h5 : S_18.1 5 = nI (tx_nv t a (a + 1 - a)) := k_18.trans (by rw [show a + 1 - a = 0 + 1 by omega, tx_nv, if_pos (by decide), tx_nv, Nat.add_zero, Nat.mul_zero, Nat.zero_add])
  exact l_X5_takeNumber htx.1 (n + 1) (a + 1) _ _ (by omega) (by omega) (by omega) rfl hrd htx (E_2) hlx hn h2 h3 h4 h5
theorem tx_kw_le (j : Nat) : tx_kw j ≤ 19 := by
  unfold tx_kw
  repeat' split
  all_goals decide
theorem tx_kw_19 {j : Nat} (h : tx_kw j = 19) : 5 ≤ j := by
  unfold tx_kw at h
  revert h
  repeat' split
  all_goals intro h
  all_goals first | omega | cases h
theorem tx_kw_hi {j : Nat} (h : 5 ≤ j) : tx_kw j = 19 := by
  unfold tx_kw
  rw [if_neg (by omega), if_neg (by omega), if_neg (by omega), if_neg (by omega), if_neg (by omega)]
theorem tx_wk_hi {j : Nat} (h : 5 ≤ j) : tx_wk j = if j < 15 then 1 else 19 := by
  unfold tx_wk
  rw [if_neg (by omega), if_neg (by omega), if_neg (by omega), if_neg (by omega), if_neg (by omega)]
theorem tx_kw_wk {j : Nat} (h : tx_kw j ≠ 19) : tx_kw j = tx_wk j := by
  have : j = 0 ∨ j = 1 ∨ j = 2 ∨ j = 3 ∨ j = 4 := by
    have : ¬ 5 ≤ j := fun w => h (tx_kw_hi w)
    omega
  rcases this with rfl | rfl | rfl | rfl | rfl <;> rfl
theorem dX5_takeWord_0 : decode cX5_takeWord 0 = .ok (.aload_n 0, 1) := by decide +kernel
theorem dX5_takeWord_1 : decode cX5_takeWord 1 = .ok (.getfield 22, 3) := by decide +kernel
theorem dX5_takeWord_4 : decode cX5_takeWord 4 = .ok (.aload_n 0, 1) := by decide +kernel
theorem dX5_takeWord_5 : decode cX5_takeWord 5 = .ok (.getfield 15, 3) := by decide +kernel
theorem dX5_takeWord_8 : decode cX5_takeWord 8 = .ok (.if_icmp .ge 27, 3) := by decide +kernel
theorem dX5_takeWord_11 : decode cX5_takeWord 11 = .ok (.aload_n 0, 1) := by decide +kernel
theorem dX5_takeWord_12 : decode cX5_takeWord 12 = .ok (.aload_n 0, 1) := by decide +kernel
theorem dX5_takeWord_13 : decode cX5_takeWord 13 = .ok (.getfield 22, 3) := by decide +kernel
theorem dX5_takeWord_16 : decode cX5_takeWord 16 = .ok (.invokevirtual 98, 3) := by decide +kernel
theorem dX5_takeWord_19 : decode cX5_takeWord 19 = .ok (.ifCond .eq 16, 3) := by decide +kernel
theorem dX5_takeWord_22 : decode cX5_takeWord 22 = .ok (.aload_n 0, 1) := by decide +kernel
theorem dX5_takeWord_23 : decode cX5_takeWord 23 = .ok (.dup, 1) := by decide +kernel
theorem dX5_takeWord_24 : decode cX5_takeWord 24 = .ok (.getfield 22, 3) := by decide +kernel
theorem dX5_takeWord_27 : decode cX5_takeWord 27 = .ok (.iconst 1, 1) := by decide +kernel
theorem dX5_takeWord_28 : decode cX5_takeWord 28 = .ok (.iadd, 1) := by decide +kernel
theorem dX5_takeWord_29 : decode cX5_takeWord 29 = .ok (.putfield 22, 3) := by decide +kernel
theorem dX5_takeWord_32 : decode cX5_takeWord 32 = .ok (.goto (-32), 3) := by decide +kernel
theorem dX5_takeWord_35 : decode cX5_takeWord 35 = .ok (.aload_n 0, 1) := by decide +kernel
theorem dX5_takeWord_36 : decode cX5_takeWord 36 = .ok (.aload_n 0, 1) := by decide +kernel
theorem dX5_takeWord_37 : decode cX5_takeWord 37 = .ok (.invokevirtual 108, 3) := by decide +kernel
theorem dX5_takeWord_40 : decode cX5_takeWord 40 = .ok (.putfield 26, 3) := by decide +kernel
theorem dX5_takeWord_43 : decode cX5_takeWord 43 = .ok (.aload_n 0, 1) := by decide +kernel
theorem dX5_takeWord_44 : decode cX5_takeWord 44 = .ok (.getfield 26, 3) := by decide +kernel
theorem dX5_takeWord_47 : decode cX5_takeWord 47 = .ok (.ldc 25, 2) := by decide +kernel
theorem dX5_takeWord_49 : decode cX5_takeWord 49 = .ok (.if_icmp .ne 30, 3) := by decide +kernel
theorem dX5_takeWord_52 : decode cX5_takeWord 52 = .ok (.aload_n 0, 1) := by decide +kernel
theorem dX5_takeWord_53 : decode cX5_takeWord 53 = .ok (.aload_n 0, 1) := by decide +kernel
theorem dX5_takeWord_54 : decode cX5_takeWord 54 = .ok (.invokevirtual 112, 3) := by decide +kernel
theorem dX5_takeWord_57 : decode cX5_takeWord 57 = .ok (.putfield 29, 3) := by decide +kernel
theorem dX5_takeWord_60 : decode cX5_takeWord 60 = .ok (.aload_n 0, 1) := by decide +kernel
theorem dX5_takeWord_61 : decode cX5_takeWord 61 = .ok (.aload_n 0, 1) := by decide +kernel
theorem dX5_takeWord_62 : decode cX5_takeWord 62 = .ok (.getfield 29, 3) := by decide +kernel
theorem dX5_takeWord_65 : decode cX5_takeWord 65 = .ok (.iconst (-1), 1) := by decide +kernel
theorem dX5_takeWord_66 : decode cX5_takeWord 66 = .ok (.if_icmp .ne 8, 3) := by decide +kernel
theorem dX5_takeWord_69 : decode cX5_takeWord 69 = .ok (.ldc 25, 2) := by decide +kernel
theorem dX5_takeWord_71 : decode cX5_takeWord 71 = .ok (.goto 5, 3) := by decide +kernel
theorem dX5_takeWord_74 : decode cX5_takeWord 74 = .ok (.ldc 115, 2) := by decide +kernel
theorem dX5_takeWord_76 : decode cX5_takeWord 76 = .ok (.putfield 26, 3) := by decide +kernel
theorem dX5_takeWord_79 : decode cX5_takeWord 79 = .ok (.return_, 1) := by decide +kernel
set_option maxRecDepth 100000 in
set_option maxHeartbeats 4000000 in
theorem l_X5_takeWord {h : ai_H} {S0 : Md} {t : Nat → Nat} {n a : Nat} (hn4 : n ≤ 400) : ∀ (m b : Nat) (g : ai_H) (S : Md), a + 1 ≤ b → b ≤ n → n + 1 ≤ b + m → tx_rn (tx_lt t) n b = tx_rn (tx_lt t) n (a + 1) → rd_at 13 g S → rd_tx t n g → xd h g → lxq S0 S → S.1 1 = nI n → S.1 2 = nI a → S.1 3 = nI b → ai_W MX5_takeWord 0 [.ref 16] [] g (fun r g => r = none ∧ xd h g ∧ ∃ T, rd_at 13 g T ∧ lxq S0 T ∧ T.1 2 = nI a ∧ T.1 3 = nI (tx_rn (tx_lt t) n (a + 1)) ∧ T.1 4 = nI (tx_kc (tx_wk (tx_ix t a (tx_rn (tx_lt t) n (a + 1))))) ∧ (tx_wk (tx_ix t a (tx_rn (tx_lt t) n (a + 1))) = 1 → T.1 5 = nI (tx_ix t a (tx_rn (tx_lt t) n (a + 1)) - 5))) := by
  intro m
  induction m with
  | zero => intro b g S h1 h2 h3; exact absurd h3 (by omega)
  | succ m ih =>
    intro b g S hb0 hb1 him hbe hrd htx hE hlx hn h2 h3
    have hix := tx_ix_le t a b
    refine wq (fun _ _ kk => rs_aload_n (pc := 0) dX5_takeWord_0 rfl kk) ?_
    refine wq (fun _ _ kk => rs_getf (pc := 1) dX5_takeWord_1 fX5_22 (mo_lt hrd (by decide)) hrd.2.1 rfl kk) ?_
    rw [h3]
    refine wq (fun _ _ kk => rs_aload_n (pc := 4) dX5_takeWord_4 rfl kk) ?_
    refine wq (fun _ _ kk => rs_getf (pc := 5) dX5_takeWord_5 fX5_15 (mo_lt hrd (by decide)) hrd.2.1 rfl kk) ?_
    rw [hn]
    refine wq_br (fun _ _ kt kf => rs_icmp_ge (tgt := 35) (pc := 8) dX5_takeWord_8 rfl kt kf) (fun c_8 => ?_) (fun c_8 => ?_)
    · have g1 : ¬ (b < n ∧ tx_lt t b = true) := fun z => absurd (tx_le1 (by omega) (by omega) rfl c_8) (by omega)
      have hb2 : b = tx_rn (tx_lt t) n (a + 1) := by rw [← hbe, tx_n g1]
      refine wq (fun _ _ kk => rs_aload_n (pc := 35) dX5_takeWord_35 rfl kk) ?_
      refine wq (fun _ _ kk => rs_aload_n (pc := 36) dX5_takeWord_36 rfl kk) ?_
      refine wq (fun _ _ kk => rs_callV (as := []) (pc := 37) dX5_takeWord_37 mk_X5_keywordKind mlX5_108 in_X5_keywordKind se_X5_keywordKind rfl (mo_lt hrd (by decide)) hrd.2.1 rfl rfl (Nat.le_of_ble_eq_true rfl) (c_X5_keywordKind hrd htx hn h2 h3 (by omega) (by omega)) kk) ?_
      refine wq (fun _ _ kk => rs_putf (pc := 40) dX5_takeWord_40 fX5_26 (mo_lt hrd (by decide)) hrd.2.1 rfl (Nat.le_of_ble_eq_true rfl) kk) ?_
      refine wq_gen (fun h_1 e_1 => ?_)
      obtain ⟨m_1, s_1, g_1, o_1⟩ := ai_e1 e_1
      replace hrd := mo_si (k := 4) hrd m_1 g_1 o_1 rfl
      replace htx := htx.keep (xd_of m_1 s_1 o_1 (by decide))
      have E_1 := (xd.rf).trans (xd_of m_1 s_1 o_1 (by decide))
      obtain ⟨S_40, hrd, k_40, r_40, s_40⟩ := rd_new hrd
      replace hlx := hlx.put (by decide) r_40 s_40
      replace hn := (r_40 1 (by decide)).trans hn
      replace h2 := (r_40 2 (by decide)).trans h2
      replace h3 := (r_40 3 (by decide)).trans h3
      have h4 : S_40.1 4 = nI (tx_kc (tx_kw (tx_ix t a b))) := k_40
      refine wq (fun _ _ kk => rs_aload_n (pc := 43) dX5_takeWord_43 rfl kk) ?_
      refine wq (fun _ _ kk => rs_getf (pc := 44) dX5_takeWord_44 fX5_26 (mo_lt hrd (by decide)) hrd.2.1 rfl kk) ?_
      rw [h4]
      refine wq (fun _ _ kk => rs_ldc (pc := 47) dX5_takeWord_47 cnX5_25 kk) ?_
      refine wq_bn (fun _ _ kt kf => rs_icmp_ne (tgt := 79) (pc := 49) dX5_takeWord_49 rfl kt kf) (fun c_49 => ?_) (fun c_49 => ?_)
      · have g5 : tx_kw (tx_ix t a b) ≠ 19 := fun z => c_49 (by rw [z]; rfl)
        rw [show tx_kw (tx_ix t a b) = tx_wk (tx_ix t a b) from tx_kw_wk g5] at h4
        have hfin : tx_wk (tx_ix t a b) = 1 → S_40.1 5 = nI (tx_ix t a b - 5) := fun z => absurd (tx_wk_1 z).1 (fun w => g5 (tx_kw_hi w))
        refine wq_ret ?_ (rs_vret (pc := 79) dX5_takeWord_79 rfl)
        rw [← hb2]
        exact ⟨rfl, hE.trans (E_1), _, hrd, hlx, h2, h3, h4, hfin⟩
      · have g5 : tx_kw (tx_ix t a b) = 19 := (tx_kc_b _ (Nat.lt_succ_of_le (tx_kw_le _))).2 19 (by decide) (nI_inj (by have := (tx_kc_b _ (Nat.lt_succ_of_le (tx_kw_le (tx_ix t a b)))).1; omega) (by decide) c_49)
        have g6 := tx_kw_19 g5
        refine wq (fun _ _ kk => rs_aload_n (pc := 52) dX5_takeWord_52 rfl kk) ?_
        refine wq (fun _ _ kk => rs_aload_n (pc := 53) dX5_takeWord_53 rfl kk) ?_
        refine wq (fun _ _ kk => rs_callV (as := []) (pc := 54) dX5_takeWord_54 mk_X5_wordOf mlX5_112 in_X5_wordOf se_X5_wordOf rfl (mo_lt hrd (by decide)) hrd.2.1 rfl rfl (Nat.le_of_ble_eq_true rfl) (c_X5_wordOf hrd htx hn h2 h3 (by omega) (by omega)) kk) ?_
        refine wq (fun _ _ kk => rs_putf (pc := 57) dX5_takeWord_57 fX5_29 (mo_lt hrd (by decide)) hrd.2.1 rfl (Nat.le_of_ble_eq_true rfl) kk) ?_
        refine wq_gen (fun h_2 e_2 => ?_)
        obtain ⟨m_2, s_2, g_2, o_2⟩ := ai_e1 e_2
        replace hrd := mo_si (k := 5) hrd m_2 g_2 o_2 rfl
        replace htx := htx.keep (xd_of m_2 s_2 o_2 (by decide))
        have E_2 := (E_1).trans (xd_of m_2 s_2 o_2 (by decide))
        obtain ⟨S_57, hrd, k_57, r_57, s_57⟩ := rd_new hrd
        replace hlx := hlx.put (by decide) r_57 s_57
        replace hn := (r_57 1 (by decide)).trans hn
        replace h2 := (r_57 2 (by decide)).trans h2
        replace h3 := (r_57 3 (by decide)).trans h3
        replace h4 := (r_57 4 (by decide)).trans h4
        have h5 : S_57.1 5 = (if 5 ≤ tx_ix t a b ∧ tx_ix t a b < 15 then nI (tx_ix t a b - 5) else -1) := k_57
        refine wq (fun _ _ kk => rs_aload_n (pc := 60) dX5_takeWord_60 rfl kk) ?_
        refine wq (fun _ _ kk => rs_aload_n (pc := 61) dX5_takeWord_61 rfl kk) ?_
        refine wq (fun _ _ kk => rs_getf (pc := 62) dX5_takeWord_62 fX5_29 (mo_lt hrd (by decide)) hrd.2.1 rfl kk) ?_
        rw [h5]
        refine wq (fun _ _ kk => rs_iconst (v := -1) (pc := 65) dX5_takeWord_65 rfl kk) ?_
        refine wq_bn (fun _ _ kt kf => rs_icmp_ne (tgt := 74) (pc := 66) dX5_takeWord_66 rfl kt kf) (fun c_66 => ?_) (fun c_66 => ?_)
        · have g7 : tx_ix t a b < 15 := Classical.byContradiction fun z => c_66 (if_neg (fun w => z w.2))
          refine wq (fun _ _ kk => rs_ldc (pc := 74) dX5_takeWord_74 cnX5_115 kk) ?_
          refine wq (fun _ _ kk => rs_putf (pc := 76) dX5_takeWord_76 fX5_26 (mo_lt hrd (by decide)) hrd.2.1 rfl (Nat.le_of_ble_eq_true rfl) kk) ?_
          refine wq_gen (fun h_3 e_3 => ?_)
          obtain ⟨m_3, s_3, g_3, o_3⟩ := ai_e1 e_3
          replace hrd := mo_si (k := 4) hrd m_3 g_3 o_3 rfl
          replace htx := htx.keep (xd_of m_3 s_3 o_3 (by decide))
          have E_3 := (E_2).trans (xd_of m_3 s_3 o_3 (by decide))
          obtain ⟨S_76, hrd, k_76, r_76, s_76⟩ := rd_new hrd
          replace hlx := hlx.put (by decide) r_76 s_76
          replace hn := (r_76 1 (by decide)).trans hn
          replace h2 := (r_76 2 (by decide)).trans h2
          replace h3 := (r_76 3 (by decide)).trans h3
          have h4 : S_76.1 4 = nI (tx_kc (tx_wk (tx_ix t a b))) := k_76.trans (by rw [tx_wk_hi g6, if_pos g7]; rfl)
          replace h5 := (r_76 5 (by decide)).trans h5
          have hfin : tx_wk (tx_ix t a b) = 1 → S_76.1 5 = nI (tx_ix t a b - 5) := fun z => by rw [h5, if_pos ⟨g6, (tx_wk_1 z).2⟩]
          refine wq_ret ?_ (rs_vret (pc := 79) dX5_takeWord_79 rfl)
          rw [← hb2]
          exact ⟨rfl, hE.trans (E_3), _, hrd, hlx, h2, h3, h4, hfin⟩
        · have g7 : ¬ tx_ix t a b < 15 := fun z => absurd c_66 (by rw [if_pos ⟨g6, z⟩]; exact nI_m1 (by omega))
          refine wq (fun _ _ kk => rs_ldc (pc := 69) dX5_takeWord_69 cnX5_25 kk) ?_
          refine wq (fun _ _ kk => rs_goto (tgt := 76) (pc := 71) dX5_takeWord_71 rfl kk) ?_
          refine wq (fun _ _ kk => rs_putf (pc := 76) dX5_takeWord_76 fX5_26 (mo_lt hrd (by decide)) hrd.2.1 rfl (Nat.le_of_ble_eq_true rfl) kk) ?_
          refine wq_gen (fun h_4 e_4 => ?_)
          obtain ⟨m_4, s_4, g_4, o_4⟩ := ai_e1 e_4
          replace hrd := mo_si (k := 4) hrd m_4 g_4 o_4 rfl
          replace htx := htx.keep (xd_of m_4 s_4 o_4 (by decide))
          have E_4 := (E_2).trans (xd_of m_4 s_4 o_4 (by decide))
          obtain ⟨S_76, hrd, k_76, r_76, s_76⟩ := rd_new hrd
          replace hlx := hlx.put (by decide) r_76 s_76
          replace hn := (r_76 1 (by decide)).trans hn
          replace h2 := (r_76 2 (by decide)).trans h2
          replace h3 := (r_76 3 (by decide)).trans h3
          have h4 : S_76.1 4 = nI (tx_kc (tx_wk (tx_ix t a b))) := k_76.trans (by rw [tx_wk_hi g6, if_neg g7]; rfl)
          replace h5 := (r_76 5 (by decide)).trans h5
          have hfin : tx_wk (tx_ix t a b) = 1 → S_76.1 5 = nI (tx_ix t a b - 5) := fun z => by rw [h5, if_pos ⟨g6, (tx_wk_1 z).2⟩]
          refine wq_ret ?_ (rs_vret (pc := 79) dX5_takeWord_79 rfl)
          rw [← hb2]
          exact ⟨rfl, hE.trans (E_4), _, hrd, hlx, h2, h3, h4, hfin⟩
    · have g1 : b < n := tx_le2 (by omega) (by omega) rfl c_8
      refine wq (fun _ _ kk => rs_aload_n (pc := 11) dX5_takeWord_11 rfl kk) ?_
      refine wq (fun _ _ kk => rs_aload_n (pc := 12) dX5_takeWord_12 rfl kk) ?_
      refine wq (fun _ _ kk => rs_getf (pc := 13) dX5_takeWord_13 fX5_22 (mo_lt hrd (by decide)) hrd.2.1 rfl kk) ?_
      rw [h3]
      refine wq (fun _ _ kk => rs_callV (as := [_]) (pc := 16) dX5_takeWord_16 mk_X5_isLetter mlX5_98 in_X5_isLetter se_X5_isLetter rfl (mo_lt hrd (by decide)) hrd.2.1 rfl rfl (Nat.le_of_ble_eq_true rfl) (c_X5_isLetter hrd htx hn (p := b) (by omega)) kk) ?_
      refine wq_br (fun _ _ kt kf => rs_if_eq (tgt := 35) (pc := 19) dX5_takeWord_19 rfl kt kf) (fun c_19 => ?_) (fun c_19 => ?_)
      · replace g1 : ¬ (b < n ∧ tx_lt t b = true) := fun z => absurd c_19 (by rw [if_pos (tx_lt_ch.mpr z)]; decide)
        have hb2 : b = tx_rn (tx_lt t) n (a + 1) := by rw [← hbe, tx_n g1]
        refine wq (fun _ _ kk => rs_aload_n (pc := 35) dX5_takeWord_35 rfl kk) ?_
        refine wq (fun _ _ kk => rs_aload_n (pc := 36) dX5_takeWord_36 rfl kk) ?_
        refine wq (fun _ _ kk => rs_callV (as := []) (pc := 37) dX5_takeWord_37 mk_X5_keywordKind mlX5_108 in_X5_keywordKind se_X5_keywordKind rfl (mo_lt hrd (by decide)) hrd.2.1 rfl rfl (Nat.le_of_ble_eq_true rfl) (c_X5_keywordKind hrd htx hn h2 h3 (by omega) (by omega)) kk) ?_
        refine wq (fun _ _ kk => rs_putf (pc := 40) dX5_takeWord_40 fX5_26 (mo_lt hrd (by decide)) hrd.2.1 rfl (Nat.le_of_ble_eq_true rfl) kk) ?_
        refine wq_gen (fun h_5 e_5 => ?_)
        obtain ⟨m_5, s_5, g_5, o_5⟩ := ai_e1 e_5
        replace hrd := mo_si (k := 4) hrd m_5 g_5 o_5 rfl
        replace htx := htx.keep (xd_of m_5 s_5 o_5 (by decide))
        have E_5 := (xd.rf).trans (xd_of m_5 s_5 o_5 (by decide))
        obtain ⟨S_40, hrd, k_40, r_40, s_40⟩ := rd_new hrd
        replace hlx := hlx.put (by decide) r_40 s_40
        replace hn := (r_40 1 (by decide)).trans hn
        replace h2 := (r_40 2 (by decide)).trans h2
        replace h3 := (r_40 3 (by decide)).trans h3
        have h4 : S_40.1 4 = nI (tx_kc (tx_kw (tx_ix t a b))) := k_40
        refine wq (fun _ _ kk => rs_aload_n (pc := 43) dX5_takeWord_43 rfl kk) ?_
        refine wq (fun _ _ kk => rs_getf (pc := 44) dX5_takeWord_44 fX5_26 (mo_lt hrd (by decide)) hrd.2.1 rfl kk) ?_
        rw [h4]
        refine wq (fun _ _ kk => rs_ldc (pc := 47) dX5_takeWord_47 cnX5_25 kk) ?_
        refine wq_bn (fun _ _ kt kf => rs_icmp_ne (tgt := 79) (pc := 49) dX5_takeWord_49 rfl kt kf) (fun c_49 => ?_) (fun c_49 => ?_)
        · have g5 : tx_kw (tx_ix t a b) ≠ 19 := fun z => c_49 (by rw [z]; rfl)
          rw [show tx_kw (tx_ix t a b) = tx_wk (tx_ix t a b) from tx_kw_wk g5] at h4
          have hfin : tx_wk (tx_ix t a b) = 1 → S_40.1 5 = nI (tx_ix t a b - 5) := fun z => absurd (tx_wk_1 z).1 (fun w => g5 (tx_kw_hi w))
          refine wq_ret ?_ (rs_vret (pc := 79) dX5_takeWord_79 rfl)
          rw [← hb2]
          exact ⟨rfl, hE.trans (E_5), _, hrd, hlx, h2, h3, h4, hfin⟩
        · have g5 : tx_kw (tx_ix t a b) = 19 := (tx_kc_b _ (Nat.lt_succ_of_le (tx_kw_le _))).2 19 (by decide) (nI_inj (by have := (tx_kc_b _ (Nat.lt_succ_of_le (tx_kw_le (tx_ix t a b)))).1; omega) (by decide) c_49)
          have g6 := tx_kw_19 g5
          refine wq (fun _ _ kk => rs_aload_n (pc := 52) dX5_takeWord_52 rfl kk) ?_
          refine wq (fun _ _ kk => rs_aload_n (pc := 53) dX5_takeWord_53 rfl kk) ?_
          refine wq (fun _ _ kk => rs_callV (as := []) (pc := 54) dX5_takeWord_54 mk_X5_wordOf mlX5_112 in_X5_wordOf se_X5_wordOf rfl (mo_lt hrd (by decide)) hrd.2.1 rfl rfl (Nat.le_of_ble_eq_true rfl) (c_X5_wordOf hrd htx hn h2 h3 (by omega) (by omega)) kk) ?_
          refine wq (fun _ _ kk => rs_putf (pc := 57) dX5_takeWord_57 fX5_29 (mo_lt hrd (by decide)) hrd.2.1 rfl (Nat.le_of_ble_eq_true rfl) kk) ?_
          refine wq_gen (fun h_6 e_6 => ?_)
          obtain ⟨m_6, s_6, g_6, o_6⟩ := ai_e1 e_6
          replace hrd := mo_si (k := 5) hrd m_6 g_6 o_6 rfl
          replace htx := htx.keep (xd_of m_6 s_6 o_6 (by decide))
          have E_6 := (E_5).trans (xd_of m_6 s_6 o_6 (by decide))
          obtain ⟨S_57, hrd, k_57, r_57, s_57⟩ := rd_new hrd
          replace hlx := hlx.put (by decide) r_57 s_57
          replace hn := (r_57 1 (by decide)).trans hn
          replace h2 := (r_57 2 (by decide)).trans h2
          replace h3 := (r_57 3 (by decide)).trans h3
          replace h4 := (r_57 4 (by decide)).trans h4
          have h5 : S_57.1 5 = (if 5 ≤ tx_ix t a b ∧ tx_ix t a b < 15 then nI (tx_ix t a b - 5) else -1) := k_57
          refine wq (fun _ _ kk => rs_aload_n (pc := 60) dX5_takeWord_60 rfl kk) ?_
          refine wq (fun _ _ kk => rs_aload_n (pc := 61) dX5_takeWord_61 rfl kk) ?_
          refine wq (fun _ _ kk => rs_getf (pc := 62) dX5_takeWord_62 fX5_29 (mo_lt hrd (by decide)) hrd.2.1 rfl kk) ?_
          rw [h5]
          refine wq (fun _ _ kk => rs_iconst (v := -1) (pc := 65) dX5_takeWord_65 rfl kk) ?_
          refine wq_bn (fun _ _ kt kf => rs_icmp_ne (tgt := 74) (pc := 66) dX5_takeWord_66 rfl kt kf) (fun c_66 => ?_) (fun c_66 => ?_)
          · have g7 : tx_ix t a b < 15 := Classical.byContradiction fun z => c_66 (if_neg (fun w => z w.2))
            refine wq (fun _ _ kk => rs_ldc (pc := 74) dX5_takeWord_74 cnX5_115 kk) ?_
            refine wq (fun _ _ kk => rs_putf (pc := 76) dX5_takeWord_76 fX5_26 (mo_lt hrd (by decide)) hrd.2.1 rfl (Nat.le_of_ble_eq_true rfl) kk) ?_
            refine wq_gen (fun h_7 e_7 => ?_)
            obtain ⟨m_7, s_7, g_7, o_7⟩ := ai_e1 e_7
            replace hrd := mo_si (k := 4) hrd m_7 g_7 o_7 rfl
            replace htx := htx.keep (xd_of m_7 s_7 o_7 (by decide))
            have E_7 := (E_6).trans (xd_of m_7 s_7 o_7 (by decide))
            obtain ⟨S_76, hrd, k_76, r_76, s_76⟩ := rd_new hrd
            replace hlx := hlx.put (by decide) r_76 s_76
            replace hn := (r_76 1 (by decide)).trans hn
            replace h2 := (r_76 2 (by decide)).trans h2
            replace h3 := (r_76 3 (by decide)).trans h3
            have h4 : S_76.1 4 = nI (tx_kc (tx_wk (tx_ix t a b))) := k_76.trans (by rw [tx_wk_hi g6, if_pos g7]; rfl)
            replace h5 := (r_76 5 (by decide)).trans h5
            have hfin : tx_wk (tx_ix t a b) = 1 → S_76.1 5 = nI (tx_ix t a b - 5) := fun z => by rw [h5, if_pos ⟨g6, (tx_wk_1 z).2⟩]
            refine wq_ret ?_ (rs_vret (pc := 79) dX5_takeWord_79 rfl)
            rw [← hb2]
            exact ⟨rfl, hE.trans (E_7), _, hrd, hlx, h2, h3, h4, hfin⟩
          · have g7 : ¬ tx_ix t a b < 15 := fun z => absurd c_66 (by rw [if_pos ⟨g6, z⟩]; exact nI_m1 (by omega))
            refine wq (fun _ _ kk => rs_ldc (pc := 69) dX5_takeWord_69 cnX5_25 kk) ?_
            refine wq (fun _ _ kk => rs_goto (tgt := 76) (pc := 71) dX5_takeWord_71 rfl kk) ?_
            refine wq (fun _ _ kk => rs_putf (pc := 76) dX5_takeWord_76 fX5_26 (mo_lt hrd (by decide)) hrd.2.1 rfl (Nat.le_of_ble_eq_true rfl) kk) ?_
            refine wq_gen (fun h_8 e_8 => ?_)
            obtain ⟨m_8, s_8, g_8, o_8⟩ := ai_e1 e_8
            replace hrd := mo_si (k := 4) hrd m_8 g_8 o_8 rfl
            replace htx := htx.keep (xd_of m_8 s_8 o_8 (by decide))
            have E_8 := (E_6).trans (xd_of m_8 s_8 o_8 (by decide))
            obtain ⟨S_76, hrd, k_76, r_76, s_76⟩ := rd_new hrd
            replace hlx := hlx.put (by decide) r_76 s_76
            replace hn := (r_76 1 (by decide)).trans hn
            replace h2 := (r_76 2 (by decide)).trans h2
            replace h3 := (r_76 3 (by decide)).trans h3
            have h4 : S_76.1 4 = nI (tx_kc (tx_wk (tx_ix t a b))) := k_76.trans (by rw [tx_wk_hi g6, if_neg g7]; rfl)
            replace h5 := (r_76 5 (by decide)).trans h5
            have hfin : tx_wk (tx_ix t a b) = 1 → S_76.1 5 = nI (tx_ix t a b - 5) := fun z => by rw [h5, if_pos ⟨g6, (tx_wk_1 z).2⟩]
            refine wq_ret ?_ (rs_vret (pc := 79) dX5_takeWord_79 rfl)
            rw [← hb2]
            exact ⟨rfl, hE.trans (E_8), _, hrd, hlx, h2, h3, h4, hfin⟩
      · have g2 : tx_lt t b = true := (tx_lt_ch.mp (Classical.byContradiction fun z => c_19 (if_neg z))).2
        refine wq (fun _ _ kk => rs_aload_n (pc := 22) dX5_takeWord_22 rfl kk) ?_
        refine wq (fun _ _ kk => rs_dup (pc := 23) dX5_takeWord_23 rfl kk) ?_
        refine wq (fun _ _ kk => rs_getf (pc := 24) dX5_takeWord_24 fX5_22 (mo_lt hrd (by decide)) hrd.2.1 rfl kk) ?_
        rw [h3]
        refine wq (fun _ _ kk => rs_iconst (v := 1) (pc := 27) dX5_takeWord_27 rfl kk) ?_
        refine wq (fun _ _ kk => rs_iadd (pc := 28) dX5_takeWord_28 kk) ?_
        refine wq (fun _ _ kk => rs_putf (pc := 29) dX5_takeWord_29 fX5_22 (mo_lt hrd (by decide)) hrd.2.1 rfl (Nat.le_of_ble_eq_true rfl) kk) ?_
        refine wq_gen (fun h_9 e_9 => ?_)
        obtain ⟨m_9, s_9, g_9, o_9⟩ := ai_e1 e_9
        replace hrd := mo_si (k := 3) hrd m_9 g_9 o_9 rfl
        replace htx := htx.keep (xd_of m_9 s_9 o_9 (by decide))
        have E_9 := (xd.rf).trans (xd_of m_9 s_9 o_9 (by decide))
        obtain ⟨S_29, hrd, k_29, r_29, s_29⟩ := rd_new hrd
        replace hlx := hlx.put (by decide) r_29 s_29
        replace hn := (r_29 1 (by decide)).trans hn
        replace h2 := (r_29 2 (by decide)).trans h2
        have h3 : S_29.1 3 = nI (b + 1) := k_29.trans (nI_1 b)
        refine wq (fun _ _ kk => rs_goto (tgt := 0) (pc := 32) dX5_takeWord_32 rfl kk) ?_
        exact ih (b + 1) _ _ (by omega) (by omega) (by omega) (by rw [← tx_y g1 g2]; exact hbe) hrd htx (hE.trans (E_9)) hlx hn h2 h3
theorem c_X5_takeWord {h : ai_H} {S : Md} {t : Nat → Nat} {n : Nat} (hrd : rd_at 13 h S) (htx : rd_tx t n h) (hn : S.1 1 = nI n) {a : Nat} (h2 : S.1 2 = nI a) (h3 : S.1 3 = nI (a + 1)) (ha : a < n) : ai_QM MX5_takeWord [.ref 16] h (fun r g => r = none ∧ xd h g ∧ ∃ T, rd_at 13 g T ∧ lxq S T ∧ T.1 2 = nI a ∧ T.1 3 = nI (tx_rn (tx_lt t) n (a + 1)) ∧ T.1 4 = nI (tx_kc (tx_wk (tx_ix t a (tx_rn (tx_lt t) n (a + 1))))) ∧ (tx_wk (tx_ix t a (tx_rn (tx_lt t) n (a + 1))) = 1 → T.1 5 = nI (tx_ix t a (tx_rn (tx_lt t) n (a + 1)) - 5))) := by
  refine qm_of (ls := [.ref 16]) (by decide) (by simp [ai_en, Value.category]) (by rfl) ?_
  exact l_X5_takeWord htx.1 (n + 1) (a + 1) h S (Nat.le_refl _) ha (by omega) rfl hrd htx xd.rf lxq.rf hn h2 h3
theorem kc_in {k j : Nat} (hk : k ≤ 19) (hj : j < 20) (c : nI (tx_kc k) = nI (tx_kc j)) : k = j := (tx_kc_b k (by omega)).2 j hj (nI_inj (by have := (tx_kc_b k (by omega)).1; omega) (by have := (tx_kc_b j hj).1; omega) c)
theorem dX5_takeSign_0 : decode cX5_takeSign 0 = .ok (.aload_n 0, 1) := by decide +kernel
theorem dX5_takeSign_1 : decode cX5_takeSign 1 = .ok (.aload_n 0, 1) := by decide +kernel
theorem dX5_takeSign_2 : decode cX5_takeSign 2 = .ok (.getfield 22, 3) := by decide +kernel
theorem dX5_takeSign_5 : decode cX5_takeSign 5 = .ok (.invokevirtual 86, 3) := by decide +kernel
theorem dX5_takeSign_8 : decode cX5_takeSign 8 = .ok (.bipush 61, 2) := by decide +kernel
theorem dX5_takeSign_10 : decode cX5_takeSign 10 = .ok (.if_icmp .ne 7, 3) := by decide +kernel
theorem dX5_takeSign_13 : decode cX5_takeSign 13 = .ok (.iconst 1, 1) := by decide +kernel
theorem dX5_takeSign_14 : decode cX5_takeSign 14 = .ok (.goto 4, 3) := by decide +kernel
theorem dX5_takeSign_17 : decode cX5_takeSign 17 = .ok (.iconst 0, 1) := by decide +kernel
theorem dX5_takeSign_18 : decode cX5_takeSign 18 = .ok (.istore_n 1, 1) := by decide +kernel
theorem dX5_takeSign_19 : decode cX5_takeSign 19 = .ok (.aload_n 0, 1) := by decide +kernel
theorem dX5_takeSign_20 : decode cX5_takeSign 20 = .ok (.aload_n 0, 1) := by decide +kernel
theorem dX5_takeSign_21 : decode cX5_takeSign 21 = .ok (.aload_n 0, 1) := by decide +kernel
theorem dX5_takeSign_22 : decode cX5_takeSign 22 = .ok (.getfield 19, 3) := by decide +kernel
theorem dX5_takeSign_25 : decode cX5_takeSign 25 = .ok (.invokevirtual 86, 3) := by decide +kernel
theorem dX5_takeSign_28 : decode cX5_takeSign 28 = .ok (.iload_n 1, 1) := by decide +kernel
theorem dX5_takeSign_29 : decode cX5_takeSign 29 = .ok (.invokestatic 168, 3) := by decide +kernel
theorem dX5_takeSign_32 : decode cX5_takeSign 32 = .ok (.putfield 26, 3) := by decide +kernel
theorem dX5_takeSign_35 : decode cX5_takeSign 35 = .ok (.aload_n 0, 1) := by decide +kernel
theorem dX5_takeSign_36 : decode cX5_takeSign 36 = .ok (.getfield 26, 3) := by decide +kernel
theorem dX5_takeSign_39 : decode cX5_takeSign 39 = .ok (.ldc 172, 2) := by decide +kernel
theorem dX5_takeSign_41 : decode cX5_takeSign 41 = .ok (.if_icmp .eq 12, 3) := by decide +kernel
theorem dX5_takeSign_44 : decode cX5_takeSign 44 = .ok (.aload_n 0, 1) := by decide +kernel
theorem dX5_takeSign_45 : decode cX5_takeSign 45 = .ok (.getfield 26, 3) := by decide +kernel
theorem dX5_takeSign_48 : decode cX5_takeSign 48 = .ok (.ldc 173, 2) := by decide +kernel
theorem dX5_takeSign_50 : decode cX5_takeSign 50 = .ok (.if_icmp .ne 13, 3) := by decide +kernel
theorem dX5_takeSign_53 : decode cX5_takeSign 53 = .ok (.aload_n 0, 1) := by decide +kernel
theorem dX5_takeSign_54 : decode cX5_takeSign 54 = .ok (.dup, 1) := by decide +kernel
theorem dX5_takeSign_55 : decode cX5_takeSign 55 = .ok (.getfield 22, 3) := by decide +kernel
theorem dX5_takeSign_58 : decode cX5_takeSign 58 = .ok (.iconst 1, 1) := by decide +kernel
theorem dX5_takeSign_59 : decode cX5_takeSign 59 = .ok (.iadd, 1) := by decide +kernel
theorem dX5_takeSign_60 : decode cX5_takeSign 60 = .ok (.putfield 22, 3) := by decide +kernel
theorem dX5_takeSign_63 : decode cX5_takeSign 63 = .ok (.return_, 1) := by decide +kernel
set_option maxRecDepth 100000 in
set_option maxHeartbeats 4000000 in
theorem c_X5_takeSign {h : ai_H} {S : Md} {t : Nat → Nat} {n : Nat} (hrd : rd_at 13 h S) (htx : rd_tx t n h) (hn : S.1 1 = nI n) {a : Nat} (h2 : S.1 2 = nI a) (h3 : S.1 3 = nI (a + 1)) (ha : a < n) : ai_QM MX5_takeSign [.ref 16] h (fun r g => r = none ∧ xd h g ∧ ∃ T, rd_at 13 g T ∧ lxq S T ∧ T.1 2 = nI a ∧ T.1 3 = nI (if tx_sk (t a) (tx_ch t n (a + 1)) = 5 ∨ tx_sk (t a) (tx_ch t n (a + 1)) = 7 then a + 2 else a + 1) ∧ T.1 4 = nI (tx_kc (tx_sk (t a) (tx_ch t n (a + 1))))) := by
  have hlx : lxq S S := lxq.rf
  have hn4 := htx.1
  have hch1 := htx.ch (p := a + 1)
  refine qm_of (ls := [.ref 16, .float 0]) (by decide) (by simp [ai_en, Value.category]) (by rfl) ?_
  refine wq (fun _ _ kk => rs_aload_n (pc := 0) dX5_takeSign_0 rfl kk) ?_
  refine wq (fun _ _ kk => rs_aload_n (pc := 1) dX5_takeSign_1 rfl kk) ?_
  refine wq (fun _ _ kk => rs_getf (pc := 2) dX5_takeSign_2 fX5_22 (mo_lt hrd (by decide)) hrd.2.1 rfl kk) ?_
  rw [h3]
  refine wq (fun _ _ kk => rs_callV (as := [_]) (pc := 5) dX5_takeSign_5 mk_X5_byteAt mlX5_86 in_X5_byteAt se_X5_byteAt rfl (mo_lt hrd (by decide)) hrd.2.1 rfl rfl (Nat.le_of_ble_eq_true rfl) (c_X5_byteAt hrd htx hn (p := a + 1) (by omega)) kk) ?_
  refine wq (fun _ _ kk => rs_bipush (v := 61) (pc := 8) dX5_takeSign_8 rfl kk) ?_
  refine wq_bn (fun _ _ kt kf => rs_icmp_ne (tgt := 17) (pc := 10) dX5_takeSign_10 rfl kt kf) (fun c_10 => ?_) (fun c_10 => ?_)
  · have g1 : ¬ tx_ch t n (a + 1) = 61 := tx_eq2 (b := 61) rfl c_10
    refine wq (fun _ _ kk => rs_iconst (v := 0) (pc := 17) dX5_takeSign_17 rfl kk) ?_
    refine wq (fun _ _ kk => wk_istn1 (pc := 18) dX5_takeSign_18 (by decide) rfl kk) ?_
    refine wq (fun _ _ kk => rs_aload_n (pc := 19) dX5_takeSign_19 rfl kk) ?_
    refine wq (fun _ _ kk => rs_aload_n (pc := 20) dX5_takeSign_20 rfl kk) ?_
    refine wq (fun _ _ kk => rs_aload_n (pc := 21) dX5_takeSign_21 rfl kk) ?_
    refine wq (fun _ _ kk => rs_getf (pc := 22) dX5_takeSign_22 fX5_19 (mo_lt hrd (by decide)) hrd.2.1 rfl kk) ?_
    rw [h2]
    refine wq (fun _ _ kk => rs_callV (as := [_]) (pc := 25) dX5_takeSign_25 mk_X5_byteAt mlX5_86 in_X5_byteAt se_X5_byteAt rfl (mo_lt hrd (by decide)) hrd.2.1 rfl rfl (Nat.le_of_ble_eq_true rfl) (c_X5_byteAt hrd htx hn (p := a) (by omega)) kk) ?_
    have hcha : tx_ch t n a = t a := if_pos ha
    rw [hcha]
    refine wq (fun _ _ kk => rs_iload_n (pc := 28) dX5_takeSign_28 rfl kk) ?_
    rw [show (0 : Int32) = if tx_ch t n (a + 1) = 61 then 1 else 0 from (if_neg g1).symm]
    refine wq (fun _ _ kk => rs_callS (as := [_, _]) (pc := 29) dX5_takeSign_29 mk_X5_signKind mlX5_168 st_X5_signKind rfl rfl (Nat.le_of_ble_eq_true rfl) (c_X5_signKind (c := t a) (d := tx_ch t n (a + 1)) (by rw [← hcha]; exact htx.ch)) kk) ?_
    refine wq (fun _ _ kk => rs_putf (pc := 32) dX5_takeSign_32 fX5_26 (mo_lt hrd (by decide)) hrd.2.1 rfl (Nat.le_of_ble_eq_true rfl) kk) ?_
    refine wq_gen (fun h_1 e_1 => ?_)
    obtain ⟨m_1, s_1, g_1, o_1⟩ := ai_e1 e_1
    replace hrd := mo_si (k := 4) hrd m_1 g_1 o_1 rfl
    replace htx := htx.keep (xd_of m_1 s_1 o_1 (by decide))
    have E_1 := (xd.rf).trans (xd_of m_1 s_1 o_1 (by decide))
    obtain ⟨S_32, hrd, k_32, r_32, s_32⟩ := rd_new hrd
    replace hlx := hlx.put (by decide) r_32 s_32
    replace hn := (r_32 1 (by decide)).trans hn
    replace h2 := (r_32 2 (by decide)).trans h2
    replace h3 := (r_32 3 (by decide)).trans h3
    have h4 : S_32.1 4 = nI (tx_kc (tx_sk (t a) (tx_ch t n (a + 1)))) := k_32
    refine wq (fun _ _ kk => rs_aload_n (pc := 35) dX5_takeSign_35 rfl kk) ?_
    refine wq (fun _ _ kk => rs_getf (pc := 36) dX5_takeSign_36 fX5_26 (mo_lt hrd (by decide)) hrd.2.1 rfl kk) ?_
    rw [h4]
    refine wq (fun _ _ kk => rs_ldc (pc := 39) dX5_takeSign_39 cnX5_172 kk) ?_
    refine wq_br (fun _ _ kt kf => rs_icmp_eq (tgt := 53) (pc := 41) dX5_takeSign_41 rfl kt kf) (fun c_41 => ?_) (fun c_41 => ?_)
    · have g2 : tx_sk (t a) (tx_ch t n (a + 1)) = 5 := kc_in (tx_sk_le _ _) (by decide) c_41
      refine wq (fun _ _ kk => rs_aload_n (pc := 53) dX5_takeSign_53 rfl kk) ?_
      refine wq (fun _ _ kk => rs_dup (pc := 54) dX5_takeSign_54 rfl kk) ?_
      refine wq (fun _ _ kk => rs_getf (pc := 55) dX5_takeSign_55 fX5_22 (mo_lt hrd (by decide)) hrd.2.1 rfl kk) ?_
      rw [h3]
      refine wq (fun _ _ kk => rs_iconst (v := 1) (pc := 58) dX5_takeSign_58 rfl kk) ?_
      refine wq (fun _ _ kk => rs_iadd (pc := 59) dX5_takeSign_59 kk) ?_
      refine wq (fun _ _ kk => rs_putf (pc := 60) dX5_takeSign_60 fX5_22 (mo_lt hrd (by decide)) hrd.2.1 rfl (Nat.le_of_ble_eq_true rfl) kk) ?_
      refine wq_gen (fun h_2 e_2 => ?_)
      obtain ⟨m_2, s_2, g_2, o_2⟩ := ai_e1 e_2
      replace hrd := mo_si (k := 3) hrd m_2 g_2 o_2 rfl
      replace htx := htx.keep (xd_of m_2 s_2 o_2 (by decide))
      have E_2 := (E_1).trans (xd_of m_2 s_2 o_2 (by decide))
      obtain ⟨S_60, hrd, k_60, r_60, s_60⟩ := rd_new hrd
      replace hlx := hlx.put (by decide) r_60 s_60
      replace hn := (r_60 1 (by decide)).trans hn
      replace h2 := (r_60 2 (by decide)).trans h2
      have h3 : S_60.1 3 = nI (a + 2) := k_60.trans (nI_1 (a + 1))
      replace h4 := (r_60 4 (by decide)).trans h4
      refine wq_ret ?_ (rs_vret (pc := 63) dX5_takeSign_63 rfl)
      exact ⟨rfl, E_2, _, hrd, hlx, h2, by rw [if_pos (by first | exact Or.inl g2 | exact Or.inr g3)]; exact h3, h4⟩
    · have g2 : ¬ tx_sk (t a) (tx_ch t n (a + 1)) = 5 := fun z => c_41 (by rw [z]; rfl)
      refine wq (fun _ _ kk => rs_aload_n (pc := 44) dX5_takeSign_44 rfl kk) ?_
      refine wq (fun _ _ kk => rs_getf (pc := 45) dX5_takeSign_45 fX5_26 (mo_lt hrd (by decide)) hrd.2.1 rfl kk) ?_
      rw [h4]
      refine wq (fun _ _ kk => rs_ldc (pc := 48) dX5_takeSign_48 cnX5_173 kk) ?_
      refine wq_bn (fun _ _ kt kf => rs_icmp_ne (tgt := 63) (pc := 50) dX5_takeSign_50 rfl kt kf) (fun c_50 => ?_) (fun c_50 => ?_)
      · have g3 : ¬ tx_sk (t a) (tx_ch t n (a + 1)) = 7 := fun z => c_50 (by rw [z]; rfl)
        refine wq_ret ?_ (rs_vret (pc := 63) dX5_takeSign_63 rfl)
        exact ⟨rfl, E_1, _, hrd, hlx, h2, by rw [if_neg (fun z => z.elim g2 g3)]; exact h3, h4⟩
      · have g3 : tx_sk (t a) (tx_ch t n (a + 1)) = 7 := kc_in (tx_sk_le _ _) (by decide) c_50
        refine wq (fun _ _ kk => rs_aload_n (pc := 53) dX5_takeSign_53 rfl kk) ?_
        refine wq (fun _ _ kk => rs_dup (pc := 54) dX5_takeSign_54 rfl kk) ?_
        refine wq (fun _ _ kk => rs_getf (pc := 55) dX5_takeSign_55 fX5_22 (mo_lt hrd (by decide)) hrd.2.1 rfl kk) ?_
        rw [h3]
        refine wq (fun _ _ kk => rs_iconst (v := 1) (pc := 58) dX5_takeSign_58 rfl kk) ?_
        refine wq (fun _ _ kk => rs_iadd (pc := 59) dX5_takeSign_59 kk) ?_
        refine wq (fun _ _ kk => rs_putf (pc := 60) dX5_takeSign_60 fX5_22 (mo_lt hrd (by decide)) hrd.2.1 rfl (Nat.le_of_ble_eq_true rfl) kk) ?_
        refine wq_gen (fun h_3 e_3 => ?_)
        obtain ⟨m_3, s_3, g_3, o_3⟩ := ai_e1 e_3
        replace hrd := mo_si (k := 3) hrd m_3 g_3 o_3 rfl
        replace htx := htx.keep (xd_of m_3 s_3 o_3 (by decide))
        have E_3 := (E_1).trans (xd_of m_3 s_3 o_3 (by decide))
        obtain ⟨S_60, hrd, k_60, r_60, s_60⟩ := rd_new hrd
        replace hlx := hlx.put (by decide) r_60 s_60
        replace hn := (r_60 1 (by decide)).trans hn
        replace h2 := (r_60 2 (by decide)).trans h2
        have h3 : S_60.1 3 = nI (a + 2) := k_60.trans (nI_1 (a + 1))
        replace h4 := (r_60 4 (by decide)).trans h4
        refine wq_ret ?_ (rs_vret (pc := 63) dX5_takeSign_63 rfl)
        exact ⟨rfl, E_3, _, hrd, hlx, h2, by rw [if_pos (by first | exact Or.inl g2 | exact Or.inr g3)]; exact h3, h4⟩
  · have g1 : tx_ch t n (a + 1) = 61 := tx_eq1 (b := 61) (by omega) (by decide) rfl c_10
    refine wq (fun _ _ kk => rs_iconst (v := 1) (pc := 13) dX5_takeSign_13 rfl kk) ?_
    refine wq (fun _ _ kk => rs_goto (tgt := 18) (pc := 14) dX5_takeSign_14 rfl kk) ?_
    refine wq (fun _ _ kk => wk_istn1 (pc := 18) dX5_takeSign_18 (by decide) rfl kk) ?_
    refine wq (fun _ _ kk => rs_aload_n (pc := 19) dX5_takeSign_19 rfl kk) ?_
    refine wq (fun _ _ kk => rs_aload_n (pc := 20) dX5_takeSign_20 rfl kk) ?_
    refine wq (fun _ _ kk => rs_aload_n (pc := 21) dX5_takeSign_21 rfl kk) ?_
    refine wq (fun _ _ kk => rs_getf (pc := 22) dX5_takeSign_22 fX5_19 (mo_lt hrd (by decide)) hrd.2.1 rfl kk) ?_
    rw [h2]
    refine wq (fun _ _ kk => rs_callV (as := [_]) (pc := 25) dX5_takeSign_25 mk_X5_byteAt mlX5_86 in_X5_byteAt se_X5_byteAt rfl (mo_lt hrd (by decide)) hrd.2.1 rfl rfl (Nat.le_of_ble_eq_true rfl) (c_X5_byteAt hrd htx hn (p := a) (by omega)) kk) ?_
    have hcha : tx_ch t n a = t a := if_pos ha
    rw [hcha]
    refine wq (fun _ _ kk => rs_iload_n (pc := 28) dX5_takeSign_28 rfl kk) ?_
    rw [show (1 : Int32) = if tx_ch t n (a + 1) = 61 then 1 else 0 from (if_pos g1).symm]
    refine wq (fun _ _ kk => rs_callS (as := [_, _]) (pc := 29) dX5_takeSign_29 mk_X5_signKind mlX5_168 st_X5_signKind rfl rfl (Nat.le_of_ble_eq_true rfl) (c_X5_signKind (c := t a) (d := tx_ch t n (a + 1)) (by rw [← hcha]; exact htx.ch)) kk) ?_
    refine wq (fun _ _ kk => rs_putf (pc := 32) dX5_takeSign_32 fX5_26 (mo_lt hrd (by decide)) hrd.2.1 rfl (Nat.le_of_ble_eq_true rfl) kk) ?_
    refine wq_gen (fun h_4 e_4 => ?_)
    obtain ⟨m_4, s_4, g_4, o_4⟩ := ai_e1 e_4
    replace hrd := mo_si (k := 4) hrd m_4 g_4 o_4 rfl
    replace htx := htx.keep (xd_of m_4 s_4 o_4 (by decide))
    have E_4 := (xd.rf).trans (xd_of m_4 s_4 o_4 (by decide))
    obtain ⟨S_32, hrd, k_32, r_32, s_32⟩ := rd_new hrd
    replace hlx := hlx.put (by decide) r_32 s_32
    replace hn := (r_32 1 (by decide)).trans hn
    replace h2 := (r_32 2 (by decide)).trans h2
    replace h3 := (r_32 3 (by decide)).trans h3
    have h4 : S_32.1 4 = nI (tx_kc (tx_sk (t a) (tx_ch t n (a + 1)))) := k_32
    refine wq (fun _ _ kk => rs_aload_n (pc := 35) dX5_takeSign_35 rfl kk) ?_
    refine wq (fun _ _ kk => rs_getf (pc := 36) dX5_takeSign_36 fX5_26 (mo_lt hrd (by decide)) hrd.2.1 rfl kk) ?_
    rw [h4]
    refine wq (fun _ _ kk => rs_ldc (pc := 39) dX5_takeSign_39 cnX5_172 kk) ?_
    refine wq_br (fun _ _ kt kf => rs_icmp_eq (tgt := 53) (pc := 41) dX5_takeSign_41 rfl kt kf) (fun c_41 => ?_) (fun c_41 => ?_)
    · have g2 : tx_sk (t a) (tx_ch t n (a + 1)) = 5 := kc_in (tx_sk_le _ _) (by decide) c_41
      refine wq (fun _ _ kk => rs_aload_n (pc := 53) dX5_takeSign_53 rfl kk) ?_
      refine wq (fun _ _ kk => rs_dup (pc := 54) dX5_takeSign_54 rfl kk) ?_
      refine wq (fun _ _ kk => rs_getf (pc := 55) dX5_takeSign_55 fX5_22 (mo_lt hrd (by decide)) hrd.2.1 rfl kk) ?_
      rw [h3]
      refine wq (fun _ _ kk => rs_iconst (v := 1) (pc := 58) dX5_takeSign_58 rfl kk) ?_
      refine wq (fun _ _ kk => rs_iadd (pc := 59) dX5_takeSign_59 kk) ?_
      refine wq (fun _ _ kk => rs_putf (pc := 60) dX5_takeSign_60 fX5_22 (mo_lt hrd (by decide)) hrd.2.1 rfl (Nat.le_of_ble_eq_true rfl) kk) ?_
      refine wq_gen (fun h_5 e_5 => ?_)
      obtain ⟨m_5, s_5, g_5, o_5⟩ := ai_e1 e_5
      replace hrd := mo_si (k := 3) hrd m_5 g_5 o_5 rfl
      replace htx := htx.keep (xd_of m_5 s_5 o_5 (by decide))
      have E_5 := (E_4).trans (xd_of m_5 s_5 o_5 (by decide))
      obtain ⟨S_60, hrd, k_60, r_60, s_60⟩ := rd_new hrd
      replace hlx := hlx.put (by decide) r_60 s_60
      replace hn := (r_60 1 (by decide)).trans hn
      replace h2 := (r_60 2 (by decide)).trans h2
      have h3 : S_60.1 3 = nI (a + 2) := k_60.trans (nI_1 (a + 1))
      replace h4 := (r_60 4 (by decide)).trans h4
      refine wq_ret ?_ (rs_vret (pc := 63) dX5_takeSign_63 rfl)
      exact ⟨rfl, E_5, _, hrd, hlx, h2, by rw [if_pos (by first | exact Or.inl g2 | exact Or.inr g3)]; exact h3, h4⟩
    · have g2 : ¬ tx_sk (t a) (tx_ch t n (a + 1)) = 5 := fun z => c_41 (by rw [z]; rfl)
      refine wq (fun _ _ kk => rs_aload_n (pc := 44) dX5_takeSign_44 rfl kk) ?_
      refine wq (fun _ _ kk => rs_getf (pc := 45) dX5_takeSign_45 fX5_26 (mo_lt hrd (by decide)) hrd.2.1 rfl kk) ?_
      rw [h4]
      refine wq (fun _ _ kk => rs_ldc (pc := 48) dX5_takeSign_48 cnX5_173 kk) ?_
      refine wq_bn (fun _ _ kt kf => rs_icmp_ne (tgt := 63) (pc := 50) dX5_takeSign_50 rfl kt kf) (fun c_50 => ?_) (fun c_50 => ?_)
      · have g3 : ¬ tx_sk (t a) (tx_ch t n (a + 1)) = 7 := fun z => c_50 (by rw [z]; rfl)
        refine wq_ret ?_ (rs_vret (pc := 63) dX5_takeSign_63 rfl)
        exact ⟨rfl, E_4, _, hrd, hlx, h2, by rw [if_neg (fun z => z.elim g2 g3)]; exact h3, h4⟩
      · have g3 : tx_sk (t a) (tx_ch t n (a + 1)) = 7 := kc_in (tx_sk_le _ _) (by decide) c_50
        refine wq (fun _ _ kk => rs_aload_n (pc := 53) dX5_takeSign_53 rfl kk) ?_
        refine wq (fun _ _ kk => rs_dup (pc := 54) dX5_takeSign_54 rfl kk) ?_
        refine wq (fun _ _ kk => rs_getf (pc := 55) dX5_takeSign_55 fX5_22 (mo_lt hrd (by decide)) hrd.2.1 rfl kk) ?_
        rw [h3]
        refine wq (fun _ _ kk => rs_iconst (v := 1) (pc := 58) dX5_takeSign_58 rfl kk) ?_
        refine wq (fun _ _ kk => rs_iadd (pc := 59) dX5_takeSign_59 kk) ?_
        refine wq (fun _ _ kk => rs_putf (pc := 60) dX5_takeSign_60 fX5_22 (mo_lt hrd (by decide)) hrd.2.1 rfl (Nat.le_of_ble_eq_true rfl) kk) ?_
        refine wq_gen (fun h_6 e_6 => ?_)
        obtain ⟨m_6, s_6, g_6, o_6⟩ := ai_e1 e_6
        replace hrd := mo_si (k := 3) hrd m_6 g_6 o_6 rfl
        replace htx := htx.keep (xd_of m_6 s_6 o_6 (by decide))
        have E_6 := (E_4).trans (xd_of m_6 s_6 o_6 (by decide))
        obtain ⟨S_60, hrd, k_60, r_60, s_60⟩ := rd_new hrd
        replace hlx := hlx.put (by decide) r_60 s_60
        replace hn := (r_60 1 (by decide)).trans hn
        replace h2 := (r_60 2 (by decide)).trans h2
        have h3 : S_60.1 3 = nI (a + 2) := k_60.trans (nI_1 (a + 1))
        replace h4 := (r_60 4 (by decide)).trans h4
        refine wq_ret ?_ (rs_vret (pc := 63) dX5_takeSign_63 rfl)
        exact ⟨rfl, E_6, _, hrd, hlx, h2, by rw [if_pos (by first | exact Or.inl g2 | exact Or.inr g3)]; exact h3, h4⟩
theorem dX5_take_0 : decode cX5_take 0 = .ok (.aload_n 0, 1) := by decide +kernel
theorem dX5_take_1 : decode cX5_take 1 = .ok (.aload_n 0, 1) := by decide +kernel
theorem dX5_take_2 : decode cX5_take 2 = .ok (.getfield 22, 3) := by decide +kernel
theorem dX5_take_5 : decode cX5_take 5 = .ok (.putfield 19, 3) := by decide +kernel
theorem dX5_take_8 : decode cX5_take 8 = .ok (.aload_n 0, 1) := by decide +kernel
theorem dX5_take_9 : decode cX5_take 9 = .ok (.getfield 19, 3) := by decide +kernel
theorem dX5_take_12 : decode cX5_take 12 = .ok (.aload_n 0, 1) := by decide +kernel
theorem dX5_take_13 : decode cX5_take 13 = .ok (.getfield 15, 3) := by decide +kernel
theorem dX5_take_16 : decode cX5_take 16 = .ok (.if_icmp .ge 29, 3) := by decide +kernel
theorem dX5_take_19 : decode cX5_take 19 = .ok (.aload_n 0, 1) := by decide +kernel
theorem dX5_take_20 : decode cX5_take 20 = .ok (.aload_n 0, 1) := by decide +kernel
theorem dX5_take_21 : decode cX5_take 21 = .ok (.getfield 19, 3) := by decide +kernel
theorem dX5_take_24 : decode cX5_take 24 = .ok (.invokevirtual 86, 3) := by decide +kernel
theorem dX5_take_27 : decode cX5_take 27 = .ok (.bipush 32, 2) := by decide +kernel
theorem dX5_take_29 : decode cX5_take 29 = .ok (.if_icmp .ne 16, 3) := by decide +kernel
theorem dX5_take_32 : decode cX5_take 32 = .ok (.aload_n 0, 1) := by decide +kernel
theorem dX5_take_33 : decode cX5_take 33 = .ok (.dup, 1) := by decide +kernel
theorem dX5_take_34 : decode cX5_take 34 = .ok (.getfield 19, 3) := by decide +kernel
theorem dX5_take_37 : decode cX5_take 37 = .ok (.iconst 1, 1) := by decide +kernel
theorem dX5_take_38 : decode cX5_take 38 = .ok (.iadd, 1) := by decide +kernel
theorem dX5_take_39 : decode cX5_take 39 = .ok (.putfield 19, 3) := by decide +kernel
theorem dX5_take_42 : decode cX5_take 42 = .ok (.goto (-34), 3) := by decide +kernel
theorem dX5_take_45 : decode cX5_take 45 = .ok (.aload_n 0, 1) := by decide +kernel
theorem dX5_take_46 : decode cX5_take 46 = .ok (.aload_n 0, 1) := by decide +kernel
theorem dX5_take_47 : decode cX5_take 47 = .ok (.getfield 19, 3) := by decide +kernel
theorem dX5_take_50 : decode cX5_take 50 = .ok (.iconst 1, 1) := by decide +kernel
theorem dX5_take_51 : decode cX5_take 51 = .ok (.iadd, 1) := by decide +kernel
theorem dX5_take_52 : decode cX5_take 52 = .ok (.putfield 22, 3) := by decide +kernel
theorem dX5_take_55 : decode cX5_take 55 = .ok (.aload_n 0, 1) := by decide +kernel
theorem dX5_take_56 : decode cX5_take 56 = .ok (.getfield 19, 3) := by decide +kernel
theorem dX5_take_59 : decode cX5_take 59 = .ok (.aload_n 0, 1) := by decide +kernel
theorem dX5_take_60 : decode cX5_take 60 = .ok (.getfield 15, 3) := by decide +kernel
theorem dX5_take_63 : decode cX5_take 63 = .ok (.if_icmp .lt 12, 3) := by decide +kernel
theorem dX5_take_66 : decode cX5_take 66 = .ok (.aload_n 0, 1) := by decide +kernel
theorem dX5_take_67 : decode cX5_take 67 = .ok (.ldc 90, 2) := by decide +kernel
theorem dX5_take_69 : decode cX5_take 69 = .ok (.putfield 26, 3) := by decide +kernel
theorem dX5_take_72 : decode cX5_take 72 = .ok (.goto 43, 3) := by decide +kernel
theorem dX5_take_75 : decode cX5_take 75 = .ok (.aload_n 0, 1) := by decide +kernel
theorem dX5_take_76 : decode cX5_take 76 = .ok (.aload_n 0, 1) := by decide +kernel
theorem dX5_take_77 : decode cX5_take 77 = .ok (.getfield 19, 3) := by decide +kernel
theorem dX5_take_80 : decode cX5_take 80 = .ok (.invokevirtual 91, 3) := by decide +kernel
theorem dX5_take_83 : decode cX5_take 83 = .ok (.ifCond .eq 10, 3) := by decide +kernel
theorem dX5_take_86 : decode cX5_take 86 = .ok (.aload_n 0, 1) := by decide +kernel
theorem dX5_take_87 : decode cX5_take 87 = .ok (.invokevirtual 95, 3) := by decide +kernel
theorem dX5_take_90 : decode cX5_take 90 = .ok (.goto 25, 3) := by decide +kernel
theorem dX5_take_93 : decode cX5_take 93 = .ok (.aload_n 0, 1) := by decide +kernel
theorem dX5_take_94 : decode cX5_take 94 = .ok (.aload_n 0, 1) := by decide +kernel
theorem dX5_take_95 : decode cX5_take 95 = .ok (.getfield 19, 3) := by decide +kernel
theorem dX5_take_98 : decode cX5_take 98 = .ok (.invokevirtual 98, 3) := by decide +kernel
theorem dX5_take_101 : decode cX5_take 101 = .ok (.ifCond .eq 10, 3) := by decide +kernel
theorem dX5_take_104 : decode cX5_take 104 = .ok (.aload_n 0, 1) := by decide +kernel
theorem dX5_take_105 : decode cX5_take 105 = .ok (.invokevirtual 101, 3) := by decide +kernel
theorem dX5_take_108 : decode cX5_take 108 = .ok (.goto 7, 3) := by decide +kernel
theorem dX5_take_111 : decode cX5_take 111 = .ok (.aload_n 0, 1) := by decide +kernel
theorem dX5_take_112 : decode cX5_take 112 = .ok (.invokevirtual 104, 3) := by decide +kernel
theorem dX5_take_115 : decode cX5_take 115 = .ok (.return_, 1) := by decide +kernel
set_option maxRecDepth 100000 in
set_option maxHeartbeats 4000000 in
theorem l_X5_take {h : ai_H} {S0 : Md} {t : Nat → Nat} {n p : Nat} (hn4 : n ≤ 400) (hp : p ≤ n) : ∀ (m b : Nat) (g : ai_H) (S : Md), p ≤ b → b ≤ n → n + 1 ≤ b + m → tx_rn (tx_bl t) n b = tx_fr t n p → rd_at 13 g S → rd_tx t n g → xd h g → lxq S0 S → S.1 1 = nI n → S.1 2 = nI b → ai_W MX5_take 8 [.ref 16] [] g (fun r g => r = none ∧ xd h g ∧ ∃ T, rd_at 13 g T ∧ lxq S0 T ∧ T.1 2 = nI (tx_fr t n p) ∧ T.1 3 = nI (tx_e t n (tx_fr t n p)) ∧ T.1 4 = nI (tx_kc (tx_k t n (tx_fr t n p))) ∧ (tx_k t n (tx_fr t n p) ≤ 1 → T.1 5 = nI (tx_v t n (tx_fr t n p)))) := by
  intro m
  induction m with
  | zero => intro b g S h1 h2 h3; exact absurd h3 (by omega)
  | succ m ih =>
    intro b g S hb0 hb1 him hbe hrd htx hE hlx hn h2
    refine wq (fun _ _ kk => rs_aload_n (pc := 8) dX5_take_8 rfl kk) ?_
    refine wq (fun _ _ kk => rs_getf (pc := 9) dX5_take_9 fX5_19 (mo_lt hrd (by decide)) hrd.2.1 rfl kk) ?_
    rw [h2]
    refine wq (fun _ _ kk => rs_aload_n (pc := 12) dX5_take_12 rfl kk) ?_
    refine wq (fun _ _ kk => rs_getf (pc := 13) dX5_take_13 fX5_15 (mo_lt hrd (by decide)) hrd.2.1 rfl kk) ?_
    rw [hn]
    refine wq_br (fun _ _ kt kf => rs_icmp_ge (tgt := 45) (pc := 16) dX5_take_16 rfl kt kf) (fun c_16 => ?_) (fun c_16 => ?_)
    · have g1 : ¬ (b < n ∧ tx_bl t b = true) := fun z => absurd (tx_le1 (by omega) (by omega) rfl c_16) (by omega)
      have hb2 : b = tx_fr t n p := by rw [← hbe, tx_n g1]
      refine wq (fun _ _ kk => rs_aload_n (pc := 45) dX5_take_45 rfl kk) ?_
      refine wq (fun _ _ kk => rs_aload_n (pc := 46) dX5_take_46 rfl kk) ?_
      refine wq (fun _ _ kk => rs_getf (pc := 47) dX5_take_47 fX5_19 (mo_lt hrd (by decide)) hrd.2.1 rfl kk) ?_
      rw [h2]
      refine wq (fun _ _ kk => rs_iconst (v := 1) (pc := 50) dX5_take_50 rfl kk) ?_
      refine wq (fun _ _ kk => rs_iadd (pc := 51) dX5_take_51 kk) ?_
      refine wq (fun _ _ kk => rs_putf (pc := 52) dX5_take_52 fX5_22 (mo_lt hrd (by decide)) hrd.2.1 rfl (Nat.le_of_ble_eq_true rfl) kk) ?_
      refine wq_gen (fun h_1 e_1 => ?_)
      obtain ⟨m_1, s_1, g_1, o_1⟩ := ai_e1 e_1
      replace hrd := mo_si (k := 3) hrd m_1 g_1 o_1 rfl
      replace htx := htx.keep (xd_of m_1 s_1 o_1 (by decide))
      have E_1 := (xd.rf).trans (xd_of m_1 s_1 o_1 (by decide))
      obtain ⟨S_52, hrd, k_52, r_52, s_52⟩ := rd_new hrd
      replace hlx := hlx.put (by decide) r_52 s_52
      replace hn := (r_52 1 (by decide)).trans hn
      replace h2 := (r_52 2 (by decide)).trans h2
      have h3 : S_52.1 3 = nI (b + 1) := k_52.trans (nI_1 b)
      refine wq (fun _ _ kk => rs_aload_n (pc := 55) dX5_take_55 rfl kk) ?_
      refine wq (fun _ _ kk => rs_getf (pc := 56) dX5_take_56 fX5_19 (mo_lt hrd (by decide)) hrd.2.1 rfl kk) ?_
      rw [h2]
      refine wq (fun _ _ kk => rs_aload_n (pc := 59) dX5_take_59 rfl kk) ?_
      refine wq (fun _ _ kk => rs_getf (pc := 60) dX5_take_60 fX5_15 (mo_lt hrd (by decide)) hrd.2.1 rfl kk) ?_
      rw [hn]
      refine wq_br (fun _ _ kt kf => rs_icmp_lt (tgt := 75) (pc := 63) dX5_take_63 rfl kt kf) (fun c_63 => ?_) (fun c_63 => ?_)
      · have g5 : b < n := tx_lt1 (by omega) (by omega) rfl c_63
        refine wq (fun _ _ kk => rs_aload_n (pc := 75) dX5_take_75 rfl kk) ?_
        refine wq (fun _ _ kk => rs_aload_n (pc := 76) dX5_take_76 rfl kk) ?_
        refine wq (fun _ _ kk => rs_getf (pc := 77) dX5_take_77 fX5_19 (mo_lt hrd (by decide)) hrd.2.1 rfl kk) ?_
        rw [h2]
        refine wq (fun _ _ kk => rs_callV (as := [_]) (pc := 80) dX5_take_80 mk_X5_isDigit mlX5_91 in_X5_isDigit se_X5_isDigit rfl (mo_lt hrd (by decide)) hrd.2.1 rfl rfl (Nat.le_of_ble_eq_true rfl) (c_X5_isDigit hrd htx hn (p := b) (by omega)) kk) ?_
        refine wq_br (fun _ _ kt kf => rs_if_eq (tgt := 93) (pc := 83) dX5_take_83 rfl kt kf) (fun c_83 => ?_) (fun c_83 => ?_)
        · have g6 : ¬ tx_dg t b = true := fun z => absurd c_83 (by rw [if_pos (tx_dg_ch.mpr ⟨g5, z⟩)]; decide)
          refine wq (fun _ _ kk => rs_aload_n (pc := 93) dX5_take_93 rfl kk) ?_
          refine wq (fun _ _ kk => rs_aload_n (pc := 94) dX5_take_94 rfl kk) ?_
          refine wq (fun _ _ kk => rs_getf (pc := 95) dX5_take_95 fX5_19 (mo_lt hrd (by decide)) hrd.2.1 rfl kk) ?_
          rw [h2]
          refine wq (fun _ _ kk => rs_callV (as := [_]) (pc := 98) dX5_take_98 mk_X5_isLetter mlX5_98 in_X5_isLetter se_X5_isLetter rfl (mo_lt hrd (by decide)) hrd.2.1 rfl rfl (Nat.le_of_ble_eq_true rfl) (c_X5_isLetter hrd htx hn (p := b) (by omega)) kk) ?_
          refine wq_br (fun _ _ kt kf => rs_if_eq (tgt := 111) (pc := 101) dX5_take_101 rfl kt kf) (fun c_101 => ?_) (fun c_101 => ?_)
          · have g7 : ¬ tx_lt t b = true := fun z => absurd c_101 (by rw [if_pos (tx_lt_ch.mpr ⟨g5, z⟩)]; decide)
            refine wq (fun _ _ kk => rs_aload_n (pc := 111) dX5_take_111 rfl kk) ?_
            obtain ⟨rv_112, hc_112, ⟨rfl, ee_112, T_112, hrd_112, lx_112, w2, w3, w4⟩, hm_112⟩ := c_X5_takeSign hrd htx hn h2 h3 g5
            refine wq (fun _ _ kk => rs_callV (as := []) (pc := 112) dX5_take_112 mk_X5_takeSign mlX5_104 in_X5_takeSign se_X5_takeSign rfl (mo_lt hrd (by decide)) hrd.2.1 rfl rfl (Nat.le_of_ble_eq_true rfl) (hm_112) kk) ?_
            replace hrd := hrd_112
            replace htx := htx.keep ee_112
            replace hlx := hlx.trans lx_112
            have h2 := w2
            have hres : T_112.1 3 = nI (tx_e t n b) ∧ T_112.1 4 = nI (tx_kc (tx_k t n b)) ∧ (tx_k t n b ≤ 1 → T_112.1 5 = nI (tx_v t n b)) := by
              have e1 : tx_k t n b = tx_sk (t b) (tx_ch t n (b + 1)) := by unfold tx_k; rw [if_neg (by omega), if_neg g6, if_neg g7]
              have e2 : tx_e t n b = if tx_sk (t b) (tx_ch t n (b + 1)) = 5 ∨ tx_sk (t b) (tx_ch t n (b + 1)) = 7 then b + 2 else b + 1 := by unfold tx_e; rw [if_neg (by omega), if_neg g6, if_neg g7]
              rw [e1, e2]
              exact ⟨w3, w4, fun z => by have := tx_sk_no (c := t b) (d := tx_ch t n (b + 1)) rfl; omega⟩
            have E_112 := (E_1).trans ee_112
            refine wq_ret ?_ (rs_vret (pc := 115) dX5_take_115 rfl)
            rw [← hb2]
            exact ⟨rfl, hE.trans (E_112), _, hrd, hlx, h2, hres⟩
          · have g7 : tx_lt t b = true := (tx_lt_ch.mp (Classical.byContradiction fun z => c_101 (if_neg z))).2
            refine wq (fun _ _ kk => rs_aload_n (pc := 104) dX5_take_104 rfl kk) ?_
            obtain ⟨rv_105, hc_105, ⟨rfl, ee_105, T_105, hrd_105, lx_105, w2, w3, w4, w5⟩, hm_105⟩ := c_X5_takeWord hrd htx hn h2 h3 g5
            refine wq (fun _ _ kk => rs_callV (as := []) (pc := 105) dX5_take_105 mk_X5_takeWord mlX5_101 in_X5_takeWord se_X5_takeWord rfl (mo_lt hrd (by decide)) hrd.2.1 rfl rfl (Nat.le_of_ble_eq_true rfl) (hm_105) kk) ?_
            replace hrd := hrd_105
            replace htx := htx.keep ee_105
            replace hlx := hlx.trans lx_105
            have h2 := w2
            have hres : T_105.1 3 = nI (tx_e t n b) ∧ T_105.1 4 = nI (tx_kc (tx_k t n b)) ∧ (tx_k t n b ≤ 1 → T_105.1 5 = nI (tx_v t n b)) := by
              have e1 : tx_k t n b = tx_wk (tx_ix t b (tx_rn (tx_lt t) n (b + 1))) := by unfold tx_k; rw [if_neg (by omega), if_neg g6, if_pos g7]
              have e2 : tx_e t n b = tx_rn (tx_lt t) n (b + 1) := by unfold tx_e; rw [if_neg (by omega), if_neg g6, if_pos g7]
              have e3 : tx_v t n b = tx_ix t b (tx_rn (tx_lt t) n (b + 1)) - 5 := by unfold tx_v; rw [if_neg g6]
              rw [e1, e2, e3]
              exact ⟨w3, w4, fun z => w5 (by have := (tx_wk_no (j := tx_ix t b (tx_rn (tx_lt t) n (b + 1))) rfl).1; omega)⟩
            have E_105 := (E_1).trans ee_105
            refine wq (fun _ _ kk => rs_goto (tgt := 115) (pc := 108) dX5_take_108 rfl kk) ?_
            refine wq_ret ?_ (rs_vret (pc := 115) dX5_take_115 rfl)
            rw [← hb2]
            exact ⟨rfl, hE.trans (E_105), _, hrd, hlx, h2, hres⟩
        · have g6 : tx_dg t b = true := (tx_dg_ch.mp (Classical.byContradiction fun z => c_83 (if_neg z))).2
          refine wq (fun _ _ kk => rs_aload_n (pc := 86) dX5_take_86 rfl kk) ?_
          obtain ⟨rv_87, hc_87, ⟨rfl, ee_87, T_87, hrd_87, lx_87, w2, w3, w4, w5⟩, hm_87⟩ := c_X5_takeNumber hrd htx hn h2 h3 g5 g6
          refine wq (fun _ _ kk => rs_callV (as := []) (pc := 87) dX5_take_87 mk_X5_takeNumber mlX5_95 in_X5_takeNumber se_X5_takeNumber rfl (mo_lt hrd (by decide)) hrd.2.1 rfl rfl (Nat.le_of_ble_eq_true rfl) (hm_87) kk) ?_
          replace hrd := hrd_87
          replace htx := htx.keep ee_87
          replace hlx := hlx.trans lx_87
          have h2 := w2
          have hres : T_87.1 3 = nI (tx_e t n b) ∧ T_87.1 4 = nI (tx_kc (tx_k t n b)) ∧ (tx_k t n b ≤ 1 → T_87.1 5 = nI (tx_v t n b)) := by
            have e1 : tx_k t n b = 0 := by unfold tx_k; rw [if_neg (by omega), if_pos g6]
            have e2 : tx_e t n b = tx_rn (tx_dg t) n (b + 1) := by unfold tx_e; rw [if_neg (by omega), if_pos g6]
            have e3 : tx_v t n b = tx_nv t b (tx_rn (tx_dg t) n (b + 1) - b) := by unfold tx_v; rw [if_pos g6]
            rw [e1, e2, e3]
            exact ⟨w3, w4, fun _ => w5⟩
          have E_87 := (E_1).trans ee_87
          refine wq (fun _ _ kk => rs_goto (tgt := 115) (pc := 90) dX5_take_90 rfl kk) ?_
          refine wq_ret ?_ (rs_vret (pc := 115) dX5_take_115 rfl)
          rw [← hb2]
          exact ⟨rfl, hE.trans (E_87), _, hrd, hlx, h2, hres⟩
      · have g5 : n ≤ b := tx_lt2 (by omega) (by omega) rfl c_63
        refine wq (fun _ _ kk => rs_aload_n (pc := 66) dX5_take_66 rfl kk) ?_
        refine wq (fun _ _ kk => rs_ldc (pc := 67) dX5_take_67 cnX5_90 kk) ?_
        refine wq (fun _ _ kk => rs_putf (pc := 69) dX5_take_69 fX5_26 (mo_lt hrd (by decide)) hrd.2.1 rfl (Nat.le_of_ble_eq_true rfl) kk) ?_
        refine wq_gen (fun h_2 e_2 => ?_)
        obtain ⟨m_2, s_2, g_2, o_2⟩ := ai_e1 e_2
        replace hrd := mo_si (k := 4) hrd m_2 g_2 o_2 rfl
        replace htx := htx.keep (xd_of m_2 s_2 o_2 (by decide))
        have E_2 := (E_1).trans (xd_of m_2 s_2 o_2 (by decide))
        obtain ⟨S_69, hrd, k_69, r_69, s_69⟩ := rd_new hrd
        replace hlx := hlx.put (by decide) r_69 s_69
        replace hn := (r_69 1 (by decide)).trans hn
        replace h2 := (r_69 2 (by decide)).trans h2
        replace h3 := (r_69 3 (by decide)).trans h3
        have h4 : S_69.1 4 = nI (tx_kc 18) := k_69
        have hres : S_69.1 3 = nI (tx_e t n b) ∧ S_69.1 4 = nI (tx_kc (tx_k t n b)) ∧ (tx_k t n b ≤ 1 → S_69.1 5 = nI (tx_v t n b)) := by
          have e1 : tx_k t n b = 18 := by unfold tx_k; rw [if_pos g5]
          have e2 : tx_e t n b = b + 1 := by unfold tx_e; rw [if_pos g5]
          rw [e1, e2]
          exact ⟨h3, h4, fun z => absurd z (by decide)⟩
        refine wq (fun _ _ kk => rs_goto (tgt := 115) (pc := 72) dX5_take_72 rfl kk) ?_
        refine wq_ret ?_ (rs_vret (pc := 115) dX5_take_115 rfl)
        rw [← hb2]
        exact ⟨rfl, hE.trans (E_2), _, hrd, hlx, h2, hres⟩
    · have g1 : b < n := tx_le2 (by omega) (by omega) rfl c_16
      refine wq (fun _ _ kk => rs_aload_n (pc := 19) dX5_take_19 rfl kk) ?_
      refine wq (fun _ _ kk => rs_aload_n (pc := 20) dX5_take_20 rfl kk) ?_
      refine wq (fun _ _ kk => rs_getf (pc := 21) dX5_take_21 fX5_19 (mo_lt hrd (by decide)) hrd.2.1 rfl kk) ?_
      rw [h2]
      refine wq (fun _ _ kk => rs_callV (as := [_]) (pc := 24) dX5_take_24 mk_X5_byteAt mlX5_86 in_X5_byteAt se_X5_byteAt rfl (mo_lt hrd (by decide)) hrd.2.1 rfl rfl (Nat.le_of_ble_eq_true rfl) (c_X5_byteAt hrd htx hn (p := b) (by omega)) kk) ?_
      refine wq (fun _ _ kk => rs_bipush (v := 32) (pc := 27) dX5_take_27 rfl kk) ?_
      refine wq_bn (fun _ _ kt kf => rs_icmp_ne (tgt := 45) (pc := 29) dX5_take_29 rfl kt kf) (fun c_29 => ?_) (fun c_29 => ?_)
      · replace g1 : ¬ (b < n ∧ tx_bl t b = true) := fun z => c_29 (by rw [tx_bl_ch.mpr z]; rfl)
        have hb2 : b = tx_fr t n p := by rw [← hbe, tx_n g1]
        refine wq (fun _ _ kk => rs_aload_n (pc := 45) dX5_take_45 rfl kk) ?_
        refine wq (fun _ _ kk => rs_aload_n (pc := 46) dX5_take_46 rfl kk) ?_
        refine wq (fun _ _ kk => rs_getf (pc := 47) dX5_take_47 fX5_19 (mo_lt hrd (by decide)) hrd.2.1 rfl kk) ?_
        rw [h2]
        refine wq (fun _ _ kk => rs_iconst (v := 1) (pc := 50) dX5_take_50 rfl kk) ?_
        refine wq (fun _ _ kk => rs_iadd (pc := 51) dX5_take_51 kk) ?_
        refine wq (fun _ _ kk => rs_putf (pc := 52) dX5_take_52 fX5_22 (mo_lt hrd (by decide)) hrd.2.1 rfl (Nat.le_of_ble_eq_true rfl) kk) ?_
        refine wq_gen (fun h_3 e_3 => ?_)
        obtain ⟨m_3, s_3, g_3, o_3⟩ := ai_e1 e_3
        replace hrd := mo_si (k := 3) hrd m_3 g_3 o_3 rfl
        replace htx := htx.keep (xd_of m_3 s_3 o_3 (by decide))
        have E_3 := (xd.rf).trans (xd_of m_3 s_3 o_3 (by decide))
        obtain ⟨S_52, hrd, k_52, r_52, s_52⟩ := rd_new hrd
        replace hlx := hlx.put (by decide) r_52 s_52
        replace hn := (r_52 1 (by decide)).trans hn
        replace h2 := (r_52 2 (by decide)).trans h2
        have h3 : S_52.1 3 = nI (b + 1) := k_52.trans (nI_1 b)
        refine wq (fun _ _ kk => rs_aload_n (pc := 55) dX5_take_55 rfl kk) ?_
        refine wq (fun _ _ kk => rs_getf (pc := 56) dX5_take_56 fX5_19 (mo_lt hrd (by decide)) hrd.2.1 rfl kk) ?_
        rw [h2]
        refine wq (fun _ _ kk => rs_aload_n (pc := 59) dX5_take_59 rfl kk) ?_
        refine wq (fun _ _ kk => rs_getf (pc := 60) dX5_take_60 fX5_15 (mo_lt hrd (by decide)) hrd.2.1 rfl kk) ?_
        rw [hn]
        refine wq_br (fun _ _ kt kf => rs_icmp_lt (tgt := 75) (pc := 63) dX5_take_63 rfl kt kf) (fun c_63 => ?_) (fun c_63 => ?_)
        · have g5 : b < n := tx_lt1 (by omega) (by omega) rfl c_63
          refine wq (fun _ _ kk => rs_aload_n (pc := 75) dX5_take_75 rfl kk) ?_
          refine wq (fun _ _ kk => rs_aload_n (pc := 76) dX5_take_76 rfl kk) ?_
          refine wq (fun _ _ kk => rs_getf (pc := 77) dX5_take_77 fX5_19 (mo_lt hrd (by decide)) hrd.2.1 rfl kk) ?_
          rw [h2]
          refine wq (fun _ _ kk => rs_callV (as := [_]) (pc := 80) dX5_take_80 mk_X5_isDigit mlX5_91 in_X5_isDigit se_X5_isDigit rfl (mo_lt hrd (by decide)) hrd.2.1 rfl rfl (Nat.le_of_ble_eq_true rfl) (c_X5_isDigit hrd htx hn (p := b) (by omega)) kk) ?_
          refine wq_br (fun _ _ kt kf => rs_if_eq (tgt := 93) (pc := 83) dX5_take_83 rfl kt kf) (fun c_83 => ?_) (fun c_83 => ?_)
          · have g6 : ¬ tx_dg t b = true := fun z => absurd c_83 (by rw [if_pos (tx_dg_ch.mpr ⟨g5, z⟩)]; decide)
            refine wq (fun _ _ kk => rs_aload_n (pc := 93) dX5_take_93 rfl kk) ?_
            refine wq (fun _ _ kk => rs_aload_n (pc := 94) dX5_take_94 rfl kk) ?_
            refine wq (fun _ _ kk => rs_getf (pc := 95) dX5_take_95 fX5_19 (mo_lt hrd (by decide)) hrd.2.1 rfl kk) ?_
            rw [h2]
            refine wq (fun _ _ kk => rs_callV (as := [_]) (pc := 98) dX5_take_98 mk_X5_isLetter mlX5_98 in_X5_isLetter se_X5_isLetter rfl (mo_lt hrd (by decide)) hrd.2.1 rfl rfl (Nat.le_of_ble_eq_true rfl) (c_X5_isLetter hrd htx hn (p := b) (by omega)) kk) ?_
            refine wq_br (fun _ _ kt kf => rs_if_eq (tgt := 111) (pc := 101) dX5_take_101 rfl kt kf) (fun c_101 => ?_) (fun c_101 => ?_)
            · have g7 : ¬ tx_lt t b = true := fun z => absurd c_101 (by rw [if_pos (tx_lt_ch.mpr ⟨g5, z⟩)]; decide)
              refine wq (fun _ _ kk => rs_aload_n (pc := 111) dX5_take_111 rfl kk) ?_
              obtain ⟨rv_112, hc_112, ⟨rfl, ee_112, T_112, hrd_112, lx_112, w2, w3, w4⟩, hm_112⟩ := c_X5_takeSign hrd htx hn h2 h3 g5
              refine wq (fun _ _ kk => rs_callV (as := []) (pc := 112) dX5_take_112 mk_X5_takeSign mlX5_104 in_X5_takeSign se_X5_takeSign rfl (mo_lt hrd (by decide)) hrd.2.1 rfl rfl (Nat.le_of_ble_eq_true rfl) (hm_112) kk) ?_
              replace hrd := hrd_112
              replace htx := htx.keep ee_112
              replace hlx := hlx.trans lx_112
              have h2 := w2
              have hres : T_112.1 3 = nI (tx_e t n b) ∧ T_112.1 4 = nI (tx_kc (tx_k t n b)) ∧ (tx_k t n b ≤ 1 → T_112.1 5 = nI (tx_v t n b)) := by
                have e1 : tx_k t n b = tx_sk (t b) (tx_ch t n (b + 1)) := by unfold tx_k; rw [if_neg (by omega), if_neg g6, if_neg g7]
                have e2 : tx_e t n b = if tx_sk (t b) (tx_ch t n (b + 1)) = 5 ∨ tx_sk (t b) (tx_ch t n (b + 1)) = 7 then b + 2 else b + 1 := by unfold tx_e; rw [if_neg (by omega), if_neg g6, if_neg g7]
                rw [e1, e2]
                exact ⟨w3, w4, fun z => by have := tx_sk_no (c := t b) (d := tx_ch t n (b + 1)) rfl; omega⟩
              have E_112 := (E_3).trans ee_112
              refine wq_ret ?_ (rs_vret (pc := 115) dX5_take_115 rfl)
              rw [← hb2]
              exact ⟨rfl, hE.trans (E_112), _, hrd, hlx, h2, hres⟩
            · have g7 : tx_lt t b = true := (tx_lt_ch.mp (Classical.byContradiction fun z => c_101 (if_neg z))).2
              refine wq (fun _ _ kk => rs_aload_n (pc := 104) dX5_take_104 rfl kk) ?_
              obtain ⟨rv_105, hc_105, ⟨rfl, ee_105, T_105, hrd_105, lx_105, w2, w3, w4, w5⟩, hm_105⟩ := c_X5_takeWord hrd htx hn h2 h3 g5
              refine wq (fun _ _ kk => rs_callV (as := []) (pc := 105) dX5_take_105 mk_X5_takeWord mlX5_101 in_X5_takeWord se_X5_takeWord rfl (mo_lt hrd (by decide)) hrd.2.1 rfl rfl (Nat.le_of_ble_eq_true rfl) (hm_105) kk) ?_
              replace hrd := hrd_105
              replace htx := htx.keep ee_105
              replace hlx := hlx.trans lx_105
              have h2 := w2
              have hres : T_105.1 3 = nI (tx_e t n b) ∧ T_105.1 4 = nI (tx_kc (tx_k t n b)) ∧ (tx_k t n b ≤ 1 → T_105.1 5 = nI (tx_v t n b)) := by
                have e1 : tx_k t n b = tx_wk (tx_ix t b (tx_rn (tx_lt t) n (b + 1))) := by unfold tx_k; rw [if_neg (by omega), if_neg g6, if_pos g7]
                have e2 : tx_e t n b = tx_rn (tx_lt t) n (b + 1) := by unfold tx_e; rw [if_neg (by omega), if_neg g6, if_pos g7]
                have e3 : tx_v t n b = tx_ix t b (tx_rn (tx_lt t) n (b + 1)) - 5 := by unfold tx_v; rw [if_neg g6]
                rw [e1, e2, e3]
                exact ⟨w3, w4, fun z => w5 (by have := (tx_wk_no (j := tx_ix t b (tx_rn (tx_lt t) n (b + 1))) rfl).1; omega)⟩
              have E_105 := (E_3).trans ee_105
              refine wq (fun _ _ kk => rs_goto (tgt := 115) (pc := 108) dX5_take_108 rfl kk) ?_
              refine wq_ret ?_ (rs_vret (pc := 115) dX5_take_115 rfl)
              rw [← hb2]
              exact ⟨rfl, hE.trans (E_105), _, hrd, hlx, h2, hres⟩
          · have g6 : tx_dg t b = true := (tx_dg_ch.mp (Classical.byContradiction fun z => c_83 (if_neg z))).2
            refine wq (fun _ _ kk => rs_aload_n (pc := 86) dX5_take_86 rfl kk) ?_
            obtain ⟨rv_87, hc_87, ⟨rfl, ee_87, T_87, hrd_87, lx_87, w2, w3, w4, w5⟩, hm_87⟩ := c_X5_takeNumber hrd htx hn h2 h3 g5 g6
            refine wq (fun _ _ kk => rs_callV (as := []) (pc := 87) dX5_take_87 mk_X5_takeNumber mlX5_95 in_X5_takeNumber se_X5_takeNumber rfl (mo_lt hrd (by decide)) hrd.2.1 rfl rfl (Nat.le_of_ble_eq_true rfl) (hm_87) kk) ?_
            replace hrd := hrd_87
            replace htx := htx.keep ee_87
            replace hlx := hlx.trans lx_87
            have h2 := w2
            have hres : T_87.1 3 = nI (tx_e t n b) ∧ T_87.1 4 = nI (tx_kc (tx_k t n b)) ∧ (tx_k t n b ≤ 1 → T_87.1 5 = nI (tx_v t n b)) := by
              have e1 : tx_k t n b = 0 := by unfold tx_k; rw [if_neg (by omega), if_pos g6]
              have e2 : tx_e t n b = tx_rn (tx_dg t) n (b + 1) := by unfold tx_e; rw [if_neg (by omega), if_pos g6]
              have e3 : tx_v t n b = tx_nv t b (tx_rn (tx_dg t) n (b + 1) - b) := by unfold tx_v; rw [if_pos g6]
              rw [e1, e2, e3]
              exact ⟨w3, w4, fun _ => w5⟩
            have E_87 := (E_3).trans ee_87
            refine wq (fun _ _ kk => rs_goto (tgt := 115) (pc := 90) dX5_take_90 rfl kk) ?_
            refine wq_ret ?_ (rs_vret (pc := 115) dX5_take_115 rfl)
            rw [← hb2]
            exact ⟨rfl, hE.trans (E_87), _, hrd, hlx, h2, hres⟩
        · have g5 : n ≤ b := tx_lt2 (by omega) (by omega) rfl c_63
          refine wq (fun _ _ kk => rs_aload_n (pc := 66) dX5_take_66 rfl kk) ?_
          refine wq (fun _ _ kk => rs_ldc (pc := 67) dX5_take_67 cnX5_90 kk) ?_
          refine wq (fun _ _ kk => rs_putf (pc := 69) dX5_take_69 fX5_26 (mo_lt hrd (by decide)) hrd.2.1 rfl (Nat.le_of_ble_eq_true rfl) kk) ?_
          refine wq_gen (fun h_4 e_4 => ?_)
          obtain ⟨m_4, s_4, g_4, o_4⟩ := ai_e1 e_4
          replace hrd := mo_si (k := 4) hrd m_4 g_4 o_4 rfl
          replace htx := htx.keep (xd_of m_4 s_4 o_4 (by decide))
          have E_4 := (E_3).trans (xd_of m_4 s_4 o_4 (by decide))
          obtain ⟨S_69, hrd, k_69, r_69, s_69⟩ := rd_new hrd
          replace hlx := hlx.put (by decide) r_69 s_69
          replace hn := (r_69 1 (by decide)).trans hn
          replace h2 := (r_69 2 (by decide)).trans h2
          replace h3 := (r_69 3 (by decide)).trans h3
          have h4 : S_69.1 4 = nI (tx_kc 18) := k_69
          have hres : S_69.1 3 = nI (tx_e t n b) ∧ S_69.1 4 = nI (tx_kc (tx_k t n b)) ∧ (tx_k t n b ≤ 1 → S_69.1 5 = nI (tx_v t n b)) := by
            have e1 : tx_k t n b = 18 := by unfold tx_k; rw [if_pos g5]
            have e2 : tx_e t n b = b + 1 := by unfold tx_e; rw [if_pos g5]
            rw [e1, e2]
            exact ⟨h3, h4, fun z => absurd z (by decide)⟩
          refine wq (fun _ _ kk => rs_goto (tgt := 115) (pc := 72) dX5_take_72 rfl kk) ?_
          refine wq_ret ?_ (rs_vret (pc := 115) dX5_take_115 rfl)
          rw [← hb2]
          exact ⟨rfl, hE.trans (E_4), _, hrd, hlx, h2, hres⟩
      · have g2 : tx_bl t b = true := (tx_bl_ch.mp (tx_eq1 (b := 32) (by have := htx.ch (p := b); omega) (by decide) rfl c_29)).2
        refine wq (fun _ _ kk => rs_aload_n (pc := 32) dX5_take_32 rfl kk) ?_
        refine wq (fun _ _ kk => rs_dup (pc := 33) dX5_take_33 rfl kk) ?_
        refine wq (fun _ _ kk => rs_getf (pc := 34) dX5_take_34 fX5_19 (mo_lt hrd (by decide)) hrd.2.1 rfl kk) ?_
        rw [h2]
        refine wq (fun _ _ kk => rs_iconst (v := 1) (pc := 37) dX5_take_37 rfl kk) ?_
        refine wq (fun _ _ kk => rs_iadd (pc := 38) dX5_take_38 kk) ?_
        refine wq (fun _ _ kk => rs_putf (pc := 39) dX5_take_39 fX5_19 (mo_lt hrd (by decide)) hrd.2.1 rfl (Nat.le_of_ble_eq_true rfl) kk) ?_
        refine wq_gen (fun h_5 e_5 => ?_)
        obtain ⟨m_5, s_5, g_5, o_5⟩ := ai_e1 e_5
        replace hrd := mo_si (k := 2) hrd m_5 g_5 o_5 rfl
        replace htx := htx.keep (xd_of m_5 s_5 o_5 (by decide))
        have E_5 := (xd.rf).trans (xd_of m_5 s_5 o_5 (by decide))
        obtain ⟨S_39, hrd, k_39, r_39, s_39⟩ := rd_new hrd
        replace hlx := hlx.put (by decide) r_39 s_39
        replace hn := (r_39 1 (by decide)).trans hn
        have h2 : S_39.1 2 = nI (b + 1) := k_39.trans (nI_1 b)
        refine wq (fun _ _ kk => rs_goto (tgt := 8) (pc := 42) dX5_take_42 rfl kk) ?_
        exact ih (b + 1) _ _ (by omega) (by omega) (by omega) (by rw [← tx_y g1 g2]; exact hbe) hrd htx (hE.trans (E_5)) hlx hn h2
set_option maxRecDepth 100000 in
set_option maxHeartbeats 4000000 in
theorem c_X5_take {h : ai_H} {S : Md} {t : Nat → Nat} {n : Nat} (hrd : rd_at 13 h S) (htx : rd_tx t n h) (hn : S.1 1 = nI n) {p : Nat} (h3 : S.1 3 = nI p) (hp : p ≤ n) : ai_QM MX5_take [.ref 16] h (fun r g => r = none ∧ xd h g ∧ ∃ T, rd_at 13 g T ∧ lxq S T ∧ T.1 2 = nI (tx_fr t n p) ∧ T.1 3 = nI (tx_e t n (tx_fr t n p)) ∧ T.1 4 = nI (tx_kc (tx_k t n (tx_fr t n p))) ∧ (tx_k t n (tx_fr t n p) ≤ 1 → T.1 5 = nI (tx_v t n (tx_fr t n p)))) := by
  have hlx : lxq S S := lxq.rf
  refine qm_of (ls := [.ref 16]) (by decide) (by simp [ai_en, Value.category]) (by rfl) ?_
  refine wq (fun _ _ kk => rs_aload_n (pc := 0) dX5_take_0 rfl kk) ?_
  refine wq (fun _ _ kk => rs_aload_n (pc := 1) dX5_take_1 rfl kk) ?_
  refine wq (fun _ _ kk => rs_getf (pc := 2) dX5_take_2 fX5_22 (mo_lt hrd (by decide)) hrd.2.1 rfl kk) ?_
  rw [h3]
  refine wq (fun _ _ kk => rs_putf (pc := 5) dX5_take_5 fX5_19 (mo_lt hrd (by decide)) hrd.2.1 rfl (Nat.le_of_ble_eq_true rfl) kk) ?_
  refine wq_gen (fun h_1 e_1 => ?_)
  obtain ⟨m_1, s_1, g_1, o_1⟩ := ai_e1 e_1
  replace hrd := mo_si (k := 2) hrd m_1 g_1 o_1 rfl
  replace htx := htx.keep (xd_of m_1 s_1 o_1 (by decide))
  have E_1 := (xd.rf).trans (xd_of m_1 s_1 o_1 (by decide))
  obtain ⟨S_5, hrd, k_5, r_5, s_5⟩ := rd_new hrd
  replace hlx := hlx.put (by decide) r_5 s_5
  replace hn := (r_5 1 (by decide)).trans hn
  have h2 : S_5.1 2 = nI p := k_5
  exact l_X5_take htx.1 hp (n + 1) p _ _ (Nat.le_refl _) hp (by omega) rfl hrd htx (E_1) hlx hn h2
