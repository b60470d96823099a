/-! 78: the model's numbers and values (walks laid by wip/whole/p78.py) -/
theorem dX12_digits_0 : decode cX12_digits 0 = .ok (.aload_n 0, 1) := by decide +kernel
theorem dX12_digits_1 : decode cX12_digits 1 = .ok (.invokevirtual 307, 3) := by decide +kernel
theorem dX12_digits_4 : decode cX12_digits 4 = .ok (.ifCond .ne 14, 3) := by decide +kernel
theorem dX12_digits_7 : decode cX12_digits 7 = .ok (.aload_n 0, 1) := by decide +kernel
theorem dX12_digits_8 : decode cX12_digits 8 = .ok (.iconst 0, 1) := by decide +kernel
theorem dX12_digits_9 : decode cX12_digits 9 = .ok (.aload_n 0, 1) := by decide +kernel
theorem dX12_digits_10 : decode cX12_digits 10 = .ok (.getfield 267, 3) := by decide +kernel
theorem dX12_digits_13 : decode cX12_digits 13 = .ok (.invokevirtual 303, 3) := by decide +kernel
theorem dX12_digits_16 : decode cX12_digits 16 = .ok (.iconst 0, 1) := by decide +kernel
theorem dX12_digits_17 : decode cX12_digits 17 = .ok (.ireturn, 1) := by decide +kernel
theorem dX12_digits_18 : decode cX12_digits 18 = .ok (.aload_n 0, 1) := by decide +kernel
theorem dX12_digits_19 : decode cX12_digits 19 = .ok (.getfield 267, 3) := by decide +kernel
theorem dX12_digits_22 : decode cX12_digits 22 = .ok (.istore_n 2, 1) := by decide +kernel
theorem dX12_digits_23 : decode cX12_digits 23 = .ok (.iconst 0, 1) := by decide +kernel
theorem dX12_digits_24 : decode cX12_digits 24 = .ok (.istore_n 3, 1) := by decide +kernel
theorem dX12_digits_25 : decode cX12_digits 25 = .ok (.aload_n 0, 1) := by decide +kernel
theorem dX12_digits_26 : decode cX12_digits 26 = .ok (.invokevirtual 307, 3) := by decide +kernel
theorem dX12_digits_29 : decode cX12_digits 29 = .ok (.ifCond .eq 43, 3) := by decide +kernel
theorem dX12_digits_32 : decode cX12_digits 32 = .ok (.aload_n 0, 1) := by decide +kernel
theorem dX12_digits_33 : decode cX12_digits 33 = .ok (.getfield 267, 3) := by decide +kernel
theorem dX12_digits_36 : decode cX12_digits 36 = .ok (.iload_n 2, 1) := by decide +kernel
theorem dX12_digits_37 : decode cX12_digits 37 = .ok (.isub, 1) := by decide +kernel
theorem dX12_digits_38 : decode cX12_digits 38 = .ok (.iconst 5, 1) := by decide +kernel
theorem dX12_digits_39 : decode cX12_digits 39 = .ok (.if_icmp .ge 18, 3) := by decide +kernel
theorem dX12_digits_42 : decode cX12_digits 42 = .ok (.bipush 10, 2) := by decide +kernel
theorem dX12_digits_44 : decode cX12_digits 44 = .ok (.iload_n 3, 1) := by decide +kernel
theorem dX12_digits_45 : decode cX12_digits 45 = .ok (.imul, 1) := by decide +kernel
theorem dX12_digits_46 : decode cX12_digits 46 = .ok (.aload_n 0, 1) := by decide +kernel
theorem dX12_digits_47 : decode cX12_digits 47 = .ok (.invokevirtual 270, 3) := by decide +kernel
theorem dX12_digits_50 : decode cX12_digits 50 = .ok (.iadd, 1) := by decide +kernel
theorem dX12_digits_51 : decode cX12_digits 51 = .ok (.bipush 48, 2) := by decide +kernel
theorem dX12_digits_53 : decode cX12_digits 53 = .ok (.isub, 1) := by decide +kernel
theorem dX12_digits_54 : decode cX12_digits 54 = .ok (.goto 4, 3) := by decide +kernel
theorem dX12_digits_57 : decode cX12_digits 57 = .ok (.iload_n 3, 1) := by decide +kernel
theorem dX12_digits_58 : decode cX12_digits 58 = .ok (.istore_n 3, 1) := by decide +kernel
theorem dX12_digits_59 : decode cX12_digits 59 = .ok (.aload_n 0, 1) := by decide +kernel
theorem dX12_digits_60 : decode cX12_digits 60 = .ok (.dup, 1) := by decide +kernel
theorem dX12_digits_61 : decode cX12_digits 61 = .ok (.getfield 267, 3) := by decide +kernel
theorem dX12_digits_64 : decode cX12_digits 64 = .ok (.iconst 1, 1) := by decide +kernel
theorem dX12_digits_65 : decode cX12_digits 65 = .ok (.iadd, 1) := by decide +kernel
theorem dX12_digits_66 : decode cX12_digits 66 = .ok (.putfield 267, 3) := by decide +kernel
theorem dX12_digits_69 : decode cX12_digits 69 = .ok (.goto (-44), 3) := by decide +kernel
theorem dX12_digits_72 : decode cX12_digits 72 = .ok (.aload_n 0, 1) := by decide +kernel
theorem dX12_digits_73 : decode cX12_digits 73 = .ok (.getfield 267, 3) := by decide +kernel
theorem dX12_digits_76 : decode cX12_digits 76 = .ok (.iload_n 2, 1) := by decide +kernel
theorem dX12_digits_77 : decode cX12_digits 77 = .ok (.isub, 1) := by decide +kernel
theorem dX12_digits_78 : decode cX12_digits 78 = .ok (.iconst 5, 1) := by decide +kernel
theorem dX12_digits_79 : decode cX12_digits 79 = .ok (.if_icmp .gt 8, 3) := by decide +kernel
theorem dX12_digits_82 : decode cX12_digits 82 = .ok (.iload_n 3, 1) := by decide +kernel
theorem dX12_digits_83 : decode cX12_digits 83 = .ok (.iload_n 1, 1) := by decide +kernel
theorem dX12_digits_84 : decode cX12_digits 84 = .ok (.if_icmp .le 9, 3) := by decide +kernel
theorem dX12_digits_87 : decode cX12_digits 87 = .ok (.aload_n 0, 1) := by decide +kernel
theorem dX12_digits_88 : decode cX12_digits 88 = .ok (.iconst 1, 1) := by decide +kernel
theorem dX12_digits_89 : decode cX12_digits 89 = .ok (.iload_n 2, 1) := by decide +kernel
theorem dX12_digits_90 : decode cX12_digits 90 = .ok (.invokevirtual 303, 3) := by decide +kernel
theorem dX12_digits_93 : decode cX12_digits 93 = .ok (.iload_n 3, 1) := by decide +kernel
theorem dX12_digits_94 : decode cX12_digits 94 = .ok (.ireturn, 1) := by decide +kernel
set_option maxRecDepth 100000 in
set_option maxHeartbeats 4000000 in
theorem l_X12_digits {h : ai_H} {S0 : Md} {t : Nat → Nat} {n r p : Nat} (hpn : p < n) : ∀ (m b : Nat) (g : ai_H) (S : Md), p + 0 ≤ b ∧ b ≤ n → n + 1 ≤ b + m → tx_rn (tx_dg t) n b = (tx_rn (tx_dg t) n (p + 1)) → (∀ i, i < b - p → tx_dg t (p + i) = true) → md_at g S → tx_m t n r S → md_ext h g → on1 23 S0 S → S.1 23 = nI b → ai_W MX12_digits 25 [.ref 307, .int 99999, .int (nI p), .int (nI (tx_nv t p (b - p)))] [] g (fun rv g' => rv = some (.int (nI (tx_nv t p ((tx_rn (tx_dg t) n (p + 1)) - p)))) ∧ md_ext h g' ∧ ∃ T, md_at g' T ∧ T.1 23 = nI (tx_rn (tx_dg t) n (p + 1)) ∧ (T.1 24 = if 5 < (tx_rn (tx_dg t) n (p + 1)) - p then (if S0.1 24 = 0 then nI (1 + 8 * p + 1) else S0.1 24) else S0.1 24) ∧ (∀ j, j ≠ 23 → j ≠ 24 → T.1 j = S0.1 j) ∧ T.2 = S0.2) := by
  intro m
  induction m with
  | zero => intro b g S h1 h2; exact absurd h2 (by omega)
  | succ m ih =>
    intro b g S hb0 him hbe hdg hmd htx hE ho hp
    obtain ⟨x22, hn4, x25, hr9, xt⟩ := id htx
    refine wq (fun _ _ kk => rs_aload_n (pc := 25) dX12_digits_25 rfl kk) ?_
    refine wq (fun _ _ kk => rs_callV (as := []) (pc := 26) dX12_digits_26 mk_X12_isDigit mlX12_307 in_X12_isDigit se_X12_isDigit rfl (md_lt hmd (by decide)) hmd.2.1 rfl rfl (Nat.le_of_ble_eq_true rfl) (c_X12_isDigit hmd htx hp (p := b) (by omega)) kk) ?_
    refine wq_br (fun _ _ kt kf => rs_if_eq (tgt := 72) (pc := 29) dX12_digits_29 rfl kt kf) (fun c_29 => ?_) (fun c_29 => ?_)
    · have g1 : ¬ (b < n ∧ tx_dg t b = true) := fun z => absurd c_29 (by rw [if_pos ⟨z.1, of_decide_eq_true z.2⟩]; decide)
      have hb2 : b = (tx_rn (tx_dg t) n (p + 1)) := by rw [← hbe, tx_n g1]
      have hnv : tx_nv t p (b - p) ≤ 99999 := (tx_nv_b _ (fun i hi => hdg i hi)).1
      refine wq (fun _ _ kk => rs_aload_n (pc := 72) dX12_digits_72 rfl kk) ?_
      refine wq (fun _ _ kk => rs_getf (pc := 73) dX12_digits_73 fX12_267 (md_lt hmd (by decide)) hmd.2.1 rfl kk) ?_
      rw [hp]
      refine wq (fun _ _ kk => rs_iload_n (pc := 76) dX12_digits_76 rfl kk) ?_
      refine wq (fun _ _ kk => rs_isub (pc := 77) dX12_digits_77 kk) ?_
      rw [nI_sub (show p ≤ b by omega)]
      refine wq (fun _ _ kk => rs_iconst (v := 5) (pc := 78) dX12_digits_78 rfl kk) ?_
      refine wq_br (fun _ _ kt kf => rs_icmp_gt (tgt := 87) (pc := 79) dX12_digits_79 rfl kt kf) (fun c_79 => ?_) (fun c_79 => ?_)
      · have g3 : 5 < b - p := tx_gt1 (b := 5) (by omega) (by decide) rfl c_79
        refine wq (fun _ _ kk => rs_aload_n (pc := 87) dX12_digits_87 rfl kk) ?_
        refine wq (fun _ _ kk => rs_iconst (v := 1) (pc := 88) dX12_digits_88 rfl kk) ?_
        refine wq (fun _ _ kk => rs_iload_n (pc := 89) dX12_digits_89 rfl kk) ?_
        obtain ⟨rv_90, hc_90, ⟨rfl, ee_90, T_90, hmd_90, ⟨q1, q2⟩, q3⟩, hm_90⟩ := c_X12_fails (c := 1) (a := p) hmd
        refine wq (fun _ _ kk => rs_callV (as := [_, _]) (pc := 90) dX12_digits_90 mk_X12_fails mlX12_303 in_X12_fails se_X12_fails rfl (md_lt hmd (by decide)) hmd.2.1 rfl rfl (Nat.le_of_ble_eq_true rfl) (hm_90) kk) ?_
        replace hmd := hmd_90
        have E_90 := (md_ext.rf).trans ee_90
        refine wq (fun _ _ kk => rs_iload_n (pc := 93) dX12_digits_93 rfl kk) ?_
        refine wq_ret ?_ (rs_iret (pc := 94) dX12_digits_94 rfl)
        exact ⟨by rw [← hb2], hE.trans (E_90), T_90, hmd, by rw [← hb2, q1 23 (by decide)]; exact hp, by rw [q3, ho.1 24 (by decide), ← hb2, if_pos g3], fun j a b => by rw [q1 j b]; exact ho.1 j a, q2.trans ho.2⟩
      · have g3 : ¬ 5 < b - p := Nat.not_lt.mpr (tx_gt2 (b := 5) (by omega) (by decide) rfl c_79)
        refine wq (fun _ _ kk => rs_iload_n (pc := 82) dX12_digits_82 rfl kk) ?_
        refine wq (fun _ _ kk => rs_iload_n (pc := 83) dX12_digits_83 rfl kk) ?_
        refine wq_br (fun _ _ kt kf => rs_icmp_le (tgt := 93) (pc := 84) dX12_digits_84 rfl kt kf) (fun c_84 => ?_) (fun c_84 => absurd c_84 (fun z => z (by rw [show (99999 : Int32) = nI 99999 from rfl]; exact nI_le hnv (by decide))))
        refine wq (fun _ _ kk => rs_iload_n (pc := 93) dX12_digits_93 rfl kk) ?_
        refine wq_ret ?_ (rs_iret (pc := 94) dX12_digits_94 rfl)
        exact ⟨by rw [← hb2], hE, S, hmd, by rw [← hb2]; exact hp, by rw [← hb2, if_neg g3]; exact ho.1 24 (by decide), fun j a b => ho.1 j a, ho.2⟩
    · have g0 : b < n ∧ 48 ≤ t b ∧ t b ≤ 57 := Classical.byContradiction fun z => c_29 (if_neg z)
      have g1 : b < n := g0.1
      have g2 : tx_dg t b = true := decide_eq_true g0.2
      refine wq (fun _ _ kk => rs_aload_n (pc := 32) dX12_digits_32 rfl kk) ?_
      refine wq (fun _ _ kk => rs_getf (pc := 33) dX12_digits_33 fX12_267 (md_lt hmd (by decide)) hmd.2.1 rfl kk) ?_
      rw [hp]
      refine wq (fun _ _ kk => rs_iload_n (pc := 36) dX12_digits_36 rfl kk) ?_
      refine wq (fun _ _ kk => rs_isub (pc := 37) dX12_digits_37 kk) ?_
      rw [nI_sub (show p ≤ b by omega)]
      refine wq (fun _ _ kk => rs_iconst (v := 5) (pc := 38) dX12_digits_38 rfl kk) ?_
      refine wq_br (fun _ _ kt kf => rs_icmp_ge (tgt := 57) (pc := 39) dX12_digits_39 rfl kt kf) (fun c_39 => ?_) (fun c_39 => ?_)
      · have g3 : ¬ b - p < 5 := Nat.not_lt.mpr (tx_le1 (b := 5) (by omega) (by decide) rfl c_39)
        have hv : tx_nv t p (b + 1 - p) = tx_nv t p (b - p) := by rw [show b + 1 - p = (b - p) + 1 by omega, tx_nv, if_neg g3]
        refine wq (fun _ _ kk => rs_iload_n (pc := 57) dX12_digits_57 rfl kk) ?_
        rw [← hv]
        refine wq (fun _ _ kk => wk_istn3 (pc := 58) dX12_digits_58 (by decide) rfl kk) ?_
        refine wq (fun _ _ kk => rs_aload_n (pc := 59) dX12_digits_59 rfl kk) ?_
        refine wq (fun _ _ kk => rs_dup (pc := 60) dX12_digits_60 rfl kk) ?_
        refine wq (fun _ _ kk => rs_getf (pc := 61) dX12_digits_61 fX12_267 (md_lt hmd (by decide)) hmd.2.1 rfl kk) ?_
        rw [hp]
        refine wq (fun _ _ kk => rs_iconst (v := 1) (pc := 64) dX12_digits_64 rfl kk) ?_
        refine wq (fun _ _ kk => rs_iadd (pc := 65) dX12_digits_65 kk) ?_
        refine wq (fun _ _ kk => rs_putf (pc := 66) dX12_digits_66 fX12_267 (md_lt hmd (by decide)) hmd.2.1 rfl (Nat.le_of_ble_eq_true rfl) kk) ?_
        refine wq_gen (fun h_1 e_1 => ?_)
        obtain ⟨m_1, s_1, g_1, o_1⟩ := ai_e1 e_1
        replace hmd := md_at_si (k := 23) hmd m_1 g_1 o_1 rfl
        have E_1 := (md_ext.rf).trans (md_ext_of m_1 s_1 o_1 (by decide))
        obtain ⟨S_66, hmd, k_66, r_66, s_66⟩ := md_new hmd
        rw [nI_1] at k_66
        refine wq (fun _ _ kk => rs_goto (tgt := 25) (pc := 69) dX12_digits_69 rfl kk) ?_
        exact ih (b + 1) _ _ ⟨by omega, by omega⟩ (by omega) (by rw [← tx_y g1 g2]; exact hbe) (fun i hi => by
          by_cases e : i = b - p
          · rw [e, show p + (b - p) = b by omega]; exact g2
          · exact hdg i (by omega)) hmd (htx.of (pfm.put (by decide) r_66 s_66)) (hE.trans (E_1)) (ho.trans ⟨r_66, s_66⟩) k_66
      · have g3 : b - p < 5 := tx_le2 (b := 5) (by omega) (by decide) rfl c_39
        have hv : tx_nv t p (b + 1 - p) = 10 * tx_nv t p (b - p) + (t b - 48) := by rw [show b + 1 - p = (b - p) + 1 by omega, tx_nv, if_pos g3, show p + (b - p) = b by omega]
        refine wq (fun _ _ kk => rs_bipush (v := 10) (pc := 42) dX12_digits_42 rfl kk) ?_
        refine wq (fun _ _ kk => rs_iload_n (pc := 44) dX12_digits_44 rfl kk) ?_
        refine wq (fun _ _ kk => rs_imul (pc := 45) dX12_digits_45 kk) ?_
        refine wq (fun _ _ kk => rs_aload_n (pc := 46) dX12_digits_46 rfl kk) ?_
        refine wq (fun _ _ kk => rs_callV (as := []) (pc := 47) dX12_digits_47 mk_X12_sign mlX12_270 in_X12_sign se_X12_sign rfl (md_lt hmd (by decide)) hmd.2.1 rfl rfl (Nat.le_of_ble_eq_true rfl) (c_X12_sign hmd htx hp (p := b) (by omega)) kk) ?_
        refine wq (fun _ _ kk => rs_iadd (pc := 50) dX12_digits_50 kk) ?_
        refine wq (fun _ _ kk => rs_bipush (v := 48) (pc := 51) dX12_digits_51 rfl kk) ?_
        refine wq (fun _ _ kk => rs_isub (pc := 53) dX12_digits_53 kk) ?_
        rw [show tx_s t n b = nI (t b) from if_pos g1, show (10 : Int32) = nI 10 from rfl, nI_mul, nI_add, show (48 : Int32) = nI 48 from rfl, nI_sub (by omega), show 10 * tx_nv t p (b - p) + t b - 48 = tx_nv t p (b + 1 - p) by omega]
        refine wq (fun _ _ kk => rs_goto (tgt := 58) (pc := 54) dX12_digits_54 rfl kk) ?_
        refine wq (fun _ _ kk => wk_istn3 (pc := 58) dX12_digits_58 (by decide) rfl kk) ?_
        refine wq (fun _ _ kk => rs_aload_n (pc := 59) dX12_digits_59 rfl kk) ?_
        refine wq (fun _ _ kk => rs_dup (pc := 60) dX12_digits_60 rfl kk) ?_
        refine wq (fun _ _ kk => rs_getf (pc := 61) dX12_digits_61 fX12_267 (md_lt hmd (by decide)) hmd.2.1 rfl kk) ?_
        rw [hp]
        refine wq (fun _ _ kk => rs_iconst (v := 1) (pc := 64) dX12_digits_64 rfl kk) ?_
        refine wq (fun _ _ kk => rs_iadd (pc := 65) dX12_digits_65 kk) ?_
        refine wq (fun _ _ kk => rs_putf (pc := 66) dX12_digits_66 fX12_267 (md_lt hmd (by decide)) hmd.2.1 rfl (Nat.le_of_ble_eq_true rfl) kk) ?_
        refine wq_gen (fun h_2 e_2 => ?_)
        obtain ⟨m_2, s_2, g_2, o_2⟩ := ai_e1 e_2
        replace hmd := md_at_si (k := 23) hmd m_2 g_2 o_2 rfl
        have E_2 := (md_ext.rf).trans (md_ext_of m_2 s_2 o_2 (by decide))
        obtain ⟨S_66, hmd, k_66, r_66, s_66⟩ := md_new hmd
        rw [nI_1] at k_66
        refine wq (fun _ _ kk => rs_goto (tgt := 25) (pc := 69) dX12_digits_69 rfl kk) ?_
        exact ih (b + 1) _ _ ⟨by omega, by omega⟩ (by omega) (by rw [← tx_y g1 g2]; exact hbe) (fun i hi => by
          by_cases e : i = b - p
          · rw [e, show p + (b - p) = b by omega]; exact g2
          · exact hdg i (by omega)) hmd (htx.of (pfm.put (by decide) r_66 s_66)) (hE.trans (E_2)) (ho.trans ⟨r_66, s_66⟩) k_66
set_option maxRecDepth 100000 in
set_option maxHeartbeats 4000000 in
theorem c_X12_digits {h : ai_H} {S : Md} {t : Nat → Nat} {n r p : Nat} (hmd : md_at h S) (htx : tx_m t n r S) (hp : S.1 23 = nI p) (hp5 : p ≤ 500) (hpn : p < n) (hd : tx_dg t p = true) : ai_QM MX12_digits [.ref 307, .int 99999] h (fun rv g' => rv = some (.int (nI (tx_nv t p ((tx_rn (tx_dg t) n (p + 1)) - p)))) ∧ md_ext h g' ∧ ∃ T, md_at g' T ∧ T.1 23 = nI (tx_rn (tx_dg t) n (p + 1)) ∧ (T.1 24 = if 5 < (tx_rn (tx_dg t) n (p + 1)) - p then (if S.1 24 = 0 then nI (1 + 8 * p + 1) else S.1 24) else S.1 24) ∧ (∀ j, j ≠ 23 → j ≠ 24 → T.1 j = S.1 j) ∧ T.2 = S.2) := by
  obtain ⟨x22, hn4, x25, hr9, xt⟩ := id htx
  refine qm_of (ls := [.ref 307, .int 99999, .float 0, .float 0]) (by decide) (by simp [ai_en, Value.category]) (by rfl) ?_
  refine wq (fun _ _ kk => rs_aload_n (pc := 0) dX12_digits_0 rfl kk) ?_
  refine wq (fun _ _ kk => rs_callV (as := []) (pc := 1) dX12_digits_1 mk_X12_isDigit mlX12_307 in_X12_isDigit se_X12_isDigit rfl (md_lt hmd (by decide)) hmd.2.1 rfl rfl (Nat.le_of_ble_eq_true rfl) (c_X12_isDigit hmd htx hp (p := p) (by omega)) kk) ?_
  refine wq_bn (fun _ _ kt kf => rs_if_ne (tgt := 18) (pc := 4) dX12_digits_4 rfl kt kf) (fun c_4 => ?_) (fun c_4 => absurd c_4 (by rw [if_pos (show p < n ∧ 48 ≤ t p ∧ t p ≤ 57 from ⟨hpn, of_decide_eq_true hd⟩)]; decide))
  refine wq (fun _ _ kk => rs_aload_n (pc := 18) dX12_digits_18 rfl kk) ?_
  refine wq (fun _ _ kk => rs_getf (pc := 19) dX12_digits_19 fX12_267 (md_lt hmd (by decide)) hmd.2.1 rfl kk) ?_
  rw [hp]
  refine wq (fun _ _ kk => wk_istn2 (pc := 22) dX12_digits_22 (by decide) rfl kk) ?_
  refine wq (fun _ _ kk => rs_iconst (v := 0) (pc := 23) dX12_digits_23 rfl kk) ?_
  refine wq (fun _ _ kk => wk_istn3 (pc := 24) dX12_digits_24 (by decide) rfl kk) ?_
  have h0 := l_X12_digits (S0 := S) hpn (n + 1) p h S ⟨by omega, by omega⟩ (by omega) (tx_y hpn hd) (fun i hi => absurd hi (by omega)) hmd htx md_ext.rf on1.rf hp
  rw [Nat.sub_self] at h0
  exact h0
/-- what value does -/
def vpost (t : Nat → Nat) (n r p : Nat) (E : List Tk) (S T : Md) : Prop := pfm r S T ∧ T.1 27 = S.1 27 ∧ T.1 29 = S.1 29 ∧ T.2.2.1 37 = S.2.2.1 37 ∧ (∃ q, T.1 23 = nI q ∧ q ≤ 500) ∧ (¬ S.1 24 = 0 → T.1 24 = S.1 24) ∧ (S.1 24 = 0 → if tx_k t n (tx_fr t n p) ≠ 0 ∧ tx_k t n (tx_fr t n p) ≠ 1 then T.1 24 = nI (1 + 8 * (tx_fr t n p) + 0) else if tx_k t n (tx_fr t n p) = 0 ∧ 5 < tx_e t n (tx_fr t n p) - (tx_fr t n p) then T.1 24 = nI (1 + 8 * (tx_fr t n p) + 1) else if S.1 28 = 60 then T.1 24 = nI (1 + 8 * (tx_fr t n p) + 3) else T.1 24 = 0 ∧ T.1 23 = nI (tx_e t n (tx_fr t n p)) ∧ T.1 28 = S.1 28 + 1 ∧ T.1 26 = nI (E ++ [(tx_k t n (tx_fr t n p), tx_v t n (tx_fr t n p))]).length ∧ MT T r 0 (E ++ [(tx_k t n (tx_fr t n p), tx_v t n (tx_fr t n p))]))
theorem tx_fr_500 {t : Nat → Nat} {n p : Nat} (hn : n ≤ 400) (hp : p ≤ 500) : tx_fr t n p ≤ 500 := by
  rcases Nat.le_total p n with h | h
  · have := tx_fr_le (t := t) h; omega
  · rw [tx_fr, (tx_ge (P := tx_bl t) (n := n) _ p rfl).2.2.1 h]; exact hp
theorem tx_k_dg {t : Nat → Nat} {n a : Nat} (h : a < n) (hd : tx_dg t a = true) : tx_k t n a = 0 ∧ tx_e t n a = tx_rn (tx_dg t) n (a + 1) ∧ tx_v t n a = tx_nv t a (tx_rn (tx_dg t) n (a + 1) - a) := by
  refine ⟨?_, ?_, ?_⟩
  · unfold tx_k; rw [if_neg (by omega), if_pos hd]
  · unfold tx_e; rw [if_neg (by omega), if_pos hd]
  · unfold tx_v; rw [if_pos hd]
/-- a word that stands at a place -/
theorem tx_ix_at {t : Nat → Nat} {n a j : Nat} (hj : j < 15) (h : tx_ix t a (tx_rn (tx_lt t) n a) = j) : a < n ∧ tx_lt t a = true ∧ tx_dg t a = false ∧ tx_rn (tx_lt t) n a = tx_rn (tx_lt t) n (a + 1) ∧ tx_rn (tx_lt t) n (a + 1) = a + ai_sl.getD j 0 := by
  have h1 := ((tx_spell hj).mp h).1
  have h2 := tx_sl j hj
  by_cases hc : a < n ∧ tx_lt t a = true
  · have h3 := tx_y (P := tx_lt t) hc.1 hc.2
    have h4 := of_decide_eq_true hc.2
    refine ⟨hc.1, hc.2, decide_eq_false (by omega), h3, ?_⟩
    rw [← h3]
    have := tx_rn_ge (P := tx_lt t) (n := n) (p := a)
    omega
  · rw [tx_n hc] at h1
    omega
theorem tx_k_wd {t : Nat → Nat} {n a j : Nat} (hj : j < 15) (h : tx_ix t a (tx_rn (tx_lt t) n a) = j) : tx_k t n a = tx_wk j ∧ tx_e t n a = a + ai_sl.getD j 0 ∧ tx_v t n a = j - 5 := by
  obtain ⟨h1, h2, h3, h4, h5⟩ := tx_ix_at hj h
  rw [h4] at h
  refine ⟨?_, ?_, ?_⟩
  · unfold tx_k; rw [if_neg (by omega), if_neg (by rw [h3]; decide), if_pos h2, h]
  · unfold tx_e; rw [if_neg (by omega), if_neg (by rw [h3]; decide), if_pos h2, h5]
  · unfold tx_v; rw [if_neg (by rw [h3]; decide), h]
/-- a word token stands at its place -/
theorem tx_wd_k {t : Nat → Nat} {n a k j : Nat} (h : tx_k t n a = k) (hj : j < 15) (hk : tx_wk j = k) (hu : ∀ i, i < 15 → tx_wk i = k → i = j) (hs : ∀ c d, tx_sk c d ≠ k) (h0 : k ≠ 0 ∧ k ≠ 18 ∧ k ≠ 19) : tx_ix t a (tx_rn (tx_lt t) n a) = j := by
  unfold tx_k at h
  by_cases h1 : n ≤ a
  · rw [if_pos h1] at h; omega
  rw [if_neg h1] at h
  by_cases h2 : tx_dg t a = true
  · rw [if_pos h2] at h; omega
  rw [if_neg h2] at h
  by_cases h3 : tx_lt t a = true
  · rw [if_pos h3] at h
    rw [tx_y (by omega) h3]
    refine hu _ ?_ h
    have := tx_ix_le t a (tx_rn (tx_lt t) n (a + 1))
    by_cases e : tx_ix t a (tx_rn (tx_lt t) n (a + 1)) = 15
    · rw [e] at h; exact absurd h (by have : tx_wk 15 = 19 := rfl; omega)
    · omega
  · rw [if_neg h3] at h
    exact absurd h (hs _ _)
theorem tx_k_no {t : Nat → Nat} {n a : Nat} (hd : ¬ (a < n ∧ 48 ≤ t a ∧ t a ≤ 57)) (hw : ∀ j, 5 ≤ j → j < 15 → ¬ tx_ix t a (tx_rn (tx_lt t) n a) = j) : tx_k t n a ≠ 0 ∧ tx_k t n a ≠ 1 := by
  unfold tx_k
  by_cases h1 : n ≤ a
  · rw [if_pos h1]; decide
  rw [if_neg h1, if_neg (show ¬ tx_dg t a = true from fun z => hd ⟨by omega, of_decide_eq_true z⟩)]
  by_cases h3 : tx_lt t a = true
  · rw [if_pos h3, ← tx_y (by omega) h3]
    have hk := (tx_wk_no (j := tx_ix t a (tx_rn (tx_lt t) n a)) rfl).1
    refine ⟨hk, fun z => ?_⟩
    have := tx_wk_1 z
    exact hw _ this.1 this.2 rfl
  · rw [if_neg h3]
    have := tx_sk_no (c := t a) (d := tx_ch t n (a + 1)) rfl
    exact ⟨this.1, this.2.1⟩
/-- entry at any fault -/
theorem c_X12_entryA {h : ai_H} {S : Md} {t : Nat → Nat} {n r : Nat} {E : List Tk} {k v : Nat} (hmd : md_at h S) (htx : tx_m t n r S) (he : S.1 24 = 0 → S.1 26 = nI E.length ∧ MT S r 0 E ∧ E.length < 300) : ai_QM MX12_entry [.ref 307, .int (nI k), .int (nI v)] h (fun rv g => rv = none ∧ md_ext h g ∧ ∃ T, md_at g T ∧ pfm r S T ∧ (∀ j, j ≠ 26 → T.1 j = S.1 j) ∧ T.2.2.1 37 = S.2.2.1 37 ∧ (S.1 24 = 0 → T.1 26 = nI (E ++ [(k, v)]).length ∧ MT T r 0 (E ++ [(k, v)]))) := by
  by_cases h0 : S.1 24 = 0
  · obtain ⟨e1, e2, e3⟩ := he h0
    refine qm_mono ?_ (c_X12_entry (k := k) (v := v) hmd htx h0 e1 e2 e3)
    rintro rv g ⟨a1, a2, T, a3, a4, a5, a6, a7, a8⟩
    exact ⟨a1, a2, T, a3, a4, a5, a6, fun _ => ⟨a7, a8⟩⟩
  · refine qm_mono ?_ (q_X12_entryF (k := nI k) (v := nI v) hmd h0)
    rintro rv g ⟨a1, rfl⟩
    exact ⟨a1, md_ext.rf, S, hmd, pfm.rf, fun _ _ => rfl, rfl, fun z => absurd z h0⟩
theorem dX12_value_0 : decode cX12_value 0 = .ok (.aload_n 0, 1) := by decide +kernel
theorem dX12_value_1 : decode cX12_value 1 = .ok (.invokevirtual 287, 3) := by decide +kernel
theorem dX12_value_4 : decode cX12_value 4 = .ok (.aload_n 0, 1) := by decide +kernel
theorem dX12_value_5 : decode cX12_value 5 = .ok (.getfield 267, 3) := by decide +kernel
theorem dX12_value_8 : decode cX12_value 8 = .ok (.istore_n 1, 1) := by decide +kernel
theorem dX12_value_9 : decode cX12_value 9 = .ok (.aload_n 0, 1) := by decide +kernel
theorem dX12_value_10 : decode cX12_value 10 = .ok (.invokevirtual 307, 3) := by decide +kernel
theorem dX12_value_13 : decode cX12_value 13 = .ok (.ifCond .eq 23, 3) := by decide +kernel
theorem dX12_value_16 : decode cX12_value 16 = .ok (.aload_n 0, 1) := by decide +kernel
theorem dX12_value_17 : decode cX12_value 17 = .ok (.ldc_w 311, 3) := by decide +kernel
theorem dX12_value_20 : decode cX12_value 20 = .ok (.invokevirtual 312, 3) := by decide +kernel
theorem dX12_value_23 : decode cX12_value 23 = .ok (.istore_n 2, 1) := by decide +kernel
theorem dX12_value_24 : decode cX12_value 24 = .ok (.aload_n 0, 1) := by decide +kernel
theorem dX12_value_25 : decode cX12_value 25 = .ok (.iload_n 1, 1) := by decide +kernel
theorem dX12_value_26 : decode cX12_value 26 = .ok (.invokevirtual 315, 3) := by decide +kernel
theorem dX12_value_29 : decode cX12_value 29 = .ok (.aload_n 0, 1) := by decide +kernel
theorem dX12_value_30 : decode cX12_value 30 = .ok (.iconst 0, 1) := by decide +kernel
theorem dX12_value_31 : decode cX12_value 31 = .ok (.iload_n 2, 1) := by decide +kernel
theorem dX12_value_32 : decode cX12_value 32 = .ok (.invokevirtual 318, 3) := by decide +kernel
theorem dX12_value_35 : decode cX12_value 35 = .ok (.return_, 1) := by decide +kernel
theorem dX12_value_36 : decode cX12_value 36 = .ok (.iconst 0, 1) := by decide +kernel
theorem dX12_value_37 : decode cX12_value 37 = .ok (.istore_n 2, 1) := by decide +kernel
theorem dX12_value_38 : decode cX12_value 38 = .ok (.iload_n 2, 1) := by decide +kernel
theorem dX12_value_39 : decode cX12_value 39 = .ok (.bipush 10, 2) := by decide +kernel
theorem dX12_value_41 : decode cX12_value 41 = .ok (.if_icmp .ge 20, 3) := by decide +kernel
theorem dX12_value_44 : decode cX12_value 44 = .ok (.aload_n 0, 1) := by decide +kernel
theorem dX12_value_45 : decode cX12_value 45 = .ok (.iload_n 2, 1) := by decide +kernel
theorem dX12_value_46 : decode cX12_value 46 = .ok (.invokestatic 321, 3) := by decide +kernel
theorem dX12_value_49 : decode cX12_value 49 = .ok (.invokevirtual 290, 3) := by decide +kernel
theorem dX12_value_52 : decode cX12_value 52 = .ok (.ifCond .ne 9, 3) := by decide +kernel
theorem dX12_value_55 : decode cX12_value 55 = .ok (.iinc 2 1, 3) := by decide +kernel
theorem dX12_value_58 : decode cX12_value 58 = .ok (.goto (-20), 3) := by decide +kernel
theorem dX12_value_61 : decode cX12_value 61 = .ok (.iload_n 2, 1) := by decide +kernel
theorem dX12_value_62 : decode cX12_value 62 = .ok (.bipush 10, 2) := by decide +kernel
theorem dX12_value_64 : decode cX12_value 64 = .ok (.if_icmp .ne 10, 3) := by decide +kernel
theorem dX12_value_67 : decode cX12_value 67 = .ok (.aload_n 0, 1) := by decide +kernel
theorem dX12_value_68 : decode cX12_value 68 = .ok (.iconst 0, 1) := by decide +kernel
theorem dX12_value_69 : decode cX12_value 69 = .ok (.iload_n 1, 1) := by decide +kernel
theorem dX12_value_70 : decode cX12_value 70 = .ok (.invokevirtual 303, 3) := by decide +kernel
theorem dX12_value_73 : decode cX12_value 73 = .ok (.return_, 1) := by decide +kernel
theorem dX12_value_74 : decode cX12_value 74 = .ok (.aload_n 0, 1) := by decide +kernel
theorem dX12_value_75 : decode cX12_value 75 = .ok (.iload_n 1, 1) := by decide +kernel
theorem dX12_value_76 : decode cX12_value 76 = .ok (.invokevirtual 315, 3) := by decide +kernel
theorem dX12_value_79 : decode cX12_value 79 = .ok (.aload_n 0, 1) := by decide +kernel
theorem dX12_value_80 : decode cX12_value 80 = .ok (.dup, 1) := by decide +kernel
theorem dX12_value_81 : decode cX12_value 81 = .ok (.getfield 267, 3) := by decide +kernel
theorem dX12_value_84 : decode cX12_value 84 = .ok (.iload_n 2, 1) := by decide +kernel
theorem dX12_value_85 : decode cX12_value 85 = .ok (.invokestatic 321, 3) := by decide +kernel
theorem dX12_value_88 : decode cX12_value 88 = .ok (.invokevirtual 278, 3) := by decide +kernel
theorem dX12_value_91 : decode cX12_value 91 = .ok (.iadd, 1) := by decide +kernel
theorem dX12_value_92 : decode cX12_value 92 = .ok (.putfield 267, 3) := by decide +kernel
theorem dX12_value_95 : decode cX12_value 95 = .ok (.aload_n 0, 1) := by decide +kernel
theorem dX12_value_96 : decode cX12_value 96 = .ok (.iconst 1, 1) := by decide +kernel
theorem dX12_value_97 : decode cX12_value 97 = .ok (.iload_n 2, 1) := by decide +kernel
theorem dX12_value_98 : decode cX12_value 98 = .ok (.invokevirtual 318, 3) := by decide +kernel
theorem dX12_value_101 : decode cX12_value 101 = .ok (.return_, 1) := by decide +kernel
set_option maxRecDepth 100000 in
set_option maxHeartbeats 4000000 in
theorem c_X12_value {h : ai_H} {S : Md} {t : Nat → Nat} {n r p : Nat} {E : List Tk} (hmd : md_at h S) (htx : tx_m t n r S) (hp : S.1 23 = nI p) (hp5 : p ≤ 500) (hE : S.1 24 = 0 → S.1 26 = nI E.length ∧ MT S r 0 E ∧ E.length < 300) (h28 : S.1 24 = 0 → ∃ pa, pa ≤ 60 ∧ S.1 28 = nI pa) : ai_QM MX12_value [.ref 307] h (fun rv g' => rv = none ∧ md_ext h g' ∧ ∃ T, md_at g' T ∧ vpost t n r p E S T) := by
  obtain ⟨x22, hn4, x25, hr9, xt⟩ := id htx
  refine qm_of (ls := [.ref 307, .float 0, .float 0]) (by decide) (by simp [ai_en, Value.category]) (by rfl) ?_
  refine wq (fun _ _ kk => rs_aload_n (pc := 0) dX12_value_0 rfl kk) ?_
  obtain ⟨rv_1, hc_1, ⟨rfl, ee_1, T_1, hmd_1, b1, b2⟩, hm_1⟩ := c_X12_blanks hmd htx hp hp5
  refine wq (fun _ _ kk => rs_callV (as := []) (pc := 1) dX12_value_1 mk_X12_blanks mlX12_287 in_X12_blanks se_X12_blanks rfl (md_lt hmd (by decide)) hmd.2.1 rfl rfl (Nat.le_of_ble_eq_true rfl) (hm_1) kk) ?_
  replace hmd := hmd_1
  have htx1 := htx.of (b1.f (by decide))
  have hfr5 := tx_fr_500 (t := t) hn4 hp5
  have E_1 := (md_ext.rf).trans ee_1
  refine wq (fun _ _ kk => rs_aload_n (pc := 4) dX12_value_4 rfl kk) ?_
  refine wq (fun _ _ kk => rs_getf (pc := 5) dX12_value_5 fX12_267 (md_lt hmd (by decide)) hmd.2.1 rfl kk) ?_
  rw [b2]
  refine wq (fun _ _ kk => wk_istn1 (pc := 8) dX12_value_8 (by decide) rfl kk) ?_
  refine wq (fun _ _ kk => rs_aload_n (pc := 9) dX12_value_9 rfl kk) ?_
  refine wq (fun _ _ kk => rs_callV (as := []) (pc := 10) dX12_value_10 mk_X12_isDigit mlX12_307 in_X12_isDigit se_X12_isDigit rfl (md_lt hmd (by decide)) hmd.2.1 rfl rfl (Nat.le_of_ble_eq_true rfl) (c_X12_isDigit hmd htx1 b2 hfr5) kk) ?_
  refine wq_br (fun _ _ kt kf => rs_if_eq (tgt := 36) (pc := 13) dX12_value_13 rfl kt kf) (fun c_13 => ?_) (fun c_13 => ?_)
  · have g0 : ¬ ((tx_fr t n p) < n ∧ 48 ≤ t (tx_fr t n p) ∧ t (tx_fr t n p) ≤ 57) := fun z => absurd c_13 (by rw [if_pos z]; decide)
    refine wq (fun _ _ kk => rs_iconst (v := 0) (pc := 36) dX12_value_36 rfl kk) ?_
    refine wq (fun _ _ kk => wk_istn2 (pc := 37) dX12_value_37 (by decide) rfl kk) ?_
    have hgo : ∀ (m i : Nat), i ≤ 10 → 11 ≤ i + m → (∀ j, 5 ≤ j → j < 5 + i → ¬ tx_ix t (tx_fr t n p) (tx_rn (tx_lt t) n (tx_fr t n p)) = j) → ai_W MX12_value 38 [.ref 307, .int (nI (tx_fr t n p)), .int (nI i)] [] hc_1 (fun rv g' => rv = none ∧ md_ext h g' ∧ ∃ T, md_at g' T ∧ vpost t n r p E S T) := by
      intro m
      induction m with
      | zero => intro i h1 h2; exact absurd h2 (by omega)
      | succ m ih =>
        intro i hi0 him hal
        refine wq (fun _ _ kk => rs_iload_n (pc := 38) dX12_value_38 rfl kk) ?_
        refine wq (fun _ _ kk => rs_bipush (v := 10) (pc := 39) dX12_value_39 rfl kk) ?_
        refine wq_br (fun _ _ kt kf => rs_icmp_ge (tgt := 61) (pc := 41) dX12_value_41 rfl kt kf) (fun c_41 => ?_) (fun c_41 => ?_)
        · have g1 : 10 ≤ i := tx_le1 (a := i) (b := 10) (by omega) (by decide) rfl c_41
          refine wq (fun _ _ kk => rs_iload_n (pc := 61) dX12_value_61 rfl kk) ?_
          refine wq (fun _ _ kk => rs_bipush (v := 10) (pc := 62) dX12_value_62 rfl kk) ?_
          refine wq_bn (fun _ _ kt kf => rs_icmp_ne (tgt := 74) (pc := 64) dX12_value_64 rfl kt kf) (fun c_64 => absurd c_64 (fun z => z (by rw [show i = 10 by omega]; rfl))) (fun c_64 => ?_)
          refine wq (fun _ _ kk => rs_aload_n (pc := 67) dX12_value_67 rfl kk) ?_
          refine wq (fun _ _ kk => rs_iconst (v := 0) (pc := 68) dX12_value_68 rfl kk) ?_
          refine wq (fun _ _ kk => rs_iload_n (pc := 69) dX12_value_69 rfl kk) ?_
          obtain ⟨rv_70, hc_70, ⟨rfl, ee_70, T_70, hmd_70, q0, q3⟩, hm_70⟩ := c_X12_fails (c := 0) (a := (tx_fr t n p)) hmd
          refine wq (fun _ _ kk => rs_callV (as := [_, _]) (pc := 70) dX12_value_70 mk_X12_fails mlX12_303 in_X12_fails se_X12_fails rfl (md_lt hmd (by decide)) hmd.2.1 rfl rfl (Nat.le_of_ble_eq_true rfl) (hm_70) kk) ?_
          replace hmd := hmd_70
          have hno : ∀ j, 5 ≤ j → j < 15 → ¬ tx_ix t (tx_fr t n p) (tx_rn (tx_lt t) n (tx_fr t n p)) = j := fun j h1 h2 => hal j h1 (by omega)
          have E_70 := (ee_1).trans ee_70
          refine wq_ret ?_ (rs_vret (pc := 73) dX12_value_73 rfl)
          refine ⟨rfl, E_70, T_70, hmd, ?_⟩
          have u24 : T_1.1 24 = S.1 24 := b1.1 24 (by decide)
          refine ⟨(b1.f (by decide)).trans (q0.f (by decide)), by rw [q0.1 27 (by decide), b1.1 27 (by decide)], by rw [q0.1 29 (by decide), b1.1 29 (by decide)], by rw [q0.2, b1.2], ⟨(tx_fr t n p), by rw [q0.1 23 (by decide)]; exact b2, hfr5⟩, fun z => ?_, fun z => ?_⟩
          · rw [q3, u24, if_neg z]
          · rw [if_pos (tx_k_no g0 hno), q3, u24, if_pos z]
        · have g1 : i < 10 := tx_le2 (a := i) (b := 10) (by omega) (by decide) rfl c_41
          refine wq (fun _ _ kk => rs_aload_n (pc := 44) dX12_value_44 rfl kk) ?_
          refine wq (fun _ _ kk => rs_iload_n (pc := 45) dX12_value_45 rfl kk) ?_
          refine wq (fun _ _ kk => rs_callS (as := [_]) (pc := 46) dX12_value_46 mk_X12_wordOf mlX12_321 st_X12_wordOf rfl rfl (Nat.le_of_ble_eq_true rfl) (c_X12_wordOf g1) kk) ?_
          refine wq (fun _ _ kk => rs_callV (as := [_]) (pc := 49) dX12_value_49 mk_X12_stands mlX12_290 in_X12_stands se_X12_stands rfl (md_lt hmd (by decide)) hmd.2.1 rfl rfl (Nat.le_of_ble_eq_true rfl) (c_X12_stands (j := 5 + i) (by omega) hmd htx1 b2 hfr5) kk) ?_
          refine wq_bn (fun _ _ kt kf => rs_if_ne (tgt := 61) (pc := 52) dX12_value_52 rfl kt kf) (fun c_52 => ?_) (fun c_52 => ?_)
          · have g2 : tx_ix t (tx_fr t n p) (tx_rn (tx_lt t) n (tx_fr t n p)) = 5 + i := Classical.byContradiction fun z => c_52 (if_neg z)
            refine wq (fun _ _ kk => rs_iload_n (pc := 61) dX12_value_61 rfl kk) ?_
            refine wq (fun _ _ kk => rs_bipush (v := 10) (pc := 62) dX12_value_62 rfl kk) ?_
            refine wq_bn (fun _ _ kt kf => rs_icmp_ne (tgt := 74) (pc := 64) dX12_value_64 rfl kt kf) (fun c_64 => ?_) (fun c_64 => absurd c_64 (fun z => absurd (tx_eq1 (b := 10) (by omega) (by decide) rfl z) (by omega)))
            refine wq (fun _ _ kk => rs_aload_n (pc := 74) dX12_value_74 rfl kk) ?_
            refine wq (fun _ _ kk => rs_iload_n (pc := 75) dX12_value_75 rfl kk) ?_
            obtain ⟨rv_76, hc_76, ⟨rfl, ee_76, T_76, hmd_76, y1, y2, y3, y4⟩, hm_76⟩ := c_X12_isCounted (a := (tx_fr t n p)) hmd
            refine wq (fun _ _ kk => rs_callV (as := [_]) (pc := 76) dX12_value_76 mk_X12_isCounted mlX12_315 in_X12_isCounted se_X12_isCounted rfl (md_lt hmd (by decide)) hmd.2.1 rfl rfl (Nat.le_of_ble_eq_true rfl) (hm_76) kk) ?_
            replace hmd := hmd_76
            have E_76 := (ee_1).trans ee_76
            refine wq (fun _ _ kk => rs_aload_n (pc := 79) dX12_value_79 rfl kk) ?_
            refine wq (fun _ _ kk => rs_dup (pc := 80) dX12_value_80 rfl kk) ?_
            refine wq (fun _ _ kk => rs_getf (pc := 81) dX12_value_81 fX12_267 (md_lt hmd (by decide)) hmd.2.1 rfl kk) ?_
            rw [y1 23 (by decide) (by decide), b2]
            refine wq (fun _ _ kk => rs_iload_n (pc := 84) dX12_value_84 rfl kk) ?_
            refine wq (fun _ _ kk => rs_callS (as := [_]) (pc := 85) dX12_value_85 mk_X12_wordOf mlX12_321 st_X12_wordOf rfl rfl (Nat.le_of_ble_eq_true rfl) (c_X12_wordOf (k := i) (by omega)) kk) ?_
            refine wq (fun _ _ kk => rs_callVS (as := []) (pc := 88) dX12_value_88 mk_J0_length_8abf5 mlX12_278 in_J0_length_8abf5 se_J0_length_8abf5 rfl (show 5 + i < 15 by omega) rfl rfl (Nat.le_of_ble_eq_true rfl) (c_length (j := 5 + i) (by omega)) kk) ?_
            refine wq (fun _ _ kk => rs_iadd (pc := 91) dX12_value_91 kk) ?_
            rw [nI_add]
            refine wq (fun _ _ kk => rs_putf (pc := 92) dX12_value_92 fX12_267 (md_lt hmd (by decide)) hmd.2.1 rfl (Nat.le_of_ble_eq_true rfl) kk) ?_
            refine wq_gen (fun h_1 e_1 => ?_)
            obtain ⟨m_1, s_1, g_1, o_1⟩ := ai_e1 e_1
            replace hmd := md_at_si (k := 23) hmd m_1 g_1 o_1 rfl
            have E_1 := (E_76).trans (md_ext_of m_1 s_1 o_1 (by decide))
            obtain ⟨S_92, hmd, k_92, r_92, s_92⟩ := md_new hmd
            have hpf2 : pfm r T_1 S_92 := ⟨fun j a1 a2 a3 a4 a5 a6 => by rw [r_92 j a1, y1 j a2 a5], by rw [s_92, y2], by rw [s_92, y2], fun j _ _ _ => by rw [s_92, y2], fun i _ => by rw [s_92, y2]; exact ⟨rfl, rfl⟩⟩
            have hEE : S_92.1 24 = 0 → S_92.1 26 = nI E.length ∧ MT S_92 r 0 E ∧ E.length < 300 := fun z => by
              have hS0 : S.1 24 = 0 := by
                refine Classical.byContradiction fun w => ?_
                rw [r_92 24 (by decide), y4, b1.1 24 (by decide)] at z
                simp only [if_neg w, ite_self] at z
                exact w z
              obtain ⟨e1, e2, e3⟩ := hE hS0
              exact ⟨by rw [r_92 26 (by decide), y1 26 (by decide) (by decide), b1.1 26 (by decide)]; exact e1, MT_cong e2 (fun k _ => by rw [s_92, y2, b1.2]; exact ⟨rfl, rfl⟩), e3⟩
            refine wq (fun _ _ kk => rs_aload_n (pc := 95) dX12_value_95 rfl kk) ?_
            refine wq (fun _ _ kk => rs_iconst (v := 1) (pc := 96) dX12_value_96 rfl kk) ?_
            refine wq (fun _ _ kk => rs_iload_n (pc := 97) dX12_value_97 rfl kk) ?_
            obtain ⟨rv_98, hc_98, ⟨rfl, ee_98, T_98, hmd_98, w1, w2, w3, w4⟩, hm_98⟩ := c_X12_entryA (E := E) (k := 1) (v := i) hmd (htx1.of hpf2) (fun z => hEE z)
            refine wq (fun _ _ kk => rs_callV (as := [_, _]) (pc := 98) dX12_value_98 mk_X12_entry mlX12_318 in_X12_entry se_X12_entry rfl (md_lt hmd (by decide)) hmd.2.1 rfl rfl (Nat.le_of_ble_eq_true rfl) (hm_98) kk) ?_
            replace hmd := hmd_98
            have E_98 := (E_1).trans ee_98
            refine wq_ret ?_ (rs_vret (pc := 101) dX12_value_101 rfl)
            refine ⟨rfl, E_98, T_98, hmd, ?_⟩
            have f24 : T_98.1 24 = T_76.1 24 := by rw [w2 24 (by decide), r_92 24 (by decide)]
            have u24 : T_1.1 24 = S.1 24 := b1.1 24 (by decide)
            have u28 : T_1.1 28 = S.1 28 := b1.1 28 (by decide)
            refine ⟨(b1.f (by decide)).trans (hpf2.trans w1), by rw [w2 27 (by decide), r_92 27 (by decide), y1 27 (by decide) (by decide), b1.1 27 (by decide)], by rw [w2 29 (by decide), r_92 29 (by decide), y1 29 (by decide) (by decide), b1.1 29 (by decide)], by rw [w3, s_92, y2, b1.2], ⟨(tx_fr t n p) + ai_sl.getD (5 + i) 0, by rw [w2 23 (by decide)]; exact k_92, by have := tx_sl (5 + i) (by omega); have := (tx_ix_at (by omega) g2).1; omega⟩, fun z => ?_, fun z => ?_⟩
            · rw [f24, y4, u28, u24]
              simp only [if_neg z, ite_self]
            · obtain ⟨k1, k2, k3⟩ := tx_k_wd (t := t) (by omega) g2
              have kk1 : tx_wk (5 + i) = 1 := by rw [tx_wk_hi (by omega), if_pos (by omega)]
              rw [k1, k2, k3, kk1, if_neg (by decide), if_neg (fun w => absurd w.1 (by decide))]
              rw [show 5 + i - 5 = i by omega]
              by_cases c6 : S.1 28 = 60
              · rw [if_pos c6, f24, y4, u28, if_pos c6, u24, if_pos z]
              · rw [if_neg c6]
                have z26 : S_92.1 24 = 0 := by rw [r_92 24 (by decide), y4, u28, if_neg c6, u24]; exact z
                obtain ⟨v1, v2⟩ := w4 z26
                exact ⟨by rw [w2 24 (by decide)]; exact z26, by rw [w2 23 (by decide)]; exact k_92, by rw [w2 28 (by decide), r_92 28 (by decide), y3, u28], v1, v2⟩
          · have g2 : ¬ tx_ix t (tx_fr t n p) (tx_rn (tx_lt t) n (tx_fr t n p)) = 5 + i := fun z => absurd c_52 (by rw [if_pos z]; decide)
            refine wq (fun _ _ kk => wk_iinc2 (v := nI (i + 1)) (pc := 55) dX12_value_55 (by decide) rfl (nI_1 i) kk) ?_
            refine wq (fun _ _ kk => rs_goto (tgt := 38) (pc := 58) dX12_value_58 rfl kk) ?_
            exact ih (i + 1) (by omega) (by omega) (fun j h1 h2 => by
              by_cases e : j = 5 + i
              · rw [e]; exact g2
              · exact hal j h1 (by omega))
    exact hgo 11 0 (by omega) (by omega) (fun j h1 h2 => absurd h2 (by omega))
  · have g0 : (tx_fr t n p) < n ∧ 48 ≤ t (tx_fr t n p) ∧ t (tx_fr t n p) ≤ 57 := Classical.byContradiction fun z => c_13 (if_neg z)
    have g2 : tx_dg t (tx_fr t n p) = true := decide_eq_true g0.2
    refine wq (fun _ _ kk => rs_aload_n (pc := 16) dX12_value_16 rfl kk) ?_
    refine wq (fun _ _ kk => rs_ldcw (pc := 17) dX12_value_17 cnX12_311 kk) ?_
    obtain ⟨rv_20, hc_20, ⟨rfl, ee_20, T_20, hmd_20, d2, d3, d4, d5⟩, hm_20⟩ := c_X12_digits hmd htx1 b2 hfr5 g0.1 g2
    refine wq (fun _ _ kk => rs_callV (as := [_]) (pc := 20) dX12_value_20 mk_X12_digits mlX12_312 in_X12_digits se_X12_digits rfl (md_lt hmd (by decide)) hmd.2.1 rfl rfl (Nat.le_of_ble_eq_true rfl) (hm_20) kk) ?_
    replace hmd := hmd_20
    have E_20 := (E_1).trans ee_20
    refine wq (fun _ _ kk => wk_istn2 (pc := 23) dX12_value_23 (by decide) rfl kk) ?_
    refine wq (fun _ _ kk => rs_aload_n (pc := 24) dX12_value_24 rfl kk) ?_
    refine wq (fun _ _ kk => rs_iload_n (pc := 25) dX12_value_25 rfl kk) ?_
    obtain ⟨rv_26, hc_26, ⟨rfl, ee_26, T_26, hmd_26, y1, y2, y3, y4⟩, hm_26⟩ := c_X12_isCounted (a := (tx_fr t n p)) hmd
    refine wq (fun _ _ kk => rs_callV (as := [_]) (pc := 26) dX12_value_26 mk_X12_isCounted mlX12_315 in_X12_isCounted se_X12_isCounted rfl (md_lt hmd (by decide)) hmd.2.1 rfl rfl (Nat.le_of_ble_eq_true rfl) (hm_26) kk) ?_
    replace hmd := hmd_26
    have hpf : pfm r T_1 T_26 := ⟨fun j a1 a2 a3 a4 a5 a6 => by rw [y1 j a2 a5, d4 j a1 a2], by rw [y2, d5], by rw [y2, d5], fun j _ _ _ => by rw [y2, d5], fun i _ => by rw [y2, d5]; exact ⟨rfl, rfl⟩⟩
    have hEE : T_26.1 24 = 0 → T_26.1 26 = nI E.length ∧ MT T_26 r 0 E ∧ E.length < 300 := fun z => by
      have hS0 : S.1 24 = 0 := by
        refine Classical.byContradiction fun w => ?_
        rw [y4, d3, b1.1 24 (by decide)] at z
        simp only [if_neg w, ite_self] at z
        exact w z
      obtain ⟨e1, e2, e3⟩ := hE hS0
      exact ⟨by rw [y1 26 (by decide) (by decide), d4 26 (by decide) (by decide), b1.1 26 (by decide)]; exact e1, MT_cong e2 (fun k _ => by rw [y2, d5, b1.2]; exact ⟨rfl, rfl⟩), e3⟩
    have E_26 := (E_20).trans ee_26
    refine wq (fun _ _ kk => rs_aload_n (pc := 29) dX12_value_29 rfl kk) ?_
    refine wq (fun _ _ kk => rs_iconst (v := 0) (pc := 30) dX12_value_30 rfl kk) ?_
    refine wq (fun _ _ kk => rs_iload_n (pc := 31) dX12_value_31 rfl kk) ?_
    obtain ⟨rv_32, hc_32, ⟨rfl, ee_32, T_32, hmd_32, w1, w2, w3, w4⟩, hm_32⟩ := c_X12_entryA (E := E) (k := 0) (v := tx_nv t (tx_fr t n p) (tx_rn (tx_dg t) n ((tx_fr t n p) + 1) - (tx_fr t n p))) hmd (htx1.of hpf) (fun z => hEE z)
    refine wq (fun _ _ kk => rs_callV (as := [_, _]) (pc := 32) dX12_value_32 mk_X12_entry mlX12_318 in_X12_entry se_X12_entry rfl (md_lt hmd (by decide)) hmd.2.1 rfl rfl (Nat.le_of_ble_eq_true rfl) (hm_32) kk) ?_
    replace hmd := hmd_32
    have E_32 := (E_26).trans ee_32
    refine wq_ret ?_ (rs_vret (pc := 35) dX12_value_35 rfl)
    refine ⟨rfl, E_32, T_32, hmd, ?_⟩
    have f24 : T_32.1 24 = T_26.1 24 := w2 24 (by decide)
    have u24 : T_1.1 24 = S.1 24 := b1.1 24 (by decide)
    have u28 : T_20.1 28 = S.1 28 := by rw [d4 28 (by decide) (by decide), b1.1 28 (by decide)]
    refine ⟨(b1.f (by decide)).trans (hpf.trans w1), by rw [w2 27 (by decide), y1 27 (by decide) (by decide), d4 27 (by decide) (by decide), b1.1 27 (by decide)], by rw [w2 29 (by decide), y1 29 (by decide) (by decide), d4 29 (by decide) (by decide), b1.1 29 (by decide)], by rw [w3, y2, d5, b1.2], ⟨tx_rn (tx_dg t) n ((tx_fr t n p) + 1), by rw [w2 23 (by decide), y1 23 (by decide) (by decide)]; exact d2, by have := tx_rn_le (P := tx_dg t) (n := n) (p := (tx_fr t n p) + 1) (by omega); omega⟩, fun z => ?_, fun z => ?_⟩
    · rw [f24, y4, u28, d3, u24]
      simp only [if_neg z, ite_self]
    · obtain ⟨k1, k2, k3⟩ := tx_k_dg (t := t) g0.1 g2
      rw [u24, if_pos z] at d3
      rw [k1, k2, k3, if_neg (by decide)]
      by_cases c5 : 5 < tx_rn (tx_dg t) n ((tx_fr t n p) + 1) - (tx_fr t n p)
      · rw [if_pos ⟨rfl, c5⟩]
        rw [if_pos c5] at d3
        have hne : ¬ T_20.1 24 = 0 := by rw [d3]; exact nI_ne0 (by omega) (by omega)
        rw [f24, y4, if_neg hne, d3]
        simp only [ite_self]
      · rw [if_neg (fun w => c5 w.2)]
        rw [if_neg c5, z] at d3
        by_cases c6 : S.1 28 = 60
        · rw [if_pos c6, f24, y4, u28, if_pos c6, if_pos d3]
        · rw [if_neg c6]
          have z26 : T_26.1 24 = 0 := by rw [y4, u28, if_neg c6, d3]
          obtain ⟨v1, v2⟩ := w4 z26
          exact ⟨f24.trans z26, by rw [w2 23 (by decide), y1 23 (by decide) (by decide)]; exact d2, by rw [w2 28 (by decide), y3, u28], v1, v2⟩
