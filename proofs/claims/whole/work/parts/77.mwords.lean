/-! 77: the model's words, numbers, value (walks laid by wip/whole/p77.py) -/
theorem dX12_wordOf_0 : decode cX12_wordOf 0 = .ok (.iload_n 0, 1) := by decide +kernel
theorem dX12_wordOf_1 : decode cX12_wordOf 1 = .ok (.tableswitch 81 0 8 #[51, 54, 57, 60, 63, 66, 69, 73, 77], 51) := by decide +kernel
theorem dX12_wordOf_52 : decode cX12_wordOf 52 = .ok (.ldc 248, 2) := by decide +kernel
theorem dX12_wordOf_54 : decode cX12_wordOf 54 = .ok (.areturn, 1) := by decide +kernel
theorem dX12_wordOf_55 : decode cX12_wordOf 55 = .ok (.ldc 249, 2) := by decide +kernel
theorem dX12_wordOf_57 : decode cX12_wordOf 57 = .ok (.areturn, 1) := by decide +kernel
theorem dX12_wordOf_58 : decode cX12_wordOf 58 = .ok (.ldc 250, 2) := by decide +kernel
theorem dX12_wordOf_60 : decode cX12_wordOf 60 = .ok (.areturn, 1) := by decide +kernel
theorem dX12_wordOf_61 : decode cX12_wordOf 61 = .ok (.ldc 251, 2) := by decide +kernel
theorem dX12_wordOf_63 : decode cX12_wordOf 63 = .ok (.areturn, 1) := by decide +kernel
theorem dX12_wordOf_64 : decode cX12_wordOf 64 = .ok (.ldc 253, 2) := by decide +kernel
theorem dX12_wordOf_66 : decode cX12_wordOf 66 = .ok (.areturn, 1) := by decide +kernel
theorem dX12_wordOf_67 : decode cX12_wordOf 67 = .ok (.ldc 255, 2) := by decide +kernel
theorem dX12_wordOf_69 : decode cX12_wordOf 69 = .ok (.areturn, 1) := by decide +kernel
theorem dX12_wordOf_70 : decode cX12_wordOf 70 = .ok (.ldc_w 257, 3) := by decide +kernel
theorem dX12_wordOf_73 : decode cX12_wordOf 73 = .ok (.areturn, 1) := by decide +kernel
theorem dX12_wordOf_74 : decode cX12_wordOf 74 = .ok (.ldc_w 259, 3) := by decide +kernel
theorem dX12_wordOf_77 : decode cX12_wordOf 77 = .ok (.areturn, 1) := by decide +kernel
theorem dX12_wordOf_78 : decode cX12_wordOf 78 = .ok (.ldc_w 261, 3) := by decide +kernel
theorem dX12_wordOf_81 : decode cX12_wordOf 81 = .ok (.areturn, 1) := by decide +kernel
theorem dX12_wordOf_82 : decode cX12_wordOf 82 = .ok (.ldc_w 262, 3) := by decide +kernel
theorem dX12_wordOf_85 : decode cX12_wordOf 85 = .ok (.areturn, 1) := by decide +kernel
set_option maxRecDepth 100000 in
set_option maxHeartbeats 4000000 in
theorem c_X12_wordOf {h : ai_H} {k : Nat} (hk : k < 10) : ai_Met MX12_wordOf [.int (nI k)] h (some (.retAddr (5 + k))) h := by
  have hki := nI_toInt (show k < 2 ^ 31 by omega)
  refine ai_met (ls := [.int (nI k)]) (by decide) (by simp [ai_en, Value.category]) (by rfl) ?_
  refine rs_iload_n (pc := 0) dX12_wordOf_0 rfl ?_
  by_cases e1_0 : (nI k) = 0
  · refine wk_tab 0 e1_0 (tgt := 52) (pc := 1) dX12_wordOf_1 (by decide) (by decide) rfl rfl ?_
    refine rs_ldcS (pc := 52) dX12_wordOf_52 (j := 5) (tx := "bright") (by decide) ?_
    exact wk_aret (pc := 54) dX12_wordOf_54 rfl (Or.inr (Or.inr ⟨_, rfl⟩)) (by rw [tx_eq1 (a := k) (b := 0) (by omega) (by decide) rfl e1_0]) (rfl)
  by_cases e1_1 : (nI k) = 1
  · refine wk_tab 1 e1_1 (tgt := 55) (pc := 1) dX12_wordOf_1 (by decide) (by decide) rfl rfl ?_
    refine rs_ldcS (pc := 55) dX12_wordOf_55 (j := 6) (tx := "pace") (by decide) ?_
    exact wk_aret (pc := 57) dX12_wordOf_57 rfl (Or.inr (Or.inr ⟨_, rfl⟩)) (by rw [tx_eq1 (a := k) (b := 1) (by omega) (by decide) rfl e1_1]) (rfl)
  by_cases e1_2 : (nI k) = 2
  · refine wk_tab 2 e1_2 (tgt := 58) (pc := 1) dX12_wordOf_1 (by decide) (by decide) rfl rfl ?_
    refine rs_ldcS (pc := 58) dX12_wordOf_58 (j := 7) (tx := "side") (by decide) ?_
    exact wk_aret (pc := 60) dX12_wordOf_60 rfl (Or.inr (Or.inr ⟨_, rfl⟩)) (by rw [tx_eq1 (a := k) (b := 2) (by omega) (by decide) rfl e1_2]) (rfl)
  by_cases e1_3 : (nI k) = 3
  · refine wk_tab 3 e1_3 (tgt := 61) (pc := 1) dX12_wordOf_1 (by decide) (by decide) rfl rfl ?_
    refine rs_ldcS (pc := 61) dX12_wordOf_61 (j := 8) (tx := "star") (by decide) ?_
    exact wk_aret (pc := 63) dX12_wordOf_63 rfl (Or.inr (Or.inr ⟨_, rfl⟩)) (by rw [tx_eq1 (a := k) (b := 3) (by omega) (by decide) rfl e1_3]) (rfl)
  by_cases e1_4 : (nI k) = 4
  · refine wk_tab 4 e1_4 (tgt := 64) (pc := 1) dX12_wordOf_1 (by decide) (by decide) rfl rfl ?_
    refine rs_ldcS (pc := 64) dX12_wordOf_64 (j := 9) (tx := "thread") (by decide) ?_
    exact wk_aret (pc := 66) dX12_wordOf_66 rfl (Or.inr (Or.inr ⟨_, rfl⟩)) (by rw [tx_eq1 (a := k) (b := 4) (by omega) (by decide) rfl e1_4]) (rfl)
  by_cases e1_5 : (nI k) = 5
  · refine wk_tab 5 e1_5 (tgt := 67) (pc := 1) dX12_wordOf_1 (by decide) (by decide) rfl rfl ?_
    refine rs_ldcS (pc := 67) dX12_wordOf_67 (j := 10) (tx := "way") (by decide) ?_
    exact wk_aret (pc := 69) dX12_wordOf_69 rfl (Or.inr (Or.inr ⟨_, rfl⟩)) (by rw [tx_eq1 (a := k) (b := 5) (by omega) (by decide) rfl e1_5]) (rfl)
  by_cases e1_6 : (nI k) = 6
  · refine wk_tab 6 e1_6 (tgt := 70) (pc := 1) dX12_wordOf_1 (by decide) (by decide) rfl rfl ?_
    refine rs_ldcwS (pc := 70) dX12_wordOf_70 (j := 11) (tx := "week") (by decide) ?_
    exact wk_aret (pc := 73) dX12_wordOf_73 rfl (Or.inr (Or.inr ⟨_, rfl⟩)) (by rw [tx_eq1 (a := k) (b := 6) (by omega) (by decide) rfl e1_6]) (rfl)
  by_cases e1_7 : (nI k) = 7
  · refine wk_tab 7 e1_7 (tgt := 74) (pc := 1) dX12_wordOf_1 (by decide) (by decide) rfl rfl ?_
    refine rs_ldcwS (pc := 74) dX12_wordOf_74 (j := 12) (tx := "year") (by decide) ?_
    exact wk_aret (pc := 77) dX12_wordOf_77 rfl (Or.inr (Or.inr ⟨_, rfl⟩)) (by rw [tx_eq1 (a := k) (b := 7) (by omega) (by decide) rfl e1_7]) (rfl)
  by_cases e1_8 : (nI k) = 8
  · refine wk_tab 8 e1_8 (tgt := 78) (pc := 1) dX12_wordOf_1 (by decide) (by decide) rfl rfl ?_
    refine rs_ldcwS (pc := 78) dX12_wordOf_78 (j := 13) (tx := "house") (by decide) ?_
    exact wk_aret (pc := 81) dX12_wordOf_81 rfl (Or.inr (Or.inr ⟨_, rfl⟩)) (by rw [tx_eq1 (a := k) (b := 8) (by omega) (by decide) rfl e1_8]) (rfl)
  have qe1_0 := i32_nek (n := 0) e1_0 (by decide)
  have qe1_1 := i32_nek (n := 1) e1_1 (by decide)
  have qe1_2 := i32_nek (n := 2) e1_2 (by decide)
  have qe1_3 := i32_nek (n := 3) e1_3 (by decide)
  have qe1_4 := i32_nek (n := 4) e1_4 (by decide)
  have qe1_5 := i32_nek (n := 5) e1_5 (by decide)
  have qe1_6 := i32_nek (n := 6) e1_6 (by decide)
  have qe1_7 := i32_nek (n := 7) e1_7 (by decide)
  have qe1_8 := i32_nek (n := 8) e1_8 (by decide)
  refine rs_tableOut (tgt := 82) (pc := 1) dX12_wordOf_1 (by omega) rfl ?_
  refine rs_ldcwS (pc := 82) dX12_wordOf_82 (j := 14) (tx := "age") (by decide) ?_
  exact wk_aret (pc := 85) dX12_wordOf_85 rfl (Or.inr (Or.inr ⟨_, rfl⟩)) (by
    have k9 : k = 9 := by
      have q0 := tx_eq2 (a := k) (b := 0) rfl e1_0
      have q1 := tx_eq2 (a := k) (b := 1) rfl e1_1
      have q2 := tx_eq2 (a := k) (b := 2) rfl e1_2
      have q3 := tx_eq2 (a := k) (b := 3) rfl e1_3
      have q4 := tx_eq2 (a := k) (b := 4) rfl e1_4
      have q5 := tx_eq2 (a := k) (b := 5) rfl e1_5
      have q6 := tx_eq2 (a := k) (b := 6) rfl e1_6
      have q7 := tx_eq2 (a := k) (b := 7) rfl e1_7
      have q8 := tx_eq2 (a := k) (b := 8) rfl e1_8
      omega
    rw [k9]) (rfl)
theorem by8_let {c : Nat} (hc : c < 256) : (¬ by8 c < 97 ∧ ¬ 122 < by8 c) ↔ 97 ≤ c ∧ c ≤ 122 := by
  have := by8_lt c hc
  rw [this.1, this.2]
  omega
theorem dX12_stands_0 : decode cX12_stands 0 = .ok (.aload_n 0, 1) := by decide +kernel
theorem dX12_stands_1 : decode cX12_stands 1 = .ok (.getfield 267, 3) := by decide +kernel
theorem dX12_stands_4 : decode cX12_stands 4 = .ok (.istore_n 2, 1) := by decide +kernel
theorem dX12_stands_5 : decode cX12_stands 5 = .ok (.iload_n 2, 1) := by decide +kernel
theorem dX12_stands_6 : decode cX12_stands 6 = .ok (.aload_n 0, 1) := by decide +kernel
theorem dX12_stands_7 : decode cX12_stands 7 = .ok (.getfield 241, 3) := by decide +kernel
theorem dX12_stands_10 : decode cX12_stands 10 = .ok (.if_icmp .ge 31, 3) := by decide +kernel
theorem dX12_stands_13 : decode cX12_stands 13 = .ok (.aload_n 0, 1) := by decide +kernel
theorem dX12_stands_14 : decode cX12_stands 14 = .ok (.getfield 58, 3) := by decide +kernel
theorem dX12_stands_17 : decode cX12_stands 17 = .ok (.iload_n 2, 1) := by decide +kernel
theorem dX12_stands_18 : decode cX12_stands 18 = .ok (.baload, 1) := by decide +kernel
theorem dX12_stands_19 : decode cX12_stands 19 = .ok (.bipush 97, 2) := by decide +kernel
theorem dX12_stands_21 : decode cX12_stands 21 = .ok (.if_icmp .lt 20, 3) := by decide +kernel
theorem dX12_stands_24 : decode cX12_stands 24 = .ok (.aload_n 0, 1) := by decide +kernel
theorem dX12_stands_25 : decode cX12_stands 25 = .ok (.getfield 58, 3) := by decide +kernel
theorem dX12_stands_28 : decode cX12_stands 28 = .ok (.iload_n 2, 1) := by decide +kernel
theorem dX12_stands_29 : decode cX12_stands 29 = .ok (.baload, 1) := by decide +kernel
theorem dX12_stands_30 : decode cX12_stands 30 = .ok (.bipush 122, 2) := by decide +kernel
theorem dX12_stands_32 : decode cX12_stands 32 = .ok (.if_icmp .gt 9, 3) := by decide +kernel
theorem dX12_stands_35 : decode cX12_stands 35 = .ok (.iinc 2 1, 3) := by decide +kernel
theorem dX12_stands_38 : decode cX12_stands 38 = .ok (.goto (-33), 3) := by decide +kernel
theorem dX12_stands_41 : decode cX12_stands 41 = .ok (.iload_n 2, 1) := by decide +kernel
theorem dX12_stands_42 : decode cX12_stands 42 = .ok (.aload_n 0, 1) := by decide +kernel
theorem dX12_stands_43 : decode cX12_stands 43 = .ok (.getfield 267, 3) := by decide +kernel
theorem dX12_stands_46 : decode cX12_stands 46 = .ok (.isub, 1) := by decide +kernel
theorem dX12_stands_47 : decode cX12_stands 47 = .ok (.aload_n 1, 1) := by decide +kernel
theorem dX12_stands_48 : decode cX12_stands 48 = .ok (.invokevirtual 278, 3) := by decide +kernel
theorem dX12_stands_51 : decode cX12_stands 51 = .ok (.if_icmp .ne 7, 3) := by decide +kernel
theorem dX12_stands_54 : decode cX12_stands 54 = .ok (.iconst 1, 1) := by decide +kernel
theorem dX12_stands_55 : decode cX12_stands 55 = .ok (.goto 4, 3) := by decide +kernel
theorem dX12_stands_58 : decode cX12_stands 58 = .ok (.iconst 0, 1) := by decide +kernel
theorem dX12_stands_59 : decode cX12_stands 59 = .ok (.istore_n 3, 1) := by decide +kernel
theorem dX12_stands_60 : decode cX12_stands 60 = .ok (.iconst 0, 1) := by decide +kernel
theorem dX12_stands_61 : decode cX12_stands 61 = .ok (.istore 4, 2) := by decide +kernel
theorem dX12_stands_63 : decode cX12_stands 63 = .ok (.iload 4, 2) := by decide +kernel
theorem dX12_stands_65 : decode cX12_stands 65 = .ok (.aload_n 1, 1) := by decide +kernel
theorem dX12_stands_66 : decode cX12_stands 66 = .ok (.invokevirtual 278, 3) := by decide +kernel
theorem dX12_stands_69 : decode cX12_stands 69 = .ok (.if_icmp .ge 40, 3) := by decide +kernel
theorem dX12_stands_72 : decode cX12_stands 72 = .ok (.iload_n 3, 1) := by decide +kernel
theorem dX12_stands_73 : decode cX12_stands 73 = .ok (.ifCond .eq 36, 3) := by decide +kernel
theorem dX12_stands_76 : decode cX12_stands 76 = .ok (.aload_n 0, 1) := by decide +kernel
theorem dX12_stands_77 : decode cX12_stands 77 = .ok (.getfield 58, 3) := by decide +kernel
theorem dX12_stands_80 : decode cX12_stands 80 = .ok (.aload_n 0, 1) := by decide +kernel
theorem dX12_stands_81 : decode cX12_stands 81 = .ok (.getfield 267, 3) := by decide +kernel
theorem dX12_stands_84 : decode cX12_stands 84 = .ok (.iload 4, 2) := by decide +kernel
theorem dX12_stands_86 : decode cX12_stands 86 = .ok (.iadd, 1) := by decide +kernel
theorem dX12_stands_87 : decode cX12_stands 87 = .ok (.baload, 1) := by decide +kernel
theorem dX12_stands_88 : decode cX12_stands 88 = .ok (.aload_n 1, 1) := by decide +kernel
theorem dX12_stands_89 : decode cX12_stands 89 = .ok (.iload 4, 2) := by decide +kernel
theorem dX12_stands_91 : decode cX12_stands 91 = .ok (.invokevirtual 283, 3) := by decide +kernel
theorem dX12_stands_94 : decode cX12_stands 94 = .ok (.if_icmp .ne 7, 3) := by decide +kernel
theorem dX12_stands_97 : decode cX12_stands 97 = .ok (.iconst 1, 1) := by decide +kernel
theorem dX12_stands_98 : decode cX12_stands 98 = .ok (.goto 4, 3) := by decide +kernel
theorem dX12_stands_101 : decode cX12_stands 101 = .ok (.iconst 0, 1) := by decide +kernel
theorem dX12_stands_102 : decode cX12_stands 102 = .ok (.istore_n 3, 1) := by decide +kernel
theorem dX12_stands_103 : decode cX12_stands 103 = .ok (.iinc 4 1, 3) := by decide +kernel
theorem dX12_stands_106 : decode cX12_stands 106 = .ok (.goto (-43), 3) := by decide +kernel
theorem dX12_stands_109 : decode cX12_stands 109 = .ok (.iload_n 3, 1) := by decide +kernel
theorem dX12_stands_110 : decode cX12_stands 110 = .ok (.ireturn, 1) := by decide +kernel
set_option maxRecDepth 100000 in
set_option maxHeartbeats 4000000 in
theorem l2_X12_stands {h : ai_H} {S : Md} {t : Nat → Nat} {n r p j : Nat} (hj : j < 15) (hmd : md_at h S) (htx : tx_m t n r S) (hp : S.1 23 = nI p) (hp5 : p ≤ 500) (hpn : p ≤ tx_rn (tx_lt t) n p) (hrn : (n ≤ p ∧ tx_rn (tx_lt t) n p = p) ∨ tx_rn (tx_lt t) n p ≤ n) (eV : Int32) : ∀ (m i : Nat) (b : Bool), i ≤ ai_sl.getD j 0 → ai_sl.getD j 0 + 1 ≤ i + m → (b = true → tx_rn (tx_lt t) n p - p = ai_sl.getD j 0) → (b = true ↔ tx_rn (tx_lt t) n p - p = ai_sl.getD j 0 ∧ ∀ k, k < i → t (p + k) = (tx_ws.getD j []).getD k 0) → ai_W MX12_stands 63 [.ref 307, .retAddr j, .int eV, .int (if b = true then 1 else 0), .int (nI i)] [] h (fun rv g => rv = (some (.int (if tx_ix t p (tx_rn (tx_lt t) n p) = j then 1 else 0))) ∧ g = h) := by
  have hsl := tx_sl j hj
  obtain ⟨x22, hn4, x25, hr9, xt⟩ := id htx
  intro m
  induction m with
  | zero => intro i b h1 h2; exact absurd h2 (by omega)
  | succ m ih =>
    intro i b hi0 him hbe hiff
    refine wq (fun _ _ kk => rs_iload (pc := 63) dX12_stands_63 rfl kk) ?_
    refine wq (fun _ _ kk => rs_aload_nS (pc := 65) dX12_stands_65 rfl kk) ?_
    refine wq (fun _ _ kk => rs_callVS (as := []) (pc := 66) dX12_stands_66 mk_J0_length_8abf5 mlX12_278 in_J0_length_8abf5 se_J0_length_8abf5 rfl hj rfl rfl (Nat.le_of_ble_eq_true rfl) (c_length hj) kk) ?_
    refine wq_br (fun _ _ kt kf => rs_icmp_ge (tgt := 109) (pc := 69) dX12_stands_69 rfl kt kf) (fun c_69 => ?_) (fun c_69 => ?_)
    · have g1 : ai_sl.getD j 0 ≤ i := tx_le1 (a := i) (by omega) (by omega) rfl c_69
      refine wq (fun _ _ kk => rs_iload_n (pc := 109) dX12_stands_109 rfl kk) ?_
      refine wq_ret ?_ (rs_zret (pc := 110) dX12_stands_110 rfl (by split <;> simp))
      refine ⟨?_, rfl⟩
      by_cases hb : b = true
      · have hge : ai_sl.getD j 0 ≤ i := by first | exact g1 | exact absurd hb gb
        rw [if_pos hb, if_pos ((tx_spell hj).mpr ⟨(hiff.mp hb).1, fun k hk => (hiff.mp hb).2 k (by omega)⟩)]
      · rw [if_neg hb, if_neg (fun z => hb (hiff.mpr ⟨((tx_spell hj).mp z).1, fun k hk => ((tx_spell hj).mp z).2 k (by omega)⟩))]
    · have g1 : i < ai_sl.getD j 0 := tx_le2 (a := i) (by omega) (by omega) rfl c_69
      refine wq (fun _ _ kk => rs_iload_n (pc := 72) dX12_stands_72 rfl kk) ?_
      refine wq_br (fun _ _ kt kf => rs_if_eq (tgt := 109) (pc := 73) dX12_stands_73 rfl kt kf) (fun c_73 => ?_) (fun c_73 => ?_)
      · have gb : ¬ b = true := fun z => absurd c_73 (by rw [if_pos z]; decide)
        refine wq (fun _ _ kk => rs_iload_n (pc := 109) dX12_stands_109 rfl kk) ?_
        refine wq_ret ?_ (rs_zret (pc := 110) dX12_stands_110 rfl (by split <;> simp))
        refine ⟨?_, rfl⟩
        by_cases hb : b = true
        · have hge : ai_sl.getD j 0 ≤ i := by first | exact g1 | exact absurd hb gb
          rw [if_pos hb, if_pos ((tx_spell hj).mpr ⟨(hiff.mp hb).1, fun k hk => (hiff.mp hb).2 k (by omega)⟩)]
        · rw [if_neg hb, if_neg (fun z => hb (hiff.mpr ⟨((tx_spell hj).mp z).1, fun k hk => ((tx_spell hj).mp z).2 k (by omega)⟩))]
      · have gb : b = true := Classical.byContradiction fun z => c_73 (if_neg z)
        refine wq (fun _ _ kk => rs_aload_n (pc := 76) dX12_stands_76 rfl kk) ?_
        refine wq (fun _ _ kk => rs_getf (pc := 77) dX12_stands_77 fX12_58 (md_lt hmd (by decide)) hmd.2.1 rfl kk) ?_
        refine wq (fun _ _ kk => rs_aload_n (pc := 80) dX12_stands_80 rfl kk) ?_
        refine wq (fun _ _ kk => rs_getf (pc := 81) dX12_stands_81 fX12_267 (md_lt hmd (by decide)) hmd.2.1 rfl kk) ?_
        rw [hp]
        refine wq (fun _ _ kk => rs_iload (pc := 84) dX12_stands_84 rfl kk) ?_
        refine wq (fun _ _ kk => rs_iadd (pc := 86) dX12_stands_86 kk) ?_
        rw [nI_add]
        refine wq (fun _ _ kk => rs_bald (pc := 87) dX12_stands_87 (md_lt hmd (by decide)) (md_geti (d := 16) (k := 30) (kd := 3) (n := 400) rfl (by decide) hmd) (vp_in_nI (n := p + i) (N := 400) (by have := hbe gb; omega) (by decide)) kk) ?_
        have hpi : p + i < n := by have := hbe gb; omega
        rw [nI_clamp (show p + i < 2 ^ 31 by omega), (xt (p + i) hpi).2]
        refine wq (fun _ _ kk => rs_aload_nS (pc := 88) dX12_stands_88 rfl kk) ?_
        refine wq (fun _ _ kk => rs_iload (pc := 89) dX12_stands_89 rfl kk) ?_
        refine wq (fun _ _ kk => rs_callVS (as := [_]) (pc := 91) dX12_stands_91 mk_J0_charAt_5068e mlX12_283 in_J0_charAt_5068e se_J0_charAt_5068e rfl hj rfl rfl (Nat.le_of_ble_eq_true rfl) (c_charAt hj g1) kk) ?_
        rw [(tx_ws_by j hj i g1).1]
        refine wq_bn (fun _ _ kt kf => rs_icmp_ne (tgt := 101) (pc := 94) dX12_stands_94 rfl kt kf) (fun c_94 => ?_) (fun c_94 => ?_)
        · have g2 : ¬ t (p + i) = (tx_ws.getD j []).getD i 0 := fun z => c_94 ((by8_eq _ (xt (p + i) hpi).1 _ (by have := (tx_ws_by j hj i g1).2; omega)).mpr z)
          refine wq (fun _ _ kk => rs_iconst (v := 0) (pc := 101) dX12_stands_101 rfl kk) ?_
          rw [show (0 : Int32) = if false = true then 1 else 0 from rfl]
          refine wq (fun _ _ kk => wk_istn3 (pc := 102) dX12_stands_102 (by decide) rfl kk) ?_
          refine wq (fun _ _ kk => wk_iinc4 (v := nI (i + 1)) (pc := 103) dX12_stands_103 (by decide) rfl (nI_1 i) kk) ?_
          refine wq (fun _ _ kk => rs_goto (tgt := 63) (pc := 106) dX12_stands_106 rfl kk) ?_
          exact ih (i + 1) false (by omega) (by omega) (fun z => absurd z (by decide)) ⟨fun z => absurd z (by decide), fun z => absurd (z.2 i (by omega)) g2⟩
        · have g2 : t (p + i) = (tx_ws.getD j []).getD i 0 := (by8_eq _ (xt (p + i) hpi).1 _ (by have := (tx_ws_by j hj i g1).2; omega)).mp c_94
          refine wq (fun _ _ kk => rs_iconst (v := 1) (pc := 97) dX12_stands_97 rfl kk) ?_
          refine wq (fun _ _ kk => rs_goto (tgt := 102) (pc := 98) dX12_stands_98 rfl kk) ?_
          rw [show (1 : Int32) = if true = true then 1 else 0 from rfl]
          refine wq (fun _ _ kk => wk_istn3 (pc := 102) dX12_stands_102 (by decide) rfl kk) ?_
          refine wq (fun _ _ kk => wk_iinc4 (v := nI (i + 1)) (pc := 103) dX12_stands_103 (by decide) rfl (nI_1 i) kk) ?_
          refine wq (fun _ _ kk => rs_goto (tgt := 63) (pc := 106) dX12_stands_106 rfl kk) ?_
          exact ih (i + 1) true (by omega) (by omega) (fun _ => hbe gb) ⟨fun _ => ⟨hbe gb, fun k hk => by
            by_cases e : k = i
            · rw [e]; exact g2
            · exact (hiff.mp gb).2 k (by omega)⟩, fun _ => rfl⟩
set_option maxRecDepth 100000 in
set_option maxHeartbeats 4000000 in
theorem l_X12_stands {h : ai_H} {S : Md} {t : Nat → Nat} {n r p j : Nat} (hj : j < 15) (hmd : md_at h S) (htx : tx_m t n r S) (hp : S.1 23 = nI p) (hp5 : p ≤ 500) : ∀ (m e : Nat), p ≤ e ∧ e ≤ 500 ∧ (n ≤ p ∨ e ≤ n) → 501 ≤ e + m → tx_rn (tx_lt t) n e = tx_rn (tx_lt t) n p → ai_W MX12_stands 5 [.ref 307, .retAddr j, .int (nI e), .float 0, .float 0] [] h (fun rv g => rv = (some (.int (if tx_ix t p (tx_rn (tx_lt t) n p) = j then 1 else 0))) ∧ g = h) := by
  have hsl := tx_sl j hj
  obtain ⟨x22, hn4, x25, hr9, xt⟩ := id htx
  intro m
  induction m with
  | zero => intro e h1 h2; exact absurd h2 (by omega)
  | succ m ih =>
    intro e he0 him hbe
    obtain ⟨hpe, he5, hen⟩ := he0
    have hrn : (n ≤ p ∧ tx_rn (tx_lt t) n p = p) ∨ tx_rn (tx_lt t) n p ≤ n := by
      obtain ⟨-, z1, z2, -⟩ := tx_ge (P := tx_lt t) (n := n) _ p rfl
      rcases Nat.le_total p n with w | w
      · exact Or.inr (z1 w)
      · exact Or.inl ⟨w, z2 w⟩
    refine wq (fun _ _ kk => rs_iload_n (pc := 5) dX12_stands_5 rfl kk) ?_
    refine wq (fun _ _ kk => rs_aload_n (pc := 6) dX12_stands_6 rfl kk) ?_
    refine wq (fun _ _ kk => rs_getf (pc := 7) dX12_stands_7 fX12_241 (md_lt hmd (by decide)) hmd.2.1 rfl kk) ?_
    rw [x22]
    refine wq_br (fun _ _ kt kf => rs_icmp_ge (tgt := 41) (pc := 10) dX12_stands_10 rfl kt kf) (fun c_10 => ?_) (fun c_10 => ?_)
    · have g1 : ¬ (e < n ∧ tx_lt t e = true) := fun z => absurd (tx_le1 (by omega) (by omega) rfl c_10) (by omega)
      have he2 : e = tx_rn (tx_lt t) n p := by rw [← hbe, tx_n g1]
      refine wq (fun _ _ kk => rs_iload_n (pc := 41) dX12_stands_41 rfl kk) ?_
      refine wq (fun _ _ kk => rs_aload_n (pc := 42) dX12_stands_42 rfl kk) ?_
      refine wq (fun _ _ kk => rs_getf (pc := 43) dX12_stands_43 fX12_267 (md_lt hmd (by decide)) hmd.2.1 rfl kk) ?_
      rw [hp]
      refine wq (fun _ _ kk => rs_isub (pc := 46) dX12_stands_46 kk) ?_
      rw [nI_sub (show p ≤ e by omega)]
      refine wq (fun _ _ kk => rs_aload_nS (pc := 47) dX12_stands_47 rfl kk) ?_
      refine wq (fun _ _ kk => rs_callVS (as := []) (pc := 48) dX12_stands_48 mk_J0_length_8abf5 mlX12_278 in_J0_length_8abf5 se_J0_length_8abf5 rfl hj rfl rfl (Nat.le_of_ble_eq_true rfl) (c_length hj) kk) ?_
      refine wq_bn (fun _ _ kt kf => rs_icmp_ne (tgt := 58) (pc := 51) dX12_stands_51 rfl kt kf) (fun c_51 => ?_) (fun c_51 => ?_)
      · have g3 : ¬ e - p = ai_sl.getD j 0 := fun z => c_51 (by rw [z])
        refine wq (fun _ _ kk => rs_iconst (v := 0) (pc := 58) dX12_stands_58 rfl kk) ?_
        refine wq (fun _ _ kk => wk_istn3 (pc := 59) dX12_stands_59 (by decide) rfl kk) ?_
        refine wq (fun _ _ kk => rs_iconst (v := 0) (pc := 60) dX12_stands_60 rfl kk) ?_
        refine wq (fun _ _ kk => wk_ist4 (pc := 61) dX12_stands_61 (by decide) rfl kk) ?_
        rw [he2] at g3
        exact l2_X12_stands hj hmd htx hp hp5 (he2 ▸ hpe) hrn _ (ai_sl.getD j 0 + 1) 0 false (by omega) (by omega) (fun z => absurd z (by decide)) ⟨fun z => absurd z (by decide), fun z => absurd z.1 g3⟩
      · have g3 : e - p = ai_sl.getD j 0 := nI_inj (by omega) (by omega) c_51
        refine wq (fun _ _ kk => rs_iconst (v := 1) (pc := 54) dX12_stands_54 rfl kk) ?_
        refine wq (fun _ _ kk => rs_goto (tgt := 59) (pc := 55) dX12_stands_55 rfl kk) ?_
        refine wq (fun _ _ kk => wk_istn3 (pc := 59) dX12_stands_59 (by decide) rfl kk) ?_
        refine wq (fun _ _ kk => rs_iconst (v := 0) (pc := 60) dX12_stands_60 rfl kk) ?_
        refine wq (fun _ _ kk => wk_ist4 (pc := 61) dX12_stands_61 (by decide) rfl kk) ?_
        rw [he2] at g3
        exact l2_X12_stands hj hmd htx hp hp5 (he2 ▸ hpe) hrn _ (ai_sl.getD j 0 + 1) 0 true (by omega) (by omega) (fun _ => g3) ⟨fun _ => ⟨g3, fun k hk => absurd hk (by omega)⟩, fun _ => rfl⟩
    · have g1 : e < n := tx_le2 (by omega) (by omega) rfl c_10
      refine wq (fun _ _ kk => rs_aload_n (pc := 13) dX12_stands_13 rfl kk) ?_
      refine wq (fun _ _ kk => rs_getf (pc := 14) dX12_stands_14 fX12_58 (md_lt hmd (by decide)) hmd.2.1 rfl kk) ?_
      refine wq (fun _ _ kk => rs_iload_n (pc := 17) dX12_stands_17 rfl kk) ?_
      refine wq (fun _ _ kk => rs_bald (pc := 18) dX12_stands_18 (md_lt hmd (by decide)) (md_geti (d := 16) (k := 30) (kd := 3) (n := 400) rfl (by decide) hmd) (vp_in_nI (n := e) (N := 400) (by omega) (by decide)) kk) ?_
      rw [nI_clamp (show e < 2 ^ 31 by omega), (xt e g1).2]
      refine wq (fun _ _ kk => rs_bipush (v := 97) (pc := 19) dX12_stands_19 rfl kk) ?_
      refine wq_br (fun _ _ kt kf => rs_icmp_lt (tgt := 41) (pc := 21) dX12_stands_21 rfl kt kf) (fun c_21 => ?_) (fun c_21 => ?_)
      · replace g1 : ¬ (e < n ∧ tx_lt t e = true) := fun z => ((by8_let (xt e g1).1).mpr (of_decide_eq_true z.2)).1 c_21
        have he2 : e = tx_rn (tx_lt t) n p := by rw [← hbe, tx_n g1]
        refine wq (fun _ _ kk => rs_iload_n (pc := 41) dX12_stands_41 rfl kk) ?_
        refine wq (fun _ _ kk => rs_aload_n (pc := 42) dX12_stands_42 rfl kk) ?_
        refine wq (fun _ _ kk => rs_getf (pc := 43) dX12_stands_43 fX12_267 (md_lt hmd (by decide)) hmd.2.1 rfl kk) ?_
        rw [hp]
        refine wq (fun _ _ kk => rs_isub (pc := 46) dX12_stands_46 kk) ?_
        rw [nI_sub (show p ≤ e by omega)]
        refine wq (fun _ _ kk => rs_aload_nS (pc := 47) dX12_stands_47 rfl kk) ?_
        refine wq (fun _ _ kk => rs_callVS (as := []) (pc := 48) dX12_stands_48 mk_J0_length_8abf5 mlX12_278 in_J0_length_8abf5 se_J0_length_8abf5 rfl hj rfl rfl (Nat.le_of_ble_eq_true rfl) (c_length hj) kk) ?_
        refine wq_bn (fun _ _ kt kf => rs_icmp_ne (tgt := 58) (pc := 51) dX12_stands_51 rfl kt kf) (fun c_51 => ?_) (fun c_51 => ?_)
        · have g3 : ¬ e - p = ai_sl.getD j 0 := fun z => c_51 (by rw [z])
          refine wq (fun _ _ kk => rs_iconst (v := 0) (pc := 58) dX12_stands_58 rfl kk) ?_
          refine wq (fun _ _ kk => wk_istn3 (pc := 59) dX12_stands_59 (by decide) rfl kk) ?_
          refine wq (fun _ _ kk => rs_iconst (v := 0) (pc := 60) dX12_stands_60 rfl kk) ?_
          refine wq (fun _ _ kk => wk_ist4 (pc := 61) dX12_stands_61 (by decide) rfl kk) ?_
          rw [he2] at g3
          exact l2_X12_stands hj hmd htx hp hp5 (he2 ▸ hpe) hrn _ (ai_sl.getD j 0 + 1) 0 false (by omega) (by omega) (fun z => absurd z (by decide)) ⟨fun z => absurd z (by decide), fun z => absurd z.1 g3⟩
        · have g3 : e - p = ai_sl.getD j 0 := nI_inj (by omega) (by omega) c_51
          refine wq (fun _ _ kk => rs_iconst (v := 1) (pc := 54) dX12_stands_54 rfl kk) ?_
          refine wq (fun _ _ kk => rs_goto (tgt := 59) (pc := 55) dX12_stands_55 rfl kk) ?_
          refine wq (fun _ _ kk => wk_istn3 (pc := 59) dX12_stands_59 (by decide) rfl kk) ?_
          refine wq (fun _ _ kk => rs_iconst (v := 0) (pc := 60) dX12_stands_60 rfl kk) ?_
          refine wq (fun _ _ kk => wk_ist4 (pc := 61) dX12_stands_61 (by decide) rfl kk) ?_
          rw [he2] at g3
          exact l2_X12_stands hj hmd htx hp hp5 (he2 ▸ hpe) hrn _ (ai_sl.getD j 0 + 1) 0 true (by omega) (by omega) (fun _ => g3) ⟨fun _ => ⟨g3, fun k hk => absurd hk (by omega)⟩, fun _ => rfl⟩
      · refine wq (fun _ _ kk => rs_aload_n (pc := 24) dX12_stands_24 rfl kk) ?_
        refine wq (fun _ _ kk => rs_getf (pc := 25) dX12_stands_25 fX12_58 (md_lt hmd (by decide)) hmd.2.1 rfl kk) ?_
        refine wq (fun _ _ kk => rs_iload_n (pc := 28) dX12_stands_28 rfl kk) ?_
        refine wq (fun _ _ kk => rs_bald (pc := 29) dX12_stands_29 (md_lt hmd (by decide)) (md_geti (d := 16) (k := 30) (kd := 3) (n := 400) rfl (by decide) hmd) (vp_in_nI (n := e) (N := 400) (by omega) (by decide)) kk) ?_
        rw [nI_clamp (show e < 2 ^ 31 by omega), (xt e g1).2]
        refine wq (fun _ _ kk => rs_bipush (v := 122) (pc := 30) dX12_stands_30 rfl kk) ?_
        refine wq_br (fun _ _ kt kf => rs_icmp_gt (tgt := 41) (pc := 32) dX12_stands_32 rfl kt kf) (fun c_32 => ?_) (fun c_32 => ?_)
        · replace g1 : ¬ (e < n ∧ tx_lt t e = true) := fun z => ((by8_let (xt e g1).1).mpr (of_decide_eq_true z.2)).2 c_32
          have he2 : e = tx_rn (tx_lt t) n p := by rw [← hbe, tx_n g1]
          refine wq (fun _ _ kk => rs_iload_n (pc := 41) dX12_stands_41 rfl kk) ?_
          refine wq (fun _ _ kk => rs_aload_n (pc := 42) dX12_stands_42 rfl kk) ?_
          refine wq (fun _ _ kk => rs_getf (pc := 43) dX12_stands_43 fX12_267 (md_lt hmd (by decide)) hmd.2.1 rfl kk) ?_
          rw [hp]
          refine wq (fun _ _ kk => rs_isub (pc := 46) dX12_stands_46 kk) ?_
          rw [nI_sub (show p ≤ e by omega)]
          refine wq (fun _ _ kk => rs_aload_nS (pc := 47) dX12_stands_47 rfl kk) ?_
          refine wq (fun _ _ kk => rs_callVS (as := []) (pc := 48) dX12_stands_48 mk_J0_length_8abf5 mlX12_278 in_J0_length_8abf5 se_J0_length_8abf5 rfl hj rfl rfl (Nat.le_of_ble_eq_true rfl) (c_length hj) kk) ?_
          refine wq_bn (fun _ _ kt kf => rs_icmp_ne (tgt := 58) (pc := 51) dX12_stands_51 rfl kt kf) (fun c_51 => ?_) (fun c_51 => ?_)
          · have g3 : ¬ e - p = ai_sl.getD j 0 := fun z => c_51 (by rw [z])
            refine wq (fun _ _ kk => rs_iconst (v := 0) (pc := 58) dX12_stands_58 rfl kk) ?_
            refine wq (fun _ _ kk => wk_istn3 (pc := 59) dX12_stands_59 (by decide) rfl kk) ?_
            refine wq (fun _ _ kk => rs_iconst (v := 0) (pc := 60) dX12_stands_60 rfl kk) ?_
            refine wq (fun _ _ kk => wk_ist4 (pc := 61) dX12_stands_61 (by decide) rfl kk) ?_
            rw [he2] at g3
            exact l2_X12_stands hj hmd htx hp hp5 (he2 ▸ hpe) hrn _ (ai_sl.getD j 0 + 1) 0 false (by omega) (by omega) (fun z => absurd z (by decide)) ⟨fun z => absurd z (by decide), fun z => absurd z.1 g3⟩
          · have g3 : e - p = ai_sl.getD j 0 := nI_inj (by omega) (by omega) c_51
            refine wq (fun _ _ kk => rs_iconst (v := 1) (pc := 54) dX12_stands_54 rfl kk) ?_
            refine wq (fun _ _ kk => rs_goto (tgt := 59) (pc := 55) dX12_stands_55 rfl kk) ?_
            refine wq (fun _ _ kk => wk_istn3 (pc := 59) dX12_stands_59 (by decide) rfl kk) ?_
            refine wq (fun _ _ kk => rs_iconst (v := 0) (pc := 60) dX12_stands_60 rfl kk) ?_
            refine wq (fun _ _ kk => wk_ist4 (pc := 61) dX12_stands_61 (by decide) rfl kk) ?_
            rw [he2] at g3
            exact l2_X12_stands hj hmd htx hp hp5 (he2 ▸ hpe) hrn _ (ai_sl.getD j 0 + 1) 0 true (by omega) (by omega) (fun _ => g3) ⟨fun _ => ⟨g3, fun k hk => absurd hk (by omega)⟩, fun _ => rfl⟩
        · have g2 : tx_lt t e = true := decide_eq_true ((by8_let (xt e g1).1).mp ⟨c_21, c_32⟩)
          refine wq (fun _ _ kk => wk_iinc2 (v := nI (e + 1)) (pc := 35) dX12_stands_35 (by decide) rfl (nI_1 e) kk) ?_
          refine wq (fun _ _ kk => rs_goto (tgt := 5) (pc := 38) dX12_stands_38 rfl kk) ?_
          exact ih (e + 1) (by omega) (by omega) (by rw [← tx_y g1 g2]; exact hbe)
set_option maxRecDepth 100000 in
set_option maxHeartbeats 4000000 in
theorem q_X12_stands {h : ai_H} {S : Md} {t : Nat → Nat} {n r p j : Nat} (hj : j < 15) (hmd : md_at h S) (htx : tx_m t n r S) (hp : S.1 23 = nI p) (hp5 : p ≤ 500) : ai_QM MX12_stands [.ref 307, .retAddr j] h (fun rv g => rv = (some (.int (if tx_ix t p (tx_rn (tx_lt t) n p) = j then 1 else 0))) ∧ g = h) := by
  refine qm_of (ls := [.ref 307, .retAddr j, .float 0, .float 0, .float 0]) (by decide) (by simp [ai_en, Value.category]) (by rfl) ?_
  refine wq (fun _ _ kk => rs_aload_n (pc := 0) dX12_stands_0 rfl kk) ?_
  refine wq (fun _ _ kk => rs_getf (pc := 1) dX12_stands_1 fX12_267 (md_lt hmd (by decide)) hmd.2.1 rfl kk) ?_
  rw [hp]
  refine wq (fun _ _ kk => wk_istn2 (pc := 4) dX12_stands_4 (by decide) rfl kk) ?_
  exact l_X12_stands hj hmd htx hp hp5 501 p ⟨Nat.le_refl _, hp5, by omega⟩ (by omega) rfl
theorem c_X12_stands {h : ai_H} {S : Md} {t : Nat → Nat} {n r p j : Nat} (hj : j < 15) (hmd : md_at h S) (htx : tx_m t n r S) (hp : S.1 23 = nI p) (hp5 : p ≤ 500) : ai_Met MX12_stands [.ref 307, .retAddr j] h (some (.int (if tx_ix t p (tx_rn (tx_lt t) n p) = j then 1 else 0))) h := by
  obtain ⟨rv, g, ⟨rfl, rfl⟩, hm⟩ := q_X12_stands hj hmd htx hp hp5
  exact hm
