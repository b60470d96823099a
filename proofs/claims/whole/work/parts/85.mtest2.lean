/-! 85: the model's test (walks laid by wip/whole/p85.py) -/
theorem dX12_test_0 : decode cX12_test 0 = .ok (.aload_n 0, 1) := by decide +kernel
theorem dX12_test_1 : decode cX12_test 1 = .ok (.iconst 0, 1) := by decide +kernel
theorem dX12_test_2 : decode cX12_test 2 = .ok (.putfield 334, 3) := by decide +kernel
theorem dX12_test_5 : decode cX12_test 5 = .ok (.iconst 1, 1) := by decide +kernel
theorem dX12_test_6 : decode cX12_test 6 = .ok (.istore_n 1, 1) := by decide +kernel
theorem dX12_test_7 : decode cX12_test 7 = .ok (.iconst 1, 1) := by decide +kernel
theorem dX12_test_8 : decode cX12_test 8 = .ok (.istore_n 2, 1) := by decide +kernel
theorem dX12_test_9 : decode cX12_test 9 = .ok (.iload_n 2, 1) := by decide +kernel
theorem dX12_test_10 : decode cX12_test 10 = .ok (.ifCond .eq 192, 3) := by decide +kernel
theorem dX12_test_13 : decode cX12_test 13 = .ok (.aload_n 0, 1) := by decide +kernel
theorem dX12_test_14 : decode cX12_test 14 = .ok (.getfield 264, 3) := by decide +kernel
theorem dX12_test_17 : decode cX12_test 17 = .ok (.ifCond .ne 185, 3) := by decide +kernel
theorem dX12_test_20 : decode cX12_test 20 = .ok (.iload_n 1, 1) := by decide +kernel
theorem dX12_test_21 : decode cX12_test 21 = .ok (.ifCond .eq 19, 3) := by decide +kernel
theorem dX12_test_24 : decode cX12_test 24 = .ok (.aload_n 0, 1) := by decide +kernel
theorem dX12_test_25 : decode cX12_test 25 = .ok (.invokevirtual 351, 3) := by decide +kernel
theorem dX12_test_28 : decode cX12_test 28 = .ok (.ifCond .ne 7, 3) := by decide +kernel
theorem dX12_test_31 : decode cX12_test 31 = .ok (.iconst 1, 1) := by decide +kernel
theorem dX12_test_32 : decode cX12_test 32 = .ok (.goto 4, 3) := by decide +kernel
theorem dX12_test_35 : decode cX12_test 35 = .ok (.iconst 0, 1) := by decide +kernel
theorem dX12_test_36 : decode cX12_test 36 = .ok (.istore_n 1, 1) := by decide +kernel
theorem dX12_test_37 : decode cX12_test 37 = .ok (.goto (-28), 3) := by decide +kernel
theorem dX12_test_40 : decode cX12_test 40 = .ok (.aload_n 0, 1) := by decide +kernel
theorem dX12_test_41 : decode cX12_test 41 = .ok (.bipush 9, 2) := by decide +kernel
theorem dX12_test_43 : decode cX12_test 43 = .ok (.invokevirtual 354, 3) := by decide +kernel
theorem dX12_test_46 : decode cX12_test 46 = .ok (.aload_n 0, 1) := by decide +kernel
theorem dX12_test_47 : decode cX12_test 47 = .ok (.invokevirtual 287, 3) := by decide +kernel
theorem dX12_test_50 : decode cX12_test 50 = .ok (.aload_n 0, 1) := by decide +kernel
theorem dX12_test_51 : decode cX12_test 51 = .ok (.ldc_w 357, 3) := by decide +kernel
theorem dX12_test_54 : decode cX12_test 54 = .ok (.invokevirtual 290, 3) := by decide +kernel
theorem dX12_test_57 : decode cX12_test 57 = .ok (.istore_n 3, 1) := by decide +kernel
theorem dX12_test_58 : decode cX12_test 58 = .ok (.aload_n 0, 1) := by decide +kernel
theorem dX12_test_59 : decode cX12_test 59 = .ok (.ldc_w 359, 3) := by decide +kernel
theorem dX12_test_62 : decode cX12_test 62 = .ok (.invokevirtual 290, 3) := by decide +kernel
theorem dX12_test_65 : decode cX12_test 65 = .ok (.istore 4, 2) := by decide +kernel
theorem dX12_test_67 : decode cX12_test 67 = .ok (.aload_n 0, 1) := by decide +kernel
theorem dX12_test_68 : decode cX12_test 68 = .ok (.bipush 10, 2) := by decide +kernel
theorem dX12_test_70 : decode cX12_test 70 = .ok (.invokevirtual 354, 3) := by decide +kernel
theorem dX12_test_73 : decode cX12_test 73 = .ok (.iload_n 3, 1) := by decide +kernel
theorem dX12_test_74 : decode cX12_test 74 = .ok (.ifCond .ne 8, 3) := by decide +kernel
theorem dX12_test_77 : decode cX12_test 77 = .ok (.iload 4, 2) := by decide +kernel
theorem dX12_test_79 : decode cX12_test 79 = .ok (.ifCond .eq 52, 3) := by decide +kernel
theorem dX12_test_82 : decode cX12_test 82 = .ok (.iload 4, 2) := by decide +kernel
theorem dX12_test_84 : decode cX12_test 84 = .ok (.ifCond .eq 9, 3) := by decide +kernel
theorem dX12_test_87 : decode cX12_test 87 = .ok (.aload_n 0, 1) := by decide +kernel
theorem dX12_test_88 : decode cX12_test 88 = .ok (.bipush 11, 2) := by decide +kernel
theorem dX12_test_90 : decode cX12_test 90 = .ok (.invokevirtual 354, 3) := by decide +kernel
theorem dX12_test_93 : decode cX12_test 93 = .ok (.aload_n 0, 1) := by decide +kernel
theorem dX12_test_94 : decode cX12_test 94 = .ok (.iload_n 3, 1) := by decide +kernel
theorem dX12_test_95 : decode cX12_test 95 = .ok (.ifCond .eq 8, 3) := by decide +kernel
theorem dX12_test_98 : decode cX12_test 98 = .ok (.bipush 10, 2) := by decide +kernel
theorem dX12_test_100 : decode cX12_test 100 = .ok (.goto 5, 3) := by decide +kernel
theorem dX12_test_103 : decode cX12_test 103 = .ok (.bipush 11, 2) := by decide +kernel
theorem dX12_test_105 : decode cX12_test 105 = .ok (.invokevirtual 345, 3) := by decide +kernel
theorem dX12_test_108 : decode cX12_test 108 = .ok (.aload_n 0, 1) := by decide +kernel
theorem dX12_test_109 : decode cX12_test 109 = .ok (.dup, 1) := by decide +kernel
theorem dX12_test_110 : decode cX12_test 110 = .ok (.getfield 267, 3) := by decide +kernel
theorem dX12_test_113 : decode cX12_test 113 = .ok (.iload_n 3, 1) := by decide +kernel
theorem dX12_test_114 : decode cX12_test 114 = .ok (.ifCond .eq 7, 3) := by decide +kernel
theorem dX12_test_117 : decode cX12_test 117 = .ok (.iconst 3, 1) := by decide +kernel
theorem dX12_test_118 : decode cX12_test 118 = .ok (.goto 4, 3) := by decide +kernel
theorem dX12_test_121 : decode cX12_test 121 = .ok (.iconst 2, 1) := by decide +kernel
theorem dX12_test_122 : decode cX12_test 122 = .ok (.iadd, 1) := by decide +kernel
theorem dX12_test_123 : decode cX12_test 123 = .ok (.putfield 267, 3) := by decide +kernel
theorem dX12_test_126 : decode cX12_test 126 = .ok (.iconst 1, 1) := by decide +kernel
theorem dX12_test_127 : decode cX12_test 127 = .ok (.istore_n 1, 1) := by decide +kernel
theorem dX12_test_128 : decode cX12_test 128 = .ok (.goto 71, 3) := by decide +kernel
theorem dX12_test_131 : decode cX12_test 131 = .ok (.aload_n 0, 1) := by decide +kernel
theorem dX12_test_132 : decode cX12_test 132 = .ok (.bipush 11, 2) := by decide +kernel
theorem dX12_test_134 : decode cX12_test 134 = .ok (.invokevirtual 354, 3) := by decide +kernel
theorem dX12_test_137 : decode cX12_test 137 = .ok (.aload_n 0, 1) := by decide +kernel
theorem dX12_test_138 : decode cX12_test 138 = .ok (.invokevirtual 340, 3) := by decide +kernel
theorem dX12_test_141 : decode cX12_test 141 = .ok (.bipush 12, 2) := by decide +kernel
theorem dX12_test_143 : decode cX12_test 143 = .ok (.if_icmp .ne 54, 3) := by decide +kernel
theorem dX12_test_146 : decode cX12_test 146 = .ok (.aload_n 0, 1) := by decide +kernel
theorem dX12_test_147 : decode cX12_test 147 = .ok (.invokevirtual 270, 3) := by decide +kernel
theorem dX12_test_150 : decode cX12_test 150 = .ok (.bipush 93, 2) := by decide +kernel
theorem dX12_test_152 : decode cX12_test 152 = .ok (.if_icmp .eq 12, 3) := by decide +kernel
theorem dX12_test_155 : decode cX12_test 155 = .ok (.aload_n 0, 1) := by decide +kernel
theorem dX12_test_156 : decode cX12_test 156 = .ok (.iconst 0, 1) := by decide +kernel
theorem dX12_test_157 : decode cX12_test 157 = .ok (.aload_n 0, 1) := by decide +kernel
theorem dX12_test_158 : decode cX12_test 158 = .ok (.getfield 267, 3) := by decide +kernel
theorem dX12_test_161 : decode cX12_test 161 = .ok (.invokevirtual 303, 3) := by decide +kernel
theorem dX12_test_164 : decode cX12_test 164 = .ok (.aload_n 0, 1) := by decide +kernel
theorem dX12_test_165 : decode cX12_test 165 = .ok (.dup, 1) := by decide +kernel
theorem dX12_test_166 : decode cX12_test 166 = .ok (.getfield 267, 3) := by decide +kernel
theorem dX12_test_169 : decode cX12_test 169 = .ok (.iconst 1, 1) := by decide +kernel
theorem dX12_test_170 : decode cX12_test 170 = .ok (.iadd, 1) := by decide +kernel
theorem dX12_test_171 : decode cX12_test 171 = .ok (.putfield 267, 3) := by decide +kernel
theorem dX12_test_174 : decode cX12_test 174 = .ok (.aload_n 0, 1) := by decide +kernel
theorem dX12_test_175 : decode cX12_test 175 = .ok (.dup, 1) := by decide +kernel
theorem dX12_test_176 : decode cX12_test 176 = .ok (.getfield 334, 3) := by decide +kernel
theorem dX12_test_179 : decode cX12_test 179 = .ok (.iconst 1, 1) := by decide +kernel
theorem dX12_test_180 : decode cX12_test 180 = .ok (.isub, 1) := by decide +kernel
theorem dX12_test_181 : decode cX12_test 181 = .ok (.putfield 334, 3) := by decide +kernel
theorem dX12_test_184 : decode cX12_test 184 = .ok (.aload_n 0, 1) := by decide +kernel
theorem dX12_test_185 : decode cX12_test 185 = .ok (.dup, 1) := by decide +kernel
theorem dX12_test_186 : decode cX12_test 186 = .ok (.getfield 337, 3) := by decide +kernel
theorem dX12_test_189 : decode cX12_test 189 = .ok (.iconst 1, 1) := by decide +kernel
theorem dX12_test_190 : decode cX12_test 190 = .ok (.isub, 1) := by decide +kernel
theorem dX12_test_191 : decode cX12_test 191 = .ok (.putfield 337, 3) := by decide +kernel
theorem dX12_test_194 : decode cX12_test 194 = .ok (.goto 5, 3) := by decide +kernel
theorem dX12_test_197 : decode cX12_test 197 = .ok (.iconst 0, 1) := by decide +kernel
theorem dX12_test_198 : decode cX12_test 198 = .ok (.istore_n 2, 1) := by decide +kernel
theorem dX12_test_199 : decode cX12_test 199 = .ok (.goto (-190), 3) := by decide +kernel
theorem dX12_test_202 : decode cX12_test 202 = .ok (.return_, 1) := by decide +kernel
set_option maxRecDepth 100000 in
set_option maxHeartbeats 4000000 in
theorem l_X12_test {t : Nat → Nat} {n r : Nat} {x : PS} {h : ai_H} {S0 : Md} (hn4 : n ≤ 400) : ∀ (m : Nat) (y : PS) (g : ai_H) (S : Md) (b : Bool) (u3 u4 : Value), (1 ≤ m ∧ (pF y = 0 → n + 2 ≤ pP y + m)) → md_at g S → tx_m t n r S → md_ext h g → pfm r S0 S → py_rch t n x y → pok n y → (ded y S ∨ (pD y = pD x ∧ pA y = pA x ∧ ((b = true ∧ pF y = 0 ∧ pZ y = 3 ∧ mr t n r (pE y) (pP y) (pPa y) (pDe y) (pL y) S) ∨ (b = false ∧ bq t n r y S)))) → ai_W MX12_test 9 [.ref 307, .int (if b = true then 1 else 0), .int 1, u3, u4] [] g (fun rv g' => rv = none ∧ md_ext h g' ∧ ∃ T y', md_at g' T ∧ pfm r S0 T ∧ py_rch t n x y' ∧ (ded y' T ∨ (pF y' = 0 ∧ (pZ y' = 7 ∨ pZ y' = 8) ∧ pD y' = pD x ∧ pA y' = pA x ∧ pBr y' = 0 ∧ (pZ y' = 7 → nar t n y') ∧ tx_k t n (tx_fr t n (pP y')) ≠ 10 ∧ tx_k t n (tx_fr t n (pP y')) ≠ 11 ∧ mr t n r (pE y' ++ py_tk (py_tw 1 (pL y'))) (pP y') (pPa y') (pDe y' - py_nt (py_tw 1 (pL y'))) [] T))) := by
  intro m
  induction m with
  | zero => intro y g S b u3 u4 h1; exact absurd h1.1 (by decide)
  | succ m ih =>
    intro y g S b u3 u4 him hmd htx hE hpf hre hy hin
    obtain ⟨x22, -, x25, hr9, xt⟩ := id htx
    rcases hin with hd | ⟨hD, hA, ⟨rfl, h0, h3, hm⟩ | ⟨rfl, h0, h78, hnr, hm⟩⟩
    · skip
      refine wq (fun _ _ kk => rs_iload_n (pc := 9) dX12_test_9 rfl kk) ?_
      refine wq_br (fun _ _ kt kf => rs_if_eq (tgt := 202) (pc := 10) dX12_test_10 rfl kt kf) (fun c_10 => absurd c_10 (by decide)) (fun c_10 => ?_)
      refine wq (fun _ _ kk => rs_aload_n (pc := 13) dX12_test_13 rfl kk) ?_
      refine wq (fun _ _ kk => rs_getf (pc := 14) dX12_test_14 fX12_264 (md_lt hmd (by decide)) hmd.2.1 rfl kk) ?_
      refine wq_bn (fun _ _ kt kf => rs_if_ne (tgt := 202) (pc := 17) dX12_test_17 rfl kt kf) (fun c_17 => ?_) (fun c_17 => absurd c_17 (fun z => (hd.ne hy) z))
      refine wq_ret ?_ (rs_vret (pc := 202) dX12_test_202 rfl)
      exact ⟨rfl, hE, S, y, hmd, hpf, hre, Or.inl hd⟩
    · have hpy : pP y ≤ n := (hy.1 h0).2.2.2.2.2.2.1 (show pZ y ≠ 9 by rw [h3]; decide)
      have hm2 := him.2 h0
      show ai_W MX12_test 9 [.ref 307, .int 1, .int 1, u3, u4] [] g _
      · skip
        refine wq (fun _ _ kk => rs_iload_n (pc := 9) dX12_test_9 rfl kk) ?_
        refine wq_br (fun _ _ kt kf => rs_if_eq (tgt := 202) (pc := 10) dX12_test_10 rfl kt kf) (fun c_10 => absurd c_10 (by decide)) (fun c_10 => ?_)
        refine wq (fun _ _ kk => rs_aload_n (pc := 13) dX12_test_13 rfl kk) ?_
        refine wq (fun _ _ kk => rs_getf (pc := 14) dX12_test_14 fX12_264 (md_lt hmd (by decide)) hmd.2.1 rfl kk) ?_
        rw [hm.1]
        refine wq_bn (fun _ _ kt kf => rs_if_ne (tgt := 202) (pc := 17) dX12_test_17 rfl kt kf) (fun c_17 => absurd c_17 (fun z => z rfl)) (fun c_17 => ?_)
        refine wq (fun _ _ kk => rs_iload_n (pc := 20) dX12_test_20 rfl kk) ?_
        refine wq_br (fun _ _ kt kf => rs_if_eq (tgt := 40) (pc := 21) dX12_test_21 rfl kt kf) (fun c_21 => absurd c_21 (by decide)) (fun c_21 => ?_)
        refine wq (fun _ _ kk => rs_aload_n (pc := 24) dX12_test_24 rfl kk) ?_
        obtain ⟨rv_25, hc_25, ⟨ee_25, T_25, y2, hmd_25, pf_25, re_25, hs_25⟩, hm_25⟩ := c_fact (O := []) hmd htx hy h0 h3 hm
        refine wq (fun _ _ kk => rs_callV (as := []) (pc := 25) dX12_test_25 mk_X12_fact mlX12_351 in_X12_fact se_X12_fact rfl (md_lt hmd (by decide)) hmd.2.1 rfl rfl (Nat.le_of_ble_eq_true rfl) (hm_25) kk) ?_
        replace hmd := hmd_25
        replace htx := htx.of pf_25
        replace hpf := hpf.trans pf_25
        have hy2 := pok_rch hn4 re_25 hy
        have E_25 := (md_ext.rf).trans ee_25
        rcases hs_25 with ⟨rfl, hs2⟩ | ⟨rfl, hs2⟩
        · refine wq_bn (fun _ _ kt kf => rs_if_ne (tgt := 35) (pc := 28) dX12_test_28 rfl kt kf) (fun c_28 => absurd c_28 (by decide)) (fun c_28 => ?_)
          refine wq (fun _ _ kk => rs_iconst (v := 1) (pc := 31) dX12_test_31 rfl kk) ?_
          refine wq (fun _ _ kk => rs_goto (tgt := 36) (pc := 32) dX12_test_32 rfl kk) ?_
          refine wq (fun _ _ kk => wk_istn1 (pc := 36) dX12_test_36 (by decide) rfl kk) ?_
          refine wq (fun _ _ kk => rs_goto (tgt := 9) (pc := 37) dX12_test_37 rfl kk) ?_
          rcases hs2 with hd | ⟨⟨a1, a2, a3, a4, a5⟩, a6⟩
          · exact ih y2 _ _ true _ _ ⟨by omega, fun w => absurd w hd.1⟩ hmd htx (hE.trans (E_25)) hpf (hre.trans re_25) hy2 (Or.inl hd)
          · exact ih y2 _ _ true _ _ ⟨by omega, fun w => by omega⟩ hmd htx (hE.trans (E_25)) hpf (hre.trans re_25) hy2 (Or.inr ⟨a3.trans hD, a4.trans hA, Or.inl ⟨rfl, a1, a2, a6⟩⟩)
        · refine wq_bn (fun _ _ kt kf => rs_if_ne (tgt := 35) (pc := 28) dX12_test_28 rfl kt kf) (fun c_28 => ?_) (fun c_28 => absurd c_28 (by decide))
          refine wq (fun _ _ kk => rs_iconst (v := 0) (pc := 35) dX12_test_35 rfl kk) ?_
          refine wq (fun _ _ kk => wk_istn1 (pc := 36) dX12_test_36 (by decide) rfl kk) ?_
          refine wq (fun _ _ kk => rs_goto (tgt := 9) (pc := 37) dX12_test_37 rfl kk) ?_
          rcases hs2 with hd | ⟨⟨a1, a2, a3, a4, a5, a6, a7⟩, a8, a9, a10⟩
          · exact ih y2 _ _ false _ _ ⟨by omega, fun w => absurd w hd.1⟩ hmd htx (hE.trans (E_25)) hpf (hre.trans re_25) hy2 (Or.inl hd)
          · exact ih y2 _ _ false _ _ ⟨by omega, fun w => by omega⟩ hmd htx (hE.trans (E_25)) hpf (hre.trans re_25) hy2 (Or.inr ⟨a3.trans hD, a6.trans hA, Or.inr ⟨rfl, a1, Or.inl a2, fun _ => a10, by rw [a8]; exact a9⟩⟩)
    · have h9 : pZ y ≠ 9 := by rcases h78 with w | w <;> rw [w] <;> decide
      have hpy : pP y ≤ n := (hy.1 h0).2.2.2.2.2.2.1 h9
      have hge := tx_fr_ge (t := t) (n := n) (p := pP y)
      have hm2 := him.2 h0
      have hro := rd_room hn4 (hy.1 h0)
      have hl35 : (pL y).length ≤ 35 := hro.1
      have hde10 : pDe y ≤ 10 := hro.2.2.2.2.1
      have hbrp : pBr y = py_br (pL y) := (hy.1 h0).2.2.1.2.2.1
      have hdep : pDe y = py_dp (pL y) := (hy.1 h0).2.2.1.1
      have hlen : ∀ lv, (py_dw lv (pL y)).length ≤ 100 := fun lv => Nat.le_trans (List.dropWhile_suffix _).length_le (by omega)
      have hEl : ∀ lv, 1 ≤ lv → (pE y ++ py_tk (py_tw lv (pL y))).length + (py_dw lv (pL y)).length < 300 := fun lv hlv => by
        have z1 := pE_room hn4 hy h0
        have z2 := tw_len hlv (pL y)
        have z3 : (py_dw lv (pL y)).length ≤ (pL y).length := (List.dropWhile_suffix _).length_le
        rw [List.length_append]
        omega
      have hde1 : ∀ mm, py_dw 1 (pL y) = 12 :: mm → 1 ≤ pDe y - py_nt (py_tw 1 (pL y)) := fun mm hdw => by
        have z1 := (py_cnt (r := 1) (by decide) (pL y)).2.1
        have z2 : py_dp (12 :: mm) = py_dp mm + 1 := by unfold py_dp; rw [List.countP_cons]; rfl
        rw [hdw, z2] at z1
        omega
      obtain ⟨a4va, a4adj, a4lo⟩ := opn4 hy h0 h78
      have a4m := hm
      have a4len := hlen 4
      have a4El := hEl 4 (by decide)
      have hnt9 : (pop 9 (py_dw 4 (pL y))).length ≤ pDe y := by
        rw [← nt_pop9, (pop_tw (k := 9) (r := 3) (by decide) a4va a4adj a4lo).1]
        have z1 := (py_cnt (r := 4) (by decide) (pL y)).2.1
        have z2 := (py_cnt (r := 3) (by decide) (py_dw 4 (pL y))).2.1
        omega
      show ai_W MX12_test 9 [.ref 307, .int 0, .int 1, u3, u4] [] g _
      · skip
        refine wq (fun _ _ kk => rs_iload_n (pc := 9) dX12_test_9 rfl kk) ?_
        refine wq_br (fun _ _ kt kf => rs_if_eq (tgt := 202) (pc := 10) dX12_test_10 rfl kt kf) (fun c_10 => absurd c_10 (by decide)) (fun c_10 => ?_)
        refine wq (fun _ _ kk => rs_aload_n (pc := 13) dX12_test_13 rfl kk) ?_
        refine wq (fun _ _ kk => rs_getf (pc := 14) dX12_test_14 fX12_264 (md_lt hmd (by decide)) hmd.2.1 rfl kk) ?_
        rw [hm.1]
        refine wq_bn (fun _ _ kt kf => rs_if_ne (tgt := 202) (pc := 17) dX12_test_17 rfl kt kf) (fun c_17 => absurd c_17 (fun z => z rfl)) (fun c_17 => ?_)
        refine wq (fun _ _ kk => rs_iload_n (pc := 20) dX12_test_20 rfl kk) ?_
        refine wq_br (fun _ _ kt kf => rs_if_eq (tgt := 40) (pc := 21) dX12_test_21 rfl kt kf) (fun c_21 => ?_) (fun c_21 => absurd c_21 (by decide))
        refine wq (fun _ _ kk => rs_aload_n (pc := 40) dX12_test_40 rfl kk) ?_
        refine wq (fun _ _ kk => rs_bipush (v := 9) (pc := 41) dX12_test_41 rfl kk) ?_
        obtain ⟨rv_43, hc_43, ⟨rfl, ee_43, T_43, hmd_43, pf_43, f_43, hx_43⟩, hm_43⟩ := c_X12_answers9 (O := py_dw 4 (pL y)) (E := pE y ++ py_tk (py_tw 4 (pL y))) (p := pP y) (pa := pPa y) (de := pDe y) (fun x hx => by have := a4va x hx; omega) a4len a4El hnt9 hmd htx a4m
        refine wq (fun _ _ kk => rs_callV (as := [_]) (pc := 43) dX12_test_43 mk_X12_answers mlX12_354 in_X12_answers se_X12_answers rfl (md_lt hmd (by decide)) hmd.2.1 rfl rfl (Nat.le_of_ble_eq_true rfl) (hm_43) kk) ?_
        replace hmd := hmd_43
        replace htx := htx.of pf_43
        replace hpf := hpf.trans pf_43
        obtain ⟨a3m, a3va, a3adj⟩ := ans_st (E := pE y) (de := pDe y) (k := 9) (lev := 3) (hi := 4) (by decide) a4va a4adj (by rw [py_nt_hi (by decide) (pL y), Nat.sub_zero, if_pos rfl]; exact hx_43)
        have a3len := hlen 3
        have a3El := hEl 3 (by decide)
        have E_43 := (md_ext.rf).trans ee_43
        refine wq (fun _ _ kk => rs_aload_n (pc := 46) dX12_test_46 rfl kk) ?_
        obtain ⟨rv_47, hc_47, ⟨rfl, ee_47, T_47, hmd_47, pf_47, hb_47⟩, hm_47⟩ := c_bl (x := y) (E := pE y ++ py_tk (py_tw 3 (pL y))) (p := pP y) (pa := pPa y) (de := pDe y - py_nt (py_tw 3 (pL y))) (O := py_dw 3 (pL y)) hmd htx (Or.inr a3m)
        refine wq (fun _ _ kk => rs_callV (as := []) (pc := 47) dX12_test_47 mk_X12_blanks mlX12_287 in_X12_blanks se_X12_blanks rfl (md_lt hmd (by decide)) hmd.2.1 rfl rfl (Nat.le_of_ble_eq_true rfl) (hm_47) kk) ?_
        replace hmd := hmd_47
        replace htx := htx.of pf_47
        replace hpf := hpf.trans pf_47
        clear a3m
        obtain ⟨-, a3m, hq, hqn⟩ := hb_47.resolve_left (fun w => w.1.1 h0)
        have E_47 := (E_43).trans ee_47
        refine wq (fun _ _ kk => rs_aload_n (pc := 50) dX12_test_50 rfl kk) ?_
        refine wq (fun _ _ kk => rs_ldcwS (pc := 51) dX12_test_51 (j := 3) (tx := "and") (by decide) kk) ?_
        refine wq (fun _ _ kk => rs_callV (as := [_]) (pc := 54) dX12_test_54 mk_X12_stands mlX12_290 in_X12_stands se_X12_stands rfl (md_lt hmd (by decide)) hmd.2.1 rfl rfl (Nat.le_of_ble_eq_true rfl) (c_X12_stands (j := 3) (by decide) hmd htx hq (by omega)) kk) ?_
        refine wq (fun _ _ kk => wk_istn3 (pc := 57) dX12_test_57 (by decide) rfl kk) ?_
        refine wq (fun _ _ kk => rs_aload_n (pc := 58) dX12_test_58 rfl kk) ?_
        refine wq (fun _ _ kk => rs_ldcwS (pc := 59) dX12_test_59 (j := 2) (tx := "or") (by decide) kk) ?_
        refine wq (fun _ _ kk => rs_callV (as := [_]) (pc := 62) dX12_test_62 mk_X12_stands mlX12_290 in_X12_stands se_X12_stands rfl (md_lt hmd (by decide)) hmd.2.1 rfl rfl (Nat.le_of_ble_eq_true rfl) (c_X12_stands (j := 2) (by decide) hmd htx hq (by omega)) kk) ?_
        refine wq (fun _ _ kk => wk_ist4 (pc := 65) dX12_test_65 (by decide) rfl kk) ?_
        refine wq (fun _ _ kk => rs_aload_n (pc := 67) dX12_test_67 rfl kk) ?_
        refine wq (fun _ _ kk => rs_bipush (v := 10) (pc := 68) dX12_test_68 rfl kk) ?_
        obtain ⟨rv_70, hc_70, ⟨rfl, ee_70, T_70, hmd_70, pf_70, f_70, hx_70⟩, hm_70⟩ := c_X12_answers10 (O := py_dw 3 (pL y)) (E := pE y ++ py_tk (py_tw 3 (pL y))) (p := pP y) (pa := pPa y) (de := pDe y - py_nt (py_tw 3 (pL y))) (fun x hx => by have := a3va x hx; omega) a3len a3El (Nat.zero_le _) hmd htx a3m
        refine wq (fun _ _ kk => rs_callV (as := [_]) (pc := 70) dX12_test_70 mk_X12_answers mlX12_354 in_X12_answers se_X12_answers rfl (md_lt hmd (by decide)) hmd.2.1 rfl rfl (Nat.le_of_ble_eq_true rfl) (hm_70) kk) ?_
        replace hmd := hmd_70
        replace htx := htx.of pf_70
        replace hpf := hpf.trans pf_70
        rw [hq] at f_70
        obtain ⟨a2m, a2va, a2adj⟩ := ans_st (E := pE y) (de := pDe y) (k := 10) (lev := 2) (hi := 3) (by decide) a3va a3adj (by rw [if_neg (by decide)]; exact hx_70)
        have a2len := hlen 2
        have a2El := hEl 2 (by decide)
        have E_70 := (E_47).trans ee_70
        refine wq (fun _ _ kk => rs_iload_n (pc := 73) dX12_test_73 rfl kk) ?_
        refine wq_bn (fun _ _ kt kf => rs_if_ne (tgt := 82) (pc := 74) dX12_test_74 rfl kt kf) (fun c_74 => ?_) (fun c_74 => ?_)
        · have g3 : tx_ix t (tx_fr t n (pP y)) (tx_rn (tx_lt t) n (tx_fr t n (pP y))) = 3 := Classical.byContradiction fun z => c_74 (if_neg z)
          obtain ⟨kk, ke, -⟩ := tx_k_wd (t := t) (by decide) g3
          replace kk : tx_k t n (tx_fr t n (pP y)) = 10 := kk
          replace ke : tx_e t n (tx_fr t n (pP y)) = (tx_fr t n (pP y)) + 3 := ke
          have hke : (tx_fr t n (pP y)) + 3 ≤ n := by rw [← ke]; exact tx_e_le (tx_ix_at (by decide) g3).1
          refine wq (fun _ _ kk => rs_iload (pc := 82) dX12_test_82 rfl kk) ?_
          refine wq_br (fun _ _ kt kf => rs_if_eq (tgt := 93) (pc := 84) dX12_test_84 rfl kt kf) (fun c_84 => ?_) (fun c_84 => absurd c_84 (fun z => z (if_neg (by omega))))
          refine wq (fun _ _ kk => rs_aload_n (pc := 93) dX12_test_93 rfl kk) ?_
          refine wq (fun _ _ kk => rs_iload_n (pc := 94) dX12_test_94 rfl kk) ?_
          refine wq_br (fun _ _ kt kf => rs_if_eq (tgt := 103) (pc := 95) dX12_test_95 rfl kt kf) (fun c_95 => absurd c_95 (by rw [if_pos g3]; decide)) (fun c_95 => ?_)
          refine wq (fun _ _ kk => rs_bipush (v := 10) (pc := 98) dX12_test_98 rfl kk) ?_
          refine wq (fun _ _ kk => rs_goto (tgt := 105) (pc := 100) dX12_test_100 rfl kk) ?_
          obtain ⟨rv_105, hc_105, ⟨rfl, ee_105, T_105, hmd_105, pf_105, o23, o26, o28, o31, o32, o29, o37, o24, o27⟩, hm_105⟩ := c_X12_opens10 (r := r) (O := py_dw 2 (pL y)) (de := pDe y - py_nt (py_tw 2 (pL y))) hmd a2m.2.2.2.1 (by omega) a2m.2.2.2.2.2.1 (by omega) a2m.2.2.2.2.2.2
          refine wq (fun _ _ kk => rs_callV (as := [_]) (pc := 105) dX12_test_105 mk_X12_opens mlX12_345 in_X12_opens se_X12_opens rfl (md_lt hmd (by decide)) hmd.2.1 rfl rfl (Nat.le_of_ble_eq_true rfl) (hm_105) kk) ?_
          replace hmd := hmd_105
          replace htx := htx.of pf_105
          replace hpf := hpf.trans pf_105
          have E_105 := (E_70).trans ee_105
          refine wq (fun _ _ kk => rs_aload_n (pc := 108) dX12_test_108 rfl kk) ?_
          refine wq (fun _ _ kk => rs_dup (pc := 109) dX12_test_109 rfl kk) ?_
          refine wq (fun _ _ kk => rs_getf (pc := 110) dX12_test_110 fX12_267 (md_lt hmd (by decide)) hmd.2.1 rfl kk) ?_
          rw [o23, f_70]
          refine wq (fun _ _ kk => rs_iload_n (pc := 113) dX12_test_113 rfl kk) ?_
          refine wq_br (fun _ _ kt kf => rs_if_eq (tgt := 121) (pc := 114) dX12_test_114 rfl kt kf) (fun c_114 => absurd c_114 (by rw [if_pos g3]; decide)) (fun c_114 => ?_)
          refine wq (fun _ _ kk => rs_iconst (v := 3) (pc := 117) dX12_test_117 rfl kk) ?_
          refine wq (fun _ _ kk => rs_goto (tgt := 122) (pc := 118) dX12_test_118 rfl kk) ?_
          refine wq (fun _ _ kk => rs_iadd (pc := 122) dX12_test_122 kk) ?_
          rw [show nI (tx_fr t n (pP y)) + 3 = nI ((tx_fr t n (pP y)) + 3) from nI_add _ 3]
          refine wq (fun _ _ kk => rs_putf (pc := 123) dX12_test_123 fX12_267 (md_lt hmd (by decide)) hmd.2.1 rfl (Nat.le_of_ble_eq_true rfl) kk) ?_
          refine wq_gen (fun h_1 e_1 => ?_)
          obtain ⟨m_1, s_1, g_1, o_1⟩ := ai_e1 e_1
          replace hmd := md_at_si (k := 23) hmd m_1 g_1 o_1 rfl
          have E_1 := (E_105).trans (md_ext_of m_1 s_1 o_1 (by decide))
          obtain ⟨S_123, hmd, k_p, r_p, s_p⟩ := md_new hmd
          have hpf3 : pfm r T_105 S_123 := pfm.put (by decide) r_p s_p
          replace htx := htx.of hpf3
          replace hpf := hpf.trans hpf3
          obtain ⟨z, hz, z0, z1, z2, z3, z4, z5, z6, z7, z8⟩ := fct_join (t := t) (n := n) (k := 10) (y := y) (by decide) (a := (tx_fr t n (pP y))) (e := tx_e t n (tx_fr t n (pP y)))
          rw [← fct_step (t := t) (n := n) h78 kk (fun _ => by decide)] at hz
          have zr : py_rch t n y z := by rw [← hz]; exact py_rch.one h0 h9
          have hyz := pok_rch hn4 zr hy
          refine wq (fun _ _ kk => rs_iconst (v := 1) (pc := 126) dX12_test_126 rfl kk) ?_
          refine wq (fun _ _ kk => wk_istn1 (pc := 127) dX12_test_127 (by decide) rfl kk) ?_
          refine wq (fun _ _ kk => rs_goto (tgt := 199) (pc := 128) dX12_test_128 rfl kk) ?_
          refine wq (fun _ _ kk => rs_goto (tgt := 9) (pc := 199) dX12_test_199 rfl kk) ?_
          refine ih z _ _ true _ _ ⟨by omega, fun w => ?_⟩ hmd htx (hE.trans (E_1)) hpf (hre.trans zr) hyz (Or.inr ⟨z5.trans hD, z6.trans hA, Or.inl ⟨rfl, z0, z1, ?_⟩⟩)
          · rw [show pP z = tx_e t n (tx_fr t n (pP y)) from z2, ke]
            omega
          · rw [z8, z7, z4, z3, z2]
            exact op_mr a2m o26 o28 o31 o32 o29 o37 (o24.trans a2m.1) o27 r_p s_p (by rw [ke]; exact k_p) (by rw [ke]; omega) rfl
        · have g3 : ¬ tx_ix t (tx_fr t n (pP y)) (tx_rn (tx_lt t) n (tx_fr t n (pP y))) = 3 := fun z => absurd c_74 (by rw [if_pos z]; decide)
          refine wq (fun _ _ kk => rs_iload (pc := 77) dX12_test_77 rfl kk) ?_
          refine wq_br (fun _ _ kt kf => rs_if_eq (tgt := 131) (pc := 79) dX12_test_79 rfl kt kf) (fun c_79 => ?_) (fun c_79 => ?_)
          · have g2 : ¬ tx_ix t (tx_fr t n (pP y)) (tx_rn (tx_lt t) n (tx_fr t n (pP y))) = 2 := fun z => absurd c_79 (by rw [if_pos z]; decide)
            have n10 : tx_k t n (tx_fr t n (pP y)) ≠ 10 := fun w => g3 (tx_wd_k w (by decide) rfl tx_wk_u.2.1 (fun c d w2 => (tx_sk_no w2).2.2.2.1 rfl) (by decide))
            have n11 : tx_k t n (tx_fr t n (pP y)) ≠ 11 := fun w => g2 (tx_wd_k w (by decide) rfl tx_wk_u.2.2.1 (fun c d w2 => (tx_sk_no w2).2.2.2.2.1 rfl) (by decide))
            refine wq (fun _ _ kk => rs_aload_n (pc := 131) dX12_test_131 rfl kk) ?_
            refine wq (fun _ _ kk => rs_bipush (v := 11) (pc := 132) dX12_test_132 rfl kk) ?_
            obtain ⟨rv_134, hc_134, ⟨rfl, ee_134, T_134, hmd_134, pf_134, f_134, hx_134⟩, hm_134⟩ := c_X12_answers11 (O := py_dw 2 (pL y)) (E := pE y ++ py_tk (py_tw 2 (pL y))) (p := pP y) (pa := pPa y) (de := pDe y - py_nt (py_tw 2 (pL y))) (fun x hx => by have := a2va x hx; omega) a2len a2El (Nat.zero_le _) hmd htx a2m
            refine wq (fun _ _ kk => rs_callV (as := [_]) (pc := 134) dX12_test_134 mk_X12_answers mlX12_354 in_X12_answers se_X12_answers rfl (md_lt hmd (by decide)) hmd.2.1 rfl rfl (Nat.le_of_ble_eq_true rfl) (hm_134) kk) ?_
            replace hmd := hmd_134
            replace htx := htx.of pf_134
            replace hpf := hpf.trans pf_134
            rw [f_70] at f_134
            obtain ⟨a1m, a1va, a1adj⟩ := ans_st (E := pE y) (de := pDe y) (k := 11) (lev := 1) (hi := 2) (by decide) a2va a2adj (by rw [if_neg (by decide)]; exact hx_134)
            have a1len := hlen 1
            have a1El := hEl 1 (by decide)
            have E_134 := (E_70).trans ee_134
            refine wq (fun _ _ kk => rs_aload_n (pc := 137) dX12_test_137 rfl kk) ?_
            refine wq (fun _ _ kk => rs_callV (as := []) (pc := 138) dX12_test_138 mk_X12_top mlX12_340 in_X12_top se_X12_top rfl (md_lt hmd (by decide)) hmd.2.1 rfl rfl (Nat.le_of_ble_eq_true rfl) (c_X12_top hmd a1m.2.2.2.2.2.1 (by omega) a1m.2.2.2.2.2.2) kk) ?_
            refine wq (fun _ _ kk => rs_bipush (v := 12) (pc := 141) dX12_test_141 rfl kk) ?_
            refine wq_bn (fun _ _ kt kf => rs_icmp_ne (tgt := 197) (pc := 143) dX12_test_143 rfl kt kf) (fun c_143 => ?_) (fun c_143 => ?_)
            · have hbr : pBr y = 0 := Classical.byContradiction fun w => by
                obtain ⟨mm, hdw⟩ := py_dw1b (pL y) (by rw [← hbrp]; exact w)
                exact c_143 (by rw [hdw]; rfl)
              refine wq (fun _ _ kk => rs_iconst (v := 0) (pc := 197) dX12_test_197 rfl kk) ?_
              refine wq (fun _ _ kk => wk_istn2 (pc := 198) dX12_test_198 (by decide) rfl kk) ?_
              refine wq (fun _ _ kk => rs_goto (tgt := 9) (pc := 199) dX12_test_199 rfl kk) ?_
              refine wq (fun _ _ kk => rs_iload_n (pc := 9) dX12_test_9 rfl kk) ?_
              refine wq_br (fun _ _ kt kf => rs_if_eq (tgt := 202) (pc := 10) dX12_test_10 rfl kt kf) (fun c_10 => ?_) (fun c_10 => absurd c_10 (by decide))
              refine wq_ret ?_ (rs_vret (pc := 202) dX12_test_202 rfl)
              rw [py_dw1 (pL y) (by rw [← hbrp]; exact hbr)] at a1m
              exact ⟨rfl, hE.trans (E_134), T_134, y, hmd, hpf, hre, Or.inr ⟨h0, h78, hD, hA, hbr, hnr, n10, n11, a1m⟩⟩
            · have hdx : ∃ mm, py_dw 1 (pL y) = 12 :: mm := by
                cases e : py_dw 1 (pL y) with
                | nil => rw [e] at c_143; exact absurd c_143 (by decide)
                | cons z mm =>
                  rw [e] at c_143
                  have hz := a1va z (by rw [e]; exact List.mem_cons_self ..)
                  exact ⟨mm, by rw [nI_inj (a := z) (b := 12) (by omega) (by decide) c_143]⟩
              obtain ⟨mm, hdw⟩ := hdx
              have hbr : pBr y ≠ 0 := fun w => by
                have := py_dw1 (pL y) (by rw [← hbrp]; exact w)
                rw [this] at hdw; cases hdw
              refine wq (fun _ _ kk => rs_aload_n (pc := 146) dX12_test_146 rfl kk) ?_
              refine wq (fun _ _ kk => rs_callV (as := []) (pc := 147) dX12_test_147 mk_X12_sign mlX12_270 in_X12_sign se_X12_sign rfl (md_lt hmd (by decide)) hmd.2.1 rfl rfl (Nat.le_of_ble_eq_true rfl) (c_X12_sign hmd htx f_134 (by omega)) kk) ?_
              refine wq (fun _ _ kk => rs_bipush (v := 93) (pc := 150) dX12_test_150 rfl kk) ?_
              refine wq_br (fun _ _ kt kf => rs_icmp_eq (tgt := 164) (pc := 152) dX12_test_152 rfl kt kf) (fun c_152 => ?_) (fun c_152 => ?_)
              · have g9 := (tx_s_eq (c := 93) (fun w => (xt _ w).1) (by decide)).mp c_152
                obtain ⟨kk, ke⟩ := tx_sg_k (t := t) g9.1 (by omega) (by omega)
                rw [g9.2] at kk ke
                replace kk : tx_k t n (tx_fr t n (pP y)) = 16 := kk
                replace ke : tx_e t n (tx_fr t n (pP y)) = (tx_fr t n (pP y)) + 1 := ke
                refine wq (fun _ _ kk => rs_aload_n (pc := 164) dX12_test_164 rfl kk) ?_
                refine wq (fun _ _ kk => rs_dup (pc := 165) dX12_test_165 rfl kk) ?_
                refine wq (fun _ _ kk => rs_getf (pc := 166) dX12_test_166 fX12_267 (md_lt hmd (by decide)) hmd.2.1 rfl kk) ?_
                rw [f_134]
                refine wq (fun _ _ kk => rs_iconst (v := 1) (pc := 169) dX12_test_169 rfl kk) ?_
                refine wq (fun _ _ kk => rs_iadd (pc := 170) dX12_test_170 kk) ?_
                refine wq (fun _ _ kk => rs_putf (pc := 171) dX12_test_171 fX12_267 (md_lt hmd (by decide)) hmd.2.1 rfl (Nat.le_of_ble_eq_true rfl) kk) ?_
                refine wq_gen (fun h_2 e_2 => ?_)
                obtain ⟨m_2, s_2, g_2, o_2⟩ := ai_e1 e_2
                replace hmd := md_at_si (k := 23) hmd m_2 g_2 o_2 rfl
                have E_2 := (E_134).trans (md_ext_of m_2 s_2 o_2 (by decide))
                obtain ⟨S_1, hmd, k_1, r_1, s_1⟩ := md_new hmd
                rw [nI_1] at k_1
                refine wq (fun _ _ kk => rs_aload_n (pc := 174) dX12_test_174 rfl kk) ?_
                refine wq (fun _ _ kk => rs_dup (pc := 175) dX12_test_175 rfl kk) ?_
                refine wq (fun _ _ kk => rs_getf (pc := 176) dX12_test_176 fX12_334 (md_lt hmd (by decide)) hmd.2.1 rfl kk) ?_
                rw [r_1 29 (by decide), a1m.2.2.2.2.2.1, hdw]
                refine wq (fun _ _ kk => rs_iconst (v := 1) (pc := 179) dX12_test_179 rfl kk) ?_
                refine wq (fun _ _ kk => rs_isub (pc := 180) dX12_test_180 kk) ?_
                rw [show nI (12 :: mm).length - 1 = nI mm.length from nI_pred mm.length]
                refine wq (fun _ _ kk => rs_putf (pc := 181) dX12_test_181 fX12_334 (md_lt hmd (by decide)) hmd.2.1 rfl (Nat.le_of_ble_eq_true rfl) kk) ?_
                refine wq_gen (fun h_3 e_3 => ?_)
                obtain ⟨m_3, s_3, g_3, o_3⟩ := ai_e1 e_3
                replace hmd := md_at_si (k := 29) hmd m_3 g_3 o_3 rfl
                have E_3 := (E_2).trans (md_ext_of m_3 s_3 o_3 (by decide))
                obtain ⟨S_2, hmd, k_2, r_2, s_2⟩ := md_new hmd
                refine wq (fun _ _ kk => rs_aload_n (pc := 184) dX12_test_184 rfl kk) ?_
                refine wq (fun _ _ kk => rs_dup (pc := 185) dX12_test_185 rfl kk) ?_
                refine wq (fun _ _ kk => rs_getf (pc := 186) dX12_test_186 fX12_337 (md_lt hmd (by decide)) hmd.2.1 rfl kk) ?_
                rw [r_2 27 (by decide), r_1 27 (by decide), a1m.2.2.2.1]
                refine wq (fun _ _ kk => rs_iconst (v := 1) (pc := 189) dX12_test_189 rfl kk) ?_
                refine wq (fun _ _ kk => rs_isub (pc := 190) dX12_test_190 kk) ?_
                rw [show nI (pDe y - py_nt (py_tw 1 (pL y))) - 1 = nI (pDe y - py_nt (py_tw 1 (pL y)) - 1) from nI_sub (b := 1) (hde1 _ hdw)]
                refine wq (fun _ _ kk => rs_putf (pc := 191) dX12_test_191 fX12_337 (md_lt hmd (by decide)) hmd.2.1 rfl (Nat.le_of_ble_eq_true rfl) kk) ?_
                refine wq_gen (fun h_4 e_4 => ?_)
                obtain ⟨m_4, s_4, g_4, o_4⟩ := ai_e1 e_4
                replace hmd := md_at_si (k := 27) hmd m_4 g_4 o_4 rfl
                have E_4 := (E_3).trans (md_ext_of m_4 s_4 o_4 (by decide))
                obtain ⟨S_3, hmd, k_3, r_3, s_3⟩ := md_new hmd
                have pfx : pfm r T_134 S_3 := (pfm.put (by decide) r_1 s_1).trans ((pfm.put (by decide) r_2 s_2).trans (pfm.put (by decide) r_3 s_3))
                refine wq (fun _ _ kk => rs_goto (tgt := 199) (pc := 194) dX12_test_194 rfl kk) ?_
                refine wq (fun _ _ kk => rs_goto (tgt := 9) (pc := 199) dX12_test_199 rfl kk) ?_
                obtain ⟨z, hz, z0, z1, z2, z3, z4, z5, z6, z7, z8⟩ := (fct_brk (k := 16) (y := y) (a := (tx_fr t n (pP y))) (e := tx_e t n (tx_fr t n (pP y))) (by decide) hbr).2 rfl
                rw [← fct_step (t := t) (n := n) h78 kk (fun _ => by decide)] at hz
                have zr : py_rch t n y z := by rw [← hz]; exact py_rch.one h0 h9
                have hyz := pok_rch hn4 zr hy
                rw [hdw] at z7
                have z7' : pL z = mm := z7
                rw [hdw] at a1m a1adj
                have hlo4 : py_lo 4 mm := a1adj.1
                refine ih z _ _ false _ _ ⟨by omega, fun w => ?_⟩ hmd (htx.of pfx) (hE.trans (E_4)) (hpf.trans pfx) (hre.trans zr) hyz (Or.inr ⟨z5.trans hD, z6.trans hA, Or.inr ⟨rfl, z0, Or.inr z1, fun w => absurd w (by rw [z1]; decide), ?_⟩⟩)
                · rw [show pP z = tx_e t n (tx_fr t n (pP y)) from z2, ke]
                  omega
                · rw [z7', (py_lo_tw hlo4).1, (py_lo_tw hlo4).2, show py_tk [] = [] from rfl, List.append_nil, z8, z4, z3, z2]
                  obtain ⟨m0, m1, ⟨m2, m2'⟩, m3, m4, m5, m6⟩ := a1m
                  refine ⟨by rw [r_3 24 (by decide), r_2 24 (by decide), r_1 24 (by decide)]; exact m0, ⟨(tx_fr t n (pP y)) + 1, by rw [r_3 23 (by decide), r_2 23 (by decide)]; exact k_1, by omega, by rw [ke]⟩, ⟨by rw [r_3 26 (by decide), r_2 26 (by decide), r_1 26 (by decide)]; exact m2, MT_cong m2' (fun k _ => by rw [s_3, s_2, s_1]; exact ⟨rfl, rfl⟩)⟩, k_3, by rw [r_3 28 (by decide), r_2 28 (by decide), r_1 28 (by decide)]; exact m4, by rw [r_3 29 (by decide)]; exact k_2, by rw [s_3, s_2, s_1]; exact m6.2⟩
              · have kk : tx_k t n (tx_fr t n (pP y)) ≠ 16 := fun w => by
                  obtain ⟨k1, k2⟩ := tx_k_sgn w (by omega)
                  exact c_152 ((tx_s_eq (c := 93) (fun w => (xt _ w).1) (by decide)).mpr ⟨k1, (tx_sk_c k2).2.2.2.2.2.1 rfl⟩)
                refine wq (fun _ _ kk => rs_aload_n (pc := 155) dX12_test_155 rfl kk) ?_
                refine wq (fun _ _ kk => rs_iconst (v := 0) (pc := 156) dX12_test_156 rfl kk) ?_
                refine wq (fun _ _ kk => rs_aload_n (pc := 157) dX12_test_157 rfl kk) ?_
                refine wq (fun _ _ kk => rs_getf (pc := 158) dX12_test_158 fX12_267 (md_lt hmd (by decide)) hmd.2.1 rfl kk) ?_
                rw [f_134]
                obtain ⟨rv_161, hc_161, ⟨rfl, ee_161, T_161, hmd_161, q0, q3⟩, hm_161⟩ := c_X12_fails (c := 0) (a := (tx_fr t n (pP y))) hmd
                refine wq (fun _ _ kk => rs_callV (as := [_, _]) (pc := 161) dX12_test_161 mk_X12_fails mlX12_303 in_X12_fails se_X12_fails rfl (md_lt hmd (by decide)) hmd.2.1 rfl rfl (Nat.le_of_ble_eq_true rfl) (hm_161) kk) ?_
                replace hmd := hmd_161
                have E_161 := (E_134).trans ee_161
                refine wq (fun _ _ kk => rs_aload_n (pc := 164) dX12_test_164 rfl kk) ?_
                refine wq (fun _ _ kk => rs_dup (pc := 165) dX12_test_165 rfl kk) ?_
                refine wq (fun _ _ kk => rs_getf (pc := 166) dX12_test_166 fX12_267 (md_lt hmd (by decide)) hmd.2.1 rfl kk) ?_
                rw [q0.1 23 (by decide), f_134]
                refine wq (fun _ _ kk => rs_iconst (v := 1) (pc := 169) dX12_test_169 rfl kk) ?_
                refine wq (fun _ _ kk => rs_iadd (pc := 170) dX12_test_170 kk) ?_
                refine wq (fun _ _ kk => rs_putf (pc := 171) dX12_test_171 fX12_267 (md_lt hmd (by decide)) hmd.2.1 rfl (Nat.le_of_ble_eq_true rfl) kk) ?_
                refine wq_gen (fun h_5 e_5 => ?_)
                obtain ⟨m_5, s_5, g_5, o_5⟩ := ai_e1 e_5
                replace hmd := md_at_si (k := 23) hmd m_5 g_5 o_5 rfl
                have E_5 := (E_161).trans (md_ext_of m_5 s_5 o_5 (by decide))
                obtain ⟨S_1, hmd, k_1, r_1, s_1⟩ := md_new hmd
                rw [nI_1] at k_1
                refine wq (fun _ _ kk => rs_aload_n (pc := 174) dX12_test_174 rfl kk) ?_
                refine wq (fun _ _ kk => rs_dup (pc := 175) dX12_test_175 rfl kk) ?_
                refine wq (fun _ _ kk => rs_getf (pc := 176) dX12_test_176 fX12_334 (md_lt hmd (by decide)) hmd.2.1 rfl kk) ?_
                rw [r_1 29 (by decide), q0.1 29 (by decide), a1m.2.2.2.2.2.1, hdw]
                refine wq (fun _ _ kk => rs_iconst (v := 1) (pc := 179) dX12_test_179 rfl kk) ?_
                refine wq (fun _ _ kk => rs_isub (pc := 180) dX12_test_180 kk) ?_
                rw [show nI (12 :: mm).length - 1 = nI mm.length from nI_pred mm.length]
                refine wq (fun _ _ kk => rs_putf (pc := 181) dX12_test_181 fX12_334 (md_lt hmd (by decide)) hmd.2.1 rfl (Nat.le_of_ble_eq_true rfl) kk) ?_
                refine wq_gen (fun h_6 e_6 => ?_)
                obtain ⟨m_6, s_6, g_6, o_6⟩ := ai_e1 e_6
                replace hmd := md_at_si (k := 29) hmd m_6 g_6 o_6 rfl
                have E_6 := (E_5).trans (md_ext_of m_6 s_6 o_6 (by decide))
                obtain ⟨S_2, hmd, k_2, r_2, s_2⟩ := md_new hmd
                refine wq (fun _ _ kk => rs_aload_n (pc := 184) dX12_test_184 rfl kk) ?_
                refine wq (fun _ _ kk => rs_dup (pc := 185) dX12_test_185 rfl kk) ?_
                refine wq (fun _ _ kk => rs_getf (pc := 186) dX12_test_186 fX12_337 (md_lt hmd (by decide)) hmd.2.1 rfl kk) ?_
                rw [r_2 27 (by decide), r_1 27 (by decide), q0.1 27 (by decide), a1m.2.2.2.1]
                refine wq (fun _ _ kk => rs_iconst (v := 1) (pc := 189) dX12_test_189 rfl kk) ?_
                refine wq (fun _ _ kk => rs_isub (pc := 190) dX12_test_190 kk) ?_
                rw [show nI (pDe y - py_nt (py_tw 1 (pL y))) - 1 = nI (pDe y - py_nt (py_tw 1 (pL y)) - 1) from nI_sub (b := 1) (hde1 _ hdw)]
                refine wq (fun _ _ kk => rs_putf (pc := 191) dX12_test_191 fX12_337 (md_lt hmd (by decide)) hmd.2.1 rfl (Nat.le_of_ble_eq_true rfl) kk) ?_
                refine wq_gen (fun h_7 e_7 => ?_)
                obtain ⟨m_7, s_7, g_7, o_7⟩ := ai_e1 e_7
                replace hmd := md_at_si (k := 27) hmd m_7 g_7 o_7 rfl
                have E_7 := (E_6).trans (md_ext_of m_7 s_7 o_7 (by decide))
                obtain ⟨S_3, hmd, k_3, r_3, s_3⟩ := md_new hmd
                have pfx : pfm r T_134 S_3 := (q0.f (by decide)).trans ((pfm.put (by decide) r_1 s_1).trans ((pfm.put (by decide) r_2 s_2).trans (pfm.put (by decide) r_3 s_3)))
                refine wq (fun _ _ kk => rs_goto (tgt := 199) (pc := 194) dX12_test_194 rfl kk) ?_
                refine wq (fun _ _ kk => rs_goto (tgt := 9) (pc := 199) dX12_test_199 rfl kk) ?_
                have hz := (fct_brk (k := tx_k t n (tx_fr t n (pP y))) (y := y) (a := (tx_fr t n (pP y))) (e := tx_e t n (tx_fr t n (pP y))) (by omega) hbr).1 kk
                rw [← fct_step (t := t) (n := n) h78 rfl (fun w => hnr w)] at hz
                have zr : py_rch t n y (py_fail 0 (tx_fr t n (pP y)) y) := by rw [← hz]; exact py_rch.one h0 h9
                have hyz := pok_rch hn4 zr hy
                exact ih (py_fail 0 (tx_fr t n (pP y)) y) _ _ false _ _ ⟨by omega, fun w => absurd w (by rw [pF_fail]; omega)⟩ hmd (htx.of pfx) (hE.trans (E_7)) (hpf.trans pfx) (hre.trans zr) hyz (Or.inl ⟨by rw [pF_fail]; omega, by rw [pF_fail, r_3 24 (by decide), r_2 24 (by decide), r_1 24 (by decide), q3, a1m.1, if_pos rfl], (tx_fr t n (pP y)) + 1, by rw [r_3 23 (by decide), r_2 23 (by decide)]; exact k_1, by omega⟩)
          · have g2 : tx_ix t (tx_fr t n (pP y)) (tx_rn (tx_lt t) n (tx_fr t n (pP y))) = 2 := Classical.byContradiction fun z => c_79 (if_neg z)
            obtain ⟨kk, ke, -⟩ := tx_k_wd (t := t) (by decide) g2
            replace kk : tx_k t n (tx_fr t n (pP y)) = 11 := kk
            replace ke : tx_e t n (tx_fr t n (pP y)) = (tx_fr t n (pP y)) + 2 := ke
            have hke : (tx_fr t n (pP y)) + 2 ≤ n := by rw [← ke]; exact tx_e_le (tx_ix_at (by decide) g2).1
            refine wq (fun _ _ kk => rs_iload (pc := 82) dX12_test_82 rfl kk) ?_
            refine wq_br (fun _ _ kt kf => rs_if_eq (tgt := 93) (pc := 84) dX12_test_84 rfl kt kf) (fun c_84 => absurd c_84 (by rw [if_pos g2]; decide)) (fun c_84 => ?_)
            refine wq (fun _ _ kk => rs_aload_n (pc := 87) dX12_test_87 rfl kk) ?_
            refine wq (fun _ _ kk => rs_bipush (v := 11) (pc := 88) dX12_test_88 rfl kk) ?_
            obtain ⟨rv_90, hc_90, ⟨rfl, ee_90, T_90, hmd_90, pf_90, f_90, hx_90⟩, hm_90⟩ := c_X12_answers11 (O := py_dw 2 (pL y)) (E := pE y ++ py_tk (py_tw 2 (pL y))) (p := pP y) (pa := pPa y) (de := pDe y - py_nt (py_tw 2 (pL y))) (fun x hx => by have := a2va x hx; omega) a2len a2El (Nat.zero_le _) hmd htx a2m
            refine wq (fun _ _ kk => rs_callV (as := [_]) (pc := 90) dX12_test_90 mk_X12_answers mlX12_354 in_X12_answers se_X12_answers rfl (md_lt hmd (by decide)) hmd.2.1 rfl rfl (Nat.le_of_ble_eq_true rfl) (hm_90) kk) ?_
            replace hmd := hmd_90
            replace htx := htx.of pf_90
            replace hpf := hpf.trans pf_90
            rw [f_70] at f_90
            obtain ⟨a1m, a1va, a1adj⟩ := ans_st (E := pE y) (de := pDe y) (k := 11) (lev := 1) (hi := 2) (by decide) a2va a2adj (by rw [if_neg (by decide)]; exact hx_90)
            have a1len := hlen 1
            have a1El := hEl 1 (by decide)
            have E_90 := (E_70).trans ee_90
            refine wq (fun _ _ kk => rs_aload_n (pc := 93) dX12_test_93 rfl kk) ?_
            refine wq (fun _ _ kk => rs_iload_n (pc := 94) dX12_test_94 rfl kk) ?_
            refine wq_br (fun _ _ kt kf => rs_if_eq (tgt := 103) (pc := 95) dX12_test_95 rfl kt kf) (fun c_95 => ?_) (fun c_95 => absurd c_95 (fun z => z (if_neg g3)))
            refine wq (fun _ _ kk => rs_bipush (v := 11) (pc := 103) dX12_test_103 rfl kk) ?_
            obtain ⟨rv_105, hc_105, ⟨rfl, ee_105, T_105, hmd_105, pf_105, o23, o26, o28, o31, o32, o29, o37, o24, o27⟩, hm_105⟩ := c_X12_opens11 (r := r) (O := py_dw 1 (pL y)) (de := pDe y - py_nt (py_tw 1 (pL y))) hmd a1m.2.2.2.1 (by omega) a1m.2.2.2.2.2.1 (by omega) a1m.2.2.2.2.2.2
            refine wq (fun _ _ kk => rs_callV (as := [_]) (pc := 105) dX12_test_105 mk_X12_opens mlX12_345 in_X12_opens se_X12_opens rfl (md_lt hmd (by decide)) hmd.2.1 rfl rfl (Nat.le_of_ble_eq_true rfl) (hm_105) kk) ?_
            replace hmd := hmd_105
            replace htx := htx.of pf_105
            replace hpf := hpf.trans pf_105
            have E_105 := (E_90).trans ee_105
            refine wq (fun _ _ kk => rs_aload_n (pc := 108) dX12_test_108 rfl kk) ?_
            refine wq (fun _ _ kk => rs_dup (pc := 109) dX12_test_109 rfl kk) ?_
            refine wq (fun _ _ kk => rs_getf (pc := 110) dX12_test_110 fX12_267 (md_lt hmd (by decide)) hmd.2.1 rfl kk) ?_
            rw [o23, f_90]
            refine wq (fun _ _ kk => rs_iload_n (pc := 113) dX12_test_113 rfl kk) ?_
            refine wq_br (fun _ _ kt kf => rs_if_eq (tgt := 121) (pc := 114) dX12_test_114 rfl kt kf) (fun c_114 => ?_) (fun c_114 => absurd c_114 (fun z => z (if_neg g3)))
            refine wq (fun _ _ kk => rs_iconst (v := 2) (pc := 121) dX12_test_121 rfl kk) ?_
            refine wq (fun _ _ kk => rs_iadd (pc := 122) dX12_test_122 kk) ?_
            rw [show nI (tx_fr t n (pP y)) + 2 = nI ((tx_fr t n (pP y)) + 2) from nI_add _ 2]
            refine wq (fun _ _ kk => rs_putf (pc := 123) dX12_test_123 fX12_267 (md_lt hmd (by decide)) hmd.2.1 rfl (Nat.le_of_ble_eq_true rfl) kk) ?_
            refine wq_gen (fun h_8 e_8 => ?_)
            obtain ⟨m_8, s_8, g_8, o_8⟩ := ai_e1 e_8
            replace hmd := md_at_si (k := 23) hmd m_8 g_8 o_8 rfl
            have E_8 := (E_105).trans (md_ext_of m_8 s_8 o_8 (by decide))
            obtain ⟨S_123, hmd, k_p, r_p, s_p⟩ := md_new hmd
            have hpf3 : pfm r T_105 S_123 := pfm.put (by decide) r_p s_p
            replace htx := htx.of hpf3
            replace hpf := hpf.trans hpf3
            obtain ⟨z, hz, z0, z1, z2, z3, z4, z5, z6, z7, z8⟩ := fct_join (t := t) (n := n) (k := 11) (y := y) (by decide) (a := (tx_fr t n (pP y))) (e := tx_e t n (tx_fr t n (pP y)))
            rw [← fct_step (t := t) (n := n) h78 kk (fun _ => by decide)] at hz
            have zr : py_rch t n y z := by rw [← hz]; exact py_rch.one h0 h9
            have hyz := pok_rch hn4 zr hy
            refine wq (fun _ _ kk => rs_iconst (v := 1) (pc := 126) dX12_test_126 rfl kk) ?_
            refine wq (fun _ _ kk => wk_istn1 (pc := 127) dX12_test_127 (by decide) rfl kk) ?_
            refine wq (fun _ _ kk => rs_goto (tgt := 199) (pc := 128) dX12_test_128 rfl kk) ?_
            refine wq (fun _ _ kk => rs_goto (tgt := 9) (pc := 199) dX12_test_199 rfl kk) ?_
            refine ih z _ _ true _ _ ⟨by omega, fun w => ?_⟩ hmd htx (hE.trans (E_8)) hpf (hre.trans zr) hyz (Or.inr ⟨z5.trans hD, z6.trans hA, Or.inl ⟨rfl, z0, z1, ?_⟩⟩)
            · rw [show pP z = tx_e t n (tx_fr t n (pP y)) from z2, ke]
              omega
            · rw [z8, z7, z4, z3, z2]
              exact op_mr a1m o26 o28 o31 o32 o29 o37 (o24.trans a1m.1) o27 r_p s_p (by rw [ke]; exact k_p) (by rw [ke]; omega) rfl
set_option maxRecDepth 100000 in
set_option maxHeartbeats 4000000 in
theorem c_test {t : Nat → Nat} {n r : Nat} {O : List Nat} {x : PS} {h : ai_H} {S : Md} (hmd : md_at h S) (htx : tx_m t n r S) (hx : pok n x) (h0 : pF x = 0) (h3 : pZ x = 3) (hnil : pL x = []) (hm : mr t n r (pE x) (pP x) (pPa x) (pDe x) O S) : ai_QM MX12_test [.ref 307] h (fun rv g' => rv = none ∧ md_ext h g' ∧ ∃ T y', md_at g' T ∧ pfm r S T ∧ py_rch t n x y' ∧ (ded y' T ∨ (pF y' = 0 ∧ (pZ y' = 7 ∨ pZ y' = 8) ∧ pD y' = pD x ∧ pA y' = pA x ∧ pBr y' = 0 ∧ (pZ y' = 7 → nar t n y') ∧ tx_k t n (tx_fr t n (pP y')) ≠ 10 ∧ tx_k t n (tx_fr t n (pP y')) ≠ 11 ∧ mr t n r (pE y' ++ py_tk (py_tw 1 (pL y'))) (pP y') (pPa y') (pDe y' - py_nt (py_tw 1 (pL y'))) [] T))) := by
  refine qm_of (ls := [.ref 307, .float 0, .float 0, .float 0, .float 0]) (by decide) (by simp [ai_en, Value.category]) (by rfl) ?_
  refine wq (fun _ _ kk => rs_aload_n (pc := 0) dX12_test_0 rfl kk) ?_
  refine wq (fun _ _ kk => rs_iconst (v := 0) (pc := 1) dX12_test_1 rfl kk) ?_
  refine wq (fun _ _ kk => rs_putf (pc := 2) dX12_test_2 fX12_334 (md_lt hmd (by decide)) hmd.2.1 rfl (Nat.le_of_ble_eq_true rfl) kk) ?_
  refine wq_gen (fun h_1 e_1 => ?_)
  obtain ⟨m_1, s_1, g_1, o_1⟩ := ai_e1 e_1
  replace hmd := md_at_si (k := 29) hmd m_1 g_1 o_1 rfl
  have E_1 := (md_ext.rf).trans (md_ext_of m_1 s_1 o_1 (by decide))
  obtain ⟨S_2, hmd, k_2, r_2, s_2⟩ := md_new hmd
  have pf2 : pfm r S S_2 := pfm.put (by decide) r_2 s_2
  refine wq (fun _ _ kk => rs_iconst (v := 1) (pc := 5) dX12_test_5 rfl kk) ?_
  refine wq (fun _ _ kk => wk_istn1 (pc := 6) dX12_test_6 (by decide) rfl kk) ?_
  refine wq (fun _ _ kk => rs_iconst (v := 1) (pc := 7) dX12_test_7 rfl kk) ?_
  refine wq (fun _ _ kk => wk_istn2 (pc := 8) dX12_test_8 (by decide) rfl kk) ?_
  refine l_X12_test htx.2.1 (n + 3) x _ _ true _ _ ⟨by omega, fun _ => by omega⟩ hmd (htx.of pf2) (E_1) pf2 py_rch.rf hx (Or.inr ⟨rfl, rfl, Or.inl ⟨rfl, h0, h3, ?_⟩⟩)
  rw [hnil]
  obtain ⟨m0, m1, ⟨m2, m2'⟩, m3, m4, m5, m6⟩ := hm
  exact ⟨(r_2 24 (by decide)).trans m0, by rw [r_2 23 (by decide)]; exact m1, ⟨(r_2 26 (by decide)).trans m2, MT_cong m2' (fun k _ => by rw [s_2]; exact ⟨rfl, rfl⟩)⟩, (r_2 27 (by decide)).trans m3, (r_2 28 (by decide)).trans m4, k_2, trivial⟩
