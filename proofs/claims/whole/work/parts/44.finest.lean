/-! 44: scatter, finest (walks laid by wip/whole/p44.py) -/
theorem dX12_scattered_0 : decode cX12_scattered 0 = .ok (.lconst 0, 1) := by decide +kernel
theorem dX12_scattered_1 : decode cX12_scattered 1 = .ok (.lstore_n 2, 1) := by decide +kernel
theorem dX12_scattered_2 : decode cX12_scattered 2 = .ok (.iconst 0, 1) := by decide +kernel
theorem dX12_scattered_3 : decode cX12_scattered 3 = .ok (.istore 4, 2) := by decide +kernel
theorem dX12_scattered_5 : decode cX12_scattered 5 = .ok (.iconst 0, 1) := by decide +kernel
theorem dX12_scattered_6 : decode cX12_scattered 6 = .ok (.istore 5, 2) := by decide +kernel
theorem dX12_scattered_8 : decode cX12_scattered 8 = .ok (.iload 5, 2) := by decide +kernel
theorem dX12_scattered_10 : decode cX12_scattered 10 = .ok (.aload_n 0, 1) := by decide +kernel
theorem dX12_scattered_11 : decode cX12_scattered 11 = .ok (.getfield 398, 3) := by decide +kernel
theorem dX12_scattered_14 : decode cX12_scattered 14 = .ok (.if_icmp .ge 100, 3) := by decide +kernel
theorem dX12_scattered_17 : decode cX12_scattered 17 = .ok (.aload_n 0, 1) := by decide +kernel
theorem dX12_scattered_18 : decode cX12_scattered 18 = .ok (.getfield 99, 3) := by decide +kernel
theorem dX12_scattered_21 : decode cX12_scattered 21 = .ok (.iload 5, 2) := by decide +kernel
theorem dX12_scattered_23 : decode cX12_scattered 23 = .ok (.iaload, 1) := by decide +kernel
theorem dX12_scattered_24 : decode cX12_scattered 24 = .ok (.iload_n 1, 1) := by decide +kernel
theorem dX12_scattered_25 : decode cX12_scattered 25 = .ok (.if_icmp .ne 83, 3) := by decide +kernel
theorem dX12_scattered_28 : decode cX12_scattered 28 = .ok (.aload_n 0, 1) := by decide +kernel
theorem dX12_scattered_29 : decode cX12_scattered 29 = .ok (.getfield 105, 3) := by decide +kernel
theorem dX12_scattered_32 : decode cX12_scattered 32 = .ok (.iload 5, 2) := by decide +kernel
theorem dX12_scattered_34 : decode cX12_scattered 34 = .ok (.iaload, 1) := by decide +kernel
theorem dX12_scattered_35 : decode cX12_scattered 35 = .ok (.aload_n 0, 1) := by decide +kernel
theorem dX12_scattered_36 : decode cX12_scattered 36 = .ok (.getfield 105, 3) := by decide +kernel
theorem dX12_scattered_39 : decode cX12_scattered 39 = .ok (.iload 5, 2) := by decide +kernel
theorem dX12_scattered_41 : decode cX12_scattered 41 = .ok (.iaload, 1) := by decide +kernel
theorem dX12_scattered_42 : decode cX12_scattered 42 = .ok (.iconst 1, 1) := by decide +kernel
theorem dX12_scattered_43 : decode cX12_scattered 43 = .ok (.isub, 1) := by decide +kernel
theorem dX12_scattered_44 : decode cX12_scattered 44 = .ok (.iand, 1) := by decide +kernel
theorem dX12_scattered_45 : decode cX12_scattered 45 = .ok (.ifCond .eq 63, 3) := by decide +kernel
theorem dX12_scattered_48 : decode cX12_scattered 48 = .ok (.aload_n 0, 1) := by decide +kernel
theorem dX12_scattered_49 : decode cX12_scattered 49 = .ok (.getfield 102, 3) := by decide +kernel
theorem dX12_scattered_52 : decode cX12_scattered 52 = .ok (.iload 5, 2) := by decide +kernel
theorem dX12_scattered_54 : decode cX12_scattered 54 = .ok (.iaload, 1) := by decide +kernel
theorem dX12_scattered_55 : decode cX12_scattered 55 = .ok (.i2l, 1) := by decide +kernel
theorem dX12_scattered_56 : decode cX12_scattered 56 = .ok (.lstore 6, 2) := by decide +kernel
theorem dX12_scattered_58 : decode cX12_scattered 58 = .ok (.lload_n 2, 1) := by decide +kernel
theorem dX12_scattered_59 : decode cX12_scattered 59 = .ok (.ldc2_w 401, 3) := by decide +kernel
theorem dX12_scattered_62 : decode cX12_scattered 62 = .ok (.lload 6, 2) := by decide +kernel
theorem dX12_scattered_64 : decode cX12_scattered 64 = .ok (.aload_n 0, 1) := by decide +kernel
theorem dX12_scattered_65 : decode cX12_scattered 65 = .ok (.getfield 114, 3) := by decide +kernel
theorem dX12_scattered_68 : decode cX12_scattered 68 = .ok (.iload 5, 2) := by decide +kernel
theorem dX12_scattered_70 : decode cX12_scattered 70 = .ok (.laload, 1) := by decide +kernel
theorem dX12_scattered_71 : decode cX12_scattered 71 = .ok (.lmul, 1) := by decide +kernel
theorem dX12_scattered_72 : decode cX12_scattered 72 = .ok (.aload_n 0, 1) := by decide +kernel
theorem dX12_scattered_73 : decode cX12_scattered 73 = .ok (.getfield 111, 3) := by decide +kernel
theorem dX12_scattered_76 : decode cX12_scattered 76 = .ok (.iload 5, 2) := by decide +kernel
theorem dX12_scattered_78 : decode cX12_scattered 78 = .ok (.laload, 1) := by decide +kernel
theorem dX12_scattered_79 : decode cX12_scattered 79 = .ok (.aload_n 0, 1) := by decide +kernel
theorem dX12_scattered_80 : decode cX12_scattered 80 = .ok (.getfield 111, 3) := by decide +kernel
theorem dX12_scattered_83 : decode cX12_scattered 83 = .ok (.iload 5, 2) := by decide +kernel
theorem dX12_scattered_85 : decode cX12_scattered 85 = .ok (.laload, 1) := by decide +kernel
theorem dX12_scattered_86 : decode cX12_scattered 86 = .ok (.lmul, 1) := by decide +kernel
theorem dX12_scattered_87 : decode cX12_scattered 87 = .ok (.lsub, 1) := by decide +kernel
theorem dX12_scattered_88 : decode cX12_scattered 88 = .ok (.lmul, 1) := by decide +kernel
theorem dX12_scattered_89 : decode cX12_scattered 89 = .ok (.lload 6, 2) := by decide +kernel
theorem dX12_scattered_91 : decode cX12_scattered 91 = .ok (.ldiv, 1) := by decide +kernel
theorem dX12_scattered_92 : decode cX12_scattered 92 = .ok (.ladd, 1) := by decide +kernel
theorem dX12_scattered_93 : decode cX12_scattered 93 = .ok (.lstore_n 2, 1) := by decide +kernel
theorem dX12_scattered_94 : decode cX12_scattered 94 = .ok (.iload 4, 2) := by decide +kernel
theorem dX12_scattered_96 : decode cX12_scattered 96 = .ok (.aload_n 0, 1) := by decide +kernel
theorem dX12_scattered_97 : decode cX12_scattered 97 = .ok (.getfield 102, 3) := by decide +kernel
theorem dX12_scattered_100 : decode cX12_scattered 100 = .ok (.iload 5, 2) := by decide +kernel
theorem dX12_scattered_102 : decode cX12_scattered 102 = .ok (.iaload, 1) := by decide +kernel
theorem dX12_scattered_103 : decode cX12_scattered 103 = .ok (.iconst 1, 1) := by decide +kernel
theorem dX12_scattered_104 : decode cX12_scattered 104 = .ok (.isub, 1) := by decide +kernel
theorem dX12_scattered_105 : decode cX12_scattered 105 = .ok (.iadd, 1) := by decide +kernel
theorem dX12_scattered_106 : decode cX12_scattered 106 = .ok (.istore 4, 2) := by decide +kernel
theorem dX12_scattered_108 : decode cX12_scattered 108 = .ok (.iinc 5 1, 3) := by decide +kernel
theorem dX12_scattered_111 : decode cX12_scattered 111 = .ok (.goto (-103), 3) := by decide +kernel
theorem dX12_scattered_114 : decode cX12_scattered 114 = .ok (.iload 4, 2) := by decide +kernel
theorem dX12_scattered_116 : decode cX12_scattered 116 = .ok (.ifCond .ne 9, 3) := by decide +kernel
theorem dX12_scattered_119 : decode cX12_scattered 119 = .ok (.ldc2_w 460, 3) := by decide +kernel
theorem dX12_scattered_122 : decode cX12_scattered 122 = .ok (.goto 8, 3) := by decide +kernel
theorem dX12_scattered_125 : decode cX12_scattered 125 = .ok (.lload_n 2, 1) := by decide +kernel
theorem dX12_scattered_126 : decode cX12_scattered 126 = .ok (.iload 4, 2) := by decide +kernel
theorem dX12_scattered_128 : decode cX12_scattered 128 = .ok (.i2l, 1) := by decide +kernel
theorem dX12_scattered_129 : decode cX12_scattered 129 = .ok (.ldiv, 1) := by decide +kernel
theorem dX12_scattered_130 : decode cX12_scattered 130 = .ok (.lreturn, 1) := by decide +kernel
set_option maxRecDepth 100000 in
set_option maxHeartbeats 4000000 in
theorem l_X12_scattered {h : ai_H} {B : Bk} {ln : Nat} {wk w : Int32} {V T : Md} {q : Nat} (hok : bk_ok B ln) (hmd : md_at h V) (ec : V.1 40 = nI q) (hq4 : q ≤ 400) (e44 : ∀ i, V.2.2.1 44 i = T.2.2.1 44 i) (hag : ∀ i, i < q → V.2.2.1 45 i = nI (zc B wk (kT T i).1 (kT T i).2) ∧ V.2.2.1 46 i = a_thr B wk (kT T i).1.1 (kT T i).1.2.1 (kT T i).1.2.2 (kT T i).2 (nR B) ∧ V.2.2.2 48 i = aL (zs B wk (kT T i).1 (kT T i).2) ∧ V.2.2.2 49 i = aL (zq B wk (kT T i).1 (kT T i).2)) : ∀ (m i : Nat) (u6 : Value), i ≤ q → q + 1 ≤ i + m → ai_R MX12_scattered 8 [.ref 307, .int w, .long (aL (zsum ((LTl B wk w T i).map (vS B wk)))), .float 0, .int (aI (zsum ((LTl B wk w T i).map (vF B wk)))), .int (nI i), u6, .float 0] [] h (some (.long (uu_scat B wk (LTl B wk w T q)))) h := by
  intro m
  induction m with
  | zero => intro i u6 h1 h2; exact absurd h2 (by omega)
  | succ m ih =>
    intro i u6 hi0 him
    refine rs_iload (pc := 8) dX12_scattered_8 rfl ?_
    refine rs_aload_n (pc := 10) dX12_scattered_10 rfl ?_
    refine rs_getf (pc := 11) dX12_scattered_11 fX12_398 (md_lt hmd (by decide)) hmd.2.1 rfl ?_
    refine rs_icmp_ge (tgt := 114) (pc := 14) dX12_scattered_14 rfl (fun c_14 => ?_) (fun c_14 => ?_)
    · have hie : i = q := lp_exit ec (by omega) hi0 c_14
      subst hie
      refine rs_iload (pc := 114) dX12_scattered_114 rfl ?_
      have hsb := scat_b (B := B) (wk := wk) (L := LTl B wk w T i) hok (fun k hk => by obtain ⟨c, c1, c2, c3⟩ := (mem_lst _).1 hk; rw [← c3]; exact scB_pos c2) (by unfold LTl; rw [lst_len]; exact Nat.le_trans (cN_le _ _) (by omega))
      refine rs_if_ne (tgt := 125) (pc := 116) dX12_scattered_116 rfl (fun c_116 => ?_) (fun c_116 => ?_)
      · rw [show (0 : Int32) = aI 0 from rfl, aI_eq (by omega) (by omega) (by omega) (by omega)] at c_116
        refine rs_lload_n (pc := 125) dX12_scattered_125 rfl ?_
        refine rs_iload (pc := 126) dX12_scattered_126 rfl ?_
        refine rs_i2l (pc := 128) dX12_scattered_128 ?_
        rw [aI_i2l (by omega) (by omega)]
        refine rs_ldiv (pc := 129) dX12_scattered_129 (by rw [show (0 : Int64) = aL 0 from rfl, aL_eq (by omega) (by omega) (by omega) (by omega)]; omega) ?_
        rw [aL_quo (by omega) (by omega) (by omega) (by omega)]
        exact wk_lret (pc := 130) dX12_scattered_130 rfl (by unfold uu_scat; first | rw [if_pos c_116] | rw [if_neg c_116]) (rfl)
      · rw [show (0 : Int32) = aI 0 from rfl, aI_eq (by omega) (by omega) (by omega) (by omega)] at c_116
        refine rs_ldc2 (pc := 119) dX12_scattered_119 cnX12_460 ?_
        refine rs_goto (tgt := 130) (pc := 122) dX12_scattered_122 rfl ?_
        exact wk_lret (pc := 130) dX12_scattered_130 rfl (by unfold uu_scat; first | rw [if_pos c_116] | rw [if_neg c_116]) (rfl)
    · have hi : i < q := lp_go ec (by omega) c_14
      obtain ⟨n7, n8, n9, n10⟩ := hag i hi
      refine rs_aload_n (pc := 17) dX12_scattered_17 rfl ?_
      refine rs_getf (pc := 18) dX12_scattered_18 fX12_99 (md_lt hmd (by decide)) hmd.2.1 rfl ?_
      refine rs_iload (pc := 21) dX12_scattered_21 rfl ?_
      refine rs_iald (pc := 23) dX12_scattered_23 (md_lt hmd (by decide)) (md_geti (d := 29) (k := 44) (kd := 0) (n := 400) rfl (by decide) hmd) (vp_in_nI (n := i) (N := 400) (by omega) (by decide)) ?_
      rw [nI_clamp (show i < 2 ^ 31 by omega), e44]
      refine rs_iload_n (pc := 24) dX12_scattered_24 rfl ?_
      refine rs_icmp_ne (tgt := 108) (pc := 25) dX12_scattered_25 rfl (fun c_25 => ?_) (fun c_25 => ?_)
      · have hsc : scB B wk w (kT T i) = false := by unfold scB; rw [show decide ((kT T i).1.2.2 = w) = false from decide_eq_false c_25, Bool.false_and]
        refine wk_iinc5 (v := nI (i + 1)) (pc := 108) dX12_scattered_108 (by decide) rfl (nI_1 i) ?_
        refine rs_goto (tgt := 8) (pc := 111) dX12_scattered_111 rfl ?_
        first
        | (have e1 : LTl B wk w T (i + 1) = LTl B wk w T i := by unfold LTl; rw [lst, if_neg (by rw [hsc]; decide)]
           rw [← e1]
           exact ih (i + 1) _ (by omega) (by omega))
        | (have e1 : LTl B wk w T (i + 1) = kT T i :: LTl B wk w T i := by unfold LTl; rw [lst, if_pos hsc]
           rw [show zsum ((LTl B wk w T i).map (vS B wk)) + 1000 * ((zc B wk (kT T i).1 (kT T i).2 : Int) * zq B wk (kT T i).1 (kT T i).2 - zs B wk (kT T i).1 (kT T i).2 * zs B wk (kT T i).1 (kT T i).2) / (zc B wk (kT T i).1 (kT T i).2 : Int) = zsum ((LTl B wk w T (i + 1)).map (vS B wk)) from by rw [e1, List.map_cons, zsum_cons, Int.add_comm]; rfl,
             show zsum ((LTl B wk w T i).map (vF B wk)) + ((zc B wk (kT T i).1 (kT T i).2 : Int) - 1) = zsum ((LTl B wk w T (i + 1)).map (vF B wk)) from by rw [e1, List.map_cons, zsum_cons, Int.add_comm]; rfl]
           exact ih (i + 1) _ (by omega) (by omega))
      · refine rs_aload_n (pc := 28) dX12_scattered_28 rfl ?_
        refine rs_getf (pc := 29) dX12_scattered_29 fX12_105 (md_lt hmd (by decide)) hmd.2.1 rfl ?_
        refine rs_iload (pc := 32) dX12_scattered_32 rfl ?_
        refine rs_iald (pc := 34) dX12_scattered_34 (md_lt hmd (by decide)) (md_geti (d := 31) (k := 46) (kd := 0) (n := 400) rfl (by decide) hmd) (vp_in_nI (n := i) (N := 400) (by omega) (by decide)) ?_
        rw [nI_clamp (show i < 2 ^ 31 by omega), n8]
        refine rs_aload_n (pc := 35) dX12_scattered_35 rfl ?_
        refine rs_getf (pc := 36) dX12_scattered_36 fX12_105 (md_lt hmd (by decide)) hmd.2.1 rfl ?_
        refine rs_iload (pc := 39) dX12_scattered_39 rfl ?_
        refine rs_iald (pc := 41) dX12_scattered_41 (md_lt hmd (by decide)) (md_geti (d := 31) (k := 46) (kd := 0) (n := 400) rfl (by decide) hmd) (vp_in_nI (n := i) (N := 400) (by omega) (by decide)) ?_
        rw [nI_clamp (show i < 2 ^ 31 by omega), n8]
        refine rs_iconst (v := 1) (pc := 42) dX12_scattered_42 rfl ?_
        refine rs_isub (pc := 43) dX12_scattered_43 ?_
        refine rs_iand (pc := 44) dX12_scattered_44 ?_
        refine rs_if_eq (tgt := 108) (pc := 45) dX12_scattered_45 rfl (fun c_45 => ?_) (fun c_45 => ?_)
        · have hsc : scB B wk w (kT T i) = false := by unfold scB; rw [show p2 _ = false from decide_eq_false (fun z => z c_45), Bool.and_false]
          refine wk_iinc5 (v := nI (i + 1)) (pc := 108) dX12_scattered_108 (by decide) rfl (nI_1 i) ?_
          refine rs_goto (tgt := 8) (pc := 111) dX12_scattered_111 rfl ?_
          first
          | (have e1 : LTl B wk w T (i + 1) = LTl B wk w T i := by unfold LTl; rw [lst, if_neg (by rw [hsc]; decide)]
             rw [← e1]
             exact ih (i + 1) _ (by omega) (by omega))
          | (have e1 : LTl B wk w T (i + 1) = kT T i :: LTl B wk w T i := by unfold LTl; rw [lst, if_pos hsc]
             rw [show zsum ((LTl B wk w T i).map (vS B wk)) + 1000 * ((zc B wk (kT T i).1 (kT T i).2 : Int) * zq B wk (kT T i).1 (kT T i).2 - zs B wk (kT T i).1 (kT T i).2 * zs B wk (kT T i).1 (kT T i).2) / (zc B wk (kT T i).1 (kT T i).2 : Int) = zsum ((LTl B wk w T (i + 1)).map (vS B wk)) from by rw [e1, List.map_cons, zsum_cons, Int.add_comm]; rfl,
               show zsum ((LTl B wk w T i).map (vF B wk)) + ((zc B wk (kT T i).1 (kT T i).2 : Int) - 1) = zsum ((LTl B wk w T (i + 1)).map (vF B wk)) from by rw [e1, List.map_cons, zsum_cons, Int.add_comm]; rfl]
             exact ih (i + 1) _ (by omega) (by omega))
        · have hsc : scB B wk w (kT T i) = true := by unfold scB; rw [show p2 _ = true from decide_eq_true c_45, show decide ((kT T i).1.2.2 = w) = true from decide_eq_true c_25]; rfl
          have hzp := scB_pos hsc
          have hzl := zc_le B hok wk (kT T i).1 (kT T i).2
          have hvb := vS_b hok hzp
          have hzb := zs_b hok wk (kT T i).1 (kT T i).2
          have hqb := zqq_b hok wk (kT T i).1 (kT T i).2
          refine rs_aload_n (pc := 48) dX12_scattered_48 rfl ?_
          refine rs_getf (pc := 49) dX12_scattered_49 fX12_102 (md_lt hmd (by decide)) hmd.2.1 rfl ?_
          refine rs_iload (pc := 52) dX12_scattered_52 rfl ?_
          refine rs_iald (pc := 54) dX12_scattered_54 (md_lt hmd (by decide)) (md_geti (d := 30) (k := 45) (kd := 0) (n := 400) rfl (by decide) hmd) (vp_in_nI (n := i) (N := 400) (by omega) (by decide)) ?_
          rw [nI_clamp (show i < 2 ^ 31 by omega), n7]
          refine rs_i2l (pc := 55) dX12_scattered_55 ?_
          rw [nI_i2l (by omega)]
          refine wk_lst6 (pc := 56) dX12_scattered_56 (by decide) rfl ?_
          refine rs_lload_n (pc := 58) dX12_scattered_58 rfl ?_
          refine rs_ldc2 (pc := 59) dX12_scattered_59 cnX12_401 ?_
          refine rs_lload (pc := 62) dX12_scattered_62 rfl ?_
          refine rs_aload_n (pc := 64) dX12_scattered_64 rfl ?_
          refine rs_getf (pc := 65) dX12_scattered_65 fX12_114 (md_lt hmd (by decide)) hmd.2.1 rfl ?_
          refine rs_iload (pc := 68) dX12_scattered_68 rfl ?_
          refine rs_lald (pc := 70) dX12_scattered_70 (md_lt hmd (by decide)) (md_getl (d := 34) (k := 49) (kd := 1) (n := 400) rfl (by decide) hmd) (vp_in_nI (n := i) (N := 400) (by omega) (by decide)) ?_
          rw [nI_clamp (show i < 2 ^ 31 by omega), n10]
          refine rs_lmul (pc := 71) dX12_scattered_71 ?_
          rw [aL_mul]
          refine rs_aload_n (pc := 72) dX12_scattered_72 rfl ?_
          refine rs_getf (pc := 73) dX12_scattered_73 fX12_111 (md_lt hmd (by decide)) hmd.2.1 rfl ?_
          refine rs_iload (pc := 76) dX12_scattered_76 rfl ?_
          refine rs_lald (pc := 78) dX12_scattered_78 (md_lt hmd (by decide)) (md_getl (d := 33) (k := 48) (kd := 1) (n := 400) rfl (by decide) hmd) (vp_in_nI (n := i) (N := 400) (by omega) (by decide)) ?_
          rw [nI_clamp (show i < 2 ^ 31 by omega), n9]
          refine rs_aload_n (pc := 79) dX12_scattered_79 rfl ?_
          refine rs_getf (pc := 80) dX12_scattered_80 fX12_111 (md_lt hmd (by decide)) hmd.2.1 rfl ?_
          refine rs_iload (pc := 83) dX12_scattered_83 rfl ?_
          refine rs_lald (pc := 85) dX12_scattered_85 (md_lt hmd (by decide)) (md_getl (d := 33) (k := 48) (kd := 1) (n := 400) rfl (by decide) hmd) (vp_in_nI (n := i) (N := 400) (by omega) (by decide)) ?_
          rw [nI_clamp (show i < 2 ^ 31 by omega), n9]
          refine rs_lmul (pc := 86) dX12_scattered_86 ?_
          rw [aL_mul]
          refine rs_lsub (pc := 87) dX12_scattered_87 ?_
          rw [aL_sub]
          refine rs_lmul (pc := 88) dX12_scattered_88 ?_
          rw [show (1000 : Int64) = aL 1000 from rfl, aL_mul]
          refine rs_lload (pc := 89) dX12_scattered_89 rfl ?_
          refine rs_ldiv (pc := 91) dX12_scattered_91 (by rw [show (0 : Int64) = aL 0 from rfl, aL_eq (by omega) (by omega) (by omega) (by omega)]; omega) ?_
          rw [aL_quo (by omega) (by omega) (by omega) (by omega)]
          refine rs_ladd (pc := 92) dX12_scattered_92 ?_
          rw [aL_add]
          refine wk_lstn2 (pc := 93) dX12_scattered_93 (by decide) rfl ?_
          refine rs_iload (pc := 94) dX12_scattered_94 rfl ?_
          refine rs_aload_n (pc := 96) dX12_scattered_96 rfl ?_
          refine rs_getf (pc := 97) dX12_scattered_97 fX12_102 (md_lt hmd (by decide)) hmd.2.1 rfl ?_
          refine rs_iload (pc := 100) dX12_scattered_100 rfl ?_
          refine rs_iald (pc := 102) dX12_scattered_102 (md_lt hmd (by decide)) (md_geti (d := 30) (k := 45) (kd := 0) (n := 400) rfl (by decide) hmd) (vp_in_nI (n := i) (N := 400) (by omega) (by decide)) ?_
          rw [nI_clamp (show i < 2 ^ 31 by omega), n7]
          refine rs_iconst (v := 1) (pc := 103) dX12_scattered_103 rfl ?_
          refine rs_isub (pc := 104) dX12_scattered_104 ?_
          rw [nI_s1]
          refine rs_iadd (pc := 105) dX12_scattered_105 ?_
          rw [aI_add]
          refine wk_ist4 (pc := 106) dX12_scattered_106 (by decide) rfl ?_
          refine wk_iinc5 (v := nI (i + 1)) (pc := 108) dX12_scattered_108 (by decide) rfl (nI_1 i) ?_
          refine rs_goto (tgt := 8) (pc := 111) dX12_scattered_111 rfl ?_
          first
          | (have e1 : LTl B wk w T (i + 1) = LTl B wk w T i := by unfold LTl; rw [lst, if_neg (by rw [hsc]; decide)]
             rw [← e1]
             exact ih (i + 1) _ (by omega) (by omega))
          | (have e1 : LTl B wk w T (i + 1) = kT T i :: LTl B wk w T i := by unfold LTl; rw [lst, if_pos hsc]
             rw [show zsum ((LTl B wk w T i).map (vS B wk)) + 1000 * ((zc B wk (kT T i).1 (kT T i).2 : Int) * zq B wk (kT T i).1 (kT T i).2 - zs B wk (kT T i).1 (kT T i).2 * zs B wk (kT T i).1 (kT T i).2) / (zc B wk (kT T i).1 (kT T i).2 : Int) = zsum ((LTl B wk w T (i + 1)).map (vS B wk)) from by rw [e1, List.map_cons, zsum_cons, Int.add_comm]; rfl,
               show zsum ((LTl B wk w T i).map (vF B wk)) + ((zc B wk (kT T i).1 (kT T i).2 : Int) - 1) = zsum ((LTl B wk w T (i + 1)).map (vF B wk)) from by rw [e1, List.map_cons, zsum_cons, Int.add_comm]; rfl]
             exact ih (i + 1) _ (by omega) (by omega))
set_option maxRecDepth 100000 in
set_option maxHeartbeats 4000000 in
theorem c_X12_scattered {h : ai_H} {B : Bk} {ln : Nat} {wk : Int32} {T : Md} {q : Nat} (hok : bk_ok B ln) (hmd : md_at h T) (ec : T.1 40 = nI q) (hq4 : q ≤ 400) (hS : SI B wk T (nR B) (nR B) q) (w : Int32) : ai_Met MX12_scattered [.ref 307, .int w] h (some (.long (uu_scat B wk (LTl B wk w T q)))) h := by
  refine ai_met (ls := [.ref 307, .int w, .float 0, .float 0, .float 0, .float 0, .float 0, .float 0]) (by decide) (by simp [ai_en, Value.category]) (by rfl) ?_
  refine rs_lconst (v := 0) (pc := 0) dX12_scattered_0 rfl ?_
  refine wk_lstn2 (pc := 1) dX12_scattered_1 (by decide) rfl ?_
  refine rs_iconst (v := 0) (pc := 2) dX12_scattered_2 rfl ?_
  refine wk_ist4 (pc := 3) dX12_scattered_3 (by decide) rfl ?_
  refine rs_iconst (v := 0) (pc := 5) dX12_scattered_5 rfl ?_
  refine wk_ist5 (pc := 6) dX12_scattered_6 (by decide) rfl ?_
  exact l_X12_scattered hok hmd ec hq4 (fun _ => rfl) (fun i hi => by
    obtain ⟨b1, b2, b3, b4⟩ := hS.2.2.2 i hi
    exact ⟨b1.trans (a_cnt_zc B wk (kT T i).1 (kT T i).2), b2, b3.trans (b_sum_zs B wk (kT T i).1 (kT T i).2), b4.trans (a_sq_zq hok wk (kT T i).1 (kT T i).2)⟩) (q + 1) 0 _ (by omega) (by omega)
theorem dX11_scatter_0 : decode cX11_scatter 0 = .ok (.iload_n 1, 1) := by decide +kernel
theorem dX11_scatter_1 : decode cX11_scatter 1 = .ok (.iconst 0, 1) := by decide +kernel
theorem dX11_scatter_2 : decode cX11_scatter 2 = .ok (.iconst 4, 1) := by decide +kernel
theorem dX11_scatter_3 : decode cX11_scatter 3 = .ok (.invokestatic 104, 3) := by decide +kernel
theorem dX11_scatter_6 : decode cX11_scatter 6 = .ok (.ifCond .eq 10, 3) := by decide +kernel
theorem dX11_scatter_9 : decode cX11_scatter 9 = .ok (.iload_n 2, 1) := by decide +kernel
theorem dX11_scatter_10 : decode cX11_scatter 10 = .ok (.invokestatic 97, 3) := by decide +kernel
theorem dX11_scatter_13 : decode cX11_scatter 13 = .ok (.ifCond .ne 7, 3) := by decide +kernel
theorem dX11_scatter_16 : decode cX11_scatter 16 = .ok (.ldc2_w 233, 3) := by decide +kernel
theorem dX11_scatter_19 : decode cX11_scatter 19 = .ok (.lreturn, 1) := by decide +kernel
theorem dX11_scatter_20 : decode cX11_scatter 20 = .ok (.aload_n 0, 1) := by decide +kernel
theorem dX11_scatter_21 : decode cX11_scatter 21 = .ok (.getfield 58, 3) := by decide +kernel
theorem dX11_scatter_24 : decode cX11_scatter 24 = .ok (.aload_n 0, 1) := by decide +kernel
theorem dX11_scatter_25 : decode cX11_scatter 25 = .ok (.getfield 10, 3) := by decide +kernel
theorem dX11_scatter_28 : decode cX11_scatter 28 = .ok (.iload_n 2, 1) := by decide +kernel
theorem dX11_scatter_29 : decode cX11_scatter 29 = .ok (.invokevirtual 248, 3) := by decide +kernel
theorem dX11_scatter_32 : decode cX11_scatter 32 = .ok (.aload_n 0, 1) := by decide +kernel
theorem dX11_scatter_33 : decode cX11_scatter 33 = .ok (.getfield 58, 3) := by decide +kernel
theorem dX11_scatter_36 : decode cX11_scatter 36 = .ok (.iload_n 1, 1) := by decide +kernel
theorem dX11_scatter_37 : decode cX11_scatter 37 = .ok (.invokevirtual 252, 3) := by decide +kernel
theorem dX11_scatter_40 : decode cX11_scatter 40 = .ok (.lreturn, 1) := by decide +kernel
set_option maxRecDepth 100000 in
set_option maxHeartbeats 4000000 in
theorem c_X11_scatter {h : ai_H} {tb lm : Int32} {B : Bk} {ln : Nat} (hx : x_at h tb lm) (hB : bk_at h 1 B) (hok : bk_ok B ln) (hs : scr h) (w k : Int32) : ai_QM MX11_scatter [.ref 0, .int w, .int k] h (fun r g => fr 22 34 h g ∧ scr g ∧ (((bi_in w 0 4 = 0 ∨ bi_in k 0 9999 = 0) ∧ r = some (.long (-1))) ∨ (¬ (bi_in w 0 4 = 0 ∨ bi_in k 0 9999 = 0) ∧ ∃ S z, GI B k S (nR B) z ∧ r = some (.long (uu_scat B k (LPl B k w S z)))))) := by
  obtain ⟨-, -, -, ⟨S0, hcl⟩, -⟩ := id hs
  refine qm_of (ls := [.ref 0, .int w, .int k]) (by decide) (by simp [ai_en, Value.category]) (by rfl) ?_
  refine wq (fun _ _ kk => rs_iload_n (pc := 0) dX11_scatter_0 rfl kk) ?_
  refine wq (fun _ _ kk => rs_iconst (v := 0) (pc := 1) dX11_scatter_1 rfl kk) ?_
  refine wq (fun _ _ kk => rs_iconst (v := 4) (pc := 2) dX11_scatter_2 rfl kk) ?_
  refine wq (fun _ _ kk => rs_callS (as := [_, _, _]) (pc := 3) dX11_scatter_3 mk_X11_isWithin mlX11_104 st_X11_isWithin rfl rfl (Nat.le_of_ble_eq_true rfl) (c_X11_isWithin) kk) ?_
  refine wq_br (fun _ _ kt kf => rs_if_eq (tgt := 16) (pc := 6) dX11_scatter_6 rfl kt kf) (fun c_6 => ?_) (fun c_6 => ?_)
  · refine wq (fun _ _ kk => rs_ldc2 (pc := 16) dX11_scatter_16 cnX11_233 kk) ?_
    refine wq_ret ?_ (rs_lret (pc := 19) dX11_scatter_19 rfl)
    exact ⟨fr.rf, hs, Or.inl ⟨by simp [c_6], rfl⟩⟩
  · refine wq (fun _ _ kk => rs_iload_n (pc := 9) dX11_scatter_9 rfl kk) ?_
    refine wq (fun _ _ kk => rs_callS (as := [_]) (pc := 10) dX11_scatter_10 mk_X11_isWeek mlX11_97 st_X11_isWeek rfl rfl (Nat.le_of_ble_eq_true rfl) (c_X11_isWeek _) kk) ?_
    refine wq_bn (fun _ _ kt kf => rs_if_ne (tgt := 20) (pc := 13) dX11_scatter_13 rfl kt kf) (fun c_13 => ?_) (fun c_13 => ?_)
    · refine wq (fun _ _ kk => rs_aload_n (pc := 20) dX11_scatter_20 rfl kk) ?_
      refine wq (fun _ _ kk => rs_getf (pc := 21) dX11_scatter_21 fX11_58 (x_lt hx (by decide)) hx.2 rfl kk) ?_
      refine wq (fun _ _ kk => rs_aload_n (pc := 24) dX11_scatter_24 rfl kk) ?_
      refine wq (fun _ _ kk => rs_getf (pc := 25) dX11_scatter_25 fX11_10 (x_lt hx (by decide)) hx.2 rfl kk) ?_
      refine wq (fun _ _ kk => rs_iload_n (pc := 28) dX11_scatter_28 rfl kk) ?_
      obtain ⟨rv_29, hc_29, ⟨rfl, ee_29, S, z, hzR, hG, hcl_29⟩, hm_29⟩ := c_X2_gather hcl hB (bk_ok_rows hok) (sz := nR B) hok.2.2.2.2.1.2.1 hok.2.2.2.2.1.1 k
      refine wq (fun _ _ kk => rs_callV (as := [_, _]) (pc := 29) dX11_scatter_29 mk_X2_gather mlX11_248 in_X2_gather se_X2_gather rfl (mo_lt hcl (by decide)) hcl.2.1 rfl rfl (Nat.le_of_ble_eq_true rfl) (hm_29) kk) ?_
      replace hcl := hcl_29
      replace hx := x_at.keep hx ee_29.1 (ee_29.2.2 0 (by decide))
      replace hB := hB.keep ee_29.1 (fun j _ _ => ee_29.2.2 j (by omega))
      refine wq (fun _ _ kk => rs_aload_n (pc := 32) dX11_scatter_32 rfl kk) ?_
      refine wq (fun _ _ kk => rs_getf (pc := 33) dX11_scatter_33 fX11_58 (x_lt hx (by decide)) hx.2 rfl kk) ?_
      refine wq (fun _ _ kk => rs_iload_n (pc := 36) dX11_scatter_36 rfl kk) ?_
      refine wq (fun _ _ kk => rs_callV (as := [_]) (pc := 37) dX11_scatter_37 mk_X2_scatterOf mlX11_252 in_X2_scatterOf se_X2_scatterOf rfl (mo_lt hcl (by decide)) hcl.2.1 rfl rfl (Nat.le_of_ble_eq_true rfl) (c_X2_scatterOf hok hcl hG w) kk) ?_
      refine wq_ret ?_ (rs_lret (pc := 40) dX11_scatter_40 rfl)
      exact ⟨ee_29, hs.gath ee_29 ⟨_, hcl⟩, Or.inr ⟨by simp [c_6, c_13], S, z, hG, rfl⟩⟩
    · refine wq (fun _ _ kk => rs_ldc2 (pc := 16) dX11_scatter_16 cnX11_233 kk) ?_
      refine wq_ret ?_ (rs_lret (pc := 19) dX11_scatter_19 rfl)
      exact ⟨fr.rf, hs, Or.inl ⟨by simp [c_6, c_13], rfl⟩⟩
theorem dX12_scatter_0 : decode cX12_scatter 0 = .ok (.iload_n 1, 1) := by decide +kernel
theorem dX12_scatter_1 : decode cX12_scatter 1 = .ok (.invokestatic 220, 3) := by decide +kernel
theorem dX12_scatter_4 : decode cX12_scatter 4 = .ok (.ifCond .eq 10, 3) := by decide +kernel
theorem dX12_scatter_7 : decode cX12_scatter 7 = .ok (.iload_n 2, 1) := by decide +kernel
theorem dX12_scatter_8 : decode cX12_scatter 8 = .ok (.invokestatic 230, 3) := by decide +kernel
theorem dX12_scatter_11 : decode cX12_scatter 11 = .ok (.ifCond .ne 7, 3) := by decide +kernel
theorem dX12_scatter_14 : decode cX12_scatter 14 = .ok (.ldc2_w 446, 3) := by decide +kernel
theorem dX12_scatter_17 : decode cX12_scatter 17 = .ok (.lreturn, 1) := by decide +kernel
theorem dX12_scatter_18 : decode cX12_scatter 18 = .ok (.aload_n 0, 1) := by decide +kernel
theorem dX12_scatter_19 : decode cX12_scatter 19 = .ok (.iload_n 2, 1) := by decide +kernel
theorem dX12_scatter_20 : decode cX12_scatter 20 = .ok (.invokevirtual 407, 3) := by decide +kernel
theorem dX12_scatter_23 : decode cX12_scatter 23 = .ok (.aload_n 0, 1) := by decide +kernel
theorem dX12_scatter_24 : decode cX12_scatter 24 = .ok (.iload_n 1, 1) := by decide +kernel
theorem dX12_scatter_25 : decode cX12_scatter 25 = .ok (.invokevirtual 462, 3) := by decide +kernel
theorem dX12_scatter_28 : decode cX12_scatter 28 = .ok (.lreturn, 1) := by decide +kernel
set_option maxRecDepth 100000 in
set_option maxHeartbeats 4000000 in
theorem c_X12_scatter {h : ai_H} {S : Md} {B : Bk} {ln : Nat} {k : Int32} (hok : bk_ok B ln) (hRB : RB B S) (hmd : md_at h S) (w : Int32) : ai_QM MX12_scatter [.ref 307, .int w, .int k] h (fun r g => md_ext h g ∧ (∃ V, md_at g V ∧ mq S V) ∧ (((bi_in w 0 4 = 0 ∨ bi_in k 0 9999 = 0) ∧ r = some (.long (-1))) ∨ (¬ (bi_in w 0 4 = 0 ∨ bi_in k 0 9999 = 0) ∧ ∃ T q, SI B k T (nR B) (nR B) q ∧ r = some (.long (uu_scat B k (LTl B k w T q)))))) := by
  refine qm_of (ls := [.ref 307, .int w, .int k]) (by decide) (by simp [ai_en, Value.category]) (by rfl) ?_
  refine wq (fun _ _ kk => rs_iload_n (pc := 0) dX12_scatter_0 rfl kk) ?_
  refine wq (fun _ _ kk => rs_callS (as := [_]) (pc := 1) dX12_scatter_1 mk_X12_isWay mlX12_220 st_X12_isWay rfl rfl (Nat.le_of_ble_eq_true rfl) (c_X12_isWay _) kk) ?_
  refine wq_br (fun _ _ kt kf => rs_if_eq (tgt := 14) (pc := 4) dX12_scatter_4 rfl kt kf) (fun c_4 => ?_) (fun c_4 => ?_)
  · refine wq (fun _ _ kk => rs_ldc2 (pc := 14) dX12_scatter_14 cnX12_446 kk) ?_
    refine wq_ret ?_ (rs_lret (pc := 17) dX12_scatter_17 rfl)
    exact ⟨md_ext.rf, ⟨S, hmd, mq.rf⟩, Or.inl ⟨by simp [c_4], rfl⟩⟩
  · refine wq (fun _ _ kk => rs_iload_n (pc := 7) dX12_scatter_7 rfl kk) ?_
    refine wq (fun _ _ kk => rs_callS (as := [_]) (pc := 8) dX12_scatter_8 mk_X12_isWeek mlX12_230 st_X12_isWeek rfl rfl (Nat.le_of_ble_eq_true rfl) (c_X12_isWeek _) kk) ?_
    refine wq_bn (fun _ _ kt kf => rs_if_ne (tgt := 18) (pc := 11) dX12_scatter_11 rfl kt kf) (fun c_11 => ?_) (fun c_11 => ?_)
    · refine wq (fun _ _ kk => rs_aload_n (pc := 18) dX12_scatter_18 rfl kk) ?_
      refine wq (fun _ _ kk => rs_iload_n (pc := 19) dX12_scatter_19 rfl kk) ?_
      obtain ⟨rv_20, hc_20, ⟨rfl, ee_20, T, q, hqR, hmd_20, ec, hsg, hSI⟩, hm_20⟩ := c_X12_gathers hok hRB (bi_in_9 c_11).2 hmd
      refine wq (fun _ _ kk => rs_callV (as := [_]) (pc := 20) dX12_scatter_20 mk_X12_gathers mlX12_407 in_X12_gathers se_X12_gathers rfl (md_lt hmd (by decide)) hmd.2.1 rfl rfl (Nat.le_of_ble_eq_true rfl) (hm_20) kk) ?_
      replace hmd := hmd_20
      have E_20 := (md_ext.rf).trans ee_20
      refine wq (fun _ _ kk => rs_aload_n (pc := 23) dX12_scatter_23 rfl kk) ?_
      refine wq (fun _ _ kk => rs_iload_n (pc := 24) dX12_scatter_24 rfl kk) ?_
      refine wq (fun _ _ kk => rs_callV (as := [_]) (pc := 25) dX12_scatter_25 mk_X12_scattered mlX12_462 in_X12_scattered se_X12_scattered rfl (md_lt hmd (by decide)) hmd.2.1 rfl rfl (Nat.le_of_ble_eq_true rfl) (c_X12_scattered hok hmd ec (Nat.le_trans hqR hok.2.2.2.2.1.2.1) hSI w) kk) ?_
      refine wq_ret ?_ (rs_lret (pc := 28) dX12_scatter_28 rfl)
      exact ⟨md_ext.rf.trans ee_20, ⟨T, hmd, hsg.mq⟩, Or.inr ⟨by simp [c_4, c_11], T, q, hSI, rfl⟩⟩
    · refine wq (fun _ _ kk => rs_ldc2 (pc := 14) dX12_scatter_14 cnX12_446 kk) ?_
      refine wq_ret ?_ (rs_lret (pc := 17) dX12_scatter_17 rfl)
      exact ⟨md_ext.rf, ⟨S, hmd, mq.rf⟩, Or.inl ⟨by simp [c_4, c_11], rfl⟩⟩
def fnst (r : Nat → Int64) : Nat → Int32 × Int64
  | 0 => (-2, 0)
  | n + 1 => if r n = -2 then fnst r n else if (fnst r n).1 = -2 ∨ ¬ (fnst r n).2 ≤ r n then (nI n, r n) else fnst r n
theorem fnst_cong {r r' : Nat → Int64} : ∀ n, (∀ i, i < n → r i = r' i) → fnst r n = fnst r' n := by
  intro n
  induction n with
  | zero => intro _; rfl
  | succ n ih =>
    intro h
    rw [fnst, fnst, ih (fun i hi => h i (by omega)), h n (by omega)]
theorem fin_exit {v : Nat} (h0 : v ≤ 5) (c : (4 : Int32) < nI v) : v = 5 := by
  rw [show (4 : Int32) = aI 4 from rfl, ← aI_nat, aI_lt (by omega) (by omega) (by omega) (by omega)] at c
  omega
theorem fin_go {v : Nat} (h0 : v ≤ 5) (c : ¬ (4 : Int32) < nI v) : v < 5 := by
  rw [show (4 : Int32) = aI 4 from rfl, ← aI_nat, aI_lt (by omega) (by omega) (by omega) (by omega)] at c
  omega
theorem dX11_finest_0 : decode cX11_finest 0 = .ok (.iload_n 1, 1) := by decide +kernel
theorem dX11_finest_1 : decode cX11_finest 1 = .ok (.invokestatic 97, 3) := by decide +kernel
theorem dX11_finest_4 : decode cX11_finest 4 = .ok (.ifCond .ne 5, 3) := by decide +kernel
theorem dX11_finest_7 : decode cX11_finest 7 = .ok (.iconst (-1), 1) := by decide +kernel
theorem dX11_finest_8 : decode cX11_finest 8 = .ok (.ireturn, 1) := by decide +kernel
theorem dX11_finest_9 : decode cX11_finest 9 = .ok (.aload_n 0, 1) := by decide +kernel
theorem dX11_finest_10 : decode cX11_finest 10 = .ok (.getfield 58, 3) := by decide +kernel
theorem dX11_finest_13 : decode cX11_finest 13 = .ok (.aload_n 0, 1) := by decide +kernel
theorem dX11_finest_14 : decode cX11_finest 14 = .ok (.getfield 10, 3) := by decide +kernel
theorem dX11_finest_17 : decode cX11_finest 17 = .ok (.iload_n 1, 1) := by decide +kernel
theorem dX11_finest_18 : decode cX11_finest 18 = .ok (.invokevirtual 248, 3) := by decide +kernel
theorem dX11_finest_21 : decode cX11_finest 21 = .ok (.bipush (-2), 2) := by decide +kernel
theorem dX11_finest_23 : decode cX11_finest 23 = .ok (.istore_n 2, 1) := by decide +kernel
theorem dX11_finest_24 : decode cX11_finest 24 = .ok (.lconst 0, 1) := by decide +kernel
theorem dX11_finest_25 : decode cX11_finest 25 = .ok (.lstore_n 3, 1) := by decide +kernel
theorem dX11_finest_26 : decode cX11_finest 26 = .ok (.iconst 0, 1) := by decide +kernel
theorem dX11_finest_27 : decode cX11_finest 27 = .ok (.istore 5, 2) := by decide +kernel
theorem dX11_finest_29 : decode cX11_finest 29 = .ok (.iload 5, 2) := by decide +kernel
theorem dX11_finest_31 : decode cX11_finest 31 = .ok (.iconst 4, 1) := by decide +kernel
theorem dX11_finest_32 : decode cX11_finest 32 = .ok (.if_icmp .gt 48, 3) := by decide +kernel
theorem dX11_finest_35 : decode cX11_finest 35 = .ok (.aload_n 0, 1) := by decide +kernel
theorem dX11_finest_36 : decode cX11_finest 36 = .ok (.getfield 58, 3) := by decide +kernel
theorem dX11_finest_39 : decode cX11_finest 39 = .ok (.iload 5, 2) := by decide +kernel
theorem dX11_finest_41 : decode cX11_finest 41 = .ok (.invokevirtual 252, 3) := by decide +kernel
theorem dX11_finest_44 : decode cX11_finest 44 = .ok (.lstore 6, 2) := by decide +kernel
theorem dX11_finest_46 : decode cX11_finest 46 = .ok (.lload 6, 2) := by decide +kernel
theorem dX11_finest_48 : decode cX11_finest 48 = .ok (.ldc2_w 255, 3) := by decide +kernel
theorem dX11_finest_51 : decode cX11_finest 51 = .ok (.lcmp, 1) := by decide +kernel
theorem dX11_finest_52 : decode cX11_finest 52 = .ok (.ifCond .eq 22, 3) := by decide +kernel
theorem dX11_finest_55 : decode cX11_finest 55 = .ok (.iload_n 2, 1) := by decide +kernel
theorem dX11_finest_56 : decode cX11_finest 56 = .ok (.bipush (-2), 2) := by decide +kernel
theorem dX11_finest_58 : decode cX11_finest 58 = .ok (.if_icmp .eq 10, 3) := by decide +kernel
theorem dX11_finest_61 : decode cX11_finest 61 = .ok (.lload 6, 2) := by decide +kernel
theorem dX11_finest_63 : decode cX11_finest 63 = .ok (.lload_n 3, 1) := by decide +kernel
theorem dX11_finest_64 : decode cX11_finest 64 = .ok (.lcmp, 1) := by decide +kernel
theorem dX11_finest_65 : decode cX11_finest 65 = .ok (.ifCond .ge 9, 3) := by decide +kernel
theorem dX11_finest_68 : decode cX11_finest 68 = .ok (.iload 5, 2) := by decide +kernel
theorem dX11_finest_70 : decode cX11_finest 70 = .ok (.istore_n 2, 1) := by decide +kernel
theorem dX11_finest_71 : decode cX11_finest 71 = .ok (.lload 6, 2) := by decide +kernel
theorem dX11_finest_73 : decode cX11_finest 73 = .ok (.lstore_n 3, 1) := by decide +kernel
theorem dX11_finest_74 : decode cX11_finest 74 = .ok (.iinc 5 1, 3) := by decide +kernel
theorem dX11_finest_77 : decode cX11_finest 77 = .ok (.goto (-48), 3) := by decide +kernel
theorem dX11_finest_80 : decode cX11_finest 80 = .ok (.iload_n 2, 1) := by decide +kernel
theorem dX11_finest_81 : decode cX11_finest 81 = .ok (.ireturn, 1) := by decide +kernel
set_option maxRecDepth 100000 in
set_option maxHeartbeats 4000000 in
theorem l_X11_finest {h : ai_H} {tb lm : Int32} {B : Bk} {ln : Nat} {k : Int32} {S : Md} {z : Nat} (hok : bk_ok B ln) (hx : x_at h tb lm) (hcl : cl_at h S) (hG : GI B k S (nR B) z) : ∀ (m v : Nat) (u6 : Value), v ≤ 5 → 6 ≤ v + m → ai_R MX11_finest 29 [.ref 0, .int k, .int (fnst (fun v => uu_scat B k (LPl B k (nI v) S z)) v).1, .long (fnst (fun v => uu_scat B k (LPl B k (nI v) S z)) v).2, .float 0, .int (nI v), u6, .float 0] [] h (some (.int (fnst (fun v => uu_scat B k (LPl B k (nI v) S z)) 5).1)) h := by
  intro m
  induction m with
  | zero => intro v u6 h1 h2; exact absurd h2 (by omega)
  | succ m ih =>
    intro v u6 hv0 him
    refine rs_iload (pc := 29) dX11_finest_29 rfl ?_
    refine rs_iconst (v := 4) (pc := 31) dX11_finest_31 rfl ?_
    refine rs_icmp_gt (tgt := 80) (pc := 32) dX11_finest_32 rfl (fun c_32 => ?_) (fun c_32 => ?_)
    · have hve : v = 5 := fin_exit hv0 c_32
      subst hve
      refine rs_iload_n (pc := 80) dX11_finest_80 rfl ?_
      exact wk_iret (pc := 81) dX11_finest_81 rfl (rfl) (rfl)
    · have hv : v < 5 := fin_go hv0 c_32
      refine rs_aload_n (pc := 35) dX11_finest_35 rfl ?_
      refine rs_getf (pc := 36) dX11_finest_36 fX11_58 (x_lt hx (by decide)) hx.2 rfl ?_
      refine rs_iload (pc := 39) dX11_finest_39 rfl ?_
      refine rs_callV (as := [_]) (pc := 41) dX11_finest_41 mk_X2_scatterOf mlX11_252 in_X2_scatterOf se_X2_scatterOf rfl (mo_lt hcl (by decide)) hcl.2.1 rfl rfl (Nat.le_of_ble_eq_true rfl) (c_X2_scatterOf hok hcl hG (nI v)) ?_
      refine wk_lst6 (pc := 44) dX11_finest_44 (by decide) rfl ?_
      refine rs_lload (pc := 46) dX11_finest_46 rfl ?_
      refine rs_ldc2 (pc := 48) dX11_finest_48 cnX11_255 ?_
      refine wk_lcmp_eq (tgt := 74) (pc := 51) dX11_finest_51 dX11_finest_52 rfl (fun c_51 => ?_) (fun c_51 => ?_)
      · refine wk_iinc5 (v := nI (v + 1)) (pc := 74) dX11_finest_74 (by decide) rfl (nI_1 v) ?_
        refine rs_goto (tgt := 29) (pc := 77) dX11_finest_77 rfl ?_
        first
        | (have e1 : fnst (fun v => uu_scat B k (LPl B k (nI v) S z)) (v + 1) = fnst (fun v => uu_scat B k (LPl B k (nI v) S z)) v := by
             rw [fnst]
             first
             | exact if_pos c_51
             | (rw [if_neg c_51]; exact if_neg (fun y => y.elim c_58 (fun y => y c_64)))
           rw [← e1]
           exact ih (v + 1) _ (by omega) (by omega))
        | (have e1 : fnst (fun v => uu_scat B k (LPl B k (nI v) S z)) (v + 1) = (nI v, (fun v => uu_scat B k (LPl B k (nI v) S z)) v) := by
             rw [fnst, if_neg c_51]
             first
             | exact if_pos (Or.inl c_58)
             | exact if_pos (Or.inr c_64)
           have e2 := ih (v + 1) (.long ((fun v => uu_scat B k (LPl B k (nI v) S z)) v)) (by omega) (by omega)
           rw [e1] at e2
           exact e2)
      · refine rs_iload_n (pc := 55) dX11_finest_55 rfl ?_
        refine rs_bipush (v := -2) (pc := 56) dX11_finest_56 rfl ?_
        refine rs_icmp_eq (tgt := 68) (pc := 58) dX11_finest_58 rfl (fun c_58 => ?_) (fun c_58 => ?_)
        · refine rs_iload (pc := 68) dX11_finest_68 rfl ?_
          refine wk_istn2 (pc := 70) dX11_finest_70 (by decide) rfl ?_
          refine rs_lload (pc := 71) dX11_finest_71 rfl ?_
          refine wk_lstn3 (pc := 73) dX11_finest_73 (by decide) rfl ?_
          refine wk_iinc5 (v := nI (v + 1)) (pc := 74) dX11_finest_74 (by decide) rfl (nI_1 v) ?_
          refine rs_goto (tgt := 29) (pc := 77) dX11_finest_77 rfl ?_
          first
          | (have e1 : fnst (fun v => uu_scat B k (LPl B k (nI v) S z)) (v + 1) = fnst (fun v => uu_scat B k (LPl B k (nI v) S z)) v := by
               rw [fnst]
               first
               | exact if_pos c_51
               | (rw [if_neg c_51]; exact if_neg (fun y => y.elim c_58 (fun y => y c_64)))
             rw [← e1]
             exact ih (v + 1) _ (by omega) (by omega))
          | (have e1 : fnst (fun v => uu_scat B k (LPl B k (nI v) S z)) (v + 1) = (nI v, (fun v => uu_scat B k (LPl B k (nI v) S z)) v) := by
               rw [fnst, if_neg c_51]
               first
               | exact if_pos (Or.inl c_58)
               | exact if_pos (Or.inr c_64)
             have e2 := ih (v + 1) (.long ((fun v => uu_scat B k (LPl B k (nI v) S z)) v)) (by omega) (by omega)
             rw [e1] at e2
             exact e2)
        · refine rs_lload (pc := 61) dX11_finest_61 rfl ?_
          refine rs_lload_n (pc := 63) dX11_finest_63 rfl ?_
          refine wk_lcmp_ge (tgt := 74) (pc := 64) dX11_finest_64 dX11_finest_65 rfl (fun c_64 => ?_) (fun c_64 => ?_)
          · refine wk_iinc5 (v := nI (v + 1)) (pc := 74) dX11_finest_74 (by decide) rfl (nI_1 v) ?_
            refine rs_goto (tgt := 29) (pc := 77) dX11_finest_77 rfl ?_
            first
            | (have e1 : fnst (fun v => uu_scat B k (LPl B k (nI v) S z)) (v + 1) = fnst (fun v => uu_scat B k (LPl B k (nI v) S z)) v := by
                 rw [fnst]
                 first
                 | exact if_pos c_51
                 | (rw [if_neg c_51]; exact if_neg (fun y => y.elim c_58 (fun y => y c_64)))
               rw [← e1]
               exact ih (v + 1) _ (by omega) (by omega))
            | (have e1 : fnst (fun v => uu_scat B k (LPl B k (nI v) S z)) (v + 1) = (nI v, (fun v => uu_scat B k (LPl B k (nI v) S z)) v) := by
                 rw [fnst, if_neg c_51]
                 first
                 | exact if_pos (Or.inl c_58)
                 | exact if_pos (Or.inr c_64)
               have e2 := ih (v + 1) (.long ((fun v => uu_scat B k (LPl B k (nI v) S z)) v)) (by omega) (by omega)
               rw [e1] at e2
               exact e2)
          · refine rs_iload (pc := 68) dX11_finest_68 rfl ?_
            refine wk_istn2 (pc := 70) dX11_finest_70 (by decide) rfl ?_
            refine rs_lload (pc := 71) dX11_finest_71 rfl ?_
            refine wk_lstn3 (pc := 73) dX11_finest_73 (by decide) rfl ?_
            refine wk_iinc5 (v := nI (v + 1)) (pc := 74) dX11_finest_74 (by decide) rfl (nI_1 v) ?_
            refine rs_goto (tgt := 29) (pc := 77) dX11_finest_77 rfl ?_
            first
            | (have e1 : fnst (fun v => uu_scat B k (LPl B k (nI v) S z)) (v + 1) = fnst (fun v => uu_scat B k (LPl B k (nI v) S z)) v := by
                 rw [fnst]
                 first
                 | exact if_pos c_51
                 | (rw [if_neg c_51]; exact if_neg (fun y => y.elim c_58 (fun y => y c_64)))
               rw [← e1]
               exact ih (v + 1) _ (by omega) (by omega))
            | (have e1 : fnst (fun v => uu_scat B k (LPl B k (nI v) S z)) (v + 1) = (nI v, (fun v => uu_scat B k (LPl B k (nI v) S z)) v) := by
                 rw [fnst, if_neg c_51]
                 first
                 | exact if_pos (Or.inl c_58)
                 | exact if_pos (Or.inr c_64)
               have e2 := ih (v + 1) (.long ((fun v => uu_scat B k (LPl B k (nI v) S z)) v)) (by omega) (by omega)
               rw [e1] at e2
               exact e2)
set_option maxRecDepth 100000 in
set_option maxHeartbeats 4000000 in
theorem c_X11_finest {h : ai_H} {tb lm : Int32} {B : Bk} {ln : Nat} (hx : x_at h tb lm) (hB : bk_at h 1 B) (hok : bk_ok B ln) (hs : scr h) (k : Int32) : ai_QM MX11_finest [.ref 0, .int k] h (fun r g => fr 22 34 h g ∧ scr g ∧ ((bi_in k 0 9999 = 0 ∧ r = some (.int (-1))) ∨ (¬ bi_in k 0 9999 = 0 ∧ ∃ S z, GI B k S (nR B) z ∧ r = some (.int (fnst (fun v => uu_scat B k (LPl B k (nI v) S z)) 5).1)))) := by
  obtain ⟨-, -, -, ⟨S0, hcl⟩, -⟩ := id hs
  refine qm_of (ls := [.ref 0, .int k, .float 0, .float 0, .float 0, .float 0, .float 0, .float 0]) (by decide) (by simp [ai_en, Value.category]) (by rfl) ?_
  refine wq (fun _ _ kk => rs_iload_n (pc := 0) dX11_finest_0 rfl kk) ?_
  refine wq (fun _ _ kk => rs_callS (as := [_]) (pc := 1) dX11_finest_1 mk_X11_isWeek mlX11_97 st_X11_isWeek rfl rfl (Nat.le_of_ble_eq_true rfl) (c_X11_isWeek _) kk) ?_
  refine wq_bn (fun _ _ kt kf => rs_if_ne (tgt := 9) (pc := 4) dX11_finest_4 rfl kt kf) (fun c_4 => ?_) (fun c_4 => ?_)
  · refine wq (fun _ _ kk => rs_aload_n (pc := 9) dX11_finest_9 rfl kk) ?_
    refine wq (fun _ _ kk => rs_getf (pc := 10) dX11_finest_10 fX11_58 (x_lt hx (by decide)) hx.2 rfl kk) ?_
    refine wq (fun _ _ kk => rs_aload_n (pc := 13) dX11_finest_13 rfl kk) ?_
    refine wq (fun _ _ kk => rs_getf (pc := 14) dX11_finest_14 fX11_10 (x_lt hx (by decide)) hx.2 rfl kk) ?_
    refine wq (fun _ _ kk => rs_iload_n (pc := 17) dX11_finest_17 rfl kk) ?_
    obtain ⟨rv_18, hc_18, ⟨rfl, ee_18, S, z, hzR, hG, hcl_18⟩, hm_18⟩ := c_X2_gather hcl hB (bk_ok_rows hok) (sz := nR B) hok.2.2.2.2.1.2.1 hok.2.2.2.2.1.1 k
    refine wq (fun _ _ kk => rs_callV (as := [_, _]) (pc := 18) dX11_finest_18 mk_X2_gather mlX11_248 in_X2_gather se_X2_gather rfl (mo_lt hcl (by decide)) hcl.2.1 rfl rfl (Nat.le_of_ble_eq_true rfl) (hm_18) kk) ?_
    replace hcl := hcl_18
    replace hx := x_at.keep hx ee_18.1 (ee_18.2.2 0 (by decide))
    replace hB := hB.keep ee_18.1 (fun j _ _ => ee_18.2.2 j (by omega))
    refine wq (fun _ _ kk => rs_bipush (v := -2) (pc := 21) dX11_finest_21 rfl kk) ?_
    refine wq (fun _ _ kk => wk_istn2 (pc := 23) dX11_finest_23 (by decide) rfl kk) ?_
    refine wq (fun _ _ kk => rs_lconst (v := 0) (pc := 24) dX11_finest_24 rfl kk) ?_
    refine wq (fun _ _ kk => wk_lstn3 (pc := 25) dX11_finest_25 (by decide) rfl kk) ?_
    refine wq (fun _ _ kk => rs_iconst (v := 0) (pc := 26) dX11_finest_26 rfl kk) ?_
    refine wq (fun _ _ kk => wk_ist5 (pc := 27) dX11_finest_27 (by decide) rfl kk) ?_
    exact ⟨_, _, ⟨ee_18, hs.gath ee_18 ⟨_, hcl⟩, Or.inr ⟨c_4, S, z, hG, rfl⟩⟩, l_X11_finest hok hx hcl hG 6 0 _ (by omega) (by omega)⟩
  · refine wq (fun _ _ kk => rs_iconst (v := -1) (pc := 7) dX11_finest_7 rfl kk) ?_
    refine wq_ret ?_ (rs_iret (pc := 8) dX11_finest_8 rfl)
    exact ⟨fr.rf, hs, Or.inl ⟨by simp [c_4], rfl⟩⟩
theorem dX12_finest_0 : decode cX12_finest 0 = .ok (.iload_n 1, 1) := by decide +kernel
theorem dX12_finest_1 : decode cX12_finest 1 = .ok (.invokestatic 230, 3) := by decide +kernel
theorem dX12_finest_4 : decode cX12_finest 4 = .ok (.ifCond .ne 5, 3) := by decide +kernel
theorem dX12_finest_7 : decode cX12_finest 7 = .ok (.iconst (-1), 1) := by decide +kernel
theorem dX12_finest_8 : decode cX12_finest 8 = .ok (.ireturn, 1) := by decide +kernel
theorem dX12_finest_9 : decode cX12_finest 9 = .ok (.aload_n 0, 1) := by decide +kernel
theorem dX12_finest_10 : decode cX12_finest 10 = .ok (.iload_n 1, 1) := by decide +kernel
theorem dX12_finest_11 : decode cX12_finest 11 = .ok (.invokevirtual 407, 3) := by decide +kernel
theorem dX12_finest_14 : decode cX12_finest 14 = .ok (.bipush (-2), 2) := by decide +kernel
theorem dX12_finest_16 : decode cX12_finest 16 = .ok (.istore_n 2, 1) := by decide +kernel
theorem dX12_finest_17 : decode cX12_finest 17 = .ok (.lconst 0, 1) := by decide +kernel
theorem dX12_finest_18 : decode cX12_finest 18 = .ok (.lstore_n 3, 1) := by decide +kernel
theorem dX12_finest_19 : decode cX12_finest 19 = .ok (.iconst 0, 1) := by decide +kernel
theorem dX12_finest_20 : decode cX12_finest 20 = .ok (.istore 5, 2) := by decide +kernel
theorem dX12_finest_22 : decode cX12_finest 22 = .ok (.iload 5, 2) := by decide +kernel
theorem dX12_finest_24 : decode cX12_finest 24 = .ok (.iconst 5, 1) := by decide +kernel
theorem dX12_finest_25 : decode cX12_finest 25 = .ok (.if_icmp .ge 70, 3) := by decide +kernel
theorem dX12_finest_28 : decode cX12_finest 28 = .ok (.aload_n 0, 1) := by decide +kernel
theorem dX12_finest_29 : decode cX12_finest 29 = .ok (.iload 5, 2) := by decide +kernel
theorem dX12_finest_31 : decode cX12_finest 31 = .ok (.invokevirtual 462, 3) := by decide +kernel
theorem dX12_finest_34 : decode cX12_finest 34 = .ok (.lstore 6, 2) := by decide +kernel
theorem dX12_finest_36 : decode cX12_finest 36 = .ok (.lload 6, 2) := by decide +kernel
theorem dX12_finest_38 : decode cX12_finest 38 = .ok (.ldc2_w 460, 3) := by decide +kernel
theorem dX12_finest_41 : decode cX12_finest 41 = .ok (.lcmp, 1) := by decide +kernel
theorem dX12_finest_42 : decode cX12_finest 42 = .ok (.ifCond .eq 20, 3) := by decide +kernel
theorem dX12_finest_45 : decode cX12_finest 45 = .ok (.iload_n 2, 1) := by decide +kernel
theorem dX12_finest_46 : decode cX12_finest 46 = .ok (.bipush (-2), 2) := by decide +kernel
theorem dX12_finest_48 : decode cX12_finest 48 = .ok (.if_icmp .eq 10, 3) := by decide +kernel
theorem dX12_finest_51 : decode cX12_finest 51 = .ok (.lload 6, 2) := by decide +kernel
theorem dX12_finest_53 : decode cX12_finest 53 = .ok (.lload_n 3, 1) := by decide +kernel
theorem dX12_finest_54 : decode cX12_finest 54 = .ok (.lcmp, 1) := by decide +kernel
theorem dX12_finest_55 : decode cX12_finest 55 = .ok (.ifCond .ge 7, 3) := by decide +kernel
theorem dX12_finest_58 : decode cX12_finest 58 = .ok (.iconst 1, 1) := by decide +kernel
theorem dX12_finest_59 : decode cX12_finest 59 = .ok (.goto 4, 3) := by decide +kernel
theorem dX12_finest_62 : decode cX12_finest 62 = .ok (.iconst 0, 1) := by decide +kernel
theorem dX12_finest_63 : decode cX12_finest 63 = .ok (.istore 8, 2) := by decide +kernel
theorem dX12_finest_65 : decode cX12_finest 65 = .ok (.iload 8, 2) := by decide +kernel
theorem dX12_finest_67 : decode cX12_finest 67 = .ok (.ifCond .eq 8, 3) := by decide +kernel
theorem dX12_finest_70 : decode cX12_finest 70 = .ok (.iload 5, 2) := by decide +kernel
theorem dX12_finest_72 : decode cX12_finest 72 = .ok (.goto 4, 3) := by decide +kernel
theorem dX12_finest_75 : decode cX12_finest 75 = .ok (.iload_n 2, 1) := by decide +kernel
theorem dX12_finest_76 : decode cX12_finest 76 = .ok (.istore_n 2, 1) := by decide +kernel
theorem dX12_finest_77 : decode cX12_finest 77 = .ok (.iload 8, 2) := by decide +kernel
theorem dX12_finest_79 : decode cX12_finest 79 = .ok (.ifCond .eq 8, 3) := by decide +kernel
theorem dX12_finest_82 : decode cX12_finest 82 = .ok (.lload 6, 2) := by decide +kernel
theorem dX12_finest_84 : decode cX12_finest 84 = .ok (.goto 4, 3) := by decide +kernel
theorem dX12_finest_87 : decode cX12_finest 87 = .ok (.lload_n 3, 1) := by decide +kernel
theorem dX12_finest_88 : decode cX12_finest 88 = .ok (.lstore_n 3, 1) := by decide +kernel
theorem dX12_finest_89 : decode cX12_finest 89 = .ok (.iinc 5 1, 3) := by decide +kernel
theorem dX12_finest_92 : decode cX12_finest 92 = .ok (.goto (-70), 3) := by decide +kernel
theorem dX12_finest_95 : decode cX12_finest 95 = .ok (.iload_n 2, 1) := by decide +kernel
theorem dX12_finest_96 : decode cX12_finest 96 = .ok (.ireturn, 1) := by decide +kernel
set_option maxRecDepth 100000 in
set_option maxHeartbeats 4000000 in
theorem l_X12_finest {h : ai_H} {B : Bk} {ln : Nat} {k : Int32} {T : Md} {q : Nat} (hok : bk_ok B ln) (hmd : md_at h T) (ec : T.1 40 = nI q) (hq4 : q ≤ 400) (hS : SI B k T (nR B) (nR B) q) : ∀ (m v : Nat) (u6 u8 : Value), v ≤ 5 → 6 ≤ v + m → ai_R MX12_finest 22 [.ref 307, .int k, .int (fnst (fun v => uu_scat B k (LTl B k (nI v) T q)) v).1, .long (fnst (fun v => uu_scat B k (LTl B k (nI v) T q)) v).2, .float 0, .int (nI v), u6, .float 0, u8] [] h (some (.int (fnst (fun v => uu_scat B k (LTl B k (nI v) T q)) 5).1)) h := by
  intro m
  induction m with
  | zero => intro v u6 u8 h1 h2; exact absurd h2 (by omega)
  | succ m ih =>
    intro v u6 u8 hv0 him
    refine rs_iload (pc := 22) dX12_finest_22 rfl ?_
    refine rs_iconst (v := 5) (pc := 24) dX12_finest_24 rfl ?_
    refine rs_icmp_ge (tgt := 95) (pc := 25) dX12_finest_25 rfl (fun c_25 => ?_) (fun c_25 => ?_)
    · have hve : v = 5 := lp_exit (sz := 5) rfl (by decide) hv0 c_25
      subst hve
      refine rs_iload_n (pc := 95) dX12_finest_95 rfl ?_
      exact wk_iret (pc := 96) dX12_finest_96 rfl (rfl) (rfl)
    · have hv : v < 5 := lp_go (sz := 5) rfl (by omega) c_25
      refine rs_aload_n (pc := 28) dX12_finest_28 rfl ?_
      refine rs_iload (pc := 29) dX12_finest_29 rfl ?_
      refine rs_callV (as := [_]) (pc := 31) dX12_finest_31 mk_X12_scattered mlX12_462 in_X12_scattered se_X12_scattered rfl (md_lt hmd (by decide)) hmd.2.1 rfl rfl (Nat.le_of_ble_eq_true rfl) (c_X12_scattered hok hmd ec hq4 hS (nI v)) ?_
      refine wk_lst6 (pc := 34) dX12_finest_34 (by decide) rfl ?_
      refine rs_lload (pc := 36) dX12_finest_36 rfl ?_
      refine rs_ldc2 (pc := 38) dX12_finest_38 cnX12_460 ?_
      refine wk_lcmp_eq (tgt := 62) (pc := 41) dX12_finest_41 dX12_finest_42 rfl (fun c_41 => ?_) (fun c_41 => ?_)
      · refine rs_iconst (v := 0) (pc := 62) dX12_finest_62 rfl ?_
        refine wk_ist8 (pc := 63) dX12_finest_63 (by decide) rfl ?_
        refine rs_iload (pc := 65) dX12_finest_65 rfl ?_
        refine rs_if_eq (tgt := 75) (pc := 67) dX12_finest_67 rfl (fun c_67 => ?_) (fun c_67 => absurd c_67 (by decide))
        refine rs_iload_n (pc := 75) dX12_finest_75 rfl ?_
        refine wk_istn2 (pc := 76) dX12_finest_76 (by decide) rfl ?_
        refine rs_iload (pc := 77) dX12_finest_77 rfl ?_
        refine rs_if_eq (tgt := 87) (pc := 79) dX12_finest_79 rfl (fun c_79 => ?_) (fun c_79 => absurd c_79 (by decide))
        refine rs_lload_n (pc := 87) dX12_finest_87 rfl ?_
        refine wk_lstn3 (pc := 88) dX12_finest_88 (by decide) rfl ?_
        refine wk_iinc5 (v := nI (v + 1)) (pc := 89) dX12_finest_89 (by decide) rfl (nI_1 v) ?_
        refine rs_goto (tgt := 22) (pc := 92) dX12_finest_92 rfl ?_
        first
        | (have e1 : fnst (fun v => uu_scat B k (LTl B k (nI v) T q)) (v + 1) = fnst (fun v => uu_scat B k (LTl B k (nI v) T q)) v := by
             rw [fnst]
             first
             | exact if_pos c_41
             | (rw [if_neg c_41]; exact if_neg (fun y => y.elim c_48 (fun y => y c_54)))
           rw [← e1]
           exact ih (v + 1) _ _ (by omega) (by omega))
        | (have e1 : fnst (fun v => uu_scat B k (LTl B k (nI v) T q)) (v + 1) = (nI v, (fun v => uu_scat B k (LTl B k (nI v) T q)) v) := by
             rw [fnst, if_neg c_41]
             first
             | exact if_pos (Or.inl c_48)
             | exact if_pos (Or.inr c_54)
           have e2 := ih (v + 1) (.long ((fun v => uu_scat B k (LTl B k (nI v) T q)) v)) (.int 1) (by omega) (by omega)
           rw [e1] at e2
           exact e2)
      · refine rs_iload_n (pc := 45) dX12_finest_45 rfl ?_
        refine rs_bipush (v := -2) (pc := 46) dX12_finest_46 rfl ?_
        refine rs_icmp_eq (tgt := 58) (pc := 48) dX12_finest_48 rfl (fun c_48 => ?_) (fun c_48 => ?_)
        · refine rs_iconst (v := 1) (pc := 58) dX12_finest_58 rfl ?_
          refine rs_goto (tgt := 63) (pc := 59) dX12_finest_59 rfl ?_
          refine wk_ist8 (pc := 63) dX12_finest_63 (by decide) rfl ?_
          refine rs_iload (pc := 65) dX12_finest_65 rfl ?_
          refine rs_if_eq (tgt := 75) (pc := 67) dX12_finest_67 rfl (fun c_67 => absurd c_67 (by decide)) (fun c_67 => ?_)
          refine rs_iload (pc := 70) dX12_finest_70 rfl ?_
          refine rs_goto (tgt := 76) (pc := 72) dX12_finest_72 rfl ?_
          refine wk_istn2 (pc := 76) dX12_finest_76 (by decide) rfl ?_
          refine rs_iload (pc := 77) dX12_finest_77 rfl ?_
          refine rs_if_eq (tgt := 87) (pc := 79) dX12_finest_79 rfl (fun c_79 => absurd c_79 (by decide)) (fun c_79 => ?_)
          refine rs_lload (pc := 82) dX12_finest_82 rfl ?_
          refine rs_goto (tgt := 88) (pc := 84) dX12_finest_84 rfl ?_
          refine wk_lstn3 (pc := 88) dX12_finest_88 (by decide) rfl ?_
          refine wk_iinc5 (v := nI (v + 1)) (pc := 89) dX12_finest_89 (by decide) rfl (nI_1 v) ?_
          refine rs_goto (tgt := 22) (pc := 92) dX12_finest_92 rfl ?_
          first
          | (have e1 : fnst (fun v => uu_scat B k (LTl B k (nI v) T q)) (v + 1) = fnst (fun v => uu_scat B k (LTl B k (nI v) T q)) v := by
               rw [fnst]
               first
               | exact if_pos c_41
               | (rw [if_neg c_41]; exact if_neg (fun y => y.elim c_48 (fun y => y c_54)))
             rw [← e1]
             exact ih (v + 1) _ _ (by omega) (by omega))
          | (have e1 : fnst (fun v => uu_scat B k (LTl B k (nI v) T q)) (v + 1) = (nI v, (fun v => uu_scat B k (LTl B k (nI v) T q)) v) := by
               rw [fnst, if_neg c_41]
               first
               | exact if_pos (Or.inl c_48)
               | exact if_pos (Or.inr c_54)
             have e2 := ih (v + 1) (.long ((fun v => uu_scat B k (LTl B k (nI v) T q)) v)) (.int 1) (by omega) (by omega)
             rw [e1] at e2
             exact e2)
        · refine rs_lload (pc := 51) dX12_finest_51 rfl ?_
          refine rs_lload_n (pc := 53) dX12_finest_53 rfl ?_
          refine wk_lcmp_ge (tgt := 62) (pc := 54) dX12_finest_54 dX12_finest_55 rfl (fun c_54 => ?_) (fun c_54 => ?_)
          · refine rs_iconst (v := 0) (pc := 62) dX12_finest_62 rfl ?_
            refine wk_ist8 (pc := 63) dX12_finest_63 (by decide) rfl ?_
            refine rs_iload (pc := 65) dX12_finest_65 rfl ?_
            refine rs_if_eq (tgt := 75) (pc := 67) dX12_finest_67 rfl (fun c_67 => ?_) (fun c_67 => absurd c_67 (by decide))
            refine rs_iload_n (pc := 75) dX12_finest_75 rfl ?_
            refine wk_istn2 (pc := 76) dX12_finest_76 (by decide) rfl ?_
            refine rs_iload (pc := 77) dX12_finest_77 rfl ?_
            refine rs_if_eq (tgt := 87) (pc := 79) dX12_finest_79 rfl (fun c_79 => ?_) (fun c_79 => absurd c_79 (by decide))
            refine rs_lload_n (pc := 87) dX12_finest_87 rfl ?_
            refine wk_lstn3 (pc := 88) dX12_finest_88 (by decide) rfl ?_
            refine wk_iinc5 (v := nI (v + 1)) (pc := 89) dX12_finest_89 (by decide) rfl (nI_1 v) ?_
            refine rs_goto (tgt := 22) (pc := 92) dX12_finest_92 rfl ?_
            first
            | (have e1 : fnst (fun v => uu_scat B k (LTl B k (nI v) T q)) (v + 1) = fnst (fun v => uu_scat B k (LTl B k (nI v) T q)) v := by
                 rw [fnst]
                 first
                 | exact if_pos c_41
                 | (rw [if_neg c_41]; exact if_neg (fun y => y.elim c_48 (fun y => y c_54)))
               rw [← e1]
               exact ih (v + 1) _ _ (by omega) (by omega))
            | (have e1 : fnst (fun v => uu_scat B k (LTl B k (nI v) T q)) (v + 1) = (nI v, (fun v => uu_scat B k (LTl B k (nI v) T q)) v) := by
                 rw [fnst, if_neg c_41]
                 first
                 | exact if_pos (Or.inl c_48)
                 | exact if_pos (Or.inr c_54)
               have e2 := ih (v + 1) (.long ((fun v => uu_scat B k (LTl B k (nI v) T q)) v)) (.int 1) (by omega) (by omega)
               rw [e1] at e2
               exact e2)
          · refine rs_iconst (v := 1) (pc := 58) dX12_finest_58 rfl ?_
            refine rs_goto (tgt := 63) (pc := 59) dX12_finest_59 rfl ?_
            refine wk_ist8 (pc := 63) dX12_finest_63 (by decide) rfl ?_
            refine rs_iload (pc := 65) dX12_finest_65 rfl ?_
            refine rs_if_eq (tgt := 75) (pc := 67) dX12_finest_67 rfl (fun c_67 => absurd c_67 (by decide)) (fun c_67 => ?_)
            refine rs_iload (pc := 70) dX12_finest_70 rfl ?_
            refine rs_goto (tgt := 76) (pc := 72) dX12_finest_72 rfl ?_
            refine wk_istn2 (pc := 76) dX12_finest_76 (by decide) rfl ?_
            refine rs_iload (pc := 77) dX12_finest_77 rfl ?_
            refine rs_if_eq (tgt := 87) (pc := 79) dX12_finest_79 rfl (fun c_79 => absurd c_79 (by decide)) (fun c_79 => ?_)
            refine rs_lload (pc := 82) dX12_finest_82 rfl ?_
            refine rs_goto (tgt := 88) (pc := 84) dX12_finest_84 rfl ?_
            refine wk_lstn3 (pc := 88) dX12_finest_88 (by decide) rfl ?_
            refine wk_iinc5 (v := nI (v + 1)) (pc := 89) dX12_finest_89 (by decide) rfl (nI_1 v) ?_
            refine rs_goto (tgt := 22) (pc := 92) dX12_finest_92 rfl ?_
            first
            | (have e1 : fnst (fun v => uu_scat B k (LTl B k (nI v) T q)) (v + 1) = fnst (fun v => uu_scat B k (LTl B k (nI v) T q)) v := by
                 rw [fnst]
                 first
                 | exact if_pos c_41
                 | (rw [if_neg c_41]; exact if_neg (fun y => y.elim c_48 (fun y => y c_54)))
               rw [← e1]
               exact ih (v + 1) _ _ (by omega) (by omega))
            | (have e1 : fnst (fun v => uu_scat B k (LTl B k (nI v) T q)) (v + 1) = (nI v, (fun v => uu_scat B k (LTl B k (nI v) T q)) v) := by
                 rw [fnst, if_neg c_41]
                 first
                 | exact if_pos (Or.inl c_48)
                 | exact if_pos (Or.inr c_54)
               have e2 := ih (v + 1) (.long ((fun v => uu_scat B k (LTl B k (nI v) T q)) v)) (.int 1) (by omega) (by omega)
               rw [e1] at e2
               exact e2)
set_option maxRecDepth 100000 in
set_option maxHeartbeats 4000000 in
theorem c_X12_finest {h : ai_H} {S : Md} {B : Bk} {ln : Nat} {k : Int32} (hok : bk_ok B ln) (hRB : RB B S) (hmd : md_at h S) : ai_QM MX12_finest [.ref 307, .int k] h (fun r g => md_ext h g ∧ (∃ V, md_at g V ∧ mq S V) ∧ ((bi_in k 0 9999 = 0 ∧ r = some (.int (-1))) ∨ (¬ bi_in k 0 9999 = 0 ∧ ∃ T q, SI B k T (nR B) (nR B) q ∧ r = some (.int (fnst (fun v => uu_scat B k (LTl B k (nI v) T q)) 5).1)))) := by
  refine qm_of (ls := [.ref 307, .int k, .float 0, .float 0, .float 0, .float 0, .float 0, .float 0, .float 0]) (by decide) (by simp [ai_en, Value.category]) (by rfl) ?_
  refine wq (fun _ _ kk => rs_iload_n (pc := 0) dX12_finest_0 rfl kk) ?_
  refine wq (fun _ _ kk => rs_callS (as := [_]) (pc := 1) dX12_finest_1 mk_X12_isWeek mlX12_230 st_X12_isWeek rfl rfl (Nat.le_of_ble_eq_true rfl) (c_X12_isWeek _) kk) ?_
  refine wq_bn (fun _ _ kt kf => rs_if_ne (tgt := 9) (pc := 4) dX12_finest_4 rfl kt kf) (fun c_4 => ?_) (fun c_4 => ?_)
  · refine wq (fun _ _ kk => rs_aload_n (pc := 9) dX12_finest_9 rfl kk) ?_
    refine wq (fun _ _ kk => rs_iload_n (pc := 10) dX12_finest_10 rfl kk) ?_
    obtain ⟨rv_11, hc_11, ⟨rfl, ee_11, T, q, hqR, hmd_11, ec, hsg, hSI⟩, hm_11⟩ := c_X12_gathers hok hRB (bi_in_9 c_4).2 hmd
    refine wq (fun _ _ kk => rs_callV (as := [_]) (pc := 11) dX12_finest_11 mk_X12_gathers mlX12_407 in_X12_gathers se_X12_gathers rfl (md_lt hmd (by decide)) hmd.2.1 rfl rfl (Nat.le_of_ble_eq_true rfl) (hm_11) kk) ?_
    replace hmd := hmd_11
    have E_11 := (md_ext.rf).trans ee_11
    refine wq (fun _ _ kk => rs_bipush (v := -2) (pc := 14) dX12_finest_14 rfl kk) ?_
    refine wq (fun _ _ kk => wk_istn2 (pc := 16) dX12_finest_16 (by decide) rfl kk) ?_
    refine wq (fun _ _ kk => rs_lconst (v := 0) (pc := 17) dX12_finest_17 rfl kk) ?_
    refine wq (fun _ _ kk => wk_lstn3 (pc := 18) dX12_finest_18 (by decide) rfl kk) ?_
    refine wq (fun _ _ kk => rs_iconst (v := 0) (pc := 19) dX12_finest_19 rfl kk) ?_
    refine wq (fun _ _ kk => wk_ist5 (pc := 20) dX12_finest_20 (by decide) rfl kk) ?_
    exact ⟨_, _, ⟨md_ext.rf.trans ee_11, ⟨T, hmd, hsg.mq⟩, Or.inr ⟨c_4, T, q, hSI, rfl⟩⟩, l_X12_finest hok hmd ec (Nat.le_trans hqR hok.2.2.2.2.1.2.1) hSI 6 0 _ _ (by omega) (by omega)⟩
  · refine wq (fun _ _ kk => rs_iconst (v := -1) (pc := 7) dX12_finest_7 rfl kk) ?_
    refine wq_ret ?_ (rs_iret (pc := 8) dX12_finest_8 rfl)
    exact ⟨md_ext.rf, ⟨S, hmd, mq.rf⟩, Or.inl ⟨by simp [c_4], rfl⟩⟩
