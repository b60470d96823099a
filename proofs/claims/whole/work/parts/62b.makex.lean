/-! 62b: constructor of EachLater -/
def x0 (q : Nat) : List va_E := .inr (11, [.ref (q + 1), .ref (q + 12), .ref (q + 13), .int 0, .ref (q + 14), .int 0, .ref (q + 15), .ref (q + 16), .ref (q + 20), .ref (q + 22), .ref (q + 35), .ref (q + 294), .ref (q + 298), .ref (q + 301), .ref (q + 306)]) :: (bk0 (q + 1) ++ ([.inl (6, 4, .inr (.inr (.inr (.inr (fun _ => none))))), .inl (0, 400, .inl (fun _ => 0)), .inl (5, 10, .inr (.inr (.inr (.inr (fun _ => none))))), .inl (1, 10, .inr (.inl (fun _ => 0)))] ++ (re0 (q + 16) ++ (sc0 (q + 20) ++ (cl0 (q + 22) ++ (mt0 (q + 35) 256 ++ (rp0 (q + 294) ++ (bo0 (q + 298) ++ (wo0 (q + 301) ++ ty0)))))))))
theorem dX11_init_0 : decode cX11_init 0 = .ok (.aload_n 0, 1) := by decide +kernel
theorem dX11_init_1 : decode cX11_init 1 = .ok (.invokespecial 1, 3) := by decide +kernel
theorem dX11_init_4 : decode cX11_init 4 = .ok (.aload_n 0, 1) := by decide +kernel
theorem dX11_init_5 : decode cX11_init 5 = .ok (.new 7, 3) := by decide +kernel
theorem dX11_init_8 : decode cX11_init 8 = .ok (.dup, 1) := by decide +kernel
theorem dX11_init_9 : decode cX11_init 9 = .ok (.invokespecial 9, 3) := by decide +kernel
theorem dX11_init_12 : decode cX11_init 12 = .ok (.putfield 10, 3) := by decide +kernel
theorem dX11_init_15 : decode cX11_init 15 = .ok (.aload_n 0, 1) := by decide +kernel
theorem dX11_init_16 : decode cX11_init 16 = .ok (.iconst 4, 1) := by decide +kernel
theorem dX11_init_17 : decode cX11_init 17 = .ok (.anewarray 7, 3) := by decide +kernel
theorem dX11_init_20 : decode cX11_init 20 = .ok (.putfield 16, 3) := by decide +kernel
theorem dX11_init_23 : decode cX11_init 23 = .ok (.aload_n 0, 1) := by decide +kernel
theorem dX11_init_24 : decode cX11_init 24 = .ok (.sipush 400, 3) := by decide +kernel
theorem dX11_init_27 : decode cX11_init 27 = .ok (.newarray .int, 2) := by decide +kernel
theorem dX11_init_29 : decode cX11_init 29 = .ok (.putfield 20, 3) := by decide +kernel
theorem dX11_init_32 : decode cX11_init 32 = .ok (.aload_n 0, 1) := by decide +kernel
theorem dX11_init_33 : decode cX11_init 33 = .ok (.iconst 0, 1) := by decide +kernel
theorem dX11_init_34 : decode cX11_init 34 = .ok (.putfield 24, 3) := by decide +kernel
theorem dX11_init_37 : decode cX11_init 37 = .ok (.aload_n 0, 1) := by decide +kernel
theorem dX11_init_38 : decode cX11_init 38 = .ok (.bipush 10, 2) := by decide +kernel
theorem dX11_init_40 : decode cX11_init 40 = .ok (.anewarray 28, 3) := by decide +kernel
theorem dX11_init_43 : decode cX11_init 43 = .ok (.putfield 30, 3) := by decide +kernel
theorem dX11_init_46 : decode cX11_init 46 = .ok (.aload_n 0, 1) := by decide +kernel
theorem dX11_init_47 : decode cX11_init 47 = .ok (.iconst 0, 1) := by decide +kernel
theorem dX11_init_48 : decode cX11_init 48 = .ok (.putfield 34, 3) := by decide +kernel
theorem dX11_init_51 : decode cX11_init 51 = .ok (.aload_n 0, 1) := by decide +kernel
theorem dX11_init_52 : decode cX11_init 52 = .ok (.bipush 10, 2) := by decide +kernel
theorem dX11_init_54 : decode cX11_init 54 = .ok (.newarray .long, 2) := by decide +kernel
theorem dX11_init_56 : decode cX11_init 56 = .ok (.putfield 37, 3) := by decide +kernel
theorem dX11_init_59 : decode cX11_init 59 = .ok (.aload_n 0, 1) := by decide +kernel
theorem dX11_init_60 : decode cX11_init 60 = .ok (.new 41, 3) := by decide +kernel
theorem dX11_init_63 : decode cX11_init 63 = .ok (.dup, 1) := by decide +kernel
theorem dX11_init_64 : decode cX11_init 64 = .ok (.invokespecial 43, 3) := by decide +kernel
theorem dX11_init_67 : decode cX11_init 67 = .ok (.putfield 44, 3) := by decide +kernel
theorem dX11_init_70 : decode cX11_init 70 = .ok (.aload_n 0, 1) := by decide +kernel
theorem dX11_init_71 : decode cX11_init 71 = .ok (.new 48, 3) := by decide +kernel
theorem dX11_init_74 : decode cX11_init 74 = .ok (.dup, 1) := by decide +kernel
theorem dX11_init_75 : decode cX11_init 75 = .ok (.invokespecial 50, 3) := by decide +kernel
theorem dX11_init_78 : decode cX11_init 78 = .ok (.putfield 51, 3) := by decide +kernel
theorem dX11_init_81 : decode cX11_init 81 = .ok (.aload_n 0, 1) := by decide +kernel
theorem dX11_init_82 : decode cX11_init 82 = .ok (.new 55, 3) := by decide +kernel
theorem dX11_init_85 : decode cX11_init 85 = .ok (.dup, 1) := by decide +kernel
theorem dX11_init_86 : decode cX11_init 86 = .ok (.invokespecial 57, 3) := by decide +kernel
theorem dX11_init_89 : decode cX11_init 89 = .ok (.putfield 58, 3) := by decide +kernel
theorem dX11_init_92 : decode cX11_init 92 = .ok (.aload_n 0, 1) := by decide +kernel
theorem dX11_init_93 : decode cX11_init 93 = .ok (.new 62, 3) := by decide +kernel
theorem dX11_init_96 : decode cX11_init 96 = .ok (.dup, 1) := by decide +kernel
theorem dX11_init_97 : decode cX11_init 97 = .ok (.invokespecial 64, 3) := by decide +kernel
theorem dX11_init_100 : decode cX11_init 100 = .ok (.putfield 65, 3) := by decide +kernel
theorem dX11_init_103 : decode cX11_init 103 = .ok (.aload_n 0, 1) := by decide +kernel
theorem dX11_init_104 : decode cX11_init 104 = .ok (.new 69, 3) := by decide +kernel
theorem dX11_init_107 : decode cX11_init 107 = .ok (.dup, 1) := by decide +kernel
theorem dX11_init_108 : decode cX11_init 108 = .ok (.invokespecial 71, 3) := by decide +kernel
theorem dX11_init_111 : decode cX11_init 111 = .ok (.putfield 72, 3) := by decide +kernel
theorem dX11_init_114 : decode cX11_init 114 = .ok (.aload_n 0, 1) := by decide +kernel
theorem dX11_init_115 : decode cX11_init 115 = .ok (.new 76, 3) := by decide +kernel
theorem dX11_init_118 : decode cX11_init 118 = .ok (.dup, 1) := by decide +kernel
theorem dX11_init_119 : decode cX11_init 119 = .ok (.invokespecial 78, 3) := by decide +kernel
theorem dX11_init_122 : decode cX11_init 122 = .ok (.putfield 79, 3) := by decide +kernel
theorem dX11_init_125 : decode cX11_init 125 = .ok (.aload_n 0, 1) := by decide +kernel
theorem dX11_init_126 : decode cX11_init 126 = .ok (.new 83, 3) := by decide +kernel
theorem dX11_init_129 : decode cX11_init 129 = .ok (.dup, 1) := by decide +kernel
theorem dX11_init_130 : decode cX11_init 130 = .ok (.invokespecial 85, 3) := by decide +kernel
theorem dX11_init_133 : decode cX11_init 133 = .ok (.putfield 86, 3) := by decide +kernel
theorem dX11_init_136 : decode cX11_init 136 = .ok (.aload_n 0, 1) := by decide +kernel
theorem dX11_init_137 : decode cX11_init 137 = .ok (.new 90, 3) := by decide +kernel
theorem dX11_init_140 : decode cX11_init 140 = .ok (.dup, 1) := by decide +kernel
theorem dX11_init_141 : decode cX11_init 141 = .ok (.invokespecial 92, 3) := by decide +kernel
theorem dX11_init_144 : decode cX11_init 144 = .ok (.putfield 93, 3) := by decide +kernel
theorem dX11_init_147 : decode cX11_init 147 = .ok (.return_, 1) := by decide +kernel
set_option maxRecDepth 100000 in
set_option maxHeartbeats 4000000 in
theorem c_X11_init {h : ai_H} {q : Nat} (hq : h.1 = q) : ai_Met MX11_init (.ref q :: []) (ap h [.inr (11, [.null, .null, .null, .int 0, .null, .int 0, .null, .null, .null, .null, .null, .null, .null, .null, .null])]) none (ap h (x0 q)) := by
  subst hq
  refine ai_met (ls := [.ref h.1]) (by decide) (by simp [ai_en, Value.category]) (by rfl) ?_
  show ai_R _ _ _ _ (ap h _) _ _
  refine rs_aload_n (pc := 0) dX11_init_0 rfl ?_
  refine rs_obj (pc := 1) dX11_init_1 mlX11_1 ob_in ob_co (by decide) (Nat.le_of_ble_eq_true rfl) ?_
  refine rs_aload_n (pc := 4) dX11_init_4 rfl ?_
  refine cw_new (n := 1) [.int 0, .null, .null, .null, .null, .null] (pc := 5) dX11_init_5 kX1 clX11_7 nX1 dfX1 rfl rfl rfl ?_
  refine rs_dup (pc := 8) dX11_init_8 rfl ?_
  refine cw_init (as := []) (b := 1) (pc := 9) dX11_init_9 mk_X1_init rfl mlX11_9 in_X1_init rfl rfl rfl (Nat.le_of_ble_eq_true rfl) rfl (c_X1_init (ap_q rfl rfl)) ?_
  refine cw_putF (k := 0) (i := 0) (pc := 12) dX11_init_12 ffX11_10 rfl rfl rfl (Nat.le_of_ble_eq_true rfl) ?_
  show ai_R _ _ _ _ (ap h (.inr (11, [.ref (h.1 + 1), .null, .null, .int 0, .null, .int 0, .null, .null, .null, .null, .null, .null, .null, .null, .null]) :: (bk0 (h.1 + 1)))) _ _
  refine rs_aload_n (pc := 15) dX11_init_15 rfl ?_
  refine rs_iconst (v := 4) (pc := 16) dX11_init_16 rfl ?_
  refine cw_newQ (N := 4) (m := 12) (k := 6) (pc := 17) dX11_init_17 clX11_7 (fun _ => rfl) (by decide) (by decide) (by decide) (by decide) rfl ?_
  refine cw_putF (k := 1) (i := 0) (pc := 20) dX11_init_20 ffX11_16 rfl rfl rfl (Nat.le_of_ble_eq_true rfl) ?_
  show ai_R _ _ _ _ (ap h (.inr (11, [.ref (h.1 + 1), .ref (h.1 + 12), .null, .int 0, .null, .int 0, .null, .null, .null, .null, .null, .null, .null, .null, .null]) :: ((bk0 (h.1 + 1)) ++ ([.inl (6, 4, .inr (.inr (.inr (.inr (fun _ => none)))))])))) _ _
  refine rs_aload_n (pc := 23) dX11_init_23 rfl ?_
  refine rs_sipush (v := 400) (pc := 24) dX11_init_24 rfl ?_
  refine cw_newI (N := 400) (m := 13) (pc := 27) dX11_init_27 (by decide) (by decide) (by decide) rfl ?_
  refine cw_putF (k := 2) (i := 0) (pc := 29) dX11_init_29 ffX11_20 rfl rfl rfl (Nat.le_of_ble_eq_true rfl) ?_
  show ai_R _ _ _ _ (ap h (.inr (11, [.ref (h.1 + 1), .ref (h.1 + 12), .ref (h.1 + 13), .int 0, .null, .int 0, .null, .null, .null, .null, .null, .null, .null, .null, .null]) :: ((bk0 (h.1 + 1)) ++ ([.inl (6, 4, .inr (.inr (.inr (.inr (fun _ => none))))), .inl (0, 400, .inl (fun _ => 0))])))) _ _
  refine rs_aload_n (pc := 32) dX11_init_32 rfl ?_
  refine rs_iconst (v := 0) (pc := 33) dX11_init_33 rfl ?_
  refine cw_putf (k := 3) (i := 0) (pc := 34) dX11_init_34 fX11_24 rfl rfl (Nat.le_of_ble_eq_true rfl) ?_
  show ai_R _ _ _ _ (ap h (.inr (11, [.ref (h.1 + 1), .ref (h.1 + 12), .ref (h.1 + 13), .int 0, .null, .int 0, .null, .null, .null, .null, .null, .null, .null, .null, .null]) :: ((bk0 (h.1 + 1)) ++ ([.inl (6, 4, .inr (.inr (.inr (.inr (fun _ => none))))), .inl (0, 400, .inl (fun _ => 0))])))) _ _
  refine rs_aload_n (pc := 37) dX11_init_37 rfl ?_
  refine rs_bipush (v := 10) (pc := 38) dX11_init_38 rfl ?_
  refine cw_newQ (N := 10) (m := 14) (k := 5) (pc := 40) dX11_init_40 clX11_28 (fun _ => rfl) (by decide) (by decide) (by decide) (by decide) rfl ?_
  refine cw_putF (k := 4) (i := 0) (pc := 43) dX11_init_43 ffX11_30 rfl rfl rfl (Nat.le_of_ble_eq_true rfl) ?_
  show ai_R _ _ _ _ (ap h (.inr (11, [.ref (h.1 + 1), .ref (h.1 + 12), .ref (h.1 + 13), .int 0, .ref (h.1 + 14), .int 0, .null, .null, .null, .null, .null, .null, .null, .null, .null]) :: ((bk0 (h.1 + 1)) ++ ([.inl (6, 4, .inr (.inr (.inr (.inr (fun _ => none))))), .inl (0, 400, .inl (fun _ => 0)), .inl (5, 10, .inr (.inr (.inr (.inr (fun _ => none)))))])))) _ _
  refine rs_aload_n (pc := 46) dX11_init_46 rfl ?_
  refine rs_iconst (v := 0) (pc := 47) dX11_init_47 rfl ?_
  refine cw_putf (k := 5) (i := 0) (pc := 48) dX11_init_48 fX11_34 rfl rfl (Nat.le_of_ble_eq_true rfl) ?_
  show ai_R _ _ _ _ (ap h (.inr (11, [.ref (h.1 + 1), .ref (h.1 + 12), .ref (h.1 + 13), .int 0, .ref (h.1 + 14), .int 0, .null, .null, .null, .null, .null, .null, .null, .null, .null]) :: ((bk0 (h.1 + 1)) ++ ([.inl (6, 4, .inr (.inr (.inr (.inr (fun _ => none))))), .inl (0, 400, .inl (fun _ => 0)), .inl (5, 10, .inr (.inr (.inr (.inr (fun _ => none)))))])))) _ _
  refine rs_aload_n (pc := 51) dX11_init_51 rfl ?_
  refine rs_bipush (v := 10) (pc := 52) dX11_init_52 rfl ?_
  refine cw_newJ (N := 10) (m := 15) (pc := 54) dX11_init_54 (by decide) (by decide) (by decide) rfl ?_
  refine cw_putF (k := 6) (i := 0) (pc := 56) dX11_init_56 ffX11_37 rfl rfl rfl (Nat.le_of_ble_eq_true rfl) ?_
  show ai_R _ _ _ _ (ap h (.inr (11, [.ref (h.1 + 1), .ref (h.1 + 12), .ref (h.1 + 13), .int 0, .ref (h.1 + 14), .int 0, .ref (h.1 + 15), .null, .null, .null, .null, .null, .null, .null, .null]) :: ((bk0 (h.1 + 1)) ++ ([.inl (6, 4, .inr (.inr (.inr (.inr (fun _ => none))))), .inl (0, 400, .inl (fun _ => 0)), .inl (5, 10, .inr (.inr (.inr (.inr (fun _ => none))))), .inl (1, 10, .inr (.inl (fun _ => 0)))])))) _ _
  refine rs_aload_n (pc := 59) dX11_init_59 rfl ?_
  refine cw_new (n := 16) [.null, .int 0, .int 0, .int 0, .int 0, .int 0, .int 0, .int 0, .int 0, .int 0, .int 0, .int 0, .int 0, .null, .int 0, .null, .int 0] (pc := 60) dX11_init_60 kX5 clX11_41 nX5 dfX5 rfl rfl rfl ?_
  refine rs_dup (pc := 63) dX11_init_63 rfl ?_
  refine cw_init (as := []) (b := 16) (pc := 64) dX11_init_64 mk_X5_init rfl mlX11_43 in_X5_init rfl rfl rfl (Nat.le_of_ble_eq_true rfl) rfl (c_X5_init (ap_q rfl rfl)) ?_
  refine cw_putF (k := 7) (i := 0) (pc := 67) dX11_init_67 ffX11_44 rfl rfl rfl (Nat.le_of_ble_eq_true rfl) ?_
  show ai_R _ _ _ _ (ap h (.inr (11, [.ref (h.1 + 1), .ref (h.1 + 12), .ref (h.1 + 13), .int 0, .ref (h.1 + 14), .int 0, .ref (h.1 + 15), .ref (h.1 + 16), .null, .null, .null, .null, .null, .null, .null]) :: ((bk0 (h.1 + 1)) ++ (([.inl (6, 4, .inr (.inr (.inr (.inr (fun _ => none))))), .inl (0, 400, .inl (fun _ => 0)), .inl (5, 10, .inr (.inr (.inr (.inr (fun _ => none))))), .inl (1, 10, .inr (.inl (fun _ => 0)))]) ++ (re0 (h.1 + 16)))))) _ _
  refine rs_aload_n (pc := 70) dX11_init_70 rfl ?_
  refine cw_new (n := 20) [.null, .int 0] (pc := 71) dX11_init_71 kX7 clX11_48 nX7 dfX7 rfl rfl rfl ?_
  refine rs_dup (pc := 74) dX11_init_74 rfl ?_
  refine cw_init (as := []) (b := 20) (pc := 75) dX11_init_75 mk_X7_init rfl mlX11_50 in_X7_init rfl rfl rfl (Nat.le_of_ble_eq_true rfl) rfl (c_X7_init (ap_q rfl rfl)) ?_
  refine cw_putF (k := 8) (i := 0) (pc := 78) dX11_init_78 ffX11_51 rfl rfl rfl (Nat.le_of_ble_eq_true rfl) ?_
  show ai_R _ _ _ _ (ap h (.inr (11, [.ref (h.1 + 1), .ref (h.1 + 12), .ref (h.1 + 13), .int 0, .ref (h.1 + 14), .int 0, .ref (h.1 + 15), .ref (h.1 + 16), .ref (h.1 + 20), .null, .null, .null, .null, .null, .null]) :: ((bk0 (h.1 + 1)) ++ (([.inl (6, 4, .inr (.inr (.inr (.inr (fun _ => none))))), .inl (0, 400, .inl (fun _ => 0)), .inl (5, 10, .inr (.inr (.inr (.inr (fun _ => none))))), .inl (1, 10, .inr (.inl (fun _ => 0)))]) ++ ((re0 (h.1 + 16)) ++ (sc0 (h.1 + 20))))))) _ _
  refine rs_aload_n (pc := 81) dX11_init_81 rfl ?_
  refine cw_new (n := 22) [.int 0, .null, .null, .null, .null, .null, .null, .null, .null, .null, .null, .null, .null] (pc := 82) dX11_init_82 kX2 clX11_55 nX2 dfX2 rfl rfl rfl ?_
  refine rs_dup (pc := 85) dX11_init_85 rfl ?_
  refine cw_init (as := []) (b := 22) (pc := 86) dX11_init_86 mk_X2_init rfl mlX11_57 in_X2_init rfl rfl rfl (Nat.le_of_ble_eq_true rfl) rfl (c_X2_init (ap_q rfl rfl)) ?_
  refine cw_putF (k := 9) (i := 0) (pc := 89) dX11_init_89 ffX11_58 rfl rfl rfl (Nat.le_of_ble_eq_true rfl) ?_
  show ai_R _ _ _ _ (ap h (.inr (11, [.ref (h.1 + 1), .ref (h.1 + 12), .ref (h.1 + 13), .int 0, .ref (h.1 + 14), .int 0, .ref (h.1 + 15), .ref (h.1 + 16), .ref (h.1 + 20), .ref (h.1 + 22), .null, .null, .null, .null, .null]) :: ((bk0 (h.1 + 1)) ++ (([.inl (6, 4, .inr (.inr (.inr (.inr (fun _ => none))))), .inl (0, 400, .inl (fun _ => 0)), .inl (5, 10, .inr (.inr (.inr (.inr (fun _ => none))))), .inl (1, 10, .inr (.inl (fun _ => 0)))]) ++ ((re0 (h.1 + 16)) ++ ((sc0 (h.1 + 20)) ++ (cl0 (h.1 + 22)))))))) _ _
  refine rs_aload_n (pc := 92) dX11_init_92 rfl ?_
  refine cw_new (n := 35) [.null, .null] (pc := 93) dX11_init_93 kX4 clX11_62 nX4 dfX4 rfl rfl rfl ?_
  refine rs_dup (pc := 96) dX11_init_96 rfl ?_
  refine cw_init (as := []) (b := 35) (pc := 97) dX11_init_97 mk_X4_init rfl mlX11_64 in_X4_init rfl rfl rfl (Nat.le_of_ble_eq_true rfl) rfl (c_X4_init (ap_q rfl rfl)) ?_
  refine cw_putF (k := 10) (i := 0) (pc := 100) dX11_init_100 ffX11_65 rfl rfl rfl (Nat.le_of_ble_eq_true rfl) ?_
  show ai_R _ _ _ _ (ap h (.inr (11, [.ref (h.1 + 1), .ref (h.1 + 12), .ref (h.1 + 13), .int 0, .ref (h.1 + 14), .int 0, .ref (h.1 + 15), .ref (h.1 + 16), .ref (h.1 + 20), .ref (h.1 + 22), .ref (h.1 + 35), .null, .null, .null, .null]) :: ((bk0 (h.1 + 1)) ++ (([.inl (6, 4, .inr (.inr (.inr (.inr (fun _ => none))))), .inl (0, 400, .inl (fun _ => 0)), .inl (5, 10, .inr (.inr (.inr (.inr (fun _ => none))))), .inl (1, 10, .inr (.inl (fun _ => 0)))]) ++ ((re0 (h.1 + 16)) ++ ((sc0 (h.1 + 20)) ++ ((cl0 (h.1 + 22)) ++ (mt0 (h.1 + 35) 256)))))))) _ _
  refine rs_aload_n (pc := 103) dX11_init_103 rfl ?_
  refine cw_new (n := 294) [.null, .null, .null] (pc := 104) dX11_init_104 kX6 clX11_69 nX6 dfX6 rfl rfl rfl ?_
  refine rs_dup (pc := 107) dX11_init_107 rfl ?_
  refine cw_init (as := []) (b := 294) (pc := 108) dX11_init_108 mk_X6_init rfl mlX11_71 in_X6_init rfl rfl rfl (Nat.le_of_ble_eq_true rfl) rfl (c_X6_init (ap_q rfl rfl)) ?_
  refine cw_putF (k := 11) (i := 0) (pc := 111) dX11_init_111 ffX11_72 rfl rfl rfl (Nat.le_of_ble_eq_true rfl) ?_
  show ai_R _ _ _ _ (ap h (.inr (11, [.ref (h.1 + 1), .ref (h.1 + 12), .ref (h.1 + 13), .int 0, .ref (h.1 + 14), .int 0, .ref (h.1 + 15), .ref (h.1 + 16), .ref (h.1 + 20), .ref (h.1 + 22), .ref (h.1 + 35), .ref (h.1 + 294), .null, .null, .null]) :: ((bk0 (h.1 + 1)) ++ (([.inl (6, 4, .inr (.inr (.inr (.inr (fun _ => none))))), .inl (0, 400, .inl (fun _ => 0)), .inl (5, 10, .inr (.inr (.inr (.inr (fun _ => none))))), .inl (1, 10, .inr (.inl (fun _ => 0)))]) ++ ((re0 (h.1 + 16)) ++ ((sc0 (h.1 + 20)) ++ ((cl0 (h.1 + 22)) ++ ((mt0 (h.1 + 35) 256) ++ (rp0 (h.1 + 294)))))))))) _ _
  refine rs_aload_n (pc := 114) dX11_init_114 rfl ?_
  refine cw_new (n := 298) [.int 0, .null, .null] (pc := 115) dX11_init_115 kX0 clX11_76 nX0 dfX0 rfl rfl rfl ?_
  refine rs_dup (pc := 118) dX11_init_118 rfl ?_
  refine cw_init (as := []) (b := 298) (pc := 119) dX11_init_119 mk_X0_init rfl mlX11_78 in_X0_init rfl rfl rfl (Nat.le_of_ble_eq_true rfl) rfl (c_X0_init (ap_q rfl rfl)) ?_
  refine cw_putF (k := 12) (i := 0) (pc := 122) dX11_init_122 ffX11_79 rfl rfl rfl (Nat.le_of_ble_eq_true rfl) ?_
  show ai_R _ _ _ _ (ap h (.inr (11, [.ref (h.1 + 1), .ref (h.1 + 12), .ref (h.1 + 13), .int 0, .ref (h.1 + 14), .int 0, .ref (h.1 + 15), .ref (h.1 + 16), .ref (h.1 + 20), .ref (h.1 + 22), .ref (h.1 + 35), .ref (h.1 + 294), .ref (h.1 + 298), .null, .null]) :: ((bk0 (h.1 + 1)) ++ (([.inl (6, 4, .inr (.inr (.inr (.inr (fun _ => none))))), .inl (0, 400, .inl (fun _ => 0)), .inl (5, 10, .inr (.inr (.inr (.inr (fun _ => none))))), .inl (1, 10, .inr (.inl (fun _ => 0)))]) ++ ((re0 (h.1 + 16)) ++ ((sc0 (h.1 + 20)) ++ ((cl0 (h.1 + 22)) ++ ((mt0 (h.1 + 35) 256) ++ ((rp0 (h.1 + 294)) ++ (bo0 (h.1 + 298))))))))))) _ _
  refine rs_aload_n (pc := 125) dX11_init_125 rfl ?_
  refine cw_new (n := 301) [.null, .int 0, .int 0, .int 0, .long 0, .null, .null, .null, .null] (pc := 126) dX11_init_126 kX10 clX11_83 nX10 dfX10 rfl rfl rfl ?_
  refine rs_dup (pc := 129) dX11_init_129 rfl ?_
  refine cw_init (as := []) (b := 301) (pc := 130) dX11_init_130 mk_X10_init rfl mlX11_85 in_X10_init rfl rfl rfl (Nat.le_of_ble_eq_true rfl) rfl (c_X10_init (ap_q rfl rfl)) ?_
  refine cw_putF (k := 13) (i := 0) (pc := 133) dX11_init_133 ffX11_86 rfl rfl rfl (Nat.le_of_ble_eq_true rfl) ?_
  show ai_R _ _ _ _ (ap h (.inr (11, [.ref (h.1 + 1), .ref (h.1 + 12), .ref (h.1 + 13), .int 0, .ref (h.1 + 14), .int 0, .ref (h.1 + 15), .ref (h.1 + 16), .ref (h.1 + 20), .ref (h.1 + 22), .ref (h.1 + 35), .ref (h.1 + 294), .ref (h.1 + 298), .ref (h.1 + 301), .null]) :: ((bk0 (h.1 + 1)) ++ (([.inl (6, 4, .inr (.inr (.inr (.inr (fun _ => none))))), .inl (0, 400, .inl (fun _ => 0)), .inl (5, 10, .inr (.inr (.inr (.inr (fun _ => none))))), .inl (1, 10, .inr (.inl (fun _ => 0)))]) ++ ((re0 (h.1 + 16)) ++ ((sc0 (h.1 + 20)) ++ ((cl0 (h.1 + 22)) ++ ((mt0 (h.1 + 35) 256) ++ ((rp0 (h.1 + 294)) ++ ((bo0 (h.1 + 298)) ++ (wo0 (h.1 + 301)))))))))))) _ _
  refine rs_aload_n (pc := 136) dX11_init_136 rfl ?_
  refine cw_new (n := 306) [.int 0, .long 0, .long 0, .long 0] (pc := 137) dX11_init_137 kX9 clX11_90 nX9 dfX9 rfl rfl rfl ?_
  refine rs_dup (pc := 140) dX11_init_140 rfl ?_
  refine cw_init (as := []) (b := 306) (pc := 141) dX11_init_141 mk_X9_init rfl mlX11_92 in_X9_init rfl rfl rfl (Nat.le_of_ble_eq_true rfl) rfl (c_X9_init (ap_q rfl rfl)) ?_
  refine cw_putF (k := 14) (i := 0) (pc := 144) dX11_init_144 ffX11_93 rfl rfl rfl (Nat.le_of_ble_eq_true rfl) ?_
  show ai_R _ _ _ _ (ap h (.inr (11, [.ref (h.1 + 1), .ref (h.1 + 12), .ref (h.1 + 13), .int 0, .ref (h.1 + 14), .int 0, .ref (h.1 + 15), .ref (h.1 + 16), .ref (h.1 + 20), .ref (h.1 + 22), .ref (h.1 + 35), .ref (h.1 + 294), .ref (h.1 + 298), .ref (h.1 + 301), .ref (h.1 + 306)]) :: ((bk0 (h.1 + 1)) ++ (([.inl (6, 4, .inr (.inr (.inr (.inr (fun _ => none))))), .inl (0, 400, .inl (fun _ => 0)), .inl (5, 10, .inr (.inr (.inr (.inr (fun _ => none))))), .inl (1, 10, .inr (.inl (fun _ => 0)))]) ++ ((re0 (h.1 + 16)) ++ ((sc0 (h.1 + 20)) ++ ((cl0 (h.1 + 22)) ++ ((mt0 (h.1 + 35) 256) ++ ((rp0 (h.1 + 294)) ++ ((bo0 (h.1 + 298)) ++ ((wo0 (h.1 + 301)) ++ (ty0)))))))))))) _ _
  exact wk_vret (pc := 147) dX11_init_147 rfl rfl rfl
