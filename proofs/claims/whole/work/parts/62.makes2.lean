/-! 62: constructors of Meetings, EachLater and the model -/
theorem dX4_init_0 : decode cX4_init 0 = .ok (.aload_n 0, 1) := by decide +kernel
theorem dX4_init_1 : decode cX4_init 1 = .ok (.invokespecial 3, 3) := by decide +kernel
theorem dX4_init_4 : decode cX4_init 4 = .ok (.aload_n 0, 1) := by decide +kernel
theorem dX4_init_5 : decode cX4_init 5 = .ok (.sipush 256, 3) := by decide +kernel
theorem dX4_init_8 : decode cX4_init 8 = .ok (.anewarray 9, 3) := by decide +kernel
theorem dX4_init_11 : decode cX4_init 11 = .ok (.putfield 11, 3) := by decide +kernel
theorem dX4_init_14 : decode cX4_init 14 = .ok (.aload_n 0, 1) := by decide +kernel
theorem dX4_init_15 : decode cX4_init 15 = .ok (.new 9, 3) := by decide +kernel
theorem dX4_init_18 : decode cX4_init 18 = .ok (.dup, 1) := by decide +kernel
theorem dX4_init_19 : decode cX4_init 19 = .ok (.invokespecial 17, 3) := by decide +kernel
theorem dX4_init_22 : decode cX4_init 22 = .ok (.putfield 18, 3) := by decide +kernel
theorem dX4_init_25 : decode cX4_init 25 = .ok (.iconst 0, 1) := by decide +kernel
theorem dX4_init_26 : decode cX4_init 26 = .ok (.istore_n 1, 1) := by decide +kernel
theorem dX4_init_27 : decode cX4_init 27 = .ok (.iload_n 1, 1) := by decide +kernel
theorem dX4_init_28 : decode cX4_init 28 = .ok (.aload_n 0, 1) := by decide +kernel
theorem dX4_init_29 : decode cX4_init 29 = .ok (.getfield 11, 3) := by decide +kernel
theorem dX4_init_32 : decode cX4_init 32 = .ok (.arraylength, 1) := by decide +kernel
theorem dX4_init_33 : decode cX4_init 33 = .ok (.if_icmp .ge 22, 3) := by decide +kernel
theorem dX4_init_36 : decode cX4_init 36 = .ok (.aload_n 0, 1) := by decide +kernel
theorem dX4_init_37 : decode cX4_init 37 = .ok (.getfield 11, 3) := by decide +kernel
theorem dX4_init_40 : decode cX4_init 40 = .ok (.iload_n 1, 1) := by decide +kernel
theorem dX4_init_41 : decode cX4_init 41 = .ok (.new 9, 3) := by decide +kernel
theorem dX4_init_44 : decode cX4_init 44 = .ok (.dup, 1) := by decide +kernel
theorem dX4_init_45 : decode cX4_init 45 = .ok (.invokespecial 17, 3) := by decide +kernel
theorem dX4_init_48 : decode cX4_init 48 = .ok (.aastore, 1) := by decide +kernel
theorem dX4_init_49 : decode cX4_init 49 = .ok (.iinc 1 1, 3) := by decide +kernel
theorem dX4_init_52 : decode cX4_init 52 = .ok (.goto (-25), 3) := by decide +kernel
theorem dX4_init_55 : decode cX4_init 55 = .ok (.return_, 1) := by decide +kernel
def trw (q n : Nat) : Nat → Option Nat := fun i => if i < n then some (q + 3 + i) else none
def mt0 (q n : Nat) : List va_E := [.inr (4, [.ref (q + 1), .ref (q + 2)]), .inl (4, 256, .inr (.inr (.inr (.inr (trw q n))))), .inr (9, [.int 0, .long 0, .long 0, .long 0])] ++ List.replicate n (.inr (9, [.int 0, .long 0, .long 0, .long 0]))
theorem trw_1 (q n : Nat) : va_up (trw q n) n (some (q + (3 + n))) = trw q (n + 1) := by
  funext i
  by_cases h : i = n
  · subst h
    simp [va_up, trw, Nat.add_assoc]
  · simp only [va_up, if_neg h, trw]
    by_cases h2 : i < n
    · rw [if_pos h2, if_pos (by omega)]
    · rw [if_neg h2, if_neg (by omega)]
theorem mt0_1 (q n : Nat) : (mt0 q n ++ ty0).set 1 (.inl (4, 256, .inr (.inr (.inr (.inr (va_up (trw q n) n (some (q + (3 + n))))))))) = mt0 q (n + 1) := by
  rw [trw_1]
  unfold mt0 ty0
  rw [List.replicate_succ']
  simp
theorem mt0_len (q n : Nat) : (mt0 q n).length = 3 + n := by simp [mt0]; omega
set_option maxRecDepth 100000 in
set_option maxHeartbeats 4000000 in
theorem l_X4_init {h : ai_H} : ∀ (j i : Nat), i + j = 256 → ai_R MX4_init 27 [.ref h.1, .int (nI i)] [] (ap h (mt0 h.1 i)) none (ap h (mt0 h.1 256)) := by
  intro j
  induction j with
  | zero =>
    intro i hi
    have e : i = 256 := by omega
    subst e
    refine rs_iload_n (pc := 27) dX4_init_27 rfl ?_
    refine rs_aload_n (pc := 28) dX4_init_28 rfl ?_
    refine rs_getf (pc := 29) dX4_init_29 fX4_11 (ap_lt (i := 0) rfl) (ap_get (i := 0) rfl) rfl ?_
    refine rs_alen (pc := 32) dX4_init_32 (fun _ => rfl) (ap_lt (i := 1) rfl) (ap_get (i := 1) rfl) rfl ?_
    refine rs_icmp_ge (tgt := 55) (pc := 33) dX4_init_33 rfl (fun c_33 => ?_) (fun c_33 => absurd c_33 (by decide))
    exact wk_vret (pc := 55) dX4_init_55 rfl rfl rfl
  | succ j ih =>
    intro i hi
    have hlt : i < 256 := by omega
    refine rs_iload_n (pc := 27) dX4_init_27 rfl ?_
    refine rs_aload_n (pc := 28) dX4_init_28 rfl ?_
    refine rs_getf (pc := 29) dX4_init_29 fX4_11 (ap_lt (i := 0) rfl) (ap_get (i := 0) rfl) rfl ?_
    refine rs_alen (pc := 32) dX4_init_32 (fun _ => rfl) (ap_lt (i := 1) rfl) (ap_get (i := 1) rfl) rfl ?_
    refine rs_icmp_ge (tgt := 55) (pc := 33) dX4_init_33 rfl (fun c_33 => absurd (lp_exit (sz := 256) rfl (by decide) (by omega) c_33) (by omega)) (fun c_33 => ?_)
    refine rs_aload_n (pc := 36) dX4_init_36 rfl ?_
    refine rs_getf (pc := 37) dX4_init_37 fX4_11 (ap_lt (i := 0) rfl) (ap_get (i := 0) rfl) rfl ?_
    refine rs_iload_n (pc := 40) dX4_init_40 rfl ?_
    refine cw_new (n := 3 + i) [.int 0, .long 0, .long 0, .long 0] (pc := 41) dX4_init_41 kX9 clX4_9 nX9 dfX9 rfl rfl (mt0_len _ _) ?_
    refine rs_dup (pc := 44) dX4_init_44 rfl ?_
    refine cw_init (as := []) (b := 3 + i) (pc := 45) dX4_init_45 mk_X9_init rfl mlX4_17 in_X9_init rfl rfl rfl (Nat.le_of_ble_eq_true rfl) (mt0_len _ _) (c_X9_init (ap_q rfl (mt0_len _ _))) ?_
    have g0 : (mt0 h.1 i ++ ty0)[1]? = some (.inl (4, 256, .inr (.inr (.inr (.inr (trw h.1 i)))))) := rfl
    have g1 : (mt0 h.1 i ++ ty0)[3 + i]? = some (.inr (9, [.int 0, .long 0, .long 0, .long 0])) := by
      rw [List.getElem?_append_right (by rw [mt0_len]; exact Nat.le_refl _), mt0_len, Nat.sub_self]
      rfl
    refine rs_aast (pc := 48) (k := 4) dX4_init_48 (fun _ => rfl) rfl (ap_lt g0) (ap_get g0) (ap_lt g1) (ap_get g1) (vp_in_nI (n := i) (N := 256) (by omega) (by decide)) ?_
    rw [ap_set g0 rfl, nI_clamp (show i < 2 ^ 31 by omega), mt0_1]
    refine wk_iinc1 (v := nI (i + 1)) (pc := 49) dX4_init_49 (by decide) rfl (nI_1 i) ?_
    refine rs_goto (tgt := 27) (pc := 52) dX4_init_52 rfl ?_
    exact ih (i + 1) (by omega)
set_option maxRecDepth 100000 in
set_option maxHeartbeats 4000000 in
theorem c_X4_init {h : ai_H} {q : Nat} (hq : h.1 = q) : ai_Met MX4_init (.ref q :: []) (ap h [.inr (4, [.null, .null])]) none (ap h (mt0 q 256)) := by
  subst hq
  refine ai_met (ls := _) (by decide) (by simp [ai_en, Value.category]) rfl ?_
  show ai_R _ _ _ _ (ap h _) _ _
  refine rs_aload_n (pc := 0) dX4_init_0 rfl ?_
  refine rs_obj (pc := 1) dX4_init_1 mlX4_3 ob_in ob_co (by decide) (Nat.le_of_ble_eq_true rfl) ?_
  refine rs_aload_n (pc := 4) dX4_init_4 rfl ?_
  refine rs_sipush (v := 256) (pc := 5) dX4_init_5 rfl ?_
  refine cw_newQ (N := 256) (m := 1) (k := 4) (pc := 8) dX4_init_8 clX4_9 (fun _ => rfl) (by decide) (by decide) (by decide) (by decide) rfl ?_
  refine cw_putF (k := 0) (i := 0) (pc := 11) dX4_init_11 ffX4_11 rfl rfl rfl (Nat.le_of_ble_eq_true rfl) ?_
  refine rs_aload_n (pc := 14) dX4_init_14 rfl ?_
  refine cw_new (n := 2) [.int 0, .long 0, .long 0, .long 0] (pc := 15) dX4_init_15 kX9 clX4_9 nX9 dfX9 rfl rfl rfl ?_
  refine rs_dup (pc := 18) dX4_init_18 rfl ?_
  refine cw_init (as := []) (b := 2) (pc := 19) dX4_init_19 mk_X9_init rfl mlX4_17 in_X9_init rfl rfl rfl (Nat.le_of_ble_eq_true rfl) rfl (c_X9_init (ap_q rfl rfl)) ?_
  refine cw_putF (k := 1) (i := 0) (pc := 22) dX4_init_22 ffX4_18 rfl rfl rfl (Nat.le_of_ble_eq_true rfl) ?_
  refine rs_iconst (v := 0) (pc := 25) dX4_init_25 rfl ?_
  refine wk_istn1 (pc := 26) dX4_init_26 (by decide) rfl ?_
  have e : ∀ g : List va_E, g = mt0 h.1 0 → ai_R MX4_init 27 [.ref h.1, .int (nI 0)] [] (ap h g) none (ap h (mt0 h.1 256)) := fun g hg => by
    rw [hg]
    exact l_X4_init 256 0 rfl
  refine e _ ?_
  unfold mt0 ty0
  have : trw h.1 0 = fun _ => none := by funext i; simp [trw]
  rw [this]
  rfl
def x0 (q : Nat) : List va_E := .inr (11, [.ref (q + 1), .ref (q + 12), .ref (q + 13), .int 0, .ref (q + 14), .int 0, .ref (q + 15), .ref (q + 16), .ref (q + 20), .ref (q + 22), .ref (q + 33), .ref (q + 292), .ref (q + 296), .ref (q + 299), .ref (q + 304)]) :: (bk0 (q + 1) ++ ([.inl (6, 4, .inr (.inr (.inr (.inr (fun _ => none))))), .inl (0, 400, .inl (fun _ => 0)), .inl (5, 10, .inr (.inr (.inr (.inr (fun _ => none))))), .inl (1, 10, .inr (.inl (fun _ => 0)))] ++ (re0 (q + 16) ++ (sc0 (q + 20) ++ (cl0 (q + 22) ++ (mt0 (q + 33) 256 ++ (rp0 (q + 292) ++ (bo0 (q + 296) ++ (wo0 (q + 299) ++ ty0)))))))))
theorem dX11_init_0 : decode cX11_init 0 = .ok (.aload_n 0, 1) := by decide +kernel
theorem dX11_init_1 : decode cX11_init 1 = .ok (.invokespecial 1, 3) := by decide +kernel
theorem dX11_init_4 : decode cX11_init 4 = .ok (.aload_n 0, 1) := by decide +kernel
theorem dX11_init_5 : decode cX11_init 5 = .ok (.new 7, 3) := by decide +kernel
theorem dX11_init_8 : decode cX11_init 8 = .ok (.dup, 1) := by decide +kernel
theorem dX11_init_9 : decode cX11_init 9 = .ok (.invokespecial 9, 3) := by decide +kernel
theorem dX11_init_12 : decode cX11_init 12 = .ok (.putfield 10, 3) := by decide +kernel
theorem dX11_init_15 : decode cX11_init 15 = .ok (.aload_n 0, 1) := by decide +kernel
theorem dX11_init_16 : decode cX11_init 16 = .ok (.iconst 4, 1) := by decide +kernel
theorem dX11_init_17 : decode cX11_init 17 = .ok (.anewarray 7, 3) := by decide +kernel
theorem dX11_init_20 : decode cX11_init 20 = .ok (.putfield 16, 3) := by decide +kernel
theorem dX11_init_23 : decode cX11_init 23 = .ok (.aload_n 0, 1) := by decide +kernel
theorem dX11_init_24 : decode cX11_init 24 = .ok (.sipush 400, 3) := by decide +kernel
theorem dX11_init_27 : decode cX11_init 27 = .ok (.newarray .int, 2) := by decide +kernel
theorem dX11_init_29 : decode cX11_init 29 = .ok (.putfield 20, 3) := by decide +kernel
theorem dX11_init_32 : decode cX11_init 32 = .ok (.aload_n 0, 1) := by decide +kernel
theorem dX11_init_33 : decode cX11_init 33 = .ok (.iconst 0, 1) := by decide +kernel
theorem dX11_init_34 : decode cX11_init 34 = .ok (.putfield 24, 3) := by decide +kernel
theorem dX11_init_37 : decode cX11_init 37 = .ok (.aload_n 0, 1) := by decide +kernel
theorem dX11_init_38 : decode cX11_init 38 = .ok (.bipush 10, 2) := by decide +kernel
theorem dX11_init_40 : decode cX11_init 40 = .ok (.anewarray 28, 3) := by decide +kernel
theorem dX11_init_43 : decode cX11_init 43 = .ok (.putfield 30, 3) := by decide +kernel
theorem dX11_init_46 : decode cX11_init 46 = .ok (.aload_n 0, 1) := by decide +kernel
theorem dX11_init_47 : decode cX11_init 47 = .ok (.iconst 0, 1) := by decide +kernel
theorem dX11_init_48 : decode cX11_init 48 = .ok (.putfield 34, 3) := by decide +kernel
theorem dX11_init_51 : decode cX11_init 51 = .ok (.aload_n 0, 1) := by decide +kernel
theorem dX11_init_52 : decode cX11_init 52 = .ok (.bipush 10, 2) := by decide +kernel
theorem dX11_init_54 : decode cX11_init 54 = .ok (.newarray .long, 2) := by decide +kernel
theorem dX11_init_56 : decode cX11_init 56 = .ok (.putfield 37, 3) := by decide +kernel
theorem dX11_init_59 : decode cX11_init 59 = .ok (.aload_n 0, 1) := by decide +kernel
theorem dX11_init_60 : decode cX11_init 60 = .ok (.new 41, 3) := by decide +kernel
theorem dX11_init_63 : decode cX11_init 63 = .ok (.dup, 1) := by decide +kernel
theorem dX11_init_64 : decode cX11_init 64 = .ok (.invokespecial 43, 3) := by decide +kernel
theorem dX11_init_67 : decode cX11_init 67 = .ok (.putfield 44, 3) := by decide +kernel
theorem dX11_init_70 : decode cX11_init 70 = .ok (.aload_n 0, 1) := by decide +kernel
theorem dX11_init_71 : decode cX11_init 71 = .ok (.new 48, 3) := by decide +kernel
theorem dX11_init_74 : decode cX11_init 74 = .ok (.dup, 1) := by decide +kernel
theorem dX11_init_75 : decode cX11_init 75 = .ok (.invokespecial 50, 3) := by decide +kernel
theorem dX11_init_78 : decode cX11_init 78 = .ok (.putfield 51, 3) := by decide +kernel
theorem dX11_init_81 : decode cX11_init 81 = .ok (.aload_n 0, 1) := by decide +kernel
theorem dX11_init_82 : decode cX11_init 82 = .ok (.new 55, 3) := by decide +kernel
theorem dX11_init_85 : decode cX11_init 85 = .ok (.dup, 1) := by decide +kernel
theorem dX11_init_86 : decode cX11_init 86 = .ok (.invokespecial 57, 3) := by decide +kernel
theorem dX11_init_89 : decode cX11_init 89 = .ok (.putfield 58, 3) := by decide +kernel
theorem dX11_init_92 : decode cX11_init 92 = .ok (.aload_n 0, 1) := by decide +kernel
theorem dX11_init_93 : decode cX11_init 93 = .ok (.new 62, 3) := by decide +kernel
theorem dX11_init_96 : decode cX11_init 96 = .ok (.dup, 1) := by decide +kernel
theorem dX11_init_97 : decode cX11_init 97 = .ok (.invokespecial 64, 3) := by decide +kernel
theorem dX11_init_100 : decode cX11_init 100 = .ok (.putfield 65, 3) := by decide +kernel
theorem dX11_init_103 : decode cX11_init 103 = .ok (.aload_n 0, 1) := by decide +kernel
theorem dX11_init_104 : decode cX11_init 104 = .ok (.new 69, 3) := by decide +kernel
theorem dX11_init_107 : decode cX11_init 107 = .ok (.dup, 1) := by decide +kernel
theorem dX11_init_108 : decode cX11_init 108 = .ok (.invokespecial 71, 3) := by decide +kernel
theorem dX11_init_111 : decode cX11_init 111 = .ok (.putfield 72, 3) := by decide +kernel
theorem dX11_init_114 : decode cX11_init 114 = .ok (.aload_n 0, 1) := by decide +kernel
theorem dX11_init_115 : decode cX11_init 115 = .ok (.new 76, 3) := by decide +kernel
theorem dX11_init_118 : decode cX11_init 118 = .ok (.dup, 1) := by decide +kernel
theorem dX11_init_119 : decode cX11_init 119 = .ok (.invokespecial 78, 3) := by decide +kernel
theorem dX11_init_122 : decode cX11_init 122 = .ok (.putfield 79, 3) := by decide +kernel
theorem dX11_init_125 : decode cX11_init 125 = .ok (.aload_n 0, 1) := by decide +kernel
theorem dX11_init_126 : decode cX11_init 126 = .ok (.new 83, 3) := by decide +kernel
theorem dX11_init_129 : decode cX11_init 129 = .ok (.dup, 1) := by decide +kernel
theorem dX11_init_130 : decode cX11_init 130 = .ok (.invokespecial 85, 3) := by decide +kernel
theorem dX11_init_133 : decode cX11_init 133 = .ok (.putfield 86, 3) := by decide +kernel
theorem dX11_init_136 : decode cX11_init 136 = .ok (.aload_n 0, 1) := by decide +kernel
theorem dX11_init_137 : decode cX11_init 137 = .ok (.new 90, 3) := by decide +kernel
theorem dX11_init_140 : decode cX11_init 140 = .ok (.dup, 1) := by decide +kernel
theorem dX11_init_141 : decode cX11_init 141 = .ok (.invokespecial 92, 3) := by decide +kernel
theorem dX11_init_144 : decode cX11_init 144 = .ok (.putfield 93, 3) := by decide +kernel
theorem dX11_init_147 : decode cX11_init 147 = .ok (.return_, 1) := by decide +kernel
set_option maxRecDepth 100000 in
set_option maxHeartbeats 4000000 in
theorem c_X11_init {h : ai_H} {q : Nat} (hq : h.1 = q) : ai_Met MX11_init (.ref q :: []) (ap h [.inr (11, [.null, .null, .null, .int 0, .null, .int 0, .null, .null, .null, .null, .null, .null, .null, .null, .null])]) none (ap h (x0 q)) := by
  subst hq
  refine ai_met (ls := _) (by decide) (by simp [ai_en, Value.category]) rfl ?_
  show ai_R _ _ _ _ (ap h _) _ _
  refine rs_aload_n (pc := 0) dX11_init_0 rfl ?_
  refine rs_obj (pc := 1) dX11_init_1 mlX11_1 ob_in ob_co (by decide) (Nat.le_of_ble_eq_true rfl) ?_
  refine rs_aload_n (pc := 4) dX11_init_4 rfl ?_
  refine cw_new (n := 1) [.int 0, .null, .null, .null, .null, .null] (pc := 5) dX11_init_5 kX1 clX11_7 nX1 dfX1 rfl rfl rfl ?_
  refine rs_dup (pc := 8) dX11_init_8 rfl ?_
  refine cw_init (as := []) (b := 1) (pc := 9) dX11_init_9 mk_X1_init rfl mlX11_9 in_X1_init rfl rfl rfl (Nat.le_of_ble_eq_true rfl) rfl (c_X1_init (ap_q rfl rfl)) ?_
  refine cw_putF (k := 0) (i := 0) (pc := 12) dX11_init_12 ffX11_10 rfl rfl rfl (Nat.le_of_ble_eq_true rfl) ?_
  refine rs_aload_n (pc := 15) dX11_init_15 rfl ?_
  refine rs_iconst (v := 4) (pc := 16) dX11_init_16 rfl ?_
  refine cw_newQ (N := 4) (m := 12) (k := 6) (pc := 17) dX11_init_17 clX11_7 (fun _ => rfl) (by decide) (by decide) (by decide) (by decide) rfl ?_
  refine cw_putF (k := 1) (i := 0) (pc := 20) dX11_init_20 ffX11_16 rfl rfl rfl (Nat.le_of_ble_eq_true rfl) ?_
  refine rs_aload_n (pc := 23) dX11_init_23 rfl ?_
  refine rs_sipush (v := 400) (pc := 24) dX11_init_24 rfl ?_
  refine cw_newI (N := 400) (m := 13) (pc := 27) dX11_init_27 (by decide) (by decide) (by decide) rfl ?_
  refine cw_putF (k := 2) (i := 0) (pc := 29) dX11_init_29 ffX11_20 rfl rfl rfl (Nat.le_of_ble_eq_true rfl) ?_
  refine rs_aload_n (pc := 32) dX11_init_32 rfl ?_
  refine rs_iconst (v := 0) (pc := 33) dX11_init_33 rfl ?_
  refine cw_putf (k := 3) (i := 0) (pc := 34) dX11_init_34 fX11_24 rfl rfl (Nat.le_of_ble_eq_true rfl) ?_
  refine rs_aload_n (pc := 37) dX11_init_37 rfl ?_
  refine rs_bipush (v := 10) (pc := 38) dX11_init_38 rfl ?_
  refine cw_newQ (N := 10) (m := 14) (k := 5) (pc := 40) dX11_init_40 clX11_28 (fun _ => rfl) (by decide) (by decide) (by decide) (by decide) rfl ?_
  refine cw_putF (k := 4) (i := 0) (pc := 43) dX11_init_43 ffX11_30 rfl rfl rfl (Nat.le_of_ble_eq_true rfl) ?_
  refine rs_aload_n (pc := 46) dX11_init_46 rfl ?_
  refine rs_iconst (v := 0) (pc := 47) dX11_init_47 rfl ?_
  refine cw_putf (k := 5) (i := 0) (pc := 48) dX11_init_48 fX11_34 rfl rfl (Nat.le_of_ble_eq_true rfl) ?_
  refine rs_aload_n (pc := 51) dX11_init_51 rfl ?_
  refine rs_bipush (v := 10) (pc := 52) dX11_init_52 rfl ?_
  refine cw_newJ (N := 10) (m := 15) (pc := 54) dX11_init_54 (by decide) (by decide) (by decide) rfl ?_
  refine cw_putF (k := 6) (i := 0) (pc := 56) dX11_init_56 ffX11_37 rfl rfl rfl (Nat.le_of_ble_eq_true rfl) ?_
  refine rs_aload_n (pc := 59) dX11_init_59 rfl ?_
  refine cw_new (n := 16) [.null, .int 0, .int 0, .int 0, .int 0, .int 0, .int 0, .int 0, .int 0, .int 0, .int 0, .int 0, .int 0, .null, .int 0, .null, .int 0] (pc := 60) dX11_init_60 kX5 clX11_41 nX5 dfX5 rfl rfl rfl ?_
  refine rs_dup (pc := 63) dX11_init_63 rfl ?_
  refine cw_init (as := []) (b := 16) (pc := 64) dX11_init_64 mk_X5_init rfl mlX11_43 in_X5_init rfl rfl rfl (Nat.le_of_ble_eq_true rfl) rfl (c_X5_init (ap_q rfl rfl)) ?_
  refine cw_putF (k := 7) (i := 0) (pc := 67) dX11_init_67 ffX11_44 rfl rfl rfl (Nat.le_of_ble_eq_true rfl) ?_
  refine rs_aload_n (pc := 70) dX11_init_70 rfl ?_
  refine cw_new (n := 20) [.null, .int 0] (pc := 71) dX11_init_71 kX7 clX11_48 nX7 dfX7 rfl rfl rfl ?_
  refine rs_dup (pc := 74) dX11_init_74 rfl ?_
  refine cw_init (as := []) (b := 20) (pc := 75) dX11_init_75 mk_X7_init rfl mlX11_50 in_X7_init rfl rfl rfl (Nat.le_of_ble_eq_true rfl) rfl (c_X7_init (ap_q rfl rfl)) ?_
  refine cw_putF (k := 8) (i := 0) (pc := 78) dX11_init_78 ffX11_51 rfl rfl rfl (Nat.le_of_ble_eq_true rfl) ?_
  refine rs_aload_n (pc := 81) dX11_init_81 rfl ?_
  refine cw_new (n := 22) [.int 0, .null, .null, .null, .null, .null, .null, .null, .null, .null, .null] (pc := 82) dX11_init_82 kX2 clX11_55 nX2 dfX2 rfl rfl rfl ?_
  refine rs_dup (pc := 85) dX11_init_85 rfl ?_
  refine cw_init (as := []) (b := 22) (pc := 86) dX11_init_86 mk_X2_init rfl mlX11_57 in_X2_init rfl rfl rfl (Nat.le_of_ble_eq_true rfl) rfl (c_X2_init (ap_q rfl rfl)) ?_
  refine cw_putF (k := 9) (i := 0) (pc := 89) dX11_init_89 ffX11_58 rfl rfl rfl (Nat.le_of_ble_eq_true rfl) ?_
  refine rs_aload_n (pc := 92) dX11_init_92 rfl ?_
  refine cw_new (n := 33) [.null, .null] (pc := 93) dX11_init_93 kX4 clX11_62 nX4 dfX4 rfl rfl rfl ?_
  refine rs_dup (pc := 96) dX11_init_96 rfl ?_
  refine cw_init (as := []) (b := 33) (pc := 97) dX11_init_97 mk_X4_init rfl mlX11_64 in_X4_init rfl rfl rfl (Nat.le_of_ble_eq_true rfl) rfl (c_X4_init (ap_q rfl rfl)) ?_
  refine cw_putF (k := 10) (i := 0) (pc := 100) dX11_init_100 ffX11_65 rfl rfl rfl (Nat.le_of_ble_eq_true rfl) ?_
  refine rs_aload_n (pc := 103) dX11_init_103 rfl ?_
  refine cw_new (n := 292) [.null, .null, .null] (pc := 104) dX11_init_104 kX6 clX11_69 nX6 dfX6 rfl rfl rfl ?_
  refine rs_dup (pc := 107) dX11_init_107 rfl ?_
  refine cw_init (as := []) (b := 292) (pc := 108) dX11_init_108 mk_X6_init rfl mlX11_71 in_X6_init rfl rfl rfl (Nat.le_of_ble_eq_true rfl) rfl (c_X6_init (ap_q rfl rfl)) ?_
  refine cw_putF (k := 11) (i := 0) (pc := 111) dX11_init_111 ffX11_72 rfl rfl rfl (Nat.le_of_ble_eq_true rfl) ?_
  refine rs_aload_n (pc := 114) dX11_init_114 rfl ?_
  refine cw_new (n := 296) [.int 0, .null, .null] (pc := 115) dX11_init_115 kX0 clX11_76 nX0 dfX0 rfl rfl rfl ?_
  refine rs_dup (pc := 118) dX11_init_118 rfl ?_
  refine cw_init (as := []) (b := 296) (pc := 119) dX11_init_119 mk_X0_init rfl mlX11_78 in_X0_init rfl rfl rfl (Nat.le_of_ble_eq_true rfl) rfl (c_X0_init (ap_q rfl rfl)) ?_
  refine cw_putF (k := 12) (i := 0) (pc := 122) dX11_init_122 ffX11_79 rfl rfl rfl (Nat.le_of_ble_eq_true rfl) ?_
  refine rs_aload_n (pc := 125) dX11_init_125 rfl ?_
  refine cw_new (n := 299) [.null, .int 0, .int 0, .int 0, .long 0, .null, .null, .null, .null] (pc := 126) dX11_init_126 kX10 clX11_83 nX10 dfX10 rfl rfl rfl ?_
  refine rs_dup (pc := 129) dX11_init_129 rfl ?_
  refine cw_init (as := []) (b := 299) (pc := 130) dX11_init_130 mk_X10_init rfl mlX11_85 in_X10_init rfl rfl rfl (Nat.le_of_ble_eq_true rfl) rfl (c_X10_init (ap_q rfl rfl)) ?_
  refine cw_putF (k := 13) (i := 0) (pc := 133) dX11_init_133 ffX11_86 rfl rfl rfl (Nat.le_of_ble_eq_true rfl) ?_
  refine rs_aload_n (pc := 136) dX11_init_136 rfl ?_
  refine cw_new (n := 304) [.int 0, .long 0, .long 0, .long 0] (pc := 137) dX11_init_137 kX9 clX11_90 nX9 dfX9 rfl rfl rfl ?_
  refine rs_dup (pc := 140) dX11_init_140 rfl ?_
  refine cw_init (as := []) (b := 304) (pc := 141) dX11_init_141 mk_X9_init rfl mlX11_92 in_X9_init rfl rfl rfl (Nat.le_of_ble_eq_true rfl) rfl (c_X9_init (ap_q rfl rfl)) ?_
  refine cw_putF (k := 14) (i := 0) (pc := 144) dX11_init_144 ffX11_93 rfl rfl rfl (Nat.le_of_ble_eq_true rfl) ?_
  exact wk_vret (pc := 147) dX11_init_147 rfl rfl rfl
def own0 (n : Nat) : Nat → Int32 := fun i => if i < n then -1 else 0
theorem own0_1 (n : Nat) : upd (own0 n) n (-1) = own0 (n + 1) := by
  funext i
  by_cases h : i = n
  · subst h
    simp [upd, own0]
  · simp only [upd, if_neg h, own0]
    by_cases h2 : i < n
    · rw [if_pos h2, if_pos (by omega)]
    · rw [if_neg h2, if_neg (by omega)]
def m0 (q n : Nat) : List va_E := .inr (12, [.int 0, .int 0, .int 0, .int 0, .int 0, .int 0, .ref (q + 1), .ref (q + 2), .ref (q + 3), .ref (q + 4), .ref (q + 5), .ref (q + 6), .ref (q + 7), .ref (q + 8), .ref (q + 9), .ref (q + 10), .ref (q + 11), .ref (q + 12), .ref (q + 13), .ref (q + 14), .ref (q + 15), .ref (q + 16), .int 0, .int 0, .int 0, .int 0, .int 0, .int 0, .int 0, .int 0, .ref (q + 17), .ref (q + 18), .ref (q + 19), .ref (q + 20), .ref (q + 21), .ref (q + 22), .ref (q + 23), .ref (q + 24), .ref (q + 25), .ref (q + 26), .int 0, .ref (q + 27), .ref (q + 28), .ref (q + 29), .ref (q + 30), .ref (q + 31), .ref (q + 32), .ref (q + 33), .ref (q + 34), .ref (q + 35), .ref (q + 36), .ref (q + 37), .ref (q + 38), .ref (q + 39), .ref (q + 40), .ref (q + 41), .ref (q + 42), .ref (q + 43), .ref (q + 44), .ref (q + 45), .int 0, .ref (q + 46), .ref (q + 47), .ref (q + 48), .ref (q + 49), .ref (q + 50), .ref (q + 51), .long 0, .ref (q + 52), .ref (q + 53), .ref (q + 54), .int 0, .int 0]) :: [.inl (0, 16, .inl (fun _ => 0)), .inl (0, 16, .inl (own0 n)), .inl (0, 24, .inl (fun _ => 0)), .inl (0, 24, .inl (fun _ => 0)), .inl (0, 24, .inl (fun _ => 0)), .inl (0, 80, .inl (fun _ => 0)), .inl (0, 80, .inl (fun _ => 0)), .inl (0, 400, .inl (fun _ => 0)), .inl (0, 400, .inl (fun _ => 0)), .inl (0, 400, .inl (fun _ => 0)), .inl (0, 400, .inl (fun _ => 0)), .inl (0, 400, .inl (fun _ => 0)), .inl (0, 400, .inl (fun _ => 0)), .inl (0, 400, .inl (fun _ => 0)), .inl (0, 400, .inl (fun _ => 0)), .inl (0, 400, .inl (fun _ => 0)), .inl (3, 400, .inl (fun _ => 0)), .inl (0, 3000, .inl (fun _ => 0)), .inl (0, 3000, .inl (fun _ => 0)), .inl (0, 10, .inl (fun _ => 0)), .inl (0, 120, .inl (fun _ => 0)), .inl (0, 120, .inl (fun _ => 0)), .inl (0, 120, .inl (fun _ => 0)), .inl (0, 402, .inl (fun _ => 0)), .inl (1, 10, .inr (.inl (fun _ => 0))), .inl (1, 300, .inr (.inl (fun _ => 0))), .inl (0, 400, .inl (fun _ => 0)), .inl (0, 400, .inl (fun _ => 0)), .inl (0, 400, .inl (fun _ => 0)), .inl (0, 400, .inl (fun _ => 0)), .inl (0, 400, .inl (fun _ => 0)), .inl (0, 400, .inl (fun _ => 0)), .inl (0, 400, .inl (fun _ => 0)), .inl (1, 400, .inr (.inl (fun _ => 0))), .inl (1, 400, .inr (.inl (fun _ => 0))), .inl (0, 256, .inl (fun _ => 0)), .inl (0, 256, .inl (fun _ => 0)), .inl (0, 256, .inl (fun _ => 0)), .inl (1, 256, .inr (.inl (fun _ => 0))), .inl (1, 256, .inr (.inl (fun _ => 0))), .inl (1, 256, .inr (.inl (fun _ => 0))), .inl (1, 256, .inr (.inl (fun _ => 0))), .inl (1, 256, .inr (.inl (fun _ => 0))), .inl (0, 256, .inl (fun _ => 0)), .inl (0, 256, .inl (fun _ => 0)), .inl (0, 9, .inl (fun _ => 0)), .inl (0, 9, .inl (fun _ => 0)), .inl (0, 9, .inl (fun _ => 0)), .inl (0, 16, .inl (fun _ => 0)), .inl (1, 62, .inr (.inl (fun _ => 0))), .inl (2, 400, .inl (fun _ => 0)), .inl (0, 15600, .inl (fun _ => 0)), .inl (0, 6, .inl (fun _ => 0)), .inl (2, 4, .inl (fun _ => 0))]
theorem dX12_init_0 : decode cX12_init 0 = .ok (.aload_n 0, 1) := by decide +kernel
theorem dX12_init_1 : decode cX12_init 1 = .ok (.invokespecial 1, 3) := by decide +kernel
theorem dX12_init_4 : decode cX12_init 4 = .ok (.aload_n 0, 1) := by decide +kernel
theorem dX12_init_5 : decode cX12_init 5 = .ok (.bipush 16, 2) := by decide +kernel
theorem dX12_init_7 : decode cX12_init 7 = .ok (.newarray .int, 2) := by decide +kernel
theorem dX12_init_9 : decode cX12_init 9 = .ok (.putfield 9, 3) := by decide +kernel
theorem dX12_init_12 : decode cX12_init 12 = .ok (.aload_n 0, 1) := by decide +kernel
theorem dX12_init_13 : decode cX12_init 13 = .ok (.bipush 16, 2) := by decide +kernel
theorem dX12_init_15 : decode cX12_init 15 = .ok (.newarray .int, 2) := by decide +kernel
theorem dX12_init_17 : decode cX12_init 17 = .ok (.putfield 13, 3) := by decide +kernel
theorem dX12_init_20 : decode cX12_init 20 = .ok (.aload_n 0, 1) := by decide +kernel
theorem dX12_init_21 : decode cX12_init 21 = .ok (.bipush 24, 2) := by decide +kernel
theorem dX12_init_23 : decode cX12_init 23 = .ok (.newarray .int, 2) := by decide +kernel
theorem dX12_init_25 : decode cX12_init 25 = .ok (.putfield 16, 3) := by decide +kernel
theorem dX12_init_28 : decode cX12_init 28 = .ok (.aload_n 0, 1) := by decide +kernel
theorem dX12_init_29 : decode cX12_init 29 = .ok (.bipush 24, 2) := by decide +kernel
theorem dX12_init_31 : decode cX12_init 31 = .ok (.newarray .int, 2) := by decide +kernel
theorem dX12_init_33 : decode cX12_init 33 = .ok (.putfield 19, 3) := by decide +kernel
theorem dX12_init_36 : decode cX12_init 36 = .ok (.aload_n 0, 1) := by decide +kernel
theorem dX12_init_37 : decode cX12_init 37 = .ok (.bipush 24, 2) := by decide +kernel
theorem dX12_init_39 : decode cX12_init 39 = .ok (.newarray .int, 2) := by decide +kernel
theorem dX12_init_41 : decode cX12_init 41 = .ok (.putfield 22, 3) := by decide +kernel
theorem dX12_init_44 : decode cX12_init 44 = .ok (.aload_n 0, 1) := by decide +kernel
theorem dX12_init_45 : decode cX12_init 45 = .ok (.bipush 80, 2) := by decide +kernel
theorem dX12_init_47 : decode cX12_init 47 = .ok (.newarray .int, 2) := by decide +kernel
theorem dX12_init_49 : decode cX12_init 49 = .ok (.putfield 25, 3) := by decide +kernel
theorem dX12_init_52 : decode cX12_init 52 = .ok (.aload_n 0, 1) := by decide +kernel
theorem dX12_init_53 : decode cX12_init 53 = .ok (.bipush 80, 2) := by decide +kernel
theorem dX12_init_55 : decode cX12_init 55 = .ok (.newarray .int, 2) := by decide +kernel
theorem dX12_init_57 : decode cX12_init 57 = .ok (.putfield 28, 3) := by decide +kernel
theorem dX12_init_60 : decode cX12_init 60 = .ok (.aload_n 0, 1) := by decide +kernel
theorem dX12_init_61 : decode cX12_init 61 = .ok (.sipush 400, 3) := by decide +kernel
theorem dX12_init_64 : decode cX12_init 64 = .ok (.newarray .int, 2) := by decide +kernel
theorem dX12_init_66 : decode cX12_init 66 = .ok (.putfield 31, 3) := by decide +kernel
theorem dX12_init_69 : decode cX12_init 69 = .ok (.aload_n 0, 1) := by decide +kernel
theorem dX12_init_70 : decode cX12_init 70 = .ok (.sipush 400, 3) := by decide +kernel
theorem dX12_init_73 : decode cX12_init 73 = .ok (.newarray .int, 2) := by decide +kernel
theorem dX12_init_75 : decode cX12_init 75 = .ok (.putfield 34, 3) := by decide +kernel
theorem dX12_init_78 : decode cX12_init 78 = .ok (.aload_n 0, 1) := by decide +kernel
theorem dX12_init_79 : decode cX12_init 79 = .ok (.sipush 400, 3) := by decide +kernel
theorem dX12_init_82 : decode cX12_init 82 = .ok (.newarray .int, 2) := by decide +kernel
theorem dX12_init_84 : decode cX12_init 84 = .ok (.putfield 37, 3) := by decide +kernel
theorem dX12_init_87 : decode cX12_init 87 = .ok (.aload_n 0, 1) := by decide +kernel
theorem dX12_init_88 : decode cX12_init 88 = .ok (.sipush 400, 3) := by decide +kernel
theorem dX12_init_91 : decode cX12_init 91 = .ok (.newarray .int, 2) := by decide +kernel
theorem dX12_init_93 : decode cX12_init 93 = .ok (.putfield 40, 3) := by decide +kernel
theorem dX12_init_96 : decode cX12_init 96 = .ok (.aload_n 0, 1) := by decide +kernel
theorem dX12_init_97 : decode cX12_init 97 = .ok (.sipush 400, 3) := by decide +kernel
theorem dX12_init_100 : decode cX12_init 100 = .ok (.newarray .int, 2) := by decide +kernel
theorem dX12_init_102 : decode cX12_init 102 = .ok (.putfield 43, 3) := by decide +kernel
theorem dX12_init_105 : decode cX12_init 105 = .ok (.aload_n 0, 1) := by decide +kernel
theorem dX12_init_106 : decode cX12_init 106 = .ok (.sipush 400, 3) := by decide +kernel
theorem dX12_init_109 : decode cX12_init 109 = .ok (.newarray .int, 2) := by decide +kernel
theorem dX12_init_111 : decode cX12_init 111 = .ok (.putfield 46, 3) := by decide +kernel
theorem dX12_init_114 : decode cX12_init 114 = .ok (.aload_n 0, 1) := by decide +kernel
theorem dX12_init_115 : decode cX12_init 115 = .ok (.sipush 400, 3) := by decide +kernel
theorem dX12_init_118 : decode cX12_init 118 = .ok (.newarray .int, 2) := by decide +kernel
theorem dX12_init_120 : decode cX12_init 120 = .ok (.putfield 49, 3) := by decide +kernel
theorem dX12_init_123 : decode cX12_init 123 = .ok (.aload_n 0, 1) := by decide +kernel
theorem dX12_init_124 : decode cX12_init 124 = .ok (.sipush 400, 3) := by decide +kernel
theorem dX12_init_127 : decode cX12_init 127 = .ok (.newarray .int, 2) := by decide +kernel
theorem dX12_init_129 : decode cX12_init 129 = .ok (.putfield 52, 3) := by decide +kernel
theorem dX12_init_132 : decode cX12_init 132 = .ok (.aload_n 0, 1) := by decide +kernel
theorem dX12_init_133 : decode cX12_init 133 = .ok (.sipush 400, 3) := by decide +kernel
theorem dX12_init_136 : decode cX12_init 136 = .ok (.newarray .int, 2) := by decide +kernel
theorem dX12_init_138 : decode cX12_init 138 = .ok (.putfield 55, 3) := by decide +kernel
theorem dX12_init_141 : decode cX12_init 141 = .ok (.aload_n 0, 1) := by decide +kernel
theorem dX12_init_142 : decode cX12_init 142 = .ok (.sipush 400, 3) := by decide +kernel
theorem dX12_init_145 : decode cX12_init 145 = .ok (.newarray .byte, 2) := by decide +kernel
theorem dX12_init_147 : decode cX12_init 147 = .ok (.putfield 58, 3) := by decide +kernel
theorem dX12_init_150 : decode cX12_init 150 = .ok (.aload_n 0, 1) := by decide +kernel
theorem dX12_init_151 : decode cX12_init 151 = .ok (.sipush 3000, 3) := by decide +kernel
theorem dX12_init_154 : decode cX12_init 154 = .ok (.newarray .int, 2) := by decide +kernel
theorem dX12_init_156 : decode cX12_init 156 = .ok (.putfield 62, 3) := by decide +kernel
theorem dX12_init_159 : decode cX12_init 159 = .ok (.aload_n 0, 1) := by decide +kernel
theorem dX12_init_160 : decode cX12_init 160 = .ok (.sipush 3000, 3) := by decide +kernel
theorem dX12_init_163 : decode cX12_init 163 = .ok (.newarray .int, 2) := by decide +kernel
theorem dX12_init_165 : decode cX12_init 165 = .ok (.putfield 65, 3) := by decide +kernel
theorem dX12_init_168 : decode cX12_init 168 = .ok (.aload_n 0, 1) := by decide +kernel
theorem dX12_init_169 : decode cX12_init 169 = .ok (.bipush 10, 2) := by decide +kernel
theorem dX12_init_171 : decode cX12_init 171 = .ok (.newarray .int, 2) := by decide +kernel
theorem dX12_init_173 : decode cX12_init 173 = .ok (.putfield 68, 3) := by decide +kernel
theorem dX12_init_176 : decode cX12_init 176 = .ok (.aload_n 0, 1) := by decide +kernel
theorem dX12_init_177 : decode cX12_init 177 = .ok (.bipush 120, 2) := by decide +kernel
theorem dX12_init_179 : decode cX12_init 179 = .ok (.newarray .int, 2) := by decide +kernel
theorem dX12_init_181 : decode cX12_init 181 = .ok (.putfield 71, 3) := by decide +kernel
theorem dX12_init_184 : decode cX12_init 184 = .ok (.aload_n 0, 1) := by decide +kernel
theorem dX12_init_185 : decode cX12_init 185 = .ok (.bipush 120, 2) := by decide +kernel
theorem dX12_init_187 : decode cX12_init 187 = .ok (.newarray .int, 2) := by decide +kernel
theorem dX12_init_189 : decode cX12_init 189 = .ok (.putfield 74, 3) := by decide +kernel
theorem dX12_init_192 : decode cX12_init 192 = .ok (.aload_n 0, 1) := by decide +kernel
theorem dX12_init_193 : decode cX12_init 193 = .ok (.bipush 120, 2) := by decide +kernel
theorem dX12_init_195 : decode cX12_init 195 = .ok (.newarray .int, 2) := by decide +kernel
theorem dX12_init_197 : decode cX12_init 197 = .ok (.putfield 77, 3) := by decide +kernel
theorem dX12_init_200 : decode cX12_init 200 = .ok (.aload_n 0, 1) := by decide +kernel
theorem dX12_init_201 : decode cX12_init 201 = .ok (.sipush 402, 3) := by decide +kernel
theorem dX12_init_204 : decode cX12_init 204 = .ok (.newarray .int, 2) := by decide +kernel
theorem dX12_init_206 : decode cX12_init 206 = .ok (.putfield 80, 3) := by decide +kernel
theorem dX12_init_209 : decode cX12_init 209 = .ok (.aload_n 0, 1) := by decide +kernel
theorem dX12_init_210 : decode cX12_init 210 = .ok (.bipush 10, 2) := by decide +kernel
theorem dX12_init_212 : decode cX12_init 212 = .ok (.newarray .long, 2) := by decide +kernel
theorem dX12_init_214 : decode cX12_init 214 = .ok (.putfield 83, 3) := by decide +kernel
theorem dX12_init_217 : decode cX12_init 217 = .ok (.aload_n 0, 1) := by decide +kernel
theorem dX12_init_218 : decode cX12_init 218 = .ok (.sipush 300, 3) := by decide +kernel
theorem dX12_init_221 : decode cX12_init 221 = .ok (.newarray .long, 2) := by decide +kernel
theorem dX12_init_223 : decode cX12_init 223 = .ok (.putfield 87, 3) := by decide +kernel
theorem dX12_init_226 : decode cX12_init 226 = .ok (.aload_n 0, 1) := by decide +kernel
theorem dX12_init_227 : decode cX12_init 227 = .ok (.sipush 400, 3) := by decide +kernel
theorem dX12_init_230 : decode cX12_init 230 = .ok (.newarray .int, 2) := by decide +kernel
theorem dX12_init_232 : decode cX12_init 232 = .ok (.putfield 90, 3) := by decide +kernel
theorem dX12_init_235 : decode cX12_init 235 = .ok (.aload_n 0, 1) := by decide +kernel
theorem dX12_init_236 : decode cX12_init 236 = .ok (.sipush 400, 3) := by decide +kernel
theorem dX12_init_239 : decode cX12_init 239 = .ok (.newarray .int, 2) := by decide +kernel
theorem dX12_init_241 : decode cX12_init 241 = .ok (.putfield 93, 3) := by decide +kernel
theorem dX12_init_244 : decode cX12_init 244 = .ok (.aload_n 0, 1) := by decide +kernel
theorem dX12_init_245 : decode cX12_init 245 = .ok (.sipush 400, 3) := by decide +kernel
theorem dX12_init_248 : decode cX12_init 248 = .ok (.newarray .int, 2) := by decide +kernel
theorem dX12_init_250 : decode cX12_init 250 = .ok (.putfield 96, 3) := by decide +kernel
theorem dX12_init_253 : decode cX12_init 253 = .ok (.aload_n 0, 1) := by decide +kernel
theorem dX12_init_254 : decode cX12_init 254 = .ok (.sipush 400, 3) := by decide +kernel
theorem dX12_init_257 : decode cX12_init 257 = .ok (.newarray .int, 2) := by decide +kernel
theorem dX12_init_259 : decode cX12_init 259 = .ok (.putfield 99, 3) := by decide +kernel
theorem dX12_init_262 : decode cX12_init 262 = .ok (.aload_n 0, 1) := by decide +kernel
theorem dX12_init_263 : decode cX12_init 263 = .ok (.sipush 400, 3) := by decide +kernel
theorem dX12_init_266 : decode cX12_init 266 = .ok (.newarray .int, 2) := by decide +kernel
theorem dX12_init_268 : decode cX12_init 268 = .ok (.putfield 102, 3) := by decide +kernel
theorem dX12_init_271 : decode cX12_init 271 = .ok (.aload_n 0, 1) := by decide +kernel
theorem dX12_init_272 : decode cX12_init 272 = .ok (.sipush 400, 3) := by decide +kernel
theorem dX12_init_275 : decode cX12_init 275 = .ok (.newarray .int, 2) := by decide +kernel
theorem dX12_init_277 : decode cX12_init 277 = .ok (.putfield 105, 3) := by decide +kernel
theorem dX12_init_280 : decode cX12_init 280 = .ok (.aload_n 0, 1) := by decide +kernel
theorem dX12_init_281 : decode cX12_init 281 = .ok (.sipush 400, 3) := by decide +kernel
theorem dX12_init_284 : decode cX12_init 284 = .ok (.newarray .int, 2) := by decide +kernel
theorem dX12_init_286 : decode cX12_init 286 = .ok (.putfield 108, 3) := by decide +kernel
theorem dX12_init_289 : decode cX12_init 289 = .ok (.aload_n 0, 1) := by decide +kernel
theorem dX12_init_290 : decode cX12_init 290 = .ok (.sipush 400, 3) := by decide +kernel
theorem dX12_init_293 : decode cX12_init 293 = .ok (.newarray .long, 2) := by decide +kernel
theorem dX12_init_295 : decode cX12_init 295 = .ok (.putfield 111, 3) := by decide +kernel
theorem dX12_init_298 : decode cX12_init 298 = .ok (.aload_n 0, 1) := by decide +kernel
theorem dX12_init_299 : decode cX12_init 299 = .ok (.sipush 400, 3) := by decide +kernel
theorem dX12_init_302 : decode cX12_init 302 = .ok (.newarray .long, 2) := by decide +kernel
theorem dX12_init_304 : decode cX12_init 304 = .ok (.putfield 114, 3) := by decide +kernel
theorem dX12_init_307 : decode cX12_init 307 = .ok (.aload_n 0, 1) := by decide +kernel
theorem dX12_init_308 : decode cX12_init 308 = .ok (.sipush 256, 3) := by decide +kernel
theorem dX12_init_311 : decode cX12_init 311 = .ok (.newarray .int, 2) := by decide +kernel
theorem dX12_init_313 : decode cX12_init 313 = .ok (.putfield 117, 3) := by decide +kernel
theorem dX12_init_316 : decode cX12_init 316 = .ok (.aload_n 0, 1) := by decide +kernel
theorem dX12_init_317 : decode cX12_init 317 = .ok (.sipush 256, 3) := by decide +kernel
theorem dX12_init_320 : decode cX12_init 320 = .ok (.newarray .int, 2) := by decide +kernel
theorem dX12_init_322 : decode cX12_init 322 = .ok (.putfield 120, 3) := by decide +kernel
theorem dX12_init_325 : decode cX12_init 325 = .ok (.aload_n 0, 1) := by decide +kernel
theorem dX12_init_326 : decode cX12_init 326 = .ok (.sipush 256, 3) := by decide +kernel
theorem dX12_init_329 : decode cX12_init 329 = .ok (.newarray .int, 2) := by decide +kernel
theorem dX12_init_331 : decode cX12_init 331 = .ok (.putfield 123, 3) := by decide +kernel
theorem dX12_init_334 : decode cX12_init 334 = .ok (.aload_n 0, 1) := by decide +kernel
theorem dX12_init_335 : decode cX12_init 335 = .ok (.sipush 256, 3) := by decide +kernel
theorem dX12_init_338 : decode cX12_init 338 = .ok (.newarray .long, 2) := by decide +kernel
theorem dX12_init_340 : decode cX12_init 340 = .ok (.putfield 126, 3) := by decide +kernel
theorem dX12_init_343 : decode cX12_init 343 = .ok (.aload_n 0, 1) := by decide +kernel
theorem dX12_init_344 : decode cX12_init 344 = .ok (.sipush 256, 3) := by decide +kernel
theorem dX12_init_347 : decode cX12_init 347 = .ok (.newarray .long, 2) := by decide +kernel
theorem dX12_init_349 : decode cX12_init 349 = .ok (.putfield 129, 3) := by decide +kernel
theorem dX12_init_352 : decode cX12_init 352 = .ok (.aload_n 0, 1) := by decide +kernel
theorem dX12_init_353 : decode cX12_init 353 = .ok (.sipush 256, 3) := by decide +kernel
theorem dX12_init_356 : decode cX12_init 356 = .ok (.newarray .long, 2) := by decide +kernel
theorem dX12_init_358 : decode cX12_init 358 = .ok (.putfield 132, 3) := by decide +kernel
theorem dX12_init_361 : decode cX12_init 361 = .ok (.aload_n 0, 1) := by decide +kernel
theorem dX12_init_362 : decode cX12_init 362 = .ok (.sipush 256, 3) := by decide +kernel
theorem dX12_init_365 : decode cX12_init 365 = .ok (.newarray .long, 2) := by decide +kernel
theorem dX12_init_367 : decode cX12_init 367 = .ok (.putfield 135, 3) := by decide +kernel
theorem dX12_init_370 : decode cX12_init 370 = .ok (.aload_n 0, 1) := by decide +kernel
theorem dX12_init_371 : decode cX12_init 371 = .ok (.sipush 256, 3) := by decide +kernel
theorem dX12_init_374 : decode cX12_init 374 = .ok (.newarray .long, 2) := by decide +kernel
theorem dX12_init_376 : decode cX12_init 376 = .ok (.putfield 138, 3) := by decide +kernel
theorem dX12_init_379 : decode cX12_init 379 = .ok (.aload_n 0, 1) := by decide +kernel
theorem dX12_init_380 : decode cX12_init 380 = .ok (.sipush 256, 3) := by decide +kernel
theorem dX12_init_383 : decode cX12_init 383 = .ok (.newarray .int, 2) := by decide +kernel
theorem dX12_init_385 : decode cX12_init 385 = .ok (.putfield 141, 3) := by decide +kernel
theorem dX12_init_388 : decode cX12_init 388 = .ok (.aload_n 0, 1) := by decide +kernel
theorem dX12_init_389 : decode cX12_init 389 = .ok (.sipush 256, 3) := by decide +kernel
theorem dX12_init_392 : decode cX12_init 392 = .ok (.newarray .int, 2) := by decide +kernel
theorem dX12_init_394 : decode cX12_init 394 = .ok (.putfield 144, 3) := by decide +kernel
theorem dX12_init_397 : decode cX12_init 397 = .ok (.aload_n 0, 1) := by decide +kernel
theorem dX12_init_398 : decode cX12_init 398 = .ok (.bipush 9, 2) := by decide +kernel
theorem dX12_init_400 : decode cX12_init 400 = .ok (.newarray .int, 2) := by decide +kernel
theorem dX12_init_402 : decode cX12_init 402 = .ok (.putfield 147, 3) := by decide +kernel
theorem dX12_init_405 : decode cX12_init 405 = .ok (.aload_n 0, 1) := by decide +kernel
theorem dX12_init_406 : decode cX12_init 406 = .ok (.bipush 9, 2) := by decide +kernel
theorem dX12_init_408 : decode cX12_init 408 = .ok (.newarray .int, 2) := by decide +kernel
theorem dX12_init_410 : decode cX12_init 410 = .ok (.putfield 150, 3) := by decide +kernel
theorem dX12_init_413 : decode cX12_init 413 = .ok (.aload_n 0, 1) := by decide +kernel
theorem dX12_init_414 : decode cX12_init 414 = .ok (.bipush 9, 2) := by decide +kernel
theorem dX12_init_416 : decode cX12_init 416 = .ok (.newarray .int, 2) := by decide +kernel
theorem dX12_init_418 : decode cX12_init 418 = .ok (.putfield 153, 3) := by decide +kernel
theorem dX12_init_421 : decode cX12_init 421 = .ok (.aload_n 0, 1) := by decide +kernel
theorem dX12_init_422 : decode cX12_init 422 = .ok (.bipush 16, 2) := by decide +kernel
theorem dX12_init_424 : decode cX12_init 424 = .ok (.newarray .int, 2) := by decide +kernel
theorem dX12_init_426 : decode cX12_init 426 = .ok (.putfield 156, 3) := by decide +kernel
theorem dX12_init_429 : decode cX12_init 429 = .ok (.aload_n 0, 1) := by decide +kernel
theorem dX12_init_430 : decode cX12_init 430 = .ok (.bipush 62, 2) := by decide +kernel
theorem dX12_init_432 : decode cX12_init 432 = .ok (.newarray .long, 2) := by decide +kernel
theorem dX12_init_434 : decode cX12_init 434 = .ok (.putfield 159, 3) := by decide +kernel
theorem dX12_init_437 : decode cX12_init 437 = .ok (.aload_n 0, 1) := by decide +kernel
theorem dX12_init_438 : decode cX12_init 438 = .ok (.sipush 400, 3) := by decide +kernel
theorem dX12_init_441 : decode cX12_init 441 = .ok (.newarray .boolean, 2) := by decide +kernel
theorem dX12_init_443 : decode cX12_init 443 = .ok (.putfield 162, 3) := by decide +kernel
theorem dX12_init_446 : decode cX12_init 446 = .ok (.aload_n 0, 1) := by decide +kernel
theorem dX12_init_447 : decode cX12_init 447 = .ok (.sipush 15600, 3) := by decide +kernel
theorem dX12_init_450 : decode cX12_init 450 = .ok (.newarray .int, 2) := by decide +kernel
theorem dX12_init_452 : decode cX12_init 452 = .ok (.putfield 166, 3) := by decide +kernel
theorem dX12_init_455 : decode cX12_init 455 = .ok (.aload_n 0, 1) := by decide +kernel
theorem dX12_init_456 : decode cX12_init 456 = .ok (.bipush 6, 2) := by decide +kernel
theorem dX12_init_458 : decode cX12_init 458 = .ok (.newarray .int, 2) := by decide +kernel
theorem dX12_init_460 : decode cX12_init 460 = .ok (.putfield 169, 3) := by decide +kernel
theorem dX12_init_463 : decode cX12_init 463 = .ok (.aload_n 0, 1) := by decide +kernel
theorem dX12_init_464 : decode cX12_init 464 = .ok (.iconst 4, 1) := by decide +kernel
theorem dX12_init_465 : decode cX12_init 465 = .ok (.newarray .boolean, 2) := by decide +kernel
theorem dX12_init_467 : decode cX12_init 467 = .ok (.putfield 172, 3) := by decide +kernel
theorem dX12_init_470 : decode cX12_init 470 = .ok (.iconst 0, 1) := by decide +kernel
theorem dX12_init_471 : decode cX12_init 471 = .ok (.istore_n 1, 1) := by decide +kernel
theorem dX12_init_472 : decode cX12_init 472 = .ok (.iload_n 1, 1) := by decide +kernel
theorem dX12_init_473 : decode cX12_init 473 = .ok (.bipush 16, 2) := by decide +kernel
theorem dX12_init_475 : decode cX12_init 475 = .ok (.if_icmp .ge 16, 3) := by decide +kernel
theorem dX12_init_478 : decode cX12_init 478 = .ok (.aload_n 0, 1) := by decide +kernel
theorem dX12_init_479 : decode cX12_init 479 = .ok (.getfield 13, 3) := by decide +kernel
theorem dX12_init_482 : decode cX12_init 482 = .ok (.iload_n 1, 1) := by decide +kernel
theorem dX12_init_483 : decode cX12_init 483 = .ok (.iconst (-1), 1) := by decide +kernel
theorem dX12_init_484 : decode cX12_init 484 = .ok (.iastore, 1) := by decide +kernel
theorem dX12_init_485 : decode cX12_init 485 = .ok (.iinc 1 1, 3) := by decide +kernel
theorem dX12_init_488 : decode cX12_init 488 = .ok (.goto (-16), 3) := by decide +kernel
theorem dX12_init_491 : decode cX12_init 491 = .ok (.return_, 1) := by decide +kernel
set_option maxRecDepth 100000 in
set_option maxHeartbeats 4000000 in
theorem l_X12_init {h : ai_H} : ∀ (j i : Nat), i + j = 16 → ai_R MX12_init 472 [.ref h.1, .int (nI i)] [] (ap h (m0 h.1 i)) none (ap h (m0 h.1 16)) := by
  intro j
  induction j with
  | zero =>
    intro i hi
    have e : i = 16 := by omega
    subst e
    refine rs_iload_n (pc := 472) dX12_init_472 rfl ?_
    refine rs_bipush (v := 16) (pc := 473) dX12_init_473 rfl ?_
    refine rs_icmp_ge (tgt := 491) (pc := 475) dX12_init_475 rfl (fun c_33 => ?_) (fun c_33 => absurd c_33 (by decide))
    exact wk_vret (pc := 491) dX12_init_491 rfl rfl rfl
  | succ j ih =>
    intro i hi
    refine rs_iload_n (pc := 472) dX12_init_472 rfl ?_
    refine rs_bipush (v := 16) (pc := 473) dX12_init_473 rfl ?_
    refine rs_icmp_ge (tgt := 491) (pc := 475) dX12_init_475 rfl (fun c_33 => absurd (lp_exit (sz := 16) rfl (by decide) (by omega) c_33) (by omega)) (fun c_33 => ?_)
    have g0 : (m0 h.1 i)[2]? = some (.inl (0, 16, .inl (own0 i))) := rfl
    refine rs_aload_n (pc := 478) dX12_init_478 rfl ?_
    refine rs_getf (pc := 479) dX12_init_479 fX12_13 (ap_lt (i := 0) rfl) (ap_get (i := 0) rfl) rfl ?_
    refine rs_iload_n (pc := 482) dX12_init_482 rfl ?_
    refine rs_iconst (v := -1) (pc := 483) dX12_init_483 rfl ?_
    refine rs_iast (pc := 484) dX12_init_484 (ap_lt g0) (ap_get g0) (vp_in_nI (n := i) (N := 16) (by omega) (by decide)) ?_
    rw [ap_set g0 rfl, nI_clamp (show i < 2 ^ 31 by omega), own0_1]
    refine wk_iinc1 (v := nI (i + 1)) (pc := 485) dX12_init_485 (by decide) rfl (nI_1 i) ?_
    refine rs_goto (tgt := 472) (pc := 488) dX12_init_488 rfl ?_
    exact ih (i + 1) (by omega)
set_option maxRecDepth 100000 in
set_option maxHeartbeats 4000000 in
theorem c_X12_init {h : ai_H} {q : Nat} (hq : h.1 = q) : ai_Met MX12_init (.ref q :: []) (ap h [.inr (12, [.int 0, .int 0, .int 0, .int 0, .int 0, .int 0, .null, .null, .null, .null, .null, .null, .null, .null, .null, .null, .null, .null, .null, .null, .null, .null, .int 0, .int 0, .int 0, .int 0, .int 0, .int 0, .int 0, .int 0, .null, .null, .null, .null, .null, .null, .null, .null, .null, .null, .int 0, .null, .null, .null, .null, .null, .null, .null, .null, .null, .null, .null, .null, .null, .null, .null, .null, .null, .null, .null, .int 0, .null, .null, .null, .null, .null, .null, .long 0, .null, .null, .null, .int 0, .int 0])]) none (ap h (m0 q 16)) := by
  subst hq
  refine ai_met (ls := _) (by decide) (by simp [ai_en, Value.category]) rfl ?_
  show ai_R _ _ _ _ (ap h _) _ _
  refine rs_aload_n (pc := 0) dX12_init_0 rfl ?_
  refine rs_obj (pc := 1) dX12_init_1 mlX12_1 ob_in ob_co (by decide) (Nat.le_of_ble_eq_true rfl) ?_
  refine rs_aload_n (pc := 4) dX12_init_4 rfl ?_
  refine rs_bipush (v := 16) (pc := 5) dX12_init_5 rfl ?_
  refine cw_newI (N := 16) (m := 1) (pc := 7) dX12_init_7 (by decide) (by decide) (by decide) rfl ?_
  refine cw_putF (k := 6) (i := 0) (pc := 9) dX12_init_9 ffX12_9 rfl rfl rfl (Nat.le_of_ble_eq_true rfl) ?_
  refine rs_aload_n (pc := 12) dX12_init_12 rfl ?_
  refine rs_bipush (v := 16) (pc := 13) dX12_init_13 rfl ?_
  refine cw_newI (N := 16) (m := 2) (pc := 15) dX12_init_15 (by decide) (by decide) (by decide) rfl ?_
  refine cw_putF (k := 7) (i := 0) (pc := 17) dX12_init_17 ffX12_13 rfl rfl rfl (Nat.le_of_ble_eq_true rfl) ?_
  refine rs_aload_n (pc := 20) dX12_init_20 rfl ?_
  refine rs_bipush (v := 24) (pc := 21) dX12_init_21 rfl ?_
  refine cw_newI (N := 24) (m := 3) (pc := 23) dX12_init_23 (by decide) (by decide) (by decide) rfl ?_
  refine cw_putF (k := 8) (i := 0) (pc := 25) dX12_init_25 ffX12_16 rfl rfl rfl (Nat.le_of_ble_eq_true rfl) ?_
  refine rs_aload_n (pc := 28) dX12_init_28 rfl ?_
  refine rs_bipush (v := 24) (pc := 29) dX12_init_29 rfl ?_
  refine cw_newI (N := 24) (m := 4) (pc := 31) dX12_init_31 (by decide) (by decide) (by decide) rfl ?_
  refine cw_putF (k := 9) (i := 0) (pc := 33) dX12_init_33 ffX12_19 rfl rfl rfl (Nat.le_of_ble_eq_true rfl) ?_
  refine rs_aload_n (pc := 36) dX12_init_36 rfl ?_
  refine rs_bipush (v := 24) (pc := 37) dX12_init_37 rfl ?_
  refine cw_newI (N := 24) (m := 5) (pc := 39) dX12_init_39 (by decide) (by decide) (by decide) rfl ?_
  refine cw_putF (k := 10) (i := 0) (pc := 41) dX12_init_41 ffX12_22 rfl rfl rfl (Nat.le_of_ble_eq_true rfl) ?_
  refine rs_aload_n (pc := 44) dX12_init_44 rfl ?_
  refine rs_bipush (v := 80) (pc := 45) dX12_init_45 rfl ?_
  refine cw_newI (N := 80) (m := 6) (pc := 47) dX12_init_47 (by decide) (by decide) (by decide) rfl ?_
  refine cw_putF (k := 11) (i := 0) (pc := 49) dX12_init_49 ffX12_25 rfl rfl rfl (Nat.le_of_ble_eq_true rfl) ?_
  refine rs_aload_n (pc := 52) dX12_init_52 rfl ?_
  refine rs_bipush (v := 80) (pc := 53) dX12_init_53 rfl ?_
  refine cw_newI (N := 80) (m := 7) (pc := 55) dX12_init_55 (by decide) (by decide) (by decide) rfl ?_
  refine cw_putF (k := 12) (i := 0) (pc := 57) dX12_init_57 ffX12_28 rfl rfl rfl (Nat.le_of_ble_eq_true rfl) ?_
  refine rs_aload_n (pc := 60) dX12_init_60 rfl ?_
  refine rs_sipush (v := 400) (pc := 61) dX12_init_61 rfl ?_
  refine cw_newI (N := 400) (m := 8) (pc := 64) dX12_init_64 (by decide) (by decide) (by decide) rfl ?_
  refine cw_putF (k := 13) (i := 0) (pc := 66) dX12_init_66 ffX12_31 rfl rfl rfl (Nat.le_of_ble_eq_true rfl) ?_
  refine rs_aload_n (pc := 69) dX12_init_69 rfl ?_
  refine rs_sipush (v := 400) (pc := 70) dX12_init_70 rfl ?_
  refine cw_newI (N := 400) (m := 9) (pc := 73) dX12_init_73 (by decide) (by decide) (by decide) rfl ?_
  refine cw_putF (k := 14) (i := 0) (pc := 75) dX12_init_75 ffX12_34 rfl rfl rfl (Nat.le_of_ble_eq_true rfl) ?_
  refine rs_aload_n (pc := 78) dX12_init_78 rfl ?_
  refine rs_sipush (v := 400) (pc := 79) dX12_init_79 rfl ?_
  refine cw_newI (N := 400) (m := 10) (pc := 82) dX12_init_82 (by decide) (by decide) (by decide) rfl ?_
  refine cw_putF (k := 15) (i := 0) (pc := 84) dX12_init_84 ffX12_37 rfl rfl rfl (Nat.le_of_ble_eq_true rfl) ?_
  refine rs_aload_n (pc := 87) dX12_init_87 rfl ?_
  refine rs_sipush (v := 400) (pc := 88) dX12_init_88 rfl ?_
  refine cw_newI (N := 400) (m := 11) (pc := 91) dX12_init_91 (by decide) (by decide) (by decide) rfl ?_
  refine cw_putF (k := 16) (i := 0) (pc := 93) dX12_init_93 ffX12_40 rfl rfl rfl (Nat.le_of_ble_eq_true rfl) ?_
  refine rs_aload_n (pc := 96) dX12_init_96 rfl ?_
  refine rs_sipush (v := 400) (pc := 97) dX12_init_97 rfl ?_
  refine cw_newI (N := 400) (m := 12) (pc := 100) dX12_init_100 (by decide) (by decide) (by decide) rfl ?_
  refine cw_putF (k := 17) (i := 0) (pc := 102) dX12_init_102 ffX12_43 rfl rfl rfl (Nat.le_of_ble_eq_true rfl) ?_
  refine rs_aload_n (pc := 105) dX12_init_105 rfl ?_
  refine rs_sipush (v := 400) (pc := 106) dX12_init_106 rfl ?_
  refine cw_newI (N := 400) (m := 13) (pc := 109) dX12_init_109 (by decide) (by decide) (by decide) rfl ?_
  refine cw_putF (k := 18) (i := 0) (pc := 111) dX12_init_111 ffX12_46 rfl rfl rfl (Nat.le_of_ble_eq_true rfl) ?_
  refine rs_aload_n (pc := 114) dX12_init_114 rfl ?_
  refine rs_sipush (v := 400) (pc := 115) dX12_init_115 rfl ?_
  refine cw_newI (N := 400) (m := 14) (pc := 118) dX12_init_118 (by decide) (by decide) (by decide) rfl ?_
  refine cw_putF (k := 19) (i := 0) (pc := 120) dX12_init_120 ffX12_49 rfl rfl rfl (Nat.le_of_ble_eq_true rfl) ?_
  refine rs_aload_n (pc := 123) dX12_init_123 rfl ?_
  refine rs_sipush (v := 400) (pc := 124) dX12_init_124 rfl ?_
  refine cw_newI (N := 400) (m := 15) (pc := 127) dX12_init_127 (by decide) (by decide) (by decide) rfl ?_
  refine cw_putF (k := 20) (i := 0) (pc := 129) dX12_init_129 ffX12_52 rfl rfl rfl (Nat.le_of_ble_eq_true rfl) ?_
  refine rs_aload_n (pc := 132) dX12_init_132 rfl ?_
  refine rs_sipush (v := 400) (pc := 133) dX12_init_133 rfl ?_
  refine cw_newI (N := 400) (m := 16) (pc := 136) dX12_init_136 (by decide) (by decide) (by decide) rfl ?_
  refine cw_putF (k := 21) (i := 0) (pc := 138) dX12_init_138 ffX12_55 rfl rfl rfl (Nat.le_of_ble_eq_true rfl) ?_
  refine rs_aload_n (pc := 141) dX12_init_141 rfl ?_
  refine rs_sipush (v := 400) (pc := 142) dX12_init_142 rfl ?_
  refine cw_newB (N := 400) (m := 17) (pc := 145) dX12_init_145 (by decide) (by decide) (by decide) rfl ?_
  refine cw_putF (k := 30) (i := 0) (pc := 147) dX12_init_147 ffX12_58 rfl rfl rfl (Nat.le_of_ble_eq_true rfl) ?_
  refine rs_aload_n (pc := 150) dX12_init_150 rfl ?_
  refine rs_sipush (v := 3000) (pc := 151) dX12_init_151 rfl ?_
  refine cw_newI (N := 3000) (m := 18) (pc := 154) dX12_init_154 (by decide) (by decide) (by decide) rfl ?_
  refine cw_putF (k := 31) (i := 0) (pc := 156) dX12_init_156 ffX12_62 rfl rfl rfl (Nat.le_of_ble_eq_true rfl) ?_
  refine rs_aload_n (pc := 159) dX12_init_159 rfl ?_
  refine rs_sipush (v := 3000) (pc := 160) dX12_init_160 rfl ?_
  refine cw_newI (N := 3000) (m := 19) (pc := 163) dX12_init_163 (by decide) (by decide) (by decide) rfl ?_
  refine cw_putF (k := 32) (i := 0) (pc := 165) dX12_init_165 ffX12_65 rfl rfl rfl (Nat.le_of_ble_eq_true rfl) ?_
  refine rs_aload_n (pc := 168) dX12_init_168 rfl ?_
  refine rs_bipush (v := 10) (pc := 169) dX12_init_169 rfl ?_
  refine cw_newI (N := 10) (m := 20) (pc := 171) dX12_init_171 (by decide) (by decide) (by decide) rfl ?_
  refine cw_putF (k := 33) (i := 0) (pc := 173) dX12_init_173 ffX12_68 rfl rfl rfl (Nat.le_of_ble_eq_true rfl) ?_
  refine rs_aload_n (pc := 176) dX12_init_176 rfl ?_
  refine rs_bipush (v := 120) (pc := 177) dX12_init_177 rfl ?_
  refine cw_newI (N := 120) (m := 21) (pc := 179) dX12_init_179 (by decide) (by decide) (by decide) rfl ?_
  refine cw_putF (k := 34) (i := 0) (pc := 181) dX12_init_181 ffX12_71 rfl rfl rfl (Nat.le_of_ble_eq_true rfl) ?_
  refine rs_aload_n (pc := 184) dX12_init_184 rfl ?_
  refine rs_bipush (v := 120) (pc := 185) dX12_init_185 rfl ?_
  refine cw_newI (N := 120) (m := 22) (pc := 187) dX12_init_187 (by decide) (by decide) (by decide) rfl ?_
  refine cw_putF (k := 35) (i := 0) (pc := 189) dX12_init_189 ffX12_74 rfl rfl rfl (Nat.le_of_ble_eq_true rfl) ?_
  refine rs_aload_n (pc := 192) dX12_init_192 rfl ?_
  refine rs_bipush (v := 120) (pc := 193) dX12_init_193 rfl ?_
  refine cw_newI (N := 120) (m := 23) (pc := 195) dX12_init_195 (by decide) (by decide) (by decide) rfl ?_
  refine cw_putF (k := 36) (i := 0) (pc := 197) dX12_init_197 ffX12_77 rfl rfl rfl (Nat.le_of_ble_eq_true rfl) ?_
  refine rs_aload_n (pc := 200) dX12_init_200 rfl ?_
  refine rs_sipush (v := 402) (pc := 201) dX12_init_201 rfl ?_
  refine cw_newI (N := 402) (m := 24) (pc := 204) dX12_init_204 (by decide) (by decide) (by decide) rfl ?_
  refine cw_putF (k := 37) (i := 0) (pc := 206) dX12_init_206 ffX12_80 rfl rfl rfl (Nat.le_of_ble_eq_true rfl) ?_
  refine rs_aload_n (pc := 209) dX12_init_209 rfl ?_
  refine rs_bipush (v := 10) (pc := 210) dX12_init_210 rfl ?_
  refine cw_newJ (N := 10) (m := 25) (pc := 212) dX12_init_212 (by decide) (by decide) (by decide) rfl ?_
  refine cw_putF (k := 38) (i := 0) (pc := 214) dX12_init_214 ffX12_83 rfl rfl rfl (Nat.le_of_ble_eq_true rfl) ?_
  refine rs_aload_n (pc := 217) dX12_init_217 rfl ?_
  refine rs_sipush (v := 300) (pc := 218) dX12_init_218 rfl ?_
  refine cw_newJ (N := 300) (m := 26) (pc := 221) dX12_init_221 (by decide) (by decide) (by decide) rfl ?_
  refine cw_putF (k := 39) (i := 0) (pc := 223) dX12_init_223 ffX12_87 rfl rfl rfl (Nat.le_of_ble_eq_true rfl) ?_
  refine rs_aload_n (pc := 226) dX12_init_226 rfl ?_
  refine rs_sipush (v := 400) (pc := 227) dX12_init_227 rfl ?_
  refine cw_newI (N := 400) (m := 27) (pc := 230) dX12_init_230 (by decide) (by decide) (by decide) rfl ?_
  refine cw_putF (k := 41) (i := 0) (pc := 232) dX12_init_232 ffX12_90 rfl rfl rfl (Nat.le_of_ble_eq_true rfl) ?_
  refine rs_aload_n (pc := 235) dX12_init_235 rfl ?_
  refine rs_sipush (v := 400) (pc := 236) dX12_init_236 rfl ?_
  refine cw_newI (N := 400) (m := 28) (pc := 239) dX12_init_239 (by decide) (by decide) (by decide) rfl ?_
  refine cw_putF (k := 42) (i := 0) (pc := 241) dX12_init_241 ffX12_93 rfl rfl rfl (Nat.le_of_ble_eq_true rfl) ?_
  refine rs_aload_n (pc := 244) dX12_init_244 rfl ?_
  refine rs_sipush (v := 400) (pc := 245) dX12_init_245 rfl ?_
  refine cw_newI (N := 400) (m := 29) (pc := 248) dX12_init_248 (by decide) (by decide) (by decide) rfl ?_
  refine cw_putF (k := 43) (i := 0) (pc := 250) dX12_init_250 ffX12_96 rfl rfl rfl (Nat.le_of_ble_eq_true rfl) ?_
  refine rs_aload_n (pc := 253) dX12_init_253 rfl ?_
  refine rs_sipush (v := 400) (pc := 254) dX12_init_254 rfl ?_
  refine cw_newI (N := 400) (m := 30) (pc := 257) dX12_init_257 (by decide) (by decide) (by decide) rfl ?_
  refine cw_putF (k := 44) (i := 0) (pc := 259) dX12_init_259 ffX12_99 rfl rfl rfl (Nat.le_of_ble_eq_true rfl) ?_
  refine rs_aload_n (pc := 262) dX12_init_262 rfl ?_
  refine rs_sipush (v := 400) (pc := 263) dX12_init_263 rfl ?_
  refine cw_newI (N := 400) (m := 31) (pc := 266) dX12_init_266 (by decide) (by decide) (by decide) rfl ?_
  refine cw_putF (k := 45) (i := 0) (pc := 268) dX12_init_268 ffX12_102 rfl rfl rfl (Nat.le_of_ble_eq_true rfl) ?_
  refine rs_aload_n (pc := 271) dX12_init_271 rfl ?_
  refine rs_sipush (v := 400) (pc := 272) dX12_init_272 rfl ?_
  refine cw_newI (N := 400) (m := 32) (pc := 275) dX12_init_275 (by decide) (by decide) (by decide) rfl ?_
  refine cw_putF (k := 46) (i := 0) (pc := 277) dX12_init_277 ffX12_105 rfl rfl rfl (Nat.le_of_ble_eq_true rfl) ?_
  refine rs_aload_n (pc := 280) dX12_init_280 rfl ?_
  refine rs_sipush (v := 400) (pc := 281) dX12_init_281 rfl ?_
  refine cw_newI (N := 400) (m := 33) (pc := 284) dX12_init_284 (by decide) (by decide) (by decide) rfl ?_
  refine cw_putF (k := 47) (i := 0) (pc := 286) dX12_init_286 ffX12_108 rfl rfl rfl (Nat.le_of_ble_eq_true rfl) ?_
  refine rs_aload_n (pc := 289) dX12_init_289 rfl ?_
  refine rs_sipush (v := 400) (pc := 290) dX12_init_290 rfl ?_
  refine cw_newJ (N := 400) (m := 34) (pc := 293) dX12_init_293 (by decide) (by decide) (by decide) rfl ?_
  refine cw_putF (k := 48) (i := 0) (pc := 295) dX12_init_295 ffX12_111 rfl rfl rfl (Nat.le_of_ble_eq_true rfl) ?_
  refine rs_aload_n (pc := 298) dX12_init_298 rfl ?_
  refine rs_sipush (v := 400) (pc := 299) dX12_init_299 rfl ?_
  refine cw_newJ (N := 400) (m := 35) (pc := 302) dX12_init_302 (by decide) (by decide) (by decide) rfl ?_
  refine cw_putF (k := 49) (i := 0) (pc := 304) dX12_init_304 ffX12_114 rfl rfl rfl (Nat.le_of_ble_eq_true rfl) ?_
  refine rs_aload_n (pc := 307) dX12_init_307 rfl ?_
  refine rs_sipush (v := 256) (pc := 308) dX12_init_308 rfl ?_
  refine cw_newI (N := 256) (m := 36) (pc := 311) dX12_init_311 (by decide) (by decide) (by decide) rfl ?_
  refine cw_putF (k := 50) (i := 0) (pc := 313) dX12_init_313 ffX12_117 rfl rfl rfl (Nat.le_of_ble_eq_true rfl) ?_
  refine rs_aload_n (pc := 316) dX12_init_316 rfl ?_
  refine rs_sipush (v := 256) (pc := 317) dX12_init_317 rfl ?_
  refine cw_newI (N := 256) (m := 37) (pc := 320) dX12_init_320 (by decide) (by decide) (by decide) rfl ?_
  refine cw_putF (k := 51) (i := 0) (pc := 322) dX12_init_322 ffX12_120 rfl rfl rfl (Nat.le_of_ble_eq_true rfl) ?_
  refine rs_aload_n (pc := 325) dX12_init_325 rfl ?_
  refine rs_sipush (v := 256) (pc := 326) dX12_init_326 rfl ?_
  refine cw_newI (N := 256) (m := 38) (pc := 329) dX12_init_329 (by decide) (by decide) (by decide) rfl ?_
  refine cw_putF (k := 52) (i := 0) (pc := 331) dX12_init_331 ffX12_123 rfl rfl rfl (Nat.le_of_ble_eq_true rfl) ?_
  refine rs_aload_n (pc := 334) dX12_init_334 rfl ?_
  refine rs_sipush (v := 256) (pc := 335) dX12_init_335 rfl ?_
  refine cw_newJ (N := 256) (m := 39) (pc := 338) dX12_init_338 (by decide) (by decide) (by decide) rfl ?_
  refine cw_putF (k := 53) (i := 0) (pc := 340) dX12_init_340 ffX12_126 rfl rfl rfl (Nat.le_of_ble_eq_true rfl) ?_
  refine rs_aload_n (pc := 343) dX12_init_343 rfl ?_
  refine rs_sipush (v := 256) (pc := 344) dX12_init_344 rfl ?_
  refine cw_newJ (N := 256) (m := 40) (pc := 347) dX12_init_347 (by decide) (by decide) (by decide) rfl ?_
  refine cw_putF (k := 54) (i := 0) (pc := 349) dX12_init_349 ffX12_129 rfl rfl rfl (Nat.le_of_ble_eq_true rfl) ?_
  refine rs_aload_n (pc := 352) dX12_init_352 rfl ?_
  refine rs_sipush (v := 256) (pc := 353) dX12_init_353 rfl ?_
  refine cw_newJ (N := 256) (m := 41) (pc := 356) dX12_init_356 (by decide) (by decide) (by decide) rfl ?_
  refine cw_putF (k := 55) (i := 0) (pc := 358) dX12_init_358 ffX12_132 rfl rfl rfl (Nat.le_of_ble_eq_true rfl) ?_
  refine rs_aload_n (pc := 361) dX12_init_361 rfl ?_
  refine rs_sipush (v := 256) (pc := 362) dX12_init_362 rfl ?_
  refine cw_newJ (N := 256) (m := 42) (pc := 365) dX12_init_365 (by decide) (by decide) (by decide) rfl ?_
  refine cw_putF (k := 56) (i := 0) (pc := 367) dX12_init_367 ffX12_135 rfl rfl rfl (Nat.le_of_ble_eq_true rfl) ?_
  refine rs_aload_n (pc := 370) dX12_init_370 rfl ?_
  refine rs_sipush (v := 256) (pc := 371) dX12_init_371 rfl ?_
  refine cw_newJ (N := 256) (m := 43) (pc := 374) dX12_init_374 (by decide) (by decide) (by decide) rfl ?_
  refine cw_putF (k := 57) (i := 0) (pc := 376) dX12_init_376 ffX12_138 rfl rfl rfl (Nat.le_of_ble_eq_true rfl) ?_
  refine rs_aload_n (pc := 379) dX12_init_379 rfl ?_
  refine rs_sipush (v := 256) (pc := 380) dX12_init_380 rfl ?_
  refine cw_newI (N := 256) (m := 44) (pc := 383) dX12_init_383 (by decide) (by decide) (by decide) rfl ?_
  refine cw_putF (k := 58) (i := 0) (pc := 385) dX12_init_385 ffX12_141 rfl rfl rfl (Nat.le_of_ble_eq_true rfl) ?_
  refine rs_aload_n (pc := 388) dX12_init_388 rfl ?_
  refine rs_sipush (v := 256) (pc := 389) dX12_init_389 rfl ?_
  refine cw_newI (N := 256) (m := 45) (pc := 392) dX12_init_392 (by decide) (by decide) (by decide) rfl ?_
  refine cw_putF (k := 59) (i := 0) (pc := 394) dX12_init_394 ffX12_144 rfl rfl rfl (Nat.le_of_ble_eq_true rfl) ?_
  refine rs_aload_n (pc := 397) dX12_init_397 rfl ?_
  refine rs_bipush (v := 9) (pc := 398) dX12_init_398 rfl ?_
  refine cw_newI (N := 9) (m := 46) (pc := 400) dX12_init_400 (by decide) (by decide) (by decide) rfl ?_
  refine cw_putF (k := 61) (i := 0) (pc := 402) dX12_init_402 ffX12_147 rfl rfl rfl (Nat.le_of_ble_eq_true rfl) ?_
  refine rs_aload_n (pc := 405) dX12_init_405 rfl ?_
  refine rs_bipush (v := 9) (pc := 406) dX12_init_406 rfl ?_
  refine cw_newI (N := 9) (m := 47) (pc := 408) dX12_init_408 (by decide) (by decide) (by decide) rfl ?_
  refine cw_putF (k := 62) (i := 0) (pc := 410) dX12_init_410 ffX12_150 rfl rfl rfl (Nat.le_of_ble_eq_true rfl) ?_
  refine rs_aload_n (pc := 413) dX12_init_413 rfl ?_
  refine rs_bipush (v := 9) (pc := 414) dX12_init_414 rfl ?_
  refine cw_newI (N := 9) (m := 48) (pc := 416) dX12_init_416 (by decide) (by decide) (by decide) rfl ?_
  refine cw_putF (k := 63) (i := 0) (pc := 418) dX12_init_418 ffX12_153 rfl rfl rfl (Nat.le_of_ble_eq_true rfl) ?_
  refine rs_aload_n (pc := 421) dX12_init_421 rfl ?_
  refine rs_bipush (v := 16) (pc := 422) dX12_init_422 rfl ?_
  refine cw_newI (N := 16) (m := 49) (pc := 424) dX12_init_424 (by decide) (by decide) (by decide) rfl ?_
  refine cw_putF (k := 64) (i := 0) (pc := 426) dX12_init_426 ffX12_156 rfl rfl rfl (Nat.le_of_ble_eq_true rfl) ?_
  refine rs_aload_n (pc := 429) dX12_init_429 rfl ?_
  refine rs_bipush (v := 62) (pc := 430) dX12_init_430 rfl ?_
  refine cw_newJ (N := 62) (m := 50) (pc := 432) dX12_init_432 (by decide) (by decide) (by decide) rfl ?_
  refine cw_putF (k := 65) (i := 0) (pc := 434) dX12_init_434 ffX12_159 rfl rfl rfl (Nat.le_of_ble_eq_true rfl) ?_
  refine rs_aload_n (pc := 437) dX12_init_437 rfl ?_
  refine rs_sipush (v := 400) (pc := 438) dX12_init_438 rfl ?_
  refine cw_newZ (N := 400) (m := 51) (pc := 441) dX12_init_441 (by decide) (by decide) (by decide) rfl ?_
  refine cw_putF (k := 66) (i := 0) (pc := 443) dX12_init_443 ffX12_162 rfl rfl rfl (Nat.le_of_ble_eq_true rfl) ?_
  refine rs_aload_n (pc := 446) dX12_init_446 rfl ?_
  refine rs_sipush (v := 15600) (pc := 447) dX12_init_447 rfl ?_
  refine cw_newI (N := 15600) (m := 52) (pc := 450) dX12_init_450 (by decide) (by decide) (by decide) rfl ?_
  refine cw_putF (k := 68) (i := 0) (pc := 452) dX12_init_452 ffX12_166 rfl rfl rfl (Nat.le_of_ble_eq_true rfl) ?_
  refine rs_aload_n (pc := 455) dX12_init_455 rfl ?_
  refine rs_bipush (v := 6) (pc := 456) dX12_init_456 rfl ?_
  refine cw_newI (N := 6) (m := 53) (pc := 458) dX12_init_458 (by decide) (by decide) (by decide) rfl ?_
  refine cw_putF (k := 69) (i := 0) (pc := 460) dX12_init_460 ffX12_169 rfl rfl rfl (Nat.le_of_ble_eq_true rfl) ?_
  refine rs_aload_n (pc := 463) dX12_init_463 rfl ?_
  refine rs_iconst (v := 4) (pc := 464) dX12_init_464 rfl ?_
  refine cw_newZ (N := 4) (m := 54) (pc := 465) dX12_init_465 (by decide) (by decide) (by decide) rfl ?_
  refine cw_putF (k := 70) (i := 0) (pc := 467) dX12_init_467 ffX12_172 rfl rfl rfl (Nat.le_of_ble_eq_true rfl) ?_
  refine rs_iconst (v := 0) (pc := 470) dX12_init_470 rfl ?_
  refine wk_istn1 (pc := 471) dX12_init_471 (by decide) rfl ?_
  have e : ∀ g : List va_E, g = m0 h.1 0 → ai_R MX12_init 472 [.ref h.1, .int (nI 0)] [] (ap h g) none (ap h (m0 h.1 16)) := fun g hg => by
    rw [hg]
    exact l_X12_init 16 0 rfl
  refine e _ ?_
  have e2 : own0 0 = fun _ => 0 := by funext i; simp [own0]
  unfold m0
  rw [e2]
  rfl
