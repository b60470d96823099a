/-! 62: constructors of Meetings, EachLater and the model -/
theorem dX4_init_0 : decode cX4_init 0 = .ok (.aload_n 0, 1) := by decide +kernel
theorem dX4_init_1 : decode cX4_init 1 = .ok (.invokespecial 3, 3) := by decide +kernel
theorem dX4_init_4 : decode cX4_init 4 = .ok (.aload_n 0, 1) := by decide +kernel
theorem dX4_init_5 : decode cX4_init 5 = .ok (.sipush 256, 3) := by decide +kernel
theorem dX4_init_8 : decode cX4_init 8 = .ok (.anewarray 9, 3) := by decide +kernel
theorem dX4_init_11 : decode cX4_init 11 = .ok (.putfield 11, 3) := by decide +kernel
theorem dX4_init_14 : decode cX4_init 14 = .ok (.aload_n 0, 1) := by decide +kernel
theorem dX4_init_15 : decode cX4_init 15 = .ok (.new 9, 3) := by decide +kernel
theorem dX4_init_18 : decode cX4_init 18 = .ok (.dup, 1) := by decide +kernel
theorem dX4_init_19 : decode cX4_init 19 = .ok (.invokespecial 17, 3) := by decide +kernel
theorem dX4_init_22 : decode cX4_init 22 = .ok (.putfield 18, 3) := by decide +kernel
theorem dX4_init_25 : decode cX4_init 25 = .ok (.iconst 0, 1) := by decide +kernel
theorem dX4_init_26 : decode cX4_init 26 = .ok (.istore_n 1, 1) := by decide +kernel
theorem dX4_init_27 : decode cX4_init 27 = .ok (.iload_n 1, 1) := by decide +kernel
theorem dX4_init_28 : decode cX4_init 28 = .ok (.aload_n 0, 1) := by decide +kernel
theorem dX4_init_29 : decode cX4_init 29 = .ok (.getfield 11, 3) := by decide +kernel
theorem dX4_init_32 : decode cX4_init 32 = .ok (.arraylength, 1) := by decide +kernel
theorem dX4_init_33 : decode cX4_init 33 = .ok (.if_icmp .ge 22, 3) := by decide +kernel
theorem dX4_init_36 : decode cX4_init 36 = .ok (.aload_n 0, 1) := by decide +kernel
theorem dX4_init_37 : decode cX4_init 37 = .ok (.getfield 11, 3) := by decide +kernel
theorem dX4_init_40 : decode cX4_init 40 = .ok (.iload_n 1, 1) := by decide +kernel
theorem dX4_init_41 : decode cX4_init 41 = .ok (.new 9, 3) := by decide +kernel
theorem dX4_init_44 : decode cX4_init 44 = .ok (.dup, 1) := by decide +kernel
theorem dX4_init_45 : decode cX4_init 45 = .ok (.invokespecial 17, 3) := by decide +kernel
theorem dX4_init_48 : decode cX4_init 48 = .ok (.aastore, 1) := by decide +kernel
theorem dX4_init_49 : decode cX4_init 49 = .ok (.iinc 1 1, 3) := by decide +kernel
theorem dX4_init_52 : decode cX4_init 52 = .ok (.goto (-25), 3) := by decide +kernel
theorem dX4_init_55 : decode cX4_init 55 = .ok (.return_, 1) := by decide +kernel
def trw (q n : Nat) : Nat → Option Nat := fun i => if i < n then some (q + 3 + i) else none
def mt0 (q n : Nat) : List va_E := [.inr (4, [.ref (q + 1), .ref (q + 2)]), .inl (4, 256, .inr (.inr (.inr (.inr (trw q n))))), .inr (9, [.int 0, .long 0, .long 0, .long 0])] ++ List.replicate n (.inr (9, [.int 0, .long 0, .long 0, .long 0]))
theorem trw_1 (q n : Nat) : va_up (trw q n) n (some (q + (3 + n))) = trw q (n + 1) := by
  funext i
  by_cases h : i = n
  · subst h
    simp [va_up, trw, Nat.add_assoc]
  · simp only [va_up, if_neg h, trw]
    by_cases h2 : i < n
    · rw [if_pos h2, if_pos (by omega)]
    · rw [if_neg h2, if_neg (by omega)]
theorem mt0_1 (q n : Nat) : (mt0 q n ++ ty0).set 1 (.inl (4, 256, .inr (.inr (.inr (.inr (va_up (trw q n) n (some (q + (3 + n))))))))) = mt0 q (n + 1) := by
  rw [trw_1]
  unfold mt0 ty0
  rw [List.replicate_succ']
  simp
theorem mt0_len (q n : Nat) : (mt0 q n).length = 3 + n := by simp [mt0]; omega
set_option maxRecDepth 100000 in
set_option maxHeartbeats 4000000 in
theorem l_X4_init {h : ai_H} : ∀ (j i : Nat), i + j = 256 → ai_R MX4_init 27 [.ref h.1, .int (nI i)] [] (ap h (mt0 h.1 i)) none (ap h (mt0 h.1 256)) := by
  intro j
  induction j with
  | zero =>
    intro i hi
    have e : i = 256 := by omega
    subst e
    refine rs_iload_n (pc := 27) dX4_init_27 rfl ?_
    refine rs_aload_n (pc := 28) dX4_init_28 rfl ?_
    refine rs_getf (pc := 29) dX4_init_29 fX4_11 (ap_lt (i := 0) rfl) (ap_get (i := 0) rfl) rfl ?_
    refine rs_alen (pc := 32) dX4_init_32 (fun _ => rfl) (ap_lt (i := 1) rfl) (ap_get (i := 1) rfl) rfl ?_
    refine rs_icmp_ge (tgt := 55) (pc := 33) dX4_init_33 rfl (fun c_33 => ?_) (fun c_33 => absurd c_33 (fun z => z (show nI 256 ≤ nI 256 by decide)))
    exact wk_vret (pc := 55) dX4_init_55 rfl rfl rfl
  | succ j ih =>
    intro i hi
    have hlt : i < 256 := by omega
    refine rs_iload_n (pc := 27) dX4_init_27 rfl ?_
    refine rs_aload_n (pc := 28) dX4_init_28 rfl ?_
    refine rs_getf (pc := 29) dX4_init_29 fX4_11 (ap_lt (i := 0) rfl) (ap_get (i := 0) rfl) rfl ?_
    refine rs_alen (pc := 32) dX4_init_32 (fun _ => rfl) (ap_lt (i := 1) rfl) (ap_get (i := 1) rfl) rfl ?_
    refine rs_icmp_ge (tgt := 55) (pc := 33) dX4_init_33 rfl (fun c_33 => absurd (lp_exit (sz := 256) rfl (by decide) (by omega) c_33) (by omega)) (fun c_33 => ?_)
    refine rs_aload_n (pc := 36) dX4_init_36 rfl ?_
    refine rs_getf (pc := 37) dX4_init_37 fX4_11 (ap_lt (i := 0) rfl) (ap_get (i := 0) rfl) rfl ?_
    refine rs_iload_n (pc := 40) dX4_init_40 rfl ?_
    refine cw_new (n := 3 + i) [.int 0, .long 0, .long 0, .long 0] (pc := 41) dX4_init_41 kX9 clX4_9 nX9 dfX9 rfl rfl (mt0_len _ _) ?_
    refine rs_dup (pc := 44) dX4_init_44 rfl ?_
    refine cw_init (as := []) (b := 3 + i) (pc := 45) dX4_init_45 mk_X9_init rfl mlX4_17 in_X9_init rfl rfl rfl (Nat.le_of_ble_eq_true rfl) (mt0_len _ _) (c_X9_init (ap_q rfl (mt0_len _ _))) ?_
    have g0 : (mt0 h.1 i ++ ty0)[1]? = some (.inl (4, 256, .inr (.inr (.inr (.inr (trw h.1 i)))))) := rfl
    have g1 : (mt0 h.1 i ++ ty0)[3 + i]? = some (.inr (9, [.int 0, .long 0, .long 0, .long 0])) := by
      rw [List.getElem?_append_right (by rw [mt0_len]; exact Nat.le_refl _), mt0_len, Nat.sub_self]
      rfl
    refine rs_aast (pc := 48) (k := 4) dX4_init_48 (fun _ => rfl) rfl (ap_lt g0) (ap_get g0) (ap_lt g1) (ap_get g1) (vp_in_nI (n := i) (N := 256) (by omega) (by decide)) ?_
    rw [ap_set g0 (by simp [csl]), nI_clamp (show i < 2 ^ 31 by omega), mt0_1]
    refine wk_iinc1 (v := nI (i + 1)) (pc := 49) dX4_init_49 (by decide) rfl (nI_1 i) ?_
    refine rs_goto (tgt := 27) (pc := 52) dX4_init_52 rfl ?_
    exact ih (i + 1) (by omega)
set_option maxRecDepth 100000 in
set_option maxHeartbeats 4000000 in
theorem c_X4_init {h : ai_H} {q : Nat} (hq : h.1 = q) : ai_Met MX4_init (.ref q :: []) (ap h [.inr (4, [.null, .null])]) none (ap h (mt0 q 256)) := by
  subst hq
  refine ai_met (ls := [.ref h.1, .float 0]) (by decide) (by simp [ai_en, Value.category]) (by rfl) ?_
  show ai_R _ _ _ _ (ap h _) _ _
  refine rs_aload_n (pc := 0) dX4_init_0 rfl ?_
  refine rs_obj (pc := 1) dX4_init_1 mlX4_3 ob_in ob_co (by decide) (Nat.le_of_ble_eq_true rfl) ?_
  refine rs_aload_n (pc := 4) dX4_init_4 rfl ?_
  refine rs_sipush (v := 256) (pc := 5) dX4_init_5 rfl ?_
  refine cw_newQ (N := 256) (m := 1) (k := 4) (pc := 8) dX4_init_8 clX4_9 (fun _ => rfl) (by decide) (by decide) (by decide) (by decide) rfl ?_
  refine cw_putF (k := 0) (i := 0) (pc := 11) dX4_init_11 ffX4_11 rfl rfl rfl (Nat.le_of_ble_eq_true rfl) ?_
  refine rs_aload_n (pc := 14) dX4_init_14 rfl ?_
  refine cw_new (n := 2) [.int 0, .long 0, .long 0, .long 0] (pc := 15) dX4_init_15 kX9 clX4_9 nX9 dfX9 rfl rfl rfl ?_
  refine rs_dup (pc := 18) dX4_init_18 rfl ?_
  refine cw_init (as := []) (b := 2) (pc := 19) dX4_init_19 mk_X9_init rfl mlX4_17 in_X9_init rfl rfl rfl (Nat.le_of_ble_eq_true rfl) rfl (c_X9_init (ap_q rfl rfl)) ?_
  refine cw_putF (k := 1) (i := 0) (pc := 22) dX4_init_22 ffX4_18 rfl rfl rfl (Nat.le_of_ble_eq_true rfl) ?_
  refine rs_iconst (v := 0) (pc := 25) dX4_init_25 rfl ?_
  refine wk_istn1 (pc := 26) dX4_init_26 (by decide) rfl ?_
  have e : ∀ g : List va_E, g = mt0 h.1 0 → ai_R MX4_init 27 [.ref h.1, .int (nI 0)] [] (ap h g) none (ap h (mt0 h.1 256)) := fun g hg => by
    rw [hg]
    exact l_X4_init 256 0 rfl
  refine e _ ?_
  unfold mt0 ty0
  have : trw h.1 0 = fun _ => none := by funext i; simp [trw]
  rw [this]
  rfl
