/-! 99l: the law's loop and its start (laid by a program) -/
theorem dL_0 : decode code 0 = .ok (.new 7, 3) := by decide +kernel
theorem dL_3 : decode code 3 = .ok (.dup, 1) := by decide +kernel
theorem dL_4 : decode code 4 = .ok (.invokespecial 9, 3) := by decide +kernel
theorem dL_7 : decode code 7 = .ok (.astore_n 1, 1) := by decide +kernel
theorem dL_8 : decode code 8 = .ok (.new 10, 3) := by decide +kernel
theorem dL_11 : decode code 11 = .ok (.dup, 1) := by decide +kernel
theorem dL_12 : decode code 12 = .ok (.invokespecial 12, 3) := by decide +kernel
theorem dL_15 : decode code 15 = .ok (.astore_n 2, 1) := by decide +kernel
theorem dL_16 : decode code 16 = .ok (.iconst 0, 1) := by decide +kernel
theorem dL_17 : decode code 17 = .ok (.istore_n 3, 1) := by decide +kernel
theorem dL_18 : decode code 18 = .ok (.iload_n 3, 1) := by decide +kernel
theorem dL_19 : decode code 19 = .ok (.aload_n 0, 1) := by decide +kernel
theorem dL_20 : decode code 20 = .ok (.arraylength, 1) := by decide +kernel
theorem dL_21 : decode code 21 = .ok (.bipush 8, 2) := by decide +kernel
theorem dL_23 : decode code 23 = .ok (.isub, 1) := by decide +kernel
theorem dL_24 : decode code 24 = .ok (.if_icmp .gt 1467, 3) := by decide +kernel
theorem dL_27 : decode code 27 = .ok (.aload_n 0, 1) := by decide +kernel
theorem dL_28 : decode code 28 = .ok (.iload_n 3, 1) := by decide +kernel
theorem dL_29 : decode code 29 = .ok (.iaload, 1) := by decide +kernel
theorem dL_30 : decode code 30 = .ok (.bipush 31, 2) := by decide +kernel
theorem dL_32 : decode code 32 = .ok (.iand, 1) := by decide +kernel
theorem dL_33 : decode code 33 = .ok (.tableswitch 1452 0 31 #[143, 166, 189, 232, 265, 352, 375, 450, 513, 536, 549, 582, 635, 688, 741, 774, 827, 871, 924, 958, 981, 1068, 1121, 1164, 1187, 1220, 1233, 1287, 1320, 1383, 1406, 1429], 143) := by decide +kernel
theorem dL_1485 : decode code 1485 = .ok (.iinc 3 8, 3) := by decide +kernel
theorem dL_1488 : decode code 1488 = .ok (.goto (-1470), 3) := by decide +kernel
theorem dL_1491 : decode code 1491 = .ok (.iconst 1, 1) := by decide +kernel
theorem dL_1492 : decode code 1492 = .ok (.ireturn, 1) := by decide +kernel
theorem and31 (y : Int32) : ∃ k, k < 32 ∧ y &&& 31 = nI k := by
  refine ⟨(y &&& 31).toBitVec.toNat, ?_, ?_⟩
  · show (y.toBitVec &&& (31 : Int32).toBitVec).toNat < 32
    rw [BitVec.toNat_and]
    exact Nat.lt_of_le_of_lt Nat.and_le_right (by decide)
  · apply Int32.toBitVec_inj.mp
    show (y &&& 31).toBitVec = BitVec.ofNat 32 (y &&& 31).toBitVec.toNat
    rw [BitVec.ofNat_toNat, BitVec.setWidth_eq]
theorem lz_lt {L n : Nat} (hL : L ≤ 4096) (hn : n ≤ 5000) : Int32.ofNat L - 8 < nI n ↔ (L : Int) - 8 < n := by
  have e1 : Int32.ofNat L - 8 = aI ((L : Int) - 8) := aI_sub (L : Int) 8
  rw [e1, ← aI_nat, aI_lt (by omega) (by omega) (by omega) (by omega)]
set_option maxHeartbeats 4000000 in
theorem lz_loop {b L : Nat} {xs : Nat → Int32} (hL : L ≤ 4096) : ∀ (m n : Nat) (h : ai_H), 8 * n ≤ L → L < 8 * (n + m) → JI h → h.1 ≤ 362 + 11 * n → h.2.1 ≤ 100000 + 3917 * n → lz_R b L xs 18 [.retAddr 31, .ref 0, .ref 307, .int (nI (8 * n))] [] h
  | 0, n, h, a, c, _, _, _ => absurd c (by omega)
  | m + 1, n, h, a, c, J, s1, s2 => by
    have rc := rm_c
    have rs := rm_s
    refine lz_head (tgt := 1491) dL_18 dL_19 dL_20 dL_21 dL_23 dL_24 (by decide) (fun z => ?_) (fun z => ?_)
    · exact lz_end dL_1491 dL_1492 (by omega) (by omega)
    · rw [lz_lt hL (by omega)] at z
      have hn : 8 * n + 8 ≤ L := by omega
      have hi : ∀ v : Nat, v < 8 → vp_in (nI (8 * n) + nI v) L := fun v hv => by
        rw [nI_add]
        exact vp_in_nI (by omega) (by omega)
      refine lz_which dL_27 dL_28 dL_29 dL_30 dL_32 (vp_in_nI (by omega) (by omega)) ?_
      have hv8 : nI (8 * n) + Int32.ofInt 8 = nI (8 * (n + 1)) := by
        rw [show Int32.ofInt 8 = nI 8 from by decide +kernel, nI_add]
        exact congrArg nI (by omega)
      have kx : ∀ h2, JI h2 → h2.1 ≤ h.1 + 11 → h2.2.1 ≤ h.2.1 + 3917 → lz_R b L xs 1485 [.retAddr 31, .ref 0, .ref 307, .int (nI (8 * n))] [] h2 := by
        intro h2 J2 z1 z2
        have q1 : h2.1 ≤ 362 + 11 * (n + 1) := by omega
        have q2 : h2.2.1 ≤ 100000 + 3917 * (n + 1) := by
          rw [Nat.mul_add_one, ← Nat.add_assoc]
          exact Nat.le_trans z2 (Nat.add_le_add_right s2 3917)
        exact lz_next (v := nI (8 * (n + 1))) (tgt := 18) dL_1485 dL_1488 (by decide) hv8 rfl (lz_loop hL m (n + 1) h2 (by omega) (by omega) J2 q1 q2)
      have r1 : h.1 + 11 ≤ room_1.cells := by omega
      have r2 : h.2.1 + 3917 ≤ room_1.slots := by omega
      obtain ⟨k, hk, ek⟩ := and31 (xs (nI (8 * n)).toNatClampNeg)
      rw [ek]
      have hk2 : k = 0 ∨ k = 1 ∨ k = 2 ∨ k = 3 ∨ k = 4 ∨ k = 5 ∨ k = 6 ∨ k = 7 ∨ k = 8 ∨ k = 9 ∨ k = 10 ∨ k = 11 ∨ k = 12 ∨ k = 13 ∨ k = 14 ∨ k = 15 ∨ k = 16 ∨ k = 17 ∨ k = 18 ∨ k = 19 ∨ k = 20 ∨ k = 21 ∨ k = 22 ∨ k = 23 ∨ k = 24 ∨ k = 25 ∨ k = 26 ∨ k = 27 ∨ k = 28 ∨ k = 29 ∨ k = 30 ∨ k = 31 := by omega
      rcases hk2 with rfl | rfl | rfl | rfl | rfl | rfl | rfl | rfl | rfl | rfl | rfl | rfl | rfl | rfl | rfl | rfl | rfl | rfl | rfl | rfl | rfl | rfl | rfl | rfl | rfl | rfl | rfl | rfl | rfl | rfl | rfl | rfl
      · exact lz_tab (tgt := 176) (off := 143) dL_33 (by decide) (by decide) rfl (by decide) (lz_c0 hi J r1 r2 kx)
      · exact lz_tab (tgt := 199) (off := 166) dL_33 (by decide) (by decide) rfl (by decide) (lz_c1 hi J r1 r2 kx)
      · exact lz_tab (tgt := 222) (off := 189) dL_33 (by decide) (by decide) rfl (by decide) (lz_c2 hi J r1 r2 kx)
      · exact lz_tab (tgt := 265) (off := 232) dL_33 (by decide) (by decide) rfl (by decide) (lz_c3 hi J r1 r2 kx)
      · exact lz_tab (tgt := 298) (off := 265) dL_33 (by decide) (by decide) rfl (by decide) (lz_c4 hi J r1 r2 kx)
      · exact lz_tab (tgt := 385) (off := 352) dL_33 (by decide) (by decide) rfl (by decide) (lz_c5 hi J r1 r2 kx)
      · exact lz_tab (tgt := 408) (off := 375) dL_33 (by decide) (by decide) rfl (by decide) (lz_c6 hi J r1 r2 kx)
      · exact lz_tab (tgt := 483) (off := 450) dL_33 (by decide) (by decide) rfl (by decide) (lz_c7 hi J r1 r2 kx)
      · exact lz_tab (tgt := 546) (off := 513) dL_33 (by decide) (by decide) rfl (by decide) (lz_c8 hi J r1 r2 kx)
      · exact lz_tab (tgt := 569) (off := 536) dL_33 (by decide) (by decide) rfl (by decide) (lz_c9 hi J r1 r2 kx)
      · exact lz_tab (tgt := 582) (off := 549) dL_33 (by decide) (by decide) rfl (by decide) (lz_c10 hi J r1 r2 kx)
      · exact lz_tab (tgt := 615) (off := 582) dL_33 (by decide) (by decide) rfl (by decide) (lz_c11 hi J r1 r2 kx)
      · exact lz_tab (tgt := 668) (off := 635) dL_33 (by decide) (by decide) rfl (by decide) (lz_c12 hi J r1 r2 kx)
      · exact lz_tab (tgt := 721) (off := 688) dL_33 (by decide) (by decide) rfl (by decide) (lz_c13 hi J r1 r2 kx)
      · exact lz_tab (tgt := 774) (off := 741) dL_33 (by decide) (by decide) rfl (by decide) (lz_c14 hi J r1 r2 kx)
      · exact lz_tab (tgt := 807) (off := 774) dL_33 (by decide) (by decide) rfl (by decide) (lz_c15 hi J r1 r2 kx)
      · exact lz_tab (tgt := 860) (off := 827) dL_33 (by decide) (by decide) rfl (by decide) (lz_c16 hi J r1 r2 kx)
      · exact lz_tab (tgt := 904) (off := 871) dL_33 (by decide) (by decide) rfl (by decide) (lz_c17 hi J r1 r2 kx)
      · exact lz_tab (tgt := 957) (off := 924) dL_33 (by decide) (by decide) rfl (by decide) (lz_c18 hi J r1 r2 kx)
      · exact lz_tab (tgt := 991) (off := 958) dL_33 (by decide) (by decide) rfl (by decide) (lz_c19 hi J r1 r2 kx)
      · exact lz_tab (tgt := 1014) (off := 981) dL_33 (by decide) (by decide) rfl (by decide) (lz_c20 hi J r1 r2 kx)
      · exact lz_tab (tgt := 1101) (off := 1068) dL_33 (by decide) (by decide) rfl (by decide) (lz_c21 hi J r1 r2 kx)
      · exact lz_tab (tgt := 1154) (off := 1121) dL_33 (by decide) (by decide) rfl (by decide) (lz_c22 hi J r1 r2 kx)
      · exact lz_tab (tgt := 1197) (off := 1164) dL_33 (by decide) (by decide) rfl (by decide) (lz_c23 hi J r1 r2 kx)
      · exact lz_tab (tgt := 1220) (off := 1187) dL_33 (by decide) (by decide) rfl (by decide) (lz_c24 hi J r1 r2 kx)
      · exact lz_tab (tgt := 1253) (off := 1220) dL_33 (by decide) (by decide) rfl (by decide) (lz_c25 hi J r1 r2 kx)
      · exact lz_tab (tgt := 1266) (off := 1233) dL_33 (by decide) (by decide) rfl (by decide) (lz_c26 hi J r1 r2 kx)
      · exact lz_tab (tgt := 1320) (off := 1287) dL_33 (by decide) (by decide) rfl (by decide) (lz_c27 hi J r1 r2 kx)
      · exact lz_tab (tgt := 1353) (off := 1320) dL_33 (by decide) (by decide) rfl (by decide) (lz_c28 hi J r1 r2 kx)
      · exact lz_tab (tgt := 1416) (off := 1383) dL_33 (by decide) (by decide) rfl (by decide) (lz_c29 hi J r1 r2 kx)
      · exact lz_tab (tgt := 1439) (off := 1406) dL_33 (by decide) (by decide) rfl (by decide) (lz_c30 hi J r1 r2 kx)
      · exact lz_tab (tgt := 1462) (off := 1429) dL_33 (by decide) (by decide) rfl (by decide) (lz_c31 hi J r1 r2 kx)
theorem df_X11 : ∀ j, j < 15 → defaultValue (ai_ty 11 j) = vp_V [.null, .null, .null, .int 0, .null, .int 0, .null, .null, .null, .null, .null, .null, .null, .null, .null] j := by decide +kernel
set_option maxRecDepth 20000 in
theorem df_X12 : ∀ j, j < 73 → defaultValue (ai_ty 12 j) = vp_V [.int 0, .int 0, .int 0, .int 0, .int 0, .int 0, .null, .null, .null, .null, .null, .null, .null, .null, .null, .null, .null, .null, .null, .null, .null, .null, .int 0, .int 0, .int 0, .int 0, .int 0, .int 0, .int 0, .int 0, .null, .null, .null, .null, .null, .null, .null, .null, .null, .null, .int 0, .null, .null, .null, .null, .null, .null, .null, .null, .null, .null, .null, .null, .null, .null, .null, .null, .null, .null, .null, .int 0, .null, .null, .null, .null, .null, .null, .long 0, .null, .null, .null, .int 0, .int 0] j := by decide +kernel
set_option maxRecDepth 20000 in
theorem li_9 : Cond.methodLink RL 9 yX11_init ∈ ai_T := (ai_in1 23 rfl rfl)
set_option maxRecDepth 20000 in
theorem li_12 : Cond.methodLink RL 12 yX12_init ∈ ai_T := (ai_in5 207 rfl rfl)
theorem add_ap (h : ai_H) {N : Nat} (e : va_E) (hN : csl e = N) : ai_add h N e = ap h [e] := by
  have z := ap_add (h := h) (L := []) e hN
  rw [ap_nil] at z
  exact z
set_option maxHeartbeats 4000000 in
set_option maxRecDepth 100000 in
/-- the law from its start -/
theorem lz_start {b L : Nat} {xs : Nat → Int32} (hL : L ≤ 4096) : lz_R b L xs 0 [.retAddr 31, .float 0, .float 0, .float 0] [] hz := by
  have b1 := hx0_1
  have b2 := hx0_2
  have b3 := hm0_1
  have b4 := hm0_2
  have rc := rm_c
  have rs := rm_s
  refine lz_new (ci := 11) (N := 15) [.null, .null, .null, .int 0, .null, .int 0, .null, .null, .null, .null, .null, .null, .null, .null, .null] dL_0 kX11 clL_7 nX11 df_X11 rfl (by decide) (by decide) ?_
  rw [show ai_add hz 15 (.inr (11, [.null, .null, .null, .int 0, .null, .int 0, .null, .null, .null, .null, .null, .null, .null, .null, .null])) = ap hz [.inr (11, [.null, .null, .null, .int 0, .null, .int 0, .null, .null, .null, .null, .null, .null, .null, .null, .null])] from add_ap hz _ rfl]
  show lz_R b L xs 3 _ [.ref 0] _
  refine lz_dup dL_3 rfl ?_
  refine lz_callI (as := []) (st := [.ref 0]) (q := 0) (h1 := hx0) dL_4 mk_X11_init rfl li_9 in_X11_init rfl (by decide) rfl rfl (Nat.le_of_ble_eq_true rfl) (c_X11_init (h := hz) rfl) (by omega) (by omega) ?_
  show lz_R b L xs 7 _ [.ref 0] hx0
  refine lz_ast (ls' := [.retAddr 31, .ref 0, .float 0, .float 0]) dL_7 rfl ?_
  refine lz_new (ci := 12) (N := 73) [.int 0, .int 0, .int 0, .int 0, .int 0, .int 0, .null, .null, .null, .null, .null, .null, .null, .null, .null, .null, .null, .null, .null, .null, .null, .null, .int 0, .int 0, .int 0, .int 0, .int 0, .int 0, .int 0, .int 0, .null, .null, .null, .null, .null, .null, .null, .null, .null, .null, .int 0, .null, .null, .null, .null, .null, .null, .null, .null, .null, .null, .null, .null, .null, .null, .null, .null, .null, .null, .null, .int 0, .null, .null, .null, .null, .null, .null, .long 0, .null, .null, .null, .int 0, .int 0] dL_8 kX12 clL_10 nX12 df_X12 rfl (by omega) (by omega) ?_
  rw [show ai_add hx0 73 (.inr (12, [.int 0, .int 0, .int 0, .int 0, .int 0, .int 0, .null, .null, .null, .null, .null, .null, .null, .null, .null, .null, .null, .null, .null, .null, .null, .null, .int 0, .int 0, .int 0, .int 0, .int 0, .int 0, .int 0, .int 0, .null, .null, .null, .null, .null, .null, .null, .null, .null, .null, .int 0, .null, .null, .null, .null, .null, .null, .null, .null, .null, .null, .null, .null, .null, .null, .null, .null, .null, .null, .null, .int 0, .null, .null, .null, .null, .null, .null, .long 0, .null, .null, .null, .int 0, .int 0])) = ap hx0 [.inr (12, [.int 0, .int 0, .int 0, .int 0, .int 0, .int 0, .null, .null, .null, .null, .null, .null, .null, .null, .null, .null, .null, .null, .null, .null, .null, .null, .int 0, .int 0, .int 0, .int 0, .int 0, .int 0, .int 0, .int 0, .null, .null, .null, .null, .null, .null, .null, .null, .null, .null, .int 0, .null, .null, .null, .null, .null, .null, .null, .null, .null, .null, .null, .null, .null, .null, .null, .null, .null, .null, .null, .int 0, .null, .null, .null, .null, .null, .null, .long 0, .null, .null, .null, .int 0, .int 0])] from add_ap hx0 _ rfl, b1]
  show lz_R b L xs 11 _ [.ref 307] _
  refine lz_dup dL_11 rfl ?_
  refine lz_callI (as := []) (st := [.ref 307]) (q := 307) (h1 := hm0) dL_12 mk_X12_init rfl li_12 in_X12_init rfl (by show 307 < hx0.1 + 1; omega) rfl rfl (Nat.le_of_ble_eq_true rfl) (c_X12_init (h := hx0) hx0_1) (by omega) (by omega) ?_
  show lz_R b L xs 15 _ [.ref 307] hm0
  refine lz_ast (ls' := [.retAddr 31, .ref 0, .ref 307, .float 0]) dL_15 rfl ?_
  refine lz_iconst (v := 0) dL_16 (by decide) ?_
  refine lz_ist (ls' := [.retAddr 31, .ref 0, .ref 307, .int (nI (8 * 0))]) dL_17 rfl ?_
  exact lz_loop hL (L / 8 + 1) 0 hm0 (by omega) (by omega) JI_0 (by omega) (by omega)
