/-! 49: tied, plan, next of the class (walks laid by wip/whole/p49.py) -/
/-- cells, meetings and bonds changed -/
def fr3 (h g : ai_H) : Prop := g.1 = h.1 ∧ g.2.1 = h.2.1 ∧ ∀ j, (j < 22 ∨ (293 < j ∧ j < 298) ∨ 300 < j) → g.2.2 j = h.2.2 j
theorem fr3.trans {h g k : ai_H} (a : fr3 h g) (b : fr3 g k) : fr3 h k := ⟨b.1.trans a.1, b.2.1.trans a.2.1, fun j hj => (b.2.2 j hj).trans (a.2.2 j hj)⟩
theorem fr3.a {h g : ai_H} (a : fr 22 293 h g) : fr3 h g := ⟨a.1, a.2.1, fun j hj => a.2.2 j (by omega)⟩
theorem fr3.b {h g : ai_H} (a : bx h g) : fr3 h g := ⟨a.1, a.2.1, fun j hj => a.2.2 j (by omega)⟩
theorem fr3.f {h g : ai_H} (a : fr3 h g) : fr 22 306 h g := ⟨a.1, a.2.1, fun j hj => a.2.2 j (by omega)⟩
theorem scr.bond {h g : ai_H} (hs : scr h) (e : fr3 h g) (h1 : ∃ S, cl_at g S) (h2 : ∃ T, mt_at g T) (h3 : ∃ S, bo_at g S) : scr g := by
  obtain ⟨⟨f, a1⟩, ⟨t, S2, a2, a2'⟩, ⟨S3, a3⟩, -, -, ⟨S6, a6⟩, -, ⟨c, S8, t8, a8, a8', a8''⟩, ⟨t9, a9⟩⟩ := hs
  exact ⟨⟨f, (e.2.2 _ (by decide)).trans a1⟩, ⟨t, S2, a2, rd_keep a2' e.1 (fun j _ _ => e.2.2 j (by omega))⟩, ⟨S3, sc_keep a3 e.1 (fun j _ _ => e.2.2 j (by omega))⟩, h1, h2, ⟨S6, rp_keep a6 e.1 (fun j _ _ => e.2.2 j (by omega))⟩, h3, ⟨c, S8, t8, a8, wo_keep a8' e.1 (fun j _ _ => e.2.2 j (by omega)), (e.2.2 _ (by decide)).trans a8''⟩, ⟨t9, (e.2.2 _ (by decide)).trans a9⟩⟩
theorem all_J : ∀ n : Nat, n < 10 → (1 : Int32) <<< (nI n &&& 31) - 1 = nI (2 ^ n - 1) := by decide +kernel
theorem pow_J {n : Nat} (h : n ≤ 9) : 2 ^ n ≤ 512 := Nat.pow_le_pow_right (n := 2) (by decide) h
theorem pow_pos2 (n : Nat) : 0 < 2 ^ n := Nat.pow_pos (by decide)
theorem set_ex {n : Nat} (hn : n < 2 ^ 31) {s : Int32} (h : ¬ bi_in s 0 (nI n) = 0) : ∃ k, k ≤ n ∧ s = nI k := by
  unfold bi_in at h
  split at h
  · exact absurd rfl h
  · split at h
    · exact absurd rfl h
    · next h1 h2 =>
      rw [i32_lt, i32_0] at h1
      rw [i32_lt, nI_toInt hn] at h2
      obtain ⟨k, k1, k2⟩ := i32_ex (n := n + 1) (by omega) (show s.toInt < ((n + 1 : Nat) : Int) by omega)
      exact ⟨k, by omega, k2⟩
theorem LM_sym {B : Bk} {ln : Nat} (hok : bk_ok B ln) {wk : Int32} {S : Md} {z : Nat} (hG : GI B wk S (nR B) z) : ∀ i j, i < nO B → j < nO B → LM B wk S z (i * 16 + j) = [] → LM B wk S z (j * 16 + i) = [] := fun i j hi hj e => LM_nil hok hG (by have := hok.2.1.2.1; omega) (by have := hok.2.1.2.1; omega) e
theorem dX11_allJourneys_0 : decode cX11_allJourneys 0 = .ok (.iconst 1, 1) := by decide +kernel
theorem dX11_allJourneys_1 : decode cX11_allJourneys 1 = .ok (.aload_n 0, 1) := by decide +kernel
theorem dX11_allJourneys_2 : decode cX11_allJourneys 2 = .ok (.getfield 10, 3) := by decide +kernel
theorem dX11_allJourneys_5 : decode cX11_allJourneys 5 = .ok (.getfield 266, 3) := by decide +kernel
theorem dX11_allJourneys_8 : decode cX11_allJourneys 8 = .ok (.getfield 224, 3) := by decide +kernel
theorem dX11_allJourneys_11 : decode cX11_allJourneys 11 = .ok (.ishl, 1) := by decide +kernel
theorem dX11_allJourneys_12 : decode cX11_allJourneys 12 = .ok (.iconst 1, 1) := by decide +kernel
theorem dX11_allJourneys_13 : decode cX11_allJourneys 13 = .ok (.isub, 1) := by decide +kernel
theorem dX11_allJourneys_14 : decode cX11_allJourneys 14 = .ok (.ireturn, 1) := by decide +kernel
set_option maxRecDepth 100000 in
set_option maxHeartbeats 4000000 in
theorem c_X11_allJourneys {h : ai_H} {tb lm : Int32} {B : Bk} {ln : Nat} (hx : x_at h tb lm) (hB : bk_at h 1 B) (hok : bk_ok B ln) : ai_Met MX11_allJourneys [.ref 0] h (some (.int (nI (2 ^ nJ B - 1)))) h := by
  have hj9 := hok.2.2.2.2.2.2.1
  refine ai_met (ls := [.ref 0]) (by decide) (by simp [ai_en, Value.category]) (by rfl) ?_
  refine rs_iconst (v := 1) (pc := 0) dX11_allJourneys_0 rfl ?_
  refine rs_aload_n (pc := 1) dX11_allJourneys_1 rfl ?_
  refine rs_getf (pc := 2) dX11_allJourneys_2 fX11_10 (x_lt hx (by decide)) hx.2 rfl ?_
  refine rs_getf (pc := 5) dX11_allJourneys_5 fX11_266 (bk_lt hB (by decide)) hB.2.1 rfl ?_
  refine rs_getf (pc := 8) dX11_allJourneys_8 fX11_224 (bk_lt hB (by decide)) hB.2.2.2.2.2.2.1 rfl ?_
  rw [hok.2.2.2.2.2.1]
  refine rs_ishl (pc := 11) dX11_allJourneys_11 ?_
  refine rs_iconst (v := 1) (pc := 12) dX11_allJourneys_12 rfl ?_
  refine rs_isub (pc := 13) dX11_allJourneys_13 ?_
  rw [all_J (nJ B) (by omega)]
  exact wk_iret (pc := 14) dX11_allJourneys_14 rfl (rfl) (rfl)
theorem dX11_weeksOf_0 : decode cX11_weeksOf 0 = .ok (.iconst 0, 1) := by decide +kernel
theorem dX11_weeksOf_1 : decode cX11_weeksOf 1 = .ok (.istore_n 2, 1) := by decide +kernel
theorem dX11_weeksOf_2 : decode cX11_weeksOf 2 = .ok (.iconst 0, 1) := by decide +kernel
theorem dX11_weeksOf_3 : decode cX11_weeksOf 3 = .ok (.istore_n 3, 1) := by decide +kernel
theorem dX11_weeksOf_4 : decode cX11_weeksOf 4 = .ok (.iload_n 3, 1) := by decide +kernel
theorem dX11_weeksOf_5 : decode cX11_weeksOf 5 = .ok (.aload_n 0, 1) := by decide +kernel
theorem dX11_weeksOf_6 : decode cX11_weeksOf 6 = .ok (.getfield 10, 3) := by decide +kernel
theorem dX11_weeksOf_9 : decode cX11_weeksOf 9 = .ok (.getfield 266, 3) := by decide +kernel
theorem dX11_weeksOf_12 : decode cX11_weeksOf 12 = .ok (.getfield 224, 3) := by decide +kernel
theorem dX11_weeksOf_15 : decode cX11_weeksOf 15 = .ok (.if_icmp .ge 33, 3) := by decide +kernel
theorem dX11_weeksOf_18 : decode cX11_weeksOf 18 = .ok (.iload_n 1, 1) := by decide +kernel
theorem dX11_weeksOf_19 : decode cX11_weeksOf 19 = .ok (.iload_n 3, 1) := by decide +kernel
theorem dX11_weeksOf_20 : decode cX11_weeksOf 20 = .ok (.ishr, 1) := by decide +kernel
theorem dX11_weeksOf_21 : decode cX11_weeksOf 21 = .ok (.iconst 1, 1) := by decide +kernel
theorem dX11_weeksOf_22 : decode cX11_weeksOf 22 = .ok (.iand, 1) := by decide +kernel
theorem dX11_weeksOf_23 : decode cX11_weeksOf 23 = .ok (.iconst 1, 1) := by decide +kernel
theorem dX11_weeksOf_24 : decode cX11_weeksOf 24 = .ok (.if_icmp .ne 18, 3) := by decide +kernel
theorem dX11_weeksOf_27 : decode cX11_weeksOf 27 = .ok (.iload_n 2, 1) := by decide +kernel
theorem dX11_weeksOf_28 : decode cX11_weeksOf 28 = .ok (.aload_n 0, 1) := by decide +kernel
theorem dX11_weeksOf_29 : decode cX11_weeksOf 29 = .ok (.getfield 10, 3) := by decide +kernel
theorem dX11_weeksOf_32 : decode cX11_weeksOf 32 = .ok (.getfield 266, 3) := by decide +kernel
theorem dX11_weeksOf_35 : decode cX11_weeksOf 35 = .ok (.iload_n 3, 1) := by decide +kernel
theorem dX11_weeksOf_36 : decode cX11_weeksOf 36 = .ok (.iconst 2, 1) := by decide +kernel
theorem dX11_weeksOf_37 : decode cX11_weeksOf 37 = .ok (.invokevirtual 141, 3) := by decide +kernel
theorem dX11_weeksOf_40 : decode cX11_weeksOf 40 = .ok (.iadd, 1) := by decide +kernel
theorem dX11_weeksOf_41 : decode cX11_weeksOf 41 = .ok (.istore_n 2, 1) := by decide +kernel
theorem dX11_weeksOf_42 : decode cX11_weeksOf 42 = .ok (.iinc 3 1, 3) := by decide +kernel
theorem dX11_weeksOf_45 : decode cX11_weeksOf 45 = .ok (.goto (-41), 3) := by decide +kernel
theorem dX11_weeksOf_48 : decode cX11_weeksOf 48 = .ok (.iload_n 2, 1) := by decide +kernel
theorem dX11_weeksOf_49 : decode cX11_weeksOf 49 = .ok (.ireturn, 1) := by decide +kernel
set_option maxRecDepth 100000 in
set_option maxHeartbeats 4000000 in
theorem l_X11_weeksOf {h : ai_H} {tb lm : Int32} {B : Bk} {ln : Nat} (hx : x_at h tb lm) (hB : bk_at h 1 B) (hok : bk_ok B ln) {s : Nat} (hs : s < 2 ^ 31) : ∀ (k i : Nat), i ≤ nJ B → nJ B + 1 ≤ i + k → ai_R MX11_weeksOf 4 [.ref 0, .int (nI s), .int (wkS B s i), .int (nI i)] [] h (some (.int (wkS B s (nJ B)))) h := by
  have hj9 := hok.2.2.2.2.2.2.1
  intro k
  induction k with
  | zero => intro i h1 h2; exact absurd h2 (by omega)
  | succ k ih =>
    intro i hi0 him
    refine rs_iload_n (pc := 4) dX11_weeksOf_4 rfl ?_
    refine rs_aload_n (pc := 5) dX11_weeksOf_5 rfl ?_
    refine rs_getf (pc := 6) dX11_weeksOf_6 fX11_10 (x_lt hx (by decide)) hx.2 rfl ?_
    refine rs_getf (pc := 9) dX11_weeksOf_9 fX11_266 (bk_lt hB (by decide)) hB.2.1 rfl ?_
    refine rs_getf (pc := 12) dX11_weeksOf_12 fX11_224 (bk_lt hB (by decide)) hB.2.2.2.2.2.2.1 rfl ?_
    rw [hok.2.2.2.2.2.1]
    refine rs_icmp_ge (tgt := 48) (pc := 15) dX11_weeksOf_15 rfl (fun c_15 => ?_) (fun c_15 => ?_)
    · have hie : i = nJ B := lp_exit rfl (by omega) hi0 c_15
      subst hie
      refine rs_iload_n (pc := 48) dX11_weeksOf_48 rfl ?_
      exact wk_iret (pc := 49) dX11_weeksOf_49 rfl (rfl) (rfl)
    · have hi : i < nJ B := lp_go rfl (by omega) c_15
      refine rs_iload_n (pc := 18) dX11_weeksOf_18 rfl ?_
      refine rs_iload_n (pc := 19) dX11_weeksOf_19 rfl ?_
      refine rs_ishr (pc := 20) dX11_weeksOf_20 ?_
      refine rs_iconst (v := 1) (pc := 21) dX11_weeksOf_21 rfl ?_
      refine rs_iand (pc := 22) dX11_weeksOf_22 ?_
      refine rs_iconst (v := 1) (pc := 23) dX11_weeksOf_23 rfl ?_
      refine rs_icmp_ne (tgt := 42) (pc := 24) dX11_weeksOf_24 rfl (fun c_24 => ?_) (fun c_24 => ?_)
      · rw [sb_nI hs (by omega)] at c_24
        refine wk_iinc3 (v := nI (i + 1)) (pc := 42) dX11_weeksOf_42 (by decide) rfl (nI_1 i) ?_
        refine rs_goto (tgt := 4) (pc := 45) dX11_weeksOf_45 rfl ?_
        first
        | (have e := ih (i + 1) (by omega) (by omega); rw [wkS, if_pos c_24] at e; exact e)
        | (have e := ih (i + 1) (by omega) (by omega); rw [wkS, if_neg c_24] at e; exact e)
      · rw [sb_nI hs (by omega)] at c_24
        refine rs_iload_n (pc := 27) dX11_weeksOf_27 rfl ?_
        refine rs_aload_n (pc := 28) dX11_weeksOf_28 rfl ?_
        refine rs_getf (pc := 29) dX11_weeksOf_29 fX11_10 (x_lt hx (by decide)) hx.2 rfl ?_
        refine rs_getf (pc := 32) dX11_weeksOf_32 fX11_266 (bk_lt hB (by decide)) hB.2.1 rfl ?_
        refine rs_iload_n (pc := 35) dX11_weeksOf_35 rfl ?_
        refine rs_iconst (v := 2) (pc := 36) dX11_weeksOf_36 rfl ?_
        refine rs_callV (as := [_, _]) (pc := 37) dX11_weeksOf_37 mk_X8_at mlX11_141 in_X8_at se_X8_at rfl (bk_lt hB (by decide)) hB.2.2.2.2.2.2.1 rfl rfl (Nat.le_of_ble_eq_true rfl) (c_X8_at (bk_lt hB (by decide)) hB.2.2.2.2.2.2.1 (bk_lt hB (by decide)) hB.2.2.2.2.2.2.2.1 hB.2.2.2.2.2.2.2.2 _ _) ?_
        refine rs_iadd (pc := 40) dX11_weeksOf_40 ?_
        refine wk_istn2 (pc := 41) dX11_weeksOf_41 (by decide) rfl ?_
        refine wk_iinc3 (v := nI (i + 1)) (pc := 42) dX11_weeksOf_42 (by decide) rfl (nI_1 i) ?_
        refine rs_goto (tgt := 4) (pc := 45) dX11_weeksOf_45 rfl ?_
        first
        | (have e := ih (i + 1) (by omega) (by omega); rw [wkS, if_pos c_24] at e; exact e)
        | (have e := ih (i + 1) (by omega) (by omega); rw [wkS, if_neg c_24] at e; exact e)
set_option maxRecDepth 100000 in
set_option maxHeartbeats 4000000 in
theorem c_X11_weeksOf {h : ai_H} {tb lm : Int32} {B : Bk} {ln : Nat} (hx : x_at h tb lm) (hB : bk_at h 1 B) (hok : bk_ok B ln) {s : Nat} (hs : s < 2 ^ 31) : ai_Met MX11_weeksOf [.ref 0, .int (nI s)] h (some (.int (wkS B s (nJ B)))) h := by
  refine ai_met (ls := [.ref 0, .int (nI s), .float 0, .float 0]) (by decide) (by simp [ai_en, Value.category]) (by rfl) ?_
  refine rs_iconst (v := 0) (pc := 0) dX11_weeksOf_0 rfl ?_
  refine wk_istn2 (pc := 1) dX11_weeksOf_1 (by decide) rfl ?_
  refine rs_iconst (v := 0) (pc := 2) dX11_weeksOf_2 rfl ?_
  refine wk_istn3 (pc := 3) dX11_weeksOf_3 (by decide) rfl ?_
  exact l_X11_weeksOf hx hB hok hs (nJ B + 1) 0 (by omega) (by omega)
theorem dX11_bestSet_0 : decode cX11_bestSet 0 = .ok (.iconst 0, 1) := by decide +kernel
theorem dX11_bestSet_1 : decode cX11_bestSet 1 = .ok (.istore_n 2, 1) := by decide +kernel
theorem dX11_bestSet_2 : decode cX11_bestSet 2 = .ok (.aload_n 0, 1) := by decide +kernel
theorem dX11_bestSet_3 : decode cX11_bestSet 3 = .ok (.getfield 79, 3) := by decide +kernel
theorem dX11_bestSet_6 : decode cX11_bestSet 6 = .ok (.aload_n 0, 1) := by decide +kernel
theorem dX11_bestSet_7 : decode cX11_bestSet 7 = .ok (.getfield 10, 3) := by decide +kernel
theorem dX11_bestSet_10 : decode cX11_bestSet 10 = .ok (.getfield 266, 3) := by decide +kernel
theorem dX11_bestSet_13 : decode cX11_bestSet 13 = .ok (.iconst 0, 1) := by decide +kernel
theorem dX11_bestSet_14 : decode cX11_bestSet 14 = .ok (.invokevirtual 276, 3) := by decide +kernel
theorem dX11_bestSet_17 : decode cX11_bestSet 17 = .ok (.istore_n 3, 1) := by decide +kernel
theorem dX11_bestSet_18 : decode cX11_bestSet 18 = .ok (.iconst 0, 1) := by decide +kernel
theorem dX11_bestSet_19 : decode cX11_bestSet 19 = .ok (.istore 4, 2) := by decide +kernel
theorem dX11_bestSet_21 : decode cX11_bestSet 21 = .ok (.iconst 1, 1) := by decide +kernel
theorem dX11_bestSet_22 : decode cX11_bestSet 22 = .ok (.istore 5, 2) := by decide +kernel
theorem dX11_bestSet_24 : decode cX11_bestSet 24 = .ok (.iload 5, 2) := by decide +kernel
theorem dX11_bestSet_26 : decode cX11_bestSet 26 = .ok (.aload_n 0, 1) := by decide +kernel
theorem dX11_bestSet_27 : decode cX11_bestSet 27 = .ok (.invokevirtual 269, 3) := by decide +kernel
theorem dX11_bestSet_30 : decode cX11_bestSet 30 = .ok (.if_icmp .gt 70, 3) := by decide +kernel
theorem dX11_bestSet_33 : decode cX11_bestSet 33 = .ok (.aload_n 0, 1) := by decide +kernel
theorem dX11_bestSet_34 : decode cX11_bestSet 34 = .ok (.iload 5, 2) := by decide +kernel
theorem dX11_bestSet_36 : decode cX11_bestSet 36 = .ok (.invokevirtual 283, 3) := by decide +kernel
theorem dX11_bestSet_39 : decode cX11_bestSet 39 = .ok (.istore 6, 2) := by decide +kernel
theorem dX11_bestSet_41 : decode cX11_bestSet 41 = .ok (.iload 6, 2) := by decide +kernel
theorem dX11_bestSet_43 : decode cX11_bestSet 43 = .ok (.iload_n 1, 1) := by decide +kernel
theorem dX11_bestSet_44 : decode cX11_bestSet 44 = .ok (.if_icmp .gt 50, 3) := by decide +kernel
theorem dX11_bestSet_47 : decode cX11_bestSet 47 = .ok (.aload_n 0, 1) := by decide +kernel
theorem dX11_bestSet_48 : decode cX11_bestSet 48 = .ok (.getfield 79, 3) := by decide +kernel
theorem dX11_bestSet_51 : decode cX11_bestSet 51 = .ok (.aload_n 0, 1) := by decide +kernel
theorem dX11_bestSet_52 : decode cX11_bestSet 52 = .ok (.getfield 10, 3) := by decide +kernel
theorem dX11_bestSet_55 : decode cX11_bestSet 55 = .ok (.getfield 266, 3) := by decide +kernel
theorem dX11_bestSet_58 : decode cX11_bestSet 58 = .ok (.iload 5, 2) := by decide +kernel
theorem dX11_bestSet_60 : decode cX11_bestSet 60 = .ok (.invokevirtual 276, 3) := by decide +kernel
theorem dX11_bestSet_63 : decode cX11_bestSet 63 = .ok (.istore 7, 2) := by decide +kernel
theorem dX11_bestSet_65 : decode cX11_bestSet 65 = .ok (.iload 7, 2) := by decide +kernel
theorem dX11_bestSet_67 : decode cX11_bestSet 67 = .ok (.iload_n 3, 1) := by decide +kernel
theorem dX11_bestSet_68 : decode cX11_bestSet 68 = .ok (.if_icmp .gt 16, 3) := by decide +kernel
theorem dX11_bestSet_71 : decode cX11_bestSet 71 = .ok (.iload 7, 2) := by decide +kernel
theorem dX11_bestSet_73 : decode cX11_bestSet 73 = .ok (.iload_n 3, 1) := by decide +kernel
theorem dX11_bestSet_74 : decode cX11_bestSet 74 = .ok (.if_icmp .ne 20, 3) := by decide +kernel
theorem dX11_bestSet_77 : decode cX11_bestSet 77 = .ok (.iload 6, 2) := by decide +kernel
theorem dX11_bestSet_79 : decode cX11_bestSet 79 = .ok (.iload 4, 2) := by decide +kernel
theorem dX11_bestSet_81 : decode cX11_bestSet 81 = .ok (.if_icmp .ge 13, 3) := by decide +kernel
theorem dX11_bestSet_84 : decode cX11_bestSet 84 = .ok (.iload 5, 2) := by decide +kernel
theorem dX11_bestSet_86 : decode cX11_bestSet 86 = .ok (.istore_n 2, 1) := by decide +kernel
theorem dX11_bestSet_87 : decode cX11_bestSet 87 = .ok (.iload 7, 2) := by decide +kernel
theorem dX11_bestSet_89 : decode cX11_bestSet 89 = .ok (.istore_n 3, 1) := by decide +kernel
theorem dX11_bestSet_90 : decode cX11_bestSet 90 = .ok (.iload 6, 2) := by decide +kernel
theorem dX11_bestSet_92 : decode cX11_bestSet 92 = .ok (.istore 4, 2) := by decide +kernel
theorem dX11_bestSet_94 : decode cX11_bestSet 94 = .ok (.iinc 5 1, 3) := by decide +kernel
theorem dX11_bestSet_97 : decode cX11_bestSet 97 = .ok (.goto (-73), 3) := by decide +kernel
theorem dX11_bestSet_100 : decode cX11_bestSet 100 = .ok (.iload_n 2, 1) := by decide +kernel
theorem dX11_bestSet_101 : decode cX11_bestSet 101 = .ok (.ireturn, 1) := by decide +kernel
set_option maxRecDepth 100000 in
set_option maxHeartbeats 4000000 in
theorem l_X11_bestSet {h : ai_H} {tb lm : Int32} {B : Bk} {ln : Nat} {U : Nat → List Int} {wks : Int32} {p : Nat → Int32} (hok : bk_ok B ln) (hF : FE (nO B) p (clo (eX U (nO B)))) : ∀ (k s : Nat) (v2 v3 v4 : Int32) (u6 u7 : Value) (S1 : Md) (g : ai_H), 1 ≤ s → s ≤ 2 ^ nJ B → 2 ^ nJ B + 1 ≤ s + k → bx h g → x_at g tb lm → bk_at g 1 B → bo_at g S1 → S1.1 0 = nI (nO B) → S1.2.2.1 1 = p → v2 = nI (pst (prs U B) (fun t => wkS B t (nJ B)) wks (s - 1)).1 → v3 = (pst (prs U B) (fun t => wkS B t (nJ B)) wks (s - 1)).2.1 → v4 = (pst (prs U B) (fun t => wkS B t (nJ B)) wks (s - 1)).2.2 → ai_W MX11_bestSet 24 [.ref 0, .int wks, .int v2, .int v3, .int v4, .int (nI s), u6, u7] [] g (fun r g => r = some (.int (nI (pst (prs U B) (fun t => wkS B t (nJ B)) wks (2 ^ nJ B - 1)).1)) ∧ bx h g ∧ x_at g tb lm ∧ bk_at g 1 B ∧ ∃ S', bo_at g S' ∧ S'.1 0 = nI (nO B) ∧ S'.2.2.1 1 = p) := by
  have hj9 := hok.2.2.2.2.2.2.1
  have hpw := pow_J hj9
  have hpp := pow_pos2 (nJ B)
  intro k
  induction k with
  | zero => intro s v2 v3 v4 u6 u7 S1 g h1 h2 h3; exact absurd h3 (by omega)
  | succ k ih =>
    intro s v2 v3 v4 u6 u7 S1 g hs1 hs0 him E0 hx hB hbo e0 ep q1 q2 q3
    refine wq (fun _ _ kk => rs_iload (pc := 24) dX11_bestSet_24 rfl kk) ?_
    refine wq (fun _ _ kk => rs_aload_n (pc := 26) dX11_bestSet_26 rfl kk) ?_
    refine wq (fun _ _ kk => rs_callV (as := []) (pc := 27) dX11_bestSet_27 mk_X11_allJourneys mlX11_269 in_X11_allJourneys se_X11_allJourneys rfl (x_lt hx (by decide)) hx.2 rfl rfl (Nat.le_of_ble_eq_true rfl) (c_X11_allJourneys hx hB hok) kk) ?_
    refine wq_br (fun _ _ kt kf => rs_icmp_gt (tgt := 100) (pc := 30) dX11_bestSet_30 rfl kt kf) (fun c_30 => ?_) (fun c_30 => ?_)
    · have hse : 2 ^ nJ B = s := by rw [i32_lt, nI_toInt (by omega), nI_toInt (by omega)] at c_30; omega
      refine wq (fun _ _ kk => rs_iload_n (pc := 100) dX11_bestSet_100 rfl kk) ?_
      refine wq_ret ?_ (rs_iret (pc := 101) dX11_bestSet_101 rfl)
      exact ⟨by rw [q1, ← hse], E0, hx, hB, S1, hbo, e0, ep⟩
    · have hsl : s < 2 ^ nJ B := by rw [i32_lt, nI_toInt (by omega), nI_toInt (by omega)] at c_30; omega
      refine wq (fun _ _ kk => rs_aload_n (pc := 33) dX11_bestSet_33 rfl kk) ?_
      refine wq (fun _ _ kk => rs_iload (pc := 34) dX11_bestSet_34 rfl kk) ?_
      refine wq (fun _ _ kk => rs_callV (as := [_]) (pc := 36) dX11_bestSet_36 mk_X11_weeksOf mlX11_283 in_X11_weeksOf se_X11_weeksOf rfl (x_lt hx (by decide)) hx.2 rfl rfl (Nat.le_of_ble_eq_true rfl) (c_X11_weeksOf hx hB hok (show s < 2 ^ 31 by omega)) kk) ?_
      refine wq (fun _ _ kk => wk_ist6 (pc := 39) dX11_bestSet_39 (by decide) rfl kk) ?_
      refine wq (fun _ _ kk => rs_iload (pc := 41) dX11_bestSet_41 rfl kk) ?_
      refine wq (fun _ _ kk => rs_iload_n (pc := 43) dX11_bestSet_43 rfl kk) ?_
      refine wq_br (fun _ _ kt kf => rs_icmp_gt (tgt := 94) (pc := 44) dX11_bestSet_44 rfl kt kf) (fun c_44 => ?_) (fun c_44 => ?_)
      · refine wq (fun _ _ kk => wk_iinc5 (v := nI (s + 1)) (pc := 94) dX11_bestSet_94 (by decide) rfl (nI_1 s) kk) ?_
        refine wq (fun _ _ kk => rs_goto (tgt := 24) (pc := 97) dX11_bestSet_97 rfl kk) ?_
        first
        | (have hp : pst (prs U B) (fun t => wkS B t (nJ B)) wks (s + 1 - 1) = (s, prs U B s, wkS B s (nJ B)) := by
             rw [show s + 1 - 1 = s - 1 + 1 by omega, pst, show s - 1 + 1 = s by omega, if_pos]
             exact ⟨by rw [i32_le]; rw [i32_lt] at c_44; omega, by first | exact Or.inl (by rw [← q2]; exact c_68) | exact Or.inr ⟨by rw [← q2]; exact c_74, by rw [← q3]; rw [i32_le] at c_81; rw [i32_lt]; omega⟩⟩
           exact ih (s + 1) _ _ _ _ _ _ _ (by omega) (by omega) (by omega) E0 hx hB hbo e0 ep (by rw [hp]) (by rw [hp]) (by rw [hp]))
        | (have hp : pst (prs U B) (fun t => wkS B t (nJ B)) wks (s + 1 - 1) = pst (prs U B) (fun t => wkS B t (nJ B)) wks (s - 1) := by
             rw [show s + 1 - 1 = s - 1 + 1 by omega, pst, show s - 1 + 1 = s by omega, if_neg]
             rintro ⟨y1, y2⟩
             first
             | (rw [i32_le] at y1; rw [i32_lt] at c_44; omega)
             | (rw [← q2, ← q3] at y2
                rcases y2 with y2 | ⟨y2, y3⟩
                · exact c_68 y2
                · first
                  | exact c_74 y2
                  | (rw [i32_le] at c_81; rw [i32_lt] at y3; omega))
           exact ih (s + 1) _ _ _ _ _ _ _ (by omega) (by omega) (by omega) E0 hx hB hbo e0 ep (by rw [hp]; exact q1) (by rw [hp]; exact q2) (by rw [hp]; exact q3))
      · refine wq (fun _ _ kk => rs_aload_n (pc := 47) dX11_bestSet_47 rfl kk) ?_
        refine wq (fun _ _ kk => rs_getf (pc := 48) dX11_bestSet_48 fX11_79 (x_lt hx (by decide)) hx.2 rfl kk) ?_
        refine wq (fun _ _ kk => rs_aload_n (pc := 51) dX11_bestSet_51 rfl kk) ?_
        refine wq (fun _ _ kk => rs_getf (pc := 52) dX11_bestSet_52 fX11_10 (x_lt hx (by decide)) hx.2 rfl kk) ?_
        refine wq (fun _ _ kk => rs_getf (pc := 55) dX11_bestSet_55 fX11_266 (bk_lt hB (by decide)) hB.2.1 rfl kk) ?_
        refine wq (fun _ _ kk => rs_iload (pc := 58) dX11_bestSet_58 rfl kk) ?_
        obtain ⟨rv_60, hc_60, ⟨rfl, ee_60, S2, hbo_60, e0_60, ep_60, hF_60⟩, hm_60⟩ := c_X0_pairsWith (s := s) (U := U) hok (by omega) hB hbo e0 (by rw [ep]; exact hF)
        refine wq (fun _ _ kk => rs_callV (as := [_, _]) (pc := 60) dX11_bestSet_60 mk_X0_pairsWith mlX11_276 in_X0_pairsWith se_X0_pairsWith rfl (mo_lt hbo (by decide)) hbo.2.1 rfl rfl (Nat.le_of_ble_eq_true rfl) (hm_60) kk) ?_
        replace hbo := hbo_60
        replace e0 := e0_60
        replace ep := ep_60.trans ep
        replace E0 := E0.trans ee_60
        replace hx := x_at.keep hx ee_60.1 (ee_60.2.2 0 (by decide))
        replace hB := hB.keep ee_60.1 (fun j _ _ => ee_60.2.2 j (by omega))
        refine wq (fun _ _ kk => wk_ist7 (pc := 63) dX11_bestSet_63 (by decide) rfl kk) ?_
        refine wq (fun _ _ kk => rs_iload (pc := 65) dX11_bestSet_65 rfl kk) ?_
        refine wq (fun _ _ kk => rs_iload_n (pc := 67) dX11_bestSet_67 rfl kk) ?_
        refine wq_br (fun _ _ kt kf => rs_icmp_gt (tgt := 84) (pc := 68) dX11_bestSet_68 rfl kt kf) (fun c_68 => ?_) (fun c_68 => ?_)
        · refine wq (fun _ _ kk => rs_iload (pc := 84) dX11_bestSet_84 rfl kk) ?_
          refine wq (fun _ _ kk => wk_istn2 (pc := 86) dX11_bestSet_86 (by decide) rfl kk) ?_
          refine wq (fun _ _ kk => rs_iload (pc := 87) dX11_bestSet_87 rfl kk) ?_
          refine wq (fun _ _ kk => wk_istn3 (pc := 89) dX11_bestSet_89 (by decide) rfl kk) ?_
          refine wq (fun _ _ kk => rs_iload (pc := 90) dX11_bestSet_90 rfl kk) ?_
          refine wq (fun _ _ kk => wk_ist4 (pc := 92) dX11_bestSet_92 (by decide) rfl kk) ?_
          refine wq (fun _ _ kk => wk_iinc5 (v := nI (s + 1)) (pc := 94) dX11_bestSet_94 (by decide) rfl (nI_1 s) kk) ?_
          refine wq (fun _ _ kk => rs_goto (tgt := 24) (pc := 97) dX11_bestSet_97 rfl kk) ?_
          first
          | (have hp : pst (prs U B) (fun t => wkS B t (nJ B)) wks (s + 1 - 1) = (s, prs U B s, wkS B s (nJ B)) := by
               rw [show s + 1 - 1 = s - 1 + 1 by omega, pst, show s - 1 + 1 = s by omega, if_pos]
               exact ⟨by rw [i32_le]; rw [i32_lt] at c_44; omega, by first | exact Or.inl (by rw [← q2]; exact c_68) | exact Or.inr ⟨by rw [← q2]; exact c_74, by rw [← q3]; rw [i32_le] at c_81; rw [i32_lt]; omega⟩⟩
             exact ih (s + 1) _ _ _ _ _ _ _ (by omega) (by omega) (by omega) E0 hx hB hbo e0 ep (by rw [hp]) (by rw [hp]) (by rw [hp]))
          | (have hp : pst (prs U B) (fun t => wkS B t (nJ B)) wks (s + 1 - 1) = pst (prs U B) (fun t => wkS B t (nJ B)) wks (s - 1) := by
               rw [show s + 1 - 1 = s - 1 + 1 by omega, pst, show s - 1 + 1 = s by omega, if_neg]
               rintro ⟨y1, y2⟩
               first
               | (rw [i32_le] at y1; rw [i32_lt] at c_44; omega)
               | (rw [← q2, ← q3] at y2
                  rcases y2 with y2 | ⟨y2, y3⟩
                  · exact c_68 y2
                  · first
                    | exact c_74 y2
                    | (rw [i32_le] at c_81; rw [i32_lt] at y3; omega))
             exact ih (s + 1) _ _ _ _ _ _ _ (by omega) (by omega) (by omega) E0 hx hB hbo e0 ep (by rw [hp]; exact q1) (by rw [hp]; exact q2) (by rw [hp]; exact q3))
        · refine wq (fun _ _ kk => rs_iload (pc := 71) dX11_bestSet_71 rfl kk) ?_
          refine wq (fun _ _ kk => rs_iload_n (pc := 73) dX11_bestSet_73 rfl kk) ?_
          refine wq_bn (fun _ _ kt kf => rs_icmp_ne (tgt := 94) (pc := 74) dX11_bestSet_74 rfl kt kf) (fun c_74 => ?_) (fun c_74 => ?_)
          · refine wq (fun _ _ kk => wk_iinc5 (v := nI (s + 1)) (pc := 94) dX11_bestSet_94 (by decide) rfl (nI_1 s) kk) ?_
            refine wq (fun _ _ kk => rs_goto (tgt := 24) (pc := 97) dX11_bestSet_97 rfl kk) ?_
            first
            | (have hp : pst (prs U B) (fun t => wkS B t (nJ B)) wks (s + 1 - 1) = (s, prs U B s, wkS B s (nJ B)) := by
                 rw [show s + 1 - 1 = s - 1 + 1 by omega, pst, show s - 1 + 1 = s by omega, if_pos]
                 exact ⟨by rw [i32_le]; rw [i32_lt] at c_44; omega, by first | exact Or.inl (by rw [← q2]; exact c_68) | exact Or.inr ⟨by rw [← q2]; exact c_74, by rw [← q3]; rw [i32_le] at c_81; rw [i32_lt]; omega⟩⟩
               exact ih (s + 1) _ _ _ _ _ _ _ (by omega) (by omega) (by omega) E0 hx hB hbo e0 ep (by rw [hp]) (by rw [hp]) (by rw [hp]))
            | (have hp : pst (prs U B) (fun t => wkS B t (nJ B)) wks (s + 1 - 1) = pst (prs U B) (fun t => wkS B t (nJ B)) wks (s - 1) := by
                 rw [show s + 1 - 1 = s - 1 + 1 by omega, pst, show s - 1 + 1 = s by omega, if_neg]
                 rintro ⟨y1, y2⟩
                 first
                 | (rw [i32_le] at y1; rw [i32_lt] at c_44; omega)
                 | (rw [← q2, ← q3] at y2
                    rcases y2 with y2 | ⟨y2, y3⟩
                    · exact c_68 y2
                    · first
                      | exact c_74 y2
                      | (rw [i32_le] at c_81; rw [i32_lt] at y3; omega))
               exact ih (s + 1) _ _ _ _ _ _ _ (by omega) (by omega) (by omega) E0 hx hB hbo e0 ep (by rw [hp]; exact q1) (by rw [hp]; exact q2) (by rw [hp]; exact q3))
          · refine wq (fun _ _ kk => rs_iload (pc := 77) dX11_bestSet_77 rfl kk) ?_
            refine wq (fun _ _ kk => rs_iload (pc := 79) dX11_bestSet_79 rfl kk) ?_
            refine wq_br (fun _ _ kt kf => rs_icmp_ge (tgt := 94) (pc := 81) dX11_bestSet_81 rfl kt kf) (fun c_81 => ?_) (fun c_81 => ?_)
            · refine wq (fun _ _ kk => wk_iinc5 (v := nI (s + 1)) (pc := 94) dX11_bestSet_94 (by decide) rfl (nI_1 s) kk) ?_
              refine wq (fun _ _ kk => rs_goto (tgt := 24) (pc := 97) dX11_bestSet_97 rfl kk) ?_
              first
              | (have hp : pst (prs U B) (fun t => wkS B t (nJ B)) wks (s + 1 - 1) = (s, prs U B s, wkS B s (nJ B)) := by
                   rw [show s + 1 - 1 = s - 1 + 1 by omega, pst, show s - 1 + 1 = s by omega, if_pos]
                   exact ⟨by rw [i32_le]; rw [i32_lt] at c_44; omega, by first | exact Or.inl (by rw [← q2]; exact c_68) | exact Or.inr ⟨by rw [← q2]; exact c_74, by rw [← q3]; rw [i32_le] at c_81; rw [i32_lt]; omega⟩⟩
                 exact ih (s + 1) _ _ _ _ _ _ _ (by omega) (by omega) (by omega) E0 hx hB hbo e0 ep (by rw [hp]) (by rw [hp]) (by rw [hp]))
              | (have hp : pst (prs U B) (fun t => wkS B t (nJ B)) wks (s + 1 - 1) = pst (prs U B) (fun t => wkS B t (nJ B)) wks (s - 1) := by
                   rw [show s + 1 - 1 = s - 1 + 1 by omega, pst, show s - 1 + 1 = s by omega, if_neg]
                   rintro ⟨y1, y2⟩
                   first
                   | (rw [i32_le] at y1; rw [i32_lt] at c_44; omega)
                   | (rw [← q2, ← q3] at y2
                      rcases y2 with y2 | ⟨y2, y3⟩
                      · exact c_68 y2
                      · first
                        | exact c_74 y2
                        | (rw [i32_le] at c_81; rw [i32_lt] at y3; omega))
                 exact ih (s + 1) _ _ _ _ _ _ _ (by omega) (by omega) (by omega) E0 hx hB hbo e0 ep (by rw [hp]; exact q1) (by rw [hp]; exact q2) (by rw [hp]; exact q3))
            · refine wq (fun _ _ kk => rs_iload (pc := 84) dX11_bestSet_84 rfl kk) ?_
              refine wq (fun _ _ kk => wk_istn2 (pc := 86) dX11_bestSet_86 (by decide) rfl kk) ?_
              refine wq (fun _ _ kk => rs_iload (pc := 87) dX11_bestSet_87 rfl kk) ?_
              refine wq (fun _ _ kk => wk_istn3 (pc := 89) dX11_bestSet_89 (by decide) rfl kk) ?_
              refine wq (fun _ _ kk => rs_iload (pc := 90) dX11_bestSet_90 rfl kk) ?_
              refine wq (fun _ _ kk => wk_ist4 (pc := 92) dX11_bestSet_92 (by decide) rfl kk) ?_
              refine wq (fun _ _ kk => wk_iinc5 (v := nI (s + 1)) (pc := 94) dX11_bestSet_94 (by decide) rfl (nI_1 s) kk) ?_
              refine wq (fun _ _ kk => rs_goto (tgt := 24) (pc := 97) dX11_bestSet_97 rfl kk) ?_
              first
              | (have hp : pst (prs U B) (fun t => wkS B t (nJ B)) wks (s + 1 - 1) = (s, prs U B s, wkS B s (nJ B)) := by
                   rw [show s + 1 - 1 = s - 1 + 1 by omega, pst, show s - 1 + 1 = s by omega, if_pos]
                   exact ⟨by rw [i32_le]; rw [i32_lt] at c_44; omega, by first | exact Or.inl (by rw [← q2]; exact c_68) | exact Or.inr ⟨by rw [← q2]; exact c_74, by rw [← q3]; rw [i32_le] at c_81; rw [i32_lt]; omega⟩⟩
                 exact ih (s + 1) _ _ _ _ _ _ _ (by omega) (by omega) (by omega) E0 hx hB hbo e0 ep (by rw [hp]) (by rw [hp]) (by rw [hp]))
              | (have hp : pst (prs U B) (fun t => wkS B t (nJ B)) wks (s + 1 - 1) = pst (prs U B) (fun t => wkS B t (nJ B)) wks (s - 1) := by
                   rw [show s + 1 - 1 = s - 1 + 1 by omega, pst, show s - 1 + 1 = s by omega, if_neg]
                   rintro ⟨y1, y2⟩
                   first
                   | (rw [i32_le] at y1; rw [i32_lt] at c_44; omega)
                   | (rw [← q2, ← q3] at y2
                      rcases y2 with y2 | ⟨y2, y3⟩
                      · exact c_68 y2
                      · first
                        | exact c_74 y2
                        | (rw [i32_le] at c_81; rw [i32_lt] at y3; omega))
                 exact ih (s + 1) _ _ _ _ _ _ _ (by omega) (by omega) (by omega) E0 hx hB hbo e0 ep (by rw [hp]; exact q1) (by rw [hp]; exact q2) (by rw [hp]; exact q3))
set_option maxRecDepth 100000 in
set_option maxHeartbeats 4000000 in
theorem c_X11_bestSet {h : ai_H} {tb lm : Int32} {B : Bk} {ln : Nat} {U : Nat → List Int} {wks : Int32} {p : Nat → Int32} (hok : bk_ok B ln) (hF : FE (nO B) p (clo (eX U (nO B)))) {S : Md} (hx : x_at h tb lm) (hB : bk_at h 1 B) (hbo : bo_at h S) (e0 : S.1 0 = nI (nO B)) (ep : S.2.2.1 1 = p) : ai_QM MX11_bestSet [.ref 0, .int wks] h (fun r g => r = some (.int (nI (pst (prs U B) (fun t => wkS B t (nJ B)) wks (2 ^ nJ B - 1)).1)) ∧ bx h g ∧ x_at g tb lm ∧ bk_at g 1 B ∧ ∃ S', bo_at g S' ∧ S'.1 0 = nI (nO B) ∧ S'.2.2.1 1 = p) := by
  have hj9 := hok.2.2.2.2.2.2.1
  have hpw := pow_J hj9
  have hpp := pow_pos2 (nJ B)
  refine qm_of (ls := [.ref 0, .int wks, .float 0, .float 0, .float 0, .float 0, .float 0, .float 0]) (by decide) (by simp [ai_en, Value.category]) (by rfl) ?_
  refine wq (fun _ _ kk => rs_iconst (v := 0) (pc := 0) dX11_bestSet_0 rfl kk) ?_
  refine wq (fun _ _ kk => wk_istn2 (pc := 1) dX11_bestSet_1 (by decide) rfl kk) ?_
  refine wq (fun _ _ kk => rs_aload_n (pc := 2) dX11_bestSet_2 rfl kk) ?_
  refine wq (fun _ _ kk => rs_getf (pc := 3) dX11_bestSet_3 fX11_79 (x_lt hx (by decide)) hx.2 rfl kk) ?_
  refine wq (fun _ _ kk => rs_aload_n (pc := 6) dX11_bestSet_6 rfl kk) ?_
  refine wq (fun _ _ kk => rs_getf (pc := 7) dX11_bestSet_7 fX11_10 (x_lt hx (by decide)) hx.2 rfl kk) ?_
  refine wq (fun _ _ kk => rs_getf (pc := 10) dX11_bestSet_10 fX11_266 (bk_lt hB (by decide)) hB.2.1 rfl kk) ?_
  refine wq (fun _ _ kk => rs_iconst (v := 0) (pc := 13) dX11_bestSet_13 rfl kk) ?_
  obtain ⟨rv_14, hc_14, ⟨rfl, ee_14, S2, hbo_14, e0_14, ep_14, hF_14⟩, hm_14⟩ := c_X0_pairsWith (s := 0) (U := U) hok (by omega) hB hbo e0 (by rw [ep]; exact hF)
  refine wq (fun _ _ kk => rs_callV (as := [_, _]) (pc := 14) dX11_bestSet_14 mk_X0_pairsWith mlX11_276 in_X0_pairsWith se_X0_pairsWith rfl (mo_lt hbo (by decide)) hbo.2.1 rfl rfl (Nat.le_of_ble_eq_true rfl) (hm_14) kk) ?_
  replace hbo := hbo_14
  replace e0 := e0_14
  replace ep := ep_14.trans ep
  replace hx := x_at.keep hx ee_14.1 (ee_14.2.2 0 (by decide))
  replace hB := hB.keep ee_14.1 (fun j _ _ => ee_14.2.2 j (by omega))
  refine wq (fun _ _ kk => wk_istn3 (pc := 17) dX11_bestSet_17 (by decide) rfl kk) ?_
  refine wq (fun _ _ kk => rs_iconst (v := 0) (pc := 18) dX11_bestSet_18 rfl kk) ?_
  refine wq (fun _ _ kk => wk_ist4 (pc := 19) dX11_bestSet_19 (by decide) rfl kk) ?_
  refine wq (fun _ _ kk => rs_iconst (v := 1) (pc := 21) dX11_bestSet_21 rfl kk) ?_
  refine wq (fun _ _ kk => wk_ist5 (pc := 22) dX11_bestSet_22 (by decide) rfl kk) ?_
  exact l_X11_bestSet (h := h) (U := U) (wks := wks) hok hF (2 ^ nJ B + 1) 1 _ _ _ _ _ S2 _ (by omega) (by omega) (by omega) ee_14 hx hB hbo e0 ep rfl rfl rfl
theorem dX11_tied_0 : decode cX11_tied 0 = .ok (.iload_n 1, 1) := by decide +kernel
theorem dX11_tied_1 : decode cX11_tied 1 = .ok (.iconst 0, 1) := by decide +kernel
theorem dX11_tied_2 : decode cX11_tied 2 = .ok (.aload_n 0, 1) := by decide +kernel
theorem dX11_tied_3 : decode cX11_tied 3 = .ok (.invokevirtual 269, 3) := by decide +kernel
theorem dX11_tied_6 : decode cX11_tied 6 = .ok (.invokestatic 104, 3) := by decide +kernel
theorem dX11_tied_9 : decode cX11_tied 9 = .ok (.ifCond .ne 5, 3) := by decide +kernel
theorem dX11_tied_12 : decode cX11_tied 12 = .ok (.iconst (-1), 1) := by decide +kernel
theorem dX11_tied_13 : decode cX11_tied 13 = .ok (.ireturn, 1) := by decide +kernel
theorem dX11_tied_14 : decode cX11_tied 14 = .ok (.aload_n 0, 1) := by decide +kernel
theorem dX11_tied_15 : decode cX11_tied 15 = .ok (.aload_n 0, 1) := by decide +kernel
theorem dX11_tied_16 : decode cX11_tied 16 = .ok (.getfield 10, 3) := by decide +kernel
theorem dX11_tied_19 : decode cX11_tied 19 = .ok (.getfield 101, 3) := by decide +kernel
theorem dX11_tied_22 : decode cX11_tied 22 = .ok (.invokevirtual 183, 3) := by decide +kernel
theorem dX11_tied_25 : decode cX11_tied 25 = .ok (.aload_n 0, 1) := by decide +kernel
theorem dX11_tied_26 : decode cX11_tied 26 = .ok (.getfield 79, 3) := by decide +kernel
theorem dX11_tied_29 : decode cX11_tied 29 = .ok (.aload_n 0, 1) := by decide +kernel
theorem dX11_tied_30 : decode cX11_tied 30 = .ok (.getfield 65, 3) := by decide +kernel
theorem dX11_tied_33 : decode cX11_tied 33 = .ok (.aload_n 0, 1) := by decide +kernel
theorem dX11_tied_34 : decode cX11_tied 34 = .ok (.getfield 10, 3) := by decide +kernel
theorem dX11_tied_37 : decode cX11_tied 37 = .ok (.getfield 108, 3) := by decide +kernel
theorem dX11_tied_40 : decode cX11_tied 40 = .ok (.getfield 224, 3) := by decide +kernel
theorem dX11_tied_43 : decode cX11_tied 43 = .ok (.invokevirtual 272, 3) := by decide +kernel
theorem dX11_tied_46 : decode cX11_tied 46 = .ok (.aload_n 0, 1) := by decide +kernel
theorem dX11_tied_47 : decode cX11_tied 47 = .ok (.getfield 79, 3) := by decide +kernel
theorem dX11_tied_50 : decode cX11_tied 50 = .ok (.aload_n 0, 1) := by decide +kernel
theorem dX11_tied_51 : decode cX11_tied 51 = .ok (.getfield 10, 3) := by decide +kernel
theorem dX11_tied_54 : decode cX11_tied 54 = .ok (.getfield 266, 3) := by decide +kernel
theorem dX11_tied_57 : decode cX11_tied 57 = .ok (.iload_n 1, 1) := by decide +kernel
theorem dX11_tied_58 : decode cX11_tied 58 = .ok (.invokevirtual 276, 3) := by decide +kernel
theorem dX11_tied_61 : decode cX11_tied 61 = .ok (.ireturn, 1) := by decide +kernel
set_option maxRecDepth 100000 in
set_option maxHeartbeats 4000000 in
theorem c_X11_tied {h : ai_H} {tb lm : Int32} {B : Bk} {ln : Nat} (hx : x_at h tb lm) (hB : bk_at h 1 B) (hok : bk_ok B ln) (hs : scr h) (s : Int32) : ai_QM MX11_tied [.ref 0, .int s] h (fun r g => fr 22 306 h g ∧ scr g ∧ (((bi_in s 0 (nI (2 ^ nJ B - 1)) = 0) ∧ r = some (.int (-1))) ∨ (∃ k, k < 2 ^ nJ B ∧ s = nI k ∧ ∃ S z, GI B (bk_now B) S (nR B) z ∧ r = some (.int (prs (LM B (bk_now B) S z) B k))))) := by
  obtain ⟨-, -, -, ⟨S0, hcl⟩, ⟨T0, hmt⟩, -, ⟨S7, hbo⟩, -⟩ := id hs
  have hn16 := hok.2.1.2.1
  have hj9 := hok.2.2.2.2.2.2.1
  have hpw := pow_J hj9
  have hpp := pow_pos2 (nJ B)
  refine qm_of (ls := [.ref 0, .int s]) (by decide) (by simp [ai_en, Value.category]) (by rfl) ?_
  refine wq (fun _ _ kk => rs_iload_n (pc := 0) dX11_tied_0 rfl kk) ?_
  refine wq (fun _ _ kk => rs_iconst (v := 0) (pc := 1) dX11_tied_1 rfl kk) ?_
  refine wq (fun _ _ kk => rs_aload_n (pc := 2) dX11_tied_2 rfl kk) ?_
  refine wq (fun _ _ kk => rs_callV (as := []) (pc := 3) dX11_tied_3 mk_X11_allJourneys mlX11_269 in_X11_allJourneys se_X11_allJourneys rfl (x_lt hx (by decide)) hx.2 rfl rfl (Nat.le_of_ble_eq_true rfl) (c_X11_allJourneys hx hB hok) kk) ?_
  refine wq (fun _ _ kk => rs_callS (as := [_, _, _]) (pc := 6) dX11_tied_6 mk_X11_isWithin mlX11_104 st_X11_isWithin rfl rfl (Nat.le_of_ble_eq_true rfl) (c_X11_isWithin) kk) ?_
  refine wq_bn (fun _ _ kt kf => rs_if_ne (tgt := 14) (pc := 9) dX11_tied_9 rfl kt kf) (fun c_9 => ?_) (fun c_9 => ?_)
  · refine wq (fun _ _ kk => rs_aload_n (pc := 14) dX11_tied_14 rfl kk) ?_
    refine wq (fun _ _ kk => rs_aload_n (pc := 15) dX11_tied_15 rfl kk) ?_
    refine wq (fun _ _ kk => rs_getf (pc := 16) dX11_tied_16 fX11_10 (x_lt hx (by decide)) hx.2 rfl kk) ?_
    refine wq (fun _ _ kk => rs_getf (pc := 19) dX11_tied_19 fX11_101 (bk_lt hB (by decide)) hB.2.1 rfl kk) ?_
    obtain ⟨k, hk, rfl⟩ := set_ex (by omega) c_9
    obtain ⟨rv_22, hc_22, ⟨rfl, ee_22, S, z, hG, hcl_22, hmt_22⟩, hm_22⟩ := c_X11_measure hx hB hok hcl hmt (bk_now B)
    refine wq (fun _ _ kk => rs_callV (as := [_]) (pc := 22) dX11_tied_22 mk_X11_measure mlX11_183 in_X11_measure se_X11_measure rfl (x_lt hx (by decide)) hx.2 rfl rfl (Nat.le_of_ble_eq_true rfl) (hm_22) kk) ?_
    replace hcl := hcl_22
    replace hmt := hmt_22
    replace hx := x_at.keep hx ee_22.1 (ee_22.2.2 0 (by decide))
    replace hB := hB.keep ee_22.1 (fun j _ _ => ee_22.2.2 j (by omega))
    replace hbo := bo_keep hbo ee_22.1 (fun j _ _ => ee_22.2.2 j (by omega))
    obtain ⟨hlr, htr⟩ := LM_rows hok hG
    refine wq (fun _ _ kk => rs_aload_n (pc := 25) dX11_tied_25 rfl kk) ?_
    refine wq (fun _ _ kk => rs_getf (pc := 26) dX11_tied_26 fX11_79 (x_lt hx (by decide)) hx.2 rfl kk) ?_
    refine wq (fun _ _ kk => rs_aload_n (pc := 29) dX11_tied_29 rfl kk) ?_
    refine wq (fun _ _ kk => rs_getf (pc := 30) dX11_tied_30 fX11_65 (x_lt hx (by decide)) hx.2 rfl kk) ?_
    refine wq (fun _ _ kk => rs_aload_n (pc := 33) dX11_tied_33 rfl kk) ?_
    refine wq (fun _ _ kk => rs_getf (pc := 34) dX11_tied_34 fX11_10 (x_lt hx (by decide)) hx.2 rfl kk) ?_
    refine wq (fun _ _ kk => rs_getf (pc := 37) dX11_tied_37 fX11_108 (bk_lt hB (by decide)) hB.2.1 rfl kk) ?_
    refine wq (fun _ _ kk => rs_getf (pc := 40) dX11_tied_40 fX11_224 (bk_lt hB (by decide)) hB.2.2.1.1 rfl kk) ?_
    rw [hok.2.1.1]
    obtain ⟨rv_43, hc_43, ⟨rfl, ee_43, S1, hbo_43, e0, hF, hF2⟩, hm_43⟩ := c_X0_begin hn16 htr hlr (LM_sym hok hG) hbo hmt
    refine wq (fun _ _ kk => rs_callV (as := [_, _]) (pc := 43) dX11_tied_43 mk_X0_begin mlX11_272 in_X0_begin se_X0_begin rfl (mo_lt hbo (by decide)) hbo.2.1 rfl rfl (Nat.le_of_ble_eq_true rfl) (hm_43) kk) ?_
    replace hbo := hbo_43
    replace hx := x_at.keep hx ee_43.1 (ee_43.2.2 0 (by decide))
    replace hB := hB.keep ee_43.1 (fun j _ _ => ee_43.2.2 j (by omega))
    replace hcl := cl_keep hcl ee_43.1 (fun j _ _ => ee_43.2.2 j (by omega))
    replace hmt := mt_keep hmt ee_43.1 (fun j _ _ => ee_43.2.2 j (by omega))
    have E0 := (fr3.a ee_22).trans (fr3.b ee_43)
    refine wq (fun _ _ kk => rs_aload_n (pc := 46) dX11_tied_46 rfl kk) ?_
    refine wq (fun _ _ kk => rs_getf (pc := 47) dX11_tied_47 fX11_79 (x_lt hx (by decide)) hx.2 rfl kk) ?_
    refine wq (fun _ _ kk => rs_aload_n (pc := 50) dX11_tied_50 rfl kk) ?_
    refine wq (fun _ _ kk => rs_getf (pc := 51) dX11_tied_51 fX11_10 (x_lt hx (by decide)) hx.2 rfl kk) ?_
    refine wq (fun _ _ kk => rs_getf (pc := 54) dX11_tied_54 fX11_266 (bk_lt hB (by decide)) hB.2.1 rfl kk) ?_
    refine wq (fun _ _ kk => rs_iload_n (pc := 57) dX11_tied_57 rfl kk) ?_
    obtain ⟨rv_58, hc_58, ⟨rfl, ee_58, S2, hbo_58, e0_58, ep_58, hF_58⟩, hm_58⟩ := c_X0_pairsWith (s := k) (U := (LM B (bk_now B) S z)) hok (by omega) hB hbo e0 hF
    refine wq (fun _ _ kk => rs_callV (as := [_, _]) (pc := 58) dX11_tied_58 mk_X0_pairsWith mlX11_276 in_X0_pairsWith se_X0_pairsWith rfl (mo_lt hbo (by decide)) hbo.2.1 rfl rfl (Nat.le_of_ble_eq_true rfl) (hm_58) kk) ?_
    replace hbo := hbo_58
    replace e0 := e0_58
    replace E0 := E0.trans (fr3.b ee_58)
    replace hx := x_at.keep hx ee_58.1 (ee_58.2.2 0 (by decide))
    replace hB := hB.keep ee_58.1 (fun j _ _ => ee_58.2.2 j (by omega))
    replace hcl := cl_keep hcl ee_58.1 (fun j _ _ => ee_58.2.2 j (by omega))
    replace hmt := mt_keep hmt ee_58.1 (fun j _ _ => ee_58.2.2 j (by omega))
    refine wq_ret ?_ (rs_iret (pc := 61) dX11_tied_61 rfl)
    exact ⟨E0.f, hs.bond E0 ⟨_, hcl⟩ ⟨_, hmt⟩ ⟨_, hbo⟩, Or.inr ⟨k, by omega, rfl, S, z, hG, rfl⟩⟩
  · refine wq (fun _ _ kk => rs_iconst (v := -1) (pc := 12) dX11_tied_12 rfl kk) ?_
    refine wq_ret ?_ (rs_iret (pc := 13) dX11_tied_13 rfl)
    exact ⟨fr.rf, hs, Or.inl ⟨c_9, rfl⟩⟩
noncomputable def uu_plan (U : Nat → List Int) (B : Bk) (w x : Int32) : Int32 := if x = 0 then nI (pst (prs U B) (fun t => wkS B t (nJ B)) w (2 ^ nJ B - 1)).1 else if x = 1 then (pst (prs U B) (fun t => wkS B t (nJ B)) w (2 ^ nJ B - 1)).2.1 else (pst (prs U B) (fun t => wkS B t (nJ B)) w (2 ^ nJ B - 1)).2.2
theorem tX_s0 (U : Nat → List Int) (B : Bk) (n k : Nat) : tX U B n 0 k = eX U n := by
  induction k with
  | zero => exact tX_0 U B n 0
  | succ k ih => rw [tX_n (by rw [Nat.zero_testBit]; exact Bool.false_ne_true), ih]
noncomputable def uu_next (U : Nat → List Int) (B : Bk) : Int32 := (nxS (cR (tX U B (nO B) 0 (nJ B))) (nO B) (nO B)).1
theorem dX11_plan_0 : decode cX11_plan 0 = .ok (.iload_n 1, 1) := by decide +kernel
theorem dX11_plan_1 : decode cX11_plan 1 = .ok (.iconst 0, 1) := by decide +kernel
theorem dX11_plan_2 : decode cX11_plan 2 = .ok (.sipush 999, 3) := by decide +kernel
theorem dX11_plan_5 : decode cX11_plan 5 = .ok (.invokestatic 104, 3) := by decide +kernel
theorem dX11_plan_8 : decode cX11_plan 8 = .ok (.ifCond .eq 12, 3) := by decide +kernel
theorem dX11_plan_11 : decode cX11_plan 11 = .ok (.iload_n 2, 1) := by decide +kernel
theorem dX11_plan_12 : decode cX11_plan 12 = .ok (.iconst 0, 1) := by decide +kernel
theorem dX11_plan_13 : decode cX11_plan 13 = .ok (.iconst 2, 1) := by decide +kernel
theorem dX11_plan_14 : decode cX11_plan 14 = .ok (.invokestatic 104, 3) := by decide +kernel
theorem dX11_plan_17 : decode cX11_plan 17 = .ok (.ifCond .ne 5, 3) := by decide +kernel
theorem dX11_plan_20 : decode cX11_plan 20 = .ok (.iconst (-1), 1) := by decide +kernel
theorem dX11_plan_21 : decode cX11_plan 21 = .ok (.ireturn, 1) := by decide +kernel
theorem dX11_plan_22 : decode cX11_plan 22 = .ok (.aload_n 0, 1) := by decide +kernel
theorem dX11_plan_23 : decode cX11_plan 23 = .ok (.aload_n 0, 1) := by decide +kernel
theorem dX11_plan_24 : decode cX11_plan 24 = .ok (.getfield 10, 3) := by decide +kernel
theorem dX11_plan_27 : decode cX11_plan 27 = .ok (.getfield 101, 3) := by decide +kernel
theorem dX11_plan_30 : decode cX11_plan 30 = .ok (.invokevirtual 183, 3) := by decide +kernel
theorem dX11_plan_33 : decode cX11_plan 33 = .ok (.aload_n 0, 1) := by decide +kernel
theorem dX11_plan_34 : decode cX11_plan 34 = .ok (.getfield 79, 3) := by decide +kernel
theorem dX11_plan_37 : decode cX11_plan 37 = .ok (.aload_n 0, 1) := by decide +kernel
theorem dX11_plan_38 : decode cX11_plan 38 = .ok (.getfield 65, 3) := by decide +kernel
theorem dX11_plan_41 : decode cX11_plan 41 = .ok (.aload_n 0, 1) := by decide +kernel
theorem dX11_plan_42 : decode cX11_plan 42 = .ok (.getfield 10, 3) := by decide +kernel
theorem dX11_plan_45 : decode cX11_plan 45 = .ok (.getfield 108, 3) := by decide +kernel
theorem dX11_plan_48 : decode cX11_plan 48 = .ok (.getfield 224, 3) := by decide +kernel
theorem dX11_plan_51 : decode cX11_plan 51 = .ok (.invokevirtual 272, 3) := by decide +kernel
theorem dX11_plan_54 : decode cX11_plan 54 = .ok (.aload_n 0, 1) := by decide +kernel
theorem dX11_plan_55 : decode cX11_plan 55 = .ok (.iload_n 1, 1) := by decide +kernel
theorem dX11_plan_56 : decode cX11_plan 56 = .ok (.invokevirtual 280, 3) := by decide +kernel
theorem dX11_plan_59 : decode cX11_plan 59 = .ok (.istore_n 3, 1) := by decide +kernel
theorem dX11_plan_60 : decode cX11_plan 60 = .ok (.iload_n 2, 1) := by decide +kernel
theorem dX11_plan_61 : decode cX11_plan 61 = .ok (.ifCond .ne 5, 3) := by decide +kernel
theorem dX11_plan_64 : decode cX11_plan 64 = .ok (.iload_n 3, 1) := by decide +kernel
theorem dX11_plan_65 : decode cX11_plan 65 = .ok (.ireturn, 1) := by decide +kernel
theorem dX11_plan_66 : decode cX11_plan 66 = .ok (.iload_n 2, 1) := by decide +kernel
theorem dX11_plan_67 : decode cX11_plan 67 = .ok (.iconst 1, 1) := by decide +kernel
theorem dX11_plan_68 : decode cX11_plan 68 = .ok (.if_icmp .ne 21, 3) := by decide +kernel
theorem dX11_plan_71 : decode cX11_plan 71 = .ok (.aload_n 0, 1) := by decide +kernel
theorem dX11_plan_72 : decode cX11_plan 72 = .ok (.getfield 79, 3) := by decide +kernel
theorem dX11_plan_75 : decode cX11_plan 75 = .ok (.aload_n 0, 1) := by decide +kernel
theorem dX11_plan_76 : decode cX11_plan 76 = .ok (.getfield 10, 3) := by decide +kernel
theorem dX11_plan_79 : decode cX11_plan 79 = .ok (.getfield 266, 3) := by decide +kernel
theorem dX11_plan_82 : decode cX11_plan 82 = .ok (.iload_n 3, 1) := by decide +kernel
theorem dX11_plan_83 : decode cX11_plan 83 = .ok (.invokevirtual 276, 3) := by decide +kernel
theorem dX11_plan_86 : decode cX11_plan 86 = .ok (.goto 8, 3) := by decide +kernel
theorem dX11_plan_89 : decode cX11_plan 89 = .ok (.aload_n 0, 1) := by decide +kernel
theorem dX11_plan_90 : decode cX11_plan 90 = .ok (.iload_n 3, 1) := by decide +kernel
theorem dX11_plan_91 : decode cX11_plan 91 = .ok (.invokevirtual 283, 3) := by decide +kernel
theorem dX11_plan_94 : decode cX11_plan 94 = .ok (.ireturn, 1) := by decide +kernel
set_option maxRecDepth 100000 in
set_option maxHeartbeats 4000000 in
theorem c_X11_plan {h : ai_H} {tb lm : Int32} {B : Bk} {ln : Nat} (hx : x_at h tb lm) (hB : bk_at h 1 B) (hok : bk_ok B ln) (hs : scr h) (w x : Int32) : ai_QM MX11_plan [.ref 0, .int w, .int x] h (fun r g => fr 22 306 h g ∧ scr g ∧ (((bi_in w 0 999 = 0 ∨ bi_in x 0 2 = 0) ∧ r = some (.int (-1))) ∨ (¬ (bi_in w 0 999 = 0 ∨ bi_in x 0 2 = 0) ∧ ∃ S z, GI B (bk_now B) S (nR B) z ∧ r = some (.int (uu_plan (LM B (bk_now B) S z) B w x))))) := by
  obtain ⟨-, -, -, ⟨S0, hcl⟩, ⟨T0, hmt⟩, -, ⟨S7, hbo⟩, -⟩ := id hs
  have hn16 := hok.2.1.2.1
  have hj9 := hok.2.2.2.2.2.2.1
  have hpw := pow_J hj9
  have hpp := pow_pos2 (nJ B)
  refine qm_of (ls := [.ref 0, .int w, .int x, .float 0]) (by decide) (by simp [ai_en, Value.category]) (by rfl) ?_
  refine wq (fun _ _ kk => rs_iload_n (pc := 0) dX11_plan_0 rfl kk) ?_
  refine wq (fun _ _ kk => rs_iconst (v := 0) (pc := 1) dX11_plan_1 rfl kk) ?_
  refine wq (fun _ _ kk => rs_sipush (v := 999) (pc := 2) dX11_plan_2 rfl kk) ?_
  refine wq (fun _ _ kk => rs_callS (as := [_, _, _]) (pc := 5) dX11_plan_5 mk_X11_isWithin mlX11_104 st_X11_isWithin rfl rfl (Nat.le_of_ble_eq_true rfl) (c_X11_isWithin) kk) ?_
  refine wq_br (fun _ _ kt kf => rs_if_eq (tgt := 20) (pc := 8) dX11_plan_8 rfl kt kf) (fun c_8 => ?_) (fun c_8 => ?_)
  · refine wq (fun _ _ kk => rs_iconst (v := -1) (pc := 20) dX11_plan_20 rfl kk) ?_
    refine wq_ret ?_ (rs_iret (pc := 21) dX11_plan_21 rfl)
    exact ⟨fr.rf, hs, Or.inl ⟨by first | exact Or.inl c_8 | exact Or.inr c_17, rfl⟩⟩
  · refine wq (fun _ _ kk => rs_iload_n (pc := 11) dX11_plan_11 rfl kk) ?_
    refine wq (fun _ _ kk => rs_iconst (v := 0) (pc := 12) dX11_plan_12 rfl kk) ?_
    refine wq (fun _ _ kk => rs_iconst (v := 2) (pc := 13) dX11_plan_13 rfl kk) ?_
    refine wq (fun _ _ kk => rs_callS (as := [_, _, _]) (pc := 14) dX11_plan_14 mk_X11_isWithin mlX11_104 st_X11_isWithin rfl rfl (Nat.le_of_ble_eq_true rfl) (c_X11_isWithin) kk) ?_
    refine wq_bn (fun _ _ kt kf => rs_if_ne (tgt := 22) (pc := 17) dX11_plan_17 rfl kt kf) (fun c_17 => ?_) (fun c_17 => ?_)
    · refine wq (fun _ _ kk => rs_aload_n (pc := 22) dX11_plan_22 rfl kk) ?_
      refine wq (fun _ _ kk => rs_aload_n (pc := 23) dX11_plan_23 rfl kk) ?_
      refine wq (fun _ _ kk => rs_getf (pc := 24) dX11_plan_24 fX11_10 (x_lt hx (by decide)) hx.2 rfl kk) ?_
      refine wq (fun _ _ kk => rs_getf (pc := 27) dX11_plan_27 fX11_101 (bk_lt hB (by decide)) hB.2.1 rfl kk) ?_
      have hgu : ¬ (bi_in w 0 999 = 0 ∨ bi_in x 0 2 = 0) := by rintro (q | q); exact c_8 q; exact c_17 q
      obtain ⟨rv_30, hc_30, ⟨rfl, ee_30, S, z, hG, hcl_30, hmt_30⟩, hm_30⟩ := c_X11_measure hx hB hok hcl hmt (bk_now B)
      refine wq (fun _ _ kk => rs_callV (as := [_]) (pc := 30) dX11_plan_30 mk_X11_measure mlX11_183 in_X11_measure se_X11_measure rfl (x_lt hx (by decide)) hx.2 rfl rfl (Nat.le_of_ble_eq_true rfl) (hm_30) kk) ?_
      replace hcl := hcl_30
      replace hmt := hmt_30
      replace hx := x_at.keep hx ee_30.1 (ee_30.2.2 0 (by decide))
      replace hB := hB.keep ee_30.1 (fun j _ _ => ee_30.2.2 j (by omega))
      replace hbo := bo_keep hbo ee_30.1 (fun j _ _ => ee_30.2.2 j (by omega))
      obtain ⟨hlr, htr⟩ := LM_rows hok hG
      refine wq (fun _ _ kk => rs_aload_n (pc := 33) dX11_plan_33 rfl kk) ?_
      refine wq (fun _ _ kk => rs_getf (pc := 34) dX11_plan_34 fX11_79 (x_lt hx (by decide)) hx.2 rfl kk) ?_
      refine wq (fun _ _ kk => rs_aload_n (pc := 37) dX11_plan_37 rfl kk) ?_
      refine wq (fun _ _ kk => rs_getf (pc := 38) dX11_plan_38 fX11_65 (x_lt hx (by decide)) hx.2 rfl kk) ?_
      refine wq (fun _ _ kk => rs_aload_n (pc := 41) dX11_plan_41 rfl kk) ?_
      refine wq (fun _ _ kk => rs_getf (pc := 42) dX11_plan_42 fX11_10 (x_lt hx (by decide)) hx.2 rfl kk) ?_
      refine wq (fun _ _ kk => rs_getf (pc := 45) dX11_plan_45 fX11_108 (bk_lt hB (by decide)) hB.2.1 rfl kk) ?_
      refine wq (fun _ _ kk => rs_getf (pc := 48) dX11_plan_48 fX11_224 (bk_lt hB (by decide)) hB.2.2.1.1 rfl kk) ?_
      rw [hok.2.1.1]
      obtain ⟨rv_51, hc_51, ⟨rfl, ee_51, S1, hbo_51, e0, hF, hF2⟩, hm_51⟩ := c_X0_begin hn16 htr hlr (LM_sym hok hG) hbo hmt
      refine wq (fun _ _ kk => rs_callV (as := [_, _]) (pc := 51) dX11_plan_51 mk_X0_begin mlX11_272 in_X0_begin se_X0_begin rfl (mo_lt hbo (by decide)) hbo.2.1 rfl rfl (Nat.le_of_ble_eq_true rfl) (hm_51) kk) ?_
      replace hbo := hbo_51
      replace hx := x_at.keep hx ee_51.1 (ee_51.2.2 0 (by decide))
      replace hB := hB.keep ee_51.1 (fun j _ _ => ee_51.2.2 j (by omega))
      replace hcl := cl_keep hcl ee_51.1 (fun j _ _ => ee_51.2.2 j (by omega))
      replace hmt := mt_keep hmt ee_51.1 (fun j _ _ => ee_51.2.2 j (by omega))
      have E0 := (fr3.a ee_30).trans (fr3.b ee_51)
      refine wq (fun _ _ kk => rs_aload_n (pc := 54) dX11_plan_54 rfl kk) ?_
      refine wq (fun _ _ kk => rs_iload_n (pc := 55) dX11_plan_55 rfl kk) ?_
      obtain ⟨rv_56, hc_56, ⟨rfl, ee_56, hx_56, hB_56, S3, hbo_56, e0_56, ep_56⟩, hm_56⟩ := c_X11_bestSet (U := (LM B (bk_now B) S z)) (wks := w) hok hF hx hB hbo e0 rfl
      refine wq (fun _ _ kk => rs_callV (as := [_]) (pc := 56) dX11_plan_56 mk_X11_bestSet mlX11_280 in_X11_bestSet se_X11_bestSet rfl (x_lt hx (by decide)) hx.2 rfl rfl (Nat.le_of_ble_eq_true rfl) (hm_56) kk) ?_
      replace hbo := hbo_56
      replace e0 := e0_56
      replace hx := hx_56
      replace hB := hB_56
      rw [← ep_56] at hF
      replace E0 := E0.trans (fr3.b ee_56)
      replace hcl := cl_keep hcl ee_56.1 (fun j _ _ => ee_56.2.2 j (by omega))
      replace hmt := mt_keep hmt ee_56.1 (fun j _ _ => ee_56.2.2 j (by omega))
      obtain ⟨pi1, pi2, pi3⟩ := pst_is (P := prs (LM B (bk_now B) S z) B) (W := fun t => wkS B t (nJ B)) (w := w) (wkS_0 B (nJ B)) (2 ^ nJ B - 1)
      refine wq (fun _ _ kk => wk_istn3 (pc := 59) dX11_plan_59 (by decide) rfl kk) ?_
      refine wq (fun _ _ kk => rs_iload_n (pc := 60) dX11_plan_60 rfl kk) ?_
      refine wq_bn (fun _ _ kt kf => rs_if_ne (tgt := 66) (pc := 61) dX11_plan_61 rfl kt kf) (fun c_61 => ?_) (fun c_61 => ?_)
      · refine wq (fun _ _ kk => rs_iload_n (pc := 66) dX11_plan_66 rfl kk) ?_
        refine wq (fun _ _ kk => rs_iconst (v := 1) (pc := 67) dX11_plan_67 rfl kk) ?_
        refine wq_bn (fun _ _ kt kf => rs_icmp_ne (tgt := 89) (pc := 68) dX11_plan_68 rfl kt kf) (fun c_68 => ?_) (fun c_68 => ?_)
        · refine wq (fun _ _ kk => rs_aload_n (pc := 89) dX11_plan_89 rfl kk) ?_
          refine wq (fun _ _ kk => rs_iload_n (pc := 90) dX11_plan_90 rfl kk) ?_
          refine wq (fun _ _ kk => rs_callV (as := [_]) (pc := 91) dX11_plan_91 mk_X11_weeksOf mlX11_283 in_X11_weeksOf se_X11_weeksOf rfl (x_lt hx (by decide)) hx.2 rfl rfl (Nat.le_of_ble_eq_true rfl) (c_X11_weeksOf hx hB hok (by omega)) kk) ?_
          refine wq_ret ?_ (rs_iret (pc := 94) dX11_plan_94 rfl)
          exact ⟨E0.f, hs.bond E0 ⟨_, hcl⟩ ⟨_, hmt⟩ ⟨_, hbo⟩, Or.inr ⟨hgu, S, z, hG, by unfold uu_plan; rw [if_neg c_61]; first | (rw [if_pos c_68, pi1]; done) | (rw [if_neg c_68, pi2])⟩⟩
        · refine wq (fun _ _ kk => rs_aload_n (pc := 71) dX11_plan_71 rfl kk) ?_
          refine wq (fun _ _ kk => rs_getf (pc := 72) dX11_plan_72 fX11_79 (x_lt hx (by decide)) hx.2 rfl kk) ?_
          refine wq (fun _ _ kk => rs_aload_n (pc := 75) dX11_plan_75 rfl kk) ?_
          refine wq (fun _ _ kk => rs_getf (pc := 76) dX11_plan_76 fX11_10 (x_lt hx (by decide)) hx.2 rfl kk) ?_
          refine wq (fun _ _ kk => rs_getf (pc := 79) dX11_plan_79 fX11_266 (bk_lt hB (by decide)) hB.2.1 rfl kk) ?_
          refine wq (fun _ _ kk => rs_iload_n (pc := 82) dX11_plan_82 rfl kk) ?_
          obtain ⟨rv_83, hc_83, ⟨rfl, ee_83, S2, hbo_83, e0_83, ep_83, hF_83⟩, hm_83⟩ := c_X0_pairsWith (s := (pst (prs (LM B (bk_now B) S z) B) (fun t => wkS B t (nJ B)) w (2 ^ nJ B - 1)).1) (U := (LM B (bk_now B) S z)) hok (by omega) hB hbo e0 hF
          refine wq (fun _ _ kk => rs_callV (as := [_, _]) (pc := 83) dX11_plan_83 mk_X0_pairsWith mlX11_276 in_X0_pairsWith se_X0_pairsWith rfl (mo_lt hbo (by decide)) hbo.2.1 rfl rfl (Nat.le_of_ble_eq_true rfl) (hm_83) kk) ?_
          replace hbo := hbo_83
          replace e0 := e0_83
          replace E0 := E0.trans (fr3.b ee_83)
          replace hx := x_at.keep hx ee_83.1 (ee_83.2.2 0 (by decide))
          replace hB := hB.keep ee_83.1 (fun j _ _ => ee_83.2.2 j (by omega))
          replace hcl := cl_keep hcl ee_83.1 (fun j _ _ => ee_83.2.2 j (by omega))
          replace hmt := mt_keep hmt ee_83.1 (fun j _ _ => ee_83.2.2 j (by omega))
          refine wq (fun _ _ kk => rs_goto (tgt := 94) (pc := 86) dX11_plan_86 rfl kk) ?_
          refine wq_ret ?_ (rs_iret (pc := 94) dX11_plan_94 rfl)
          exact ⟨E0.f, hs.bond E0 ⟨_, hcl⟩ ⟨_, hmt⟩ ⟨_, hbo⟩, Or.inr ⟨hgu, S, z, hG, by unfold uu_plan; rw [if_neg c_61]; first | (rw [if_pos c_68, pi1]; done) | (rw [if_neg c_68, pi2])⟩⟩
      · refine wq (fun _ _ kk => rs_iload_n (pc := 64) dX11_plan_64 rfl kk) ?_
        refine wq_ret ?_ (rs_iret (pc := 65) dX11_plan_65 rfl)
        exact ⟨E0.f, hs.bond E0 ⟨_, hcl⟩ ⟨_, hmt⟩ ⟨_, hbo⟩, Or.inr ⟨hgu, S, z, hG, by unfold uu_plan; rw [if_pos c_61]⟩⟩
    · refine wq (fun _ _ kk => rs_iconst (v := -1) (pc := 20) dX11_plan_20 rfl kk) ?_
      refine wq_ret ?_ (rs_iret (pc := 21) dX11_plan_21 rfl)
      exact ⟨fr.rf, hs, Or.inl ⟨by first | exact Or.inl c_8 | exact Or.inr c_17, rfl⟩⟩
theorem dX11_next_0 : decode cX11_next 0 = .ok (.aload_n 0, 1) := by decide +kernel
theorem dX11_next_1 : decode cX11_next 1 = .ok (.aload_n 0, 1) := by decide +kernel
theorem dX11_next_2 : decode cX11_next 2 = .ok (.getfield 10, 3) := by decide +kernel
theorem dX11_next_5 : decode cX11_next 5 = .ok (.getfield 101, 3) := by decide +kernel
theorem dX11_next_8 : decode cX11_next 8 = .ok (.invokevirtual 183, 3) := by decide +kernel
theorem dX11_next_11 : decode cX11_next 11 = .ok (.aload_n 0, 1) := by decide +kernel
theorem dX11_next_12 : decode cX11_next 12 = .ok (.getfield 79, 3) := by decide +kernel
theorem dX11_next_15 : decode cX11_next 15 = .ok (.aload_n 0, 1) := by decide +kernel
theorem dX11_next_16 : decode cX11_next 16 = .ok (.getfield 65, 3) := by decide +kernel
theorem dX11_next_19 : decode cX11_next 19 = .ok (.aload_n 0, 1) := by decide +kernel
theorem dX11_next_20 : decode cX11_next 20 = .ok (.getfield 10, 3) := by decide +kernel
theorem dX11_next_23 : decode cX11_next 23 = .ok (.getfield 108, 3) := by decide +kernel
theorem dX11_next_26 : decode cX11_next 26 = .ok (.getfield 224, 3) := by decide +kernel
theorem dX11_next_29 : decode cX11_next 29 = .ok (.invokevirtual 272, 3) := by decide +kernel
theorem dX11_next_32 : decode cX11_next 32 = .ok (.bipush (-2), 2) := by decide +kernel
theorem dX11_next_34 : decode cX11_next 34 = .ok (.istore_n 1, 1) := by decide +kernel
theorem dX11_next_35 : decode cX11_next 35 = .ok (.iconst 0, 1) := by decide +kernel
theorem dX11_next_36 : decode cX11_next 36 = .ok (.istore_n 2, 1) := by decide +kernel
theorem dX11_next_37 : decode cX11_next 37 = .ok (.iconst 0, 1) := by decide +kernel
theorem dX11_next_38 : decode cX11_next 38 = .ok (.istore_n 3, 1) := by decide +kernel
theorem dX11_next_39 : decode cX11_next 39 = .ok (.iload_n 3, 1) := by decide +kernel
theorem dX11_next_40 : decode cX11_next 40 = .ok (.aload_n 0, 1) := by decide +kernel
theorem dX11_next_41 : decode cX11_next 41 = .ok (.getfield 10, 3) := by decide +kernel
theorem dX11_next_44 : decode cX11_next 44 = .ok (.getfield 108, 3) := by decide +kernel
theorem dX11_next_47 : decode cX11_next 47 = .ok (.getfield 224, 3) := by decide +kernel
theorem dX11_next_50 : decode cX11_next 50 = .ok (.if_icmp .ge 64, 3) := by decide +kernel
theorem dX11_next_53 : decode cX11_next 53 = .ok (.iload_n 3, 1) := by decide +kernel
theorem dX11_next_54 : decode cX11_next 54 = .ok (.iconst 1, 1) := by decide +kernel
theorem dX11_next_55 : decode cX11_next 55 = .ok (.iadd, 1) := by decide +kernel
theorem dX11_next_56 : decode cX11_next 56 = .ok (.istore 4, 2) := by decide +kernel
theorem dX11_next_58 : decode cX11_next 58 = .ok (.iload 4, 2) := by decide +kernel
theorem dX11_next_60 : decode cX11_next 60 = .ok (.aload_n 0, 1) := by decide +kernel
theorem dX11_next_61 : decode cX11_next 61 = .ok (.getfield 10, 3) := by decide +kernel
theorem dX11_next_64 : decode cX11_next 64 = .ok (.getfield 108, 3) := by decide +kernel
theorem dX11_next_67 : decode cX11_next 67 = .ok (.getfield 224, 3) := by decide +kernel
theorem dX11_next_70 : decode cX11_next 70 = .ok (.if_icmp .ge 38, 3) := by decide +kernel
theorem dX11_next_73 : decode cX11_next 73 = .ok (.aload_n 0, 1) := by decide +kernel
theorem dX11_next_74 : decode cX11_next 74 = .ok (.getfield 79, 3) := by decide +kernel
theorem dX11_next_77 : decode cX11_next 77 = .ok (.iload_n 3, 1) := by decide +kernel
theorem dX11_next_78 : decode cX11_next 78 = .ok (.iload 4, 2) := by decide +kernel
theorem dX11_next_80 : decode cX11_next 80 = .ok (.invokevirtual 286, 3) := by decide +kernel
theorem dX11_next_83 : decode cX11_next 83 = .ok (.istore 5, 2) := by decide +kernel
theorem dX11_next_85 : decode cX11_next 85 = .ok (.iload 5, 2) := by decide +kernel
theorem dX11_next_87 : decode cX11_next 87 = .ok (.iload_n 2, 1) := by decide +kernel
theorem dX11_next_88 : decode cX11_next 88 = .ok (.if_icmp .le 14, 3) := by decide +kernel
theorem dX11_next_91 : decode cX11_next 91 = .ok (.iload 5, 2) := by decide +kernel
theorem dX11_next_93 : decode cX11_next 93 = .ok (.istore_n 2, 1) := by decide +kernel
theorem dX11_next_94 : decode cX11_next 94 = .ok (.bipush 16, 2) := by decide +kernel
theorem dX11_next_96 : decode cX11_next 96 = .ok (.iload_n 3, 1) := by decide +kernel
theorem dX11_next_97 : decode cX11_next 97 = .ok (.imul, 1) := by decide +kernel
theorem dX11_next_98 : decode cX11_next 98 = .ok (.iload 4, 2) := by decide +kernel
theorem dX11_next_100 : decode cX11_next 100 = .ok (.iadd, 1) := by decide +kernel
theorem dX11_next_101 : decode cX11_next 101 = .ok (.istore_n 1, 1) := by decide +kernel
theorem dX11_next_102 : decode cX11_next 102 = .ok (.iinc 4 1, 3) := by decide +kernel
theorem dX11_next_105 : decode cX11_next 105 = .ok (.goto (-47), 3) := by decide +kernel
theorem dX11_next_108 : decode cX11_next 108 = .ok (.iinc 3 1, 3) := by decide +kernel
theorem dX11_next_111 : decode cX11_next 111 = .ok (.goto (-72), 3) := by decide +kernel
theorem dX11_next_114 : decode cX11_next 114 = .ok (.iload_n 1, 1) := by decide +kernel
theorem dX11_next_115 : decode cX11_next 115 = .ok (.ireturn, 1) := by decide +kernel
set_option maxRecDepth 100000 in
set_option maxHeartbeats 4000000 in
theorem l1_X11_next {h : ai_H} {tb lm : Int32} {B : Bk} {ln : Nat} {S1 : Md} {X : Nat → Nat → Prop} (hx : x_at h tb lm) (hB : bk_at h 1 B) (hok : bk_ok B ln) (hbo : bo_at h S1) (e0 : S1.1 0 = nI (nO B)) (hF : FE (nO B) (S1.2.2.1 2) (clo X)) {a : Nat} {r : Option Value} (ha : a < nO B) (kx : ∀ (v1 v2 : Int32) (u5 : Value), v1 = (nxI (cR X) (nO B) a (nxS (cR X) (nO B) a) ((nO B) - a - 1)).1 → v2 = (nxI (cR X) (nO B) a (nxS (cR X) (nO B) a) ((nO B) - a - 1)).2 → ai_R MX11_next 108 [.ref 0, .int v1, .int v2, .int (nI a), .int (nI (nO B)), u5] [] h r h) : ∀ (k b : Nat) (v1 v2 : Int32) (u5 : Value), a < b → b ≤ nO B → nO B + 1 ≤ b + k → v1 = (nxI (cR X) (nO B) a (nxS (cR X) (nO B) a) (b - a - 1)).1 → v2 = (nxI (cR X) (nO B) a (nxS (cR X) (nO B) a) (b - a - 1)).2 → ai_R MX11_next 58 [.ref 0, .int v1, .int v2, .int (nI a), .int (nI b), u5] [] h r h := by
  have hn16 := hok.2.1.2.1
  intro k
  induction k with
  | zero => intro b v1 v2 u5 h1 h2 h3; exact absurd h3 (by omega)
  | succ k ih =>
    intro b v1 v2 u5 hab hb0 him q1 q2
    refine rs_iload (pc := 58) dX11_next_58 rfl ?_
    refine rs_aload_n (pc := 60) dX11_next_60 rfl ?_
    refine rs_getf (pc := 61) dX11_next_61 fX11_10 (x_lt hx (by decide)) hx.2 rfl ?_
    refine rs_getf (pc := 64) dX11_next_64 fX11_108 (bk_lt hB (by decide)) hB.2.1 rfl ?_
    refine rs_getf (pc := 67) dX11_next_67 fX11_224 (bk_lt hB (by decide)) hB.2.2.1.1 rfl ?_
    rw [hok.2.1.1]
    refine rs_icmp_ge (tgt := 108) (pc := 70) dX11_next_70 rfl (fun c_70 => ?_) (fun c_70 => ?_)
    · have hbe : b = nO B := lp_exit rfl (by omega) hb0 c_70
      subst hbe
      exact kx _ _ _ q1 q2
    · have hb : b < nO B := lp_go rfl (by omega) c_70
      refine rs_aload_n (pc := 73) dX11_next_73 rfl ?_
      refine rs_getf (pc := 74) dX11_next_74 fX11_79 (x_lt hx (by decide)) hx.2 rfl ?_
      refine rs_iload_n (pc := 77) dX11_next_77 rfl ?_
      refine rs_iload (pc := 78) dX11_next_78 rfl ?_
      refine rs_callV (as := [_, _]) (pc := 80) dX11_next_80 mk_X0_gain mlX11_286 in_X0_gain se_X0_gain rfl (mo_lt hbo (by decide)) hbo.2.1 rfl rfl (Nat.le_of_ble_eq_true rfl) (c_X0_gain hn16 e0 hbo (show a < nO B by omega) hb hF) ?_
      refine wk_ist5 (pc := 83) dX11_next_83 (by decide) rfl ?_
      refine rs_iload (pc := 85) dX11_next_85 rfl ?_
      refine rs_iload_n (pc := 87) dX11_next_87 rfl ?_
      refine rs_icmp_le (tgt := 102) (pc := 88) dX11_next_88 rfl (fun c_88 => ?_) (fun c_88 => ?_)
      · refine wk_iinc4 (v := nI (b + 1)) (pc := 102) dX11_next_102 (by decide) rfl (nI_1 b) ?_
        refine rs_goto (tgt := 58) (pc := 105) dX11_next_105 rfl ?_
        have en : b + 1 - a - 1 = b - a - 1 + 1 := by omega
        have eb : a + 1 + (b - a - 1) = b := by omega
        have nn := nxI_nn (c := (cR X)) (n := nO B) (a := a) (nxS_nn (cR X) (nO B) a) (b - a - 1)
        first
        | (have hp : nxI (cR X) (nO B) a (nxS (cR X) (nO B) a) ((b + 1) - a - 1) = nxI (cR X) (nO B) a (nxS (cR X) (nO B) a) (b - a - 1) := by
             rw [en, nxI, eb, if_neg]
             rintro ⟨y1, y2⟩
             rw [if_neg y1, q2, i32_le] at c_88
             rw [i32_lt] at y2
             omega
           exact ih (b + 1) _ _ _ (by omega) (by omega) (by omega) (by rw [hp]; exact q1) (by rw [hp]; exact q2))
        | (have hcc : ¬ (cR X) a b = true := by
             intro z
             rw [if_pos z, q2, i32_le, i32_0] at c_88
             omega
           rw [if_neg hcc] at c_88 ⊢
           have hp : nxI (cR X) (nO B) a (nxS (cR X) (nO B) a) ((b + 1) - a - 1) = (nI (16 * a + b), nI (cN ((cR X) a) (nO B)) * nI (cN ((cR X) b) (nO B))) := by
             rw [en, nxI, eb, if_pos]
             refine ⟨hcc, ?_⟩
             rw [← q2]
             rw [i32_le] at c_88
             rw [i32_lt]
             omega
           exact ih (b + 1) _ _ _ (by omega) (by omega) (by omega) (by rw [hp]) (by rw [hp]))
      · refine rs_iload (pc := 91) dX11_next_91 rfl ?_
        refine wk_istn2 (pc := 93) dX11_next_93 (by decide) rfl ?_
        refine rs_bipush (v := 16) (pc := 94) dX11_next_94 rfl ?_
        refine rs_iload_n (pc := 96) dX11_next_96 rfl ?_
        refine rs_imul (pc := 97) dX11_next_97 ?_
        rw [show (16 : Int32) * nI a = nI (16 * a) from pk_mul 16 a]
        refine rs_iload (pc := 98) dX11_next_98 rfl ?_
        refine rs_iadd (pc := 100) dX11_next_100 ?_
        rw [nI_add]
        refine wk_istn1 (pc := 101) dX11_next_101 (by decide) rfl ?_
        refine wk_iinc4 (v := nI (b + 1)) (pc := 102) dX11_next_102 (by decide) rfl (nI_1 b) ?_
        refine rs_goto (tgt := 58) (pc := 105) dX11_next_105 rfl ?_
        have en : b + 1 - a - 1 = b - a - 1 + 1 := by omega
        have eb : a + 1 + (b - a - 1) = b := by omega
        have nn := nxI_nn (c := (cR X)) (n := nO B) (a := a) (nxS_nn (cR X) (nO B) a) (b - a - 1)
        first
        | (have hp : nxI (cR X) (nO B) a (nxS (cR X) (nO B) a) ((b + 1) - a - 1) = nxI (cR X) (nO B) a (nxS (cR X) (nO B) a) (b - a - 1) := by
             rw [en, nxI, eb, if_neg]
             rintro ⟨y1, y2⟩
             rw [if_neg y1, q2, i32_le] at c_88
             rw [i32_lt] at y2
             omega
           exact ih (b + 1) _ _ _ (by omega) (by omega) (by omega) (by rw [hp]; exact q1) (by rw [hp]; exact q2))
        | (have hcc : ¬ (cR X) a b = true := by
             intro z
             rw [if_pos z, q2, i32_le, i32_0] at c_88
             omega
           rw [if_neg hcc] at c_88 ⊢
           have hp : nxI (cR X) (nO B) a (nxS (cR X) (nO B) a) ((b + 1) - a - 1) = (nI (16 * a + b), nI (cN ((cR X) a) (nO B)) * nI (cN ((cR X) b) (nO B))) := by
             rw [en, nxI, eb, if_pos]
             refine ⟨hcc, ?_⟩
             rw [← q2]
             rw [i32_le] at c_88
             rw [i32_lt]
             omega
           exact ih (b + 1) _ _ _ (by omega) (by omega) (by omega) (by rw [hp]) (by rw [hp]))
set_option maxRecDepth 100000 in
set_option maxHeartbeats 4000000 in
theorem l2_X11_next {h : ai_H} {tb lm : Int32} {B : Bk} {ln : Nat} {S1 : Md} {X : Nat → Nat → Prop} (hx : x_at h tb lm) (hB : bk_at h 1 B) (hok : bk_ok B ln) (hbo : bo_at h S1) (e0 : S1.1 0 = nI (nO B)) (hF : FE (nO B) (S1.2.2.1 2) (clo X)) : ∀ (k a : Nat) (v1 v2 : Int32) (u4 u5 : Value), a ≤ nO B → nO B + 1 ≤ a + k → v1 = (nxS (cR X) (nO B) a).1 → v2 = (nxS (cR X) (nO B) a).2 → ai_R MX11_next 39 [.ref 0, .int v1, .int v2, .int (nI a), u4, u5] [] h (some (.int (nxS (cR X) (nO B) (nO B)).1)) h := by
  have hn16 := hok.2.1.2.1
  intro k
  induction k with
  | zero => intro a v1 v2 u4 u5 h1 h2; exact absurd h2 (by omega)
  | succ k ih =>
    intro a v1 v2 u4 u5 ha0 him q1 q2
    refine rs_iload_n (pc := 39) dX11_next_39 rfl ?_
    refine rs_aload_n (pc := 40) dX11_next_40 rfl ?_
    refine rs_getf (pc := 41) dX11_next_41 fX11_10 (x_lt hx (by decide)) hx.2 rfl ?_
    refine rs_getf (pc := 44) dX11_next_44 fX11_108 (bk_lt hB (by decide)) hB.2.1 rfl ?_
    refine rs_getf (pc := 47) dX11_next_47 fX11_224 (bk_lt hB (by decide)) hB.2.2.1.1 rfl ?_
    rw [hok.2.1.1]
    refine rs_icmp_ge (tgt := 114) (pc := 50) dX11_next_50 rfl (fun c_50 => ?_) (fun c_50 => ?_)
    · have hae : a = nO B := lp_exit rfl (by omega) ha0 c_50
      subst hae
      refine rs_iload_n (pc := 114) dX11_next_114 rfl ?_
      exact wk_iret (pc := 115) dX11_next_115 rfl (by rw [q1]) (rfl)
    · have ha : a < nO B := lp_go rfl (by omega) c_50
      refine rs_iload_n (pc := 53) dX11_next_53 rfl ?_
      refine rs_iconst (v := 1) (pc := 54) dX11_next_54 rfl ?_
      refine rs_iadd (pc := 55) dX11_next_55 ?_
      rw [nI_1]
      refine wk_ist4 (pc := 56) dX11_next_56 (by decide) rfl ?_
      refine l1_X11_next hx hB hok hbo e0 hF ha ?_ (nO B + 1) (a + 1) _ _ _ (by omega) (by omega) (by omega) (by rw [show a + 1 - a - 1 = 0 by omega]; exact q1) (by rw [show a + 1 - a - 1 = 0 by omega]; exact q2)
      intro v1 v2 u5 q1 q2
      refine wk_iinc3 (v := nI (a + 1)) (pc := 108) dX11_next_108 (by decide) rfl (nI_1 a) ?_
      refine rs_goto (tgt := 39) (pc := 111) dX11_next_111 rfl ?_
      exact ih (a + 1) _ _ _ _ (by omega) (by omega) q1 q2
set_option maxRecDepth 100000 in
set_option maxHeartbeats 4000000 in
theorem c_X11_next {h : ai_H} {tb lm : Int32} {B : Bk} {ln : Nat} (hx : x_at h tb lm) (hB : bk_at h 1 B) (hok : bk_ok B ln) (hs : scr h) : ai_QM MX11_next [.ref 0] h (fun r g => fr 22 306 h g ∧ scr g ∧ ∃ S z, GI B (bk_now B) S (nR B) z ∧ r = some (.int (uu_next (LM B (bk_now B) S z) B))) := by
  obtain ⟨-, -, -, ⟨S0, hcl⟩, ⟨T0, hmt⟩, -, ⟨S7, hbo⟩, -⟩ := id hs
  have hn16 := hok.2.1.2.1
  have hj9 := hok.2.2.2.2.2.2.1
  have hpw := pow_J hj9
  have hpp := pow_pos2 (nJ B)
  refine qm_of (ls := [.ref 0, .float 0, .float 0, .float 0, .float 0, .float 0]) (by decide) (by simp [ai_en, Value.category]) (by rfl) ?_
  refine wq (fun _ _ kk => rs_aload_n (pc := 0) dX11_next_0 rfl kk) ?_
  refine wq (fun _ _ kk => rs_aload_n (pc := 1) dX11_next_1 rfl kk) ?_
  refine wq (fun _ _ kk => rs_getf (pc := 2) dX11_next_2 fX11_10 (x_lt hx (by decide)) hx.2 rfl kk) ?_
  refine wq (fun _ _ kk => rs_getf (pc := 5) dX11_next_5 fX11_101 (bk_lt hB (by decide)) hB.2.1 rfl kk) ?_
  obtain ⟨rv_8, hc_8, ⟨rfl, ee_8, S, z, hG, hcl_8, hmt_8⟩, hm_8⟩ := c_X11_measure hx hB hok hcl hmt (bk_now B)
  refine wq (fun _ _ kk => rs_callV (as := [_]) (pc := 8) dX11_next_8 mk_X11_measure mlX11_183 in_X11_measure se_X11_measure rfl (x_lt hx (by decide)) hx.2 rfl rfl (Nat.le_of_ble_eq_true rfl) (hm_8) kk) ?_
  replace hcl := hcl_8
  replace hmt := hmt_8
  replace hx := x_at.keep hx ee_8.1 (ee_8.2.2 0 (by decide))
  replace hB := hB.keep ee_8.1 (fun j _ _ => ee_8.2.2 j (by omega))
  replace hbo := bo_keep hbo ee_8.1 (fun j _ _ => ee_8.2.2 j (by omega))
  obtain ⟨hlr, htr⟩ := LM_rows hok hG
  refine wq (fun _ _ kk => rs_aload_n (pc := 11) dX11_next_11 rfl kk) ?_
  refine wq (fun _ _ kk => rs_getf (pc := 12) dX11_next_12 fX11_79 (x_lt hx (by decide)) hx.2 rfl kk) ?_
  refine wq (fun _ _ kk => rs_aload_n (pc := 15) dX11_next_15 rfl kk) ?_
  refine wq (fun _ _ kk => rs_getf (pc := 16) dX11_next_16 fX11_65 (x_lt hx (by decide)) hx.2 rfl kk) ?_
  refine wq (fun _ _ kk => rs_aload_n (pc := 19) dX11_next_19 rfl kk) ?_
  refine wq (fun _ _ kk => rs_getf (pc := 20) dX11_next_20 fX11_10 (x_lt hx (by decide)) hx.2 rfl kk) ?_
  refine wq (fun _ _ kk => rs_getf (pc := 23) dX11_next_23 fX11_108 (bk_lt hB (by decide)) hB.2.1 rfl kk) ?_
  refine wq (fun _ _ kk => rs_getf (pc := 26) dX11_next_26 fX11_224 (bk_lt hB (by decide)) hB.2.2.1.1 rfl kk) ?_
  rw [hok.2.1.1]
  obtain ⟨rv_29, hc_29, ⟨rfl, ee_29, S1, hbo_29, e0, hF, hF2⟩, hm_29⟩ := c_X0_begin hn16 htr hlr (LM_sym hok hG) hbo hmt
  refine wq (fun _ _ kk => rs_callV (as := [_, _]) (pc := 29) dX11_next_29 mk_X0_begin mlX11_272 in_X0_begin se_X0_begin rfl (mo_lt hbo (by decide)) hbo.2.1 rfl rfl (Nat.le_of_ble_eq_true rfl) (hm_29) kk) ?_
  replace hbo := hbo_29
  replace hx := x_at.keep hx ee_29.1 (ee_29.2.2 0 (by decide))
  replace hB := hB.keep ee_29.1 (fun j _ _ => ee_29.2.2 j (by omega))
  replace hcl := cl_keep hcl ee_29.1 (fun j _ _ => ee_29.2.2 j (by omega))
  replace hmt := mt_keep hmt ee_29.1 (fun j _ _ => ee_29.2.2 j (by omega))
  have E0 := (fr3.a ee_8).trans (fr3.b ee_29)
  refine wq (fun _ _ kk => rs_bipush (v := -2) (pc := 32) dX11_next_32 rfl kk) ?_
  refine wq (fun _ _ kk => wk_istn1 (pc := 34) dX11_next_34 (by decide) rfl kk) ?_
  refine wq (fun _ _ kk => rs_iconst (v := 0) (pc := 35) dX11_next_35 rfl kk) ?_
  refine wq (fun _ _ kk => wk_istn2 (pc := 36) dX11_next_36 (by decide) rfl kk) ?_
  refine wq (fun _ _ kk => rs_iconst (v := 0) (pc := 37) dX11_next_37 rfl kk) ?_
  refine wq (fun _ _ kk => wk_istn3 (pc := 38) dX11_next_38 (by decide) rfl kk) ?_
  rw [← tX_s0 (LM B (bk_now B) S z) B (nO B) (nJ B)] at hF2
  exact ⟨_, _, ⟨E0.f, hs.bond E0 ⟨_, hcl⟩ ⟨_, hmt⟩ ⟨_, hbo⟩, S, z, hG, rfl⟩, l2_X11_next hx hB hok hbo e0 hF2 (nO B + 1) 0 _ _ _ _ (by omega) (by omega) rfl rfl⟩
