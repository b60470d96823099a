/-! 13: reads of Book (walks laid by wip/whole/p13.py) -/
/-- what a Book holds: now; of observers, stars, nights, records, journeys how many and their rows -/
abbrev Bk : Type := Int32 × (Int32 × (Nat → Int32)) × (Int32 × (Nat → Int32)) × (Int32 × (Nat → Int32)) × (Int32 × (Nat → Int32)) × (Int32 × (Nat → Int32))
def bk_now (B : Bk) : Int32 := B.1
def bk_o (B : Bk) : Int32 × (Nat → Int32) := B.2.1
def bk_s (B : Bk) : Int32 × (Nat → Int32) := B.2.2.1
def bk_n (B : Bk) : Int32 × (Nat → Int32) := B.2.2.2.1
def bk_r (B : Bk) : Int32 × (Nat → Int32) := B.2.2.2.2.1
def bk_j (B : Bk) : Int32 × (Nat → Int32) := B.2.2.2.2.2
/-- the Book whose cells begin at q -/
def bk_at (h : ai_H) (q : Nat) (B : Bk) : Prop :=
  q + 10 < h.1 ∧ h.2.2 q = .inr (1, [.int (bk_now B), .ref (q + 1), .ref (q + 3), .ref (q + 5), .ref (q + 7), .ref (q + 9)])
  ∧ (h.2.2 (q + 1) = .inr (8, [.int 16, .int 2, .ref (q + 2), .int (bk_o B).1]) ∧ h.2.2 (q + 2) = .inl (0, 32, .inl (bk_o B).2) ∧ tb_ok 16 2 (bk_o B).1 32)
  ∧ (h.2.2 (q + 3) = .inr (8, [.int 24, .int 3, .ref (q + 4), .int (bk_s B).1]) ∧ h.2.2 (q + 4) = .inl (0, 72, .inl (bk_s B).2) ∧ tb_ok 24 3 (bk_s B).1 72)
  ∧ (h.2.2 (q + 5) = .inr (8, [.int 80, .int 2, .ref (q + 6), .int (bk_n B).1]) ∧ h.2.2 (q + 6) = .inl (0, 160, .inl (bk_n B).2) ∧ tb_ok 80 2 (bk_n B).1 160)
  ∧ (h.2.2 (q + 7) = .inr (8, [.int 400, .int 9, .ref (q + 8), .int (bk_r B).1]) ∧ h.2.2 (q + 8) = .inl (0, 3600, .inl (bk_r B).2) ∧ tb_ok 400 9 (bk_r B).1 3600)
  ∧ (h.2.2 (q + 9) = .inr (8, [.int 9, .int 3, .ref (q + 10), .int (bk_j B).1]) ∧ h.2.2 (q + 10) = .inl (0, 27, .inl (bk_j B).2) ∧ tb_ok 9 3 (bk_j B).1 27)
def bk_oat (B : Bk) (i c : Int32) : Int32 := tb_at 2 (bk_o B).1 (bk_o B).2 i c
def bk_sat (B : Bk) (i c : Int32) : Int32 := tb_at 3 (bk_s B).1 (bk_s B).2 i c
def bk_nat (B : Bk) (i c : Int32) : Int32 := tb_at 2 (bk_n B).1 (bk_n B).2 i c
def bk_rat (B : Bk) (i c : Int32) : Int32 := tb_at 9 (bk_r B).1 (bk_r B).2 i c
def bk_jat (B : Bk) (i c : Int32) : Int32 := tb_at 3 (bk_j B).1 (bk_j B).2 i c
def bk_known (B : Bk) (i w : Int32) : Int32 := if w < bk_rat B i 7 then 0 else if bk_rat B i 8 ≤ w then 0 else 1
def bk_own (B : Bk) (i o w : Int32) : Int32 := if ¬ bk_rat B i 4 = 3 then 0 else if ¬ bk_rat B i 3 = o then 0 else bk_known B i w
def bk_red (B : Bk) (i : Int32) : Int32 := bk_rat B i 5 - (bk_rat B i 2 - 2) * bk_sat B (bk_rat B i 1) 1
def bk_late (B : Bk) (i : Int32) : Int32 := bk_rat B i 5 - bk_rat B i 6
def bk_week (B : Bk) (i : Int32) : Int32 := bk_nat B (bk_rat B i 0) 1
def bk_year (B : Bk) (i : Int32) : Int32 := bi_fdI (bk_week B i) 52
def bk_age (B : Bk) (i : Int32) : Int32 := (bk_week B i - bk_oat B (bk_rat B i 3) 0) / 52
def bk_word (B : Bk) (k i : Int32) : Int32 := if k = 0 then bk_sat B (bk_rat B i 1) 0 else if k = 1 then bk_sat B (bk_rat B i 1) 1 else if k = 2 then bk_sat B (bk_rat B i 1) 2 else if k = 3 then bk_rat B i 1 else if k = 4 then bk_rat B i 2 else if k = 5 then bk_rat B i 4 else if k = 6 then bk_week B i else if k = 7 then bk_year B i else if k = 8 then bk_nat B (bk_rat B i 0) 0 else bk_age B i
theorem bk_known_b (B : Bk) (i w : Int32) : bk_known B i w = 0 ∨ bk_known B i w = 1 := by
  unfold bk_known
  split
  · exact Or.inl rfl
  · split
    · exact Or.inl rfl
    · exact Or.inr rfl
theorem dX1_isKnown_0 : decode cX1_isKnown 0 = .ok (.aload_n 0, 1) := by decide +kernel
theorem dX1_isKnown_1 : decode cX1_isKnown 1 = .ok (.getfield 30, 3) := by decide +kernel
theorem dX1_isKnown_4 : decode cX1_isKnown 4 = .ok (.iload_n 1, 1) := by decide +kernel
theorem dX1_isKnown_5 : decode cX1_isKnown 5 = .ok (.bipush 7, 2) := by decide +kernel
theorem dX1_isKnown_7 : decode cX1_isKnown 7 = .ok (.invokevirtual 40, 3) := by decide +kernel
theorem dX1_isKnown_10 : decode cX1_isKnown 10 = .ok (.iload_n 2, 1) := by decide +kernel
theorem dX1_isKnown_11 : decode cX1_isKnown 11 = .ok (.if_icmp .gt 21, 3) := by decide +kernel
theorem dX1_isKnown_14 : decode cX1_isKnown 14 = .ok (.aload_n 0, 1) := by decide +kernel
theorem dX1_isKnown_15 : decode cX1_isKnown 15 = .ok (.getfield 30, 3) := by decide +kernel
theorem dX1_isKnown_18 : decode cX1_isKnown 18 = .ok (.iload_n 1, 1) := by decide +kernel
theorem dX1_isKnown_19 : decode cX1_isKnown 19 = .ok (.bipush 8, 2) := by decide +kernel
theorem dX1_isKnown_21 : decode cX1_isKnown 21 = .ok (.invokevirtual 40, 3) := by decide +kernel
theorem dX1_isKnown_24 : decode cX1_isKnown 24 = .ok (.iload_n 2, 1) := by decide +kernel
theorem dX1_isKnown_25 : decode cX1_isKnown 25 = .ok (.if_icmp .le 7, 3) := by decide +kernel
theorem dX1_isKnown_28 : decode cX1_isKnown 28 = .ok (.iconst 1, 1) := by decide +kernel
theorem dX1_isKnown_29 : decode cX1_isKnown 29 = .ok (.goto 4, 3) := by decide +kernel
theorem dX1_isKnown_32 : decode cX1_isKnown 32 = .ok (.iconst 0, 1) := by decide +kernel
theorem dX1_isKnown_33 : decode cX1_isKnown 33 = .ok (.ireturn, 1) := by decide +kernel
set_option maxRecDepth 100000 in
set_option maxHeartbeats 4000000 in
theorem c_X1_isKnown {h : ai_H} {q : Nat} {B : Bk} (hB : bk_at h q B) (i w : Int32) : ai_Met MX1_isKnown [.ref q, .int i, .int w] h (some (.int (bk_known B i w))) h := by
  obtain ⟨hqb, he_b, ⟨he_to, he_ao, ok_o⟩, ⟨he_ts, he_as, ok_s⟩, ⟨he_tn, he_an, ok_n⟩, ⟨he_tr, he_ar, ok_r⟩, ⟨he_tj, he_aj, ok_j⟩⟩ := hB
  have hq_b : q < h.1 := by omega
  have hq_to : q + 1 < h.1 := by omega
  have hq_ao : q + 2 < h.1 := by omega
  have hq_ts : q + 3 < h.1 := by omega
  have hq_as : q + 4 < h.1 := by omega
  have hq_tn : q + 5 < h.1 := by omega
  have hq_an : q + 6 < h.1 := by omega
  have hq_tr : q + 7 < h.1 := by omega
  have hq_ar : q + 8 < h.1 := by omega
  have hq_tj : q + 9 < h.1 := by omega
  have hq_aj : q + 10 < h.1 := by omega
  refine ai_met (ls := [.ref q, .int i, .int w]) (by decide) (by simp [ai_en, Value.category]) (by rfl) ?_
  refine rs_aload_n (pc := 0) dX1_isKnown_0 rfl ?_
  refine rs_getf (pc := 1) dX1_isKnown_1 fX1_30 hq_b he_b rfl ?_
  refine rs_iload_n (pc := 4) dX1_isKnown_4 rfl ?_
  refine rs_bipush (v := 7) (pc := 5) dX1_isKnown_5 rfl ?_
  refine rs_callV (as := [_, _]) (pc := 7) dX1_isKnown_7 mk_X8_at mlX1_40 in_X8_at se_X8_at rfl hq_tr he_tr rfl rfl (Nat.le_of_ble_eq_true rfl) (c_X8_at hq_tr he_tr hq_ar he_ar ok_r _ _) ?_
  refine rs_iload_n (pc := 10) dX1_isKnown_10 rfl ?_
  refine rs_icmp_gt (tgt := 32) (pc := 11) dX1_isKnown_11 rfl (fun c_11 => ?_) (fun c_11 => ?_)
  · refine rs_iconst (v := 0) (pc := 32) dX1_isKnown_32 rfl ?_
    exact wk_zret (pc := 33) dX1_isKnown_33 rfl (Or.inl rfl) (by simp only [bk_known, bk_rat]; simp [*]) (rfl)
  · refine rs_aload_n (pc := 14) dX1_isKnown_14 rfl ?_
    refine rs_getf (pc := 15) dX1_isKnown_15 fX1_30 hq_b he_b rfl ?_
    refine rs_iload_n (pc := 18) dX1_isKnown_18 rfl ?_
    refine rs_bipush (v := 8) (pc := 19) dX1_isKnown_19 rfl ?_
    refine rs_callV (as := [_, _]) (pc := 21) dX1_isKnown_21 mk_X8_at mlX1_40 in_X8_at se_X8_at rfl hq_tr he_tr rfl rfl (Nat.le_of_ble_eq_true rfl) (c_X8_at hq_tr he_tr hq_ar he_ar ok_r _ _) ?_
    refine rs_iload_n (pc := 24) dX1_isKnown_24 rfl ?_
    refine rs_icmp_le (tgt := 32) (pc := 25) dX1_isKnown_25 rfl (fun c_25 => ?_) (fun c_25 => ?_)
    · refine rs_iconst (v := 0) (pc := 32) dX1_isKnown_32 rfl ?_
      exact wk_zret (pc := 33) dX1_isKnown_33 rfl (Or.inl rfl) (by simp only [bk_known, bk_rat]; simp [*]) (rfl)
    · refine rs_iconst (v := 1) (pc := 28) dX1_isKnown_28 rfl ?_
      refine rs_goto (tgt := 33) (pc := 29) dX1_isKnown_29 rfl ?_
      exact wk_zret (pc := 33) dX1_isKnown_33 rfl (Or.inr rfl) (by simp only [bk_known, bk_rat]; simp [*]) (rfl)
theorem dX1_isOwn_0 : decode cX1_isOwn 0 = .ok (.aload_n 0, 1) := by decide +kernel
theorem dX1_isOwn_1 : decode cX1_isOwn 1 = .ok (.getfield 30, 3) := by decide +kernel
theorem dX1_isOwn_4 : decode cX1_isOwn 4 = .ok (.iload_n 1, 1) := by decide +kernel
theorem dX1_isOwn_5 : decode cX1_isOwn 5 = .ok (.iconst 4, 1) := by decide +kernel
theorem dX1_isOwn_6 : decode cX1_isOwn 6 = .ok (.invokevirtual 40, 3) := by decide +kernel
theorem dX1_isOwn_9 : decode cX1_isOwn 9 = .ok (.iconst 3, 1) := by decide +kernel
theorem dX1_isOwn_10 : decode cX1_isOwn 10 = .ok (.if_icmp .ne 29, 3) := by decide +kernel
theorem dX1_isOwn_13 : decode cX1_isOwn 13 = .ok (.aload_n 0, 1) := by decide +kernel
theorem dX1_isOwn_14 : decode cX1_isOwn 14 = .ok (.getfield 30, 3) := by decide +kernel
theorem dX1_isOwn_17 : decode cX1_isOwn 17 = .ok (.iload_n 1, 1) := by decide +kernel
theorem dX1_isOwn_18 : decode cX1_isOwn 18 = .ok (.iconst 3, 1) := by decide +kernel
theorem dX1_isOwn_19 : decode cX1_isOwn 19 = .ok (.invokevirtual 40, 3) := by decide +kernel
theorem dX1_isOwn_22 : decode cX1_isOwn 22 = .ok (.iload_n 2, 1) := by decide +kernel
theorem dX1_isOwn_23 : decode cX1_isOwn 23 = .ok (.if_icmp .ne 16, 3) := by decide +kernel
theorem dX1_isOwn_26 : decode cX1_isOwn 26 = .ok (.aload_n 0, 1) := by decide +kernel
theorem dX1_isOwn_27 : decode cX1_isOwn 27 = .ok (.iload_n 1, 1) := by decide +kernel
theorem dX1_isOwn_28 : decode cX1_isOwn 28 = .ok (.iload_n 3, 1) := by decide +kernel
theorem dX1_isOwn_29 : decode cX1_isOwn 29 = .ok (.invokevirtual 44, 3) := by decide +kernel
theorem dX1_isOwn_32 : decode cX1_isOwn 32 = .ok (.ifCond .eq 7, 3) := by decide +kernel
theorem dX1_isOwn_35 : decode cX1_isOwn 35 = .ok (.iconst 1, 1) := by decide +kernel
theorem dX1_isOwn_36 : decode cX1_isOwn 36 = .ok (.goto 4, 3) := by decide +kernel
theorem dX1_isOwn_39 : decode cX1_isOwn 39 = .ok (.iconst 0, 1) := by decide +kernel
theorem dX1_isOwn_40 : decode cX1_isOwn 40 = .ok (.ireturn, 1) := by decide +kernel
set_option maxRecDepth 100000 in
set_option maxHeartbeats 4000000 in
theorem c_X1_isOwn {h : ai_H} {q : Nat} {B : Bk} (hB : bk_at h q B) (i o w : Int32) : ai_Met MX1_isOwn [.ref q, .int i, .int o, .int w] h (some (.int (bk_own B i o w))) h := by
  have hB0 := hB
  obtain ⟨hqb, he_b, ⟨he_to, he_ao, ok_o⟩, ⟨he_ts, he_as, ok_s⟩, ⟨he_tn, he_an, ok_n⟩, ⟨he_tr, he_ar, ok_r⟩, ⟨he_tj, he_aj, ok_j⟩⟩ := hB
  have hq_b : q < h.1 := by omega
  have hq_to : q + 1 < h.1 := by omega
  have hq_ao : q + 2 < h.1 := by omega
  have hq_ts : q + 3 < h.1 := by omega
  have hq_as : q + 4 < h.1 := by omega
  have hq_tn : q + 5 < h.1 := by omega
  have hq_an : q + 6 < h.1 := by omega
  have hq_tr : q + 7 < h.1 := by omega
  have hq_ar : q + 8 < h.1 := by omega
  have hq_tj : q + 9 < h.1 := by omega
  have hq_aj : q + 10 < h.1 := by omega
  refine ai_met (ls := [.ref q, .int i, .int o, .int w]) (by decide) (by simp [ai_en, Value.category]) (by rfl) ?_
  refine rs_aload_n (pc := 0) dX1_isOwn_0 rfl ?_
  refine rs_getf (pc := 1) dX1_isOwn_1 fX1_30 hq_b he_b rfl ?_
  refine rs_iload_n (pc := 4) dX1_isOwn_4 rfl ?_
  refine rs_iconst (v := 4) (pc := 5) dX1_isOwn_5 rfl ?_
  refine rs_callV (as := [_, _]) (pc := 6) dX1_isOwn_6 mk_X8_at mlX1_40 in_X8_at se_X8_at rfl hq_tr he_tr rfl rfl (Nat.le_of_ble_eq_true rfl) (c_X8_at hq_tr he_tr hq_ar he_ar ok_r _ _) ?_
  refine rs_iconst (v := 3) (pc := 9) dX1_isOwn_9 rfl ?_
  refine rs_icmp_ne (tgt := 39) (pc := 10) dX1_isOwn_10 rfl (fun c_10 => ?_) (fun c_10 => ?_)
  · refine rs_iconst (v := 0) (pc := 39) dX1_isOwn_39 rfl ?_
    exact wk_zret (pc := 40) dX1_isOwn_40 rfl (Or.inl rfl) (by simp only [bk_own, bk_rat]; simp [*]) (rfl)
  · refine rs_aload_n (pc := 13) dX1_isOwn_13 rfl ?_
    refine rs_getf (pc := 14) dX1_isOwn_14 fX1_30 hq_b he_b rfl ?_
    refine rs_iload_n (pc := 17) dX1_isOwn_17 rfl ?_
    refine rs_iconst (v := 3) (pc := 18) dX1_isOwn_18 rfl ?_
    refine rs_callV (as := [_, _]) (pc := 19) dX1_isOwn_19 mk_X8_at mlX1_40 in_X8_at se_X8_at rfl hq_tr he_tr rfl rfl (Nat.le_of_ble_eq_true rfl) (c_X8_at hq_tr he_tr hq_ar he_ar ok_r _ _) ?_
    refine rs_iload_n (pc := 22) dX1_isOwn_22 rfl ?_
    refine rs_icmp_ne (tgt := 39) (pc := 23) dX1_isOwn_23 rfl (fun c_23 => ?_) (fun c_23 => ?_)
    · refine rs_iconst (v := 0) (pc := 39) dX1_isOwn_39 rfl ?_
      exact wk_zret (pc := 40) dX1_isOwn_40 rfl (Or.inl rfl) (by simp only [bk_own, bk_rat]; simp [*]) (rfl)
    · refine rs_aload_n (pc := 26) dX1_isOwn_26 rfl ?_
      refine rs_iload_n (pc := 27) dX1_isOwn_27 rfl ?_
      refine rs_iload_n (pc := 28) dX1_isOwn_28 rfl ?_
      refine rs_callV (as := [_, _]) (pc := 29) dX1_isOwn_29 mk_X1_isKnown mlX1_44 in_X1_isKnown se_X1_isKnown rfl hq_b he_b rfl rfl (Nat.le_of_ble_eq_true rfl) (c_X1_isKnown hB0 i w) ?_
      refine rs_if_eq (tgt := 39) (pc := 32) dX1_isOwn_32 rfl (fun c_32 => ?_) (fun c_32 => ?_)
      · refine rs_iconst (v := 0) (pc := 39) dX1_isOwn_39 rfl ?_
        exact wk_zret (pc := 40) dX1_isOwn_40 rfl (Or.inl rfl) (by simp only [bk_own, bk_rat]; simp [*]) (rfl)
      · have kb : bk_known B i w = 1 := (bk_known_b B i w).resolve_left c_32
        refine rs_iconst (v := 1) (pc := 35) dX1_isOwn_35 rfl ?_
        refine rs_goto (tgt := 40) (pc := 36) dX1_isOwn_36 rfl ?_
        exact wk_zret (pc := 40) dX1_isOwn_40 rfl (Or.inr rfl) (by simp only [bk_own, bk_rat]; simp [*]) (rfl)
theorem dX1_reduced_0 : decode cX1_reduced 0 = .ok (.aload_n 0, 1) := by decide +kernel
theorem dX1_reduced_1 : decode cX1_reduced 1 = .ok (.getfield 30, 3) := by decide +kernel
theorem dX1_reduced_4 : decode cX1_reduced 4 = .ok (.iload_n 1, 1) := by decide +kernel
theorem dX1_reduced_5 : decode cX1_reduced 5 = .ok (.iconst 2, 1) := by decide +kernel
theorem dX1_reduced_6 : decode cX1_reduced 6 = .ok (.invokevirtual 40, 3) := by decide +kernel
theorem dX1_reduced_9 : decode cX1_reduced 9 = .ok (.iconst 2, 1) := by decide +kernel
theorem dX1_reduced_10 : decode cX1_reduced 10 = .ok (.isub, 1) := by decide +kernel
theorem dX1_reduced_11 : decode cX1_reduced 11 = .ok (.istore_n 2, 1) := by decide +kernel
theorem dX1_reduced_12 : decode cX1_reduced 12 = .ok (.aload_n 0, 1) := by decide +kernel
theorem dX1_reduced_13 : decode cX1_reduced 13 = .ok (.getfield 30, 3) := by decide +kernel
theorem dX1_reduced_16 : decode cX1_reduced 16 = .ok (.iload_n 1, 1) := by decide +kernel
theorem dX1_reduced_17 : decode cX1_reduced 17 = .ok (.iconst 5, 1) := by decide +kernel
theorem dX1_reduced_18 : decode cX1_reduced 18 = .ok (.invokevirtual 40, 3) := by decide +kernel
theorem dX1_reduced_21 : decode cX1_reduced 21 = .ok (.iload_n 2, 1) := by decide +kernel
theorem dX1_reduced_22 : decode cX1_reduced 22 = .ok (.aload_n 0, 1) := by decide +kernel
theorem dX1_reduced_23 : decode cX1_reduced 23 = .ok (.getfield 24, 3) := by decide +kernel
theorem dX1_reduced_26 : decode cX1_reduced 26 = .ok (.aload_n 0, 1) := by decide +kernel
theorem dX1_reduced_27 : decode cX1_reduced 27 = .ok (.getfield 30, 3) := by decide +kernel
theorem dX1_reduced_30 : decode cX1_reduced 30 = .ok (.iload_n 1, 1) := by decide +kernel
theorem dX1_reduced_31 : decode cX1_reduced 31 = .ok (.iconst 1, 1) := by decide +kernel
theorem dX1_reduced_32 : decode cX1_reduced 32 = .ok (.invokevirtual 40, 3) := by decide +kernel
theorem dX1_reduced_35 : decode cX1_reduced 35 = .ok (.iconst 1, 1) := by decide +kernel
theorem dX1_reduced_36 : decode cX1_reduced 36 = .ok (.invokevirtual 40, 3) := by decide +kernel
theorem dX1_reduced_39 : decode cX1_reduced 39 = .ok (.imul, 1) := by decide +kernel
theorem dX1_reduced_40 : decode cX1_reduced 40 = .ok (.isub, 1) := by decide +kernel
theorem dX1_reduced_41 : decode cX1_reduced 41 = .ok (.ireturn, 1) := by decide +kernel
set_option maxRecDepth 100000 in
set_option maxHeartbeats 4000000 in
theorem c_X1_reduced {h : ai_H} {q : Nat} {B : Bk} (hB : bk_at h q B) (i : Int32) : ai_Met MX1_reduced [.ref q, .int i] h (some (.int (bk_red B i))) h := by
  obtain ⟨hqb, he_b, ⟨he_to, he_ao, ok_o⟩, ⟨he_ts, he_as, ok_s⟩, ⟨he_tn, he_an, ok_n⟩, ⟨he_tr, he_ar, ok_r⟩, ⟨he_tj, he_aj, ok_j⟩⟩ := hB
  have hq_b : q < h.1 := by omega
  have hq_to : q + 1 < h.1 := by omega
  have hq_ao : q + 2 < h.1 := by omega
  have hq_ts : q + 3 < h.1 := by omega
  have hq_as : q + 4 < h.1 := by omega
  have hq_tn : q + 5 < h.1 := by omega
  have hq_an : q + 6 < h.1 := by omega
  have hq_tr : q + 7 < h.1 := by omega
  have hq_ar : q + 8 < h.1 := by omega
  have hq_tj : q + 9 < h.1 := by omega
  have hq_aj : q + 10 < h.1 := by omega
  refine ai_met (ls := [.ref q, .int i, .float 0]) (by decide) (by simp [ai_en, Value.category]) (by rfl) ?_
  refine rs_aload_n (pc := 0) dX1_reduced_0 rfl ?_
  refine rs_getf (pc := 1) dX1_reduced_1 fX1_30 hq_b he_b rfl ?_
  refine rs_iload_n (pc := 4) dX1_reduced_4 rfl ?_
  refine rs_iconst (v := 2) (pc := 5) dX1_reduced_5 rfl ?_
  refine rs_callV (as := [_, _]) (pc := 6) dX1_reduced_6 mk_X8_at mlX1_40 in_X8_at se_X8_at rfl hq_tr he_tr rfl rfl (Nat.le_of_ble_eq_true rfl) (c_X8_at hq_tr he_tr hq_ar he_ar ok_r _ _) ?_
  refine rs_iconst (v := 2) (pc := 9) dX1_reduced_9 rfl ?_
  refine rs_isub (pc := 10) dX1_reduced_10 ?_
  refine wk_istn2 (pc := 11) dX1_reduced_11 (by decide) rfl ?_
  refine rs_aload_n (pc := 12) dX1_reduced_12 rfl ?_
  refine rs_getf (pc := 13) dX1_reduced_13 fX1_30 hq_b he_b rfl ?_
  refine rs_iload_n (pc := 16) dX1_reduced_16 rfl ?_
  refine rs_iconst (v := 5) (pc := 17) dX1_reduced_17 rfl ?_
  refine rs_callV (as := [_, _]) (pc := 18) dX1_reduced_18 mk_X8_at mlX1_40 in_X8_at se_X8_at rfl hq_tr he_tr rfl rfl (Nat.le_of_ble_eq_true rfl) (c_X8_at hq_tr he_tr hq_ar he_ar ok_r _ _) ?_
  refine rs_iload_n (pc := 21) dX1_reduced_21 rfl ?_
  refine rs_aload_n (pc := 22) dX1_reduced_22 rfl ?_
  refine rs_getf (pc := 23) dX1_reduced_23 fX1_24 hq_b he_b rfl ?_
  refine rs_aload_n (pc := 26) dX1_reduced_26 rfl ?_
  refine rs_getf (pc := 27) dX1_reduced_27 fX1_30 hq_b he_b rfl ?_
  refine rs_iload_n (pc := 30) dX1_reduced_30 rfl ?_
  refine rs_iconst (v := 1) (pc := 31) dX1_reduced_31 rfl ?_
  refine rs_callV (as := [_, _]) (pc := 32) dX1_reduced_32 mk_X8_at mlX1_40 in_X8_at se_X8_at rfl hq_tr he_tr rfl rfl (Nat.le_of_ble_eq_true rfl) (c_X8_at hq_tr he_tr hq_ar he_ar ok_r _ _) ?_
  refine rs_iconst (v := 1) (pc := 35) dX1_reduced_35 rfl ?_
  refine rs_callV (as := [_, _]) (pc := 36) dX1_reduced_36 mk_X8_at mlX1_40 in_X8_at se_X8_at rfl hq_ts he_ts rfl rfl (Nat.le_of_ble_eq_true rfl) (c_X8_at hq_ts he_ts hq_as he_as ok_s _ _) ?_
  refine rs_imul (pc := 39) dX1_reduced_39 ?_
  refine rs_isub (pc := 40) dX1_reduced_40 ?_
  exact wk_iret (pc := 41) dX1_reduced_41 rfl (rfl) (rfl)
theorem dX1_late_0 : decode cX1_late 0 = .ok (.aload_n 0, 1) := by decide +kernel
theorem dX1_late_1 : decode cX1_late 1 = .ok (.getfield 30, 3) := by decide +kernel
theorem dX1_late_4 : decode cX1_late 4 = .ok (.iload_n 1, 1) := by decide +kernel
theorem dX1_late_5 : decode cX1_late 5 = .ok (.iconst 5, 1) := by decide +kernel
theorem dX1_late_6 : decode cX1_late 6 = .ok (.invokevirtual 40, 3) := by decide +kernel
theorem dX1_late_9 : decode cX1_late 9 = .ok (.aload_n 0, 1) := by decide +kernel
theorem dX1_late_10 : decode cX1_late 10 = .ok (.getfield 30, 3) := by decide +kernel
theorem dX1_late_13 : decode cX1_late 13 = .ok (.iload_n 1, 1) := by decide +kernel
theorem dX1_late_14 : decode cX1_late 14 = .ok (.bipush 6, 2) := by decide +kernel
theorem dX1_late_16 : decode cX1_late 16 = .ok (.invokevirtual 40, 3) := by decide +kernel
theorem dX1_late_19 : decode cX1_late 19 = .ok (.isub, 1) := by decide +kernel
theorem dX1_late_20 : decode cX1_late 20 = .ok (.ireturn, 1) := by decide +kernel
set_option maxRecDepth 100000 in
set_option maxHeartbeats 4000000 in
theorem c_X1_late {h : ai_H} {q : Nat} {B : Bk} (hB : bk_at h q B) (i : Int32) : ai_Met MX1_late [.ref q, .int i] h (some (.int (bk_late B i))) h := by
  obtain ⟨hqb, he_b, ⟨he_to, he_ao, ok_o⟩, ⟨he_ts, he_as, ok_s⟩, ⟨he_tn, he_an, ok_n⟩, ⟨he_tr, he_ar, ok_r⟩, ⟨he_tj, he_aj, ok_j⟩⟩ := hB
  have hq_b : q < h.1 := by omega
  have hq_to : q + 1 < h.1 := by omega
  have hq_ao : q + 2 < h.1 := by omega
  have hq_ts : q + 3 < h.1 := by omega
  have hq_as : q + 4 < h.1 := by omega
  have hq_tn : q + 5 < h.1 := by omega
  have hq_an : q + 6 < h.1 := by omega
  have hq_tr : q + 7 < h.1 := by omega
  have hq_ar : q + 8 < h.1 := by omega
  have hq_tj : q + 9 < h.1 := by omega
  have hq_aj : q + 10 < h.1 := by omega
  refine ai_met (ls := [.ref q, .int i]) (by decide) (by simp [ai_en, Value.category]) (by rfl) ?_
  refine rs_aload_n (pc := 0) dX1_late_0 rfl ?_
  refine rs_getf (pc := 1) dX1_late_1 fX1_30 hq_b he_b rfl ?_
  refine rs_iload_n (pc := 4) dX1_late_4 rfl ?_
  refine rs_iconst (v := 5) (pc := 5) dX1_late_5 rfl ?_
  refine rs_callV (as := [_, _]) (pc := 6) dX1_late_6 mk_X8_at mlX1_40 in_X8_at se_X8_at rfl hq_tr he_tr rfl rfl (Nat.le_of_ble_eq_true rfl) (c_X8_at hq_tr he_tr hq_ar he_ar ok_r _ _) ?_
  refine rs_aload_n (pc := 9) dX1_late_9 rfl ?_
  refine rs_getf (pc := 10) dX1_late_10 fX1_30 hq_b he_b rfl ?_
  refine rs_iload_n (pc := 13) dX1_late_13 rfl ?_
  refine rs_bipush (v := 6) (pc := 14) dX1_late_14 rfl ?_
  refine rs_callV (as := [_, _]) (pc := 16) dX1_late_16 mk_X8_at mlX1_40 in_X8_at se_X8_at rfl hq_tr he_tr rfl rfl (Nat.le_of_ble_eq_true rfl) (c_X8_at hq_tr he_tr hq_ar he_ar ok_r _ _) ?_
  refine rs_isub (pc := 19) dX1_late_19 ?_
  exact wk_iret (pc := 20) dX1_late_20 rfl (rfl) (rfl)
theorem dX1_weekOf_0 : decode cX1_weekOf 0 = .ok (.aload_n 0, 1) := by decide +kernel
theorem dX1_weekOf_1 : decode cX1_weekOf 1 = .ok (.getfield 27, 3) := by decide +kernel
theorem dX1_weekOf_4 : decode cX1_weekOf 4 = .ok (.aload_n 0, 1) := by decide +kernel
theorem dX1_weekOf_5 : decode cX1_weekOf 5 = .ok (.getfield 30, 3) := by decide +kernel
theorem dX1_weekOf_8 : decode cX1_weekOf 8 = .ok (.iload_n 1, 1) := by decide +kernel
theorem dX1_weekOf_9 : decode cX1_weekOf 9 = .ok (.iconst 0, 1) := by decide +kernel
theorem dX1_weekOf_10 : decode cX1_weekOf 10 = .ok (.invokevirtual 40, 3) := by decide +kernel
theorem dX1_weekOf_13 : decode cX1_weekOf 13 = .ok (.iconst 1, 1) := by decide +kernel
theorem dX1_weekOf_14 : decode cX1_weekOf 14 = .ok (.invokevirtual 40, 3) := by decide +kernel
theorem dX1_weekOf_17 : decode cX1_weekOf 17 = .ok (.ireturn, 1) := by decide +kernel
set_option maxRecDepth 100000 in
set_option maxHeartbeats 4000000 in
theorem c_X1_weekOf {h : ai_H} {q : Nat} {B : Bk} (hB : bk_at h q B) (i : Int32) : ai_Met MX1_weekOf [.ref q, .int i] h (some (.int (bk_week B i))) h := by
  obtain ⟨hqb, he_b, ⟨he_to, he_ao, ok_o⟩, ⟨he_ts, he_as, ok_s⟩, ⟨he_tn, he_an, ok_n⟩, ⟨he_tr, he_ar, ok_r⟩, ⟨he_tj, he_aj, ok_j⟩⟩ := hB
  have hq_b : q < h.1 := by omega
  have hq_to : q + 1 < h.1 := by omega
  have hq_ao : q + 2 < h.1 := by omega
  have hq_ts : q + 3 < h.1 := by omega
  have hq_as : q + 4 < h.1 := by omega
  have hq_tn : q + 5 < h.1 := by omega
  have hq_an : q + 6 < h.1 := by omega
  have hq_tr : q + 7 < h.1 := by omega
  have hq_ar : q + 8 < h.1 := by omega
  have hq_tj : q + 9 < h.1 := by omega
  have hq_aj : q + 10 < h.1 := by omega
  refine ai_met (ls := [.ref q, .int i]) (by decide) (by simp [ai_en, Value.category]) (by rfl) ?_
  refine rs_aload_n (pc := 0) dX1_weekOf_0 rfl ?_
  refine rs_getf (pc := 1) dX1_weekOf_1 fX1_27 hq_b he_b rfl ?_
  refine rs_aload_n (pc := 4) dX1_weekOf_4 rfl ?_
  refine rs_getf (pc := 5) dX1_weekOf_5 fX1_30 hq_b he_b rfl ?_
  refine rs_iload_n (pc := 8) dX1_weekOf_8 rfl ?_
  refine rs_iconst (v := 0) (pc := 9) dX1_weekOf_9 rfl ?_
  refine rs_callV (as := [_, _]) (pc := 10) dX1_weekOf_10 mk_X8_at mlX1_40 in_X8_at se_X8_at rfl hq_tr he_tr rfl rfl (Nat.le_of_ble_eq_true rfl) (c_X8_at hq_tr he_tr hq_ar he_ar ok_r _ _) ?_
  refine rs_iconst (v := 1) (pc := 13) dX1_weekOf_13 rfl ?_
  refine rs_callV (as := [_, _]) (pc := 14) dX1_weekOf_14 mk_X8_at mlX1_40 in_X8_at se_X8_at rfl hq_tn he_tn rfl rfl (Nat.le_of_ble_eq_true rfl) (c_X8_at hq_tn he_tn hq_an he_an ok_n _ _) ?_
  exact wk_iret (pc := 17) dX1_weekOf_17 rfl (rfl) (rfl)
theorem dX1_yearOf_0 : decode cX1_yearOf 0 = .ok (.aload_n 0, 1) := by decide +kernel
theorem dX1_yearOf_1 : decode cX1_yearOf 1 = .ok (.iload_n 1, 1) := by decide +kernel
theorem dX1_yearOf_2 : decode cX1_yearOf 2 = .ok (.invokevirtual 48, 3) := by decide +kernel
theorem dX1_yearOf_5 : decode cX1_yearOf 5 = .ok (.bipush 52, 2) := by decide +kernel
theorem dX1_yearOf_7 : decode cX1_yearOf 7 = .ok (.invokestatic 52, 3) := by decide +kernel
theorem dX1_yearOf_10 : decode cX1_yearOf 10 = .ok (.ireturn, 1) := by decide +kernel
set_option maxRecDepth 100000 in
set_option maxHeartbeats 4000000 in
theorem c_X1_yearOf {h : ai_H} {q : Nat} {B : Bk} (hB : bk_at h q B) (i : Int32) : ai_Met MX1_yearOf [.ref q, .int i] h (some (.int (bk_year B i))) h := by
  have hB0 := hB
  obtain ⟨hqb, he_b, ⟨he_to, he_ao, ok_o⟩, ⟨he_ts, he_as, ok_s⟩, ⟨he_tn, he_an, ok_n⟩, ⟨he_tr, he_ar, ok_r⟩, ⟨he_tj, he_aj, ok_j⟩⟩ := hB
  have hq_b : q < h.1 := by omega
  have hq_to : q + 1 < h.1 := by omega
  have hq_ao : q + 2 < h.1 := by omega
  have hq_ts : q + 3 < h.1 := by omega
  have hq_as : q + 4 < h.1 := by omega
  have hq_tn : q + 5 < h.1 := by omega
  have hq_an : q + 6 < h.1 := by omega
  have hq_tr : q + 7 < h.1 := by omega
  have hq_ar : q + 8 < h.1 := by omega
  have hq_tj : q + 9 < h.1 := by omega
  have hq_aj : q + 10 < h.1 := by omega
  refine ai_met (ls := [.ref q, .int i]) (by decide) (by simp [ai_en, Value.category]) (by rfl) ?_
  refine rs_aload_n (pc := 0) dX1_yearOf_0 rfl ?_
  refine rs_iload_n (pc := 1) dX1_yearOf_1 rfl ?_
  refine rs_callV (as := [_]) (pc := 2) dX1_yearOf_2 mk_X1_weekOf mlX1_48 in_X1_weekOf se_X1_weekOf rfl hq_b he_b rfl rfl (Nat.le_of_ble_eq_true rfl) (c_X1_weekOf hB0 i) ?_
  refine rs_bipush (v := 52) (pc := 5) dX1_yearOf_5 rfl ?_
  refine rs_callS (as := [_, _]) (pc := 7) dX1_yearOf_7 mk_J9_floorDiv_7cf53 mlX1_52 st_J9_floorDiv_7cf53 rfl rfl (Nat.le_of_ble_eq_true rfl) (c_fdI (by decide)) ?_
  exact wk_iret (pc := 10) dX1_yearOf_10 rfl (rfl) (rfl)
theorem dX1_ageAt_0 : decode cX1_ageAt 0 = .ok (.aload_n 0, 1) := by decide +kernel
theorem dX1_ageAt_1 : decode cX1_ageAt 1 = .ok (.iload_n 1, 1) := by decide +kernel
theorem dX1_ageAt_2 : decode cX1_ageAt 2 = .ok (.invokevirtual 48, 3) := by decide +kernel
theorem dX1_ageAt_5 : decode cX1_ageAt 5 = .ok (.aload_n 0, 1) := by decide +kernel
theorem dX1_ageAt_6 : decode cX1_ageAt 6 = .ok (.getfield 20, 3) := by decide +kernel
theorem dX1_ageAt_9 : decode cX1_ageAt 9 = .ok (.aload_n 0, 1) := by decide +kernel
theorem dX1_ageAt_10 : decode cX1_ageAt 10 = .ok (.getfield 30, 3) := by decide +kernel
theorem dX1_ageAt_13 : decode cX1_ageAt 13 = .ok (.iload_n 1, 1) := by decide +kernel
theorem dX1_ageAt_14 : decode cX1_ageAt 14 = .ok (.iconst 3, 1) := by decide +kernel
theorem dX1_ageAt_15 : decode cX1_ageAt 15 = .ok (.invokevirtual 40, 3) := by decide +kernel
theorem dX1_ageAt_18 : decode cX1_ageAt 18 = .ok (.iconst 0, 1) := by decide +kernel
theorem dX1_ageAt_19 : decode cX1_ageAt 19 = .ok (.invokevirtual 40, 3) := by decide +kernel
theorem dX1_ageAt_22 : decode cX1_ageAt 22 = .ok (.isub, 1) := by decide +kernel
theorem dX1_ageAt_23 : decode cX1_ageAt 23 = .ok (.bipush 52, 2) := by decide +kernel
theorem dX1_ageAt_25 : decode cX1_ageAt 25 = .ok (.idiv, 1) := by decide +kernel
theorem dX1_ageAt_26 : decode cX1_ageAt 26 = .ok (.ireturn, 1) := by decide +kernel
set_option maxRecDepth 100000 in
set_option maxHeartbeats 4000000 in
theorem c_X1_ageAt {h : ai_H} {q : Nat} {B : Bk} (hB : bk_at h q B) (i : Int32) : ai_Met MX1_ageAt [.ref q, .int i] h (some (.int (bk_age B i))) h := by
  have hB0 := hB
  obtain ⟨hqb, he_b, ⟨he_to, he_ao, ok_o⟩, ⟨he_ts, he_as, ok_s⟩, ⟨he_tn, he_an, ok_n⟩, ⟨he_tr, he_ar, ok_r⟩, ⟨he_tj, he_aj, ok_j⟩⟩ := hB
  have hq_b : q < h.1 := by omega
  have hq_to : q + 1 < h.1 := by omega
  have hq_ao : q + 2 < h.1 := by omega
  have hq_ts : q + 3 < h.1 := by omega
  have hq_as : q + 4 < h.1 := by omega
  have hq_tn : q + 5 < h.1 := by omega
  have hq_an : q + 6 < h.1 := by omega
  have hq_tr : q + 7 < h.1 := by omega
  have hq_ar : q + 8 < h.1 := by omega
  have hq_tj : q + 9 < h.1 := by omega
  have hq_aj : q + 10 < h.1 := by omega
  refine ai_met (ls := [.ref q, .int i]) (by decide) (by simp [ai_en, Value.category]) (by rfl) ?_
  refine rs_aload_n (pc := 0) dX1_ageAt_0 rfl ?_
  refine rs_iload_n (pc := 1) dX1_ageAt_1 rfl ?_
  refine rs_callV (as := [_]) (pc := 2) dX1_ageAt_2 mk_X1_weekOf mlX1_48 in_X1_weekOf se_X1_weekOf rfl hq_b he_b rfl rfl (Nat.le_of_ble_eq_true rfl) (c_X1_weekOf hB0 i) ?_
  refine rs_aload_n (pc := 5) dX1_ageAt_5 rfl ?_
  refine rs_getf (pc := 6) dX1_ageAt_6 fX1_20 hq_b he_b rfl ?_
  refine rs_aload_n (pc := 9) dX1_ageAt_9 rfl ?_
  refine rs_getf (pc := 10) dX1_ageAt_10 fX1_30 hq_b he_b rfl ?_
  refine rs_iload_n (pc := 13) dX1_ageAt_13 rfl ?_
  refine rs_iconst (v := 3) (pc := 14) dX1_ageAt_14 rfl ?_
  refine rs_callV (as := [_, _]) (pc := 15) dX1_ageAt_15 mk_X8_at mlX1_40 in_X8_at se_X8_at rfl hq_tr he_tr rfl rfl (Nat.le_of_ble_eq_true rfl) (c_X8_at hq_tr he_tr hq_ar he_ar ok_r _ _) ?_
  refine rs_iconst (v := 0) (pc := 18) dX1_ageAt_18 rfl ?_
  refine rs_callV (as := [_, _]) (pc := 19) dX1_ageAt_19 mk_X8_at mlX1_40 in_X8_at se_X8_at rfl hq_to he_to rfl rfl (Nat.le_of_ble_eq_true rfl) (c_X8_at hq_to he_to hq_ao he_ao ok_o _ _) ?_
  refine rs_isub (pc := 22) dX1_ageAt_22 ?_
  refine rs_bipush (v := 52) (pc := 23) dX1_ageAt_23 rfl ?_
  refine rs_idiv (pc := 25) dX1_ageAt_25 (by decide) ?_
  exact wk_iret (pc := 26) dX1_ageAt_26 rfl (rfl) (rfl)
theorem dX1_word_0 : decode cX1_word 0 = .ok (.aload_n 0, 1) := by decide +kernel
theorem dX1_word_1 : decode cX1_word 1 = .ok (.getfield 30, 3) := by decide +kernel
theorem dX1_word_4 : decode cX1_word 4 = .ok (.iload_n 2, 1) := by decide +kernel
theorem dX1_word_5 : decode cX1_word 5 = .ok (.iconst 1, 1) := by decide +kernel
theorem dX1_word_6 : decode cX1_word 6 = .ok (.invokevirtual 40, 3) := by decide +kernel
theorem dX1_word_9 : decode cX1_word 9 = .ok (.istore_n 3, 1) := by decide +kernel
theorem dX1_word_10 : decode cX1_word 10 = .ok (.iload_n 1, 1) := by decide +kernel
theorem dX1_word_11 : decode cX1_word 11 = .ok (.tableswitch 131 0 8 #[49, 59, 69, 79, 81, 91, 101, 107, 113], 49) := by decide +kernel
theorem dX1_word_60 : decode cX1_word 60 = .ok (.aload_n 0, 1) := by decide +kernel
theorem dX1_word_61 : decode cX1_word 61 = .ok (.getfield 24, 3) := by decide +kernel
theorem dX1_word_64 : decode cX1_word 64 = .ok (.iload_n 3, 1) := by decide +kernel
theorem dX1_word_65 : decode cX1_word 65 = .ok (.iconst 0, 1) := by decide +kernel
theorem dX1_word_66 : decode cX1_word 66 = .ok (.invokevirtual 40, 3) := by decide +kernel
theorem dX1_word_69 : decode cX1_word 69 = .ok (.ireturn, 1) := by decide +kernel
theorem dX1_word_70 : decode cX1_word 70 = .ok (.aload_n 0, 1) := by decide +kernel
theorem dX1_word_71 : decode cX1_word 71 = .ok (.getfield 24, 3) := by decide +kernel
theorem dX1_word_74 : decode cX1_word 74 = .ok (.iload_n 3, 1) := by decide +kernel
theorem dX1_word_75 : decode cX1_word 75 = .ok (.iconst 1, 1) := by decide +kernel
theorem dX1_word_76 : decode cX1_word 76 = .ok (.invokevirtual 40, 3) := by decide +kernel
theorem dX1_word_79 : decode cX1_word 79 = .ok (.ireturn, 1) := by decide +kernel
theorem dX1_word_80 : decode cX1_word 80 = .ok (.aload_n 0, 1) := by decide +kernel
theorem dX1_word_81 : decode cX1_word 81 = .ok (.getfield 24, 3) := by decide +kernel
theorem dX1_word_84 : decode cX1_word 84 = .ok (.iload_n 3, 1) := by decide +kernel
theorem dX1_word_85 : decode cX1_word 85 = .ok (.iconst 2, 1) := by decide +kernel
theorem dX1_word_86 : decode cX1_word 86 = .ok (.invokevirtual 40, 3) := by decide +kernel
theorem dX1_word_89 : decode cX1_word 89 = .ok (.ireturn, 1) := by decide +kernel
theorem dX1_word_90 : decode cX1_word 90 = .ok (.iload_n 3, 1) := by decide +kernel
theorem dX1_word_91 : decode cX1_word 91 = .ok (.ireturn, 1) := by decide +kernel
theorem dX1_word_92 : decode cX1_word 92 = .ok (.aload_n 0, 1) := by decide +kernel
theorem dX1_word_93 : decode cX1_word 93 = .ok (.getfield 30, 3) := by decide +kernel
theorem dX1_word_96 : decode cX1_word 96 = .ok (.iload_n 2, 1) := by decide +kernel
theorem dX1_word_97 : decode cX1_word 97 = .ok (.iconst 2, 1) := by decide +kernel
theorem dX1_word_98 : decode cX1_word 98 = .ok (.invokevirtual 40, 3) := by decide +kernel
theorem dX1_word_101 : decode cX1_word 101 = .ok (.ireturn, 1) := by decide +kernel
theorem dX1_word_102 : decode cX1_word 102 = .ok (.aload_n 0, 1) := by decide +kernel
theorem dX1_word_103 : decode cX1_word 103 = .ok (.getfield 30, 3) := by decide +kernel
theorem dX1_word_106 : decode cX1_word 106 = .ok (.iload_n 2, 1) := by decide +kernel
theorem dX1_word_107 : decode cX1_word 107 = .ok (.iconst 4, 1) := by decide +kernel
theorem dX1_word_108 : decode cX1_word 108 = .ok (.invokevirtual 40, 3) := by decide +kernel
theorem dX1_word_111 : decode cX1_word 111 = .ok (.ireturn, 1) := by decide +kernel
theorem dX1_word_112 : decode cX1_word 112 = .ok (.aload_n 0, 1) := by decide +kernel
theorem dX1_word_113 : decode cX1_word 113 = .ok (.iload_n 2, 1) := by decide +kernel
theorem dX1_word_114 : decode cX1_word 114 = .ok (.invokevirtual 48, 3) := by decide +kernel
theorem dX1_word_117 : decode cX1_word 117 = .ok (.ireturn, 1) := by decide +kernel
theorem dX1_word_118 : decode cX1_word 118 = .ok (.aload_n 0, 1) := by decide +kernel
theorem dX1_word_119 : decode cX1_word 119 = .ok (.iload_n 2, 1) := by decide +kernel
theorem dX1_word_120 : decode cX1_word 120 = .ok (.invokevirtual 57, 3) := by decide +kernel
theorem dX1_word_123 : decode cX1_word 123 = .ok (.ireturn, 1) := by decide +kernel
theorem dX1_word_124 : decode cX1_word 124 = .ok (.aload_n 0, 1) := by decide +kernel
theorem dX1_word_125 : decode cX1_word 125 = .ok (.getfield 27, 3) := by decide +kernel
theorem dX1_word_128 : decode cX1_word 128 = .ok (.aload_n 0, 1) := by decide +kernel
theorem dX1_word_129 : decode cX1_word 129 = .ok (.getfield 30, 3) := by decide +kernel
theorem dX1_word_132 : decode cX1_word 132 = .ok (.iload_n 2, 1) := by decide +kernel
theorem dX1_word_133 : decode cX1_word 133 = .ok (.iconst 0, 1) := by decide +kernel
theorem dX1_word_134 : decode cX1_word 134 = .ok (.invokevirtual 40, 3) := by decide +kernel
theorem dX1_word_137 : decode cX1_word 137 = .ok (.iconst 0, 1) := by decide +kernel
theorem dX1_word_138 : decode cX1_word 138 = .ok (.invokevirtual 40, 3) := by decide +kernel
theorem dX1_word_141 : decode cX1_word 141 = .ok (.ireturn, 1) := by decide +kernel
theorem dX1_word_142 : decode cX1_word 142 = .ok (.aload_n 0, 1) := by decide +kernel
theorem dX1_word_143 : decode cX1_word 143 = .ok (.iload_n 2, 1) := by decide +kernel
theorem dX1_word_144 : decode cX1_word 144 = .ok (.invokevirtual 60, 3) := by decide +kernel
theorem dX1_word_147 : decode cX1_word 147 = .ok (.ireturn, 1) := by decide +kernel
set_option maxRecDepth 100000 in
set_option maxHeartbeats 4000000 in
theorem c_X1_word {h : ai_H} {q : Nat} {B : Bk} (hB : bk_at h q B) (k i : Int32) : ai_Met MX1_word [.ref q, .int k, .int i] h (some (.int (bk_word B k i))) h := by
  have hB0 := hB
  obtain ⟨hqb, he_b, ⟨he_to, he_ao, ok_o⟩, ⟨he_ts, he_as, ok_s⟩, ⟨he_tn, he_an, ok_n⟩, ⟨he_tr, he_ar, ok_r⟩, ⟨he_tj, he_aj, ok_j⟩⟩ := hB
  have hq_b : q < h.1 := by omega
  have hq_to : q + 1 < h.1 := by omega
  have hq_ao : q + 2 < h.1 := by omega
  have hq_ts : q + 3 < h.1 := by omega
  have hq_as : q + 4 < h.1 := by omega
  have hq_tn : q + 5 < h.1 := by omega
  have hq_an : q + 6 < h.1 := by omega
  have hq_tr : q + 7 < h.1 := by omega
  have hq_ar : q + 8 < h.1 := by omega
  have hq_tj : q + 9 < h.1 := by omega
  have hq_aj : q + 10 < h.1 := by omega
  refine ai_met (ls := [.ref q, .int k, .int i, .float 0]) (by decide) (by simp [ai_en, Value.category]) (by rfl) ?_
  refine rs_aload_n (pc := 0) dX1_word_0 rfl ?_
  refine rs_getf (pc := 1) dX1_word_1 fX1_30 hq_b he_b rfl ?_
  refine rs_iload_n (pc := 4) dX1_word_4 rfl ?_
  refine rs_iconst (v := 1) (pc := 5) dX1_word_5 rfl ?_
  refine rs_callV (as := [_, _]) (pc := 6) dX1_word_6 mk_X8_at mlX1_40 in_X8_at se_X8_at rfl hq_tr he_tr rfl rfl (Nat.le_of_ble_eq_true rfl) (c_X8_at hq_tr he_tr hq_ar he_ar ok_r _ _) ?_
  refine wk_istn3 (pc := 9) dX1_word_9 (by decide) rfl ?_
  refine rs_iload_n (pc := 10) dX1_word_10 rfl ?_
  by_cases e11_0 : k = 0
  · refine wk_tab 0 e11_0 (tgt := 60) (pc := 11) dX1_word_11 (by decide) (by decide) rfl rfl ?_
    refine rs_aload_n (pc := 60) dX1_word_60 rfl ?_
    refine rs_getf (pc := 61) dX1_word_61 fX1_24 hq_b he_b rfl ?_
    refine rs_iload_n (pc := 64) dX1_word_64 rfl ?_
    refine rs_iconst (v := 0) (pc := 65) dX1_word_65 rfl ?_
    refine rs_callV (as := [_, _]) (pc := 66) dX1_word_66 mk_X8_at mlX1_40 in_X8_at se_X8_at rfl hq_ts he_ts rfl rfl (Nat.le_of_ble_eq_true rfl) (c_X8_at hq_ts he_ts hq_as he_as ok_s _ _) ?_
    exact wk_iret (pc := 69) dX1_word_69 rfl (by simp [bk_word, bk_sat, bk_nat, bk_rat, *]) (rfl)
  by_cases e11_1 : k = 1
  · refine wk_tab 1 e11_1 (tgt := 70) (pc := 11) dX1_word_11 (by decide) (by decide) rfl rfl ?_
    refine rs_aload_n (pc := 70) dX1_word_70 rfl ?_
    refine rs_getf (pc := 71) dX1_word_71 fX1_24 hq_b he_b rfl ?_
    refine rs_iload_n (pc := 74) dX1_word_74 rfl ?_
    refine rs_iconst (v := 1) (pc := 75) dX1_word_75 rfl ?_
    refine rs_callV (as := [_, _]) (pc := 76) dX1_word_76 mk_X8_at mlX1_40 in_X8_at se_X8_at rfl hq_ts he_ts rfl rfl (Nat.le_of_ble_eq_true rfl) (c_X8_at hq_ts he_ts hq_as he_as ok_s _ _) ?_
    exact wk_iret (pc := 79) dX1_word_79 rfl (by simp [bk_word, bk_sat, bk_nat, bk_rat, *]) (rfl)
  by_cases e11_2 : k = 2
  · refine wk_tab 2 e11_2 (tgt := 80) (pc := 11) dX1_word_11 (by decide) (by decide) rfl rfl ?_
    refine rs_aload_n (pc := 80) dX1_word_80 rfl ?_
    refine rs_getf (pc := 81) dX1_word_81 fX1_24 hq_b he_b rfl ?_
    refine rs_iload_n (pc := 84) dX1_word_84 rfl ?_
    refine rs_iconst (v := 2) (pc := 85) dX1_word_85 rfl ?_
    refine rs_callV (as := [_, _]) (pc := 86) dX1_word_86 mk_X8_at mlX1_40 in_X8_at se_X8_at rfl hq_ts he_ts rfl rfl (Nat.le_of_ble_eq_true rfl) (c_X8_at hq_ts he_ts hq_as he_as ok_s _ _) ?_
    exact wk_iret (pc := 89) dX1_word_89 rfl (by simp [bk_word, bk_sat, bk_nat, bk_rat, *]) (rfl)
  by_cases e11_3 : k = 3
  · refine wk_tab 3 e11_3 (tgt := 90) (pc := 11) dX1_word_11 (by decide) (by decide) rfl rfl ?_
    refine rs_iload_n (pc := 90) dX1_word_90 rfl ?_
    exact wk_iret (pc := 91) dX1_word_91 rfl (by simp [bk_word, bk_sat, bk_nat, bk_rat, *]) (rfl)
  by_cases e11_4 : k = 4
  · refine wk_tab 4 e11_4 (tgt := 92) (pc := 11) dX1_word_11 (by decide) (by decide) rfl rfl ?_
    refine rs_aload_n (pc := 92) dX1_word_92 rfl ?_
    refine rs_getf (pc := 93) dX1_word_93 fX1_30 hq_b he_b rfl ?_
    refine rs_iload_n (pc := 96) dX1_word_96 rfl ?_
    refine rs_iconst (v := 2) (pc := 97) dX1_word_97 rfl ?_
    refine rs_callV (as := [_, _]) (pc := 98) dX1_word_98 mk_X8_at mlX1_40 in_X8_at se_X8_at rfl hq_tr he_tr rfl rfl (Nat.le_of_ble_eq_true rfl) (c_X8_at hq_tr he_tr hq_ar he_ar ok_r _ _) ?_
    exact wk_iret (pc := 101) dX1_word_101 rfl (by simp [bk_word, bk_sat, bk_nat, bk_rat, *]) (rfl)
  by_cases e11_5 : k = 5
  · refine wk_tab 5 e11_5 (tgt := 102) (pc := 11) dX1_word_11 (by decide) (by decide) rfl rfl ?_
    refine rs_aload_n (pc := 102) dX1_word_102 rfl ?_
    refine rs_getf (pc := 103) dX1_word_103 fX1_30 hq_b he_b rfl ?_
    refine rs_iload_n (pc := 106) dX1_word_106 rfl ?_
    refine rs_iconst (v := 4) (pc := 107) dX1_word_107 rfl ?_
    refine rs_callV (as := [_, _]) (pc := 108) dX1_word_108 mk_X8_at mlX1_40 in_X8_at se_X8_at rfl hq_tr he_tr rfl rfl (Nat.le_of_ble_eq_true rfl) (c_X8_at hq_tr he_tr hq_ar he_ar ok_r _ _) ?_
    exact wk_iret (pc := 111) dX1_word_111 rfl (by simp [bk_word, bk_sat, bk_nat, bk_rat, *]) (rfl)
  by_cases e11_6 : k = 6
  · refine wk_tab 6 e11_6 (tgt := 112) (pc := 11) dX1_word_11 (by decide) (by decide) rfl rfl ?_
    refine rs_aload_n (pc := 112) dX1_word_112 rfl ?_
    refine rs_iload_n (pc := 113) dX1_word_113 rfl ?_
    refine rs_callV (as := [_]) (pc := 114) dX1_word_114 mk_X1_weekOf mlX1_48 in_X1_weekOf se_X1_weekOf rfl hq_b he_b rfl rfl (Nat.le_of_ble_eq_true rfl) (c_X1_weekOf hB0 i) ?_
    exact wk_iret (pc := 117) dX1_word_117 rfl (by simp [bk_word, bk_sat, bk_nat, bk_rat, *]) (rfl)
  by_cases e11_7 : k = 7
  · refine wk_tab 7 e11_7 (tgt := 118) (pc := 11) dX1_word_11 (by decide) (by decide) rfl rfl ?_
    refine rs_aload_n (pc := 118) dX1_word_118 rfl ?_
    refine rs_iload_n (pc := 119) dX1_word_119 rfl ?_
    refine rs_callV (as := [_]) (pc := 120) dX1_word_120 mk_X1_yearOf mlX1_57 in_X1_yearOf se_X1_yearOf rfl hq_b he_b rfl rfl (Nat.le_of_ble_eq_true rfl) (c_X1_yearOf hB0 i) ?_
    exact wk_iret (pc := 123) dX1_word_123 rfl (by simp [bk_word, bk_sat, bk_nat, bk_rat, *]) (rfl)
  by_cases e11_8 : k = 8
  · refine wk_tab 8 e11_8 (tgt := 124) (pc := 11) dX1_word_11 (by decide) (by decide) rfl rfl ?_
    refine rs_aload_n (pc := 124) dX1_word_124 rfl ?_
    refine rs_getf (pc := 125) dX1_word_125 fX1_27 hq_b he_b rfl ?_
    refine rs_aload_n (pc := 128) dX1_word_128 rfl ?_
    refine rs_getf (pc := 129) dX1_word_129 fX1_30 hq_b he_b rfl ?_
    refine rs_iload_n (pc := 132) dX1_word_132 rfl ?_
    refine rs_iconst (v := 0) (pc := 133) dX1_word_133 rfl ?_
    refine rs_callV (as := [_, _]) (pc := 134) dX1_word_134 mk_X8_at mlX1_40 in_X8_at se_X8_at rfl hq_tr he_tr rfl rfl (Nat.le_of_ble_eq_true rfl) (c_X8_at hq_tr he_tr hq_ar he_ar ok_r _ _) ?_
    refine rs_iconst (v := 0) (pc := 137) dX1_word_137 rfl ?_
    refine rs_callV (as := [_, _]) (pc := 138) dX1_word_138 mk_X8_at mlX1_40 in_X8_at se_X8_at rfl hq_tn he_tn rfl rfl (Nat.le_of_ble_eq_true rfl) (c_X8_at hq_tn he_tn hq_an he_an ok_n _ _) ?_
    exact wk_iret (pc := 141) dX1_word_141 rfl (by simp [bk_word, bk_sat, bk_nat, bk_rat, *]) (rfl)
  have qe11_0 := i32_nek (n := 0) e11_0 (by decide)
  have qe11_1 := i32_nek (n := 1) e11_1 (by decide)
  have qe11_2 := i32_nek (n := 2) e11_2 (by decide)
  have qe11_3 := i32_nek (n := 3) e11_3 (by decide)
  have qe11_4 := i32_nek (n := 4) e11_4 (by decide)
  have qe11_5 := i32_nek (n := 5) e11_5 (by decide)
  have qe11_6 := i32_nek (n := 6) e11_6 (by decide)
  have qe11_7 := i32_nek (n := 7) e11_7 (by decide)
  have qe11_8 := i32_nek (n := 8) e11_8 (by decide)
  refine rs_tableOut (tgt := 142) (pc := 11) dX1_word_11 (by omega) rfl ?_
  refine rs_aload_n (pc := 142) dX1_word_142 rfl ?_
  refine rs_iload_n (pc := 143) dX1_word_143 rfl ?_
  refine rs_callV (as := [_]) (pc := 144) dX1_word_144 mk_X1_ageAt mlX1_60 in_X1_ageAt se_X1_ageAt rfl hq_b he_b rfl rfl (Nat.le_of_ble_eq_true rfl) (c_X1_ageAt hB0 i) ?_
  exact wk_iret (pc := 147) dX1_word_147 rfl (by simp [bk_word, bk_sat, bk_nat, bk_rat, *]) (rfl)
