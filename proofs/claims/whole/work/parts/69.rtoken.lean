/-! 69: the class's reader: its tokens (walks laid by wip/whole/p69.py) -/
/-- the text that is read: n signs t, in the tape -/
def rd_tx (t : Nat → Nat) (n : Nat) (h : ai_H) : Prop := n ≤ 400 ∧ 13 < h.1 ∧ ∃ f : Nat → Int32, h.2.2 13 = .inl (0, 400, .inl f) ∧ ∀ q, q < n → f q = nI (t q) ∧ t q < 256
theorem rd_tx.keep {t : Nat → Nat} {n : Nat} {h g : ai_H} (a : rd_tx t n h) (e : xd h g) : rd_tx t n g := by
  obtain ⟨a1, a2, f, a3, a4⟩ := a
  exact ⟨a1, by rw [e.1]; exact a2, f, (e.2.2 13 (by decide)).trans a3, a4⟩
theorem rd_tx.ch {t : Nat → Nat} {n p : Nat} {h : ai_H} (a : rd_tx t n h) : tx_ch t n p < 256 := by
  obtain ⟨a1, a2, f, a3, a4⟩ := a
  unfold tx_ch
  by_cases hp : p < n
  · rw [if_pos hp]; exact (a4 p hp).2
  · rw [if_neg hp]; decide
theorem tx_dg_ch {t : Nat → Nat} {n p : Nat} : (48 ≤ tx_ch t n p ∧ tx_ch t n p ≤ 57) ↔ p < n ∧ tx_dg t p = true := by
  unfold tx_ch tx_dg
  by_cases hp : p < n
  · rw [if_pos hp]
    exact ⟨fun z => ⟨hp, decide_eq_true z⟩, fun z => of_decide_eq_true z.2⟩
  · rw [if_neg hp]
    exact ⟨fun z => absurd z.1 (by decide), fun z => absurd z.1 hp⟩
theorem tx_lt_ch {t : Nat → Nat} {n p : Nat} : (97 ≤ tx_ch t n p ∧ tx_ch t n p ≤ 122) ↔ p < n ∧ tx_lt t p = true := by
  unfold tx_ch tx_lt
  by_cases hp : p < n
  · rw [if_pos hp]
    exact ⟨fun z => ⟨hp, decide_eq_true z⟩, fun z => of_decide_eq_true z.2⟩
  · rw [if_neg hp]
    exact ⟨fun z => absurd z.1 (by decide), fun z => absurd z.1 hp⟩
theorem tx_bl_ch {t : Nat → Nat} {n p : Nat} : tx_ch t n p = 32 ↔ p < n ∧ tx_bl t p = true := by
  unfold tx_ch tx_bl
  by_cases hp : p < n
  · rw [if_pos hp]
    exact ⟨fun z => ⟨hp, decide_eq_true z⟩, fun z => of_decide_eq_true z.2⟩
  · rw [if_neg hp]
    exact ⟨fun z => absurd z (by decide), fun z => absurd z.1 hp⟩
/-- whole numbers below a bound, told apart -/
theorem tx_lt1 {a b : Nat} {k : Int32} (ha : a < 1000000) (hb : b < 1000000) (hk : k = nI b) (c : nI a < k) : a < b := (nI_ltI (by omega) (by omega)).mp (by rw [← hk]; exact c)
theorem tx_lt2 {a b : Nat} {k : Int32} (ha : a < 1000000) (hb : b < 1000000) (hk : k = nI b) (c : ¬ nI a < k) : b ≤ a := Nat.le_of_not_lt (fun z => c (by rw [hk]; exact nI_lt z (by omega)))
theorem tx_gt1 {a b : Nat} {k : Int32} (ha : a < 1000000) (hb : b < 1000000) (hk : k = nI b) (c : k < nI a) : b < a := (nI_ltI (by omega) (by omega)).mp (by rw [← hk]; exact c)
theorem tx_gt2 {a b : Nat} {k : Int32} (ha : a < 1000000) (hb : b < 1000000) (hk : k = nI b) (c : ¬ k < nI a) : a ≤ b := Nat.le_of_not_lt (fun z => c (by rw [hk]; exact nI_lt z (by omega)))
theorem tx_eq1 {a b : Nat} {k : Int32} (ha : a < 1000000) (hb : b < 1000000) (hk : k = nI b) (c : nI a = k) : a = b := nI_inj (by omega) (by omega) (c.trans hk)
theorem tx_eq2 {a b : Nat} {k : Int32} (hk : k = nI b) (c : ¬ nI a = k) : a ≠ b := fun z => c (by rw [z]; exact hk.symm)
theorem tx_le1 {a b : Nat} {k : Int32} (ha : a < 1000000) (hb : b < 1000000) (hk : k = nI b) (c : k ≤ nI a) : b ≤ a := (nI_leI (by omega) (by omega)).mp (by rw [← hk]; exact c)
theorem tx_le2 {a b : Nat} {k : Int32} (ha : a < 1000000) (hb : b < 1000000) (hk : k = nI b) (c : ¬ k ≤ nI a) : a < b := Nat.lt_of_not_le (fun z => c (by rw [hk]; exact nI_le z (by omega)))
theorem tx_ge1 {a b : Nat} {k : Int32} (ha : a < 1000000) (hb : b < 1000000) (hk : k = nI b) (c : nI a ≤ k) : a ≤ b := (nI_leI (by omega) (by omega)).mp (by rw [← hk]; exact c)
theorem tx_ge2 {a b : Nat} {k : Int32} (ha : a < 1000000) (hb : b < 1000000) (hk : k = nI b) (c : ¬ nI a ≤ k) : b < a := Nat.lt_of_not_le (fun z => c (by rw [hk]; exact nI_le z (by omega)))
theorem nI_sub {a b : Nat} (h : b ≤ a) : nI a - nI b = nI (a - b) := by
  have e : nI a = nI (a - b) + nI b := by rw [nI_add, Nat.sub_add_cancel h]
  rw [e]
  exact Int32.add_sub_cancel _ _
theorem dX5_byteAt_0 : decode cX5_byteAt 0 = .ok (.iload_n 1, 1) := by decide +kernel
theorem dX5_byteAt_1 : decode cX5_byteAt 1 = .ok (.ifCond .lt 20, 3) := by decide +kernel
theorem dX5_byteAt_4 : decode cX5_byteAt 4 = .ok (.iload_n 1, 1) := by decide +kernel
theorem dX5_byteAt_5 : decode cX5_byteAt 5 = .ok (.aload_n 0, 1) := by decide +kernel
theorem dX5_byteAt_6 : decode cX5_byteAt 6 = .ok (.getfield 15, 3) := by decide +kernel
theorem dX5_byteAt_9 : decode cX5_byteAt 9 = .ok (.if_icmp .ge 12, 3) := by decide +kernel
theorem dX5_byteAt_12 : decode cX5_byteAt 12 = .ok (.aload_n 0, 1) := by decide +kernel
theorem dX5_byteAt_13 : decode cX5_byteAt 13 = .ok (.getfield 9, 3) := by decide +kernel
theorem dX5_byteAt_16 : decode cX5_byteAt 16 = .ok (.iload_n 1, 1) := by decide +kernel
theorem dX5_byteAt_17 : decode cX5_byteAt 17 = .ok (.iaload, 1) := by decide +kernel
theorem dX5_byteAt_18 : decode cX5_byteAt 18 = .ok (.goto 4, 3) := by decide +kernel
theorem dX5_byteAt_21 : decode cX5_byteAt 21 = .ok (.iconst 0, 1) := by decide +kernel
theorem dX5_byteAt_22 : decode cX5_byteAt 22 = .ok (.ireturn, 1) := by decide +kernel
set_option maxRecDepth 100000 in
set_option maxHeartbeats 4000000 in
theorem c_X5_byteAt {h : ai_H} {S : Md} {t : Nat → Nat} {n : Nat} (hrd : rd_at 13 h S) (htx : rd_tx t n h) (hn : S.1 1 = nI n) {p : Nat} (hp : p ≤ 1000) : ai_Met MX5_byteAt [.ref 16, .int (nI p)] h (some (.int (nI (tx_ch t n p)))) h := by
  obtain ⟨hn4, hq_t, f, he_t, hf⟩ := htx
  refine ai_met (ls := [.ref 16, .int (nI p)]) (by decide) (by simp [ai_en, Value.category]) (by rfl) ?_
  refine rs_iload_n (pc := 0) dX5_byteAt_0 rfl ?_
  refine rs_if_lt (tgt := 21) (pc := 1) dX5_byteAt_1 rfl (fun c_1 => absurd c_1 (nI_pos (show p < 2 ^ 31 by omega))) (fun c_1 => ?_)
  refine rs_iload_n (pc := 4) dX5_byteAt_4 rfl ?_
  refine rs_aload_n (pc := 5) dX5_byteAt_5 rfl ?_
  refine rs_getf (pc := 6) dX5_byteAt_6 fX5_15 (mo_lt hrd (by decide)) hrd.2.1 rfl ?_
  refine rs_icmp_ge (tgt := 21) (pc := 9) dX5_byteAt_9 rfl (fun c_9 => ?_) (fun c_9 => ?_)
  · have hge : n ≤ p := tx_le1 (by omega) (by omega) hn c_9
    refine rs_iconst (v := 0) (pc := 21) dX5_byteAt_21 rfl ?_
    exact wk_iret (pc := 22) dX5_byteAt_22 rfl (by rw [tx_ch, if_neg (show ¬ p < n by omega)]; rfl) (rfl)
  · have hlt : p < n := tx_le2 (by omega) (by omega) hn c_9
    refine rs_aload_n (pc := 12) dX5_byteAt_12 rfl ?_
    refine rs_getf (pc := 13) dX5_byteAt_13 fX5_9 (mo_lt hrd (by decide)) hrd.2.1 rfl ?_
    refine rs_iload_n (pc := 16) dX5_byteAt_16 rfl ?_
    refine rs_iald (pc := 17) dX5_byteAt_17 hq_t he_t (vp_in_nI (n := p) (N := 400) (by omega) (by decide)) ?_
    refine rs_goto (tgt := 22) (pc := 18) dX5_byteAt_18 rfl ?_
    exact wk_iret (pc := 22) dX5_byteAt_22 rfl (by rw [tx_ch, if_pos hlt, nI_clamp (show p < 2 ^ 31 by omega), (hf p hlt).1]) (rfl)
theorem dX5_isDigit_0 : decode cX5_isDigit 0 = .ok (.aload_n 0, 1) := by decide +kernel
theorem dX5_isDigit_1 : decode cX5_isDigit 1 = .ok (.iload_n 1, 1) := by decide +kernel
theorem dX5_isDigit_2 : decode cX5_isDigit 2 = .ok (.invokevirtual 86, 3) := by decide +kernel
theorem dX5_isDigit_5 : decode cX5_isDigit 5 = .ok (.bipush 48, 2) := by decide +kernel
theorem dX5_isDigit_7 : decode cX5_isDigit 7 = .ok (.if_icmp .lt 17, 3) := by decide +kernel
theorem dX5_isDigit_10 : decode cX5_isDigit 10 = .ok (.aload_n 0, 1) := by decide +kernel
theorem dX5_isDigit_11 : decode cX5_isDigit 11 = .ok (.iload_n 1, 1) := by decide +kernel
theorem dX5_isDigit_12 : decode cX5_isDigit 12 = .ok (.invokevirtual 86, 3) := by decide +kernel
theorem dX5_isDigit_15 : decode cX5_isDigit 15 = .ok (.bipush 57, 2) := by decide +kernel
theorem dX5_isDigit_17 : decode cX5_isDigit 17 = .ok (.if_icmp .gt 7, 3) := by decide +kernel
theorem dX5_isDigit_20 : decode cX5_isDigit 20 = .ok (.iconst 1, 1) := by decide +kernel
theorem dX5_isDigit_21 : decode cX5_isDigit 21 = .ok (.goto 4, 3) := by decide +kernel
theorem dX5_isDigit_24 : decode cX5_isDigit 24 = .ok (.iconst 0, 1) := by decide +kernel
theorem dX5_isDigit_25 : decode cX5_isDigit 25 = .ok (.ireturn, 1) := by decide +kernel
set_option maxRecDepth 100000 in
set_option maxHeartbeats 4000000 in
theorem c_X5_isDigit {h : ai_H} {S : Md} {t : Nat → Nat} {n : Nat} (hrd : rd_at 13 h S) (htx : rd_tx t n h) (hn : S.1 1 = nI n) {p : Nat} (hp : p ≤ 1000) : ai_Met MX5_isDigit [.ref 16, .int (nI p)] h (some (.int (if 48 ≤ tx_ch t n p ∧ tx_ch t n p ≤ 57 then 1 else 0))) h := by
  have hch := htx.ch (p := p)
  obtain ⟨hn4, hq_t, f, he_t, hf⟩ := id htx
  refine ai_met (ls := [.ref 16, .int (nI p)]) (by decide) (by simp [ai_en, Value.category]) (by rfl) ?_
  refine rs_aload_n (pc := 0) dX5_isDigit_0 rfl ?_
  refine rs_iload_n (pc := 1) dX5_isDigit_1 rfl ?_
  refine rs_callV (as := [_]) (pc := 2) dX5_isDigit_2 mk_X5_byteAt mlX5_86 in_X5_byteAt se_X5_byteAt rfl (mo_lt hrd (by decide)) hrd.2.1 rfl rfl (Nat.le_of_ble_eq_true rfl) (c_X5_byteAt hrd htx hn hp) ?_
  refine rs_bipush (v := 48) (pc := 5) dX5_isDigit_5 rfl ?_
  refine rs_icmp_lt (tgt := 24) (pc := 7) dX5_isDigit_7 rfl (fun c_7 => ?_) (fun c_7 => ?_)
  · have g1 := tx_lt1 (b := 48) (by omega) (by decide) rfl c_7
    refine rs_iconst (v := 0) (pc := 24) dX5_isDigit_24 rfl ?_
    exact wk_zret (pc := 25) dX5_isDigit_25 rfl (Or.inl rfl) (by rw [if_neg (by omega)]) (rfl)
  · have g1 := tx_lt2 (b := 48) (by omega) (by decide) rfl c_7
    refine rs_aload_n (pc := 10) dX5_isDigit_10 rfl ?_
    refine rs_iload_n (pc := 11) dX5_isDigit_11 rfl ?_
    refine rs_callV (as := [_]) (pc := 12) dX5_isDigit_12 mk_X5_byteAt mlX5_86 in_X5_byteAt se_X5_byteAt rfl (mo_lt hrd (by decide)) hrd.2.1 rfl rfl (Nat.le_of_ble_eq_true rfl) (c_X5_byteAt hrd htx hn hp) ?_
    refine rs_bipush (v := 57) (pc := 15) dX5_isDigit_15 rfl ?_
    refine rs_icmp_gt (tgt := 24) (pc := 17) dX5_isDigit_17 rfl (fun c_17 => ?_) (fun c_17 => ?_)
    · have g2 := tx_gt1 (b := 57) (by omega) (by decide) rfl c_17
      refine rs_iconst (v := 0) (pc := 24) dX5_isDigit_24 rfl ?_
      exact wk_zret (pc := 25) dX5_isDigit_25 rfl (Or.inl rfl) (by rw [if_neg (by omega)]) (rfl)
    · have g2 := tx_gt2 (b := 57) (by omega) (by decide) rfl c_17
      refine rs_iconst (v := 1) (pc := 20) dX5_isDigit_20 rfl ?_
      refine rs_goto (tgt := 25) (pc := 21) dX5_isDigit_21 rfl ?_
      exact wk_zret (pc := 25) dX5_isDigit_25 rfl (Or.inr rfl) (by rw [if_pos ⟨g1, g2⟩]) (rfl)
theorem dX5_isLetter_0 : decode cX5_isLetter 0 = .ok (.aload_n 0, 1) := by decide +kernel
theorem dX5_isLetter_1 : decode cX5_isLetter 1 = .ok (.iload_n 1, 1) := by decide +kernel
theorem dX5_isLetter_2 : decode cX5_isLetter 2 = .ok (.invokevirtual 86, 3) := by decide +kernel
theorem dX5_isLetter_5 : decode cX5_isLetter 5 = .ok (.bipush 97, 2) := by decide +kernel
theorem dX5_isLetter_7 : decode cX5_isLetter 7 = .ok (.if_icmp .lt 17, 3) := by decide +kernel
theorem dX5_isLetter_10 : decode cX5_isLetter 10 = .ok (.aload_n 0, 1) := by decide +kernel
theorem dX5_isLetter_11 : decode cX5_isLetter 11 = .ok (.iload_n 1, 1) := by decide +kernel
theorem dX5_isLetter_12 : decode cX5_isLetter 12 = .ok (.invokevirtual 86, 3) := by decide +kernel
theorem dX5_isLetter_15 : decode cX5_isLetter 15 = .ok (.bipush 122, 2) := by decide +kernel
theorem dX5_isLetter_17 : decode cX5_isLetter 17 = .ok (.if_icmp .gt 7, 3) := by decide +kernel
theorem dX5_isLetter_20 : decode cX5_isLetter 20 = .ok (.iconst 1, 1) := by decide +kernel
theorem dX5_isLetter_21 : decode cX5_isLetter 21 = .ok (.goto 4, 3) := by decide +kernel
theorem dX5_isLetter_24 : decode cX5_isLetter 24 = .ok (.iconst 0, 1) := by decide +kernel
theorem dX5_isLetter_25 : decode cX5_isLetter 25 = .ok (.ireturn, 1) := by decide +kernel
set_option maxRecDepth 100000 in
set_option maxHeartbeats 4000000 in
theorem c_X5_isLetter {h : ai_H} {S : Md} {t : Nat → Nat} {n : Nat} (hrd : rd_at 13 h S) (htx : rd_tx t n h) (hn : S.1 1 = nI n) {p : Nat} (hp : p ≤ 1000) : ai_Met MX5_isLetter [.ref 16, .int (nI p)] h (some (.int (if 97 ≤ tx_ch t n p ∧ tx_ch t n p ≤ 122 then 1 else 0))) h := by
  have hch := htx.ch (p := p)
  obtain ⟨hn4, hq_t, f, he_t, hf⟩ := id htx
  refine ai_met (ls := [.ref 16, .int (nI p)]) (by decide) (by simp [ai_en, Value.category]) (by rfl) ?_
  refine rs_aload_n (pc := 0) dX5_isLetter_0 rfl ?_
  refine rs_iload_n (pc := 1) dX5_isLetter_1 rfl ?_
  refine rs_callV (as := [_]) (pc := 2) dX5_isLetter_2 mk_X5_byteAt mlX5_86 in_X5_byteAt se_X5_byteAt rfl (mo_lt hrd (by decide)) hrd.2.1 rfl rfl (Nat.le_of_ble_eq_true rfl) (c_X5_byteAt hrd htx hn hp) ?_
  refine rs_bipush (v := 97) (pc := 5) dX5_isLetter_5 rfl ?_
  refine rs_icmp_lt (tgt := 24) (pc := 7) dX5_isLetter_7 rfl (fun c_7 => ?_) (fun c_7 => ?_)
  · have g1 := tx_lt1 (b := 97) (by omega) (by decide) rfl c_7
    refine rs_iconst (v := 0) (pc := 24) dX5_isLetter_24 rfl ?_
    exact wk_zret (pc := 25) dX5_isLetter_25 rfl (Or.inl rfl) (by rw [if_neg (by omega)]) (rfl)
  · have g1 := tx_lt2 (b := 97) (by omega) (by decide) rfl c_7
    refine rs_aload_n (pc := 10) dX5_isLetter_10 rfl ?_
    refine rs_iload_n (pc := 11) dX5_isLetter_11 rfl ?_
    refine rs_callV (as := [_]) (pc := 12) dX5_isLetter_12 mk_X5_byteAt mlX5_86 in_X5_byteAt se_X5_byteAt rfl (mo_lt hrd (by decide)) hrd.2.1 rfl rfl (Nat.le_of_ble_eq_true rfl) (c_X5_byteAt hrd htx hn hp) ?_
    refine rs_bipush (v := 122) (pc := 15) dX5_isLetter_15 rfl ?_
    refine rs_icmp_gt (tgt := 24) (pc := 17) dX5_isLetter_17 rfl (fun c_17 => ?_) (fun c_17 => ?_)
    · have g2 := tx_gt1 (b := 122) (by omega) (by decide) rfl c_17
      refine rs_iconst (v := 0) (pc := 24) dX5_isLetter_24 rfl ?_
      exact wk_zret (pc := 25) dX5_isLetter_25 rfl (Or.inl rfl) (by rw [if_neg (by omega)]) (rfl)
    · have g2 := tx_gt2 (b := 122) (by omega) (by decide) rfl c_17
      refine rs_iconst (v := 1) (pc := 20) dX5_isLetter_20 rfl ?_
      refine rs_goto (tgt := 25) (pc := 21) dX5_isLetter_21 rfl ?_
      exact wk_zret (pc := 25) dX5_isLetter_25 rfl (Or.inr rfl) (by rw [if_pos ⟨g1, g2⟩]) (rfl)
theorem dX5_spells_0 : decode cX5_spells 0 = .ok (.aload_n 1, 1) := by decide +kernel
theorem dX5_spells_1 : decode cX5_spells 1 = .ok (.invokevirtual 159, 3) := by decide +kernel
theorem dX5_spells_4 : decode cX5_spells 4 = .ok (.aload_n 0, 1) := by decide +kernel
theorem dX5_spells_5 : decode cX5_spells 5 = .ok (.getfield 22, 3) := by decide +kernel
theorem dX5_spells_8 : decode cX5_spells 8 = .ok (.aload_n 0, 1) := by decide +kernel
theorem dX5_spells_9 : decode cX5_spells 9 = .ok (.getfield 19, 3) := by decide +kernel
theorem dX5_spells_12 : decode cX5_spells 12 = .ok (.isub, 1) := by decide +kernel
theorem dX5_spells_13 : decode cX5_spells 13 = .ok (.if_icmp .eq 5, 3) := by decide +kernel
theorem dX5_spells_16 : decode cX5_spells 16 = .ok (.iconst 0, 1) := by decide +kernel
theorem dX5_spells_17 : decode cX5_spells 17 = .ok (.ireturn, 1) := by decide +kernel
theorem dX5_spells_18 : decode cX5_spells 18 = .ok (.iconst 0, 1) := by decide +kernel
theorem dX5_spells_19 : decode cX5_spells 19 = .ok (.istore_n 2, 1) := by decide +kernel
theorem dX5_spells_20 : decode cX5_spells 20 = .ok (.iload_n 2, 1) := by decide +kernel
theorem dX5_spells_21 : decode cX5_spells 21 = .ok (.aload_n 1, 1) := by decide +kernel
theorem dX5_spells_22 : decode cX5_spells 22 = .ok (.invokevirtual 159, 3) := by decide +kernel
theorem dX5_spells_25 : decode cX5_spells 25 = .ok (.if_icmp .ge 29, 3) := by decide +kernel
theorem dX5_spells_28 : decode cX5_spells 28 = .ok (.aload_n 1, 1) := by decide +kernel
theorem dX5_spells_29 : decode cX5_spells 29 = .ok (.iload_n 2, 1) := by decide +kernel
theorem dX5_spells_30 : decode cX5_spells 30 = .ok (.invokevirtual 164, 3) := by decide +kernel
theorem dX5_spells_33 : decode cX5_spells 33 = .ok (.aload_n 0, 1) := by decide +kernel
theorem dX5_spells_34 : decode cX5_spells 34 = .ok (.aload_n 0, 1) := by decide +kernel
theorem dX5_spells_35 : decode cX5_spells 35 = .ok (.getfield 19, 3) := by decide +kernel
theorem dX5_spells_38 : decode cX5_spells 38 = .ok (.iload_n 2, 1) := by decide +kernel
theorem dX5_spells_39 : decode cX5_spells 39 = .ok (.iadd, 1) := by decide +kernel
theorem dX5_spells_40 : decode cX5_spells 40 = .ok (.invokevirtual 86, 3) := by decide +kernel
theorem dX5_spells_43 : decode cX5_spells 43 = .ok (.if_icmp .eq 5, 3) := by decide +kernel
theorem dX5_spells_46 : decode cX5_spells 46 = .ok (.iconst 0, 1) := by decide +kernel
theorem dX5_spells_47 : decode cX5_spells 47 = .ok (.ireturn, 1) := by decide +kernel
theorem dX5_spells_48 : decode cX5_spells 48 = .ok (.iinc 2 1, 3) := by decide +kernel
theorem dX5_spells_51 : decode cX5_spells 51 = .ok (.goto (-31), 3) := by decide +kernel
theorem dX5_spells_54 : decode cX5_spells 54 = .ok (.iconst 1, 1) := by decide +kernel
theorem dX5_spells_55 : decode cX5_spells 55 = .ok (.ireturn, 1) := by decide +kernel
set_option maxRecDepth 100000 in
set_option maxHeartbeats 4000000 in
theorem l_X5_spells {h : ai_H} {S : Md} {t : Nat → Nat} {n a b j : Nat} (hj : j < 15) (hrd : rd_at 13 h S) (htx : rd_tx t n h) (hn : S.1 1 = nI n) (h2 : S.1 2 = nI a) (h3 : S.1 3 = nI b) (hab : a ≤ b) (hbn : b ≤ n) (hL : b - a = ai_sl.getD j 0) : ∀ (m i : Nat), i ≤ ai_sl.getD j 0 → ai_sl.getD j 0 + 1 ≤ i + m → (∀ k, k < i → t (a + k) = (tx_ws.getD j []).getD k 0) → ai_R MX5_spells 20 [.ref 16, .retAddr j, .int (nI i)] [] h (some (.int (if tx_ix t a b = j then 1 else 0))) h := by
  have hsl := tx_sl j hj
  obtain ⟨hn4, hq_t, f, he_t, hf⟩ := id htx
  intro m
  induction m with
  | zero => intro i h1 h2 _; exact absurd h2 (by omega)
  | succ m ih =>
    intro i hi0 him hal
    refine rs_iload_n (pc := 20) dX5_spells_20 rfl ?_
    refine rs_aload_nS (pc := 21) dX5_spells_21 rfl ?_
    refine rs_callVS (as := []) (pc := 22) dX5_spells_22 mk_J0_length_8abf5 mlX5_159 in_J0_length_8abf5 se_J0_length_8abf5 rfl hj rfl rfl (Nat.le_of_ble_eq_true rfl) (c_length hj) ?_
    refine rs_icmp_ge (tgt := 54) (pc := 25) dX5_spells_25 rfl (fun c_25 => ?_) (fun c_25 => ?_)
    · have g1 := tx_le1 (a := i) (by omega) (by omega) rfl c_25
      refine rs_iconst (v := 1) (pc := 54) dX5_spells_54 rfl ?_
      exact wk_zret (pc := 55) dX5_spells_55 rfl (Or.inr rfl) (by rw [if_pos ((tx_spell hj).mpr ⟨hL, fun k hk => hal k (by omega)⟩)]) (rfl)
    · have g1 := tx_le2 (a := i) (by omega) (by omega) rfl c_25
      refine rs_aload_nS (pc := 28) dX5_spells_28 rfl ?_
      refine rs_iload_n (pc := 29) dX5_spells_29 rfl ?_
      refine rs_callVS (as := [_]) (pc := 30) dX5_spells_30 mk_J0_charAt_5068e mlX5_164 in_J0_charAt_5068e se_J0_charAt_5068e rfl hj rfl rfl (Nat.le_of_ble_eq_true rfl) (c_charAt hj g1) ?_
      refine rs_aload_n (pc := 33) dX5_spells_33 rfl ?_
      refine rs_aload_n (pc := 34) dX5_spells_34 rfl ?_
      refine rs_getf (pc := 35) dX5_spells_35 fX5_19 (mo_lt hrd (by decide)) hrd.2.1 rfl ?_
      refine rs_iload_n (pc := 38) dX5_spells_38 rfl ?_
      refine rs_iadd (pc := 39) dX5_spells_39 ?_
      rw [h2, nI_add]
      refine rs_callV (as := [_]) (pc := 40) dX5_spells_40 mk_X5_byteAt mlX5_86 in_X5_byteAt se_X5_byteAt rfl (mo_lt hrd (by decide)) hrd.2.1 rfl rfl (Nat.le_of_ble_eq_true rfl) (c_X5_byteAt hrd htx hn (by omega)) ?_
      have hchi : tx_ch t n (a + i) = t (a + i) := if_pos (by omega)
      rw [hchi, (tx_ws_by j hj i g1).1]
      refine rs_icmp_eq (tgt := 48) (pc := 43) dX5_spells_43 rfl (fun c_43 => ?_) (fun c_43 => ?_)
      · have g2 : (tx_ws.getD j []).getD i 0 = t (a + i) := nI_inj (by have := (tx_ws_by j hj i g1).2; omega) (by have := htx.ch (p := a + i); omega) c_43
        refine wk_iinc2 (v := nI (i + 1)) (pc := 48) dX5_spells_48 (by decide) rfl (nI_1 i) ?_
        refine rs_goto (tgt := 20) (pc := 51) dX5_spells_51 rfl ?_
        exact ih (i + 1) (by omega) (by omega) (fun k hk => by
          by_cases e : k = i
          · rw [e]; exact g2.symm
          · exact hal k (by omega))
      · have g2 : ¬ (tx_ws.getD j []).getD i 0 = t (a + i) := fun z => c_43 (by rw [z])
        refine rs_iconst (v := 0) (pc := 46) dX5_spells_46 rfl ?_
        exact wk_zret (pc := 47) dX5_spells_47 rfl (Or.inl rfl) (by rw [if_neg (fun z => g2 (((tx_spell hj).mp z).2 i g1).symm)]) (rfl)
set_option maxRecDepth 100000 in
set_option maxHeartbeats 4000000 in
theorem c_X5_spells {h : ai_H} {S : Md} {t : Nat → Nat} {n a b j : Nat} (hj : j < 15) (hrd : rd_at 13 h S) (htx : rd_tx t n h) (hn : S.1 1 = nI n) (h2 : S.1 2 = nI a) (h3 : S.1 3 = nI b) (hab : a ≤ b) (hbn : b ≤ n) : ai_Met MX5_spells [.ref 16, .retAddr j] h (some (.int (if tx_ix t a b = j then 1 else 0))) h := by
  have hsl := tx_sl j hj
  obtain ⟨hn4, hq_t, f, he_t, hf⟩ := id htx
  refine ai_met (ls := [.ref 16, .retAddr j, .float 0]) (by decide) (by simp [ai_en, Value.category]) (by rfl) ?_
  refine rs_aload_nS (pc := 0) dX5_spells_0 rfl ?_
  refine rs_callVS (as := []) (pc := 1) dX5_spells_1 mk_J0_length_8abf5 mlX5_159 in_J0_length_8abf5 se_J0_length_8abf5 rfl hj rfl rfl (Nat.le_of_ble_eq_true rfl) (c_length hj) ?_
  refine rs_aload_n (pc := 4) dX5_spells_4 rfl ?_
  refine rs_getf (pc := 5) dX5_spells_5 fX5_22 (mo_lt hrd (by decide)) hrd.2.1 rfl ?_
  refine rs_aload_n (pc := 8) dX5_spells_8 rfl ?_
  refine rs_getf (pc := 9) dX5_spells_9 fX5_19 (mo_lt hrd (by decide)) hrd.2.1 rfl ?_
  refine rs_isub (pc := 12) dX5_spells_12 ?_
  rw [h3, h2, nI_sub hab]
  refine rs_icmp_eq (tgt := 18) (pc := 13) dX5_spells_13 rfl (fun c_13 => ?_) (fun c_13 => ?_)
  · have hL : b - a = ai_sl.getD j 0 := (nI_inj (by omega) (by omega) c_13).symm
    refine rs_iconst (v := 0) (pc := 18) dX5_spells_18 rfl ?_
    refine wk_istn2 (pc := 19) dX5_spells_19 (by decide) rfl ?_
    exact l_X5_spells hj hrd htx hn h2 h3 hab hbn hL (ai_sl.getD j 0 + 1) 0 (by omega) (by omega) (fun k hk => absurd hk (by omega))
  · have hL : ¬ b - a = ai_sl.getD j 0 := fun z => c_13 (by rw [z])
    refine rs_iconst (v := 0) (pc := 16) dX5_spells_16 rfl ?_
    exact wk_zret (pc := 17) dX5_spells_17 rfl (Or.inl rfl) (by rw [if_neg (fun z => hL ((tx_spell hj).mp z).1)]) (rfl)
def tx_kw (j : Nat) : Nat := if j = 0 then 14 else if j = 1 then 15 else if j = 2 then 11 else if j = 3 then 10 else if j = 4 then 9 else 19
theorem dX5_keywordKind_0 : decode cX5_keywordKind 0 = .ok (.aload_n 0, 1) := by decide +kernel
theorem dX5_keywordKind_1 : decode cX5_keywordKind 1 = .ok (.ldc 116, 2) := by decide +kernel
theorem dX5_keywordKind_3 : decode cX5_keywordKind 3 = .ok (.invokevirtual 118, 3) := by decide +kernel
theorem dX5_keywordKind_6 : decode cX5_keywordKind 6 = .ok (.ifCond .eq 6, 3) := by decide +kernel
theorem dX5_keywordKind_9 : decode cX5_keywordKind 9 = .ok (.ldc 122, 2) := by decide +kernel
theorem dX5_keywordKind_11 : decode cX5_keywordKind 11 = .ok (.ireturn, 1) := by decide +kernel
theorem dX5_keywordKind_12 : decode cX5_keywordKind 12 = .ok (.aload_n 0, 1) := by decide +kernel
theorem dX5_keywordKind_13 : decode cX5_keywordKind 13 = .ok (.ldc 123, 2) := by decide +kernel
theorem dX5_keywordKind_15 : decode cX5_keywordKind 15 = .ok (.invokevirtual 118, 3) := by decide +kernel
theorem dX5_keywordKind_18 : decode cX5_keywordKind 18 = .ok (.ifCond .eq 6, 3) := by decide +kernel
theorem dX5_keywordKind_21 : decode cX5_keywordKind 21 = .ok (.ldc 125, 2) := by decide +kernel
theorem dX5_keywordKind_23 : decode cX5_keywordKind 23 = .ok (.ireturn, 1) := by decide +kernel
theorem dX5_keywordKind_24 : decode cX5_keywordKind 24 = .ok (.aload_n 0, 1) := by decide +kernel
theorem dX5_keywordKind_25 : decode cX5_keywordKind 25 = .ok (.ldc 126, 2) := by decide +kernel
theorem dX5_keywordKind_27 : decode cX5_keywordKind 27 = .ok (.invokevirtual 118, 3) := by decide +kernel
theorem dX5_keywordKind_30 : decode cX5_keywordKind 30 = .ok (.ifCond .eq 6, 3) := by decide +kernel
theorem dX5_keywordKind_33 : decode cX5_keywordKind 33 = .ok (.ldc 128, 2) := by decide +kernel
theorem dX5_keywordKind_35 : decode cX5_keywordKind 35 = .ok (.ireturn, 1) := by decide +kernel
theorem dX5_keywordKind_36 : decode cX5_keywordKind 36 = .ok (.aload_n 0, 1) := by decide +kernel
theorem dX5_keywordKind_37 : decode cX5_keywordKind 37 = .ok (.ldc 129, 2) := by decide +kernel
theorem dX5_keywordKind_39 : decode cX5_keywordKind 39 = .ok (.invokevirtual 118, 3) := by decide +kernel
theorem dX5_keywordKind_42 : decode cX5_keywordKind 42 = .ok (.ifCond .eq 6, 3) := by decide +kernel
theorem dX5_keywordKind_45 : decode cX5_keywordKind 45 = .ok (.ldc 131, 2) := by decide +kernel
theorem dX5_keywordKind_47 : decode cX5_keywordKind 47 = .ok (.ireturn, 1) := by decide +kernel
theorem dX5_keywordKind_48 : decode cX5_keywordKind 48 = .ok (.aload_n 0, 1) := by decide +kernel
theorem dX5_keywordKind_49 : decode cX5_keywordKind 49 = .ok (.ldc 132, 2) := by decide +kernel
theorem dX5_keywordKind_51 : decode cX5_keywordKind 51 = .ok (.invokevirtual 118, 3) := by decide +kernel
theorem dX5_keywordKind_54 : decode cX5_keywordKind 54 = .ok (.ifCond .eq 8, 3) := by decide +kernel
theorem dX5_keywordKind_57 : decode cX5_keywordKind 57 = .ok (.ldc 134, 2) := by decide +kernel
theorem dX5_keywordKind_59 : decode cX5_keywordKind 59 = .ok (.goto 5, 3) := by decide +kernel
theorem dX5_keywordKind_62 : decode cX5_keywordKind 62 = .ok (.ldc 25, 2) := by decide +kernel
theorem dX5_keywordKind_64 : decode cX5_keywordKind 64 = .ok (.ireturn, 1) := by decide +kernel
set_option maxRecDepth 100000 in
set_option maxHeartbeats 4000000 in
theorem c_X5_keywordKind {h : ai_H} {S : Md} {t : Nat → Nat} {n a b : Nat} (hrd : rd_at 13 h S) (htx : rd_tx t n h) (hn : S.1 1 = nI n) (h2 : S.1 2 = nI a) (h3 : S.1 3 = nI b) (hab : a ≤ b) (hbn : b ≤ n) : ai_Met MX5_keywordKind [.ref 16] h (some (.int (nI (tx_kc (tx_kw (tx_ix t a b)))))) h := by
  obtain ⟨hn4, hq_t, f, he_t, hf⟩ := id htx
  refine ai_met (ls := [.ref 16]) (by decide) (by simp [ai_en, Value.category]) (by rfl) ?_
  refine rs_aload_n (pc := 0) dX5_keywordKind_0 rfl ?_
  refine rs_ldcS (pc := 1) dX5_keywordKind_1 (j := 0) (tx := "lean") (by decide) ?_
  refine rs_callV (as := [_]) (pc := 3) dX5_keywordKind_3 mk_X5_spells mlX5_118 in_X5_spells se_X5_spells rfl (mo_lt hrd (by decide)) hrd.2.1 rfl rfl (Nat.le_of_ble_eq_true rfl) (c_X5_spells (j := 0) (by decide) hrd htx hn h2 h3 hab hbn) ?_
  refine rs_if_eq (tgt := 12) (pc := 6) dX5_keywordKind_6 rfl (fun c_6 => ?_) (fun c_6 => ?_)
  · have g0 : ¬ tx_ix t a b = 0 := fun z => absurd c_6 (by rw [if_pos z]; decide)
    refine rs_aload_n (pc := 12) dX5_keywordKind_12 rfl ?_
    refine rs_ldcS (pc := 13) dX5_keywordKind_13 (j := 1) (tx := "if") (by decide) ?_
    refine rs_callV (as := [_]) (pc := 15) dX5_keywordKind_15 mk_X5_spells mlX5_118 in_X5_spells se_X5_spells rfl (mo_lt hrd (by decide)) hrd.2.1 rfl rfl (Nat.le_of_ble_eq_true rfl) (c_X5_spells (j := 1) (by decide) hrd htx hn h2 h3 hab hbn) ?_
    refine rs_if_eq (tgt := 24) (pc := 18) dX5_keywordKind_18 rfl (fun c_18 => ?_) (fun c_18 => ?_)
    · have g1 : ¬ tx_ix t a b = 1 := fun z => absurd c_18 (by rw [if_pos z]; decide)
      refine rs_aload_n (pc := 24) dX5_keywordKind_24 rfl ?_
      refine rs_ldcS (pc := 25) dX5_keywordKind_25 (j := 2) (tx := "or") (by decide) ?_
      refine rs_callV (as := [_]) (pc := 27) dX5_keywordKind_27 mk_X5_spells mlX5_118 in_X5_spells se_X5_spells rfl (mo_lt hrd (by decide)) hrd.2.1 rfl rfl (Nat.le_of_ble_eq_true rfl) (c_X5_spells (j := 2) (by decide) hrd htx hn h2 h3 hab hbn) ?_
      refine rs_if_eq (tgt := 36) (pc := 30) dX5_keywordKind_30 rfl (fun c_30 => ?_) (fun c_30 => ?_)
      · have g2 : ¬ tx_ix t a b = 2 := fun z => absurd c_30 (by rw [if_pos z]; decide)
        refine rs_aload_n (pc := 36) dX5_keywordKind_36 rfl ?_
        refine rs_ldcS (pc := 37) dX5_keywordKind_37 (j := 3) (tx := "and") (by decide) ?_
        refine rs_callV (as := [_]) (pc := 39) dX5_keywordKind_39 mk_X5_spells mlX5_118 in_X5_spells se_X5_spells rfl (mo_lt hrd (by decide)) hrd.2.1 rfl rfl (Nat.le_of_ble_eq_true rfl) (c_X5_spells (j := 3) (by decide) hrd htx hn h2 h3 hab hbn) ?_
        refine rs_if_eq (tgt := 48) (pc := 42) dX5_keywordKind_42 rfl (fun c_42 => ?_) (fun c_42 => ?_)
        · have g3 : ¬ tx_ix t a b = 3 := fun z => absurd c_42 (by rw [if_pos z]; decide)
          refine rs_aload_n (pc := 48) dX5_keywordKind_48 rfl ?_
          refine rs_ldcS (pc := 49) dX5_keywordKind_49 (j := 4) (tx := "not") (by decide) ?_
          refine rs_callV (as := [_]) (pc := 51) dX5_keywordKind_51 mk_X5_spells mlX5_118 in_X5_spells se_X5_spells rfl (mo_lt hrd (by decide)) hrd.2.1 rfl rfl (Nat.le_of_ble_eq_true rfl) (c_X5_spells (j := 4) (by decide) hrd htx hn h2 h3 hab hbn) ?_
          refine rs_if_eq (tgt := 62) (pc := 54) dX5_keywordKind_54 rfl (fun c_54 => ?_) (fun c_54 => ?_)
          · have g4 : ¬ tx_ix t a b = 4 := fun z => absurd c_54 (by rw [if_pos z]; decide)
            refine rs_ldc (pc := 62) dX5_keywordKind_62 cnX5_25 ?_
            exact wk_iret (pc := 64) dX5_keywordKind_64 rfl (by unfold tx_kw; rw [if_neg g0, if_neg g1, if_neg g2, if_neg g3, if_neg g4]; rfl) (rfl)
          · have g4 : tx_ix t a b = 4 := Classical.byContradiction fun z => c_54 (if_neg z)
            refine rs_ldc (pc := 57) dX5_keywordKind_57 cnX5_134 ?_
            refine rs_goto (tgt := 64) (pc := 59) dX5_keywordKind_59 rfl ?_
            exact wk_iret (pc := 64) dX5_keywordKind_64 rfl (by unfold tx_kw; rw [if_neg g0, if_neg g1, if_neg g2, if_neg g3, if_pos g4]; rfl) (rfl)
        · have g3 : tx_ix t a b = 3 := Classical.byContradiction fun z => c_42 (if_neg z)
          refine rs_ldc (pc := 45) dX5_keywordKind_45 cnX5_131 ?_
          exact wk_iret (pc := 47) dX5_keywordKind_47 rfl (by unfold tx_kw; rw [if_neg g0, if_neg g1, if_neg g2, if_pos g3]; rfl) (rfl)
      · have g2 : tx_ix t a b = 2 := Classical.byContradiction fun z => c_30 (if_neg z)
        refine rs_ldc (pc := 33) dX5_keywordKind_33 cnX5_128 ?_
        exact wk_iret (pc := 35) dX5_keywordKind_35 rfl (by unfold tx_kw; rw [if_neg g0, if_neg g1, if_pos g2]; rfl) (rfl)
    · have g1 : tx_ix t a b = 1 := Classical.byContradiction fun z => c_18 (if_neg z)
      refine rs_ldc (pc := 21) dX5_keywordKind_21 cnX5_125 ?_
      exact wk_iret (pc := 23) dX5_keywordKind_23 rfl (by unfold tx_kw; rw [if_neg g0, if_pos g1]; rfl) (rfl)
  · have g0 : tx_ix t a b = 0 := Classical.byContradiction fun z => c_6 (if_neg z)
    refine rs_ldc (pc := 9) dX5_keywordKind_9 cnX5_122 ?_
    exact wk_iret (pc := 11) dX5_keywordKind_11 rfl (by unfold tx_kw; rw [if_pos g0]; rfl) (rfl)
theorem dX5_spelling_0 : decode cX5_spelling 0 = .ok (.iload_n 0, 1) := by decide +kernel
theorem dX5_spelling_1 : decode cX5_spelling 1 = .ok (.tableswitch 78 0 8 #[51, 54, 57, 60, 63, 66, 69, 72, 75], 51) := by decide +kernel
theorem dX5_spelling_52 : decode cX5_spelling 52 = .ok (.ldc 139, 2) := by decide +kernel
theorem dX5_spelling_54 : decode cX5_spelling 54 = .ok (.areturn, 1) := by decide +kernel
theorem dX5_spelling_55 : decode cX5_spelling 55 = .ok (.ldc 141, 2) := by decide +kernel
theorem dX5_spelling_57 : decode cX5_spelling 57 = .ok (.areturn, 1) := by decide +kernel
theorem dX5_spelling_58 : decode cX5_spelling 58 = .ok (.ldc 143, 2) := by decide +kernel
theorem dX5_spelling_60 : decode cX5_spelling 60 = .ok (.areturn, 1) := by decide +kernel
theorem dX5_spelling_61 : decode cX5_spelling 61 = .ok (.ldc 145, 2) := by decide +kernel
theorem dX5_spelling_63 : decode cX5_spelling 63 = .ok (.areturn, 1) := by decide +kernel
theorem dX5_spelling_64 : decode cX5_spelling 64 = .ok (.ldc 147, 2) := by decide +kernel
theorem dX5_spelling_66 : decode cX5_spelling 66 = .ok (.areturn, 1) := by decide +kernel
theorem dX5_spelling_67 : decode cX5_spelling 67 = .ok (.ldc 149, 2) := by decide +kernel
theorem dX5_spelling_69 : decode cX5_spelling 69 = .ok (.areturn, 1) := by decide +kernel
theorem dX5_spelling_70 : decode cX5_spelling 70 = .ok (.ldc 151, 2) := by decide +kernel
theorem dX5_spelling_72 : decode cX5_spelling 72 = .ok (.areturn, 1) := by decide +kernel
theorem dX5_spelling_73 : decode cX5_spelling 73 = .ok (.ldc 153, 2) := by decide +kernel
theorem dX5_spelling_75 : decode cX5_spelling 75 = .ok (.areturn, 1) := by decide +kernel
theorem dX5_spelling_76 : decode cX5_spelling 76 = .ok (.ldc 155, 2) := by decide +kernel
theorem dX5_spelling_78 : decode cX5_spelling 78 = .ok (.areturn, 1) := by decide +kernel
theorem dX5_spelling_79 : decode cX5_spelling 79 = .ok (.ldc 157, 2) := by decide +kernel
theorem dX5_spelling_81 : decode cX5_spelling 81 = .ok (.areturn, 1) := by decide +kernel
set_option maxRecDepth 100000 in
set_option maxHeartbeats 4000000 in
theorem c_X5_spelling {h : ai_H} {k : Nat} (hk : k < 10) : ai_Met MX5_spelling [.int (nI k)] h (some (.retAddr (5 + k))) h := by
  have hki := nI_toInt (show k < 2 ^ 31 by omega)
  refine ai_met (ls := [.int (nI k)]) (by decide) (by simp [ai_en, Value.category]) (by rfl) ?_
  refine rs_iload_n (pc := 0) dX5_spelling_0 rfl ?_
  by_cases e1_0 : (nI k) = 0
  · refine wk_tab 0 e1_0 (tgt := 52) (pc := 1) dX5_spelling_1 (by decide) (by decide) rfl rfl ?_
    refine rs_ldcS (pc := 52) dX5_spelling_52 (j := 5) (tx := "bright") (by decide) ?_
    exact wk_aret (pc := 54) dX5_spelling_54 rfl (Or.inr (Or.inr ⟨_, rfl⟩)) (by rw [tx_eq1 (a := k) (b := 0) (by omega) (by decide) rfl e1_0]) (rfl)
  by_cases e1_1 : (nI k) = 1
  · refine wk_tab 1 e1_1 (tgt := 55) (pc := 1) dX5_spelling_1 (by decide) (by decide) rfl rfl ?_
    refine rs_ldcS (pc := 55) dX5_spelling_55 (j := 6) (tx := "pace") (by decide) ?_
    exact wk_aret (pc := 57) dX5_spelling_57 rfl (Or.inr (Or.inr ⟨_, rfl⟩)) (by rw [tx_eq1 (a := k) (b := 1) (by omega) (by decide) rfl e1_1]) (rfl)
  by_cases e1_2 : (nI k) = 2
  · refine wk_tab 2 e1_2 (tgt := 58) (pc := 1) dX5_spelling_1 (by decide) (by decide) rfl rfl ?_
    refine rs_ldcS (pc := 58) dX5_spelling_58 (j := 7) (tx := "side") (by decide) ?_
    exact wk_aret (pc := 60) dX5_spelling_60 rfl (Or.inr (Or.inr ⟨_, rfl⟩)) (by rw [tx_eq1 (a := k) (b := 2) (by omega) (by decide) rfl e1_2]) (rfl)
  by_cases e1_3 : (nI k) = 3
  · refine wk_tab 3 e1_3 (tgt := 61) (pc := 1) dX5_spelling_1 (by decide) (by decide) rfl rfl ?_
    refine rs_ldcS (pc := 61) dX5_spelling_61 (j := 8) (tx := "star") (by decide) ?_
    exact wk_aret (pc := 63) dX5_spelling_63 rfl (Or.inr (Or.inr ⟨_, rfl⟩)) (by rw [tx_eq1 (a := k) (b := 3) (by omega) (by decide) rfl e1_3]) (rfl)
  by_cases e1_4 : (nI k) = 4
  · refine wk_tab 4 e1_4 (tgt := 64) (pc := 1) dX5_spelling_1 (by decide) (by decide) rfl rfl ?_
    refine rs_ldcS (pc := 64) dX5_spelling_64 (j := 9) (tx := "thread") (by decide) ?_
    exact wk_aret (pc := 66) dX5_spelling_66 rfl (Or.inr (Or.inr ⟨_, rfl⟩)) (by rw [tx_eq1 (a := k) (b := 4) (by omega) (by decide) rfl e1_4]) (rfl)
  by_cases e1_5 : (nI k) = 5
  · refine wk_tab 5 e1_5 (tgt := 67) (pc := 1) dX5_spelling_1 (by decide) (by decide) rfl rfl ?_
    refine rs_ldcS (pc := 67) dX5_spelling_67 (j := 10) (tx := "way") (by decide) ?_
    exact wk_aret (pc := 69) dX5_spelling_69 rfl (Or.inr (Or.inr ⟨_, rfl⟩)) (by rw [tx_eq1 (a := k) (b := 5) (by omega) (by decide) rfl e1_5]) (rfl)
  by_cases e1_6 : (nI k) = 6
  · refine wk_tab 6 e1_6 (tgt := 70) (pc := 1) dX5_spelling_1 (by decide) (by decide) rfl rfl ?_
    refine rs_ldcS (pc := 70) dX5_spelling_70 (j := 11) (tx := "week") (by decide) ?_
    exact wk_aret (pc := 72) dX5_spelling_72 rfl (Or.inr (Or.inr ⟨_, rfl⟩)) (by rw [tx_eq1 (a := k) (b := 6) (by omega) (by decide) rfl e1_6]) (rfl)
  by_cases e1_7 : (nI k) = 7
  · refine wk_tab 7 e1_7 (tgt := 73) (pc := 1) dX5_spelling_1 (by decide) (by decide) rfl rfl ?_
    refine rs_ldcS (pc := 73) dX5_spelling_73 (j := 12) (tx := "year") (by decide) ?_
    exact wk_aret (pc := 75) dX5_spelling_75 rfl (Or.inr (Or.inr ⟨_, rfl⟩)) (by rw [tx_eq1 (a := k) (b := 7) (by omega) (by decide) rfl e1_7]) (rfl)
  by_cases e1_8 : (nI k) = 8
  · refine wk_tab 8 e1_8 (tgt := 76) (pc := 1) dX5_spelling_1 (by decide) (by decide) rfl rfl ?_
    refine rs_ldcS (pc := 76) dX5_spelling_76 (j := 13) (tx := "house") (by decide) ?_
    exact wk_aret (pc := 78) dX5_spelling_78 rfl (Or.inr (Or.inr ⟨_, rfl⟩)) (by rw [tx_eq1 (a := k) (b := 8) (by omega) (by decide) rfl e1_8]) (rfl)
  have qe1_0 := i32_nek (n := 0) e1_0 (by decide)
  have qe1_1 := i32_nek (n := 1) e1_1 (by decide)
  have qe1_2 := i32_nek (n := 2) e1_2 (by decide)
  have qe1_3 := i32_nek (n := 3) e1_3 (by decide)
  have qe1_4 := i32_nek (n := 4) e1_4 (by decide)
  have qe1_5 := i32_nek (n := 5) e1_5 (by decide)
  have qe1_6 := i32_nek (n := 6) e1_6 (by decide)
  have qe1_7 := i32_nek (n := 7) e1_7 (by decide)
  have qe1_8 := i32_nek (n := 8) e1_8 (by decide)
  refine rs_tableOut (tgt := 79) (pc := 1) dX5_spelling_1 (by omega) rfl ?_
  refine rs_ldcS (pc := 79) dX5_spelling_79 (j := 14) (tx := "age") (by decide) ?_
  exact wk_aret (pc := 81) dX5_spelling_81 rfl (Or.inr (Or.inr ⟨_, rfl⟩)) (by
    have k9 : k = 9 := by
      have q0 := tx_eq2 (a := k) (b := 0) rfl e1_0
      have q1 := tx_eq2 (a := k) (b := 1) rfl e1_1
      have q2 := tx_eq2 (a := k) (b := 2) rfl e1_2
      have q3 := tx_eq2 (a := k) (b := 3) rfl e1_3
      have q4 := tx_eq2 (a := k) (b := 4) rfl e1_4
      have q5 := tx_eq2 (a := k) (b := 5) rfl e1_5
      have q6 := tx_eq2 (a := k) (b := 6) rfl e1_6
      have q7 := tx_eq2 (a := k) (b := 7) rfl e1_7
      have q8 := tx_eq2 (a := k) (b := 8) rfl e1_8
      omega
    rw [k9]) (rfl)
theorem dX5_wordOf_0 : decode cX5_wordOf 0 = .ok (.iconst 0, 1) := by decide +kernel
theorem dX5_wordOf_1 : decode cX5_wordOf 1 = .ok (.istore_n 1, 1) := by decide +kernel
theorem dX5_wordOf_2 : decode cX5_wordOf 2 = .ok (.iload_n 1, 1) := by decide +kernel
theorem dX5_wordOf_3 : decode cX5_wordOf 3 = .ok (.bipush 10, 2) := by decide +kernel
theorem dX5_wordOf_5 : decode cX5_wordOf 5 = .ok (.if_icmp .ge 22, 3) := by decide +kernel
theorem dX5_wordOf_8 : decode cX5_wordOf 8 = .ok (.aload_n 0, 1) := by decide +kernel
theorem dX5_wordOf_9 : decode cX5_wordOf 9 = .ok (.iload_n 1, 1) := by decide +kernel
theorem dX5_wordOf_10 : decode cX5_wordOf 10 = .ok (.invokestatic 135, 3) := by decide +kernel
theorem dX5_wordOf_13 : decode cX5_wordOf 13 = .ok (.invokevirtual 118, 3) := by decide +kernel
theorem dX5_wordOf_16 : decode cX5_wordOf 16 = .ok (.ifCond .eq 5, 3) := by decide +kernel
theorem dX5_wordOf_19 : decode cX5_wordOf 19 = .ok (.iload_n 1, 1) := by decide +kernel
theorem dX5_wordOf_20 : decode cX5_wordOf 20 = .ok (.ireturn, 1) := by decide +kernel
theorem dX5_wordOf_21 : decode cX5_wordOf 21 = .ok (.iinc 1 1, 3) := by decide +kernel
theorem dX5_wordOf_24 : decode cX5_wordOf 24 = .ok (.goto (-22), 3) := by decide +kernel
theorem dX5_wordOf_27 : decode cX5_wordOf 27 = .ok (.iconst (-1), 1) := by decide +kernel
theorem dX5_wordOf_28 : decode cX5_wordOf 28 = .ok (.ireturn, 1) := by decide +kernel
set_option maxRecDepth 100000 in
set_option maxHeartbeats 4000000 in
theorem l_X5_wordOf {h : ai_H} {S : Md} {t : Nat → Nat} {n a b : Nat} (hrd : rd_at 13 h S) (htx : rd_tx t n h) (hn : S.1 1 = nI n) (h2 : S.1 2 = nI a) (h3 : S.1 3 = nI b) (hab : a ≤ b) (hbn : b ≤ n) : ∀ (m i : Nat), i ≤ 10 → 11 ≤ i + m → (tx_ix t a b < 5 ∨ 5 + i ≤ tx_ix t a b) → ai_R MX5_wordOf 2 [.ref 16, .int (nI i)] [] h (some (.int (if 5 ≤ tx_ix t a b ∧ tx_ix t a b < 15 then nI (tx_ix t a b - 5) else -1))) h := by
  obtain ⟨hn4, hq_t, f, he_t, hf⟩ := id htx
  intro m
  induction m with
  | zero => intro i h1 h2 _; exact absurd h2 (by omega)
  | succ m ih =>
    intro i hi0 him hal
    have hle := tx_ix_le t a b
    refine rs_iload_n (pc := 2) dX5_wordOf_2 rfl ?_
    refine rs_bipush (v := 10) (pc := 3) dX5_wordOf_3 rfl ?_
    refine rs_icmp_ge (tgt := 27) (pc := 5) dX5_wordOf_5 rfl (fun c_5 => ?_) (fun c_5 => ?_)
    · have g1 : 10 ≤ i := tx_le1 (a := i) (b := 10) (by omega) (by decide) rfl c_5
      refine rs_iconst (v := -1) (pc := 27) dX5_wordOf_27 rfl ?_
      exact wk_iret (pc := 28) dX5_wordOf_28 rfl (by rw [if_neg (by omega)]) (rfl)
    · have g1 : i < 10 := tx_le2 (a := i) (b := 10) (by omega) (by decide) rfl c_5
      refine rs_aload_n (pc := 8) dX5_wordOf_8 rfl ?_
      refine rs_iload_n (pc := 9) dX5_wordOf_9 rfl ?_
      refine rs_callS (as := [_]) (pc := 10) dX5_wordOf_10 mk_X5_spelling mlX5_135 st_X5_spelling rfl rfl (Nat.le_of_ble_eq_true rfl) (c_X5_spelling g1) ?_
      refine rs_callV (as := [_]) (pc := 13) dX5_wordOf_13 mk_X5_spells mlX5_118 in_X5_spells se_X5_spells rfl (mo_lt hrd (by decide)) hrd.2.1 rfl rfl (Nat.le_of_ble_eq_true rfl) (c_X5_spells (j := 5 + i) (by omega) hrd htx hn h2 h3 hab hbn) ?_
      refine rs_if_eq (tgt := 21) (pc := 16) dX5_wordOf_16 rfl (fun c_16 => ?_) (fun c_16 => ?_)
      · have g2 : ¬ tx_ix t a b = 5 + i := fun z => absurd c_16 (by rw [if_pos z]; decide)
        refine wk_iinc1 (v := nI (i + 1)) (pc := 21) dX5_wordOf_21 (by decide) rfl (nI_1 i) ?_
        refine rs_goto (tgt := 2) (pc := 24) dX5_wordOf_24 rfl ?_
        exact ih (i + 1) (by omega) (by omega) (by omega)
      · have g2 : tx_ix t a b = 5 + i := Classical.byContradiction fun z => c_16 (if_neg z)
        refine rs_iload_n (pc := 19) dX5_wordOf_19 rfl ?_
        exact wk_iret (pc := 20) dX5_wordOf_20 rfl (by rw [if_pos (by omega), g2, show 5 + i - 5 = i by omega]) (rfl)
set_option maxRecDepth 100000 in
set_option maxHeartbeats 4000000 in
theorem c_X5_wordOf {h : ai_H} {S : Md} {t : Nat → Nat} {n a b : Nat} (hrd : rd_at 13 h S) (htx : rd_tx t n h) (hn : S.1 1 = nI n) (h2 : S.1 2 = nI a) (h3 : S.1 3 = nI b) (hab : a ≤ b) (hbn : b ≤ n) : ai_Met MX5_wordOf [.ref 16] h (some (.int (if 5 ≤ tx_ix t a b ∧ tx_ix t a b < 15 then nI (tx_ix t a b - 5) else -1))) h := by
  refine ai_met (ls := [.ref 16, .float 0]) (by decide) (by simp [ai_en, Value.category]) (by rfl) ?_
  refine rs_iconst (v := 0) (pc := 0) dX5_wordOf_0 rfl ?_
  refine wk_istn1 (pc := 1) dX5_wordOf_1 (by decide) rfl ?_
  exact l_X5_wordOf hrd htx hn h2 h3 hab hbn 11 0 (by omega) (by omega) (by omega)
theorem dX5_signKind_0 : decode cX5_signKind 0 = .ok (.iload_n 0, 1) := by decide +kernel
theorem dX5_signKind_1 : decode cX5_signKind 1 = .ok (.lookupswitch 128 #[(42, 98), (43, 92), (45, 95), (59, 83), (60, 104), (61, 101), (62, 116), (91, 86), (93, 89)], 83) := by decide +kernel
theorem dX5_signKind_84 : decode cX5_signKind 84 = .ok (.ldc 174, 2) := by decide +kernel
theorem dX5_signKind_86 : decode cX5_signKind 86 = .ok (.ireturn, 1) := by decide +kernel
theorem dX5_signKind_87 : decode cX5_signKind 87 = .ok (.ldc 175, 2) := by decide +kernel
theorem dX5_signKind_89 : decode cX5_signKind 89 = .ok (.ireturn, 1) := by decide +kernel
theorem dX5_signKind_90 : decode cX5_signKind 90 = .ok (.ldc 176, 2) := by decide +kernel
theorem dX5_signKind_92 : decode cX5_signKind 92 = .ok (.ireturn, 1) := by decide +kernel
theorem dX5_signKind_93 : decode cX5_signKind 93 = .ok (.ldc 177, 2) := by decide +kernel
theorem dX5_signKind_95 : decode cX5_signKind 95 = .ok (.ireturn, 1) := by decide +kernel
theorem dX5_signKind_96 : decode cX5_signKind 96 = .ok (.ldc 178, 2) := by decide +kernel
theorem dX5_signKind_98 : decode cX5_signKind 98 = .ok (.ireturn, 1) := by decide +kernel
theorem dX5_signKind_99 : decode cX5_signKind 99 = .ok (.ldc 179, 2) := by decide +kernel
theorem dX5_signKind_101 : decode cX5_signKind 101 = .ok (.ireturn, 1) := by decide +kernel
theorem dX5_signKind_102 : decode cX5_signKind 102 = .ok (.ldc 180, 2) := by decide +kernel
theorem dX5_signKind_104 : decode cX5_signKind 104 = .ok (.ireturn, 1) := by decide +kernel
theorem dX5_signKind_105 : decode cX5_signKind 105 = .ok (.iload_n 1, 1) := by decide +kernel
theorem dX5_signKind_106 : decode cX5_signKind 106 = .ok (.ifCond .eq 8, 3) := by decide +kernel
theorem dX5_signKind_109 : decode cX5_signKind 109 = .ok (.ldc 172, 2) := by decide +kernel
theorem dX5_signKind_111 : decode cX5_signKind 111 = .ok (.goto 5, 3) := by decide +kernel
theorem dX5_signKind_114 : decode cX5_signKind 114 = .ok (.ldc 181, 2) := by decide +kernel
theorem dX5_signKind_116 : decode cX5_signKind 116 = .ok (.ireturn, 1) := by decide +kernel
theorem dX5_signKind_117 : decode cX5_signKind 117 = .ok (.iload_n 1, 1) := by decide +kernel
theorem dX5_signKind_118 : decode cX5_signKind 118 = .ok (.ifCond .eq 8, 3) := by decide +kernel
theorem dX5_signKind_121 : decode cX5_signKind 121 = .ok (.ldc 173, 2) := by decide +kernel
theorem dX5_signKind_123 : decode cX5_signKind 123 = .ok (.goto 5, 3) := by decide +kernel
theorem dX5_signKind_126 : decode cX5_signKind 126 = .ok (.ldc 182, 2) := by decide +kernel
theorem dX5_signKind_128 : decode cX5_signKind 128 = .ok (.ireturn, 1) := by decide +kernel
theorem dX5_signKind_129 : decode cX5_signKind 129 = .ok (.ldc 25, 2) := by decide +kernel
theorem dX5_signKind_131 : decode cX5_signKind 131 = .ok (.ireturn, 1) := by decide +kernel
set_option maxRecDepth 100000 in
set_option maxHeartbeats 4000000 in
theorem c_X5_signKind {h : ai_H} {c d : Nat} (hc : c < 256) : ai_Met MX5_signKind [.int (nI c), .int (if d = 61 then 1 else 0)] h (some (.int (nI (tx_kc (tx_sk c d))))) h := by
  refine ai_met (ls := [.int (nI c), .int (if d = 61 then 1 else 0)]) (by decide) (by simp [ai_en, Value.category]) (by rfl) ?_
  refine rs_iload_n (pc := 0) dX5_signKind_0 rfl ?_
  by_cases e1_42 : (nI c) = 42
  · refine wk_look 42 e1_42 (off := 98) (tgt := 99) (pc := 1) dX5_signKind_1 (by decide) (by decide) rfl ?_
    refine rs_ldc (pc := 99) dX5_signKind_99 cnX5_179 ?_
    exact wk_iret (pc := 101) dX5_signKind_101 rfl (by rw [tx_eq1 (a := c) (b := 42) (by omega) (by decide) rfl e1_42]; rfl) (rfl)
  by_cases e1_43 : (nI c) = 43
  · refine wk_look 43 e1_43 (off := 92) (tgt := 93) (pc := 1) dX5_signKind_1 (by decide) (by decide) rfl ?_
    refine rs_ldc (pc := 93) dX5_signKind_93 cnX5_177 ?_
    exact wk_iret (pc := 95) dX5_signKind_95 rfl (by rw [tx_eq1 (a := c) (b := 43) (by omega) (by decide) rfl e1_43]; rfl) (rfl)
  by_cases e1_45 : (nI c) = 45
  · refine wk_look 45 e1_45 (off := 95) (tgt := 96) (pc := 1) dX5_signKind_1 (by decide) (by decide) rfl ?_
    refine rs_ldc (pc := 96) dX5_signKind_96 cnX5_178 ?_
    exact wk_iret (pc := 98) dX5_signKind_98 rfl (by rw [tx_eq1 (a := c) (b := 45) (by omega) (by decide) rfl e1_45]; rfl) (rfl)
  by_cases e1_59 : (nI c) = 59
  · refine wk_look 59 e1_59 (off := 83) (tgt := 84) (pc := 1) dX5_signKind_1 (by decide) (by decide) rfl ?_
    refine rs_ldc (pc := 84) dX5_signKind_84 cnX5_174 ?_
    exact wk_iret (pc := 86) dX5_signKind_86 rfl (by rw [tx_eq1 (a := c) (b := 59) (by omega) (by decide) rfl e1_59]; rfl) (rfl)
  by_cases e1_60 : (nI c) = 60
  · refine wk_look 60 e1_60 (off := 104) (tgt := 105) (pc := 1) dX5_signKind_1 (by decide) (by decide) rfl ?_
    refine rs_iload_n (pc := 105) dX5_signKind_105 rfl ?_
    refine rs_if_eq (tgt := 114) (pc := 106) dX5_signKind_106 rfl (fun c_106 => ?_) (fun c_106 => ?_)
    · have gd : ¬ d = 61 := fun z => absurd c_106 (by rw [if_pos z]; decide)
      refine rs_ldc (pc := 114) dX5_signKind_114 cnX5_181 ?_
      exact wk_iret (pc := 116) dX5_signKind_116 rfl (by rw [tx_eq1 (a := c) (b := 60) (by omega) (by decide) rfl e1_60, show tx_sk 60 d = if d = 61 then 5 else 4 from rfl, if_neg gd]; rfl) (rfl)
    · have gd : d = 61 := Classical.byContradiction fun z => c_106 (if_neg z)
      refine rs_ldc (pc := 109) dX5_signKind_109 cnX5_172 ?_
      refine rs_goto (tgt := 116) (pc := 111) dX5_signKind_111 rfl ?_
      exact wk_iret (pc := 116) dX5_signKind_116 rfl (by rw [tx_eq1 (a := c) (b := 60) (by omega) (by decide) rfl e1_60, show tx_sk 60 d = if d = 61 then 5 else 4 from rfl, if_pos gd]; rfl) (rfl)
  by_cases e1_61 : (nI c) = 61
  · refine wk_look 61 e1_61 (off := 101) (tgt := 102) (pc := 1) dX5_signKind_1 (by decide) (by decide) rfl ?_
    refine rs_ldc (pc := 102) dX5_signKind_102 cnX5_180 ?_
    exact wk_iret (pc := 104) dX5_signKind_104 rfl (by rw [tx_eq1 (a := c) (b := 61) (by omega) (by decide) rfl e1_61]; rfl) (rfl)
  by_cases e1_62 : (nI c) = 62
  · refine wk_look 62 e1_62 (off := 116) (tgt := 117) (pc := 1) dX5_signKind_1 (by decide) (by decide) rfl ?_
    refine rs_iload_n (pc := 117) dX5_signKind_117 rfl ?_
    refine rs_if_eq (tgt := 126) (pc := 118) dX5_signKind_118 rfl (fun c_118 => ?_) (fun c_118 => ?_)
    · have gd : ¬ d = 61 := fun z => absurd c_118 (by rw [if_pos z]; decide)
      refine rs_ldc (pc := 126) dX5_signKind_126 cnX5_182 ?_
      exact wk_iret (pc := 128) dX5_signKind_128 rfl (by rw [tx_eq1 (a := c) (b := 62) (by omega) (by decide) rfl e1_62, show tx_sk 62 d = if d = 61 then 7 else 8 from rfl, if_neg gd]; rfl) (rfl)
    · have gd : d = 61 := Classical.byContradiction fun z => c_118 (if_neg z)
      refine rs_ldc (pc := 121) dX5_signKind_121 cnX5_173 ?_
      refine rs_goto (tgt := 128) (pc := 123) dX5_signKind_123 rfl ?_
      exact wk_iret (pc := 128) dX5_signKind_128 rfl (by rw [tx_eq1 (a := c) (b := 62) (by omega) (by decide) rfl e1_62, show tx_sk 62 d = if d = 61 then 7 else 8 from rfl, if_pos gd]; rfl) (rfl)
  by_cases e1_91 : (nI c) = 91
  · refine wk_look 91 e1_91 (off := 86) (tgt := 87) (pc := 1) dX5_signKind_1 (by decide) (by decide) rfl ?_
    refine rs_ldc (pc := 87) dX5_signKind_87 cnX5_175 ?_
    exact wk_iret (pc := 89) dX5_signKind_89 rfl (by rw [tx_eq1 (a := c) (b := 91) (by omega) (by decide) rfl e1_91]; rfl) (rfl)
  by_cases e1_93 : (nI c) = 93
  · refine wk_look 93 e1_93 (off := 89) (tgt := 90) (pc := 1) dX5_signKind_1 (by decide) (by decide) rfl ?_
    refine rs_ldc (pc := 90) dX5_signKind_90 cnX5_176 ?_
    exact wk_iret (pc := 92) dX5_signKind_92 rfl (by rw [tx_eq1 (a := c) (b := 93) (by omega) (by decide) rfl e1_93]; rfl) (rfl)
  have qe1_42 := i32_nek (n := 42) e1_42 (by decide)
  have qe1_43 := i32_nek (n := 43) e1_43 (by decide)
  have qe1_45 := i32_nek (n := 45) e1_45 (by decide)
  have qe1_59 := i32_nek (n := 59) e1_59 (by decide)
  have qe1_60 := i32_nek (n := 60) e1_60 (by decide)
  have qe1_61 := i32_nek (n := 61) e1_61 (by decide)
  have qe1_62 := i32_nek (n := 62) e1_62 (by decide)
  have qe1_91 := i32_nek (n := 91) e1_91 (by decide)
  have qe1_93 := i32_nek (n := 93) e1_93 (by decide)
  refine rs_lookup (off := 128) (tgt := 129) (pc := 1) dX5_signKind_1 (by decide) (by simp [Op.lookupswitch.offset, Ne.symm qe1_42, qe1_42, Ne.symm qe1_43, qe1_43, Ne.symm qe1_45, qe1_45, Ne.symm qe1_59, qe1_59, Ne.symm qe1_60, qe1_60, Ne.symm qe1_61, qe1_61, Ne.symm qe1_62, qe1_62, Ne.symm qe1_91, qe1_91, Ne.symm qe1_93, qe1_93]) rfl ?_
  refine rs_ldc (pc := 129) dX5_signKind_129 cnX5_25 ?_
  exact wk_iret (pc := 131) dX5_signKind_131 rfl (by
    unfold tx_sk
    rw [if_neg (tx_eq2 (b := 59) rfl e1_59), if_neg (tx_eq2 (b := 91) rfl e1_91), if_neg (tx_eq2 (b := 93) rfl e1_93), if_neg (tx_eq2 (b := 43) rfl e1_43), if_neg (tx_eq2 (b := 45) rfl e1_45), if_neg (tx_eq2 (b := 42) rfl e1_42), if_neg (tx_eq2 (b := 61) rfl e1_61), if_neg (tx_eq2 (b := 60) rfl e1_60), if_neg (tx_eq2 (b := 62) rfl e1_62)]
    rfl) (rfl)
