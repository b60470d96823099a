/-! 25: Meetings (walks laid by wip/whole/p25.py) -/
def mt_row : Nat → Option Nat := fun i => if i < 256 then some (36 + i) else none
/-- the meetings: T tells of each ordered pair -/
def mt_at (h : ai_H) (T : Nat → Ty) : Prop := 291 < h.1 ∧ h.2.2 33 = .inr (4, [.ref 34, .ref 35]) ∧ h.2.2 34 = .inl (4, 256, .inr (.inr (.inr (.inr mt_row)))) ∧ h.2.2 35 = ty_cell (0, 0, 0, 0) ∧ ∀ i, i < 256 → h.2.2 (36 + i) = ty_cell (T i)
theorem mt_lt {h : ai_H} {T : Nat → Ty} {j : Nat} (hmt : mt_at h T) (hj : j ≤ 291) : j < h.1 := Nat.lt_of_le_of_lt hj hmt.1
theorem mt_keep {h g : ai_H} {T : Nat → Ty} (hmt : mt_at h T) (m : g.1 = h.1) (o : ∀ j, 33 ≤ j → j ≤ 291 → g.2.2 j = h.2.2 j) : mt_at g T :=
  ⟨by rw [m]; exact hmt.1, (o _ (by decide) (by decide)).trans hmt.2.1, (o _ (by decide) (by decide)).trans hmt.2.2.1, (o _ (by decide) (by decide)).trans hmt.2.2.2.1, fun i hi => (o _ (by omega) (by omega)).trans (hmt.2.2.2.2 i hi)⟩
theorem mt_upd {h g : ai_H} {T : Nat → Ty} {k : Nat} {t : Ty} (hmt : mt_at h T) (hk : k < 256) (e : g = ai_set h (36 + k) (ty_cell t)) : mt_at g (va_up T k t) := by
  obtain ⟨m, s, q, o⟩ := ai_e1 e
  refine ⟨by rw [m]; exact hmt.1, (o _ (by omega)).trans hmt.2.1, (o _ (by omega)).trans hmt.2.2.1, (o _ (by omega)).trans hmt.2.2.2.1, fun i hi => ?_⟩
  by_cases hik : i = k
  · subst hik; rw [q]; simp [va_up]
  · rw [o _ (by omega), hmt.2.2.2.2 i hi]; simp [va_up, hik]
theorem mt_row_at {k : Nat} (hk : k < 256) : mt_row k = some (36 + k) := by unfold mt_row; rw [if_pos hk]
/-- Tally.add and clear at a tally of the meetings -/
theorem c_mt_add {h : ai_H} {T : Nat → Ty} (hmt : mt_at h T) {k : Nat} (hk : k < 256) (x : Int64) : ai_QM MX9_add [.ref (36 + k), .long x] h (fun r g => r = none ∧ xm h g ∧ mt_at g (va_up T k (ty_add (T k) x)) ∧ ∀ j, (j < 33 ∨ 291 < j) → g.2.2 j = h.2.2 j) :=
  ⟨none, ai_set h (36 + k) (ty_cell (ty_add (T k) x)), ⟨rfl, ⟨rfl, rfl, fun j hj => ai_set_ne (by omega)⟩, mt_upd hmt hk rfl, fun j hj => ai_set_ne (by omega)⟩, c_X9_add (mt_lt hmt (by omega)) (hmt.2.2.2.2 k hk) x⟩
theorem c_mt_clear {h : ai_H} {T : Nat → Ty} (hmt : mt_at h T) {k : Nat} (hk : k < 256) : ai_QM MX9_clear [.ref (36 + k)] h (fun r g => r = none ∧ xm h g ∧ mt_at g (va_up T k (0, 0, 0, 0)) ∧ ∀ j, (j < 33 ∨ 291 < j) → g.2.2 j = h.2.2 j) :=
  ⟨none, ai_set h (36 + k) (ty_cell (0, 0, 0, 0)), ⟨rfl, ⟨rfl, rfl, fun j hj => ai_set_ne (by omega)⟩, mt_upd hmt hk rfl, fun j hj => ai_set_ne (by omega)⟩, c_X9_clear (mt_lt hmt (by omega)) (hmt.2.2.2.2 k hk)⟩
theorem dX4_of_0 : decode cX4_of 0 = .ok (.iload_n 1, 1) := by decide +kernel
theorem dX4_of_1 : decode cX4_of 1 = .ok (.ifCond .lt 23, 3) := by decide +kernel
theorem dX4_of_4 : decode cX4_of 4 = .ok (.iload_n 1, 1) := by decide +kernel
theorem dX4_of_5 : decode cX4_of 5 = .ok (.bipush 16, 2) := by decide +kernel
theorem dX4_of_7 : decode cX4_of 7 = .ok (.if_icmp .ge 17, 3) := by decide +kernel
theorem dX4_of_10 : decode cX4_of 10 = .ok (.iload_n 2, 1) := by decide +kernel
theorem dX4_of_11 : decode cX4_of 11 = .ok (.ifCond .lt 13, 3) := by decide +kernel
theorem dX4_of_14 : decode cX4_of 14 = .ok (.iload_n 2, 1) := by decide +kernel
theorem dX4_of_15 : decode cX4_of 15 = .ok (.bipush 16, 2) := by decide +kernel
theorem dX4_of_17 : decode cX4_of 17 = .ok (.if_icmp .ge 7, 3) := by decide +kernel
theorem dX4_of_20 : decode cX4_of 20 = .ok (.iconst 1, 1) := by decide +kernel
theorem dX4_of_21 : decode cX4_of 21 = .ok (.goto 4, 3) := by decide +kernel
theorem dX4_of_24 : decode cX4_of 24 = .ok (.iconst 0, 1) := by decide +kernel
theorem dX4_of_25 : decode cX4_of 25 = .ok (.istore_n 3, 1) := by decide +kernel
theorem dX4_of_26 : decode cX4_of 26 = .ok (.iload_n 3, 1) := by decide +kernel
theorem dX4_of_27 : decode cX4_of 27 = .ok (.ifCond .eq 17, 3) := by decide +kernel
theorem dX4_of_30 : decode cX4_of 30 = .ok (.aload_n 0, 1) := by decide +kernel
theorem dX4_of_31 : decode cX4_of 31 = .ok (.getfield 11, 3) := by decide +kernel
theorem dX4_of_34 : decode cX4_of 34 = .ok (.iload_n 1, 1) := by decide +kernel
theorem dX4_of_35 : decode cX4_of 35 = .ok (.bipush 16, 2) := by decide +kernel
theorem dX4_of_37 : decode cX4_of 37 = .ok (.imul, 1) := by decide +kernel
theorem dX4_of_38 : decode cX4_of 38 = .ok (.iload_n 2, 1) := by decide +kernel
theorem dX4_of_39 : decode cX4_of 39 = .ok (.iadd, 1) := by decide +kernel
theorem dX4_of_40 : decode cX4_of 40 = .ok (.aaload, 1) := by decide +kernel
theorem dX4_of_41 : decode cX4_of 41 = .ok (.goto 7, 3) := by decide +kernel
theorem dX4_of_44 : decode cX4_of 44 = .ok (.aload_n 0, 1) := by decide +kernel
theorem dX4_of_45 : decode cX4_of 45 = .ok (.getfield 18, 3) := by decide +kernel
theorem dX4_of_48 : decode cX4_of 48 = .ok (.areturn, 1) := by decide +kernel
set_option maxRecDepth 100000 in
set_option maxHeartbeats 4000000 in
theorem c_X4_of {h : ai_H} {T : Nat → Ty} (hmt : mt_at h T) {x y : Nat} (hx : x < 16) (hy : y < 16) : ai_Met MX4_of [.ref 33, .int (nI x), .int (nI y)] h (some (.ref (36 + (x * 16 + y)))) h := by
  refine ai_met (ls := [.ref 33, .int (nI x), .int (nI y), .float 0]) (by decide) (by simp [ai_en, Value.category]) (by rfl) ?_
  refine rs_iload_n (pc := 0) dX4_of_0 rfl ?_
  refine rs_if_lt (tgt := 24) (pc := 1) dX4_of_1 rfl (fun c_1 => absurd c_1 (nI_pos (by omega))) (fun c_1 => ?_)
  refine rs_iload_n (pc := 4) dX4_of_4 rfl ?_
  refine rs_bipush (v := 16) (pc := 5) dX4_of_5 rfl ?_
  refine rs_icmp_ge (tgt := 24) (pc := 7) dX4_of_7 rfl (fun c_7 => absurd c_7 (nI_ge (b := 16) hx (by decide))) (fun c_7 => ?_)
  refine rs_iload_n (pc := 10) dX4_of_10 rfl ?_
  refine rs_if_lt (tgt := 24) (pc := 11) dX4_of_11 rfl (fun c_11 => absurd c_11 (nI_pos (by omega))) (fun c_11 => ?_)
  refine rs_iload_n (pc := 14) dX4_of_14 rfl ?_
  refine rs_bipush (v := 16) (pc := 15) dX4_of_15 rfl ?_
  refine rs_icmp_ge (tgt := 24) (pc := 17) dX4_of_17 rfl (fun c_17 => absurd c_17 (nI_ge (b := 16) hy (by decide))) (fun c_17 => ?_)
  refine rs_iconst (v := 1) (pc := 20) dX4_of_20 rfl ?_
  refine rs_goto (tgt := 25) (pc := 21) dX4_of_21 rfl ?_
  refine wk_istn3 (pc := 25) dX4_of_25 (by decide) rfl ?_
  refine rs_iload_n (pc := 26) dX4_of_26 rfl ?_
  refine rs_if_eq (tgt := 44) (pc := 27) dX4_of_27 rfl (fun c_27 => absurd c_27 (by decide)) (fun c_27 => ?_)
  refine rs_aload_n (pc := 30) dX4_of_30 rfl ?_
  refine rs_getf (pc := 31) dX4_of_31 fX4_11 (mt_lt hmt (by decide)) hmt.2.1 rfl ?_
  refine rs_iload_n (pc := 34) dX4_of_34 rfl ?_
  refine rs_bipush (v := 16) (pc := 35) dX4_of_35 rfl ?_
  refine rs_imul (pc := 37) dX4_of_37 ?_
  refine rs_iload_n (pc := 38) dX4_of_38 rfl ?_
  refine rs_iadd (pc := 39) dX4_of_39 ?_
  rw [show nI x * 16 = nI (x * 16) from pk_mul x 16, nI_add]
  refine rs_aald (pc := 40) dX4_of_40 (fun _ => rfl) (mt_lt hmt (by decide)) hmt.2.2.1 (vp_in_nI (n := x * 16 + y) (N := 256) (by omega) (by decide)) ?_
  rw [nI_clamp (show x * 16 + y < 2 ^ 31 by omega), mt_row_at (show x * 16 + y < 256 by omega)]
  show ai_R MX4_of 41 [.ref 33, .int (nI x), .int (nI y), .int 1] [.ref (36 + (x * 16 + y))] h _ _
  refine rs_goto (tgt := 48) (pc := 41) dX4_of_41 rfl ?_
  exact wk_aret (pc := 48) dX4_of_48 rfl (Or.inr (Or.inl ⟨_, rfl⟩)) (rfl) (rfl)
def mt_met (T : Nat → Ty) (x y : Nat) : Int32 := if (T (x * 16 + y)).1 ≤ 0 then 0 else 1
def mt_wid (T : Nat → Ty) (x y : Nat) : Int64 := if (T (x * 16 + y)).1 = 0 then 0 else (T (x * 16 + y)).2.2.2 - (T (x * 16 + y)).2.2.1 + ((1000 + (T (x * 16 + y)).1 - 1) / (T (x * 16 + y)).1).toInt64
theorem dX4_areMet_0 : decode cX4_areMet 0 = .ok (.aload_n 0, 1) := by decide +kernel
theorem dX4_areMet_1 : decode cX4_areMet 1 = .ok (.iload_n 1, 1) := by decide +kernel
theorem dX4_areMet_2 : decode cX4_areMet 2 = .ok (.iload_n 2, 1) := by decide +kernel
theorem dX4_areMet_3 : decode cX4_areMet 3 = .ok (.invokevirtual 43, 3) := by decide +kernel
theorem dX4_areMet_6 : decode cX4_areMet 6 = .ok (.getfield 55, 3) := by decide +kernel
theorem dX4_areMet_9 : decode cX4_areMet 9 = .ok (.ifCond .le 7, 3) := by decide +kernel
theorem dX4_areMet_12 : decode cX4_areMet 12 = .ok (.iconst 1, 1) := by decide +kernel
theorem dX4_areMet_13 : decode cX4_areMet 13 = .ok (.goto 4, 3) := by decide +kernel
theorem dX4_areMet_16 : decode cX4_areMet 16 = .ok (.iconst 0, 1) := by decide +kernel
theorem dX4_areMet_17 : decode cX4_areMet 17 = .ok (.ireturn, 1) := by decide +kernel
set_option maxRecDepth 100000 in
set_option maxHeartbeats 4000000 in
theorem c_X4_areMet {h : ai_H} {T : Nat → Ty} (hmt : mt_at h T) {x y : Nat} (hx : x < 16) (hy : y < 16) : ai_Met MX4_areMet [.ref 33, .int (nI x), .int (nI y)] h (some (.int (mt_met T x y))) h := by
  refine ai_met (ls := [.ref 33, .int (nI x), .int (nI y)]) (by decide) (by simp [ai_en, Value.category]) (by rfl) ?_
  refine rs_aload_n (pc := 0) dX4_areMet_0 rfl ?_
  refine rs_iload_n (pc := 1) dX4_areMet_1 rfl ?_
  refine rs_iload_n (pc := 2) dX4_areMet_2 rfl ?_
  refine rs_callV (as := [_, _]) (pc := 3) dX4_areMet_3 mk_X4_of mlX4_43 in_X4_of se_X4_of rfl (mt_lt hmt (by decide)) hmt.2.1 rfl rfl (Nat.le_of_ble_eq_true rfl) (c_X4_of hmt hx hy) ?_
  refine rs_getf (pc := 6) dX4_areMet_6 fX4_55 (mt_lt hmt (by omega)) (hmt.2.2.2.2 (x * 16 + y) (by omega)) rfl ?_
  refine rs_if_le (tgt := 16) (pc := 9) dX4_areMet_9 rfl (fun c_9 => ?_) (fun c_9 => ?_)
  · refine rs_iconst (v := 0) (pc := 16) dX4_areMet_16 rfl ?_
    exact wk_zret (pc := 17) dX4_areMet_17 rfl (Or.inl rfl) (by simp [mt_met, c_9]) (rfl)
  · refine rs_iconst (v := 1) (pc := 12) dX4_areMet_12 rfl ?_
    refine rs_goto (tgt := 17) (pc := 13) dX4_areMet_13 rfl ?_
    exact wk_zret (pc := 17) dX4_areMet_17 rfl (Or.inr rfl) (by simp [mt_met, c_9]) (rfl)
theorem dX4_width_0 : decode cX4_width 0 = .ok (.aload_n 0, 1) := by decide +kernel
theorem dX4_width_1 : decode cX4_width 1 = .ok (.iload_n 1, 1) := by decide +kernel
theorem dX4_width_2 : decode cX4_width 2 = .ok (.iload_n 2, 1) := by decide +kernel
theorem dX4_width_3 : decode cX4_width 3 = .ok (.invokevirtual 43, 3) := by decide +kernel
theorem dX4_width_6 : decode cX4_width 6 = .ok (.astore_n 3, 1) := by decide +kernel
theorem dX4_width_7 : decode cX4_width 7 = .ok (.aload_n 3, 1) := by decide +kernel
theorem dX4_width_8 : decode cX4_width 8 = .ok (.getfield 55, 3) := by decide +kernel
theorem dX4_width_11 : decode cX4_width 11 = .ok (.ifCond .ne 7, 3) := by decide +kernel
theorem dX4_width_14 : decode cX4_width 14 = .ok (.lconst 0, 1) := by decide +kernel
theorem dX4_width_15 : decode cX4_width 15 = .ok (.goto 24, 3) := by decide +kernel
theorem dX4_width_18 : decode cX4_width 18 = .ok (.aload_n 3, 1) := by decide +kernel
theorem dX4_width_19 : decode cX4_width 19 = .ok (.invokevirtual 57, 3) := by decide +kernel
theorem dX4_width_22 : decode cX4_width 22 = .ok (.sipush 1000, 3) := by decide +kernel
theorem dX4_width_25 : decode cX4_width 25 = .ok (.aload_n 3, 1) := by decide +kernel
theorem dX4_width_26 : decode cX4_width 26 = .ok (.getfield 55, 3) := by decide +kernel
theorem dX4_width_29 : decode cX4_width 29 = .ok (.iadd, 1) := by decide +kernel
theorem dX4_width_30 : decode cX4_width 30 = .ok (.iconst 1, 1) := by decide +kernel
theorem dX4_width_31 : decode cX4_width 31 = .ok (.isub, 1) := by decide +kernel
theorem dX4_width_32 : decode cX4_width 32 = .ok (.aload_n 3, 1) := by decide +kernel
theorem dX4_width_33 : decode cX4_width 33 = .ok (.getfield 55, 3) := by decide +kernel
theorem dX4_width_36 : decode cX4_width 36 = .ok (.idiv, 1) := by decide +kernel
theorem dX4_width_37 : decode cX4_width 37 = .ok (.i2l, 1) := by decide +kernel
theorem dX4_width_38 : decode cX4_width 38 = .ok (.ladd, 1) := by decide +kernel
theorem dX4_width_39 : decode cX4_width 39 = .ok (.lreturn, 1) := by decide +kernel
set_option maxRecDepth 100000 in
set_option maxHeartbeats 4000000 in
theorem c_X4_width {h : ai_H} {T : Nat → Ty} (hmt : mt_at h T) {x y : Nat} (hx : x < 16) (hy : y < 16) : ai_Met MX4_width [.ref 33, .int (nI x), .int (nI y)] h (some (.long (mt_wid T x y))) h := by
  refine ai_met (ls := [.ref 33, .int (nI x), .int (nI y), .float 0]) (by decide) (by simp [ai_en, Value.category]) (by rfl) ?_
  refine rs_aload_n (pc := 0) dX4_width_0 rfl ?_
  refine rs_iload_n (pc := 1) dX4_width_1 rfl ?_
  refine rs_iload_n (pc := 2) dX4_width_2 rfl ?_
  refine rs_callV (as := [_, _]) (pc := 3) dX4_width_3 mk_X4_of mlX4_43 in_X4_of se_X4_of rfl (mt_lt hmt (by decide)) hmt.2.1 rfl rfl (Nat.le_of_ble_eq_true rfl) (c_X4_of hmt hx hy) ?_
  refine wk_astn3 (pc := 6) dX4_width_6 (by decide) rfl ?_
  refine rs_aload_n (pc := 7) dX4_width_7 rfl ?_
  refine rs_getf (pc := 8) dX4_width_8 fX4_55 (mt_lt hmt (by omega)) (hmt.2.2.2.2 (x * 16 + y) (by omega)) rfl ?_
  refine rs_if_ne (tgt := 18) (pc := 11) dX4_width_11 rfl (fun c_11 => ?_) (fun c_11 => ?_)
  · refine rs_aload_n (pc := 18) dX4_width_18 rfl ?_
    refine rs_callV (as := []) (pc := 19) dX4_width_19 mk_X9_span mlX4_57 in_X9_span se_X9_span rfl (mt_lt hmt (by omega)) (hmt.2.2.2.2 (x * 16 + y) (by omega)) rfl rfl (Nat.le_of_ble_eq_true rfl) (c_X9_span (mt_lt hmt (by omega)) (hmt.2.2.2.2 (x * 16 + y) (by omega))) ?_
    refine rs_sipush (v := 1000) (pc := 22) dX4_width_22 rfl ?_
    refine rs_aload_n (pc := 25) dX4_width_25 rfl ?_
    refine rs_getf (pc := 26) dX4_width_26 fX4_55 (mt_lt hmt (by omega)) (hmt.2.2.2.2 (x * 16 + y) (by omega)) rfl ?_
    refine rs_iadd (pc := 29) dX4_width_29 ?_
    refine rs_iconst (v := 1) (pc := 30) dX4_width_30 rfl ?_
    refine rs_isub (pc := 31) dX4_width_31 ?_
    refine rs_aload_n (pc := 32) dX4_width_32 rfl ?_
    refine rs_getf (pc := 33) dX4_width_33 fX4_55 (mt_lt hmt (by omega)) (hmt.2.2.2.2 (x * 16 + y) (by omega)) rfl ?_
    refine rs_idiv (pc := 36) dX4_width_36 c_11 ?_
    refine rs_i2l (pc := 37) dX4_width_37 ?_
    refine rs_ladd (pc := 38) dX4_width_38 ?_
    exact wk_lret (pc := 39) dX4_width_39 rfl (by simp [mt_wid, c_11]) (rfl)
  · refine rs_lconst (v := 0) (pc := 14) dX4_width_14 rfl ?_
    refine rs_goto (tgt := 39) (pc := 15) dX4_width_15 rfl ?_
    exact wk_lret (pc := 39) dX4_width_39 rfl (by simp [mt_wid, c_11]) (rfl)
/-- one cell's meeting of the pair k -/
def mc_p (S : Md) (c k : Nat) : Bool := decide (¬ cl_many S (nI c) (nI (k / 16)) = 0 ∧ ¬ k % 16 = k / 16 ∧ 0 < cl_many S (nI c) (nI (k % 16)))
def mc_d (S : Md) (c k : Nat) : Int64 := cl_diff S (nI c) (nI (k / 16)) (nI (k % 16))
/-- the tallies when the pairs below p have been measured in cell c -/
def mc_t (S : Md) (c : Nat) (T : Nat → Ty) (p : Nat) : Nat → Ty := fun k => if k < p ∧ mc_p S c k = true then ty_add (T k) (mc_d S c k) else T k
theorem mc_no {S : Md} {c : Nat} {T : Nat → Ty} {p q : Nat} (hpq : p ≤ q) (h : ∀ k, p ≤ k → k < q → ¬ mc_p S c k = true) : mc_t S c T q = mc_t S c T p := by
  funext k
  unfold mc_t
  by_cases h1 : k < p
  · by_cases h2 : mc_p S c k = true
    · rw [if_pos ⟨by omega, h2⟩, if_pos ⟨h1, h2⟩]
    · rw [if_neg (fun z => h2 z.2), if_neg (fun z => h2 z.2)]
  · have h3 : ¬ (k < p ∧ mc_p S c k = true) := fun z => h1 z.1
    have h4 : ¬ (k < q ∧ mc_p S c k = true) := fun z => h k (by omega) z.1 z.2
    rw [if_neg h3, if_neg h4]
theorem mc_yes {S : Md} {c : Nat} {T : Nat → Ty} {p : Nat} (h : mc_p S c p = true) : va_up (mc_t S c T p) p (ty_add (mc_t S c T p p) (mc_d S c p)) = mc_t S c T (p + 1) := by
  have e : mc_t S c T p p = T p := by unfold mc_t; rw [if_neg (fun z => Nat.lt_irrefl _ z.1)]
  funext k
  by_cases hk : k = p
  · subst hk
    rw [e]
    unfold mc_t va_up
    rw [if_pos rfl, if_pos ⟨Nat.lt_succ_self k, h⟩]
  · unfold va_up
    rw [if_neg hk]
    unfold mc_t
    by_cases h2 : mc_p S c k = true
    · by_cases h3 : k < p
      · rw [if_pos ⟨h3, h2⟩, if_pos ⟨by omega, h2⟩]
      · rw [if_neg (fun z => h3 z.1), if_neg (fun z => h3 (by omega))]
    · rw [if_neg (fun z => h2 z.2), if_neg (fun z => h2 z.2)]
theorem dv {a b : Nat} (hb : b < 16) : (a * 16 + b) / 16 = a ∧ (a * 16 + b) % 16 = b := by omega
theorem dX4_measureCell_0 : decode cX4_measureCell 0 = .ok (.iconst 0, 1) := by decide +kernel
theorem dX4_measureCell_1 : decode cX4_measureCell 1 = .ok (.istore_n 3, 1) := by decide +kernel
theorem dX4_measureCell_2 : decode cX4_measureCell 2 = .ok (.iload_n 3, 1) := by decide +kernel
theorem dX4_measureCell_3 : decode cX4_measureCell 3 = .ok (.bipush 16, 2) := by decide +kernel
theorem dX4_measureCell_5 : decode cX4_measureCell 5 = .ok (.if_icmp .ge 71, 3) := by decide +kernel
theorem dX4_measureCell_8 : decode cX4_measureCell 8 = .ok (.aload_n 1, 1) := by decide +kernel
theorem dX4_measureCell_9 : decode cX4_measureCell 9 = .ok (.iload_n 2, 1) := by decide +kernel
theorem dX4_measureCell_10 : decode cX4_measureCell 10 = .ok (.iload_n 3, 1) := by decide +kernel
theorem dX4_measureCell_11 : decode cX4_measureCell 11 = .ok (.invokevirtual 39, 3) := by decide +kernel
theorem dX4_measureCell_14 : decode cX4_measureCell 14 = .ok (.ifCond .ne 6, 3) := by decide +kernel
theorem dX4_measureCell_17 : decode cX4_measureCell 17 = .ok (.goto 53, 3) := by decide +kernel
theorem dX4_measureCell_20 : decode cX4_measureCell 20 = .ok (.iconst 0, 1) := by decide +kernel
theorem dX4_measureCell_21 : decode cX4_measureCell 21 = .ok (.istore 4, 2) := by decide +kernel
theorem dX4_measureCell_23 : decode cX4_measureCell 23 = .ok (.iload 4, 2) := by decide +kernel
theorem dX4_measureCell_25 : decode cX4_measureCell 25 = .ok (.bipush 16, 2) := by decide +kernel
theorem dX4_measureCell_27 : decode cX4_measureCell 27 = .ok (.if_icmp .ge 43, 3) := by decide +kernel
theorem dX4_measureCell_30 : decode cX4_measureCell 30 = .ok (.iload 4, 2) := by decide +kernel
theorem dX4_measureCell_32 : decode cX4_measureCell 32 = .ok (.iload_n 3, 1) := by decide +kernel
theorem dX4_measureCell_33 : decode cX4_measureCell 33 = .ok (.if_icmp .eq 31, 3) := by decide +kernel
theorem dX4_measureCell_36 : decode cX4_measureCell 36 = .ok (.aload_n 1, 1) := by decide +kernel
theorem dX4_measureCell_37 : decode cX4_measureCell 37 = .ok (.iload_n 2, 1) := by decide +kernel
theorem dX4_measureCell_38 : decode cX4_measureCell 38 = .ok (.iload 4, 2) := by decide +kernel
theorem dX4_measureCell_40 : decode cX4_measureCell 40 = .ok (.invokevirtual 39, 3) := by decide +kernel
theorem dX4_measureCell_43 : decode cX4_measureCell 43 = .ok (.ifCond .le 21, 3) := by decide +kernel
theorem dX4_measureCell_46 : decode cX4_measureCell 46 = .ok (.aload_n 0, 1) := by decide +kernel
theorem dX4_measureCell_47 : decode cX4_measureCell 47 = .ok (.iload_n 3, 1) := by decide +kernel
theorem dX4_measureCell_48 : decode cX4_measureCell 48 = .ok (.iload 4, 2) := by decide +kernel
theorem dX4_measureCell_50 : decode cX4_measureCell 50 = .ok (.invokevirtual 43, 3) := by decide +kernel
theorem dX4_measureCell_53 : decode cX4_measureCell 53 = .ok (.aload_n 1, 1) := by decide +kernel
theorem dX4_measureCell_54 : decode cX4_measureCell 54 = .ok (.iload_n 2, 1) := by decide +kernel
theorem dX4_measureCell_55 : decode cX4_measureCell 55 = .ok (.iload_n 3, 1) := by decide +kernel
theorem dX4_measureCell_56 : decode cX4_measureCell 56 = .ok (.iload 4, 2) := by decide +kernel
theorem dX4_measureCell_58 : decode cX4_measureCell 58 = .ok (.invokevirtual 47, 3) := by decide +kernel
theorem dX4_measureCell_61 : decode cX4_measureCell 61 = .ok (.invokevirtual 51, 3) := by decide +kernel
theorem dX4_measureCell_64 : decode cX4_measureCell 64 = .ok (.iinc 4 1, 3) := by decide +kernel
theorem dX4_measureCell_67 : decode cX4_measureCell 67 = .ok (.goto (-44), 3) := by decide +kernel
theorem dX4_measureCell_70 : decode cX4_measureCell 70 = .ok (.iinc 3 1, 3) := by decide +kernel
theorem dX4_measureCell_73 : decode cX4_measureCell 73 = .ok (.goto (-71), 3) := by decide +kernel
theorem dX4_measureCell_76 : decode cX4_measureCell 76 = .ok (.return_, 1) := by decide +kernel
set_option maxRecDepth 100000 in
set_option maxHeartbeats 4000000 in
theorem l1_X4_measureCell {h : ai_H} {S : Md} {T : Nat → Ty} {c a : Nat} {Q : Option Value → ai_H → Prop} (hz : cl_sz S) (ha : a < 16) (hna : ¬ cl_many S (nI c) (nI a) = 0) (kx : ∀ g : ai_H, xm h g → cl_at g S → mt_at g (mc_t S c T ((a + 1) * 16)) → ai_W MX4_measureCell 70 [.ref 33, .ref 22, .int (nI c), .int (nI a), .int (nI 16)] [] g Q) : ∀ (m b : Nat) (g : ai_H), b ≤ 16 → 17 ≤ b + m → xm h g → cl_at g S → mt_at g (mc_t S c T (a * 16 + b)) → ai_W MX4_measureCell 23 [.ref 33, .ref 22, .int (nI c), .int (nI a), .int (nI b)] [] g Q := by
  intro m
  induction m with
  | zero => intro b g h1 h2; exact absurd h2 (by omega)
  | succ m ih =>
    intro b g hb0 him E0 hcl hmt
    refine wq (fun _ _ kk => rs_iload (pc := 23) dX4_measureCell_23 rfl kk) ?_
    refine wq (fun _ _ kk => rs_bipush (v := 16) (pc := 25) dX4_measureCell_25 rfl kk) ?_
    refine wq_br (fun _ _ kt kf => rs_icmp_ge (tgt := 70) (pc := 27) dX4_measureCell_27 rfl kt kf) (fun c_27 => ?_) (fun c_27 => ?_)
    · have hbe : b = 16 := lp_exit (sz := 16) rfl (by decide) hb0 c_27
      subst hbe
      exact kx _ E0 hcl (by rw [show (a + 1) * 16 = a * 16 + 16 by omega]; exact hmt)
    · have hb : b < 16 := lp_go (sz := 16) rfl (by omega) c_27
      refine wq (fun _ _ kk => rs_iload (pc := 30) dX4_measureCell_30 rfl kk) ?_
      refine wq (fun _ _ kk => rs_iload_n (pc := 32) dX4_measureCell_32 rfl kk) ?_
      refine wq_br (fun _ _ kt kf => rs_icmp_eq (tgt := 64) (pc := 33) dX4_measureCell_33 rfl kt kf) (fun c_33 => ?_) (fun c_33 => ?_)
      · have hab : b = a := (nI_eq (by omega) (by omega)).mp c_33
        refine wq (fun _ _ kk => wk_iinc4 (v := nI (b + 1)) (pc := 64) dX4_measureCell_64 (by decide) rfl (nI_1 b) kk) ?_
        refine wq (fun _ _ kk => rs_goto (tgt := 23) (pc := 67) dX4_measureCell_67 rfl kk) ?_
        first
        | (refine ih (b + 1) _ (by omega) (by omega) (E0.trans ee_61) hcl ?_
           rw [← Nat.add_assoc, ← mc_yes (by simp only [mc_p, decide_eq_true_eq, (dv hb).1, (dv hb).2]; exact ⟨hna, hab, Int32.not_le.mp c_43⟩), mc_d, (dv hb).1, (dv hb).2]
           exact hmt)
        | (refine ih (b + 1) _ (by omega) (by omega) E0 hcl ?_
           rw [mc_no (p := a * 16 + b) (by omega) (fun k h1 h2 => ?_)]
           · exact hmt
           · have hk : k = a * 16 + b := by omega
             subst hk
             simp only [mc_p, decide_eq_true_eq, (dv hb).1, (dv hb).2]
             first | exact fun z => z.2.1 hab | exact fun z => absurd c_43 (Int32.not_le.mpr z.2.2))
      · have hab : ¬ b = a := fun z => c_33 (by rw [z])
        refine wq (fun _ _ kk => rs_aload_n (pc := 36) dX4_measureCell_36 rfl kk) ?_
        refine wq (fun _ _ kk => rs_iload_n (pc := 37) dX4_measureCell_37 rfl kk) ?_
        refine wq (fun _ _ kk => rs_iload (pc := 38) dX4_measureCell_38 rfl kk) ?_
        refine wq (fun _ _ kk => rs_callV (as := [_, _]) (pc := 40) dX4_measureCell_40 mk_X2_many mlX4_39 in_X2_many se_X2_many rfl (mo_lt hcl (by decide)) hcl.2.1 rfl rfl (Nat.le_of_ble_eq_true rfl) (c_X2_many hcl hz _ _) kk) ?_
        refine wq_br (fun _ _ kt kf => rs_if_le (tgt := 64) (pc := 43) dX4_measureCell_43 rfl kt kf) (fun c_43 => ?_) (fun c_43 => ?_)
        · refine wq (fun _ _ kk => wk_iinc4 (v := nI (b + 1)) (pc := 64) dX4_measureCell_64 (by decide) rfl (nI_1 b) kk) ?_
          refine wq (fun _ _ kk => rs_goto (tgt := 23) (pc := 67) dX4_measureCell_67 rfl kk) ?_
          first
          | (refine ih (b + 1) _ (by omega) (by omega) (E0.trans ee_61) hcl ?_
             rw [← Nat.add_assoc, ← mc_yes (by simp only [mc_p, decide_eq_true_eq, (dv hb).1, (dv hb).2]; exact ⟨hna, hab, Int32.not_le.mp c_43⟩), mc_d, (dv hb).1, (dv hb).2]
             exact hmt)
          | (refine ih (b + 1) _ (by omega) (by omega) E0 hcl ?_
             rw [mc_no (p := a * 16 + b) (by omega) (fun k h1 h2 => ?_)]
             · exact hmt
             · have hk : k = a * 16 + b := by omega
               subst hk
               simp only [mc_p, decide_eq_true_eq, (dv hb).1, (dv hb).2]
               first | exact fun z => z.2.1 hab | exact fun z => absurd c_43 (Int32.not_le.mpr z.2.2))
        · refine wq (fun _ _ kk => rs_aload_n (pc := 46) dX4_measureCell_46 rfl kk) ?_
          refine wq (fun _ _ kk => rs_iload_n (pc := 47) dX4_measureCell_47 rfl kk) ?_
          refine wq (fun _ _ kk => rs_iload (pc := 48) dX4_measureCell_48 rfl kk) ?_
          refine wq (fun _ _ kk => rs_callV (as := [_, _]) (pc := 50) dX4_measureCell_50 mk_X4_of mlX4_43 in_X4_of se_X4_of rfl (mt_lt hmt (by decide)) hmt.2.1 rfl rfl (Nat.le_of_ble_eq_true rfl) (c_X4_of hmt ha hb) kk) ?_
          refine wq (fun _ _ kk => rs_aload_n (pc := 53) dX4_measureCell_53 rfl kk) ?_
          refine wq (fun _ _ kk => rs_iload_n (pc := 54) dX4_measureCell_54 rfl kk) ?_
          refine wq (fun _ _ kk => rs_iload_n (pc := 55) dX4_measureCell_55 rfl kk) ?_
          refine wq (fun _ _ kk => rs_iload (pc := 56) dX4_measureCell_56 rfl kk) ?_
          refine wq (fun _ _ kk => rs_callV (as := [_, _, _]) (pc := 58) dX4_measureCell_58 mk_X2_difference mlX4_47 in_X2_difference se_X2_difference rfl (mo_lt hcl (by decide)) hcl.2.1 rfl rfl (Nat.le_of_ble_eq_true rfl) (c_X2_difference hcl hz _ _ _) kk) ?_
          obtain ⟨rv_61, hc_61, ⟨rfl, ee_61, hmt_61, oo_61⟩, hm_61⟩ := c_mt_add hmt (show a * 16 + b < 256 by omega) (cl_diff S (nI c) (nI a) (nI b))
          refine wq (fun _ _ kk => rs_callV (as := [_]) (pc := 61) dX4_measureCell_61 mk_X9_add mlX4_51 in_X9_add se_X9_add rfl (mt_lt hmt (by omega)) (hmt.2.2.2.2 (a * 16 + b) (by omega)) rfl rfl (Nat.le_of_ble_eq_true rfl) (hm_61) kk) ?_
          replace hmt := hmt_61
          replace hcl := mo_keep hcl ee_61.1 (fun j _ z => oo_61 j (Or.inl (Nat.lt_of_le_of_lt z (by decide))))
          refine wq (fun _ _ kk => wk_iinc4 (v := nI (b + 1)) (pc := 64) dX4_measureCell_64 (by decide) rfl (nI_1 b) kk) ?_
          refine wq (fun _ _ kk => rs_goto (tgt := 23) (pc := 67) dX4_measureCell_67 rfl kk) ?_
          first
          | (refine ih (b + 1) _ (by omega) (by omega) (E0.trans ee_61) hcl ?_
             rw [← Nat.add_assoc, ← mc_yes (by simp only [mc_p, decide_eq_true_eq, (dv hb).1, (dv hb).2]; exact ⟨hna, hab, Int32.not_le.mp c_43⟩), mc_d, (dv hb).1, (dv hb).2]
             exact hmt)
          | (refine ih (b + 1) _ (by omega) (by omega) E0 hcl ?_
             rw [mc_no (p := a * 16 + b) (by omega) (fun k h1 h2 => ?_)]
             · exact hmt
             · have hk : k = a * 16 + b := by omega
               subst hk
               simp only [mc_p, decide_eq_true_eq, (dv hb).1, (dv hb).2]
               first | exact fun z => z.2.1 hab | exact fun z => absurd c_43 (Int32.not_le.mpr z.2.2))
set_option maxRecDepth 100000 in
set_option maxHeartbeats 4000000 in
theorem l2_X4_measureCell {h : ai_H} {S : Md} {T : Nat → Ty} {c : Nat} (hz : cl_sz S) : ∀ (m a : Nat) (u : Value) (g : ai_H), a ≤ 16 → 17 ≤ a + m → xm h g → cl_at g S → mt_at g (mc_t S c T (a * 16)) → ai_W MX4_measureCell 2 [.ref 33, .ref 22, .int (nI c), .int (nI a), u] [] g (fun r g => r = none ∧ xm h g ∧ cl_at g S ∧ mt_at g (mc_t S c T 256)) := by
  intro m
  induction m with
  | zero => intro a u g h1 h2; exact absurd h2 (by omega)
  | succ m ih =>
    intro a u g ha0 him E0 hcl hmt
    refine wq (fun _ _ kk => rs_iload_n (pc := 2) dX4_measureCell_2 rfl kk) ?_
    refine wq (fun _ _ kk => rs_bipush (v := 16) (pc := 3) dX4_measureCell_3 rfl kk) ?_
    refine wq_br (fun _ _ kt kf => rs_icmp_ge (tgt := 76) (pc := 5) dX4_measureCell_5 rfl kt kf) (fun c_5 => ?_) (fun c_5 => ?_)
    · have hae : a = 16 := lp_exit (sz := 16) rfl (by decide) ha0 c_5
      subst hae
      refine wq_ret ?_ (rs_vret (pc := 76) dX4_measureCell_76 rfl)
      exact ⟨rfl, E0, hcl, hmt⟩
    · have ha : a < 16 := lp_go (sz := 16) rfl (by omega) c_5
      refine wq (fun _ _ kk => rs_aload_n (pc := 8) dX4_measureCell_8 rfl kk) ?_
      refine wq (fun _ _ kk => rs_iload_n (pc := 9) dX4_measureCell_9 rfl kk) ?_
      refine wq (fun _ _ kk => rs_iload_n (pc := 10) dX4_measureCell_10 rfl kk) ?_
      refine wq (fun _ _ kk => rs_callV (as := [_, _]) (pc := 11) dX4_measureCell_11 mk_X2_many mlX4_39 in_X2_many se_X2_many rfl (mo_lt hcl (by decide)) hcl.2.1 rfl rfl (Nat.le_of_ble_eq_true rfl) (c_X2_many hcl hz _ _) kk) ?_
      refine wq_bn (fun _ _ kt kf => rs_if_ne (tgt := 20) (pc := 14) dX4_measureCell_14 rfl kt kf) (fun c_14 => ?_) (fun c_14 => ?_)
      · refine wq (fun _ _ kk => rs_iconst (v := 0) (pc := 20) dX4_measureCell_20 rfl kk) ?_
        refine wq (fun _ _ kk => wk_ist4 (pc := 21) dX4_measureCell_21 (by decide) rfl kk) ?_
        refine l1_X4_measureCell (h := h) hz ha c_14 ?_ 17 0 _ (by omega) (by omega) E0 hcl hmt
        intro g E0 hcl hmt
        refine wq (fun _ _ kk => wk_iinc3 (v := nI (a + 1)) (pc := 70) dX4_measureCell_70 (by decide) rfl (nI_1 a) kk) ?_
        refine wq (fun _ _ kk => rs_goto (tgt := 2) (pc := 73) dX4_measureCell_73 rfl kk) ?_
        exact ih (a + 1) _ _ (by omega) (by omega) E0 hcl hmt
      · refine wq (fun _ _ kk => rs_goto (tgt := 70) (pc := 17) dX4_measureCell_17 rfl kk) ?_
        refine wq (fun _ _ kk => wk_iinc3 (v := nI (a + 1)) (pc := 70) dX4_measureCell_70 (by decide) rfl (nI_1 a) kk) ?_
        refine wq (fun _ _ kk => rs_goto (tgt := 2) (pc := 73) dX4_measureCell_73 rfl kk) ?_
        refine ih (a + 1) _ _ (by omega) (by omega) E0 hcl ?_
        rw [mc_no (p := a * 16) (by omega) (fun k h1 h2 => ?_)]
        · exact hmt
        · have hk : k / 16 = a := by omega
          simp only [mc_p, decide_eq_true_eq, hk]
          exact fun z => z.1 c_14
set_option maxRecDepth 100000 in
set_option maxHeartbeats 4000000 in
theorem c_X4_measureCell {h : ai_H} {S : Md} {T : Nat → Ty} (hz : cl_sz S) (hcl : cl_at h S) (hmt : mt_at h T) (c : Nat) : ai_QM MX4_measureCell [.ref 33, .ref 22, .int (nI c)] h (fun r g => r = none ∧ xm h g ∧ cl_at g S ∧ mt_at g (mc_t S c T 256)) := by
  refine qm_of (ls := [.ref 33, .ref 22, .int (nI c), .float 0, .float 0]) (by decide) (by simp [ai_en, Value.category]) (by rfl) ?_
  refine wq (fun _ _ kk => rs_iconst (v := 0) (pc := 0) dX4_measureCell_0 rfl kk) ?_
  refine wq (fun _ _ kk => wk_istn3 (pc := 1) dX4_measureCell_1 (by decide) rfl kk) ?_
  exact l2_X4_measureCell hz 17 0 _ _ (by omega) (by omega) xm.rf hcl (by rw [show mc_t S c T (0 * 16) = T from by funext k; unfold mc_t; rw [if_neg (fun z => Nat.not_lt_zero _ z.1)]]; exact hmt)
theorem mt_cong {h : ai_H} {T U : Nat → Ty} (e : ∀ i, i < 256 → T i = U i) (hmt : mt_at h T) : mt_at h U := ⟨hmt.1, hmt.2.1, hmt.2.2.1, hmt.2.2.2.1, fun i hi => by rw [hmt.2.2.2.2 i hi, e i hi]⟩
def mt_p (S : Md) (k c : Nat) : Bool := decide (¬ S.2.2.1 5 c = 3) && mc_p S c k
/-- the tallies of the first z cells -/
def mt_F (S : Md) (z : Nat) : Nat → Ty := fun k => ty_fold (mt_p S k) (fun c => mc_d S c k) z
theorem mt_F_no {S : Md} {z : Nat} (h : S.2.2.1 5 z = 3) : mt_F S (z + 1) = mt_F S z := by
  funext k
  unfold mt_F
  rw [ty_fold, if_neg (by simp [mt_p, h])]
theorem mt_F_yes {S : Md} {z : Nat} (h : ¬ S.2.2.1 5 z = 3) : ∀ i, i < 256 → mc_t S z (mt_F S z) 256 i = mt_F S (z + 1) i := by
  intro i hi
  unfold mc_t mt_F
  rw [ty_fold]
  by_cases hp : mc_p S z i = true
  · rw [if_pos ⟨hi, hp⟩, if_pos (by simp [mt_p, h, hp])]
  · rw [if_neg (fun q => hp q.2), if_neg (by simp [mt_p, h, hp])]
def mt_Z (T : Nat → Ty) (k : Nat) : Nat → Ty := fun i => if i < k then (0, 0, 0, 0) else T i
theorem mt_Z_s (T : Nat → Ty) (k : Nat) : va_up (mt_Z T k) k (0, 0, 0, 0) = mt_Z T (k + 1) := by
  funext i
  unfold mt_Z va_up
  by_cases h : i = k
  · subst h; rw [if_pos rfl, if_pos (Nat.lt_succ_self i)]
  · rw [if_neg h]
    show (if i < k then ((0, 0, 0, 0) : Ty) else T i) = _
    by_cases h2 : i < k
    · rw [if_pos h2, if_pos (by omega)]
    · rw [if_neg h2, if_neg (by omega)]
theorem dX4_measure_0 : decode cX4_measure 0 = .ok (.iconst 0, 1) := by decide +kernel
theorem dX4_measure_1 : decode cX4_measure 1 = .ok (.istore_n 2, 1) := by decide +kernel
theorem dX4_measure_2 : decode cX4_measure 2 = .ok (.iload_n 2, 1) := by decide +kernel
theorem dX4_measure_3 : decode cX4_measure 3 = .ok (.aload_n 0, 1) := by decide +kernel
theorem dX4_measure_4 : decode cX4_measure 4 = .ok (.getfield 11, 3) := by decide +kernel
theorem dX4_measure_7 : decode cX4_measure 7 = .ok (.arraylength, 1) := by decide +kernel
theorem dX4_measure_8 : decode cX4_measure 8 = .ok (.if_icmp .ge 18, 3) := by decide +kernel
theorem dX4_measure_11 : decode cX4_measure 11 = .ok (.aload_n 0, 1) := by decide +kernel
theorem dX4_measure_12 : decode cX4_measure 12 = .ok (.getfield 11, 3) := by decide +kernel
theorem dX4_measure_15 : decode cX4_measure 15 = .ok (.iload_n 2, 1) := by decide +kernel
theorem dX4_measure_16 : decode cX4_measure 16 = .ok (.aaload, 1) := by decide +kernel
theorem dX4_measure_17 : decode cX4_measure 17 = .ok (.invokevirtual 22, 3) := by decide +kernel
theorem dX4_measure_20 : decode cX4_measure 20 = .ok (.iinc 2 1, 3) := by decide +kernel
theorem dX4_measure_23 : decode cX4_measure 23 = .ok (.goto (-21), 3) := by decide +kernel
theorem dX4_measure_26 : decode cX4_measure 26 = .ok (.iconst 0, 1) := by decide +kernel
theorem dX4_measure_27 : decode cX4_measure 27 = .ok (.istore_n 2, 1) := by decide +kernel
theorem dX4_measure_28 : decode cX4_measure 28 = .ok (.iload_n 2, 1) := by decide +kernel
theorem dX4_measure_29 : decode cX4_measure 29 = .ok (.aload_n 1, 1) := by decide +kernel
theorem dX4_measure_30 : decode cX4_measure 30 = .ok (.getfield 25, 3) := by decide +kernel
theorem dX4_measure_33 : decode cX4_measure 33 = .ok (.if_icmp .ge 25, 3) := by decide +kernel
theorem dX4_measure_36 : decode cX4_measure 36 = .ok (.aload_n 1, 1) := by decide +kernel
theorem dX4_measure_37 : decode cX4_measure 37 = .ok (.getfield 31, 3) := by decide +kernel
theorem dX4_measure_40 : decode cX4_measure 40 = .ok (.iload_n 2, 1) := by decide +kernel
theorem dX4_measure_41 : decode cX4_measure 41 = .ok (.iaload, 1) := by decide +kernel
theorem dX4_measure_42 : decode cX4_measure 42 = .ok (.iconst 3, 1) := by decide +kernel
theorem dX4_measure_43 : decode cX4_measure 43 = .ok (.if_icmp .eq 9, 3) := by decide +kernel
theorem dX4_measure_46 : decode cX4_measure 46 = .ok (.aload_n 0, 1) := by decide +kernel
theorem dX4_measure_47 : decode cX4_measure 47 = .ok (.aload_n 1, 1) := by decide +kernel
theorem dX4_measure_48 : decode cX4_measure 48 = .ok (.iload_n 2, 1) := by decide +kernel
theorem dX4_measure_49 : decode cX4_measure 49 = .ok (.invokevirtual 35, 3) := by decide +kernel
theorem dX4_measure_52 : decode cX4_measure 52 = .ok (.iinc 2 1, 3) := by decide +kernel
theorem dX4_measure_55 : decode cX4_measure 55 = .ok (.goto (-27), 3) := by decide +kernel
theorem dX4_measure_58 : decode cX4_measure 58 = .ok (.return_, 1) := by decide +kernel
set_option maxRecDepth 100000 in
set_option maxHeartbeats 4000000 in
theorem l1_X4_measure {h : ai_H} {S : Md} {T : Nat → Ty} {Q : Option Value → ai_H → Prop} (kx : ∀ g : ai_H, xm h g → cl_at g S → mt_at g (mt_F S 0) → ai_W MX4_measure 28 [.ref 33, .ref 22, .int 0] [] g Q) : ∀ (m k : Nat) (g : ai_H), k ≤ 256 → 257 ≤ k + m → xm h g → cl_at g S → mt_at g (mt_Z T k) → ai_W MX4_measure 2 [.ref 33, .ref 22, .int (nI k)] [] g Q := by
  intro m
  induction m with
  | zero => intro k g h1 h2; exact absurd h2 (by omega)
  | succ m ih =>
    intro k g hk0 him E0 hcl hmt
    refine wq (fun _ _ kk => rs_iload_n (pc := 2) dX4_measure_2 rfl kk) ?_
    refine wq (fun _ _ kk => rs_aload_n (pc := 3) dX4_measure_3 rfl kk) ?_
    refine wq (fun _ _ kk => rs_getf (pc := 4) dX4_measure_4 fX4_11 (mt_lt hmt (by decide)) hmt.2.1 rfl kk) ?_
    refine wq (fun _ _ kk => rs_alen (pc := 7) dX4_measure_7 (fun _ => rfl) (mt_lt hmt (by decide)) hmt.2.2.1 rfl kk) ?_
    refine wq_br (fun _ _ kt kf => rs_icmp_ge (tgt := 26) (pc := 8) dX4_measure_8 rfl kt kf) (fun c_8 => ?_) (fun c_8 => ?_)
    · have hke : k = 256 := lp_exit (sz := 256) rfl (by decide) hk0 c_8
      subst hke
      refine wq (fun _ _ kk => rs_iconst (v := 0) (pc := 26) dX4_measure_26 rfl kk) ?_
      refine wq (fun _ _ kk => wk_istn2 (pc := 27) dX4_measure_27 (by decide) rfl kk) ?_
      exact kx _ E0 hcl (mt_cong (fun i hi => by unfold mt_Z mt_F; rw [if_pos hi]; rfl) hmt)
    · have hk : k < 256 := lp_go (sz := 256) rfl (by omega) c_8
      refine wq (fun _ _ kk => rs_aload_n (pc := 11) dX4_measure_11 rfl kk) ?_
      refine wq (fun _ _ kk => rs_getf (pc := 12) dX4_measure_12 fX4_11 (mt_lt hmt (by decide)) hmt.2.1 rfl kk) ?_
      refine wq (fun _ _ kk => rs_iload_n (pc := 15) dX4_measure_15 rfl kk) ?_
      refine wq (fun _ _ kk => rs_aald (pc := 16) dX4_measure_16 (fun _ => rfl) (mt_lt hmt (by decide)) hmt.2.2.1 (vp_in_nI (n := k) (N := 256) hk (by decide)) kk) ?_
      rw [nI_clamp (show k < 2 ^ 31 by omega), mt_row_at hk]
      show ai_W MX4_measure 17 [.ref 33, .ref 22, .int (nI k)] [.ref (36 + k)] g _
      obtain ⟨rv_17, hc_17, ⟨rfl, ee_17, hmt_17, oo_17⟩, hm_17⟩ := c_mt_clear hmt hk
      refine wq (fun _ _ kk => rs_callV (as := []) (pc := 17) dX4_measure_17 mk_X9_clear mlX4_22 in_X9_clear se_X9_clear rfl (mt_lt hmt (by omega)) (hmt.2.2.2.2 k hk) rfl rfl (Nat.le_of_ble_eq_true rfl) (hm_17) kk) ?_
      replace hmt := hmt_17
      replace hcl := mo_keep hcl ee_17.1 (fun j _ z => oo_17 j (Or.inl (Nat.lt_of_le_of_lt z (by decide))))
      refine wq (fun _ _ kk => wk_iinc2 (v := nI (k + 1)) (pc := 20) dX4_measure_20 (by decide) rfl (nI_1 k) kk) ?_
      refine wq (fun _ _ kk => rs_goto (tgt := 2) (pc := 23) dX4_measure_23 rfl kk) ?_
      exact ih (k + 1) _ (by omega) (by omega) (E0.trans ee_17) hcl (by rw [← mt_Z_s]; exact hmt)
set_option maxRecDepth 100000 in
set_option maxHeartbeats 4000000 in
theorem l2_X4_measure {h : ai_H} {S : Md} {z : Nat} (ez : S.1 0 = nI z) (hz4 : z ≤ 400) (hzz : cl_sz S) : ∀ (m c : Nat) (g : ai_H), c ≤ z → z + 1 ≤ c + m → xm h g → cl_at g S → mt_at g (mt_F S c) → ai_W MX4_measure 28 [.ref 33, .ref 22, .int (nI c)] [] g (fun r g => r = none ∧ xm h g ∧ cl_at g S ∧ mt_at g (mt_F S z)) := by
  intro m
  induction m with
  | zero => intro c g h1 h2; exact absurd h2 (by omega)
  | succ m ih =>
    intro c g hc0 him E0 hcl hmt
    refine wq (fun _ _ kk => rs_iload_n (pc := 28) dX4_measure_28 rfl kk) ?_
    refine wq (fun _ _ kk => rs_aload_n (pc := 29) dX4_measure_29 rfl kk) ?_
    refine wq (fun _ _ kk => rs_getf (pc := 30) dX4_measure_30 fX4_25 (mo_lt hcl (by decide)) hcl.2.1 rfl kk) ?_
    refine wq_br (fun _ _ kt kf => rs_icmp_ge (tgt := 58) (pc := 33) dX4_measure_33 rfl kt kf) (fun c_33 => ?_) (fun c_33 => ?_)
    · have hce : c = z := lp_exit ez (by omega) hc0 c_33
      subst hce
      refine wq_ret ?_ (rs_vret (pc := 58) dX4_measure_58 rfl)
      exact ⟨rfl, E0, hcl, hmt⟩
    · have hc : c < z := lp_go ez (by omega) c_33
      refine wq (fun _ _ kk => rs_aload_n (pc := 36) dX4_measure_36 rfl kk) ?_
      refine wq (fun _ _ kk => rs_getf (pc := 37) dX4_measure_37 fX4_31 (mo_lt hcl (by decide)) hcl.2.1 rfl kk) ?_
      refine wq (fun _ _ kk => rs_iload_n (pc := 40) dX4_measure_40 rfl kk) ?_
      refine wq (fun _ _ kk => rs_iald (pc := 41) dX4_measure_41 (mo_lt hcl (by decide)) (mo_geti (d := 4) (k := 5) (kd := 0) (l := 400) rfl (by decide) hcl) (vp_in_nI (n := c) (N := 400) (by omega) (by decide)) kk) ?_
      rw [nI_clamp (show c < 2 ^ 31 by omega)]
      refine wq (fun _ _ kk => rs_iconst (v := 3) (pc := 42) dX4_measure_42 rfl kk) ?_
      refine wq_br (fun _ _ kt kf => rs_icmp_eq (tgt := 52) (pc := 43) dX4_measure_43 rfl kt kf) (fun c_43 => ?_) (fun c_43 => ?_)
      · refine wq (fun _ _ kk => wk_iinc2 (v := nI (c + 1)) (pc := 52) dX4_measure_52 (by decide) rfl (nI_1 c) kk) ?_
        refine wq (fun _ _ kk => rs_goto (tgt := 28) (pc := 55) dX4_measure_55 rfl kk) ?_
        first
        | exact ih (c + 1) _ (by omega) (by omega) (E0.trans ee_49) hcl (mt_cong (mt_F_yes c_43) hmt)
        | exact ih (c + 1) _ (by omega) (by omega) E0 hcl (by rw [mt_F_no c_43]; exact hmt)
      · refine wq (fun _ _ kk => rs_aload_n (pc := 46) dX4_measure_46 rfl kk) ?_
        refine wq (fun _ _ kk => rs_aload_n (pc := 47) dX4_measure_47 rfl kk) ?_
        refine wq (fun _ _ kk => rs_iload_n (pc := 48) dX4_measure_48 rfl kk) ?_
        obtain ⟨rv_49, hc_49, ⟨rfl, ee_49, hcl_49, hmt_49⟩, hm_49⟩ := c_X4_measureCell hzz hcl hmt c
        refine wq (fun _ _ kk => rs_callV (as := [_, _]) (pc := 49) dX4_measure_49 mk_X4_measureCell mlX4_35 in_X4_measureCell se_X4_measureCell rfl (mt_lt hmt (by decide)) hmt.2.1 rfl rfl (Nat.le_of_ble_eq_true rfl) (hm_49) kk) ?_
        replace hmt := hmt_49
        replace hcl := hcl_49
        refine wq (fun _ _ kk => wk_iinc2 (v := nI (c + 1)) (pc := 52) dX4_measure_52 (by decide) rfl (nI_1 c) kk) ?_
        refine wq (fun _ _ kk => rs_goto (tgt := 28) (pc := 55) dX4_measure_55 rfl kk) ?_
        first
        | exact ih (c + 1) _ (by omega) (by omega) (E0.trans ee_49) hcl (mt_cong (mt_F_yes c_43) hmt)
        | exact ih (c + 1) _ (by omega) (by omega) E0 hcl (by rw [mt_F_no c_43]; exact hmt)
set_option maxRecDepth 100000 in
set_option maxHeartbeats 4000000 in
theorem c_X4_measure {h : ai_H} {S : Md} {T : Nat → Ty} {z : Nat} (ez : S.1 0 = nI z) (hz4 : z ≤ 400) (hcl : cl_at h S) (hmt : mt_at h T) : ai_QM MX4_measure [.ref 33, .ref 22] h (fun r g => r = none ∧ xm h g ∧ cl_at g S ∧ mt_at g (mt_F S z)) := by
  have hzz : cl_sz S := by unfold cl_sz; rw [ez, nI_toInt (by omega)]; omega
  refine qm_of (ls := [.ref 33, .ref 22, .float 0]) (by decide) (by simp [ai_en, Value.category]) (by rfl) ?_
  refine wq (fun _ _ kk => rs_iconst (v := 0) (pc := 0) dX4_measure_0 rfl kk) ?_
  refine wq (fun _ _ kk => wk_istn2 (pc := 1) dX4_measure_1 (by decide) rfl kk) ?_
  refine l1_X4_measure (h := h) (T := T) ?_ 257 0 _ (by omega) (by omega) xm.rf hcl (mt_cong (fun i hi => by unfold mt_Z; rw [if_neg (Nat.not_lt_zero i)]) hmt)
  intro g E hcl hmt
  exact l2_X4_measure ez hz4 hzz (z + 1) 0 g (by omega) (by omega) E hcl hmt
