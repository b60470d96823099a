/-! 25: Meetings (walks laid by wip/whole/p25.py) -/
def mt_row : Nat → Option Nat := fun i => if i < 256 then some (38 + i) else none
/-- the meetings: T tells of each ordered pair -/
def mt_at (h : ai_H) (T : Nat → Ty) : Prop := 293 < h.1 ∧ h.2.2 35 = .inr (4, [.ref 36, .ref 37]) ∧ h.2.2 36 = .inl (4, 256, .inr (.inr (.inr (.inr mt_row)))) ∧ h.2.2 37 = ty_cell (0, 0, 0, 0) ∧ ∀ i, i < 256 → h.2.2 (38 + i) = ty_cell (T i)
theorem mt_lt {h : ai_H} {T : Nat → Ty} {j : Nat} (hmt : mt_at h T) (hj : j ≤ 293) : j < h.1 := Nat.lt_of_le_of_lt hj hmt.1
theorem mt_keep {h g : ai_H} {T : Nat → Ty} (hmt : mt_at h T) (m : g.1 = h.1) (o : ∀ j, 35 ≤ j → j ≤ 293 → g.2.2 j = h.2.2 j) : mt_at g T :=
  ⟨by rw [m]; exact hmt.1, (o _ (by decide) (by decide)).trans hmt.2.1, (o _ (by decide) (by decide)).trans hmt.2.2.1, (o _ (by decide) (by decide)).trans hmt.2.2.2.1, fun i hi => (o _ (by omega) (by omega)).trans (hmt.2.2.2.2 i hi)⟩
theorem mt_upd {h g : ai_H} {T : Nat → Ty} {k : Nat} {t : Ty} (hmt : mt_at h T) (hk : k < 256) (e : g = ai_set h (38 + k) (ty_cell t)) : mt_at g (va_up T k t) := by
  obtain ⟨m, s, q, o⟩ := ai_e1 e
  refine ⟨by rw [m]; exact hmt.1, (o _ (by omega)).trans hmt.2.1, (o _ (by omega)).trans hmt.2.2.1, (o _ (by omega)).trans hmt.2.2.2.1, fun i hi => ?_⟩
  by_cases hik : i = k
  · subst hik; rw [q]; simp [va_up]
  · rw [o _ (by omega), hmt.2.2.2.2 i hi]; simp [va_up, hik]
theorem mt_row_at {k : Nat} (hk : k < 256) : mt_row k = some (38 + k) := by unfold mt_row; rw [if_pos hk]
/-- Tally.add and clear at a tally of the meetings -/
theorem c_mt_add {h : ai_H} {T : Nat → Ty} (hmt : mt_at h T) {k : Nat} (hk : k < 256) (x : Int64) : ai_QM MX9_add [.ref (38 + k), .long x] h (fun r g => r = none ∧ xm h g ∧ mt_at g (va_up T k (ty_add (T k) x)) ∧ ∀ j, (j < 35 ∨ 293 < j) → g.2.2 j = h.2.2 j) :=
  ⟨none, ai_set h (38 + k) (ty_cell (ty_add (T k) x)), ⟨rfl, ⟨rfl, rfl, fun j hj => ai_set_ne (by omega)⟩, mt_upd hmt hk rfl, fun j hj => ai_set_ne (by omega)⟩, c_X9_add (mt_lt hmt (by omega)) (hmt.2.2.2.2 k hk) x⟩
theorem c_mt_clear {h : ai_H} {T : Nat → Ty} (hmt : mt_at h T) {k : Nat} (hk : k < 256) : ai_QM MX9_clear [.ref (38 + k)] h (fun r g => r = none ∧ xm h g ∧ mt_at g (va_up T k (0, 0, 0, 0)) ∧ ∀ j, (j < 35 ∨ 293 < j) → g.2.2 j = h.2.2 j) :=
  ⟨none, ai_set h (38 + k) (ty_cell (0, 0, 0, 0)), ⟨rfl, ⟨rfl, rfl, fun j hj => ai_set_ne (by omega)⟩, mt_upd hmt hk rfl, fun j hj => ai_set_ne (by omega)⟩, c_X9_clear (mt_lt hmt (by omega)) (hmt.2.2.2.2 k hk)⟩
theorem dX4_of_0 : decode cX4_of 0 = .ok (.iload_n 1, 1) := by decide +kernel
theorem dX4_of_1 : decode cX4_of 1 = .ok (.ifCond .lt 23, 3) := by decide +kernel
theorem dX4_of_4 : decode cX4_of 4 = .ok (.iload_n 1, 1) := by decide +kernel
theorem dX4_of_5 : decode cX4_of 5 = .ok (.bipush 16, 2) := by decide +kernel
theorem dX4_of_7 : decode cX4_of 7 = .ok (.if_icmp .ge 17, 3) := by decide +kernel
theorem dX4_of_10 : decode cX4_of 10 = .ok (.iload_n 2, 1) := by decide +kernel
theorem dX4_of_11 : decode cX4_of 11 = .ok (.ifCond .lt 13, 3) := by decide +kernel
theorem dX4_of_14 : decode cX4_of 14 = .ok (.iload_n 2, 1) := by decide +kernel
theorem dX4_of_15 : decode cX4_of 15 = .ok (.bipush 16, 2) := by decide +kernel
theorem dX4_of_17 : decode cX4_of 17 = .ok (.if_icmp .ge 7, 3) := by decide +kernel
theorem dX4_of_20 : decode cX4_of 20 = .ok (.iconst 1, 1) := by decide +kernel
theorem dX4_of_21 : decode cX4_of 21 = .ok (.goto 4, 3) := by decide +kernel
theorem dX4_of_24 : decode cX4_of 24 = .ok (.iconst 0, 1) := by decide +kernel
theorem dX4_of_25 : decode cX4_of 25 = .ok (.istore_n 3, 1) := by decide +kernel
theorem dX4_of_26 : decode cX4_of 26 = .ok (.iload_n 3, 1) := by decide +kernel
theorem dX4_of_27 : decode cX4_of 27 = .ok (.ifCond .eq 17, 3) := by decide +kernel
theorem dX4_of_30 : decode cX4_of 30 = .ok (.aload_n 0, 1) := by decide +kernel
theorem dX4_of_31 : decode cX4_of 31 = .ok (.getfield 11, 3) := by decide +kernel
theorem dX4_of_34 : decode cX4_of 34 = .ok (.iload_n 1, 1) := by decide +kernel
theorem dX4_of_35 : decode cX4_of 35 = .ok (.bipush 16, 2) := by decide +kernel
theorem dX4_of_37 : decode cX4_of 37 = .ok (.imul, 1) := by decide +kernel
theorem dX4_of_38 : decode cX4_of 38 = .ok (.iload_n 2, 1) := by decide +kernel
theorem dX4_of_39 : decode cX4_of 39 = .ok (.iadd, 1) := by decide +kernel
theorem dX4_of_40 : decode cX4_of 40 = .ok (.aaload, 1) := by decide +kernel
theorem dX4_of_41 : decode cX4_of 41 = .ok (.goto 7, 3) := by decide +kernel
theorem dX4_of_44 : decode cX4_of 44 = .ok (.aload_n 0, 1) := by decide +kernel
theorem dX4_of_45 : decode cX4_of 45 = .ok (.getfield 18, 3) := by decide +kernel
theorem dX4_of_48 : decode cX4_of 48 = .ok (.areturn, 1) := by decide +kernel
set_option maxRecDepth 100000 in
set_option maxHeartbeats 4000000 in
theorem c_X4_of {h : ai_H} {T : Nat → Ty} (hmt : mt_at h T) {x y : Nat} (hx : x < 16) (hy : y < 16) : ai_Met MX4_of [.ref 35, .int (nI x), .int (nI y)] h (some (.ref (38 + (x * 16 + y)))) h := by
  refine ai_met (ls := [.ref 35, .int (nI x), .int (nI y), .float 0]) (by decide) (by simp [ai_en, Value.category]) (by rfl) ?_
  refine rs_iload_n (pc := 0) dX4_of_0 rfl ?_
  refine rs_if_lt (tgt := 24) (pc := 1) dX4_of_1 rfl (fun c_1 => absurd c_1 (nI_pos (by omega))) (fun c_1 => ?_)
  refine rs_iload_n (pc := 4) dX4_of_4 rfl ?_
  refine rs_bipush (v := 16) (pc := 5) dX4_of_5 rfl ?_
  refine rs_icmp_ge (tgt := 24) (pc := 7) dX4_of_7 rfl (fun c_7 => absurd c_7 (nI_ge (b := 16) hx (by decide))) (fun c_7 => ?_)
  refine rs_iload_n (pc := 10) dX4_of_10 rfl ?_
  refine rs_if_lt (tgt := 24) (pc := 11) dX4_of_11 rfl (fun c_11 => absurd c_11 (nI_pos (by omega))) (fun c_11 => ?_)
  refine rs_iload_n (pc := 14) dX4_of_14 rfl ?_
  refine rs_bipush (v := 16) (pc := 15) dX4_of_15 rfl ?_
  refine rs_icmp_ge (tgt := 24) (pc := 17) dX4_of_17 rfl (fun c_17 => absurd c_17 (nI_ge (b := 16) hy (by decide))) (fun c_17 => ?_)
  refine rs_iconst (v := 1) (pc := 20) dX4_of_20 rfl ?_
  refine rs_goto (tgt := 25) (pc := 21) dX4_of_21 rfl ?_
  refine wk_istn3 (pc := 25) dX4_of_25 (by decide) rfl ?_
  refine rs_iload_n (pc := 26) dX4_of_26 rfl ?_
  refine rs_if_eq (tgt := 44) (pc := 27) dX4_of_27 rfl (fun c_27 => absurd c_27 (by decide)) (fun c_27 => ?_)
  refine rs_aload_n (pc := 30) dX4_of_30 rfl ?_
  refine rs_getf (pc := 31) dX4_of_31 fX4_11 (mt_lt hmt (by decide)) hmt.2.1 rfl ?_
  refine rs_iload_n (pc := 34) dX4_of_34 rfl ?_
  refine rs_bipush (v := 16) (pc := 35) dX4_of_35 rfl ?_
  refine rs_imul (pc := 37) dX4_of_37 ?_
  refine rs_iload_n (pc := 38) dX4_of_38 rfl ?_
  refine rs_iadd (pc := 39) dX4_of_39 ?_
  rw [show nI x * 16 = nI (x * 16) from pk_mul x 16, nI_add]
  refine rs_aald (pc := 40) dX4_of_40 (fun _ => rfl) (mt_lt hmt (by decide)) hmt.2.2.1 (vp_in_nI (n := x * 16 + y) (N := 256) (by omega) (by decide)) ?_
  rw [nI_clamp (show x * 16 + y < 2 ^ 31 by omega), mt_row_at (show x * 16 + y < 256 by omega)]
  show ai_R MX4_of 41 [.ref 35, .int (nI x), .int (nI y), .int 1] [.ref (38 + (x * 16 + y))] h _ _
  refine rs_goto (tgt := 48) (pc := 41) dX4_of_41 rfl ?_
  exact wk_aret (pc := 48) dX4_of_48 rfl (Or.inr (Or.inl ⟨_, rfl⟩)) (rfl) (rfl)
def mt_met (T : Nat → Ty) (x y : Nat) : Int32 := if (T (x * 16 + y)).1 ≤ 0 then 0 else 1
def mt_wid (T : Nat → Ty) (x y : Nat) : Int64 := if (T (x * 16 + y)).1 = 0 then 0 else (T (x * 16 + y)).2.2.2 - (T (x * 16 + y)).2.2.1 + ((1000 + (T (x * 16 + y)).1 - 1) / (T (x * 16 + y)).1).toInt64
theorem dX4_areMet_0 : decode cX4_areMet 0 = .ok (.aload_n 0, 1) := by decide +kernel
theorem dX4_areMet_1 : decode cX4_areMet 1 = .ok (.iload_n 1, 1) := by decide +kernel
theorem dX4_areMet_2 : decode cX4_areMet 2 = .ok (.iload_n 2, 1) := by decide +kernel
theorem dX4_areMet_3 : decode cX4_areMet 3 = .ok (.invokevirtual 49, 3) := by decide +kernel
theorem dX4_areMet_6 : decode cX4_areMet 6 = .ok (.getfield 61, 3) := by decide +kernel
theorem dX4_areMet_9 : decode cX4_areMet 9 = .ok (.ifCond .le 7, 3) := by decide +kernel
theorem dX4_areMet_12 : decode cX4_areMet 12 = .ok (.iconst 1, 1) := by decide +kernel
theorem dX4_areMet_13 : decode cX4_areMet 13 = .ok (.goto 4, 3) := by decide +kernel
theorem dX4_areMet_16 : decode cX4_areMet 16 = .ok (.iconst 0, 1) := by decide +kernel
theorem dX4_areMet_17 : decode cX4_areMet 17 = .ok (.ireturn, 1) := by decide +kernel
set_option maxRecDepth 100000 in
set_option maxHeartbeats 4000000 in
theorem c_X4_areMet {h : ai_H} {T : Nat → Ty} (hmt : mt_at h T) {x y : Nat} (hx : x < 16) (hy : y < 16) : ai_Met MX4_areMet [.ref 35, .int (nI x), .int (nI y)] h (some (.int (mt_met T x y))) h := by
  refine ai_met (ls := [.ref 35, .int (nI x), .int (nI y)]) (by decide) (by simp [ai_en, Value.category]) (by rfl) ?_
  refine rs_aload_n (pc := 0) dX4_areMet_0 rfl ?_
  refine rs_iload_n (pc := 1) dX4_areMet_1 rfl ?_
  refine rs_iload_n (pc := 2) dX4_areMet_2 rfl ?_
  refine rs_callV (as := [_, _]) (pc := 3) dX4_areMet_3 mk_X4_of mlX4_49 in_X4_of se_X4_of rfl (mt_lt hmt (by decide)) hmt.2.1 rfl rfl (Nat.le_of_ble_eq_true rfl) (c_X4_of hmt hx hy) ?_
  refine rs_getf (pc := 6) dX4_areMet_6 fX4_61 (mt_lt hmt (by omega)) (hmt.2.2.2.2 (x * 16 + y) (by omega)) rfl ?_
  refine rs_if_le (tgt := 16) (pc := 9) dX4_areMet_9 rfl (fun c_9 => ?_) (fun c_9 => ?_)
  · refine rs_iconst (v := 0) (pc := 16) dX4_areMet_16 rfl ?_
    exact wk_zret (pc := 17) dX4_areMet_17 rfl (Or.inl rfl) (by simp [mt_met, c_9]) (rfl)
  · refine rs_iconst (v := 1) (pc := 12) dX4_areMet_12 rfl ?_
    refine rs_goto (tgt := 17) (pc := 13) dX4_areMet_13 rfl ?_
    exact wk_zret (pc := 17) dX4_areMet_17 rfl (Or.inr rfl) (by simp [mt_met, c_9]) (rfl)
theorem dX4_width_0 : decode cX4_width 0 = .ok (.aload_n 0, 1) := by decide +kernel
theorem dX4_width_1 : decode cX4_width 1 = .ok (.iload_n 1, 1) := by decide +kernel
theorem dX4_width_2 : decode cX4_width 2 = .ok (.iload_n 2, 1) := by decide +kernel
theorem dX4_width_3 : decode cX4_width 3 = .ok (.invokevirtual 49, 3) := by decide +kernel
theorem dX4_width_6 : decode cX4_width 6 = .ok (.astore_n 3, 1) := by decide +kernel
theorem dX4_width_7 : decode cX4_width 7 = .ok (.aload_n 3, 1) := by decide +kernel
theorem dX4_width_8 : decode cX4_width 8 = .ok (.getfield 61, 3) := by decide +kernel
theorem dX4_width_11 : decode cX4_width 11 = .ok (.ifCond .ne 7, 3) := by decide +kernel
theorem dX4_width_14 : decode cX4_width 14 = .ok (.lconst 0, 1) := by decide +kernel
theorem dX4_width_15 : decode cX4_width 15 = .ok (.goto 24, 3) := by decide +kernel
theorem dX4_width_18 : decode cX4_width 18 = .ok (.aload_n 3, 1) := by decide +kernel
theorem dX4_width_19 : decode cX4_width 19 = .ok (.invokevirtual 64, 3) := by decide +kernel
theorem dX4_width_22 : decode cX4_width 22 = .ok (.sipush 1000, 3) := by decide +kernel
theorem dX4_width_25 : decode cX4_width 25 = .ok (.aload_n 3, 1) := by decide +kernel
theorem dX4_width_26 : decode cX4_width 26 = .ok (.getfield 61, 3) := by decide +kernel
theorem dX4_width_29 : decode cX4_width 29 = .ok (.iadd, 1) := by decide +kernel
theorem dX4_width_30 : decode cX4_width 30 = .ok (.iconst 1, 1) := by decide +kernel
theorem dX4_width_31 : decode cX4_width 31 = .ok (.isub, 1) := by decide +kernel
theorem dX4_width_32 : decode cX4_width 32 = .ok (.aload_n 3, 1) := by decide +kernel
theorem dX4_width_33 : decode cX4_width 33 = .ok (.getfield 61, 3) := by decide +kernel
theorem dX4_width_36 : decode cX4_width 36 = .ok (.idiv, 1) := by decide +kernel
theorem dX4_width_37 : decode cX4_width 37 = .ok (.i2l, 1) := by decide +kernel
theorem dX4_width_38 : decode cX4_width 38 = .ok (.ladd, 1) := by decide +kernel
theorem dX4_width_39 : decode cX4_width 39 = .ok (.lreturn, 1) := by decide +kernel
set_option maxRecDepth 100000 in
set_option maxHeartbeats 4000000 in
theorem c_X4_width {h : ai_H} {T : Nat → Ty} (hmt : mt_at h T) {x y : Nat} (hx : x < 16) (hy : y < 16) : ai_Met MX4_width [.ref 35, .int (nI x), .int (nI y)] h (some (.long (mt_wid T x y))) h := by
  refine ai_met (ls := [.ref 35, .int (nI x), .int (nI y), .float 0]) (by decide) (by simp [ai_en, Value.category]) (by rfl) ?_
  refine rs_aload_n (pc := 0) dX4_width_0 rfl ?_
  refine rs_iload_n (pc := 1) dX4_width_1 rfl ?_
  refine rs_iload_n (pc := 2) dX4_width_2 rfl ?_
  refine rs_callV (as := [_, _]) (pc := 3) dX4_width_3 mk_X4_of mlX4_49 in_X4_of se_X4_of rfl (mt_lt hmt (by decide)) hmt.2.1 rfl rfl (Nat.le_of_ble_eq_true rfl) (c_X4_of hmt hx hy) ?_
  refine wk_astn3 (pc := 6) dX4_width_6 (by decide) rfl ?_
  refine rs_aload_n (pc := 7) dX4_width_7 rfl ?_
  refine rs_getf (pc := 8) dX4_width_8 fX4_61 (mt_lt hmt (by omega)) (hmt.2.2.2.2 (x * 16 + y) (by omega)) rfl ?_
  refine rs_if_ne (tgt := 18) (pc := 11) dX4_width_11 rfl (fun c_11 => ?_) (fun c_11 => ?_)
  · refine rs_aload_n (pc := 18) dX4_width_18 rfl ?_
    refine rs_callV (as := []) (pc := 19) dX4_width_19 mk_X9_span mlX4_64 in_X9_span se_X9_span rfl (mt_lt hmt (by omega)) (hmt.2.2.2.2 (x * 16 + y) (by omega)) rfl rfl (Nat.le_of_ble_eq_true rfl) (c_X9_span (mt_lt hmt (by omega)) (hmt.2.2.2.2 (x * 16 + y) (by omega))) ?_
    refine rs_sipush (v := 1000) (pc := 22) dX4_width_22 rfl ?_
    refine rs_aload_n (pc := 25) dX4_width_25 rfl ?_
    refine rs_getf (pc := 26) dX4_width_26 fX4_61 (mt_lt hmt (by omega)) (hmt.2.2.2.2 (x * 16 + y) (by omega)) rfl ?_
    refine rs_iadd (pc := 29) dX4_width_29 ?_
    refine rs_iconst (v := 1) (pc := 30) dX4_width_30 rfl ?_
    refine rs_isub (pc := 31) dX4_width_31 ?_
    refine rs_aload_n (pc := 32) dX4_width_32 rfl ?_
    refine rs_getf (pc := 33) dX4_width_33 fX4_61 (mt_lt hmt (by omega)) (hmt.2.2.2.2 (x * 16 + y) (by omega)) rfl ?_
    refine rs_idiv (pc := 36) dX4_width_36 c_11 ?_
    refine rs_i2l (pc := 37) dX4_width_37 ?_
    refine rs_ladd (pc := 38) dX4_width_38 ?_
    exact wk_lret (pc := 39) dX4_width_39 rfl (by simp [mt_wid, c_11]) (rfl)
  · refine rs_lconst (v := 0) (pc := 14) dX4_width_14 rfl ?_
    refine rs_goto (tgt := 39) (pc := 15) dX4_width_15 rfl ?_
    exact wk_lret (pc := 39) dX4_width_39 rfl (by simp [mt_wid, c_11]) (rfl)
theorem dv {a b : Nat} (hb : b < 16) : (a * 16 + b) / 16 = a ∧ (a * 16 + b) % 16 = b := by omega
theorem mt_cong {h : ai_H} {T U : Nat → Ty} (e : ∀ i, i < 256 → T i = U i) (hmt : mt_at h T) : mt_at h U := ⟨hmt.1, hmt.2.1, hmt.2.2.1, hmt.2.2.2.1, fun i hi => by rw [hmt.2.2.2.2 i hi, e i hi]⟩
/-- the other one of b in x's ring, if it stands ahead of r -/
def mri (S : Md) (z x r b : Nat) : Int32 := lastc (fun d => decide (kC S d = kC S x ∧ S.2.2.1 7 d = nI b ∧ ¬ d = x ∧ rk z x d < r)) z
/-- the tallies when x's ring has been measured up to r -/
def mr_t (S : Md) (z x r : Nat) (T : Nat → Ty) : Nat → Ty := fun k => if S.2.2.1 7 x = nI (k / 16) ∧ ¬ mri S z x r (k % 16) = -1 then ty_add (T k) (cl_diff S (nI x) (mri S z x r (k % 16))) else T k
theorem mr_none {S : Md} {z x r b : Nat} (h : ∀ d, d < z → kC S d = kC S x → S.2.2.1 7 d = nI b → ¬ d = x → ¬ rk z x d < r) : mri S z x r b = -1 := lastc_none (fun d hd => by
  simp only [decide_eq_false_iff_not]
  exact fun q => h d hd q.1 q.2.1 q.2.2.1 q.2.2.2)
theorem mr_0 {S : Md} {z x r : Nat} {T : Nat → Ty} (h : ∀ d, d < z → kC S d = kC S x → ¬ d = x → ¬ rk z x d < r) : mr_t S z x r T = T := by
  funext k
  unfold mr_t
  rw [if_neg (fun q => q.2 (mr_none (fun d h1 h2 _ h3 => h d h1 h2 h3)))]
theorem mr_step {S : Md} {z x c a b r : Nat} {T : Nat → Ty} (hch : cl_ch S z) (hx : x < z) (hc : c < z) (hk : kC S c = kC S x) (hcx : c ≠ x) (ha : a < 16) (ea : S.2.2.1 7 x = nI a) (hb : b < 16) (eb : S.2.2.1 7 c = nI b) (hr : rk z x c < r) (hbt : ∀ d, d < z → kC S d = kC S x → rk z x d ≤ rk z x c ∨ r ≤ rk z x d) : ∀ k, k < 256 → va_up (mr_t S z x (rk z x c) T) (a * 16 + b) (ty_add (mr_t S z x (rk z x c) T (a * 16 + b)) (cl_diff S (nI x) (nI c))) k = mr_t S z x r T k := by
  intro k hk2
  have hz4 := hch.2.1
  have hu : ∀ d, d < z → kC S d = kC S x → S.2.2.1 7 d = nI b → d = c := fun d hd h1 h2 => hch.2.2.2.2.2 d c hd hc (h1.trans hk.symm) (h2.trans eb.symm)
  by_cases e : k = a * 16 + b
  · subst e
    have e1 : mri S z x (rk z x c) b = -1 := mr_none (fun d hd h1 h2 _ => by rw [hu d hd h1 h2]; omega)
    have e2 : mri S z x r b = nI c := lastc_at hc (by simp [hk, eb, hcx, hr]) (fun d q1 q2 => by
      simp only [decide_eq_false_iff_not]
      exact fun q => by have := hu d q2 q.1 q.2.1; omega)
    unfold mr_t
    rw [(dv hb).1, (dv hb).2, e1, e2, if_neg (fun q => q.2 rfl), if_pos ⟨ea, nI_m1 (by omega)⟩]
    simp [va_up]
  · rw [show va_up (mr_t S z x (rk z x c) T) (a * 16 + b) (ty_add (mr_t S z x (rk z x c) T (a * 16 + b)) (cl_diff S (nI x) (nI c))) k = mr_t S z x (rk z x c) T k from by simp [va_up, e]]
    unfold mr_t
    by_cases q : S.2.2.1 7 x = nI (k / 16)
    · have q1 : k / 16 = a := (nI_eq (by omega) (by omega)).mp (q.symm.trans ea)
      have q2 : ¬ k % 16 = b := by omega
      have e3 : mri S z x (rk z x c) (k % 16) = mri S z x r (k % 16) := lastc_cong (fun d hd => by
        rw [decide_eq_decide]
        constructor
        · rintro ⟨a1, a2, a3, a4⟩
          exact ⟨a1, a2, a3, by omega⟩
        · rintro ⟨a1, a2, a3, a4⟩
          refine ⟨a1, a2, a3, ?_⟩
          rcases hbt d hd a1 with b1 | b1
          · by_cases b2 : rk z x d = rk z x c
            · have b3 := rk_inj hx hd hc b2
              subst b3
              exact absurd ((nI_eq (by omega) (by omega)).mp (a2.symm.trans eb)) q2
            · omega
          · omega)
      rw [e3]
    · rw [if_neg (fun y => q y.1), if_neg (fun y => q y.1)]
theorem dX4_measureRing_0 : decode cX4_measureRing 0 = .ok (.aload_n 1, 1) := by decide +kernel
theorem dX4_measureRing_1 : decode cX4_measureRing 1 = .ok (.getfield 39, 3) := by decide +kernel
theorem dX4_measureRing_4 : decode cX4_measureRing 4 = .ok (.iload_n 2, 1) := by decide +kernel
theorem dX4_measureRing_5 : decode cX4_measureRing 5 = .ok (.iaload, 1) := by decide +kernel
theorem dX4_measureRing_6 : decode cX4_measureRing 6 = .ok (.istore_n 3, 1) := by decide +kernel
theorem dX4_measureRing_7 : decode cX4_measureRing 7 = .ok (.iconst 0, 1) := by decide +kernel
theorem dX4_measureRing_8 : decode cX4_measureRing 8 = .ok (.istore 4, 2) := by decide +kernel
theorem dX4_measureRing_10 : decode cX4_measureRing 10 = .ok (.iload 4, 2) := by decide +kernel
theorem dX4_measureRing_12 : decode cX4_measureRing 12 = .ok (.aload_n 1, 1) := by decide +kernel
theorem dX4_measureRing_13 : decode cX4_measureRing 13 = .ok (.getfield 25, 3) := by decide +kernel
theorem dX4_measureRing_16 : decode cX4_measureRing 16 = .ok (.if_icmp .ge 54, 3) := by decide +kernel
theorem dX4_measureRing_19 : decode cX4_measureRing 19 = .ok (.iload_n 3, 1) := by decide +kernel
theorem dX4_measureRing_20 : decode cX4_measureRing 20 = .ok (.iload_n 2, 1) := by decide +kernel
theorem dX4_measureRing_21 : decode cX4_measureRing 21 = .ok (.if_icmp .eq 49, 3) := by decide +kernel
theorem dX4_measureRing_24 : decode cX4_measureRing 24 = .ok (.aload_n 1, 1) := by decide +kernel
theorem dX4_measureRing_25 : decode cX4_measureRing 25 = .ok (.iload_n 3, 1) := by decide +kernel
theorem dX4_measureRing_26 : decode cX4_measureRing 26 = .ok (.invokevirtual 43, 3) := by decide +kernel
theorem dX4_measureRing_29 : decode cX4_measureRing 29 = .ok (.ifCond .eq 41, 3) := by decide +kernel
theorem dX4_measureRing_32 : decode cX4_measureRing 32 = .ok (.aload_n 0, 1) := by decide +kernel
theorem dX4_measureRing_33 : decode cX4_measureRing 33 = .ok (.aload_n 1, 1) := by decide +kernel
theorem dX4_measureRing_34 : decode cX4_measureRing 34 = .ok (.getfield 46, 3) := by decide +kernel
theorem dX4_measureRing_37 : decode cX4_measureRing 37 = .ok (.iload_n 2, 1) := by decide +kernel
theorem dX4_measureRing_38 : decode cX4_measureRing 38 = .ok (.iaload, 1) := by decide +kernel
theorem dX4_measureRing_39 : decode cX4_measureRing 39 = .ok (.aload_n 1, 1) := by decide +kernel
theorem dX4_measureRing_40 : decode cX4_measureRing 40 = .ok (.getfield 46, 3) := by decide +kernel
theorem dX4_measureRing_43 : decode cX4_measureRing 43 = .ok (.iload_n 3, 1) := by decide +kernel
theorem dX4_measureRing_44 : decode cX4_measureRing 44 = .ok (.iaload, 1) := by decide +kernel
theorem dX4_measureRing_45 : decode cX4_measureRing 45 = .ok (.invokevirtual 49, 3) := by decide +kernel
theorem dX4_measureRing_48 : decode cX4_measureRing 48 = .ok (.aload_n 1, 1) := by decide +kernel
theorem dX4_measureRing_49 : decode cX4_measureRing 49 = .ok (.iload_n 2, 1) := by decide +kernel
theorem dX4_measureRing_50 : decode cX4_measureRing 50 = .ok (.iload_n 3, 1) := by decide +kernel
theorem dX4_measureRing_51 : decode cX4_measureRing 51 = .ok (.invokevirtual 53, 3) := by decide +kernel
theorem dX4_measureRing_54 : decode cX4_measureRing 54 = .ok (.invokevirtual 57, 3) := by decide +kernel
theorem dX4_measureRing_57 : decode cX4_measureRing 57 = .ok (.aload_n 1, 1) := by decide +kernel
theorem dX4_measureRing_58 : decode cX4_measureRing 58 = .ok (.getfield 39, 3) := by decide +kernel
theorem dX4_measureRing_61 : decode cX4_measureRing 61 = .ok (.iload_n 3, 1) := by decide +kernel
theorem dX4_measureRing_62 : decode cX4_measureRing 62 = .ok (.iaload, 1) := by decide +kernel
theorem dX4_measureRing_63 : decode cX4_measureRing 63 = .ok (.istore_n 3, 1) := by decide +kernel
theorem dX4_measureRing_64 : decode cX4_measureRing 64 = .ok (.iinc 4 1, 3) := by decide +kernel
theorem dX4_measureRing_67 : decode cX4_measureRing 67 = .ok (.goto (-57), 3) := by decide +kernel
theorem dX4_measureRing_70 : decode cX4_measureRing 70 = .ok (.return_, 1) := by decide +kernel
set_option maxRecDepth 100000 in
set_option maxHeartbeats 4000000 in
theorem e_X4_measureRing {h g : ai_H} {S : Md} {T U : Nat → Ty} {x : Nat} {i : Int32} (E0 : xm h g) (hcl : cl_at g S) (hmt : mt_at g U) : ai_W MX4_measureRing 10 [.ref 35, .ref 22, .int (nI x), .int (nI x), .int i] [] g (fun r g => r = none ∧ xm h g ∧ cl_at g S ∧ mt_at g U) := by
  refine wq (fun _ _ kk => rs_iload (pc := 10) dX4_measureRing_10 rfl kk) ?_
  refine wq (fun _ _ kk => rs_aload_n (pc := 12) dX4_measureRing_12 rfl kk) ?_
  refine wq (fun _ _ kk => rs_getf (pc := 13) dX4_measureRing_13 fX4_25 (mo_lt hcl (by decide)) hcl.2.1 rfl kk) ?_
  refine wq_br (fun _ _ kt kf => rs_icmp_ge (tgt := 70) (pc := 16) dX4_measureRing_16 rfl kt kf) (fun c_16 => ?_) (fun c_16 => ?_)
  · refine wq_ret ?_ (rs_vret (pc := 70) dX4_measureRing_70 rfl)
    exact ⟨rfl, E0, hcl, hmt⟩
  · refine wq (fun _ _ kk => rs_iload_n (pc := 19) dX4_measureRing_19 rfl kk) ?_
    refine wq (fun _ _ kk => rs_iload_n (pc := 20) dX4_measureRing_20 rfl kk) ?_
    refine wq_br (fun _ _ kt kf => rs_icmp_eq (tgt := 70) (pc := 21) dX4_measureRing_21 rfl kt kf) (fun c_21 => ?_) (fun c_21 => absurd c_21 (fun y => y rfl))
    refine wq_ret ?_ (rs_vret (pc := 70) dX4_measureRing_70 rfl)
    exact ⟨rfl, E0, hcl, hmt⟩
set_option maxRecDepth 100000 in
set_option maxHeartbeats 4000000 in
theorem l_X4_measureRing {h : ai_H} {S : Md} {T : Nat → Ty} {z x : Nat} (hch : cl_ch S z) (hob : ∀ c, c < z → ∃ o, o < 16 ∧ S.2.2.1 7 c = nI o) (hx : x < z) : ∀ (m i c : Nat) (g : ai_H), c < z → kC S c = kC S x → c ≠ x → z + 1 ≤ rk z x c + m → i < rk z x c → xm h g → cl_at g S → mt_at g (mr_t S z x (rk z x c) T) → ai_W MX4_measureRing 10 [.ref 35, .ref 22, .int (nI x), .int (nI c), .int (nI i)] [] g (fun r g => r = none ∧ xm h g ∧ cl_at g S ∧ mt_at g (mr_t S z x z T)) := by
  have hz4 := hch.2.1
  obtain ⟨a, ha, ea⟩ := hob x hx
  intro m
  induction m with
  | zero => intro i c g h1 h2 h3 h4; exact absurd h4 (by have := rk_lt hx h1; omega)
  | succ m ih =>
    intro i c g hc hk hcx him hir E0 hcl hmt
    have hrk := rk_lt hx hc
    obtain ⟨b, hb, eb⟩ := hob c hc
    obtain ⟨c', hc', ebs, hk', hnx⟩ := nx hch hx hc hk
    refine wq (fun _ _ kk => rs_iload (pc := 10) dX4_measureRing_10 rfl kk) ?_
    refine wq (fun _ _ kk => rs_aload_n (pc := 12) dX4_measureRing_12 rfl kk) ?_
    refine wq (fun _ _ kk => rs_getf (pc := 13) dX4_measureRing_13 fX4_25 (mo_lt hcl (by decide)) hcl.2.1 rfl kk) ?_
    refine wq_br (fun _ _ kt kf => rs_icmp_ge (tgt := 70) (pc := 16) dX4_measureRing_16 rfl kt kf) (fun c_16 => absurd c_16 (fun y => by have := lp_exit (i := i) (sz := z) hch.1 (by omega) (by omega) y; omega)) (fun c_16 => ?_)
    refine wq (fun _ _ kk => rs_iload_n (pc := 19) dX4_measureRing_19 rfl kk) ?_
    refine wq (fun _ _ kk => rs_iload_n (pc := 20) dX4_measureRing_20 rfl kk) ?_
    refine wq_br (fun _ _ kt kf => rs_icmp_eq (tgt := 70) (pc := 21) dX4_measureRing_21 rfl kt kf) (fun c_21 => absurd c_21 (fun y => hcx ((nI_eq (by omega) (by omega)).mp y))) (fun c_21 => ?_)
    refine wq (fun _ _ kk => rs_aload_n (pc := 24) dX4_measureRing_24 rfl kk) ?_
    refine wq (fun _ _ kk => rs_iload_n (pc := 25) dX4_measureRing_25 rfl kk) ?_
    refine wq (fun _ _ kk => rs_callV (as := [_]) (pc := 26) dX4_measureRing_26 mk_X2_has mlX4_43 in_X2_has se_X2_has rfl (mo_lt hcl (by decide)) hcl.2.1 rfl rfl (Nat.le_of_ble_eq_true rfl) (c_X2_has hcl _) kk) ?_
    refine wq_br (fun _ _ kt kf => rs_if_eq (tgt := 70) (pc := 29) dX4_measureRing_29 rfl kt kf) (fun c_29 => absurd c_29 (by rw [has_1 hch.1 hz4 hc]; decide)) (fun c_29 => ?_)
    refine wq (fun _ _ kk => rs_aload_n (pc := 32) dX4_measureRing_32 rfl kk) ?_
    refine wq (fun _ _ kk => rs_aload_n (pc := 33) dX4_measureRing_33 rfl kk) ?_
    refine wq (fun _ _ kk => rs_getf (pc := 34) dX4_measureRing_34 fX4_46 (mo_lt hcl (by decide)) hcl.2.1 rfl kk) ?_
    refine wq (fun _ _ kk => rs_iload_n (pc := 37) dX4_measureRing_37 rfl kk) ?_
    refine wq (fun _ _ kk => rs_iald (pc := 38) dX4_measureRing_38 (mo_lt hcl (by decide)) (mo_geti (d := 6) (k := 7) (kd := 0) (l := 400) rfl (by decide) hcl) (vp_in_nI (n := x) (N := 400) (by omega) (by decide)) kk) ?_
    rw [nI_clamp (show x < 2 ^ 31 by omega), ea]
    refine wq (fun _ _ kk => rs_aload_n (pc := 39) dX4_measureRing_39 rfl kk) ?_
    refine wq (fun _ _ kk => rs_getf (pc := 40) dX4_measureRing_40 fX4_46 (mo_lt hcl (by decide)) hcl.2.1 rfl kk) ?_
    refine wq (fun _ _ kk => rs_iload_n (pc := 43) dX4_measureRing_43 rfl kk) ?_
    refine wq (fun _ _ kk => rs_iald (pc := 44) dX4_measureRing_44 (mo_lt hcl (by decide)) (mo_geti (d := 6) (k := 7) (kd := 0) (l := 400) rfl (by decide) hcl) (vp_in_nI (n := c) (N := 400) (by omega) (by decide)) kk) ?_
    rw [nI_clamp (show c < 2 ^ 31 by omega), eb]
    refine wq (fun _ _ kk => rs_callV (as := [_, _]) (pc := 45) dX4_measureRing_45 mk_X4_of mlX4_49 in_X4_of se_X4_of rfl (mt_lt hmt (by decide)) hmt.2.1 rfl rfl (Nat.le_of_ble_eq_true rfl) (c_X4_of hmt ha hb) kk) ?_
    refine wq (fun _ _ kk => rs_aload_n (pc := 48) dX4_measureRing_48 rfl kk) ?_
    refine wq (fun _ _ kk => rs_iload_n (pc := 49) dX4_measureRing_49 rfl kk) ?_
    refine wq (fun _ _ kk => rs_iload_n (pc := 50) dX4_measureRing_50 rfl kk) ?_
    refine wq (fun _ _ kk => rs_callV (as := [_, _]) (pc := 51) dX4_measureRing_51 mk_X2_difference mlX4_53 in_X2_difference se_X2_difference rfl (mo_lt hcl (by decide)) hcl.2.1 rfl rfl (Nat.le_of_ble_eq_true rfl) (c_X2_difference hcl hch.sz _ _) kk) ?_
    obtain ⟨rv_54, hc_54, ⟨rfl, ee_54, hmt_54, oo_54⟩, hm_54⟩ := c_mt_add hmt (show a * 16 + b < 256 by omega) (cl_diff S (nI x) (nI c))
    refine wq (fun _ _ kk => rs_callV (as := [_]) (pc := 54) dX4_measureRing_54 mk_X9_add mlX4_57 in_X9_add se_X9_add rfl (mt_lt hmt (by omega)) (hmt.2.2.2.2 (a * 16 + b) (by omega)) rfl rfl (Nat.le_of_ble_eq_true rfl) (hm_54) kk) ?_
    replace hmt := hmt_54
    replace hcl := mo_keep hcl ee_54.1 (fun j _ z => oo_54 j (Or.inl (Nat.lt_of_le_of_lt z (by decide))))
    refine wq (fun _ _ kk => rs_aload_n (pc := 57) dX4_measureRing_57 rfl kk) ?_
    refine wq (fun _ _ kk => rs_getf (pc := 58) dX4_measureRing_58 fX4_39 (mo_lt hcl (by decide)) hcl.2.1 rfl kk) ?_
    refine wq (fun _ _ kk => rs_iload_n (pc := 61) dX4_measureRing_61 rfl kk) ?_
    refine wq (fun _ _ kk => rs_iald (pc := 62) dX4_measureRing_62 (mo_lt hcl (by decide)) (mo_geti (d := 2) (k := 3) (kd := 0) (l := 400) rfl (by decide) hcl) (vp_in_nI (n := c) (N := 400) (by omega) (by decide)) kk) ?_
    rw [nI_clamp (show c < 2 ^ 31 by omega), ebs]
    refine wq (fun _ _ kk => wk_istn3 (pc := 63) dX4_measureRing_63 (by decide) rfl kk) ?_
    refine wq (fun _ _ kk => wk_iinc4 (v := nI (i + 1)) (pc := 64) dX4_measureRing_64 (by decide) rfl (nI_1 i) kk) ?_
    refine wq (fun _ _ kk => rs_goto (tgt := 10) (pc := 67) dX4_measureRing_67 rfl kk) ?_
    rcases hnx with ⟨q1, q2⟩ | ⟨q1, q2, q3⟩
    · subst q1
      exact e_X4_measureRing (T := T) (E0.trans ee_54) hcl (mt_cong (mr_step hch hx hc hk hcx ha ea hb eb hrk (fun d hd he => Or.inl (q2 d hd he))) hmt)
    · exact ih (i + 1) c' _ hc' hk' q1 (by omega) (by omega) (E0.trans ee_54) hcl (mt_cong (mr_step hch hx hc hk hcx ha ea hb eb q2 q3) hmt)
set_option maxRecDepth 100000 in
set_option maxHeartbeats 4000000 in
theorem c_X4_measureRing {h : ai_H} {S : Md} {T : Nat → Ty} {z x : Nat} (hch : cl_ch S z) (hob : ∀ c, c < z → ∃ o, o < 16 ∧ S.2.2.1 7 c = nI o) (hx : x < z) (hcl : cl_at h S) (hmt : mt_at h T) : ai_QM MX4_measureRing [.ref 35, .ref 22, .int (nI x)] h (fun r g => r = none ∧ xm h g ∧ cl_at g S ∧ mt_at g (mr_t S z x z T)) := by
  have hz4 := hch.2.1
  obtain ⟨c', hc', ebs, hk', hnx⟩ := nx hch hx hx rfl
  refine qm_of (ls := [.ref 35, .ref 22, .int (nI x), .float 0, .float 0]) (by decide) (by simp [ai_en, Value.category]) (by rfl) ?_
  refine wq (fun _ _ kk => rs_aload_n (pc := 0) dX4_measureRing_0 rfl kk) ?_
  refine wq (fun _ _ kk => rs_getf (pc := 1) dX4_measureRing_1 fX4_39 (mo_lt hcl (by decide)) hcl.2.1 rfl kk) ?_
  refine wq (fun _ _ kk => rs_iload_n (pc := 4) dX4_measureRing_4 rfl kk) ?_
  refine wq (fun _ _ kk => rs_iald (pc := 5) dX4_measureRing_5 (mo_lt hcl (by decide)) (mo_geti (d := 2) (k := 3) (kd := 0) (l := 400) rfl (by decide) hcl) (vp_in_nI (n := x) (N := 400) (by omega) (by decide)) kk) ?_
  rw [nI_clamp (show x < 2 ^ 31 by omega), ebs]
  refine wq (fun _ _ kk => wk_istn3 (pc := 6) dX4_measureRing_6 (by decide) rfl kk) ?_
  refine wq (fun _ _ kk => rs_iconst (v := 0) (pc := 7) dX4_measureRing_7 rfl kk) ?_
  refine wq (fun _ _ kk => wk_ist4 (pc := 8) dX4_measureRing_8 (by decide) rfl kk) ?_
  have h0 : ∀ d, d < z → kC S d = kC S x → ¬ d = x → 0 < rk z x d := fun d hd _ hne => by
    rcases Nat.eq_zero_or_pos (rk z x d) with y | y
    · exact absurd (rk_inj hx hd hx (y.trans rk_x.symm)) hne
    · exact y
  rw [rk_x] at hnx
  rcases hnx with ⟨q1, q2⟩ | ⟨q1, q2, q3⟩
  · subst q1
    refine e_X4_measureRing (T := T) xm.rf hcl ?_
    rw [mr_0 (fun d h1 h2 h3 h4 => by have := q2 d h1 h2; have := h0 d h1 h2 h3; omega)]
    exact hmt
  · refine l_X4_measureRing hch hob hx (z + 1) 0 c' _ hc' hk' q1 (by omega) (by omega) xm.rf hcl ?_
    rw [mr_0 (fun d h1 h2 h3 h4 => by have := q3 d h1 h2; have := h0 d h1 h2 h3; omega)]
    exact hmt
def mt_p (S : Md) (z k c : Nat) : Bool := decide (¬ S.2.2.1 6 c = 3 ∧ S.2.2.1 7 c = nI (k / 16) ∧ ¬ k % 16 = k / 16 ∧ ¬ mo S z c (nI (k % 16)) = -1)
def mc_d (S : Md) (z c k : Nat) : Int64 := cl_diff S (nI c) (mo S z c (nI (k % 16)))
/-- the tallies of the first n sights -/
def mt_G (S : Md) (z n : Nat) : Nat → Ty := fun k => ty_fold (mt_p S z k) (fun c => mc_d S z c k) n
def mt_F (S : Md) (z : Nat) : Nat → Ty := mt_G S z z
theorem mt_G_no {S : Md} {z n : Nat} (h : S.2.2.1 6 n = 3) : mt_G S z (n + 1) = mt_G S z n := by
  funext k
  unfold mt_G
  rw [ty_fold, if_neg (by simp [mt_p, h])]
theorem mt_G_yes {S : Md} {z n : Nat} (hch : cl_ch S z) (hn : n < z) (h : ¬ S.2.2.1 6 n = 3) : ∀ k, k < 256 → mr_t S z n z (mt_G S z n) k = mt_G S z (n + 1) k := by
  intro k hk
  unfold mt_G
  rw [ty_fold]
  unfold mr_t
  by_cases q : S.2.2.1 7 n = nI (k / 16)
  · by_cases e : k % 16 = k / 16
    · rw [if_neg (fun y => y.2 (mr_none (fun d hd h1 h2 h3 => absurd (hch.2.2.2.2.2 d n hd hn h1 (by rw [h2, q, e])) h3))), if_neg (by simp [mt_p, e])]
    · have e1 : mri S z n z (k % 16) = mo S z n (nI (k % 16)) := lastc_cong (fun d hd => by
        rw [decide_eq_decide]
        constructor
        · rintro ⟨a1, a2, -, -⟩
          exact ⟨a1, a2⟩
        · rintro ⟨a1, a2⟩
          refine ⟨a1, a2, fun y => ?_, rk_lt hn hd⟩
          subst y
          exact e ((nI_eq (by omega) (by omega)).mp (a2.symm.trans q)))
      rw [e1]
      by_cases p : mo S z n (nI (k % 16)) = -1
      · rw [if_neg (fun y => y.2 p), if_neg (by simp [mt_p, p])]
      · rw [if_pos ⟨q, p⟩, if_pos (by simp [mt_p, h, q, e, p])]
        rfl
  · rw [if_neg (fun y => q y.1), if_neg (by simp [mt_p, q])]
def mt_Z (T : Nat → Ty) (k : Nat) : Nat → Ty := fun i => if i < k then (0, 0, 0, 0) else T i
theorem mt_Z_s (T : Nat → Ty) (k : Nat) : va_up (mt_Z T k) k (0, 0, 0, 0) = mt_Z T (k + 1) := by
  funext i
  unfold mt_Z va_up
  by_cases h : i = k
  · subst h; rw [if_pos rfl, if_pos (Nat.lt_succ_self i)]
  · rw [if_neg h]
    show (if i < k then ((0, 0, 0, 0) : Ty) else T i) = _
    by_cases h2 : i < k
    · rw [if_pos h2, if_pos (by omega)]
    · rw [if_neg h2, if_neg (by omega)]
theorem dX4_measure_0 : decode cX4_measure 0 = .ok (.iconst 0, 1) := by decide +kernel
theorem dX4_measure_1 : decode cX4_measure 1 = .ok (.istore_n 2, 1) := by decide +kernel
theorem dX4_measure_2 : decode cX4_measure 2 = .ok (.iload_n 2, 1) := by decide +kernel
theorem dX4_measure_3 : decode cX4_measure 3 = .ok (.aload_n 0, 1) := by decide +kernel
theorem dX4_measure_4 : decode cX4_measure 4 = .ok (.getfield 11, 3) := by decide +kernel
theorem dX4_measure_7 : decode cX4_measure 7 = .ok (.arraylength, 1) := by decide +kernel
theorem dX4_measure_8 : decode cX4_measure 8 = .ok (.if_icmp .ge 18, 3) := by decide +kernel
theorem dX4_measure_11 : decode cX4_measure 11 = .ok (.aload_n 0, 1) := by decide +kernel
theorem dX4_measure_12 : decode cX4_measure 12 = .ok (.getfield 11, 3) := by decide +kernel
theorem dX4_measure_15 : decode cX4_measure 15 = .ok (.iload_n 2, 1) := by decide +kernel
theorem dX4_measure_16 : decode cX4_measure 16 = .ok (.aaload, 1) := by decide +kernel
theorem dX4_measure_17 : decode cX4_measure 17 = .ok (.invokevirtual 22, 3) := by decide +kernel
theorem dX4_measure_20 : decode cX4_measure 20 = .ok (.iinc 2 1, 3) := by decide +kernel
theorem dX4_measure_23 : decode cX4_measure 23 = .ok (.goto (-21), 3) := by decide +kernel
theorem dX4_measure_26 : decode cX4_measure 26 = .ok (.iconst 0, 1) := by decide +kernel
theorem dX4_measure_27 : decode cX4_measure 27 = .ok (.istore_n 2, 1) := by decide +kernel
theorem dX4_measure_28 : decode cX4_measure 28 = .ok (.iload_n 2, 1) := by decide +kernel
theorem dX4_measure_29 : decode cX4_measure 29 = .ok (.aload_n 1, 1) := by decide +kernel
theorem dX4_measure_30 : decode cX4_measure 30 = .ok (.getfield 25, 3) := by decide +kernel
theorem dX4_measure_33 : decode cX4_measure 33 = .ok (.if_icmp .ge 23, 3) := by decide +kernel
theorem dX4_measure_36 : decode cX4_measure 36 = .ok (.aload_n 1, 1) := by decide +kernel
theorem dX4_measure_37 : decode cX4_measure 37 = .ok (.iload_n 2, 1) := by decide +kernel
theorem dX4_measure_38 : decode cX4_measure 38 = .ok (.invokevirtual 31, 3) := by decide +kernel
theorem dX4_measure_41 : decode cX4_measure 41 = .ok (.ifCond .ne 9, 3) := by decide +kernel
theorem dX4_measure_44 : decode cX4_measure 44 = .ok (.aload_n 0, 1) := by decide +kernel
theorem dX4_measure_45 : decode cX4_measure 45 = .ok (.aload_n 1, 1) := by decide +kernel
theorem dX4_measure_46 : decode cX4_measure 46 = .ok (.iload_n 2, 1) := by decide +kernel
theorem dX4_measure_47 : decode cX4_measure 47 = .ok (.invokevirtual 35, 3) := by decide +kernel
theorem dX4_measure_50 : decode cX4_measure 50 = .ok (.iinc 2 1, 3) := by decide +kernel
theorem dX4_measure_53 : decode cX4_measure 53 = .ok (.goto (-25), 3) := by decide +kernel
theorem dX4_measure_56 : decode cX4_measure 56 = .ok (.return_, 1) := by decide +kernel
set_option maxRecDepth 100000 in
set_option maxHeartbeats 4000000 in
theorem l1_X4_measure {h : ai_H} {S : Md} {T : Nat → Ty} {z : Nat} {Q : Option Value → ai_H → Prop} (kx : ∀ g : ai_H, xm h g → cl_at g S → mt_at g (mt_G S z 0) → ai_W MX4_measure 28 [.ref 35, .ref 22, .int 0] [] g Q) : ∀ (m k : Nat) (g : ai_H), k ≤ 256 → 257 ≤ k + m → xm h g → cl_at g S → mt_at g (mt_Z T k) → ai_W MX4_measure 2 [.ref 35, .ref 22, .int (nI k)] [] g Q := by
  intro m
  induction m with
  | zero => intro k g h1 h2; exact absurd h2 (by omega)
  | succ m ih =>
    intro k g hk0 him E0 hcl hmt
    refine wq (fun _ _ kk => rs_iload_n (pc := 2) dX4_measure_2 rfl kk) ?_
    refine wq (fun _ _ kk => rs_aload_n (pc := 3) dX4_measure_3 rfl kk) ?_
    refine wq (fun _ _ kk => rs_getf (pc := 4) dX4_measure_4 fX4_11 (mt_lt hmt (by decide)) hmt.2.1 rfl kk) ?_
    refine wq (fun _ _ kk => rs_alen (pc := 7) dX4_measure_7 (fun _ => rfl) (mt_lt hmt (by decide)) hmt.2.2.1 rfl kk) ?_
    refine wq_br (fun _ _ kt kf => rs_icmp_ge (tgt := 26) (pc := 8) dX4_measure_8 rfl kt kf) (fun c_8 => ?_) (fun c_8 => ?_)
    · have hke : k = 256 := lp_exit (sz := 256) rfl (by decide) hk0 c_8
      subst hke
      refine wq (fun _ _ kk => rs_iconst (v := 0) (pc := 26) dX4_measure_26 rfl kk) ?_
      refine wq (fun _ _ kk => wk_istn2 (pc := 27) dX4_measure_27 (by decide) rfl kk) ?_
      exact kx _ E0 hcl (mt_cong (fun i hi => by unfold mt_Z mt_G; rw [if_pos hi]; rfl) hmt)
    · have hk : k < 256 := lp_go (sz := 256) rfl (by omega) c_8
      refine wq (fun _ _ kk => rs_aload_n (pc := 11) dX4_measure_11 rfl kk) ?_
      refine wq (fun _ _ kk => rs_getf (pc := 12) dX4_measure_12 fX4_11 (mt_lt hmt (by decide)) hmt.2.1 rfl kk) ?_
      refine wq (fun _ _ kk => rs_iload_n (pc := 15) dX4_measure_15 rfl kk) ?_
      refine wq (fun _ _ kk => rs_aald (pc := 16) dX4_measure_16 (fun _ => rfl) (mt_lt hmt (by decide)) hmt.2.2.1 (vp_in_nI (n := k) (N := 256) hk (by decide)) kk) ?_
      rw [nI_clamp (show k < 2 ^ 31 by omega), mt_row_at hk]
      show ai_W MX4_measure 17 [.ref 35, .ref 22, .int (nI k)] [.ref (38 + k)] g _
      obtain ⟨rv_17, hc_17, ⟨rfl, ee_17, hmt_17, oo_17⟩, hm_17⟩ := c_mt_clear hmt hk
      refine wq (fun _ _ kk => rs_callV (as := []) (pc := 17) dX4_measure_17 mk_X9_clear mlX4_22 in_X9_clear se_X9_clear rfl (mt_lt hmt (by omega)) (hmt.2.2.2.2 k hk) rfl rfl (Nat.le_of_ble_eq_true rfl) (hm_17) kk) ?_
      replace hmt := hmt_17
      replace hcl := mo_keep hcl ee_17.1 (fun j _ z => oo_17 j (Or.inl (Nat.lt_of_le_of_lt z (by decide))))
      refine wq (fun _ _ kk => wk_iinc2 (v := nI (k + 1)) (pc := 20) dX4_measure_20 (by decide) rfl (nI_1 k) kk) ?_
      refine wq (fun _ _ kk => rs_goto (tgt := 2) (pc := 23) dX4_measure_23 rfl kk) ?_
      exact ih (k + 1) _ (by omega) (by omega) (E0.trans ee_17) hcl (by rw [← mt_Z_s]; exact hmt)
set_option maxRecDepth 100000 in
set_option maxHeartbeats 4000000 in
theorem l2_X4_measure {h : ai_H} {S : Md} {z : Nat} (hch : cl_ch S z) (hob : ∀ c, c < z → ∃ o, o < 16 ∧ S.2.2.1 7 c = nI o) : ∀ (m c : Nat) (g : ai_H), c ≤ z → z + 1 ≤ c + m → xm h g → cl_at g S → mt_at g (mt_G S z c) → ai_W MX4_measure 28 [.ref 35, .ref 22, .int (nI c)] [] g (fun r g => r = none ∧ xm h g ∧ cl_at g S ∧ mt_at g (mt_F S z)) := by
  have hz4 := hch.2.1
  intro m
  induction m with
  | zero => intro c g h1 h2; exact absurd h2 (by omega)
  | succ m ih =>
    intro c g hc0 him E0 hcl hmt
    refine wq (fun _ _ kk => rs_iload_n (pc := 28) dX4_measure_28 rfl kk) ?_
    refine wq (fun _ _ kk => rs_aload_n (pc := 29) dX4_measure_29 rfl kk) ?_
    refine wq (fun _ _ kk => rs_getf (pc := 30) dX4_measure_30 fX4_25 (mo_lt hcl (by decide)) hcl.2.1 rfl kk) ?_
    refine wq_br (fun _ _ kt kf => rs_icmp_ge (tgt := 56) (pc := 33) dX4_measure_33 rfl kt kf) (fun c_33 => ?_) (fun c_33 => ?_)
    · have hce : c = z := lp_exit hch.1 (by omega) hc0 c_33
      subst hce
      refine wq_ret ?_ (rs_vret (pc := 56) dX4_measure_56 rfl)
      exact ⟨rfl, E0, hcl, hmt⟩
    · have hc : c < z := lp_go hch.1 (by omega) c_33
      refine wq (fun _ _ kk => rs_aload_n (pc := 36) dX4_measure_36 rfl kk) ?_
      refine wq (fun _ _ kk => rs_iload_n (pc := 37) dX4_measure_37 rfl kk) ?_
      refine wq (fun _ _ kk => rs_callV (as := [_]) (pc := 38) dX4_measure_38 mk_X2_isFeigned mlX4_31 in_X2_isFeigned se_X2_isFeigned rfl (mo_lt hcl (by decide)) hcl.2.1 rfl rfl (Nat.le_of_ble_eq_true rfl) (c_X2_isFeigned hcl hch.sz _) kk) ?_
      rw [fg_at hch hc]
      refine wq_bn (fun _ _ kt kf => rs_if_ne (tgt := 50) (pc := 41) dX4_measure_41 rfl kt kf) (fun c_41 => ?_) (fun c_41 => ?_)
      · rw [ite10, Classical.not_not] at c_41
        refine wq (fun _ _ kk => wk_iinc2 (v := nI (c + 1)) (pc := 50) dX4_measure_50 (by decide) rfl (nI_1 c) kk) ?_
        refine wq (fun _ _ kk => rs_goto (tgt := 28) (pc := 53) dX4_measure_53 rfl kk) ?_
        first
        | exact ih (c + 1) _ (by omega) (by omega) (E0.trans ee_47) hcl (mt_cong (mt_G_yes hch hc c_41) hmt)
        | exact ih (c + 1) _ (by omega) (by omega) E0 hcl (by rw [mt_G_no c_41]; exact hmt)
      · rw [ite10] at c_41
        refine wq (fun _ _ kk => rs_aload_n (pc := 44) dX4_measure_44 rfl kk) ?_
        refine wq (fun _ _ kk => rs_aload_n (pc := 45) dX4_measure_45 rfl kk) ?_
        refine wq (fun _ _ kk => rs_iload_n (pc := 46) dX4_measure_46 rfl kk) ?_
        obtain ⟨rv_47, hc_47, ⟨rfl, ee_47, hcl_47, hmt_47⟩, hm_47⟩ := c_X4_measureRing hch hob hc hcl hmt
        refine wq (fun _ _ kk => rs_callV (as := [_, _]) (pc := 47) dX4_measure_47 mk_X4_measureRing mlX4_35 in_X4_measureRing se_X4_measureRing rfl (mt_lt hmt (by decide)) hmt.2.1 rfl rfl (Nat.le_of_ble_eq_true rfl) (hm_47) kk) ?_
        replace hmt := hmt_47
        replace hcl := hcl_47
        refine wq (fun _ _ kk => wk_iinc2 (v := nI (c + 1)) (pc := 50) dX4_measure_50 (by decide) rfl (nI_1 c) kk) ?_
        refine wq (fun _ _ kk => rs_goto (tgt := 28) (pc := 53) dX4_measure_53 rfl kk) ?_
        first
        | exact ih (c + 1) _ (by omega) (by omega) (E0.trans ee_47) hcl (mt_cong (mt_G_yes hch hc c_41) hmt)
        | exact ih (c + 1) _ (by omega) (by omega) E0 hcl (by rw [mt_G_no c_41]; exact hmt)
set_option maxRecDepth 100000 in
set_option maxHeartbeats 4000000 in
theorem c_X4_measure {h : ai_H} {S : Md} {T : Nat → Ty} {z : Nat} (hch : cl_ch S z) (hob : ∀ c, c < z → ∃ o, o < 16 ∧ S.2.2.1 7 c = nI o) (hcl : cl_at h S) (hmt : mt_at h T) : ai_QM MX4_measure [.ref 35, .ref 22] h (fun r g => r = none ∧ xm h g ∧ cl_at g S ∧ mt_at g (mt_F S z)) := by
  refine qm_of (ls := [.ref 35, .ref 22, .float 0]) (by decide) (by simp [ai_en, Value.category]) (by rfl) ?_
  refine wq (fun _ _ kk => rs_iconst (v := 0) (pc := 0) dX4_measure_0 rfl kk) ?_
  refine wq (fun _ _ kk => wk_istn2 (pc := 1) dX4_measure_1 (by decide) rfl kk) ?_
  refine l1_X4_measure (h := h) (T := T) (z := z) ?_ 257 0 _ (by omega) (by omega) xm.rf hcl (mt_cong (fun i hi => by unfold mt_Z; rw [if_neg (Nat.not_lt_zero i)]) hmt)
  intro g E hcl hmt
  exact l2_X4_measure hch hob (z + 1) 0 g (by omega) (by omega) E hcl hmt
