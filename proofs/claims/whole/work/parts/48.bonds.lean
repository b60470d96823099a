/-! 48: Bonds (walks laid by wip/whole/p48.py) -/
def bx (h g : ai_H) : Prop := g.1 = h.1 ∧ g.2.1 = h.2.1 ∧ ∀ j, (j < 298 ∨ 300 < j) → g.2.2 j = h.2.2 j
theorem bx.rf {h : ai_H} : bx h h := ⟨rfl, rfl, fun _ _ => rfl⟩
theorem bx.trans {h g k : ai_H} (a : bx h g) (b : bx g k) : bx h k := ⟨b.1.trans a.1, b.2.1.trans a.2.1, fun j hj => (b.2.2 j hj).trans (a.2.2 j hj)⟩
theorem bx_of {h g : ai_H} {q : Nat} (m : g.1 = h.1) (s : g.2.1 = h.2.1) (o : ∀ j, j ≠ q → g.2.2 j = h.2.2 j) (hq : 298 ≤ q ∧ q ≤ 300) : bx h g := ⟨m, s, fun j hj => o j (by omega)⟩
theorem bx.f {h g : ai_H} (a : bx h g) : fr 298 300 h g := a
theorem bi_in_n1 : ∀ n : Nat, n < 17 → ∀ a : Nat, a < n → bi_in (nI a) 0 (nI n - 1) = 1 := by decide +kernel
theorem if_01 {p : Prop} [Decidable p] : (if p then (0 : Int32) else 1) = 0 ↔ p := by
  by_cases q : p
  · rw [if_pos q]; exact ⟨fun _ => q, fun _ => rfl⟩
  · rw [if_neg q]; exact ⟨fun z => absurd z (by decide), fun z => absurd z q⟩
theorem half_nI {p : Nat} (h : p ≤ 100000) : nI (2 * p) / 2 = nI p := by
  rw [← aI_nat, show (2 : Int32) = aI 2 from rfl, aI_quo (by omega) (by omega) (by decide) (by decide), ← aI_nat]
  exact congrArg aI (by omega)
theorem cR_iff {X : Nat → Nat → Prop} {i j : Nat} : cR X i j = true ↔ clo X i j := cd_iff
theorem mm16 : ∀ n : Nat, n < 17 → bi_maxI 0 (bi_minI (nI n) 16) = nI n := by decide +kernel
/-- the masks, some of them set to m -/
def bnd (n : Nat) (p f : Nat → Int32) (m i : Nat) (S : Md) : Prop := S.1 0 = nI n ∧ S.2.2.1 1 = p ∧ ∀ t, t < n → S.2.2.1 2 t = if t < i ∧ m.testBit t = true then nI m else f t
theorem bnd_y {n : Nat} {p f : Nat → Int32} {m i : Nat} {S : Md} (h : bnd n p f m i S) (hb : m.testBit i = true) : bnd n p f m (i + 1) (md_ai S 2 (upd (S.2.2.1 2) i (nI m))) := by
  refine ⟨h.1, h.2.1, fun t ht => ?_⟩
  show upd (S.2.2.1 2) i (nI m) t = _
  by_cases e : t = i
  · subst e; rw [if_pos ⟨by omega, hb⟩]; simp [upd]
  · simp only [upd, if_neg e]
    rw [h.2.2 t ht]
    by_cases c : t < i ∧ m.testBit t = true
    · rw [if_pos c, if_pos ⟨by omega, c.2⟩]
    · rw [if_neg c, if_neg (fun z => c ⟨by omega, z.2⟩)]
theorem bnd_n {n : Nat} {p f : Nat → Int32} {m i : Nat} {S : Md} (h : bnd n p f m i S) (hb : ¬ m.testBit i = true) : bnd n p f m (i + 1) S := by
  refine ⟨h.1, h.2.1, fun t ht => ?_⟩
  rw [h.2.2 t ht]
  by_cases c : t < i ∧ m.testBit t = true
  · rw [if_pos c, if_pos ⟨by omega, c.2⟩]
  · rw [if_neg c, if_neg (fun z => c ⟨by by_cases e : t = i; exact absurd (e ▸ z.2) hb; omega, z.2⟩)]
def bgn (n i : Nat) (S : Md) : Prop := S.1 0 = nI n ∧ ∀ t, t < i → S.2.2.1 2 t = nI (2 ^ t)
theorem bgn_1 {n i : Nat} {S : Md} (h : bgn n i S) : bgn n (i + 1) (md_ai S 2 (upd (S.2.2.1 2) i (nI (2 ^ i)))) := by
  refine ⟨h.1, fun t ht => ?_⟩
  show upd (S.2.2.1 2) i (nI (2 ^ i)) t = _
  by_cases e : t = i
  · subst e; simp [upd]
  · simp only [upd, if_neg e]
    exact h.2 t (by omega)
theorem FE_of {n : Nat} {f g : Nat → Int32} {R : Nat → Nat → Prop} (h : FE n f R) (e : ∀ i, i < n → g i = f i) : FE n g R := fun i hi => by rw [e i hi]; exact h i hi
theorem FE_cp {n : Nat} {f g : Nat → Int32} {R : Nat → Nat → Prop} (h : FE n f R) (hn : n ≤ 16) : FE n (va_cpy f g (0 : Int32).toNatClampNeg (0 : Int32).toNatClampNeg (nI n).toNatClampNeg) R := FE_of h (fun i hi => by
  rw [nI_clamp (by omega)]
  show (if 0 ≤ i ∧ i < 0 + n then f (0 + (i - 0)) else g i) = f i
  rw [if_pos ⟨by omega, by omega⟩, Nat.zero_add, Nat.sub_zero])
theorem dX0_isApart_0 : decode cX0_isApart 0 = .ok (.iload_n 1, 1) := by decide +kernel
theorem dX0_isApart_1 : decode cX0_isApart 1 = .ok (.iconst 0, 1) := by decide +kernel
theorem dX0_isApart_2 : decode cX0_isApart 2 = .ok (.aload_n 0, 1) := by decide +kernel
theorem dX0_isApart_3 : decode cX0_isApart 3 = .ok (.getfield 9, 3) := by decide +kernel
theorem dX0_isApart_6 : decode cX0_isApart 6 = .ok (.iconst 1, 1) := by decide +kernel
theorem dX0_isApart_7 : decode cX0_isApart 7 = .ok (.isub, 1) := by decide +kernel
theorem dX0_isApart_8 : decode cX0_isApart 8 = .ok (.invokestatic 47, 3) := by decide +kernel
theorem dX0_isApart_11 : decode cX0_isApart 11 = .ok (.ifCond .eq 36, 3) := by decide +kernel
theorem dX0_isApart_14 : decode cX0_isApart 14 = .ok (.iload_n 2, 1) := by decide +kernel
theorem dX0_isApart_15 : decode cX0_isApart 15 = .ok (.iconst 0, 1) := by decide +kernel
theorem dX0_isApart_16 : decode cX0_isApart 16 = .ok (.aload_n 0, 1) := by decide +kernel
theorem dX0_isApart_17 : decode cX0_isApart 17 = .ok (.getfield 9, 3) := by decide +kernel
theorem dX0_isApart_20 : decode cX0_isApart 20 = .ok (.iconst 1, 1) := by decide +kernel
theorem dX0_isApart_21 : decode cX0_isApart 21 = .ok (.isub, 1) := by decide +kernel
theorem dX0_isApart_22 : decode cX0_isApart 22 = .ok (.invokestatic 47, 3) := by decide +kernel
theorem dX0_isApart_25 : decode cX0_isApart 25 = .ok (.ifCond .eq 22, 3) := by decide +kernel
theorem dX0_isApart_28 : decode cX0_isApart 28 = .ok (.aload_n 0, 1) := by decide +kernel
theorem dX0_isApart_29 : decode cX0_isApart 29 = .ok (.getfield 19, 3) := by decide +kernel
theorem dX0_isApart_32 : decode cX0_isApart 32 = .ok (.iload_n 1, 1) := by decide +kernel
theorem dX0_isApart_33 : decode cX0_isApart 33 = .ok (.iaload, 1) := by decide +kernel
theorem dX0_isApart_34 : decode cX0_isApart 34 = .ok (.aload_n 0, 1) := by decide +kernel
theorem dX0_isApart_35 : decode cX0_isApart 35 = .ok (.getfield 19, 3) := by decide +kernel
theorem dX0_isApart_38 : decode cX0_isApart 38 = .ok (.iload_n 2, 1) := by decide +kernel
theorem dX0_isApart_39 : decode cX0_isApart 39 = .ok (.iaload, 1) := by decide +kernel
theorem dX0_isApart_40 : decode cX0_isApart 40 = .ok (.if_icmp .eq 7, 3) := by decide +kernel
theorem dX0_isApart_43 : decode cX0_isApart 43 = .ok (.iconst 1, 1) := by decide +kernel
theorem dX0_isApart_44 : decode cX0_isApart 44 = .ok (.goto 4, 3) := by decide +kernel
theorem dX0_isApart_47 : decode cX0_isApart 47 = .ok (.iconst 0, 1) := by decide +kernel
theorem dX0_isApart_48 : decode cX0_isApart 48 = .ok (.ireturn, 1) := by decide +kernel
set_option maxRecDepth 100000 in
set_option maxHeartbeats 4000000 in
theorem c_X0_isApart {h : ai_H} {S : Md} {n : Nat} (hn : n ≤ 16) (e0 : S.1 0 = nI n) (hbo : bo_at h S) {a b : Nat} (ha : a < n) (hb : b < n) : ai_Met MX0_isApart [.ref 298, .int (nI a), .int (nI b)] h (some (.int (if S.2.2.1 2 a = S.2.2.1 2 b then 0 else 1))) h := by
  refine ai_met (ls := [.ref 298, .int (nI a), .int (nI b)]) (by decide) (by simp [ai_en, Value.category]) (by rfl) ?_
  refine rs_iload_n (pc := 0) dX0_isApart_0 rfl ?_
  refine rs_iconst (v := 0) (pc := 1) dX0_isApart_1 rfl ?_
  refine rs_aload_n (pc := 2) dX0_isApart_2 rfl ?_
  refine rs_getf (pc := 3) dX0_isApart_3 fX0_9 (mo_lt hbo (by decide)) hbo.2.1 rfl ?_
  rw [e0]
  refine rs_iconst (v := 1) (pc := 6) dX0_isApart_6 rfl ?_
  refine rs_isub (pc := 7) dX0_isApart_7 ?_
  refine rs_callS (as := [_, _, _]) (pc := 8) dX0_isApart_8 mk_X11_isWithin mlX0_47 st_X11_isWithin rfl rfl (Nat.le_of_ble_eq_true rfl) (c_X11_isWithin) ?_
  refine rs_if_eq (tgt := 47) (pc := 11) dX0_isApart_11 rfl (fun c_11 => absurd c_11 (by rw [bi_in_n1 n (by omega) a (by omega)]; decide)) (fun c_11 => ?_)
  refine rs_iload_n (pc := 14) dX0_isApart_14 rfl ?_
  refine rs_iconst (v := 0) (pc := 15) dX0_isApart_15 rfl ?_
  refine rs_aload_n (pc := 16) dX0_isApart_16 rfl ?_
  refine rs_getf (pc := 17) dX0_isApart_17 fX0_9 (mo_lt hbo (by decide)) hbo.2.1 rfl ?_
  rw [e0]
  refine rs_iconst (v := 1) (pc := 20) dX0_isApart_20 rfl ?_
  refine rs_isub (pc := 21) dX0_isApart_21 ?_
  refine rs_callS (as := [_, _, _]) (pc := 22) dX0_isApart_22 mk_X11_isWithin mlX0_47 st_X11_isWithin rfl rfl (Nat.le_of_ble_eq_true rfl) (c_X11_isWithin) ?_
  refine rs_if_eq (tgt := 47) (pc := 25) dX0_isApart_25 rfl (fun c_25 => absurd c_25 (by rw [bi_in_n1 n (by omega) b (by omega)]; decide)) (fun c_25 => ?_)
  refine rs_aload_n (pc := 28) dX0_isApart_28 rfl ?_
  refine rs_getf (pc := 29) dX0_isApart_29 fX0_19 (mo_lt hbo (by decide)) hbo.2.1 rfl ?_
  refine rs_iload_n (pc := 32) dX0_isApart_32 rfl ?_
  refine rs_iald (pc := 33) dX0_isApart_33 (mo_lt hbo (by decide)) (mo_geti (d := 1) (k := 2) (kd := 0) (l := 16) rfl (by decide) hbo) (vp_in_nI (n := a) (N := 16) (by omega) (by decide)) ?_
  rw [nI_clamp (show a < 2 ^ 31 by omega)]
  refine rs_aload_n (pc := 34) dX0_isApart_34 rfl ?_
  refine rs_getf (pc := 35) dX0_isApart_35 fX0_19 (mo_lt hbo (by decide)) hbo.2.1 rfl ?_
  refine rs_iload_n (pc := 38) dX0_isApart_38 rfl ?_
  refine rs_iald (pc := 39) dX0_isApart_39 (mo_lt hbo (by decide)) (mo_geti (d := 1) (k := 2) (kd := 0) (l := 16) rfl (by decide) hbo) (vp_in_nI (n := b) (N := 16) (by omega) (by decide)) ?_
  rw [nI_clamp (show b < 2 ^ 31 by omega)]
  refine rs_icmp_eq (tgt := 47) (pc := 40) dX0_isApart_40 rfl (fun c_40 => ?_) (fun c_40 => ?_)
  · refine rs_iconst (v := 0) (pc := 47) dX0_isApart_47 rfl ?_
    exact wk_zret (pc := 48) dX0_isApart_48 rfl (Or.inl rfl) (by simp [c_40]) (rfl)
  · refine rs_iconst (v := 1) (pc := 43) dX0_isApart_43 rfl ?_
    refine rs_goto (tgt := 48) (pc := 44) dX0_isApart_44 rfl ?_
    exact wk_zret (pc := 48) dX0_isApart_48 rfl (Or.inr rfl) (by simp [c_40]) (rfl)
theorem dX0_gain_0 : decode cX0_gain 0 = .ok (.aload_n 0, 1) := by decide +kernel
theorem dX0_gain_1 : decode cX0_gain 1 = .ok (.iload_n 1, 1) := by decide +kernel
theorem dX0_gain_2 : decode cX0_gain 2 = .ok (.iload_n 2, 1) := by decide +kernel
theorem dX0_gain_3 : decode cX0_gain 3 = .ok (.invokevirtual 51, 3) := by decide +kernel
theorem dX0_gain_6 : decode cX0_gain 6 = .ok (.ifCond .eq 25, 3) := by decide +kernel
theorem dX0_gain_9 : decode cX0_gain 9 = .ok (.aload_n 0, 1) := by decide +kernel
theorem dX0_gain_10 : decode cX0_gain 10 = .ok (.getfield 19, 3) := by decide +kernel
theorem dX0_gain_13 : decode cX0_gain 13 = .ok (.iload_n 1, 1) := by decide +kernel
theorem dX0_gain_14 : decode cX0_gain 14 = .ok (.iaload, 1) := by decide +kernel
theorem dX0_gain_15 : decode cX0_gain 15 = .ok (.invokestatic 62, 3) := by decide +kernel
theorem dX0_gain_18 : decode cX0_gain 18 = .ok (.aload_n 0, 1) := by decide +kernel
theorem dX0_gain_19 : decode cX0_gain 19 = .ok (.getfield 19, 3) := by decide +kernel
theorem dX0_gain_22 : decode cX0_gain 22 = .ok (.iload_n 2, 1) := by decide +kernel
theorem dX0_gain_23 : decode cX0_gain 23 = .ok (.iaload, 1) := by decide +kernel
theorem dX0_gain_24 : decode cX0_gain 24 = .ok (.invokestatic 62, 3) := by decide +kernel
theorem dX0_gain_27 : decode cX0_gain 27 = .ok (.imul, 1) := by decide +kernel
theorem dX0_gain_28 : decode cX0_gain 28 = .ok (.goto 4, 3) := by decide +kernel
theorem dX0_gain_31 : decode cX0_gain 31 = .ok (.iconst 0, 1) := by decide +kernel
theorem dX0_gain_32 : decode cX0_gain 32 = .ok (.ireturn, 1) := by decide +kernel
set_option maxRecDepth 100000 in
set_option maxHeartbeats 4000000 in
theorem c_X0_gain {h : ai_H} {S : Md} {n : Nat} (hn : n ≤ 16) (e0 : S.1 0 = nI n) (hbo : bo_at h S) {a b : Nat} (ha : a < n) (hb : b < n) {X : Nat → Nat → Prop} (hF : FE n (S.2.2.1 2) (clo X)) : ai_Met MX0_gain [.ref 298, .int (nI a), .int (nI b)] h (some (.int (if cR X a b = true then 0 else nI (cN (cR X a) n) * nI (cN (cR X b) n)))) h := by
  refine ai_met (ls := [.ref 298, .int (nI a), .int (nI b)]) (by decide) (by simp [ai_en, Value.category]) (by rfl) ?_
  refine rs_aload_n (pc := 0) dX0_gain_0 rfl ?_
  refine rs_iload_n (pc := 1) dX0_gain_1 rfl ?_
  refine rs_iload_n (pc := 2) dX0_gain_2 rfl ?_
  refine rs_callV (as := [_, _]) (pc := 3) dX0_gain_3 mk_X0_isApart mlX0_51 in_X0_isApart se_X0_isApart rfl (mo_lt hbo (by decide)) hbo.2.1 rfl rfl (Nat.le_of_ble_eq_true rfl) (c_X0_isApart hn e0 hbo ha hb) ?_
  refine rs_if_eq (tgt := 31) (pc := 6) dX0_gain_6 rfl (fun c_6 => ?_) (fun c_6 => ?_)
  · rw [if_01] at c_6
    refine rs_iconst (v := 0) (pc := 31) dX0_gain_31 rfl ?_
    exact wk_iret (pc := 32) dX0_gain_32 rfl (by first | rw [if_pos (cR_iff.2 ((FE_eq hF ha hb).1 c_6))] | (rw [if_neg (fun z => c_6 ((FE_eq hF ha hb).2 (cR_iff.1 z)))])) (rfl)
  · rw [if_01] at c_6
    refine rs_aload_n (pc := 9) dX0_gain_9 rfl ?_
    refine rs_getf (pc := 10) dX0_gain_10 fX0_19 (mo_lt hbo (by decide)) hbo.2.1 rfl ?_
    refine rs_iload_n (pc := 13) dX0_gain_13 rfl ?_
    refine rs_iald (pc := 14) dX0_gain_14 (mo_lt hbo (by decide)) (mo_geti (d := 1) (k := 2) (kd := 0) (l := 16) rfl (by decide) hbo) (vp_in_nI (n := a) (N := 16) (by omega) (by decide)) ?_
    rw [nI_clamp (show a < 2 ^ 31 by omega)]
    refine rs_callS (as := [_]) (pc := 15) dX0_gain_15 mk_J6_bitCount_0f7a4 mlX0_62 st_J6_bitCount_0f7a4 rfl rfl (Nat.le_of_ble_eq_true rfl) (c_bitCount _) ?_
    rw [FE_bc hn hF ha]
    refine rs_aload_n (pc := 18) dX0_gain_18 rfl ?_
    refine rs_getf (pc := 19) dX0_gain_19 fX0_19 (mo_lt hbo (by decide)) hbo.2.1 rfl ?_
    refine rs_iload_n (pc := 22) dX0_gain_22 rfl ?_
    refine rs_iald (pc := 23) dX0_gain_23 (mo_lt hbo (by decide)) (mo_geti (d := 1) (k := 2) (kd := 0) (l := 16) rfl (by decide) hbo) (vp_in_nI (n := b) (N := 16) (by omega) (by decide)) ?_
    rw [nI_clamp (show b < 2 ^ 31 by omega)]
    refine rs_callS (as := [_]) (pc := 24) dX0_gain_24 mk_J6_bitCount_0f7a4 mlX0_62 st_J6_bitCount_0f7a4 rfl rfl (Nat.le_of_ble_eq_true rfl) (c_bitCount _) ?_
    rw [FE_bc hn hF hb]
    refine rs_imul (pc := 27) dX0_gain_27 ?_
    refine rs_goto (tgt := 32) (pc := 28) dX0_gain_28 rfl ?_
    exact wk_iret (pc := 32) dX0_gain_32 rfl (by first | rw [if_pos (cR_iff.2 ((FE_eq hF ha hb).1 c_6))] | (rw [if_neg (fun z => c_6 ((FE_eq hF ha hb).2 (cR_iff.1 z)))])) (rfl)
theorem dX0_bind_0 : decode cX0_bind 0 = .ok (.aload_n 0, 1) := by decide +kernel
theorem dX0_bind_1 : decode cX0_bind 1 = .ok (.iload_n 1, 1) := by decide +kernel
theorem dX0_bind_2 : decode cX0_bind 2 = .ok (.iload_n 2, 1) := by decide +kernel
theorem dX0_bind_3 : decode cX0_bind 3 = .ok (.invokevirtual 51, 3) := by decide +kernel
theorem dX0_bind_6 : decode cX0_bind 6 = .ok (.ifCond .ne 4, 3) := by decide +kernel
theorem dX0_bind_9 : decode cX0_bind 9 = .ok (.return_, 1) := by decide +kernel
theorem dX0_bind_10 : decode cX0_bind 10 = .ok (.aload_n 0, 1) := by decide +kernel
theorem dX0_bind_11 : decode cX0_bind 11 = .ok (.getfield 19, 3) := by decide +kernel
theorem dX0_bind_14 : decode cX0_bind 14 = .ok (.iload_n 1, 1) := by decide +kernel
theorem dX0_bind_15 : decode cX0_bind 15 = .ok (.iaload, 1) := by decide +kernel
theorem dX0_bind_16 : decode cX0_bind 16 = .ok (.aload_n 0, 1) := by decide +kernel
theorem dX0_bind_17 : decode cX0_bind 17 = .ok (.getfield 19, 3) := by decide +kernel
theorem dX0_bind_20 : decode cX0_bind 20 = .ok (.iload_n 2, 1) := by decide +kernel
theorem dX0_bind_21 : decode cX0_bind 21 = .ok (.iaload, 1) := by decide +kernel
theorem dX0_bind_22 : decode cX0_bind 22 = .ok (.ior, 1) := by decide +kernel
theorem dX0_bind_23 : decode cX0_bind 23 = .ok (.istore_n 3, 1) := by decide +kernel
theorem dX0_bind_24 : decode cX0_bind 24 = .ok (.iconst 0, 1) := by decide +kernel
theorem dX0_bind_25 : decode cX0_bind 25 = .ok (.istore 4, 2) := by decide +kernel
theorem dX0_bind_27 : decode cX0_bind 27 = .ok (.iload 4, 2) := by decide +kernel
theorem dX0_bind_29 : decode cX0_bind 29 = .ok (.aload_n 0, 1) := by decide +kernel
theorem dX0_bind_30 : decode cX0_bind 30 = .ok (.getfield 9, 3) := by decide +kernel
theorem dX0_bind_33 : decode cX0_bind 33 = .ok (.if_icmp .ge 27, 3) := by decide +kernel
theorem dX0_bind_36 : decode cX0_bind 36 = .ok (.iload_n 3, 1) := by decide +kernel
theorem dX0_bind_37 : decode cX0_bind 37 = .ok (.iload 4, 2) := by decide +kernel
theorem dX0_bind_39 : decode cX0_bind 39 = .ok (.ishr, 1) := by decide +kernel
theorem dX0_bind_40 : decode cX0_bind 40 = .ok (.iconst 1, 1) := by decide +kernel
theorem dX0_bind_41 : decode cX0_bind 41 = .ok (.iand, 1) := by decide +kernel
theorem dX0_bind_42 : decode cX0_bind 42 = .ok (.iconst 1, 1) := by decide +kernel
theorem dX0_bind_43 : decode cX0_bind 43 = .ok (.if_icmp .ne 11, 3) := by decide +kernel
theorem dX0_bind_46 : decode cX0_bind 46 = .ok (.aload_n 0, 1) := by decide +kernel
theorem dX0_bind_47 : decode cX0_bind 47 = .ok (.getfield 19, 3) := by decide +kernel
theorem dX0_bind_50 : decode cX0_bind 50 = .ok (.iload 4, 2) := by decide +kernel
theorem dX0_bind_52 : decode cX0_bind 52 = .ok (.iload_n 3, 1) := by decide +kernel
theorem dX0_bind_53 : decode cX0_bind 53 = .ok (.iastore, 1) := by decide +kernel
theorem dX0_bind_54 : decode cX0_bind 54 = .ok (.iinc 4 1, 3) := by decide +kernel
theorem dX0_bind_57 : decode cX0_bind 57 = .ok (.goto (-30), 3) := by decide +kernel
theorem dX0_bind_60 : decode cX0_bind 60 = .ok (.return_, 1) := by decide +kernel
set_option maxRecDepth 100000 in
set_option maxHeartbeats 4000000 in
theorem l_X0_bind {h : ai_H} {n a b m : Nat} {p f : Nat → Int32} (hn : n ≤ 16) (hm : m < 2 ^ 16) : ∀ (k i : Nat) (S1 : Md) (g : ai_H), i ≤ n → n + 1 ≤ i + k → bx h g → bo_at g S1 → bnd n p f m i S1 → ai_W MX0_bind 27 [.ref 298, .int (nI a), .int (nI b), .int (nI m), .int (nI i)] [] g (fun r g => r = none ∧ bx h g ∧ ∃ S, bo_at g S ∧ bnd n p f m n S) := by
  intro k
  induction k with
  | zero => intro i S1 g h1 h2; exact absurd h2 (by omega)
  | succ k ih =>
    intro i S1 g hi0 him E0 hbo hv
    refine wq (fun _ _ kk => rs_iload (pc := 27) dX0_bind_27 rfl kk) ?_
    refine wq (fun _ _ kk => rs_aload_n (pc := 29) dX0_bind_29 rfl kk) ?_
    refine wq (fun _ _ kk => rs_getf (pc := 30) dX0_bind_30 fX0_9 (mo_lt hbo (by decide)) hbo.2.1 rfl kk) ?_
    rw [hv.1]
    refine wq_br (fun _ _ kt kf => rs_icmp_ge (tgt := 60) (pc := 33) dX0_bind_33 rfl kt kf) (fun c_33 => ?_) (fun c_33 => ?_)
    · have hie : n = i := (lp_exit rfl (by omega) hi0 c_33).symm
      subst hie
      refine wq_ret ?_ (rs_vret (pc := 60) dX0_bind_60 rfl)
      exact ⟨rfl, E0, S1, hbo, hv⟩
    · have hi : i < n := lp_go rfl (by omega) c_33
      refine wq (fun _ _ kk => rs_iload_n (pc := 36) dX0_bind_36 rfl kk) ?_
      refine wq (fun _ _ kk => rs_iload (pc := 37) dX0_bind_37 rfl kk) ?_
      refine wq (fun _ _ kk => rs_ishr (pc := 39) dX0_bind_39 kk) ?_
      refine wq (fun _ _ kk => rs_iconst (v := 1) (pc := 40) dX0_bind_40 rfl kk) ?_
      refine wq (fun _ _ kk => rs_iand (pc := 41) dX0_bind_41 kk) ?_
      refine wq (fun _ _ kk => rs_iconst (v := 1) (pc := 42) dX0_bind_42 rfl kk) ?_
      refine wq_bn (fun _ _ kt kf => rs_icmp_ne (tgt := 54) (pc := 43) dX0_bind_43 rfl kt kf) (fun c_43 => ?_) (fun c_43 => ?_)
      · rw [sb_nI (by omega) (by omega)] at c_43
        refine wq (fun _ _ kk => wk_iinc4 (v := nI (i + 1)) (pc := 54) dX0_bind_54 (by decide) rfl (nI_1 i) kk) ?_
        refine wq (fun _ _ kk => rs_goto (tgt := 27) (pc := 57) dX0_bind_57 rfl kk) ?_
        exact ih (i + 1) S1 g (by omega) (by omega) E0 hbo (bnd_n hv c_43)
      · rw [sb_nI (by omega) (by omega)] at c_43
        refine wq (fun _ _ kk => rs_aload_n (pc := 46) dX0_bind_46 rfl kk) ?_
        refine wq (fun _ _ kk => rs_getf (pc := 47) dX0_bind_47 fX0_19 (mo_lt hbo (by decide)) hbo.2.1 rfl kk) ?_
        refine wq (fun _ _ kk => rs_iload (pc := 50) dX0_bind_50 rfl kk) ?_
        refine wq (fun _ _ kk => rs_iload_n (pc := 52) dX0_bind_52 rfl kk) ?_
        refine wq (fun _ _ kk => rs_iast (pc := 53) dX0_bind_53 (mo_lt hbo (by decide)) (mo_geti (d := 1) (k := 2) (kd := 0) (l := 16) rfl (by decide) hbo) (vp_in_nI (n := i) (N := 16) (by omega) (by decide)) kk) ?_
        refine wq_gen (fun h_1 e_1 => ?_)
        obtain ⟨m_1, s_1, g_1, o_1⟩ := ai_e1 e_1
        replace hbo := mo_ai (tab := bo_tab) (d := 1) bo_nd rfl (by decide) (fun _ _ _ => rfl) hbo m_1 g_1 o_1
        have E_1 := (E0).trans (bx_of m_1 s_1 o_1 (by decide))
        refine wq (fun _ _ kk => wk_iinc4 (v := nI (i + 1)) (pc := 54) dX0_bind_54 (by decide) rfl (nI_1 i) kk) ?_
        refine wq (fun _ _ kk => rs_goto (tgt := 27) (pc := 57) dX0_bind_57 rfl kk) ?_
        rw [nI_clamp (show i < 2 ^ 31 by omega)] at hbo
        exact ih (i + 1) _ _ (by omega) (by omega) (E_1) hbo (bnd_y hv c_43)
set_option maxRecDepth 100000 in
set_option maxHeartbeats 4000000 in
theorem c_X0_bind {h : ai_H} {S : Md} {n : Nat} (hn : n ≤ 16) (e0 : S.1 0 = nI n) (hbo : bo_at h S) {a b : Nat} (ha : a < n) (hb : b < n) {X : Nat → Nat → Prop} (hF : FE n (S.2.2.1 2) (clo X)) : ai_QM MX0_bind [.ref 298, .int (nI a), .int (nI b)] h (fun r g => r = none ∧ bx h g ∧ ∃ S', bo_at g S' ∧ S'.1 0 = nI n ∧ S'.2.2.1 1 = S.2.2.1 1 ∧ FE n (S'.2.2.1 2) (clo (adE X a b))) := by
  refine qm_of (ls := [.ref 298, .int (nI a), .int (nI b), .float 0, .float 0]) (by decide) (by simp [ai_en, Value.category]) (by rfl) ?_
  refine wq (fun _ _ kk => rs_aload_n (pc := 0) dX0_bind_0 rfl kk) ?_
  refine wq (fun _ _ kk => rs_iload_n (pc := 1) dX0_bind_1 rfl kk) ?_
  refine wq (fun _ _ kk => rs_iload_n (pc := 2) dX0_bind_2 rfl kk) ?_
  refine wq (fun _ _ kk => rs_callV (as := [_, _]) (pc := 3) dX0_bind_3 mk_X0_isApart mlX0_51 in_X0_isApart se_X0_isApart rfl (mo_lt hbo (by decide)) hbo.2.1 rfl rfl (Nat.le_of_ble_eq_true rfl) (c_X0_isApart hn e0 hbo ha hb) kk) ?_
  refine wq_bn (fun _ _ kt kf => rs_if_ne (tgt := 10) (pc := 6) dX0_bind_6 rfl kt kf) (fun c_6 => ?_) (fun c_6 => ?_)
  · rw [if_01] at c_6
    refine wq (fun _ _ kk => rs_aload_n (pc := 10) dX0_bind_10 rfl kk) ?_
    refine wq (fun _ _ kk => rs_getf (pc := 11) dX0_bind_11 fX0_19 (mo_lt hbo (by decide)) hbo.2.1 rfl kk) ?_
    refine wq (fun _ _ kk => rs_iload_n (pc := 14) dX0_bind_14 rfl kk) ?_
    refine wq (fun _ _ kk => rs_iald (pc := 15) dX0_bind_15 (mo_lt hbo (by decide)) (mo_geti (d := 1) (k := 2) (kd := 0) (l := 16) rfl (by decide) hbo) (vp_in_nI (n := a) (N := 16) (by omega) (by decide)) kk) ?_
    rw [nI_clamp (show a < 2 ^ 31 by omega)]
    refine wq (fun _ _ kk => rs_aload_n (pc := 16) dX0_bind_16 rfl kk) ?_
    refine wq (fun _ _ kk => rs_getf (pc := 17) dX0_bind_17 fX0_19 (mo_lt hbo (by decide)) hbo.2.1 rfl kk) ?_
    refine wq (fun _ _ kk => rs_iload_n (pc := 20) dX0_bind_20 rfl kk) ?_
    refine wq (fun _ _ kk => rs_iald (pc := 21) dX0_bind_21 (mo_lt hbo (by decide)) (mo_geti (d := 1) (k := 2) (kd := 0) (l := 16) rfl (by decide) hbo) (vp_in_nI (n := b) (N := 16) (by omega) (by decide)) kk) ?_
    rw [nI_clamp (show b < 2 ^ 31 by omega)]
    refine wq (fun _ _ kk => rs_ior (pc := 22) dX0_bind_22 kk) ?_
    obtain ⟨m1, k1, k2, -⟩ := hF a ha
    obtain ⟨m2, k3, k4, -⟩ := hF b hb
    have em : S.2.2.1 2 a ||| S.2.2.1 2 b = nI (m1 ||| m2) := by rw [k2, k4, or_nI]
    have hm := Nat.or_lt_two_pow k1 k3
    rw [em]
    refine wq (fun _ _ kk => wk_istn3 (pc := 23) dX0_bind_23 (by decide) rfl kk) ?_
    refine wq (fun _ _ kk => rs_iconst (v := 0) (pc := 24) dX0_bind_24 rfl kk) ?_
    refine wq (fun _ _ kk => wk_ist4 (pc := 25) dX0_bind_25 (by decide) rfl kk) ?_
    refine wq_mono ?_ (l_X0_bind (h := h) (p := S.2.2.1 1) (f := S.2.2.1 2) hn hm (n + 1) 0 S h (by omega) (by omega) bx.rf hbo ⟨e0, rfl, fun t _ => by rw [if_neg (fun z => by omega)]⟩)
    rintro r g ⟨a1, a2, S2, a3, a4⟩
    exact ⟨a1, a2, S2, a3, a4.1, a4.2.1, FE_bind hF ha hb hm em (fun i hi => by
      rw [a4.2.2 i hi]
      by_cases c : (m1 ||| m2).testBit i = true
      · rw [if_pos c, if_pos ⟨hi, c⟩]
      · rw [if_neg c, if_neg (fun z => c z.2)])⟩
  · rw [if_01] at c_6
    refine wq_ret ?_ (rs_vret (pc := 9) dX0_bind_9 rfl)
    exact ⟨rfl, bx.rf, S, hbo, e0, rfl, by rw [clo_old ((FE_eq hF ha hb).1 (by first | exact c_6 | exact Classical.not_not.1 c_6))]; exact hF⟩
theorem dX0_begin_0 : decode cX0_begin 0 = .ok (.aload_n 0, 1) := by decide +kernel
theorem dX0_begin_1 : decode cX0_begin 1 = .ok (.iconst 0, 1) := by decide +kernel
theorem dX0_begin_2 : decode cX0_begin 2 = .ok (.iload_n 2, 1) := by decide +kernel
theorem dX0_begin_3 : decode cX0_begin 3 = .ok (.bipush 16, 2) := by decide +kernel
theorem dX0_begin_5 : decode cX0_begin 5 = .ok (.invokestatic 22, 3) := by decide +kernel
theorem dX0_begin_8 : decode cX0_begin 8 = .ok (.invokestatic 28, 3) := by decide +kernel
theorem dX0_begin_11 : decode cX0_begin 11 = .ok (.putfield 9, 3) := by decide +kernel
theorem dX0_begin_14 : decode cX0_begin 14 = .ok (.iconst 0, 1) := by decide +kernel
theorem dX0_begin_15 : decode cX0_begin 15 = .ok (.istore_n 3, 1) := by decide +kernel
theorem dX0_begin_16 : decode cX0_begin 16 = .ok (.iload_n 3, 1) := by decide +kernel
theorem dX0_begin_17 : decode cX0_begin 17 = .ok (.aload_n 0, 1) := by decide +kernel
theorem dX0_begin_18 : decode cX0_begin 18 = .ok (.getfield 9, 3) := by decide +kernel
theorem dX0_begin_21 : decode cX0_begin 21 = .ok (.if_icmp .ge 18, 3) := by decide +kernel
theorem dX0_begin_24 : decode cX0_begin 24 = .ok (.aload_n 0, 1) := by decide +kernel
theorem dX0_begin_25 : decode cX0_begin 25 = .ok (.getfield 19, 3) := by decide +kernel
theorem dX0_begin_28 : decode cX0_begin 28 = .ok (.iload_n 3, 1) := by decide +kernel
theorem dX0_begin_29 : decode cX0_begin 29 = .ok (.iconst 1, 1) := by decide +kernel
theorem dX0_begin_30 : decode cX0_begin 30 = .ok (.iload_n 3, 1) := by decide +kernel
theorem dX0_begin_31 : decode cX0_begin 31 = .ok (.ishl, 1) := by decide +kernel
theorem dX0_begin_32 : decode cX0_begin 32 = .ok (.iastore, 1) := by decide +kernel
theorem dX0_begin_33 : decode cX0_begin 33 = .ok (.iinc 3 1, 3) := by decide +kernel
theorem dX0_begin_36 : decode cX0_begin 36 = .ok (.goto (-20), 3) := by decide +kernel
theorem dX0_begin_39 : decode cX0_begin 39 = .ok (.iconst 0, 1) := by decide +kernel
theorem dX0_begin_40 : decode cX0_begin 40 = .ok (.istore_n 3, 1) := by decide +kernel
theorem dX0_begin_41 : decode cX0_begin 41 = .ok (.iload_n 3, 1) := by decide +kernel
theorem dX0_begin_42 : decode cX0_begin 42 = .ok (.aload_n 0, 1) := by decide +kernel
theorem dX0_begin_43 : decode cX0_begin 43 = .ok (.getfield 9, 3) := by decide +kernel
theorem dX0_begin_46 : decode cX0_begin 46 = .ok (.if_icmp .ge 46, 3) := by decide +kernel
theorem dX0_begin_49 : decode cX0_begin 49 = .ok (.iload_n 3, 1) := by decide +kernel
theorem dX0_begin_50 : decode cX0_begin 50 = .ok (.iconst 1, 1) := by decide +kernel
theorem dX0_begin_51 : decode cX0_begin 51 = .ok (.iadd, 1) := by decide +kernel
theorem dX0_begin_52 : decode cX0_begin 52 = .ok (.istore 4, 2) := by decide +kernel
theorem dX0_begin_54 : decode cX0_begin 54 = .ok (.iload 4, 2) := by decide +kernel
theorem dX0_begin_56 : decode cX0_begin 56 = .ok (.aload_n 0, 1) := by decide +kernel
theorem dX0_begin_57 : decode cX0_begin 57 = .ok (.getfield 9, 3) := by decide +kernel
theorem dX0_begin_60 : decode cX0_begin 60 = .ok (.if_icmp .ge 26, 3) := by decide +kernel
theorem dX0_begin_63 : decode cX0_begin 63 = .ok (.aload_n 1, 1) := by decide +kernel
theorem dX0_begin_64 : decode cX0_begin 64 = .ok (.iload_n 3, 1) := by decide +kernel
theorem dX0_begin_65 : decode cX0_begin 65 = .ok (.iload 4, 2) := by decide +kernel
theorem dX0_begin_67 : decode cX0_begin 67 = .ok (.invokevirtual 31, 3) := by decide +kernel
theorem dX0_begin_70 : decode cX0_begin 70 = .ok (.ifCond .eq 10, 3) := by decide +kernel
theorem dX0_begin_73 : decode cX0_begin 73 = .ok (.aload_n 0, 1) := by decide +kernel
theorem dX0_begin_74 : decode cX0_begin 74 = .ok (.iload_n 3, 1) := by decide +kernel
theorem dX0_begin_75 : decode cX0_begin 75 = .ok (.iload 4, 2) := by decide +kernel
theorem dX0_begin_77 : decode cX0_begin 77 = .ok (.invokevirtual 37, 3) := by decide +kernel
theorem dX0_begin_80 : decode cX0_begin 80 = .ok (.iinc 4 1, 3) := by decide +kernel
theorem dX0_begin_83 : decode cX0_begin 83 = .ok (.goto (-29), 3) := by decide +kernel
theorem dX0_begin_86 : decode cX0_begin 86 = .ok (.iinc 3 1, 3) := by decide +kernel
theorem dX0_begin_89 : decode cX0_begin 89 = .ok (.goto (-48), 3) := by decide +kernel
theorem dX0_begin_92 : decode cX0_begin 92 = .ok (.aload_n 0, 1) := by decide +kernel
theorem dX0_begin_93 : decode cX0_begin 93 = .ok (.getfield 19, 3) := by decide +kernel
theorem dX0_begin_96 : decode cX0_begin 96 = .ok (.iconst 0, 1) := by decide +kernel
theorem dX0_begin_97 : decode cX0_begin 97 = .ok (.aload_n 0, 1) := by decide +kernel
theorem dX0_begin_98 : decode cX0_begin 98 = .ok (.getfield 15, 3) := by decide +kernel
theorem dX0_begin_101 : decode cX0_begin 101 = .ok (.iconst 0, 1) := by decide +kernel
theorem dX0_begin_102 : decode cX0_begin 102 = .ok (.aload_n 0, 1) := by decide +kernel
theorem dX0_begin_103 : decode cX0_begin 103 = .ok (.getfield 9, 3) := by decide +kernel
theorem dX0_begin_106 : decode cX0_begin 106 = .ok (.invokestatic 41, 3) := by decide +kernel
theorem dX0_begin_109 : decode cX0_begin 109 = .ok (.return_, 1) := by decide +kernel
set_option maxRecDepth 100000 in
set_option maxHeartbeats 4000000 in
theorem l1_X0_begin {h : ai_H} {n : Nat} {T : Nat → Ty} {u4 : Value} {Q : Option Value → ai_H → Prop} (hn : n ≤ 16) (kx : ∀ (S1 : Md) (g : ai_H), bx h g → bo_at g S1 → mt_at g T → bgn n n S1 → ai_W MX0_begin 39 [.ref 298, .ref 35, .int (nI n), .int (nI n), u4] [] g Q) : ∀ (k i : Nat) (S1 : Md) (g : ai_H), i ≤ n → n + 1 ≤ i + k → bx h g → bo_at g S1 → mt_at g T → bgn n i S1 → ai_W MX0_begin 16 [.ref 298, .ref 35, .int (nI n), .int (nI i), u4] [] g Q := by
  intro k
  induction k with
  | zero => intro i S1 g h1 h2; exact absurd h2 (by omega)
  | succ k ih =>
    intro i S1 g hi0 him E0 hbo hmt hv
    refine wq (fun _ _ kk => rs_iload_n (pc := 16) dX0_begin_16 rfl kk) ?_
    refine wq (fun _ _ kk => rs_aload_n (pc := 17) dX0_begin_17 rfl kk) ?_
    refine wq (fun _ _ kk => rs_getf (pc := 18) dX0_begin_18 fX0_9 (mo_lt hbo (by decide)) hbo.2.1 rfl kk) ?_
    rw [hv.1]
    refine wq_br (fun _ _ kt kf => rs_icmp_ge (tgt := 39) (pc := 21) dX0_begin_21 rfl kt kf) (fun c_21 => ?_) (fun c_21 => ?_)
    · have hie : n = i := (lp_exit rfl (by omega) hi0 c_21).symm
      subst hie
      exact kx S1 g E0 hbo hmt hv
    · have hi : i < n := lp_go rfl (by omega) c_21
      refine wq (fun _ _ kk => rs_aload_n (pc := 24) dX0_begin_24 rfl kk) ?_
      refine wq (fun _ _ kk => rs_getf (pc := 25) dX0_begin_25 fX0_19 (mo_lt hbo (by decide)) hbo.2.1 rfl kk) ?_
      refine wq (fun _ _ kk => rs_iload_n (pc := 28) dX0_begin_28 rfl kk) ?_
      refine wq (fun _ _ kk => rs_iconst (v := 1) (pc := 29) dX0_begin_29 rfl kk) ?_
      refine wq (fun _ _ kk => rs_iload_n (pc := 30) dX0_begin_30 rfl kk) ?_
      refine wq (fun _ _ kk => rs_ishl (pc := 31) dX0_begin_31 kk) ?_
      rw [sh1_nI i (by omega)]
      refine wq (fun _ _ kk => rs_iast (pc := 32) dX0_begin_32 (mo_lt hbo (by decide)) (mo_geti (d := 1) (k := 2) (kd := 0) (l := 16) rfl (by decide) hbo) (vp_in_nI (n := i) (N := 16) (by omega) (by decide)) kk) ?_
      refine wq_gen (fun h_1 e_1 => ?_)
      obtain ⟨m_1, s_1, g_1, o_1⟩ := ai_e1 e_1
      replace hbo := mo_ai (tab := bo_tab) (d := 1) bo_nd rfl (by decide) (fun _ _ _ => rfl) hbo m_1 g_1 o_1
      replace hmt := mt_keep hmt m_1 (fun j _ _ => o_1 j (by omega))
      have E_1 := (E0).trans (bx_of m_1 s_1 o_1 (by decide))
      refine wq (fun _ _ kk => wk_iinc3 (v := nI (i + 1)) (pc := 33) dX0_begin_33 (by decide) rfl (nI_1 i) kk) ?_
      refine wq (fun _ _ kk => rs_goto (tgt := 16) (pc := 36) dX0_begin_36 rfl kk) ?_
      rw [nI_clamp (show i < 2 ^ 31 by omega)] at hbo
      exact ih (i + 1) _ _ (by omega) (by omega) (E_1) hbo hmt (bgn_1 hv)
theorem met_0 {T : Nat → Ty} {U : Nat → List Int} (hT : trow T U) (hl : lrow U) {a b : Nat} (ha : a < 16) (hb : b < 16) : mt_met T a b = 0 ↔ U (a * 16 + b) = [] := by
  unfold mt_met
  rw [if_01, hT (a * 16 + b) (by omega), show (tyl (U (a * 16 + b))).1 = nI (U (a * 16 + b)).length from rfl, i32_le0 (by have := (hl (a * 16 + b) (by omega)).1; omega), len_0]
set_option maxRecDepth 100000 in
set_option maxHeartbeats 4000000 in
theorem l2_X0_begin {h : ai_H} {n : Nat} {T : Nat → Ty} {U : Nat → List Int} (hn : n ≤ 16) (hT : trow T U) (hl : lrow U) {a : Nat} {Q : Option Value → ai_H → Prop} (ha : a < n) (kx : ∀ (S1 : Md) (g : ai_H), bx h g → bo_at g S1 → mt_at g T → S1.1 0 = nI n → FE n (S1.2.2.1 2) (clo (bX U n a n)) → ai_W MX0_begin 86 [.ref 298, .ref 35, .int (nI n), .int (nI a), .int (nI n)] [] g Q) : ∀ (k b : Nat) (S1 : Md) (g : ai_H), a < b ∧ b ≤ n → n + 1 ≤ b + k → bx h g → bo_at g S1 → mt_at g T → S1.1 0 = nI n → FE n (S1.2.2.1 2) (clo (bX U n a b)) → ai_W MX0_begin 54 [.ref 298, .ref 35, .int (nI n), .int (nI a), .int (nI b)] [] g Q := by
  intro k
  induction k with
  | zero => intro b S1 g h1 h2; exact absurd h2 (by omega)
  | succ k ih =>
    intro b S1 g hb1 him E0 hbo hmt e0 hF
    have hb0 := hb1.2
    refine wq (fun _ _ kk => rs_iload (pc := 54) dX0_begin_54 rfl kk) ?_
    refine wq (fun _ _ kk => rs_aload_n (pc := 56) dX0_begin_56 rfl kk) ?_
    refine wq (fun _ _ kk => rs_getf (pc := 57) dX0_begin_57 fX0_9 (mo_lt hbo (by decide)) hbo.2.1 rfl kk) ?_
    rw [e0]
    refine wq_br (fun _ _ kt kf => rs_icmp_ge (tgt := 86) (pc := 60) dX0_begin_60 rfl kt kf) (fun c_60 => ?_) (fun c_60 => ?_)
    · have hbe : n = b := (lp_exit rfl (by omega) hb0 c_60).symm
      subst hbe
      exact kx S1 g E0 hbo hmt e0 hF
    · have hb : b < n := lp_go rfl (by omega) c_60
      refine wq (fun _ _ kk => rs_aload_n (pc := 63) dX0_begin_63 rfl kk) ?_
      refine wq (fun _ _ kk => rs_iload_n (pc := 64) dX0_begin_64 rfl kk) ?_
      refine wq (fun _ _ kk => rs_iload (pc := 65) dX0_begin_65 rfl kk) ?_
      refine wq (fun _ _ kk => rs_callV (as := [_, _]) (pc := 67) dX0_begin_67 mk_X4_areMet mlX0_31 in_X4_areMet se_X4_areMet rfl (mt_lt hmt (by decide)) hmt.2.1 rfl rfl (Nat.le_of_ble_eq_true rfl) (c_X4_areMet hmt (show a < 16 by omega) (show b < 16 by omega)) kk) ?_
      refine wq_br (fun _ _ kt kf => rs_if_eq (tgt := 80) (pc := 70) dX0_begin_70 rfl kt kf) (fun c_70 => ?_) (fun c_70 => ?_)
      · rw [met_0 hT hl (by omega) (by omega)] at c_70
        refine wq (fun _ _ kk => wk_iinc4 (v := nI (b + 1)) (pc := 80) dX0_begin_80 (by decide) rfl (nI_1 b) kk) ?_
        refine wq (fun _ _ kk => rs_goto (tgt := 54) (pc := 83) dX0_begin_83 rfl kk) ?_
        exact ih (b + 1) S1 g (by omega) (by omega) E0 hbo hmt e0 (by rw [bX_n c_70]; exact hF)
      · rw [met_0 hT hl (by omega) (by omega)] at c_70
        refine wq (fun _ _ kk => rs_aload_n (pc := 73) dX0_begin_73 rfl kk) ?_
        refine wq (fun _ _ kk => rs_iload_n (pc := 74) dX0_begin_74 rfl kk) ?_
        refine wq (fun _ _ kk => rs_iload (pc := 75) dX0_begin_75 rfl kk) ?_
        obtain ⟨rv_77, hc_77, ⟨rfl, ee_77, S2, hbo_77, e0_77, -, hF_77⟩, hm_77⟩ := c_X0_bind hn e0 hbo (show a < n by omega) hb hF
        refine wq (fun _ _ kk => rs_callV (as := [_, _]) (pc := 77) dX0_begin_77 mk_X0_bind mlX0_37 in_X0_bind se_X0_bind rfl (mo_lt hbo (by decide)) hbo.2.1 rfl rfl (Nat.le_of_ble_eq_true rfl) (hm_77) kk) ?_
        have hmt_77 := mt_keep hmt ee_77.1 (fun j _ _ => ee_77.2.2 j (by omega))
        refine wq (fun _ _ kk => wk_iinc4 (v := nI (b + 1)) (pc := 80) dX0_begin_80 (by decide) rfl (nI_1 b) kk) ?_
        refine wq (fun _ _ kk => rs_goto (tgt := 54) (pc := 83) dX0_begin_83 rfl kk) ?_
        exact ih (b + 1) S2 _ (by omega) (by omega) (E0.trans ee_77) hbo_77 hmt_77 e0_77 (by rw [bX_y (by omega) hb c_70]; exact hF_77)
set_option maxRecDepth 100000 in
set_option maxHeartbeats 4000000 in
theorem l3_X0_begin {h : ai_H} {n : Nat} {T : Nat → Ty} {U : Nat → List Int} (hn : n ≤ 16) (hT : trow T U) (hl : lrow U) (hsy : ∀ i j, i < n → j < n → U (i * 16 + j) = [] → U (j * 16 + i) = []) : ∀ (k a : Nat) (u4 : Value) (S1 : Md) (g : ai_H), a ≤ n → n + 1 ≤ a + k → bx h g → bo_at g S1 → mt_at g T → S1.1 0 = nI n → FE n (S1.2.2.1 2) (clo (bX U n a (a + 1))) → ai_W MX0_begin 41 [.ref 298, .ref 35, .int (nI n), .int (nI a), u4] [] g (fun r g => r = none ∧ bx h g ∧ ∃ S', bo_at g S' ∧ S'.1 0 = nI n ∧ FE n (S'.2.2.1 1) (clo (eX U n)) ∧ FE n (S'.2.2.1 2) (clo (eX U n))) := by
  intro k
  induction k with
  | zero => intro a u4 S1 g h1 h2; exact absurd h2 (by omega)
  | succ k ih =>
    intro a u4 S1 g ha0 him E0 hbo hmt e0 hF
    refine wq (fun _ _ kk => rs_iload_n (pc := 41) dX0_begin_41 rfl kk) ?_
    refine wq (fun _ _ kk => rs_aload_n (pc := 42) dX0_begin_42 rfl kk) ?_
    refine wq (fun _ _ kk => rs_getf (pc := 43) dX0_begin_43 fX0_9 (mo_lt hbo (by decide)) hbo.2.1 rfl kk) ?_
    rw [e0]
    refine wq_br (fun _ _ kt kf => rs_icmp_ge (tgt := 92) (pc := 46) dX0_begin_46 rfl kt kf) (fun c_46 => ?_) (fun c_46 => ?_)
    · have hae : n = a := (lp_exit rfl (by omega) ha0 c_46).symm
      subst hae
      refine wq (fun _ _ kk => rs_aload_n (pc := 92) dX0_begin_92 rfl kk) ?_
      refine wq (fun _ _ kk => rs_getf (pc := 93) dX0_begin_93 fX0_19 (mo_lt hbo (by decide)) hbo.2.1 rfl kk) ?_
      refine wq (fun _ _ kk => rs_iconst (v := 0) (pc := 96) dX0_begin_96 rfl kk) ?_
      refine wq (fun _ _ kk => rs_aload_n (pc := 97) dX0_begin_97 rfl kk) ?_
      refine wq (fun _ _ kk => rs_getf (pc := 98) dX0_begin_98 fX0_15 (mo_lt hbo (by decide)) hbo.2.1 rfl kk) ?_
      refine wq (fun _ _ kk => rs_iconst (v := 0) (pc := 101) dX0_begin_101 rfl kk) ?_
      refine wq (fun _ _ kk => rs_aload_n (pc := 102) dX0_begin_102 rfl kk) ?_
      refine wq (fun _ _ kk => rs_getf (pc := 103) dX0_begin_103 fX0_9 (mo_lt hbo (by decide)) hbo.2.1 rfl kk) ?_
      rw [e0]
      refine wq (fun _ _ kk => rs_copy (pc := 106) dX0_begin_106 mlX0_41 cp_na cp_st cp_in (mo_lt hbo (by decide)) (mo_geti (d := 1) (k := 2) (kd := 0) (l := 16) rfl (by decide) hbo) (mo_lt hbo (by decide)) (mo_geti (d := 0) (k := 1) (kd := 0) (l := 16) rfl (by decide) hbo) (by decide) (by decide) (by have := nI_toInt (show n < 2 ^ 31 by omega); rw [i32_lt, i32_0]; omega) (by rw [nI_clamp (by omega)]; exact (by omega : 0 + n ≤ 16)) (by rw [nI_clamp (by omega)]; exact (by omega : 0 + n ≤ 16)) (by decide) (Nat.le_of_ble_eq_true rfl) kk) ?_
      refine wq_gen (fun h_1 e_1 => ?_)
      obtain ⟨m_1, s_1, g_1, o_1⟩ := ai_e1 e_1
      replace hbo := mo_ai (tab := bo_tab) (d := 0) bo_nd rfl (by decide) (fun _ _ _ => rfl) hbo m_1 g_1 o_1
      replace hmt := mt_keep hmt m_1 (fun j _ _ => o_1 j (by omega))
      have E_1 := (E0).trans (bx_of m_1 s_1 o_1 (by decide))
      refine wq_ret ?_ (rs_vret (pc := 109) dX0_begin_109 rfl)
      rw [bX_all hsy] at hF
      exact ⟨rfl, E_1, _, hbo, e0, FE_cp hF hn, hF⟩
    · have ha : a < n := lp_go rfl (by omega) c_46
      refine wq (fun _ _ kk => rs_iload_n (pc := 49) dX0_begin_49 rfl kk) ?_
      refine wq (fun _ _ kk => rs_iconst (v := 1) (pc := 50) dX0_begin_50 rfl kk) ?_
      refine wq (fun _ _ kk => rs_iadd (pc := 51) dX0_begin_51 kk) ?_
      rw [nI_1]
      refine wq (fun _ _ kk => wk_ist4 (pc := 52) dX0_begin_52 (by decide) rfl kk) ?_
      refine l2_X0_begin (h := h) hn hT hl ha ?_ (n + 1) (a + 1) S1 g (by omega) (by omega) E0 hbo hmt e0 hF
      clear E0 hbo hmt e0 hF
      intro S1 g E0 hbo hmt e0 hF
      refine wq (fun _ _ kk => wk_iinc3 (v := nI (a + 1)) (pc := 86) dX0_begin_86 (by decide) rfl (nI_1 a) kk) ?_
      refine wq (fun _ _ kk => rs_goto (tgt := 41) (pc := 89) dX0_begin_89 rfl kk) ?_
      exact ih (a + 1) _ S1 g (by omega) (by omega) E0 hbo hmt e0 (by rw [bX_a]; exact hF)
set_option maxRecDepth 100000 in
set_option maxHeartbeats 4000000 in
theorem c_X0_begin {h : ai_H} {n : Nat} {T : Nat → Ty} {U : Nat → List Int} (hn : n ≤ 16) (hT : trow T U) (hl : lrow U) (hsy : ∀ i j, i < n → j < n → U (i * 16 + j) = [] → U (j * 16 + i) = []) {S : Md} (hbo : bo_at h S) (hmt : mt_at h T) : ai_QM MX0_begin [.ref 298, .ref 35, .int (nI n)] h (fun r g => r = none ∧ bx h g ∧ ∃ S', bo_at g S' ∧ S'.1 0 = nI n ∧ FE n (S'.2.2.1 1) (clo (eX U n)) ∧ FE n (S'.2.2.1 2) (clo (eX U n))) := by
  refine qm_of (ls := [.ref 298, .ref 35, .int (nI n), .float 0, .float 0]) (by decide) (by simp [ai_en, Value.category]) (by rfl) ?_
  refine wq (fun _ _ kk => rs_aload_n (pc := 0) dX0_begin_0 rfl kk) ?_
  refine wq (fun _ _ kk => rs_iconst (v := 0) (pc := 1) dX0_begin_1 rfl kk) ?_
  refine wq (fun _ _ kk => rs_iload_n (pc := 2) dX0_begin_2 rfl kk) ?_
  refine wq (fun _ _ kk => rs_bipush (v := 16) (pc := 3) dX0_begin_3 rfl kk) ?_
  refine wq (fun _ _ kk => rs_callS (as := [_, _]) (pc := 5) dX0_begin_5 mk_J9_min_7cf53 mlX0_22 st_J9_min_7cf53 rfl rfl (Nat.le_of_ble_eq_true rfl) (c_minI) kk) ?_
  refine wq (fun _ _ kk => rs_callS (as := [_, _]) (pc := 8) dX0_begin_8 mk_J9_max_7cf53 mlX0_28 st_J9_max_7cf53 rfl rfl (Nat.le_of_ble_eq_true rfl) (c_maxI) kk) ?_
  rw [mm16 n (by omega)]
  refine wq (fun _ _ kk => rs_putf (pc := 11) dX0_begin_11 fX0_9 (mo_lt hbo (by decide)) hbo.2.1 rfl (Nat.le_of_ble_eq_true rfl) kk) ?_
  refine wq_gen (fun h_1 e_1 => ?_)
  obtain ⟨m_1, s_1, g_1, o_1⟩ := ai_e1 e_1
  replace g_1 : h_1.2.2 298 = .inr (0, [_, _, _]) := g_1
  replace hbo := mo_si (k := 0) hbo m_1 g_1 o_1 rfl
  replace hmt := mt_keep hmt m_1 (fun j _ _ => o_1 j (by omega))
  have E_1 := (bx.rf).trans (bx_of m_1 s_1 o_1 (by decide))
  refine wq (fun _ _ kk => rs_iconst (v := 0) (pc := 14) dX0_begin_14 rfl kk) ?_
  refine wq (fun _ _ kk => wk_istn3 (pc := 15) dX0_begin_15 (by decide) rfl kk) ?_
  refine l1_X0_begin (h := h) (T := T) hn ?_ (n + 1) 0 _ _ (by omega) (by omega) (E_1) hbo hmt ⟨rfl, fun t ht => absurd ht (Nat.not_lt_zero t)⟩
  clear hbo hmt
  intro S1 g E0 hbo hmt hv
  refine wq (fun _ _ kk => rs_iconst (v := 0) (pc := 39) dX0_begin_39 rfl kk) ?_
  refine wq (fun _ _ kk => wk_istn3 (pc := 40) dX0_begin_40 (by decide) rfl kk) ?_
  exact l3_X0_begin (h := h) hn hT hl hsy (n + 1) 0 _ S1 g (by omega) (by omega) E0 hbo hmt hv.1 (by rw [bX_0]; exact FE_0 hn hv.2)
theorem dX0_pairsWith_0 : decode cX0_pairsWith 0 = .ok (.aload_n 0, 1) := by decide +kernel
theorem dX0_pairsWith_1 : decode cX0_pairsWith 1 = .ok (.getfield 15, 3) := by decide +kernel
theorem dX0_pairsWith_4 : decode cX0_pairsWith 4 = .ok (.iconst 0, 1) := by decide +kernel
theorem dX0_pairsWith_5 : decode cX0_pairsWith 5 = .ok (.aload_n 0, 1) := by decide +kernel
theorem dX0_pairsWith_6 : decode cX0_pairsWith 6 = .ok (.getfield 19, 3) := by decide +kernel
theorem dX0_pairsWith_9 : decode cX0_pairsWith 9 = .ok (.iconst 0, 1) := by decide +kernel
theorem dX0_pairsWith_10 : decode cX0_pairsWith 10 = .ok (.aload_n 0, 1) := by decide +kernel
theorem dX0_pairsWith_11 : decode cX0_pairsWith 11 = .ok (.getfield 9, 3) := by decide +kernel
theorem dX0_pairsWith_14 : decode cX0_pairsWith 14 = .ok (.invokestatic 41, 3) := by decide +kernel
theorem dX0_pairsWith_17 : decode cX0_pairsWith 17 = .ok (.iconst 0, 1) := by decide +kernel
theorem dX0_pairsWith_18 : decode cX0_pairsWith 18 = .ok (.istore_n 3, 1) := by decide +kernel
theorem dX0_pairsWith_19 : decode cX0_pairsWith 19 = .ok (.iload_n 3, 1) := by decide +kernel
theorem dX0_pairsWith_20 : decode cX0_pairsWith 20 = .ok (.aload_n 1, 1) := by decide +kernel
theorem dX0_pairsWith_21 : decode cX0_pairsWith 21 = .ok (.getfield 54, 3) := by decide +kernel
theorem dX0_pairsWith_24 : decode cX0_pairsWith 24 = .ok (.if_icmp .ge 34, 3) := by decide +kernel
theorem dX0_pairsWith_27 : decode cX0_pairsWith 27 = .ok (.iload_n 2, 1) := by decide +kernel
theorem dX0_pairsWith_28 : decode cX0_pairsWith 28 = .ok (.iload_n 3, 1) := by decide +kernel
theorem dX0_pairsWith_29 : decode cX0_pairsWith 29 = .ok (.ishr, 1) := by decide +kernel
theorem dX0_pairsWith_30 : decode cX0_pairsWith 30 = .ok (.iconst 1, 1) := by decide +kernel
theorem dX0_pairsWith_31 : decode cX0_pairsWith 31 = .ok (.iand, 1) := by decide +kernel
theorem dX0_pairsWith_32 : decode cX0_pairsWith 32 = .ok (.iconst 1, 1) := by decide +kernel
theorem dX0_pairsWith_33 : decode cX0_pairsWith 33 = .ok (.if_icmp .ne 19, 3) := by decide +kernel
theorem dX0_pairsWith_36 : decode cX0_pairsWith 36 = .ok (.aload_n 0, 1) := by decide +kernel
theorem dX0_pairsWith_37 : decode cX0_pairsWith 37 = .ok (.aload_n 1, 1) := by decide +kernel
theorem dX0_pairsWith_38 : decode cX0_pairsWith 38 = .ok (.iload_n 3, 1) := by decide +kernel
theorem dX0_pairsWith_39 : decode cX0_pairsWith 39 = .ok (.iconst 0, 1) := by decide +kernel
theorem dX0_pairsWith_40 : decode cX0_pairsWith 40 = .ok (.invokevirtual 59, 3) := by decide +kernel
theorem dX0_pairsWith_43 : decode cX0_pairsWith 43 = .ok (.aload_n 1, 1) := by decide +kernel
theorem dX0_pairsWith_44 : decode cX0_pairsWith 44 = .ok (.iload_n 3, 1) := by decide +kernel
theorem dX0_pairsWith_45 : decode cX0_pairsWith 45 = .ok (.iconst 1, 1) := by decide +kernel
theorem dX0_pairsWith_46 : decode cX0_pairsWith 46 = .ok (.invokevirtual 59, 3) := by decide +kernel
theorem dX0_pairsWith_49 : decode cX0_pairsWith 49 = .ok (.invokevirtual 37, 3) := by decide +kernel
theorem dX0_pairsWith_52 : decode cX0_pairsWith 52 = .ok (.iinc 3 1, 3) := by decide +kernel
theorem dX0_pairsWith_55 : decode cX0_pairsWith 55 = .ok (.goto (-36), 3) := by decide +kernel
theorem dX0_pairsWith_58 : decode cX0_pairsWith 58 = .ok (.iconst 0, 1) := by decide +kernel
theorem dX0_pairsWith_59 : decode cX0_pairsWith 59 = .ok (.istore_n 3, 1) := by decide +kernel
theorem dX0_pairsWith_60 : decode cX0_pairsWith 60 = .ok (.iconst 0, 1) := by decide +kernel
theorem dX0_pairsWith_61 : decode cX0_pairsWith 61 = .ok (.istore 4, 2) := by decide +kernel
theorem dX0_pairsWith_63 : decode cX0_pairsWith 63 = .ok (.iload 4, 2) := by decide +kernel
theorem dX0_pairsWith_65 : decode cX0_pairsWith 65 = .ok (.aload_n 0, 1) := by decide +kernel
theorem dX0_pairsWith_66 : decode cX0_pairsWith 66 = .ok (.getfield 9, 3) := by decide +kernel
theorem dX0_pairsWith_69 : decode cX0_pairsWith 69 = .ok (.if_icmp .ge 24, 3) := by decide +kernel
theorem dX0_pairsWith_72 : decode cX0_pairsWith 72 = .ok (.iload_n 3, 1) := by decide +kernel
theorem dX0_pairsWith_73 : decode cX0_pairsWith 73 = .ok (.aload_n 0, 1) := by decide +kernel
theorem dX0_pairsWith_74 : decode cX0_pairsWith 74 = .ok (.getfield 19, 3) := by decide +kernel
theorem dX0_pairsWith_77 : decode cX0_pairsWith 77 = .ok (.iload 4, 2) := by decide +kernel
theorem dX0_pairsWith_79 : decode cX0_pairsWith 79 = .ok (.iaload, 1) := by decide +kernel
theorem dX0_pairsWith_80 : decode cX0_pairsWith 80 = .ok (.invokestatic 62, 3) := by decide +kernel
theorem dX0_pairsWith_83 : decode cX0_pairsWith 83 = .ok (.iconst 1, 1) := by decide +kernel
theorem dX0_pairsWith_84 : decode cX0_pairsWith 84 = .ok (.isub, 1) := by decide +kernel
theorem dX0_pairsWith_85 : decode cX0_pairsWith 85 = .ok (.iadd, 1) := by decide +kernel
theorem dX0_pairsWith_86 : decode cX0_pairsWith 86 = .ok (.istore_n 3, 1) := by decide +kernel
theorem dX0_pairsWith_87 : decode cX0_pairsWith 87 = .ok (.iinc 4 1, 3) := by decide +kernel
theorem dX0_pairsWith_90 : decode cX0_pairsWith 90 = .ok (.goto (-27), 3) := by decide +kernel
theorem dX0_pairsWith_93 : decode cX0_pairsWith 93 = .ok (.iload_n 3, 1) := by decide +kernel
theorem dX0_pairsWith_94 : decode cX0_pairsWith 94 = .ok (.iconst 2, 1) := by decide +kernel
theorem dX0_pairsWith_95 : decode cX0_pairsWith 95 = .ok (.idiv, 1) := by decide +kernel
theorem dX0_pairsWith_96 : decode cX0_pairsWith 96 = .ok (.ireturn, 1) := by decide +kernel
set_option maxRecDepth 100000 in
set_option maxHeartbeats 4000000 in
theorem l1_X0_pairsWith {B : Bk} {U : Nat → List Int} {s : Nat} {g : ai_H} {S1 : Md} (hn : nO B ≤ 16) (hbo : bo_at g S1) (e0 : S1.1 0 = nI (nO B)) (hF : FE (nO B) (S1.2.2.1 2) (clo (tX U B (nO B) s (nJ B)))) : ∀ (k i : Nat), i ≤ nO B → nO B + 1 ≤ i + k → ai_R MX0_pairsWith 63 [.ref 298, .ref 10, .int (nI s), .int (nI (eS (cR (tX U B (nO B) s (nJ B))) (nO B) i)), .int (nI i)] [] g (some (.int (prs U B s))) g := by
  intro k
  induction k with
  | zero => intro i h1 h2; exact absurd h2 (by omega)
  | succ k ih =>
    intro i hi0 him
    refine rs_iload (pc := 63) dX0_pairsWith_63 rfl ?_
    refine rs_aload_n (pc := 65) dX0_pairsWith_65 rfl ?_
    refine rs_getf (pc := 66) dX0_pairsWith_66 fX0_9 (mo_lt hbo (by decide)) hbo.2.1 rfl ?_
    rw [e0]
    refine rs_icmp_ge (tgt := 93) (pc := 69) dX0_pairsWith_69 rfl (fun c_69 => ?_) (fun c_69 => ?_)
    · have hie : i = nO B := lp_exit rfl (by omega) hi0 c_69
      subst hie
      refine rs_iload_n (pc := 93) dX0_pairsWith_93 rfl ?_
      refine rs_iconst (v := 2) (pc := 94) dX0_pairsWith_94 rfl ?_
      refine rs_idiv (pc := 95) dX0_pairsWith_95 (by decide) ?_
      rw [eS_2 (cR_r _) (cR_s _), half_nI (by have := lS_b (cR (tX U B (nO B) s (nJ B))) (nO B) hn; have := pS_l (cR_s (tX U B (nO B) s (nJ B))) (nO B); omega)]
      exact wk_iret (pc := 96) dX0_pairsWith_96 rfl (rfl) (rfl)
    · have hi : i < nO B := lp_go rfl (by omega) c_69
      refine rs_iload_n (pc := 72) dX0_pairsWith_72 rfl ?_
      refine rs_aload_n (pc := 73) dX0_pairsWith_73 rfl ?_
      refine rs_getf (pc := 74) dX0_pairsWith_74 fX0_19 (mo_lt hbo (by decide)) hbo.2.1 rfl ?_
      refine rs_iload (pc := 77) dX0_pairsWith_77 rfl ?_
      refine rs_iald (pc := 79) dX0_pairsWith_79 (mo_lt hbo (by decide)) (mo_geti (d := 1) (k := 2) (kd := 0) (l := 16) rfl (by decide) hbo) (vp_in_nI (n := i) (N := 16) (by omega) (by decide)) ?_
      rw [nI_clamp (show i < 2 ^ 31 by omega)]
      refine rs_callS (as := [_]) (pc := 80) dX0_pairsWith_80 mk_J6_bitCount_0f7a4 mlX0_62 st_J6_bitCount_0f7a4 rfl rfl (Nat.le_of_ble_eq_true rfl) (c_bitCount _) ?_
      rw [FE_bc hn hF hi]
      refine rs_iconst (v := 1) (pc := 83) dX0_pairsWith_83 rfl ?_
      refine rs_isub (pc := 84) dX0_pairsWith_84 ?_
      rw [show nI (cN (cR (tX U B (nO B) s (nJ B)) i) (nO B)) - 1 = nI (cN (cR (tX U B (nO B) s (nJ B)) i) (nO B) - 1) from nI_sb (b := 1) (cN_pos (cR_r _ i) _ hi)]
      refine rs_iadd (pc := 85) dX0_pairsWith_85 ?_
      rw [nI_ad]
      refine wk_istn3 (pc := 86) dX0_pairsWith_86 (by decide) rfl ?_
      refine wk_iinc4 (v := nI (i + 1)) (pc := 87) dX0_pairsWith_87 (by decide) rfl (nI_1 i) ?_
      refine rs_goto (tgt := 63) (pc := 90) dX0_pairsWith_90 rfl ?_
      exact ih (i + 1) (by omega) (by omega)
set_option maxRecDepth 100000 in
set_option maxHeartbeats 4000000 in
theorem l2_X0_pairsWith {h : ai_H} {B : Bk} {ln : Nat} {U : Nat → List Int} {s : Nat} {p : Nat → Int32} (hok : bk_ok B ln) {u4 : Value} (hn : nO B ≤ 16) (hs : s < 2 ^ 31) : ∀ (k i : Nat) (S1 : Md) (g : ai_H), i ≤ nJ B → nJ B + 1 ≤ i + k → bx h g → bk_at g 1 B → bo_at g S1 → S1.1 0 = nI (nO B) → S1.2.2.1 1 = p → FE (nO B) (S1.2.2.1 2) (clo (tX U B (nO B) s i)) → ai_W MX0_pairsWith 19 [.ref 298, .ref 10, .int (nI s), .int (nI i), u4] [] g (fun r g => r = some (.int (prs U B s)) ∧ bx h g ∧ ∃ S', bo_at g S' ∧ S'.1 0 = nI (nO B) ∧ S'.2.2.1 1 = p ∧ FE (nO B) (S'.2.2.1 2) (clo (tX U B (nO B) s (nJ B)))) := by
  intro k
  induction k with
  | zero => intro i S1 g h1 h2; exact absurd h2 (by omega)
  | succ k ih =>
    intro i S1 g hi0 him E0 hB hbo e0 ep hF
    have hj9 := hok.2.2.2.2.2.2.1
    refine wq (fun _ _ kk => rs_iload_n (pc := 19) dX0_pairsWith_19 rfl kk) ?_
    refine wq (fun _ _ kk => rs_aload_n (pc := 20) dX0_pairsWith_20 rfl kk) ?_
    refine wq (fun _ _ kk => rs_getf (pc := 21) dX0_pairsWith_21 fX0_54 (bk_lt hB (by decide)) hB.2.2.2.2.2.2.1 rfl kk) ?_
    rw [hok.2.2.2.2.2.1]
    refine wq_br (fun _ _ kt kf => rs_icmp_ge (tgt := 58) (pc := 24) dX0_pairsWith_24 rfl kt kf) (fun c_24 => ?_) (fun c_24 => ?_)
    · have hie : i = nJ B := lp_exit rfl (by omega) hi0 c_24
      subst hie
      refine wq (fun _ _ kk => rs_iconst (v := 0) (pc := 58) dX0_pairsWith_58 rfl kk) ?_
      refine wq (fun _ _ kk => wk_istn3 (pc := 59) dX0_pairsWith_59 (by decide) rfl kk) ?_
      refine wq (fun _ _ kk => rs_iconst (v := 0) (pc := 60) dX0_pairsWith_60 rfl kk) ?_
      refine wq (fun _ _ kk => wk_ist4 (pc := 61) dX0_pairsWith_61 (by decide) rfl kk) ?_
      exact ⟨_, _, ⟨rfl, E0, S1, hbo, e0, ep, hF⟩, l1_X0_pairsWith hn hbo e0 hF (nO B + 1) 0 (by omega) (by omega)⟩
    · have hi : i < nJ B := lp_go rfl (by omega) c_24
      obtain ⟨j1, j2, j3, j4, -⟩ := hok.2.2.2.2.2.2.2 i hi
      obtain ⟨a, ha, ea⟩ := i32_ex j1 j2
      obtain ⟨b, hb, eb⟩ := i32_ex j3 j4
      have ja : ji B i 0 = a := by unfold ji; rw [ea, nI_clamp (by omega)]
      have jb : ji B i 1 = b := by unfold ji; rw [eb, nI_clamp (by omega)]
      refine wq (fun _ _ kk => rs_iload_n (pc := 27) dX0_pairsWith_27 rfl kk) ?_
      refine wq (fun _ _ kk => rs_iload_n (pc := 28) dX0_pairsWith_28 rfl kk) ?_
      refine wq (fun _ _ kk => rs_ishr (pc := 29) dX0_pairsWith_29 kk) ?_
      refine wq (fun _ _ kk => rs_iconst (v := 1) (pc := 30) dX0_pairsWith_30 rfl kk) ?_
      refine wq (fun _ _ kk => rs_iand (pc := 31) dX0_pairsWith_31 kk) ?_
      refine wq (fun _ _ kk => rs_iconst (v := 1) (pc := 32) dX0_pairsWith_32 rfl kk) ?_
      refine wq_bn (fun _ _ kt kf => rs_icmp_ne (tgt := 52) (pc := 33) dX0_pairsWith_33 rfl kt kf) (fun c_33 => ?_) (fun c_33 => ?_)
      · rw [sb_nI hs (by omega)] at c_33
        refine wq (fun _ _ kk => wk_iinc3 (v := nI (i + 1)) (pc := 52) dX0_pairsWith_52 (by decide) rfl (nI_1 i) kk) ?_
        refine wq (fun _ _ kk => rs_goto (tgt := 19) (pc := 55) dX0_pairsWith_55 rfl kk) ?_
        exact ih (i + 1) S1 g (by omega) (by omega) E0 hB hbo e0 ep (by rw [tX_n c_33]; exact hF)
      · rw [sb_nI hs (by omega)] at c_33
        refine wq (fun _ _ kk => rs_aload_n (pc := 36) dX0_pairsWith_36 rfl kk) ?_
        refine wq (fun _ _ kk => rs_aload_n (pc := 37) dX0_pairsWith_37 rfl kk) ?_
        refine wq (fun _ _ kk => rs_iload_n (pc := 38) dX0_pairsWith_38 rfl kk) ?_
        refine wq (fun _ _ kk => rs_iconst (v := 0) (pc := 39) dX0_pairsWith_39 rfl kk) ?_
        refine wq (fun _ _ kk => rs_callV (as := [_, _]) (pc := 40) dX0_pairsWith_40 mk_X8_at mlX0_59 in_X8_at se_X8_at rfl (bk_lt hB (by decide)) hB.2.2.2.2.2.2.1 rfl rfl (Nat.le_of_ble_eq_true rfl) (c_X8_at (bk_lt hB (by decide)) hB.2.2.2.2.2.2.1 (bk_lt hB (by decide)) hB.2.2.2.2.2.2.2.1 hB.2.2.2.2.2.2.2.2 _ _) kk) ?_
        rw [show tb_at 3 (bk_j B).1 (bk_j B).2 (nI i) 0 = nI a from ea]
        refine wq (fun _ _ kk => rs_aload_n (pc := 43) dX0_pairsWith_43 rfl kk) ?_
        refine wq (fun _ _ kk => rs_iload_n (pc := 44) dX0_pairsWith_44 rfl kk) ?_
        refine wq (fun _ _ kk => rs_iconst (v := 1) (pc := 45) dX0_pairsWith_45 rfl kk) ?_
        refine wq (fun _ _ kk => rs_callV (as := [_, _]) (pc := 46) dX0_pairsWith_46 mk_X8_at mlX0_59 in_X8_at se_X8_at rfl (bk_lt hB (by decide)) hB.2.2.2.2.2.2.1 rfl rfl (Nat.le_of_ble_eq_true rfl) (c_X8_at (bk_lt hB (by decide)) hB.2.2.2.2.2.2.1 (bk_lt hB (by decide)) hB.2.2.2.2.2.2.2.1 hB.2.2.2.2.2.2.2.2 _ _) kk) ?_
        rw [show tb_at 3 (bk_j B).1 (bk_j B).2 (nI i) 1 = nI b from eb]
        obtain ⟨rv_49, hc_49, ⟨rfl, ee_49, S2, hbo_49, e0_49, ep_49, hF_49⟩, hm_49⟩ := c_X0_bind hn e0 hbo ha hb hF
        refine wq (fun _ _ kk => rs_callV (as := [_, _]) (pc := 49) dX0_pairsWith_49 mk_X0_bind mlX0_37 in_X0_bind se_X0_bind rfl (mo_lt hbo (by decide)) hbo.2.1 rfl rfl (Nat.le_of_ble_eq_true rfl) (hm_49) kk) ?_
        have hB_49 := hB.keep ee_49.1 (fun j _ _ => ee_49.2.2 j (by omega))
        refine wq (fun _ _ kk => wk_iinc3 (v := nI (i + 1)) (pc := 52) dX0_pairsWith_52 (by decide) rfl (nI_1 i) kk) ?_
        refine wq (fun _ _ kk => rs_goto (tgt := 19) (pc := 55) dX0_pairsWith_55 rfl kk) ?_
        exact ih (i + 1) S2 _ (by omega) (by omega) (E0.trans ee_49) hB_49 hbo_49 e0_49 (ep_49.trans ep) (by rw [tX_y c_33, ja, jb]; exact hF_49)
set_option maxRecDepth 100000 in
set_option maxHeartbeats 4000000 in
theorem c_X0_pairsWith {h : ai_H} {B : Bk} {ln : Nat} {U : Nat → List Int} {s : Nat} (hok : bk_ok B ln) {S : Md} (hs : s < 2 ^ 31) (hB : bk_at h 1 B) (hbo : bo_at h S) (e0 : S.1 0 = nI (nO B)) (hF : FE (nO B) (S.2.2.1 1) (clo (eX U (nO B)))) : ai_QM MX0_pairsWith [.ref 298, .ref 10, .int (nI s)] h (fun r g => r = some (.int (prs U B s)) ∧ bx h g ∧ ∃ S', bo_at g S' ∧ S'.1 0 = nI (nO B) ∧ S'.2.2.1 1 = S.2.2.1 1 ∧ FE (nO B) (S'.2.2.1 2) (clo (tX U B (nO B) s (nJ B)))) := by
  have hn := hok.2.1.2.1
  refine qm_of (ls := [.ref 298, .ref 10, .int (nI s), .float 0, .float 0]) (by decide) (by simp [ai_en, Value.category]) (by rfl) ?_
  refine wq (fun _ _ kk => rs_aload_n (pc := 0) dX0_pairsWith_0 rfl kk) ?_
  refine wq (fun _ _ kk => rs_getf (pc := 1) dX0_pairsWith_1 fX0_15 (mo_lt hbo (by decide)) hbo.2.1 rfl kk) ?_
  refine wq (fun _ _ kk => rs_iconst (v := 0) (pc := 4) dX0_pairsWith_4 rfl kk) ?_
  refine wq (fun _ _ kk => rs_aload_n (pc := 5) dX0_pairsWith_5 rfl kk) ?_
  refine wq (fun _ _ kk => rs_getf (pc := 6) dX0_pairsWith_6 fX0_19 (mo_lt hbo (by decide)) hbo.2.1 rfl kk) ?_
  refine wq (fun _ _ kk => rs_iconst (v := 0) (pc := 9) dX0_pairsWith_9 rfl kk) ?_
  refine wq (fun _ _ kk => rs_aload_n (pc := 10) dX0_pairsWith_10 rfl kk) ?_
  refine wq (fun _ _ kk => rs_getf (pc := 11) dX0_pairsWith_11 fX0_9 (mo_lt hbo (by decide)) hbo.2.1 rfl kk) ?_
  rw [e0]
  refine wq (fun _ _ kk => rs_copy (pc := 14) dX0_pairsWith_14 mlX0_41 cp_na cp_st cp_in (mo_lt hbo (by decide)) (mo_geti (d := 0) (k := 1) (kd := 0) (l := 16) rfl (by decide) hbo) (mo_lt hbo (by decide)) (mo_geti (d := 1) (k := 2) (kd := 0) (l := 16) rfl (by decide) hbo) (by decide) (by decide) (by have := nI_toInt (show nO B < 2 ^ 31 by omega); rw [i32_lt, i32_0]; omega) (by rw [nI_clamp (by omega)]; exact (by omega : 0 + nO B ≤ 16)) (by rw [nI_clamp (by omega)]; exact (by omega : 0 + nO B ≤ 16)) (by decide) (Nat.le_of_ble_eq_true rfl) kk) ?_
  refine wq_gen (fun h_1 e_1 => ?_)
  obtain ⟨m_1, s_1, g_1, o_1⟩ := ai_e1 e_1
  replace hbo := mo_ai (tab := bo_tab) (d := 1) bo_nd rfl (by decide) (fun _ _ _ => rfl) hbo m_1 g_1 o_1
  replace hB := hB.keep m_1 (fun j _ _ => o_1 j (by omega))
  have E_1 := (bx.rf).trans (bx_of m_1 s_1 o_1 (by decide))
  refine wq (fun _ _ kk => rs_iconst (v := 0) (pc := 17) dX0_pairsWith_17 rfl kk) ?_
  refine wq (fun _ _ kk => wk_istn3 (pc := 18) dX0_pairsWith_18 (by decide) rfl kk) ?_
  exact l2_X0_pairsWith (h := h) hok hn hs (nJ B + 1) 0 _ _ (by omega) (by omega) (E_1) hB hbo e0 rfl (by rw [tX_0]; exact FE_cp hF hn)
