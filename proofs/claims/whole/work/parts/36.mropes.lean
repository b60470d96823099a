/-! 36: the model's ropes (walks laid by wip/whole/p36.py) -/
theorem dX12_apart_0 : decode cX12_apart 0 = .ok (.aload_n 0, 1) := by decide +kernel
theorem dX12_apart_1 : decode cX12_apart 1 = .ok (.getfield 126, 3) := by decide +kernel
theorem dX12_apart_4 : decode cX12_apart 4 = .ok (.iload_n 1, 1) := by decide +kernel
theorem dX12_apart_5 : decode cX12_apart 5 = .ok (.laload, 1) := by decide +kernel
theorem dX12_apart_6 : decode cX12_apart 6 = .ok (.aload_n 0, 1) := by decide +kernel
theorem dX12_apart_7 : decode cX12_apart 7 = .ok (.getfield 117, 3) := by decide +kernel
theorem dX12_apart_10 : decode cX12_apart 10 = .ok (.iload_n 1, 1) := by decide +kernel
theorem dX12_apart_11 : decode cX12_apart 11 = .ok (.iaload, 1) := by decide +kernel
theorem dX12_apart_12 : decode cX12_apart 12 = .ok (.i2l, 1) := by decide +kernel
theorem dX12_apart_13 : decode cX12_apart 13 = .ok (.invokestatic 403, 3) := by decide +kernel
theorem dX12_apart_16 : decode cX12_apart 16 = .ok (.lreturn, 1) := by decide +kernel
set_option maxRecDepth 100000 in
set_option maxHeartbeats 4000000 in
theorem c_X12_apart {h : ai_H} {V : Md} (hmd : md_at h V) {U : Nat → List Int} (hl : lrow U) (hm : mrow V U) {k : Nat} (hk : k < 256) (hne : U k ≠ []) : ai_Met MX12_apart [.ref 307, .int (nI k)] h (some (.long (aL (zm (U k))))) h := by
  have hnz : ¬ (V.2.2.1 50 k).toInt64 = 0 := by
    rw [(hm k hk).1]
    exact i64_ne0 (by rw [nI_z (by have := (hl k hk).1; omega)]; have := len_pos hne; omega)
  refine ai_met (ls := [.ref 307, .int (nI k)]) (by decide) (by simp [ai_en, Value.category]) (by rfl) ?_
  refine rs_aload_n (pc := 0) dX12_apart_0 rfl ?_
  refine rs_getf (pc := 1) dX12_apart_1 fX12_126 (md_lt hmd (by decide)) hmd.2.1 rfl ?_
  refine rs_iload_n (pc := 4) dX12_apart_4 rfl ?_
  refine rs_lald (pc := 5) dX12_apart_5 (md_lt hmd (by decide)) (md_getl (d := 38) (k := 53) (kd := 1) (n := 256) rfl (by decide) hmd) (vp_in_nI (n := k) (N := 256) (by omega) (by decide)) ?_
  rw [nI_clamp (show k < 2 ^ 31 by omega)]
  refine rs_aload_n (pc := 6) dX12_apart_6 rfl ?_
  refine rs_getf (pc := 7) dX12_apart_7 fX12_117 (md_lt hmd (by decide)) hmd.2.1 rfl ?_
  refine rs_iload_n (pc := 10) dX12_apart_10 rfl ?_
  refine rs_iald (pc := 11) dX12_apart_11 (md_lt hmd (by decide)) (md_geti (d := 35) (k := 50) (kd := 0) (n := 256) rfl (by decide) hmd) (vp_in_nI (n := k) (N := 256) (by omega) (by decide)) ?_
  rw [nI_clamp (show k < 2 ^ 31 by omega)]
  refine rs_i2l (pc := 12) dX12_apart_12 ?_
  refine rs_callS (as := [_, _]) (pc := 13) dX12_apart_13 mk_X12_floorOf mlX12_403 st_X12_floorOf rfl rfl (Nat.le_of_ble_eq_true rfl) (c_X12_floorOf hnz) ?_
  exact wk_lret (pc := 16) dX12_apart_16 rfl (by rw [(hm k hk).2.1, (hm k hk).1, (ty_mean_is hl hk hne).2]) (rfl)
theorem dX12_span_0 : decode cX12_span 0 = .ok (.aload_n 0, 1) := by decide +kernel
theorem dX12_span_1 : decode cX12_span 1 = .ok (.getfield 132, 3) := by decide +kernel
theorem dX12_span_4 : decode cX12_span 4 = .ok (.iload_n 1, 1) := by decide +kernel
theorem dX12_span_5 : decode cX12_span 5 = .ok (.laload, 1) := by decide +kernel
theorem dX12_span_6 : decode cX12_span 6 = .ok (.aload_n 0, 1) := by decide +kernel
theorem dX12_span_7 : decode cX12_span 7 = .ok (.getfield 129, 3) := by decide +kernel
theorem dX12_span_10 : decode cX12_span 10 = .ok (.iload_n 1, 1) := by decide +kernel
theorem dX12_span_11 : decode cX12_span 11 = .ok (.laload, 1) := by decide +kernel
theorem dX12_span_12 : decode cX12_span 12 = .ok (.lsub, 1) := by decide +kernel
theorem dX12_span_13 : decode cX12_span 13 = .ok (.lreturn, 1) := by decide +kernel
set_option maxRecDepth 100000 in
set_option maxHeartbeats 4000000 in
theorem c_X12_span {h : ai_H} {V : Md} (hmd : md_at h V) {U : Nat → List Int} (hl : lrow U) (hm : mrow V U) {k : Nat} (hk : k < 256) (hne : U k ≠ []) : ai_Met MX12_span [.ref 307, .int (nI k)] h (some (.long (aL (lmax (U k) - lmin (U k))))) h := by
  refine ai_met (ls := [.ref 307, .int (nI k)]) (by decide) (by simp [ai_en, Value.category]) (by rfl) ?_
  refine rs_aload_n (pc := 0) dX12_span_0 rfl ?_
  refine rs_getf (pc := 1) dX12_span_1 fX12_132 (md_lt hmd (by decide)) hmd.2.1 rfl ?_
  refine rs_iload_n (pc := 4) dX12_span_4 rfl ?_
  refine rs_lald (pc := 5) dX12_span_5 (md_lt hmd (by decide)) (md_getl (d := 40) (k := 55) (kd := 1) (n := 256) rfl (by decide) hmd) (vp_in_nI (n := k) (N := 256) (by omega) (by decide)) ?_
  rw [nI_clamp (show k < 2 ^ 31 by omega)]
  refine rs_aload_n (pc := 6) dX12_span_6 rfl ?_
  refine rs_getf (pc := 7) dX12_span_7 fX12_129 (md_lt hmd (by decide)) hmd.2.1 rfl ?_
  refine rs_iload_n (pc := 10) dX12_span_10 rfl ?_
  refine rs_lald (pc := 11) dX12_span_11 (md_lt hmd (by decide)) (md_getl (d := 39) (k := 54) (kd := 1) (n := 256) rfl (by decide) hmd) (vp_in_nI (n := k) (N := 256) (by omega) (by decide)) ?_
  rw [nI_clamp (show k < 2 ^ 31 by omega)]
  refine rs_lsub (pc := 12) dX12_span_12 ?_
  exact wk_lret (pc := 13) dX12_span_13 rfl (by rw [((hm k hk).2.2 hne).1, ((hm k hk).2.2 hne).2, aL_sub]) (rfl)
theorem wid_num {U : Nat → List Int} (hl : lrow U) {k : Nat} (hk : k < 256) (hne : U k ≠ []) {x : Int32} (hx : x = nI (U k).length) : some (Value.long (aL (lmax (U k) - lmin (U k)) + (1000 + x.toInt64 - 1) / x.toInt64)) = some (.long (aL (zw (U k)))) := by
  have h1 := (hl k hk).1
  have hq := zq_b (len_pos hne)
  rw [hx, ← aI_nat, aI_i2l (by omega) (by omega), show (1000 : Int64) = aL 1000 from rfl, show (1 : Int64) = aL 1 from rfl, aL_add, aL_sub, aL_quo (by omega) (by omega) (by omega) (by omega), show 1000 + ((U k).length : Int) - 1 = 999 + ((U k).length : Int) by omega, aL_add]
  rfl
theorem dX12_width_0 : decode cX12_width 0 = .ok (.aload_n 0, 1) := by decide +kernel
theorem dX12_width_1 : decode cX12_width 1 = .ok (.iload_n 1, 1) := by decide +kernel
theorem dX12_width_2 : decode cX12_width 2 = .ok (.invokevirtual 417, 3) := by decide +kernel
theorem dX12_width_5 : decode cX12_width 5 = .ok (.ldc2_w 401, 3) := by decide +kernel
theorem dX12_width_8 : decode cX12_width 8 = .ok (.aload_n 0, 1) := by decide +kernel
theorem dX12_width_9 : decode cX12_width 9 = .ok (.getfield 117, 3) := by decide +kernel
theorem dX12_width_12 : decode cX12_width 12 = .ok (.iload_n 1, 1) := by decide +kernel
theorem dX12_width_13 : decode cX12_width 13 = .ok (.iaload, 1) := by decide +kernel
theorem dX12_width_14 : decode cX12_width 14 = .ok (.i2l, 1) := by decide +kernel
theorem dX12_width_15 : decode cX12_width 15 = .ok (.ladd, 1) := by decide +kernel
theorem dX12_width_16 : decode cX12_width 16 = .ok (.lconst 1, 1) := by decide +kernel
theorem dX12_width_17 : decode cX12_width 17 = .ok (.lsub, 1) := by decide +kernel
theorem dX12_width_18 : decode cX12_width 18 = .ok (.aload_n 0, 1) := by decide +kernel
theorem dX12_width_19 : decode cX12_width 19 = .ok (.getfield 117, 3) := by decide +kernel
theorem dX12_width_22 : decode cX12_width 22 = .ok (.iload_n 1, 1) := by decide +kernel
theorem dX12_width_23 : decode cX12_width 23 = .ok (.iaload, 1) := by decide +kernel
theorem dX12_width_24 : decode cX12_width 24 = .ok (.i2l, 1) := by decide +kernel
theorem dX12_width_25 : decode cX12_width 25 = .ok (.ldiv, 1) := by decide +kernel
theorem dX12_width_26 : decode cX12_width 26 = .ok (.ladd, 1) := by decide +kernel
theorem dX12_width_27 : decode cX12_width 27 = .ok (.lreturn, 1) := by decide +kernel
set_option maxRecDepth 100000 in
set_option maxHeartbeats 4000000 in
theorem c_X12_width {h : ai_H} {V : Md} (hmd : md_at h V) {U : Nat → List Int} (hl : lrow U) (hm : mrow V U) {k : Nat} (hk : k < 256) (hne : U k ≠ []) : ai_Met MX12_width [.ref 307, .int (nI k)] h (some (.long (aL (zw (U k))))) h := by
  have hnz : ¬ (V.2.2.1 50 k).toInt64 = 0 := by
    rw [(hm k hk).1]
    exact i64_ne0 (by rw [nI_z (by have := (hl k hk).1; omega)]; have := len_pos hne; omega)
  refine ai_met (ls := [.ref 307, .int (nI k)]) (by decide) (by simp [ai_en, Value.category]) (by rfl) ?_
  refine rs_aload_n (pc := 0) dX12_width_0 rfl ?_
  refine rs_iload_n (pc := 1) dX12_width_1 rfl ?_
  refine rs_callV (as := [_]) (pc := 2) dX12_width_2 mk_X12_span mlX12_417 in_X12_span se_X12_span rfl (md_lt hmd (by decide)) hmd.2.1 rfl rfl (Nat.le_of_ble_eq_true rfl) (c_X12_span hmd hl hm hk hne) ?_
  refine rs_ldc2 (pc := 5) dX12_width_5 cnX12_401 ?_
  refine rs_aload_n (pc := 8) dX12_width_8 rfl ?_
  refine rs_getf (pc := 9) dX12_width_9 fX12_117 (md_lt hmd (by decide)) hmd.2.1 rfl ?_
  refine rs_iload_n (pc := 12) dX12_width_12 rfl ?_
  refine rs_iald (pc := 13) dX12_width_13 (md_lt hmd (by decide)) (md_geti (d := 35) (k := 50) (kd := 0) (n := 256) rfl (by decide) hmd) (vp_in_nI (n := k) (N := 256) (by omega) (by decide)) ?_
  rw [nI_clamp (show k < 2 ^ 31 by omega)]
  refine rs_i2l (pc := 14) dX12_width_14 ?_
  refine rs_ladd (pc := 15) dX12_width_15 ?_
  refine rs_lconst (v := 1) (pc := 16) dX12_width_16 rfl ?_
  refine rs_lsub (pc := 17) dX12_width_17 ?_
  refine rs_aload_n (pc := 18) dX12_width_18 rfl ?_
  refine rs_getf (pc := 19) dX12_width_19 fX12_117 (md_lt hmd (by decide)) hmd.2.1 rfl ?_
  refine rs_iload_n (pc := 22) dX12_width_22 rfl ?_
  refine rs_iald (pc := 23) dX12_width_23 (md_lt hmd (by decide)) (md_geti (d := 35) (k := 50) (kd := 0) (n := 256) rfl (by decide) hmd) (vp_in_nI (n := k) (N := 256) (by omega) (by decide)) ?_
  rw [nI_clamp (show k < 2 ^ 31 by omega)]
  refine rs_i2l (pc := 24) dX12_width_24 ?_
  refine rs_ldiv (pc := 25) dX12_width_25 hnz ?_
  refine rs_ladd (pc := 26) dX12_width_26 ?_
  exact wk_lret (pc := 27) dX12_width_27 rfl ((wid_num hl hk hne (hm k hk).1).symm) (rfl)
/-- column b of the ropes' rows holds the tolls d -/
def rcol (V : Md) (n b : Nat) (d : Tl) : Prop := ∀ a, a < n → (d a = none → V.2.2.1 58 (16 * a + b) = -1) ∧ ∀ v, d a = some v → V.2.2.1 58 (16 * a + b) = nI (v % 32) ∧ V.2.2.2 56 (16 * a + b) = aL ((v / 32 : Nat) : Int)
/-- all is the same but column b of the ropes' rows -/
def rg (b : Nat) (V W : Md) : Prop := W.1 = V.1 ∧ W.2.1 = V.2.1 ∧ (∀ k, k ≠ 58 → k ≠ 59 → W.2.2.1 k = V.2.2.1 k) ∧ (∀ k, k ≠ 56 → k ≠ 57 → W.2.2.2 k = V.2.2.2 k) ∧ ∀ j, j % 16 ≠ b → W.2.2.1 58 j = V.2.2.1 58 j ∧ W.2.2.1 59 j = V.2.2.1 59 j ∧ W.2.2.2 56 j = V.2.2.2 56 j ∧ W.2.2.2 57 j = V.2.2.2 57 j
theorem rg.rf {b : Nat} {V : Md} : rg b V V := ⟨rfl, rfl, fun _ _ _ => rfl, fun _ _ _ => rfl, fun _ _ => ⟨rfl, rfl, rfl, rfl⟩⟩
theorem rg.trans {b : Nat} {V W X : Md} (h : rg b V W) (k : rg b W X) : rg b V X := by
  obtain ⟨a1, a2, a3, a4, a5⟩ := h
  obtain ⟨b1, b2, b3, b4, b5⟩ := k
  refine ⟨b1.trans a1, b2.trans a2, fun k h1 h2 => (b3 k h1 h2).trans (a3 k h1 h2), fun k h1 h2 => (b4 k h1 h2).trans (a4 k h1 h2), fun j hj => ?_⟩
  obtain ⟨c1, c2, c3, c4⟩ := a5 j hj
  obtain ⟨d1, d2, d3, d4⟩ := b5 j hj
  exact ⟨d1.trans c1, d2.trans c2, d3.trans c3, d4.trans c4⟩
theorem rg.i58 {b k : Nat} {V : Md} {x : Int32} (hk : k % 16 = b) : rg b V (md_ai V 58 (upd (V.2.2.1 58) k x)) := by
  refine ⟨rfl, rfl, fun j h1 _ => ?_, fun _ _ _ => rfl, fun j hj => ⟨?_, rfl, rfl, rfl⟩⟩
  · show va_up _ _ _ j = _; rw [va_up, if_neg h1]
  · show upd _ k x j = _; rw [pk_un (fun e => hj (by rw [e]; exact hk))]
theorem rg.i59 {b k : Nat} {V : Md} {x : Int32} (hk : k % 16 = b) : rg b V (md_ai V 59 (upd (V.2.2.1 59) k x)) := by
  refine ⟨rfl, rfl, fun j _ h1 => ?_, fun _ _ _ => rfl, fun j hj => ⟨rfl, ?_, rfl, rfl⟩⟩
  · show va_up _ _ _ j = _; rw [va_up, if_neg h1]
  · show upd _ k x j = _; rw [pk_un (fun e => hj (by rw [e]; exact hk))]
theorem rg.l56 {b k : Nat} {V : Md} {x : Int64} (hk : k % 16 = b) : rg b V (md_al V 56 (vp_updL (V.2.2.2 56) k x)) := by
  refine ⟨rfl, rfl, fun _ _ _ => rfl, fun j h1 _ => ?_, fun j hj => ⟨rfl, rfl, ?_, rfl⟩⟩
  · show va_up _ _ _ j = _; rw [va_up, if_neg h1]
  · show vp_updL _ k x j = _; rw [pk_uLn (fun e => hj (by rw [e]; exact hk))]
theorem rg.l57 {b k : Nat} {V : Md} {x : Int64} (hk : k % 16 = b) : rg b V (md_al V 57 (vp_updL (V.2.2.2 57) k x)) := by
  refine ⟨rfl, rfl, fun _ _ _ => rfl, fun j _ h1 => ?_, fun j hj => ⟨rfl, rfl, rfl, ?_⟩⟩
  · show va_up _ _ _ j = _; rw [va_up, if_neg h1]
  · show vp_updL _ k x j = _; rw [pk_uLn (fun e => hj (by rw [e]; exact hk))]
theorem rg.sb {b : Nat} {V W : Md} (h : rg b V W) : sb V W := ⟨fun k _ => by rw [h.1], fun k hk => h.2.2.1 k (by omega) (by omega)⟩
theorem rg.mrow {b : Nat} {V W : Md} {U : Nat → List Int} (h : rg b V W) (hm : mrow V U) : mrow W U := by
  intro k hk
  rw [h.2.2.1 50 (by decide) (by decide), h.2.2.2.1 53 (by decide) (by decide), h.2.2.2.1 54 (by decide) (by decide), h.2.2.2.1 55 (by decide) (by decide)]
  exact hm k hk
theorem rg_nop {b k : Nat} {V : Md} : md_al (md_ai V 58 (upd (V.2.2.1 58) k (V.2.2.1 58 k))) 56 (vp_updL (V.2.2.2 56) k (V.2.2.2 56 k)) = V := by
  have e1 : upd (V.2.2.1 58) k (V.2.2.1 58 k) = V.2.2.1 58 := by
    funext j
    by_cases e : j = k
    · subst e; rw [pk_us]
    · rw [pk_un e]
  have e2 : vp_updL (V.2.2.2 56) k (V.2.2.2 56 k) = V.2.2.2 56 := by
    funext j
    by_cases e : j = k
    · subst e; rw [pk_uLs]
    · rw [pk_uLn e]
  rw [e1, e2]
  unfold md_al md_ai
  have e3 : va_up V.2.2.1 58 (V.2.2.1 58) = V.2.2.1 := by
    funext j
    rw [va_up]
    split
    · next e => rw [e]
    · rfl
  have e4 : va_up V.2.2.2 56 (V.2.2.2 56) = V.2.2.2 := by
    funext j
    rw [va_up]
    split
    · next e => rw [e]
    · rfl
  show (V.1, V.2.1, va_up V.2.2.1 58 (V.2.2.1 58), va_up V.2.2.2 56 (V.2.2.2 56)) = V
  rw [e3, e4]
section SHORTER
variable {U : Nat → List Int} {V : Md} {n a b c : Nat} {d : Tl}
theorem ro_s_no {e : Nat → Nat → Option Nat} {f : Bool} (h : ro_bt (ro_by e d a c) (d a) = false) : (ro_s e a (d, f) c) = (d, f) := by
  unfold ro_s
  rw [if_neg (by rw [h]; decide)]
theorem sh_goal (hd : d b = some 0) : ro_bt (ro_by (ro_U U) d b c) (d b) = false := by
  cases hb : ro_bt (ro_by (ro_U U) d b c) (d b) with
  | false => rfl
  | true =>
    obtain ⟨u, eu, hu⟩ := ro_bt_yes.1 hb
    have := hu 0 hd
    omega
theorem sh_met (hac : a < 16 ∧ c < 16) (hl : lrow U) (hm : mrow V U) (h : V.2.2.1 50 (16 * a + c) = 0) : ro_bt (ro_by (ro_U U) d a c) (d a) = false := by
  have hk : 16 * a + c < 256 := by omega
  rw [(hm _ hk).1, nI_z (by have := (hl _ hk).1; omega), len_0] at h
  have e : ro_U U a c = none := by
    unfold ro_U
    rw [if_neg (fun z => z.2.2 (by rw [Nat.mul_comm]; exact h))]
  unfold ro_by
  rw [e]
  rfl
theorem sh_rest (hc : c < n) (hcol : rcol V n b d) (h : V.2.2.1 58 (16 * c + b) = -1) : d c = none := by
  cases hd : d c with
  | none => rfl
  | some v =>
    rw [((hcol c hc).2 v hd).1] at h
    exact absurd h (nI_m1 (by omega))
theorem sh_by (hn : n ≤ 16) (hl : lrow U) (hm : mrow V U) (hg : ro_good (ro_U U) n b d) (ha : a < n) (hc : c < n) (h1 : ¬ V.2.2.1 50 (16 * a + c) = 0) (h2 : ¬ V.2.2.1 58 (16 * c + b) = -1) (hcol : rcol V n b d) : ∃ v X, d c = some v ∧ ro_by (ro_U U) d a c = some (X * 32 + 1 + v) ∧ U (16 * a + c) ≠ [] ∧ zw (U (16 * a + c)) = X ∧ X ≤ 40789000 ∧ v ≤ 19578720015 ∧ v % 32 < 16 := by
  have hk : 16 * a + c < 256 := by omega
  have hne : U (16 * a + c) ≠ [] := by
    rw [(hm _ hk).1, nI_z (by have := (hl _ hk).1; omega), len_0] at h1
    exact h1
  cases hd : d c with
  | none => exact absurd ((hcol c hc).1 hd) h2
  | some v =>
    have hz := zw_b hl hk hne
    refine ⟨v, (zw (U (16 * a + c))).toNat, rfl, ?_, hne, by omega, by omega, (ro_U_b hl hn hg hd).1, (ro_good_li (ro_U_32 U) hn hg hd).1⟩
    refine ro_by_some.2 ⟨_, v, ?_, hd, rfl⟩
    unfold ro_U
    rw [show a * 16 + c = 16 * a + c by omega, if_pos ⟨by omega, by omega, hne⟩]
theorem rcol_up (hn : n ≤ 16) (hb : b < n) (ha : a < n) (hcol : rcol V n b d) {v : Nat} {x : Int32} {w : Int64} (hx : x = nI (v % 32)) (hw : w = aL ((v / 32 : Nat) : Int)) : rcol (md_al (md_ai V 58 (upd (V.2.2.1 58) (16 * a + b) x)) 56 (vp_updL (V.2.2.2 56) (16 * a + b) w)) n b (va_up d a (some v)) := by
  intro e he
  show (va_up d a (some v) e = none → upd (V.2.2.1 58) (16 * a + b) x (16 * e + b) = -1) ∧ ∀ u, va_up d a (some v) e = some u → upd (V.2.2.1 58) (16 * a + b) x (16 * e + b) = nI (u % 32) ∧ vp_updL (V.2.2.2 56) (16 * a + b) w (16 * e + b) = aL ((u / 32 : Nat) : Int)
  by_cases h : e = a
  · subst h
    rw [va_up, if_pos rfl, pk_us, pk_uLs]
    exact ⟨fun z => (by cases z), fun u hu => by cases hu; exact ⟨hx, hw⟩⟩
  · rw [va_up, if_neg h, pk_un (by omega), pk_uLn (by omega)]
    exact hcol e he
end SHORTER
theorem dX12_isShorter_0 : decode cX12_isShorter 0 = .ok (.bipush 16, 2) := by decide +kernel
theorem dX12_isShorter_2 : decode cX12_isShorter 2 = .ok (.iload_n 1, 1) := by decide +kernel
theorem dX12_isShorter_3 : decode cX12_isShorter 3 = .ok (.imul, 1) := by decide +kernel
theorem dX12_isShorter_4 : decode cX12_isShorter 4 = .ok (.iload_n 2, 1) := by decide +kernel
theorem dX12_isShorter_5 : decode cX12_isShorter 5 = .ok (.iadd, 1) := by decide +kernel
theorem dX12_isShorter_6 : decode cX12_isShorter 6 = .ok (.istore 4, 2) := by decide +kernel
theorem dX12_isShorter_8 : decode cX12_isShorter 8 = .ok (.bipush 16, 2) := by decide +kernel
theorem dX12_isShorter_10 : decode cX12_isShorter 10 = .ok (.iload_n 2, 1) := by decide +kernel
theorem dX12_isShorter_11 : decode cX12_isShorter 11 = .ok (.imul, 1) := by decide +kernel
theorem dX12_isShorter_12 : decode cX12_isShorter 12 = .ok (.iload_n 3, 1) := by decide +kernel
theorem dX12_isShorter_13 : decode cX12_isShorter 13 = .ok (.iadd, 1) := by decide +kernel
theorem dX12_isShorter_14 : decode cX12_isShorter 14 = .ok (.istore 5, 2) := by decide +kernel
theorem dX12_isShorter_16 : decode cX12_isShorter 16 = .ok (.bipush 16, 2) := by decide +kernel
theorem dX12_isShorter_18 : decode cX12_isShorter 18 = .ok (.iload_n 1, 1) := by decide +kernel
theorem dX12_isShorter_19 : decode cX12_isShorter 19 = .ok (.imul, 1) := by decide +kernel
theorem dX12_isShorter_20 : decode cX12_isShorter 20 = .ok (.iload_n 3, 1) := by decide +kernel
theorem dX12_isShorter_21 : decode cX12_isShorter 21 = .ok (.iadd, 1) := by decide +kernel
theorem dX12_isShorter_22 : decode cX12_isShorter 22 = .ok (.istore 6, 2) := by decide +kernel
theorem dX12_isShorter_24 : decode cX12_isShorter 24 = .ok (.iload_n 1, 1) := by decide +kernel
theorem dX12_isShorter_25 : decode cX12_isShorter 25 = .ok (.iload_n 3, 1) := by decide +kernel
theorem dX12_isShorter_26 : decode cX12_isShorter 26 = .ok (.if_icmp .eq 24, 3) := by decide +kernel
theorem dX12_isShorter_29 : decode cX12_isShorter 29 = .ok (.aload_n 0, 1) := by decide +kernel
theorem dX12_isShorter_30 : decode cX12_isShorter 30 = .ok (.getfield 117, 3) := by decide +kernel
theorem dX12_isShorter_33 : decode cX12_isShorter 33 = .ok (.iload 4, 2) := by decide +kernel
theorem dX12_isShorter_35 : decode cX12_isShorter 35 = .ok (.iaload, 1) := by decide +kernel
theorem dX12_isShorter_36 : decode cX12_isShorter 36 = .ok (.ifCond .eq 14, 3) := by decide +kernel
theorem dX12_isShorter_39 : decode cX12_isShorter 39 = .ok (.aload_n 0, 1) := by decide +kernel
theorem dX12_isShorter_40 : decode cX12_isShorter 40 = .ok (.getfield 141, 3) := by decide +kernel
theorem dX12_isShorter_43 : decode cX12_isShorter 43 = .ok (.iload 5, 2) := by decide +kernel
theorem dX12_isShorter_45 : decode cX12_isShorter 45 = .ok (.iaload, 1) := by decide +kernel
theorem dX12_isShorter_46 : decode cX12_isShorter 46 = .ok (.iconst (-1), 1) := by decide +kernel
theorem dX12_isShorter_47 : decode cX12_isShorter 47 = .ok (.if_icmp .ne 5, 3) := by decide +kernel
theorem dX12_isShorter_50 : decode cX12_isShorter 50 = .ok (.iconst 0, 1) := by decide +kernel
theorem dX12_isShorter_51 : decode cX12_isShorter 51 = .ok (.ireturn, 1) := by decide +kernel
theorem dX12_isShorter_52 : decode cX12_isShorter 52 = .ok (.aload_n 0, 1) := by decide +kernel
theorem dX12_isShorter_53 : decode cX12_isShorter 53 = .ok (.iload 4, 2) := by decide +kernel
theorem dX12_isShorter_55 : decode cX12_isShorter 55 = .ok (.invokevirtual 432, 3) := by decide +kernel
theorem dX12_isShorter_58 : decode cX12_isShorter 58 = .ok (.aload_n 0, 1) := by decide +kernel
theorem dX12_isShorter_59 : decode cX12_isShorter 59 = .ok (.getfield 135, 3) := by decide +kernel
theorem dX12_isShorter_62 : decode cX12_isShorter 62 = .ok (.iload 5, 2) := by decide +kernel
theorem dX12_isShorter_64 : decode cX12_isShorter 64 = .ok (.laload, 1) := by decide +kernel
theorem dX12_isShorter_65 : decode cX12_isShorter 65 = .ok (.ladd, 1) := by decide +kernel
theorem dX12_isShorter_66 : decode cX12_isShorter 66 = .ok (.lstore 7, 2) := by decide +kernel
theorem dX12_isShorter_68 : decode cX12_isShorter 68 = .ok (.aload_n 0, 1) := by decide +kernel
theorem dX12_isShorter_69 : decode cX12_isShorter 69 = .ok (.getfield 141, 3) := by decide +kernel
theorem dX12_isShorter_72 : decode cX12_isShorter 72 = .ok (.iload 5, 2) := by decide +kernel
theorem dX12_isShorter_74 : decode cX12_isShorter 74 = .ok (.iaload, 1) := by decide +kernel
theorem dX12_isShorter_75 : decode cX12_isShorter 75 = .ok (.iconst 1, 1) := by decide +kernel
theorem dX12_isShorter_76 : decode cX12_isShorter 76 = .ok (.iadd, 1) := by decide +kernel
theorem dX12_isShorter_77 : decode cX12_isShorter 77 = .ok (.istore 9, 2) := by decide +kernel
theorem dX12_isShorter_79 : decode cX12_isShorter 79 = .ok (.aload_n 0, 1) := by decide +kernel
theorem dX12_isShorter_80 : decode cX12_isShorter 80 = .ok (.getfield 141, 3) := by decide +kernel
theorem dX12_isShorter_83 : decode cX12_isShorter 83 = .ok (.iload 6, 2) := by decide +kernel
theorem dX12_isShorter_85 : decode cX12_isShorter 85 = .ok (.iaload, 1) := by decide +kernel
theorem dX12_isShorter_86 : decode cX12_isShorter 86 = .ok (.iconst (-1), 1) := by decide +kernel
theorem dX12_isShorter_87 : decode cX12_isShorter 87 = .ok (.if_icmp .eq 41, 3) := by decide +kernel
theorem dX12_isShorter_90 : decode cX12_isShorter 90 = .ok (.lload 7, 2) := by decide +kernel
theorem dX12_isShorter_92 : decode cX12_isShorter 92 = .ok (.aload_n 0, 1) := by decide +kernel
theorem dX12_isShorter_93 : decode cX12_isShorter 93 = .ok (.getfield 135, 3) := by decide +kernel
theorem dX12_isShorter_96 : decode cX12_isShorter 96 = .ok (.iload 6, 2) := by decide +kernel
theorem dX12_isShorter_98 : decode cX12_isShorter 98 = .ok (.laload, 1) := by decide +kernel
theorem dX12_isShorter_99 : decode cX12_isShorter 99 = .ok (.lcmp, 1) := by decide +kernel
theorem dX12_isShorter_100 : decode cX12_isShorter 100 = .ok (.ifCond .lt 28, 3) := by decide +kernel
theorem dX12_isShorter_103 : decode cX12_isShorter 103 = .ok (.lload 7, 2) := by decide +kernel
theorem dX12_isShorter_105 : decode cX12_isShorter 105 = .ok (.aload_n 0, 1) := by decide +kernel
theorem dX12_isShorter_106 : decode cX12_isShorter 106 = .ok (.getfield 135, 3) := by decide +kernel
theorem dX12_isShorter_109 : decode cX12_isShorter 109 = .ok (.iload 6, 2) := by decide +kernel
theorem dX12_isShorter_111 : decode cX12_isShorter 111 = .ok (.laload, 1) := by decide +kernel
theorem dX12_isShorter_112 : decode cX12_isShorter 112 = .ok (.lcmp, 1) := by decide +kernel
theorem dX12_isShorter_113 : decode cX12_isShorter 113 = .ok (.ifCond .ne 19, 3) := by decide +kernel
theorem dX12_isShorter_116 : decode cX12_isShorter 116 = .ok (.iload 9, 2) := by decide +kernel
theorem dX12_isShorter_118 : decode cX12_isShorter 118 = .ok (.aload_n 0, 1) := by decide +kernel
theorem dX12_isShorter_119 : decode cX12_isShorter 119 = .ok (.getfield 141, 3) := by decide +kernel
theorem dX12_isShorter_122 : decode cX12_isShorter 122 = .ok (.iload 6, 2) := by decide +kernel
theorem dX12_isShorter_124 : decode cX12_isShorter 124 = .ok (.iaload, 1) := by decide +kernel
theorem dX12_isShorter_125 : decode cX12_isShorter 125 = .ok (.if_icmp .ge 7, 3) := by decide +kernel
theorem dX12_isShorter_128 : decode cX12_isShorter 128 = .ok (.iconst 1, 1) := by decide +kernel
theorem dX12_isShorter_129 : decode cX12_isShorter 129 = .ok (.goto 4, 3) := by decide +kernel
theorem dX12_isShorter_132 : decode cX12_isShorter 132 = .ok (.iconst 0, 1) := by decide +kernel
theorem dX12_isShorter_133 : decode cX12_isShorter 133 = .ok (.istore 10, 2) := by decide +kernel
theorem dX12_isShorter_135 : decode cX12_isShorter 135 = .ok (.aload_n 0, 1) := by decide +kernel
theorem dX12_isShorter_136 : decode cX12_isShorter 136 = .ok (.getfield 141, 3) := by decide +kernel
theorem dX12_isShorter_139 : decode cX12_isShorter 139 = .ok (.iload 6, 2) := by decide +kernel
theorem dX12_isShorter_141 : decode cX12_isShorter 141 = .ok (.iload 10, 2) := by decide +kernel
theorem dX12_isShorter_143 : decode cX12_isShorter 143 = .ok (.ifCond .eq 8, 3) := by decide +kernel
theorem dX12_isShorter_146 : decode cX12_isShorter 146 = .ok (.iload 9, 2) := by decide +kernel
theorem dX12_isShorter_148 : decode cX12_isShorter 148 = .ok (.goto 10, 3) := by decide +kernel
theorem dX12_isShorter_151 : decode cX12_isShorter 151 = .ok (.aload_n 0, 1) := by decide +kernel
theorem dX12_isShorter_152 : decode cX12_isShorter 152 = .ok (.getfield 141, 3) := by decide +kernel
theorem dX12_isShorter_155 : decode cX12_isShorter 155 = .ok (.iload 6, 2) := by decide +kernel
theorem dX12_isShorter_157 : decode cX12_isShorter 157 = .ok (.iaload, 1) := by decide +kernel
theorem dX12_isShorter_158 : decode cX12_isShorter 158 = .ok (.iastore, 1) := by decide +kernel
theorem dX12_isShorter_159 : decode cX12_isShorter 159 = .ok (.aload_n 0, 1) := by decide +kernel
theorem dX12_isShorter_160 : decode cX12_isShorter 160 = .ok (.getfield 135, 3) := by decide +kernel
theorem dX12_isShorter_163 : decode cX12_isShorter 163 = .ok (.iload 6, 2) := by decide +kernel
theorem dX12_isShorter_165 : decode cX12_isShorter 165 = .ok (.iload 10, 2) := by decide +kernel
theorem dX12_isShorter_167 : decode cX12_isShorter 167 = .ok (.ifCond .eq 8, 3) := by decide +kernel
theorem dX12_isShorter_170 : decode cX12_isShorter 170 = .ok (.lload 7, 2) := by decide +kernel
theorem dX12_isShorter_172 : decode cX12_isShorter 172 = .ok (.goto 10, 3) := by decide +kernel
theorem dX12_isShorter_175 : decode cX12_isShorter 175 = .ok (.aload_n 0, 1) := by decide +kernel
theorem dX12_isShorter_176 : decode cX12_isShorter 176 = .ok (.getfield 135, 3) := by decide +kernel
theorem dX12_isShorter_179 : decode cX12_isShorter 179 = .ok (.iload 6, 2) := by decide +kernel
theorem dX12_isShorter_181 : decode cX12_isShorter 181 = .ok (.laload, 1) := by decide +kernel
theorem dX12_isShorter_182 : decode cX12_isShorter 182 = .ok (.lastore, 1) := by decide +kernel
theorem dX12_isShorter_183 : decode cX12_isShorter 183 = .ok (.iload 10, 2) := by decide +kernel
theorem dX12_isShorter_185 : decode cX12_isShorter 185 = .ok (.ireturn, 1) := by decide +kernel
set_option maxRecDepth 100000 in
set_option maxHeartbeats 4000000 in
theorem c_X12_isShorter {h : ai_H} {V : Md} {U : Nat → List Int} {n b : Nat} {d : Tl} (hl : lrow U) (hm : mrow V U) (hn : n ≤ 16) (hb : b < n) (hmd : md_at h V) (hg : ro_good (ro_U U) n b d) (hd0 : d b = some 0) (hcol : rcol V n b d) {a c : Nat} (ha : a < n) (hc : c < n) (f : Bool) : ai_QM MX12_isShorter [.ref 307, .int (nI a), .int (nI c), .int (nI b)] h (fun r g => r = some (.int (b32 (ro_bt (ro_by (ro_U U) d a c) (d a)))) ∧ md_ext h g ∧ ∃ W, md_at g W ∧ rg b V W ∧ rcol W n b (ro_s (ro_U U) a (d, f) c).1 ∧ W.2.2.2 57 = V.2.2.2 57 ∧ W.2.2.1 59 = V.2.2.1 59) := by
  refine qm_of (ls := [.ref 307, .int (nI a), .int (nI c), .int (nI b), .float 0, .float 0, .float 0, .float 0, .float 0, .float 0, .float 0]) (by decide) (by simp [ai_en, Value.category]) (by rfl) ?_
  refine wq (fun _ _ kk => rs_bipush (v := 16) (pc := 0) dX12_isShorter_0 rfl kk) ?_
  refine wq (fun _ _ kk => rs_iload_n (pc := 2) dX12_isShorter_2 rfl kk) ?_
  refine wq (fun _ _ kk => rs_imul (pc := 3) dX12_isShorter_3 kk) ?_
  rw [show (16 : Int32) * nI a = nI (16 * a) from pk_mul 16 a]
  refine wq (fun _ _ kk => rs_iload_n (pc := 4) dX12_isShorter_4 rfl kk) ?_
  refine wq (fun _ _ kk => rs_iadd (pc := 5) dX12_isShorter_5 kk) ?_
  rw [nI_add]
  refine wq (fun _ _ kk => wk_ist4 (pc := 6) dX12_isShorter_6 (by decide) rfl kk) ?_
  refine wq (fun _ _ kk => rs_bipush (v := 16) (pc := 8) dX12_isShorter_8 rfl kk) ?_
  refine wq (fun _ _ kk => rs_iload_n (pc := 10) dX12_isShorter_10 rfl kk) ?_
  refine wq (fun _ _ kk => rs_imul (pc := 11) dX12_isShorter_11 kk) ?_
  rw [show (16 : Int32) * nI c = nI (16 * c) from pk_mul 16 c]
  refine wq (fun _ _ kk => rs_iload_n (pc := 12) dX12_isShorter_12 rfl kk) ?_
  refine wq (fun _ _ kk => rs_iadd (pc := 13) dX12_isShorter_13 kk) ?_
  rw [nI_add]
  refine wq (fun _ _ kk => wk_ist5 (pc := 14) dX12_isShorter_14 (by decide) rfl kk) ?_
  refine wq (fun _ _ kk => rs_bipush (v := 16) (pc := 16) dX12_isShorter_16 rfl kk) ?_
  refine wq (fun _ _ kk => rs_iload_n (pc := 18) dX12_isShorter_18 rfl kk) ?_
  refine wq (fun _ _ kk => rs_imul (pc := 19) dX12_isShorter_19 kk) ?_
  rw [show (16 : Int32) * nI a = nI (16 * a) from pk_mul 16 a]
  refine wq (fun _ _ kk => rs_iload_n (pc := 20) dX12_isShorter_20 rfl kk) ?_
  refine wq (fun _ _ kk => rs_iadd (pc := 21) dX12_isShorter_21 kk) ?_
  rw [nI_add]
  refine wq (fun _ _ kk => wk_ist6 (pc := 22) dX12_isShorter_22 (by decide) rfl kk) ?_
  refine wq (fun _ _ kk => rs_iload_n (pc := 24) dX12_isShorter_24 rfl kk) ?_
  refine wq (fun _ _ kk => rs_iload_n (pc := 25) dX12_isShorter_25 rfl kk) ?_
  refine wq_br (fun _ _ kt kf => rs_icmp_eq (tgt := 50) (pc := 26) dX12_isShorter_26 rfl kt kf) (fun c_26 => ?_) (fun c_26 => ?_)
  · have hab : a = b := nI_inj (by omega) (by omega) c_26
    subst hab
    refine wq (fun _ _ kk => rs_iconst (v := 0) (pc := 50) dX12_isShorter_50 rfl kk) ?_
    refine wq_ret ?_ (rs_zret (pc := 51) dX12_isShorter_51 rfl (Or.inl rfl))
    first
    | exact ⟨by rw [sh_goal hd0]; rfl, md_ext.rf, V, hmd, rg.rf, by rw [ro_s_no (sh_goal hd0)]; exact hcol, rfl, rfl⟩
    | exact ⟨by rw [sh_met ⟨by omega, by omega⟩ hl hm c_36]; rfl, md_ext.rf, V, hmd, rg.rf, by rw [ro_s_no (sh_met ⟨by omega, by omega⟩ hl hm c_36)]; exact hcol, rfl, rfl⟩
    | (have e := sh_rest (c := c) hc hcol c_47
       have e2 : ro_bt (ro_by (ro_U U) d a c) (d a) = false := by
         unfold ro_by
         rw [e]
         cases ro_U U a c <;> rfl
       exact ⟨by rw [e2]; rfl, md_ext.rf, V, hmd, rg.rf, by rw [ro_s_no e2]; exact hcol, rfl, rfl⟩)
  · refine wq (fun _ _ kk => rs_aload_n (pc := 29) dX12_isShorter_29 rfl kk) ?_
    refine wq (fun _ _ kk => rs_getf (pc := 30) dX12_isShorter_30 fX12_117 (md_lt hmd (by decide)) hmd.2.1 rfl kk) ?_
    refine wq (fun _ _ kk => rs_iload (pc := 33) dX12_isShorter_33 rfl kk) ?_
    refine wq (fun _ _ kk => rs_iald (pc := 35) dX12_isShorter_35 (md_lt hmd (by decide)) (md_geti (d := 35) (k := 50) (kd := 0) (n := 256) rfl (by decide) hmd) (vp_in_nI (n := 16 * a + c) (N := 256) (by omega) (by decide)) kk) ?_
    rw [nI_clamp (show 16 * a + c < 2 ^ 31 by omega)]
    refine wq_br (fun _ _ kt kf => rs_if_eq (tgt := 50) (pc := 36) dX12_isShorter_36 rfl kt kf) (fun c_36 => ?_) (fun c_36 => ?_)
    · refine wq (fun _ _ kk => rs_iconst (v := 0) (pc := 50) dX12_isShorter_50 rfl kk) ?_
      refine wq_ret ?_ (rs_zret (pc := 51) dX12_isShorter_51 rfl (Or.inl rfl))
      first
      | exact ⟨by rw [sh_goal hd0]; rfl, md_ext.rf, V, hmd, rg.rf, by rw [ro_s_no (sh_goal hd0)]; exact hcol, rfl, rfl⟩
      | exact ⟨by rw [sh_met ⟨by omega, by omega⟩ hl hm c_36]; rfl, md_ext.rf, V, hmd, rg.rf, by rw [ro_s_no (sh_met ⟨by omega, by omega⟩ hl hm c_36)]; exact hcol, rfl, rfl⟩
      | (have e := sh_rest (c := c) hc hcol c_47
         have e2 : ro_bt (ro_by (ro_U U) d a c) (d a) = false := by
           unfold ro_by
           rw [e]
           cases ro_U U a c <;> rfl
         exact ⟨by rw [e2]; rfl, md_ext.rf, V, hmd, rg.rf, by rw [ro_s_no e2]; exact hcol, rfl, rfl⟩)
    · refine wq (fun _ _ kk => rs_aload_n (pc := 39) dX12_isShorter_39 rfl kk) ?_
      refine wq (fun _ _ kk => rs_getf (pc := 40) dX12_isShorter_40 fX12_141 (md_lt hmd (by decide)) hmd.2.1 rfl kk) ?_
      refine wq (fun _ _ kk => rs_iload (pc := 43) dX12_isShorter_43 rfl kk) ?_
      refine wq (fun _ _ kk => rs_iald (pc := 45) dX12_isShorter_45 (md_lt hmd (by decide)) (md_geti (d := 43) (k := 58) (kd := 0) (n := 256) rfl (by decide) hmd) (vp_in_nI (n := 16 * c + b) (N := 256) (by omega) (by decide)) kk) ?_
      rw [nI_clamp (show 16 * c + b < 2 ^ 31 by omega)]
      refine wq (fun _ _ kk => rs_iconst (v := -1) (pc := 46) dX12_isShorter_46 rfl kk) ?_
      refine wq_bn (fun _ _ kt kf => rs_icmp_ne (tgt := 52) (pc := 47) dX12_isShorter_47 rfl kt kf) (fun c_47 => ?_) (fun c_47 => ?_)
      · obtain ⟨v, X, ev, eby, hne, ez, hX, hv, hv16⟩ := sh_by (a := a) (c := c) hn hl hm hg ha hc c_36 c_47 hcol
        refine wq (fun _ _ kk => rs_aload_n (pc := 52) dX12_isShorter_52 rfl kk) ?_
        refine wq (fun _ _ kk => rs_iload (pc := 53) dX12_isShorter_53 rfl kk) ?_
        refine wq (fun _ _ kk => rs_callV (as := [_]) (pc := 55) dX12_isShorter_55 mk_X12_width mlX12_432 in_X12_width se_X12_width rfl (md_lt hmd (by decide)) hmd.2.1 rfl rfl (Nat.le_of_ble_eq_true rfl) (c_X12_width hmd hl hm (show 16 * a + c < 256 by omega) hne) kk) ?_
        refine wq (fun _ _ kk => rs_aload_n (pc := 58) dX12_isShorter_58 rfl kk) ?_
        refine wq (fun _ _ kk => rs_getf (pc := 59) dX12_isShorter_59 fX12_135 (md_lt hmd (by decide)) hmd.2.1 rfl kk) ?_
        refine wq (fun _ _ kk => rs_iload (pc := 62) dX12_isShorter_62 rfl kk) ?_
        refine wq (fun _ _ kk => rs_lald (pc := 64) dX12_isShorter_64 (md_lt hmd (by decide)) (md_getl (d := 41) (k := 56) (kd := 1) (n := 256) rfl (by decide) hmd) (vp_in_nI (n := 16 * c + b) (N := 256) (by omega) (by decide)) kk) ?_
        rw [nI_clamp (show 16 * c + b < 2 ^ 31 by omega), ((hcol c hc).2 v ev).2]
        refine wq (fun _ _ kk => rs_ladd (pc := 65) dX12_isShorter_65 kk) ?_
        rw [aL_add, ez]
        refine wq (fun _ _ kk => wk_lst7 (pc := 66) dX12_isShorter_66 (by decide) rfl kk) ?_
        refine wq (fun _ _ kk => rs_aload_n (pc := 68) dX12_isShorter_68 rfl kk) ?_
        refine wq (fun _ _ kk => rs_getf (pc := 69) dX12_isShorter_69 fX12_141 (md_lt hmd (by decide)) hmd.2.1 rfl kk) ?_
        refine wq (fun _ _ kk => rs_iload (pc := 72) dX12_isShorter_72 rfl kk) ?_
        refine wq (fun _ _ kk => rs_iald (pc := 74) dX12_isShorter_74 (md_lt hmd (by decide)) (md_geti (d := 43) (k := 58) (kd := 0) (n := 256) rfl (by decide) hmd) (vp_in_nI (n := 16 * c + b) (N := 256) (by omega) (by decide)) kk) ?_
        rw [nI_clamp (show 16 * c + b < 2 ^ 31 by omega), ((hcol c hc).2 v ev).1]
        refine wq (fun _ _ kk => rs_iconst (v := 1) (pc := 75) dX12_isShorter_75 rfl kk) ?_
        refine wq (fun _ _ kk => rs_iadd (pc := 76) dX12_isShorter_76 kk) ?_
        rw [nI_1]
        refine wq (fun _ _ kk => wk_ist9 (pc := 77) dX12_isShorter_77 (by decide) rfl kk) ?_
        refine wq (fun _ _ kk => rs_aload_n (pc := 79) dX12_isShorter_79 rfl kk) ?_
        refine wq (fun _ _ kk => rs_getf (pc := 80) dX12_isShorter_80 fX12_141 (md_lt hmd (by decide)) hmd.2.1 rfl kk) ?_
        refine wq (fun _ _ kk => rs_iload (pc := 83) dX12_isShorter_83 rfl kk) ?_
        refine wq (fun _ _ kk => rs_iald (pc := 85) dX12_isShorter_85 (md_lt hmd (by decide)) (md_geti (d := 43) (k := 58) (kd := 0) (n := 256) rfl (by decide) hmd) (vp_in_nI (n := 16 * a + b) (N := 256) (by omega) (by decide)) kk) ?_
        rw [nI_clamp (show 16 * a + b < 2 ^ 31 by omega)]
        refine wq (fun _ _ kk => rs_iconst (v := -1) (pc := 86) dX12_isShorter_86 rfl kk) ?_
        refine wq_br (fun _ _ kt kf => rs_icmp_eq (tgt := 128) (pc := 87) dX12_isShorter_87 rfl kt kf) (fun c_87 => ?_) (fun c_87 => ?_)
        · have eda : d a = none := sh_rest (c := a) ha hcol c_87
          refine wq (fun _ _ kk => rs_iconst (v := 1) (pc := 128) dX12_isShorter_128 rfl kk) ?_
          refine wq (fun _ _ kk => rs_goto (tgt := 133) (pc := 129) dX12_isShorter_129 rfl kk) ?_
          refine wq (fun _ _ kk => wk_ist10 (pc := 133) dX12_isShorter_133 (by decide) rfl kk) ?_
          refine wq (fun _ _ kk => rs_aload_n (pc := 135) dX12_isShorter_135 rfl kk) ?_
          refine wq (fun _ _ kk => rs_getf (pc := 136) dX12_isShorter_136 fX12_141 (md_lt hmd (by decide)) hmd.2.1 rfl kk) ?_
          refine wq (fun _ _ kk => rs_iload (pc := 139) dX12_isShorter_139 rfl kk) ?_
          refine wq (fun _ _ kk => rs_iload (pc := 141) dX12_isShorter_141 rfl kk) ?_
          refine wq_br (fun _ _ kt kf => rs_if_eq (tgt := 151) (pc := 143) dX12_isShorter_143 rfl kt kf) (fun c_143 => absurd c_143 (by decide)) (fun c_143 => ?_)
          refine wq (fun _ _ kk => rs_iload (pc := 146) dX12_isShorter_146 rfl kk) ?_
          refine wq (fun _ _ kk => rs_goto (tgt := 158) (pc := 148) dX12_isShorter_148 rfl kk) ?_
          refine wq (fun _ _ kk => rs_iast (pc := 158) dX12_isShorter_158 (md_lt hmd (by decide)) (md_geti (d := 43) (k := 58) (kd := 0) (n := 256) rfl (by decide) hmd) (vp_in_nI (n := 16 * a + b) (N := 256) (by omega) (by decide)) kk) ?_
          refine wq_gen (fun h_1 e_1 => ?_)
          obtain ⟨m_1, s_1, g_1, o_1⟩ := ai_e1 e_1
          replace hmd := md_at_ai (d := 43) rfl (by decide) hmd m_1 g_1 o_1
          have E_1 := (md_ext.rf).trans (md_ext_of m_1 s_1 o_1 (by decide))
          refine wq (fun _ _ kk => rs_aload_n (pc := 159) dX12_isShorter_159 rfl kk) ?_
          refine wq (fun _ _ kk => rs_getf (pc := 160) dX12_isShorter_160 fX12_135 (md_lt hmd (by decide)) hmd.2.1 rfl kk) ?_
          refine wq (fun _ _ kk => rs_iload (pc := 163) dX12_isShorter_163 rfl kk) ?_
          refine wq (fun _ _ kk => rs_iload (pc := 165) dX12_isShorter_165 rfl kk) ?_
          refine wq_br (fun _ _ kt kf => rs_if_eq (tgt := 175) (pc := 167) dX12_isShorter_167 rfl kt kf) (fun c_167 => absurd c_167 (by decide)) (fun c_167 => ?_)
          refine wq (fun _ _ kk => rs_lload (pc := 170) dX12_isShorter_170 rfl kk) ?_
          refine wq (fun _ _ kk => rs_goto (tgt := 182) (pc := 172) dX12_isShorter_172 rfl kk) ?_
          refine wq (fun _ _ kk => rs_last (pc := 182) dX12_isShorter_182 (md_lt hmd (by decide)) (md_getl (d := 41) (k := 56) (kd := 1) (n := 256) rfl (by decide) hmd) (vp_in_nI (n := 16 * a + b) (N := 256) (by omega) (by decide)) kk) ?_
          refine wq_gen (fun h_2 e_2 => ?_)
          obtain ⟨m_2, s_2, g_2, o_2⟩ := ai_e1 e_2
          replace hmd := md_at_al (d := 41) rfl (by decide) hmd m_2 g_2 o_2
          have E_2 := (E_1).trans (md_ext_of m_2 s_2 o_2 (by decide))
          refine wq (fun _ _ kk => rs_iload (pc := 183) dX12_isShorter_183 rfl kk) ?_
          refine wq_ret ?_ (rs_zret (pc := 185) dX12_isShorter_185 rfl (Or.inr rfl))
          first
          | (have e2 : ro_bt (ro_by (ro_U U) d a c) (d a) = true := by
               refine ro_bt_yes.2 ⟨_, eby, fun y hy => ?_⟩
               first
               | (rw [eda] at hy; cases hy; done)
               | (rw [eu] at hy; cases hy; omega)
             refine ⟨by rw [e2]; rfl, E_2, _, hmd, ?_, ?_, rfl, rfl⟩
             · rw [nI_clamp (show 16 * a + b < 2 ^ 31 by omega)]
               exact (rg.i58 (by omega)).trans (rg.l56 (by omega))
             · rw [nI_clamp (show 16 * a + b < 2 ^ 31 by omega)]
               unfold ro_s
               rw [if_pos e2, eby]
               exact rcol_up hn hb ha hcol (by congr 1; omega) (by congr 1; omega))
          | (have e2 : ro_bt (ro_by (ro_U U) d a c) (d a) = false := by
               cases hq : ro_bt (ro_by (ro_U U) d a c) (d a) with
               | false => rfl
               | true =>
                 obtain ⟨y, ey, hy⟩ := ro_bt_yes.1 hq
                 have := hy u eu
                 rw [eby] at ey
                 cases ey
                 omega
             refine ⟨by rw [e2]; rfl, E_2, V, ?_, rg.rf, by rw [ro_s_no e2]; exact hcol, rfl, rfl⟩
             rw [nI_clamp (show 16 * a + b < 2 ^ 31 by omega)] at hmd
             have e3 := rg_nop (b := b) (k := 16 * a + b) (V := V)
             rw [← e3]
             exact hmd)
        · obtain ⟨u, eu⟩ : ∃ u, d a = some u := by
            cases hd : d a with
            | none => exact absurd ((hcol a ha).1 hd) c_87
            | some u => exact ⟨u, rfl⟩
          obtain ⟨e58, e56⟩ := (hcol a ha).2 u eu
          have hu := (ro_U_b hl hn hg eu).1
          have hu16 := (ro_good_li (ro_U_32 U) hn hg eu).1
          refine wq (fun _ _ kk => rs_lload (pc := 90) dX12_isShorter_90 rfl kk) ?_
          refine wq (fun _ _ kk => rs_aload_n (pc := 92) dX12_isShorter_92 rfl kk) ?_
          refine wq (fun _ _ kk => rs_getf (pc := 93) dX12_isShorter_93 fX12_135 (md_lt hmd (by decide)) hmd.2.1 rfl kk) ?_
          refine wq (fun _ _ kk => rs_iload (pc := 96) dX12_isShorter_96 rfl kk) ?_
          refine wq (fun _ _ kk => rs_lald (pc := 98) dX12_isShorter_98 (md_lt hmd (by decide)) (md_getl (d := 41) (k := 56) (kd := 1) (n := 256) rfl (by decide) hmd) (vp_in_nI (n := 16 * a + b) (N := 256) (by omega) (by decide)) kk) ?_
          rw [nI_clamp (show 16 * a + b < 2 ^ 31 by omega), e56]
          refine wq_br (fun _ _ kt kf => wk_lcmp_lt (tgt := 128) (pc := 99) dX12_isShorter_99 dX12_isShorter_100 rfl kt kf) (fun c_99 => ?_) (fun c_99 => ?_)
          · rw [aL_lt (by omega) (by omega) (by omega) (by omega)] at c_99
            refine wq (fun _ _ kk => rs_iconst (v := 1) (pc := 128) dX12_isShorter_128 rfl kk) ?_
            refine wq (fun _ _ kk => rs_goto (tgt := 133) (pc := 129) dX12_isShorter_129 rfl kk) ?_
            refine wq (fun _ _ kk => wk_ist10 (pc := 133) dX12_isShorter_133 (by decide) rfl kk) ?_
            refine wq (fun _ _ kk => rs_aload_n (pc := 135) dX12_isShorter_135 rfl kk) ?_
            refine wq (fun _ _ kk => rs_getf (pc := 136) dX12_isShorter_136 fX12_141 (md_lt hmd (by decide)) hmd.2.1 rfl kk) ?_
            refine wq (fun _ _ kk => rs_iload (pc := 139) dX12_isShorter_139 rfl kk) ?_
            refine wq (fun _ _ kk => rs_iload (pc := 141) dX12_isShorter_141 rfl kk) ?_
            refine wq_br (fun _ _ kt kf => rs_if_eq (tgt := 151) (pc := 143) dX12_isShorter_143 rfl kt kf) (fun c_143 => absurd c_143 (by decide)) (fun c_143 => ?_)
            refine wq (fun _ _ kk => rs_iload (pc := 146) dX12_isShorter_146 rfl kk) ?_
            refine wq (fun _ _ kk => rs_goto (tgt := 158) (pc := 148) dX12_isShorter_148 rfl kk) ?_
            refine wq (fun _ _ kk => rs_iast (pc := 158) dX12_isShorter_158 (md_lt hmd (by decide)) (md_geti (d := 43) (k := 58) (kd := 0) (n := 256) rfl (by decide) hmd) (vp_in_nI (n := 16 * a + b) (N := 256) (by omega) (by decide)) kk) ?_
            refine wq_gen (fun h_3 e_3 => ?_)
            obtain ⟨m_3, s_3, g_3, o_3⟩ := ai_e1 e_3
            replace hmd := md_at_ai (d := 43) rfl (by decide) hmd m_3 g_3 o_3
            have E_3 := (md_ext.rf).trans (md_ext_of m_3 s_3 o_3 (by decide))
            refine wq (fun _ _ kk => rs_aload_n (pc := 159) dX12_isShorter_159 rfl kk) ?_
            refine wq (fun _ _ kk => rs_getf (pc := 160) dX12_isShorter_160 fX12_135 (md_lt hmd (by decide)) hmd.2.1 rfl kk) ?_
            refine wq (fun _ _ kk => rs_iload (pc := 163) dX12_isShorter_163 rfl kk) ?_
            refine wq (fun _ _ kk => rs_iload (pc := 165) dX12_isShorter_165 rfl kk) ?_
            refine wq_br (fun _ _ kt kf => rs_if_eq (tgt := 175) (pc := 167) dX12_isShorter_167 rfl kt kf) (fun c_167 => absurd c_167 (by decide)) (fun c_167 => ?_)
            refine wq (fun _ _ kk => rs_lload (pc := 170) dX12_isShorter_170 rfl kk) ?_
            refine wq (fun _ _ kk => rs_goto (tgt := 182) (pc := 172) dX12_isShorter_172 rfl kk) ?_
            refine wq (fun _ _ kk => rs_last (pc := 182) dX12_isShorter_182 (md_lt hmd (by decide)) (md_getl (d := 41) (k := 56) (kd := 1) (n := 256) rfl (by decide) hmd) (vp_in_nI (n := 16 * a + b) (N := 256) (by omega) (by decide)) kk) ?_
            refine wq_gen (fun h_4 e_4 => ?_)
            obtain ⟨m_4, s_4, g_4, o_4⟩ := ai_e1 e_4
            replace hmd := md_at_al (d := 41) rfl (by decide) hmd m_4 g_4 o_4
            have E_4 := (E_3).trans (md_ext_of m_4 s_4 o_4 (by decide))
            refine wq (fun _ _ kk => rs_iload (pc := 183) dX12_isShorter_183 rfl kk) ?_
            refine wq_ret ?_ (rs_zret (pc := 185) dX12_isShorter_185 rfl (Or.inr rfl))
            first
            | (have e2 : ro_bt (ro_by (ro_U U) d a c) (d a) = true := by
                 refine ro_bt_yes.2 ⟨_, eby, fun y hy => ?_⟩
                 first
                 | (rw [eda] at hy; cases hy; done)
                 | (rw [eu] at hy; cases hy; omega)
               refine ⟨by rw [e2]; rfl, E_4, _, hmd, ?_, ?_, rfl, rfl⟩
               · rw [nI_clamp (show 16 * a + b < 2 ^ 31 by omega)]
                 exact (rg.i58 (by omega)).trans (rg.l56 (by omega))
               · rw [nI_clamp (show 16 * a + b < 2 ^ 31 by omega)]
                 unfold ro_s
                 rw [if_pos e2, eby]
                 exact rcol_up hn hb ha hcol (by congr 1; omega) (by congr 1; omega))
            | (have e2 : ro_bt (ro_by (ro_U U) d a c) (d a) = false := by
                 cases hq : ro_bt (ro_by (ro_U U) d a c) (d a) with
                 | false => rfl
                 | true =>
                   obtain ⟨y, ey, hy⟩ := ro_bt_yes.1 hq
                   have := hy u eu
                   rw [eby] at ey
                   cases ey
                   omega
               refine ⟨by rw [e2]; rfl, E_4, V, ?_, rg.rf, by rw [ro_s_no e2]; exact hcol, rfl, rfl⟩
               rw [nI_clamp (show 16 * a + b < 2 ^ 31 by omega)] at hmd
               have e3 := rg_nop (b := b) (k := 16 * a + b) (V := V)
               rw [← e3]
               exact hmd)
          · rw [aL_lt (by omega) (by omega) (by omega) (by omega)] at c_99
            refine wq (fun _ _ kk => rs_lload (pc := 103) dX12_isShorter_103 rfl kk) ?_
            refine wq (fun _ _ kk => rs_aload_n (pc := 105) dX12_isShorter_105 rfl kk) ?_
            refine wq (fun _ _ kk => rs_getf (pc := 106) dX12_isShorter_106 fX12_135 (md_lt hmd (by decide)) hmd.2.1 rfl kk) ?_
            refine wq (fun _ _ kk => rs_iload (pc := 109) dX12_isShorter_109 rfl kk) ?_
            refine wq (fun _ _ kk => rs_lald (pc := 111) dX12_isShorter_111 (md_lt hmd (by decide)) (md_getl (d := 41) (k := 56) (kd := 1) (n := 256) rfl (by decide) hmd) (vp_in_nI (n := 16 * a + b) (N := 256) (by omega) (by decide)) kk) ?_
            rw [nI_clamp (show 16 * a + b < 2 ^ 31 by omega), e56]
            refine wq_bn (fun _ _ kt kf => wk_lcmp_ne (tgt := 132) (pc := 112) dX12_isShorter_112 dX12_isShorter_113 rfl kt kf) (fun c_112 => ?_) (fun c_112 => ?_)
            · rw [aL_eq (by omega) (by omega) (by omega) (by omega)] at c_112
              refine wq (fun _ _ kk => rs_iconst (v := 0) (pc := 132) dX12_isShorter_132 rfl kk) ?_
              refine wq (fun _ _ kk => wk_ist10 (pc := 133) dX12_isShorter_133 (by decide) rfl kk) ?_
              refine wq (fun _ _ kk => rs_aload_n (pc := 135) dX12_isShorter_135 rfl kk) ?_
              refine wq (fun _ _ kk => rs_getf (pc := 136) dX12_isShorter_136 fX12_141 (md_lt hmd (by decide)) hmd.2.1 rfl kk) ?_
              refine wq (fun _ _ kk => rs_iload (pc := 139) dX12_isShorter_139 rfl kk) ?_
              refine wq (fun _ _ kk => rs_iload (pc := 141) dX12_isShorter_141 rfl kk) ?_
              refine wq_br (fun _ _ kt kf => rs_if_eq (tgt := 151) (pc := 143) dX12_isShorter_143 rfl kt kf) (fun c_143 => ?_) (fun c_143 => absurd c_143 (by decide))
              refine wq (fun _ _ kk => rs_aload_n (pc := 151) dX12_isShorter_151 rfl kk) ?_
              refine wq (fun _ _ kk => rs_getf (pc := 152) dX12_isShorter_152 fX12_141 (md_lt hmd (by decide)) hmd.2.1 rfl kk) ?_
              refine wq (fun _ _ kk => rs_iload (pc := 155) dX12_isShorter_155 rfl kk) ?_
              refine wq (fun _ _ kk => rs_iald (pc := 157) dX12_isShorter_157 (md_lt hmd (by decide)) (md_geti (d := 43) (k := 58) (kd := 0) (n := 256) rfl (by decide) hmd) (vp_in_nI (n := 16 * a + b) (N := 256) (by omega) (by decide)) kk) ?_
              rw [nI_clamp (show 16 * a + b < 2 ^ 31 by omega)]
              refine wq (fun _ _ kk => rs_iast (pc := 158) dX12_isShorter_158 (md_lt hmd (by decide)) (md_geti (d := 43) (k := 58) (kd := 0) (n := 256) rfl (by decide) hmd) (vp_in_nI (n := 16 * a + b) (N := 256) (by omega) (by decide)) kk) ?_
              refine wq_gen (fun h_5 e_5 => ?_)
              obtain ⟨m_5, s_5, g_5, o_5⟩ := ai_e1 e_5
              replace hmd := md_at_ai (d := 43) rfl (by decide) hmd m_5 g_5 o_5
              have E_5 := (md_ext.rf).trans (md_ext_of m_5 s_5 o_5 (by decide))
              refine wq (fun _ _ kk => rs_aload_n (pc := 159) dX12_isShorter_159 rfl kk) ?_
              refine wq (fun _ _ kk => rs_getf (pc := 160) dX12_isShorter_160 fX12_135 (md_lt hmd (by decide)) hmd.2.1 rfl kk) ?_
              refine wq (fun _ _ kk => rs_iload (pc := 163) dX12_isShorter_163 rfl kk) ?_
              refine wq (fun _ _ kk => rs_iload (pc := 165) dX12_isShorter_165 rfl kk) ?_
              refine wq_br (fun _ _ kt kf => rs_if_eq (tgt := 175) (pc := 167) dX12_isShorter_167 rfl kt kf) (fun c_167 => ?_) (fun c_167 => absurd c_167 (by decide))
              refine wq (fun _ _ kk => rs_aload_n (pc := 175) dX12_isShorter_175 rfl kk) ?_
              refine wq (fun _ _ kk => rs_getf (pc := 176) dX12_isShorter_176 fX12_135 (md_lt hmd (by decide)) hmd.2.1 rfl kk) ?_
              refine wq (fun _ _ kk => rs_iload (pc := 179) dX12_isShorter_179 rfl kk) ?_
              refine wq (fun _ _ kk => rs_lald (pc := 181) dX12_isShorter_181 (md_lt hmd (by decide)) (md_getl (d := 41) (k := 56) (kd := 1) (n := 256) rfl (by decide) hmd) (vp_in_nI (n := 16 * a + b) (N := 256) (by omega) (by decide)) kk) ?_
              refine wq (fun _ _ kk => rs_last (pc := 182) dX12_isShorter_182 (md_lt hmd (by decide)) (md_getl (d := 41) (k := 56) (kd := 1) (n := 256) rfl (by decide) hmd) (vp_in_nI (n := 16 * a + b) (N := 256) (by omega) (by decide)) kk) ?_
              refine wq_gen (fun h_6 e_6 => ?_)
              obtain ⟨m_6, s_6, g_6, o_6⟩ := ai_e1 e_6
              replace hmd := md_at_al (d := 41) rfl (by decide) hmd m_6 g_6 o_6
              have E_6 := (E_5).trans (md_ext_of m_6 s_6 o_6 (by decide))
              refine wq (fun _ _ kk => rs_iload (pc := 183) dX12_isShorter_183 rfl kk) ?_
              refine wq_ret ?_ (rs_zret (pc := 185) dX12_isShorter_185 rfl (Or.inl rfl))
              first
              | (have e2 : ro_bt (ro_by (ro_U U) d a c) (d a) = true := by
                   refine ro_bt_yes.2 ⟨_, eby, fun y hy => ?_⟩
                   first
                   | (rw [eda] at hy; cases hy; done)
                   | (rw [eu] at hy; cases hy; omega)
                 refine ⟨by rw [e2]; rfl, E_6, _, hmd, ?_, ?_, rfl, rfl⟩
                 · rw [nI_clamp (show 16 * a + b < 2 ^ 31 by omega)]
                   exact (rg.i58 (by omega)).trans (rg.l56 (by omega))
                 · rw [nI_clamp (show 16 * a + b < 2 ^ 31 by omega)]
                   unfold ro_s
                   rw [if_pos e2, eby]
                   exact rcol_up hn hb ha hcol (by congr 1; omega) (by congr 1; omega))
              | (have e2 : ro_bt (ro_by (ro_U U) d a c) (d a) = false := by
                   cases hq : ro_bt (ro_by (ro_U U) d a c) (d a) with
                   | false => rfl
                   | true =>
                     obtain ⟨y, ey, hy⟩ := ro_bt_yes.1 hq
                     have := hy u eu
                     rw [eby] at ey
                     cases ey
                     omega
                 refine ⟨by rw [e2]; rfl, E_6, V, ?_, rg.rf, by rw [ro_s_no e2]; exact hcol, rfl, rfl⟩
                 rw [nI_clamp (show 16 * a + b < 2 ^ 31 by omega)] at hmd
                 have e3 := rg_nop (b := b) (k := 16 * a + b) (V := V)
                 rw [← e3]
                 exact hmd)
            · rw [aL_eq (by omega) (by omega) (by omega) (by omega)] at c_112
              refine wq (fun _ _ kk => rs_iload (pc := 116) dX12_isShorter_116 rfl kk) ?_
              refine wq (fun _ _ kk => rs_aload_n (pc := 118) dX12_isShorter_118 rfl kk) ?_
              refine wq (fun _ _ kk => rs_getf (pc := 119) dX12_isShorter_119 fX12_141 (md_lt hmd (by decide)) hmd.2.1 rfl kk) ?_
              refine wq (fun _ _ kk => rs_iload (pc := 122) dX12_isShorter_122 rfl kk) ?_
              refine wq (fun _ _ kk => rs_iald (pc := 124) dX12_isShorter_124 (md_lt hmd (by decide)) (md_geti (d := 43) (k := 58) (kd := 0) (n := 256) rfl (by decide) hmd) (vp_in_nI (n := 16 * a + b) (N := 256) (by omega) (by decide)) kk) ?_
              rw [nI_clamp (show 16 * a + b < 2 ^ 31 by omega), e58]
              refine wq_br (fun _ _ kt kf => rs_icmp_ge (tgt := 132) (pc := 125) dX12_isShorter_125 rfl kt kf) (fun c_125 => ?_) (fun c_125 => ?_)
              · rw [nI_leI (by omega) (by omega)] at c_125
                refine wq (fun _ _ kk => rs_iconst (v := 0) (pc := 132) dX12_isShorter_132 rfl kk) ?_
                refine wq (fun _ _ kk => wk_ist10 (pc := 133) dX12_isShorter_133 (by decide) rfl kk) ?_
                refine wq (fun _ _ kk => rs_aload_n (pc := 135) dX12_isShorter_135 rfl kk) ?_
                refine wq (fun _ _ kk => rs_getf (pc := 136) dX12_isShorter_136 fX12_141 (md_lt hmd (by decide)) hmd.2.1 rfl kk) ?_
                refine wq (fun _ _ kk => rs_iload (pc := 139) dX12_isShorter_139 rfl kk) ?_
                refine wq (fun _ _ kk => rs_iload (pc := 141) dX12_isShorter_141 rfl kk) ?_
                refine wq_br (fun _ _ kt kf => rs_if_eq (tgt := 151) (pc := 143) dX12_isShorter_143 rfl kt kf) (fun c_143 => ?_) (fun c_143 => absurd c_143 (by decide))
                refine wq (fun _ _ kk => rs_aload_n (pc := 151) dX12_isShorter_151 rfl kk) ?_
                refine wq (fun _ _ kk => rs_getf (pc := 152) dX12_isShorter_152 fX12_141 (md_lt hmd (by decide)) hmd.2.1 rfl kk) ?_
                refine wq (fun _ _ kk => rs_iload (pc := 155) dX12_isShorter_155 rfl kk) ?_
                refine wq (fun _ _ kk => rs_iald (pc := 157) dX12_isShorter_157 (md_lt hmd (by decide)) (md_geti (d := 43) (k := 58) (kd := 0) (n := 256) rfl (by decide) hmd) (vp_in_nI (n := 16 * a + b) (N := 256) (by omega) (by decide)) kk) ?_
                rw [nI_clamp (show 16 * a + b < 2 ^ 31 by omega)]
                refine wq (fun _ _ kk => rs_iast (pc := 158) dX12_isShorter_158 (md_lt hmd (by decide)) (md_geti (d := 43) (k := 58) (kd := 0) (n := 256) rfl (by decide) hmd) (vp_in_nI (n := 16 * a + b) (N := 256) (by omega) (by decide)) kk) ?_
                refine wq_gen (fun h_7 e_7 => ?_)
                obtain ⟨m_7, s_7, g_7, o_7⟩ := ai_e1 e_7
                replace hmd := md_at_ai (d := 43) rfl (by decide) hmd m_7 g_7 o_7
                have E_7 := (md_ext.rf).trans (md_ext_of m_7 s_7 o_7 (by decide))
                refine wq (fun _ _ kk => rs_aload_n (pc := 159) dX12_isShorter_159 rfl kk) ?_
                refine wq (fun _ _ kk => rs_getf (pc := 160) dX12_isShorter_160 fX12_135 (md_lt hmd (by decide)) hmd.2.1 rfl kk) ?_
                refine wq (fun _ _ kk => rs_iload (pc := 163) dX12_isShorter_163 rfl kk) ?_
                refine wq (fun _ _ kk => rs_iload (pc := 165) dX12_isShorter_165 rfl kk) ?_
                refine wq_br (fun _ _ kt kf => rs_if_eq (tgt := 175) (pc := 167) dX12_isShorter_167 rfl kt kf) (fun c_167 => ?_) (fun c_167 => absurd c_167 (by decide))
                refine wq (fun _ _ kk => rs_aload_n (pc := 175) dX12_isShorter_175 rfl kk) ?_
                refine wq (fun _ _ kk => rs_getf (pc := 176) dX12_isShorter_176 fX12_135 (md_lt hmd (by decide)) hmd.2.1 rfl kk) ?_
                refine wq (fun _ _ kk => rs_iload (pc := 179) dX12_isShorter_179 rfl kk) ?_
                refine wq (fun _ _ kk => rs_lald (pc := 181) dX12_isShorter_181 (md_lt hmd (by decide)) (md_getl (d := 41) (k := 56) (kd := 1) (n := 256) rfl (by decide) hmd) (vp_in_nI (n := 16 * a + b) (N := 256) (by omega) (by decide)) kk) ?_
                refine wq (fun _ _ kk => rs_last (pc := 182) dX12_isShorter_182 (md_lt hmd (by decide)) (md_getl (d := 41) (k := 56) (kd := 1) (n := 256) rfl (by decide) hmd) (vp_in_nI (n := 16 * a + b) (N := 256) (by omega) (by decide)) kk) ?_
                refine wq_gen (fun h_8 e_8 => ?_)
                obtain ⟨m_8, s_8, g_8, o_8⟩ := ai_e1 e_8
                replace hmd := md_at_al (d := 41) rfl (by decide) hmd m_8 g_8 o_8
                have E_8 := (E_7).trans (md_ext_of m_8 s_8 o_8 (by decide))
                refine wq (fun _ _ kk => rs_iload (pc := 183) dX12_isShorter_183 rfl kk) ?_
                refine wq_ret ?_ (rs_zret (pc := 185) dX12_isShorter_185 rfl (Or.inl rfl))
                first
                | (have e2 : ro_bt (ro_by (ro_U U) d a c) (d a) = true := by
                     refine ro_bt_yes.2 ⟨_, eby, fun y hy => ?_⟩
                     first
                     | (rw [eda] at hy; cases hy; done)
                     | (rw [eu] at hy; cases hy; omega)
                   refine ⟨by rw [e2]; rfl, E_8, _, hmd, ?_, ?_, rfl, rfl⟩
                   · rw [nI_clamp (show 16 * a + b < 2 ^ 31 by omega)]
                     exact (rg.i58 (by omega)).trans (rg.l56 (by omega))
                   · rw [nI_clamp (show 16 * a + b < 2 ^ 31 by omega)]
                     unfold ro_s
                     rw [if_pos e2, eby]
                     exact rcol_up hn hb ha hcol (by congr 1; omega) (by congr 1; omega))
                | (have e2 : ro_bt (ro_by (ro_U U) d a c) (d a) = false := by
                     cases hq : ro_bt (ro_by (ro_U U) d a c) (d a) with
                     | false => rfl
                     | true =>
                       obtain ⟨y, ey, hy⟩ := ro_bt_yes.1 hq
                       have := hy u eu
                       rw [eby] at ey
                       cases ey
                       omega
                   refine ⟨by rw [e2]; rfl, E_8, V, ?_, rg.rf, by rw [ro_s_no e2]; exact hcol, rfl, rfl⟩
                   rw [nI_clamp (show 16 * a + b < 2 ^ 31 by omega)] at hmd
                   have e3 := rg_nop (b := b) (k := 16 * a + b) (V := V)
                   rw [← e3]
                   exact hmd)
              · rw [nI_leI (by omega) (by omega)] at c_125
                refine wq (fun _ _ kk => rs_iconst (v := 1) (pc := 128) dX12_isShorter_128 rfl kk) ?_
                refine wq (fun _ _ kk => rs_goto (tgt := 133) (pc := 129) dX12_isShorter_129 rfl kk) ?_
                refine wq (fun _ _ kk => wk_ist10 (pc := 133) dX12_isShorter_133 (by decide) rfl kk) ?_
                refine wq (fun _ _ kk => rs_aload_n (pc := 135) dX12_isShorter_135 rfl kk) ?_
                refine wq (fun _ _ kk => rs_getf (pc := 136) dX12_isShorter_136 fX12_141 (md_lt hmd (by decide)) hmd.2.1 rfl kk) ?_
                refine wq (fun _ _ kk => rs_iload (pc := 139) dX12_isShorter_139 rfl kk) ?_
                refine wq (fun _ _ kk => rs_iload (pc := 141) dX12_isShorter_141 rfl kk) ?_
                refine wq_br (fun _ _ kt kf => rs_if_eq (tgt := 151) (pc := 143) dX12_isShorter_143 rfl kt kf) (fun c_143 => absurd c_143 (by decide)) (fun c_143 => ?_)
                refine wq (fun _ _ kk => rs_iload (pc := 146) dX12_isShorter_146 rfl kk) ?_
                refine wq (fun _ _ kk => rs_goto (tgt := 158) (pc := 148) dX12_isShorter_148 rfl kk) ?_
                refine wq (fun _ _ kk => rs_iast (pc := 158) dX12_isShorter_158 (md_lt hmd (by decide)) (md_geti (d := 43) (k := 58) (kd := 0) (n := 256) rfl (by decide) hmd) (vp_in_nI (n := 16 * a + b) (N := 256) (by omega) (by decide)) kk) ?_
                refine wq_gen (fun h_9 e_9 => ?_)
                obtain ⟨m_9, s_9, g_9, o_9⟩ := ai_e1 e_9
                replace hmd := md_at_ai (d := 43) rfl (by decide) hmd m_9 g_9 o_9
                have E_9 := (md_ext.rf).trans (md_ext_of m_9 s_9 o_9 (by decide))
                refine wq (fun _ _ kk => rs_aload_n (pc := 159) dX12_isShorter_159 rfl kk) ?_
                refine wq (fun _ _ kk => rs_getf (pc := 160) dX12_isShorter_160 fX12_135 (md_lt hmd (by decide)) hmd.2.1 rfl kk) ?_
                refine wq (fun _ _ kk => rs_iload (pc := 163) dX12_isShorter_163 rfl kk) ?_
                refine wq (fun _ _ kk => rs_iload (pc := 165) dX12_isShorter_165 rfl kk) ?_
                refine wq_br (fun _ _ kt kf => rs_if_eq (tgt := 175) (pc := 167) dX12_isShorter_167 rfl kt kf) (fun c_167 => absurd c_167 (by decide)) (fun c_167 => ?_)
                refine wq (fun _ _ kk => rs_lload (pc := 170) dX12_isShorter_170 rfl kk) ?_
                refine wq (fun _ _ kk => rs_goto (tgt := 182) (pc := 172) dX12_isShorter_172 rfl kk) ?_
                refine wq (fun _ _ kk => rs_last (pc := 182) dX12_isShorter_182 (md_lt hmd (by decide)) (md_getl (d := 41) (k := 56) (kd := 1) (n := 256) rfl (by decide) hmd) (vp_in_nI (n := 16 * a + b) (N := 256) (by omega) (by decide)) kk) ?_
                refine wq_gen (fun h_10 e_10 => ?_)
                obtain ⟨m_10, s_10, g_10, o_10⟩ := ai_e1 e_10
                replace hmd := md_at_al (d := 41) rfl (by decide) hmd m_10 g_10 o_10
                have E_10 := (E_9).trans (md_ext_of m_10 s_10 o_10 (by decide))
                refine wq (fun _ _ kk => rs_iload (pc := 183) dX12_isShorter_183 rfl kk) ?_
                refine wq_ret ?_ (rs_zret (pc := 185) dX12_isShorter_185 rfl (Or.inr rfl))
                first
                | (have e2 : ro_bt (ro_by (ro_U U) d a c) (d a) = true := by
                     refine ro_bt_yes.2 ⟨_, eby, fun y hy => ?_⟩
                     first
                     | (rw [eda] at hy; cases hy; done)
                     | (rw [eu] at hy; cases hy; omega)
                   refine ⟨by rw [e2]; rfl, E_10, _, hmd, ?_, ?_, rfl, rfl⟩
                   · rw [nI_clamp (show 16 * a + b < 2 ^ 31 by omega)]
                     exact (rg.i58 (by omega)).trans (rg.l56 (by omega))
                   · rw [nI_clamp (show 16 * a + b < 2 ^ 31 by omega)]
                     unfold ro_s
                     rw [if_pos e2, eby]
                     exact rcol_up hn hb ha hcol (by congr 1; omega) (by congr 1; omega))
                | (have e2 : ro_bt (ro_by (ro_U U) d a c) (d a) = false := by
                     cases hq : ro_bt (ro_by (ro_U U) d a c) (d a) with
                     | false => rfl
                     | true =>
                       obtain ⟨y, ey, hy⟩ := ro_bt_yes.1 hq
                       have := hy u eu
                       rw [eby] at ey
                       cases ey
                       omega
                   refine ⟨by rw [e2]; rfl, E_10, V, ?_, rg.rf, by rw [ro_s_no e2]; exact hcol, rfl, rfl⟩
                   rw [nI_clamp (show 16 * a + b < 2 ^ 31 by omega)] at hmd
                   have e3 := rg_nop (b := b) (k := 16 * a + b) (V := V)
                   rw [← e3]
                   exact hmd)
      · refine wq (fun _ _ kk => rs_iconst (v := 0) (pc := 50) dX12_isShorter_50 rfl kk) ?_
        refine wq_ret ?_ (rs_zret (pc := 51) dX12_isShorter_51 rfl (Or.inl rfl))
        first
        | exact ⟨by rw [sh_goal hd0]; rfl, md_ext.rf, V, hmd, rg.rf, by rw [ro_s_no (sh_goal hd0)]; exact hcol, rfl, rfl⟩
        | exact ⟨by rw [sh_met ⟨by omega, by omega⟩ hl hm c_36]; rfl, md_ext.rf, V, hmd, rg.rf, by rw [ro_s_no (sh_met ⟨by omega, by omega⟩ hl hm c_36)]; exact hcol, rfl, rfl⟩
        | (have e := sh_rest (c := c) hc hcol c_47
           have e2 : ro_bt (ro_by (ro_U U) d a c) (d a) = false := by
             unfold ro_by
             rw [e]
             cases ro_U U a c <;> rfl
           exact ⟨by rw [e2]; rfl, md_ext.rf, V, hmd, rg.rf, by rw [ro_s_no e2]; exact hcol, rfl, rfl⟩)
theorem ro_s2 {e : Nat → Nat → Option Nat} {a c : Nat} {p : Tl × Bool} : (ro_s e a p c).2 = (ro_bt (ro_by e p.1 a c) (p.1 a) || p.2) := by
  unfold ro_s
  split
  · next h => rw [h]; rfl
  · next h => cases hb : ro_bt (ro_by e p.1 a c) (p.1 a) with
    | false => rfl
    | true => exact absurd hb h
def rin (V : Md) (b i : Nat) : Prop := ∀ x, x < i → V.2.2.1 58 (16 * x + b) = (if x = b then 0 else -1) ∧ V.2.2.2 56 (16 * x + b) = 0 ∧ V.2.2.2 57 (16 * x + b) = 0
theorem rin_s {V : Md} {b i k : Nat} {x : Int32} (hk : k = 16 * i + b) (h : rin V b i) (hx : x = (if i = b then 0 else -1)) : rin (md_al (md_al (md_ai V 58 (upd (V.2.2.1 58) k x)) 56 (vp_updL (V.2.2.2 56) k 0)) 57 (vp_updL (V.2.2.2 57) k 0)) b (i + 1) := by
  subst hk
  intro y hy
  show upd (V.2.2.1 58) (16 * i + b) x (16 * y + b) = _ ∧ vp_updL (V.2.2.2 56) (16 * i + b) 0 (16 * y + b) = _ ∧ vp_updL (V.2.2.2 57) (16 * i + b) 0 (16 * y + b) = _
  by_cases e : y = i
  · subst e
    rw [pk_us, pk_uLs, pk_uLs]
    exact ⟨hx, rfl, rfl⟩
  · rw [pk_un (by omega), pk_uLn (by omega), pk_uLn (by omega)]
    exact h y (by omega)
theorem rin_col {V : Md} {n b : Nat} (h : rin V b n) : rcol V n b (ro_0 b) := by
  intro a ha
  obtain ⟨h1, h2, -⟩ := h a ha
  unfold ro_0
  by_cases e : a = b
  · rw [if_pos e]
    rw [if_pos e] at h1
    exact ⟨fun z => (by cases z), fun v hv => by cases hv; exact ⟨h1, h2⟩⟩
  · rw [if_neg e]
    rw [if_neg e] at h1
    exact ⟨fun _ => h1, fun v hv => by cases hv⟩
def rl0 (V : Md) (n b : Nat) : Prop := ∀ x, x < n → V.2.2.2 57 (16 * x + b) = 0
theorem dX12_ropesTo_0 : decode cX12_ropesTo 0 = .ok (.iconst 0, 1) := by decide +kernel
theorem dX12_ropesTo_1 : decode cX12_ropesTo 1 = .ok (.istore_n 2, 1) := by decide +kernel
theorem dX12_ropesTo_2 : decode cX12_ropesTo 2 = .ok (.iload_n 2, 1) := by decide +kernel
theorem dX12_ropesTo_3 : decode cX12_ropesTo 3 = .ok (.aload_n 0, 1) := by decide +kernel
theorem dX12_ropesTo_4 : decode cX12_ropesTo 4 = .ok (.getfield 188, 3) := by decide +kernel
theorem dX12_ropesTo_7 : decode cX12_ropesTo 7 = .ok (.if_icmp .ge 54, 3) := by decide +kernel
theorem dX12_ropesTo_10 : decode cX12_ropesTo 10 = .ok (.aload_n 0, 1) := by decide +kernel
theorem dX12_ropesTo_11 : decode cX12_ropesTo 11 = .ok (.getfield 141, 3) := by decide +kernel
theorem dX12_ropesTo_14 : decode cX12_ropesTo 14 = .ok (.bipush 16, 2) := by decide +kernel
theorem dX12_ropesTo_16 : decode cX12_ropesTo 16 = .ok (.iload_n 2, 1) := by decide +kernel
theorem dX12_ropesTo_17 : decode cX12_ropesTo 17 = .ok (.imul, 1) := by decide +kernel
theorem dX12_ropesTo_18 : decode cX12_ropesTo 18 = .ok (.iload_n 1, 1) := by decide +kernel
theorem dX12_ropesTo_19 : decode cX12_ropesTo 19 = .ok (.iadd, 1) := by decide +kernel
theorem dX12_ropesTo_20 : decode cX12_ropesTo 20 = .ok (.iload_n 2, 1) := by decide +kernel
theorem dX12_ropesTo_21 : decode cX12_ropesTo 21 = .ok (.iload_n 1, 1) := by decide +kernel
theorem dX12_ropesTo_22 : decode cX12_ropesTo 22 = .ok (.if_icmp .ne 7, 3) := by decide +kernel
theorem dX12_ropesTo_25 : decode cX12_ropesTo 25 = .ok (.iconst 0, 1) := by decide +kernel
theorem dX12_ropesTo_26 : decode cX12_ropesTo 26 = .ok (.goto 4, 3) := by decide +kernel
theorem dX12_ropesTo_29 : decode cX12_ropesTo 29 = .ok (.iconst (-1), 1) := by decide +kernel
theorem dX12_ropesTo_30 : decode cX12_ropesTo 30 = .ok (.iastore, 1) := by decide +kernel
theorem dX12_ropesTo_31 : decode cX12_ropesTo 31 = .ok (.aload_n 0, 1) := by decide +kernel
theorem dX12_ropesTo_32 : decode cX12_ropesTo 32 = .ok (.getfield 135, 3) := by decide +kernel
theorem dX12_ropesTo_35 : decode cX12_ropesTo 35 = .ok (.bipush 16, 2) := by decide +kernel
theorem dX12_ropesTo_37 : decode cX12_ropesTo 37 = .ok (.iload_n 2, 1) := by decide +kernel
theorem dX12_ropesTo_38 : decode cX12_ropesTo 38 = .ok (.imul, 1) := by decide +kernel
theorem dX12_ropesTo_39 : decode cX12_ropesTo 39 = .ok (.iload_n 1, 1) := by decide +kernel
theorem dX12_ropesTo_40 : decode cX12_ropesTo 40 = .ok (.iadd, 1) := by decide +kernel
theorem dX12_ropesTo_41 : decode cX12_ropesTo 41 = .ok (.lconst 0, 1) := by decide +kernel
theorem dX12_ropesTo_42 : decode cX12_ropesTo 42 = .ok (.lastore, 1) := by decide +kernel
theorem dX12_ropesTo_43 : decode cX12_ropesTo 43 = .ok (.aload_n 0, 1) := by decide +kernel
theorem dX12_ropesTo_44 : decode cX12_ropesTo 44 = .ok (.getfield 138, 3) := by decide +kernel
theorem dX12_ropesTo_47 : decode cX12_ropesTo 47 = .ok (.bipush 16, 2) := by decide +kernel
theorem dX12_ropesTo_49 : decode cX12_ropesTo 49 = .ok (.iload_n 2, 1) := by decide +kernel
theorem dX12_ropesTo_50 : decode cX12_ropesTo 50 = .ok (.imul, 1) := by decide +kernel
theorem dX12_ropesTo_51 : decode cX12_ropesTo 51 = .ok (.iload_n 1, 1) := by decide +kernel
theorem dX12_ropesTo_52 : decode cX12_ropesTo 52 = .ok (.iadd, 1) := by decide +kernel
theorem dX12_ropesTo_53 : decode cX12_ropesTo 53 = .ok (.lconst 0, 1) := by decide +kernel
theorem dX12_ropesTo_54 : decode cX12_ropesTo 54 = .ok (.lastore, 1) := by decide +kernel
theorem dX12_ropesTo_55 : decode cX12_ropesTo 55 = .ok (.iinc 2 1, 3) := by decide +kernel
theorem dX12_ropesTo_58 : decode cX12_ropesTo 58 = .ok (.goto (-56), 3) := by decide +kernel
theorem dX12_ropesTo_61 : decode cX12_ropesTo 61 = .ok (.iconst 1, 1) := by decide +kernel
theorem dX12_ropesTo_62 : decode cX12_ropesTo 62 = .ok (.istore_n 2, 1) := by decide +kernel
theorem dX12_ropesTo_63 : decode cX12_ropesTo 63 = .ok (.iload_n 2, 1) := by decide +kernel
theorem dX12_ropesTo_64 : decode cX12_ropesTo 64 = .ok (.ifCond .eq 63, 3) := by decide +kernel
theorem dX12_ropesTo_67 : decode cX12_ropesTo 67 = .ok (.iconst 0, 1) := by decide +kernel
theorem dX12_ropesTo_68 : decode cX12_ropesTo 68 = .ok (.istore_n 2, 1) := by decide +kernel
theorem dX12_ropesTo_69 : decode cX12_ropesTo 69 = .ok (.iconst 0, 1) := by decide +kernel
theorem dX12_ropesTo_70 : decode cX12_ropesTo 70 = .ok (.istore_n 3, 1) := by decide +kernel
theorem dX12_ropesTo_71 : decode cX12_ropesTo 71 = .ok (.iload_n 3, 1) := by decide +kernel
theorem dX12_ropesTo_72 : decode cX12_ropesTo 72 = .ok (.aload_n 0, 1) := by decide +kernel
theorem dX12_ropesTo_73 : decode cX12_ropesTo 73 = .ok (.getfield 188, 3) := by decide +kernel
theorem dX12_ropesTo_76 : decode cX12_ropesTo 76 = .ok (.if_icmp .ge 48, 3) := by decide +kernel
theorem dX12_ropesTo_79 : decode cX12_ropesTo 79 = .ok (.iconst 0, 1) := by decide +kernel
theorem dX12_ropesTo_80 : decode cX12_ropesTo 80 = .ok (.istore 4, 2) := by decide +kernel
theorem dX12_ropesTo_82 : decode cX12_ropesTo 82 = .ok (.iload 4, 2) := by decide +kernel
theorem dX12_ropesTo_84 : decode cX12_ropesTo 84 = .ok (.aload_n 0, 1) := by decide +kernel
theorem dX12_ropesTo_85 : decode cX12_ropesTo 85 = .ok (.getfield 188, 3) := by decide +kernel
theorem dX12_ropesTo_88 : decode cX12_ropesTo 88 = .ok (.if_icmp .ge 30, 3) := by decide +kernel
theorem dX12_ropesTo_91 : decode cX12_ropesTo 91 = .ok (.aload_n 0, 1) := by decide +kernel
theorem dX12_ropesTo_92 : decode cX12_ropesTo 92 = .ok (.iload_n 3, 1) := by decide +kernel
theorem dX12_ropesTo_93 : decode cX12_ropesTo 93 = .ok (.iload 4, 2) := by decide +kernel
theorem dX12_ropesTo_95 : decode cX12_ropesTo 95 = .ok (.iload_n 1, 1) := by decide +kernel
theorem dX12_ropesTo_96 : decode cX12_ropesTo 96 = .ok (.invokevirtual 438, 3) := by decide +kernel
theorem dX12_ropesTo_99 : decode cX12_ropesTo 99 = .ok (.ifCond .ne 7, 3) := by decide +kernel
theorem dX12_ropesTo_102 : decode cX12_ropesTo 102 = .ok (.iload_n 2, 1) := by decide +kernel
theorem dX12_ropesTo_103 : decode cX12_ropesTo 103 = .ok (.ifCond .eq 7, 3) := by decide +kernel
theorem dX12_ropesTo_106 : decode cX12_ropesTo 106 = .ok (.iconst 1, 1) := by decide +kernel
theorem dX12_ropesTo_107 : decode cX12_ropesTo 107 = .ok (.goto 4, 3) := by decide +kernel
theorem dX12_ropesTo_110 : decode cX12_ropesTo 110 = .ok (.iconst 0, 1) := by decide +kernel
theorem dX12_ropesTo_111 : decode cX12_ropesTo 111 = .ok (.istore_n 2, 1) := by decide +kernel
theorem dX12_ropesTo_112 : decode cX12_ropesTo 112 = .ok (.iinc 4 1, 3) := by decide +kernel
theorem dX12_ropesTo_115 : decode cX12_ropesTo 115 = .ok (.goto (-33), 3) := by decide +kernel
theorem dX12_ropesTo_118 : decode cX12_ropesTo 118 = .ok (.iinc 3 1, 3) := by decide +kernel
theorem dX12_ropesTo_121 : decode cX12_ropesTo 121 = .ok (.goto (-50), 3) := by decide +kernel
theorem dX12_ropesTo_124 : decode cX12_ropesTo 124 = .ok (.goto (-61), 3) := by decide +kernel
theorem dX12_ropesTo_127 : decode cX12_ropesTo 127 = .ok (.iconst 0, 1) := by decide +kernel
theorem dX12_ropesTo_128 : decode cX12_ropesTo 128 = .ok (.istore_n 3, 1) := by decide +kernel
theorem dX12_ropesTo_129 : decode cX12_ropesTo 129 = .ok (.iload_n 3, 1) := by decide +kernel
theorem dX12_ropesTo_130 : decode cX12_ropesTo 130 = .ok (.aload_n 0, 1) := by decide +kernel
theorem dX12_ropesTo_131 : decode cX12_ropesTo 131 = .ok (.getfield 188, 3) := by decide +kernel
theorem dX12_ropesTo_134 : decode cX12_ropesTo 134 = .ok (.if_icmp .ge 168, 3) := by decide +kernel
theorem dX12_ropesTo_137 : decode cX12_ropesTo 137 = .ok (.bipush 16, 2) := by decide +kernel
theorem dX12_ropesTo_139 : decode cX12_ropesTo 139 = .ok (.iload_n 3, 1) := by decide +kernel
theorem dX12_ropesTo_140 : decode cX12_ropesTo 140 = .ok (.imul, 1) := by decide +kernel
theorem dX12_ropesTo_141 : decode cX12_ropesTo 141 = .ok (.iload_n 1, 1) := by decide +kernel
theorem dX12_ropesTo_142 : decode cX12_ropesTo 142 = .ok (.iadd, 1) := by decide +kernel
theorem dX12_ropesTo_143 : decode cX12_ropesTo 143 = .ok (.istore 4, 2) := by decide +kernel
theorem dX12_ropesTo_145 : decode cX12_ropesTo 145 = .ok (.aload_n 0, 1) := by decide +kernel
theorem dX12_ropesTo_146 : decode cX12_ropesTo 146 = .ok (.getfield 144, 3) := by decide +kernel
theorem dX12_ropesTo_149 : decode cX12_ropesTo 149 = .ok (.iload 4, 2) := by decide +kernel
theorem dX12_ropesTo_151 : decode cX12_ropesTo 151 = .ok (.iconst (-1), 1) := by decide +kernel
theorem dX12_ropesTo_152 : decode cX12_ropesTo 152 = .ok (.iastore, 1) := by decide +kernel
theorem dX12_ropesTo_153 : decode cX12_ropesTo 153 = .ok (.aload_n 0, 1) := by decide +kernel
theorem dX12_ropesTo_154 : decode cX12_ropesTo 154 = .ok (.getfield 188, 3) := by decide +kernel
theorem dX12_ropesTo_157 : decode cX12_ropesTo 157 = .ok (.iconst 1, 1) := by decide +kernel
theorem dX12_ropesTo_158 : decode cX12_ropesTo 158 = .ok (.isub, 1) := by decide +kernel
theorem dX12_ropesTo_159 : decode cX12_ropesTo 159 = .ok (.istore 5, 2) := by decide +kernel
theorem dX12_ropesTo_161 : decode cX12_ropesTo 161 = .ok (.iload 5, 2) := by decide +kernel
theorem dX12_ropesTo_163 : decode cX12_ropesTo 163 = .ok (.ifCond .lt 133, 3) := by decide +kernel
theorem dX12_ropesTo_166 : decode cX12_ropesTo 166 = .ok (.aload_n 0, 1) := by decide +kernel
theorem dX12_ropesTo_167 : decode cX12_ropesTo 167 = .ok (.getfield 141, 3) := by decide +kernel
theorem dX12_ropesTo_170 : decode cX12_ropesTo 170 = .ok (.iload 4, 2) := by decide +kernel
theorem dX12_ropesTo_172 : decode cX12_ropesTo 172 = .ok (.iaload, 1) := by decide +kernel
theorem dX12_ropesTo_173 : decode cX12_ropesTo 173 = .ok (.ifCond .le 123, 3) := by decide +kernel
theorem dX12_ropesTo_176 : decode cX12_ropesTo 176 = .ok (.bipush 16, 2) := by decide +kernel
theorem dX12_ropesTo_178 : decode cX12_ropesTo 178 = .ok (.iload_n 3, 1) := by decide +kernel
theorem dX12_ropesTo_179 : decode cX12_ropesTo 179 = .ok (.imul, 1) := by decide +kernel
theorem dX12_ropesTo_180 : decode cX12_ropesTo 180 = .ok (.iload 5, 2) := by decide +kernel
theorem dX12_ropesTo_182 : decode cX12_ropesTo 182 = .ok (.iadd, 1) := by decide +kernel
theorem dX12_ropesTo_183 : decode cX12_ropesTo 183 = .ok (.istore 6, 2) := by decide +kernel
theorem dX12_ropesTo_185 : decode cX12_ropesTo 185 = .ok (.bipush 16, 2) := by decide +kernel
theorem dX12_ropesTo_187 : decode cX12_ropesTo 187 = .ok (.iload 5, 2) := by decide +kernel
theorem dX12_ropesTo_189 : decode cX12_ropesTo 189 = .ok (.imul, 1) := by decide +kernel
theorem dX12_ropesTo_190 : decode cX12_ropesTo 190 = .ok (.iload_n 1, 1) := by decide +kernel
theorem dX12_ropesTo_191 : decode cX12_ropesTo 191 = .ok (.iadd, 1) := by decide +kernel
theorem dX12_ropesTo_192 : decode cX12_ropesTo 192 = .ok (.istore 7, 2) := by decide +kernel
theorem dX12_ropesTo_194 : decode cX12_ropesTo 194 = .ok (.aload_n 0, 1) := by decide +kernel
theorem dX12_ropesTo_195 : decode cX12_ropesTo 195 = .ok (.getfield 117, 3) := by decide +kernel
theorem dX12_ropesTo_198 : decode cX12_ropesTo 198 = .ok (.iload 6, 2) := by decide +kernel
theorem dX12_ropesTo_200 : decode cX12_ropesTo 200 = .ok (.iaload, 1) := by decide +kernel
theorem dX12_ropesTo_201 : decode cX12_ropesTo 201 = .ok (.ifCond .le 62, 3) := by decide +kernel
theorem dX12_ropesTo_204 : decode cX12_ropesTo 204 = .ok (.aload_n 0, 1) := by decide +kernel
theorem dX12_ropesTo_205 : decode cX12_ropesTo 205 = .ok (.getfield 141, 3) := by decide +kernel
theorem dX12_ropesTo_208 : decode cX12_ropesTo 208 = .ok (.iload 7, 2) := by decide +kernel
theorem dX12_ropesTo_210 : decode cX12_ropesTo 210 = .ok (.iaload, 1) := by decide +kernel
theorem dX12_ropesTo_211 : decode cX12_ropesTo 211 = .ok (.iconst (-1), 1) := by decide +kernel
theorem dX12_ropesTo_212 : decode cX12_ropesTo 212 = .ok (.if_icmp .eq 51, 3) := by decide +kernel
theorem dX12_ropesTo_215 : decode cX12_ropesTo 215 = .ok (.aload_n 0, 1) := by decide +kernel
theorem dX12_ropesTo_216 : decode cX12_ropesTo 216 = .ok (.getfield 141, 3) := by decide +kernel
theorem dX12_ropesTo_219 : decode cX12_ropesTo 219 = .ok (.iload 7, 2) := by decide +kernel
theorem dX12_ropesTo_221 : decode cX12_ropesTo 221 = .ok (.iaload, 1) := by decide +kernel
theorem dX12_ropesTo_222 : decode cX12_ropesTo 222 = .ok (.iconst 1, 1) := by decide +kernel
theorem dX12_ropesTo_223 : decode cX12_ropesTo 223 = .ok (.iadd, 1) := by decide +kernel
theorem dX12_ropesTo_224 : decode cX12_ropesTo 224 = .ok (.aload_n 0, 1) := by decide +kernel
theorem dX12_ropesTo_225 : decode cX12_ropesTo 225 = .ok (.getfield 141, 3) := by decide +kernel
theorem dX12_ropesTo_228 : decode cX12_ropesTo 228 = .ok (.iload 4, 2) := by decide +kernel
theorem dX12_ropesTo_230 : decode cX12_ropesTo 230 = .ok (.iaload, 1) := by decide +kernel
theorem dX12_ropesTo_231 : decode cX12_ropesTo 231 = .ok (.if_icmp .ne 32, 3) := by decide +kernel
theorem dX12_ropesTo_234 : decode cX12_ropesTo 234 = .ok (.aload_n 0, 1) := by decide +kernel
theorem dX12_ropesTo_235 : decode cX12_ropesTo 235 = .ok (.getfield 135, 3) := by decide +kernel
theorem dX12_ropesTo_238 : decode cX12_ropesTo 238 = .ok (.iload 7, 2) := by decide +kernel
theorem dX12_ropesTo_240 : decode cX12_ropesTo 240 = .ok (.laload, 1) := by decide +kernel
theorem dX12_ropesTo_241 : decode cX12_ropesTo 241 = .ok (.aload_n 0, 1) := by decide +kernel
theorem dX12_ropesTo_242 : decode cX12_ropesTo 242 = .ok (.iload 6, 2) := by decide +kernel
theorem dX12_ropesTo_244 : decode cX12_ropesTo 244 = .ok (.invokevirtual 432, 3) := by decide +kernel
theorem dX12_ropesTo_247 : decode cX12_ropesTo 247 = .ok (.ladd, 1) := by decide +kernel
theorem dX12_ropesTo_248 : decode cX12_ropesTo 248 = .ok (.aload_n 0, 1) := by decide +kernel
theorem dX12_ropesTo_249 : decode cX12_ropesTo 249 = .ok (.getfield 135, 3) := by decide +kernel
theorem dX12_ropesTo_252 : decode cX12_ropesTo 252 = .ok (.iload 4, 2) := by decide +kernel
theorem dX12_ropesTo_254 : decode cX12_ropesTo 254 = .ok (.laload, 1) := by decide +kernel
theorem dX12_ropesTo_255 : decode cX12_ropesTo 255 = .ok (.lcmp, 1) := by decide +kernel
theorem dX12_ropesTo_256 : decode cX12_ropesTo 256 = .ok (.ifCond .ne 7, 3) := by decide +kernel
theorem dX12_ropesTo_259 : decode cX12_ropesTo 259 = .ok (.iconst 1, 1) := by decide +kernel
theorem dX12_ropesTo_260 : decode cX12_ropesTo 260 = .ok (.goto 4, 3) := by decide +kernel
theorem dX12_ropesTo_263 : decode cX12_ropesTo 263 = .ok (.iconst 0, 1) := by decide +kernel
theorem dX12_ropesTo_264 : decode cX12_ropesTo 264 = .ok (.istore 8, 2) := by decide +kernel
theorem dX12_ropesTo_266 : decode cX12_ropesTo 266 = .ok (.aload_n 0, 1) := by decide +kernel
theorem dX12_ropesTo_267 : decode cX12_ropesTo 267 = .ok (.getfield 144, 3) := by decide +kernel
theorem dX12_ropesTo_270 : decode cX12_ropesTo 270 = .ok (.iload 4, 2) := by decide +kernel
theorem dX12_ropesTo_272 : decode cX12_ropesTo 272 = .ok (.iload 8, 2) := by decide +kernel
theorem dX12_ropesTo_274 : decode cX12_ropesTo 274 = .ok (.ifCond .eq 8, 3) := by decide +kernel
theorem dX12_ropesTo_277 : decode cX12_ropesTo 277 = .ok (.iload 5, 2) := by decide +kernel
theorem dX12_ropesTo_279 : decode cX12_ropesTo 279 = .ok (.goto 10, 3) := by decide +kernel
theorem dX12_ropesTo_282 : decode cX12_ropesTo 282 = .ok (.aload_n 0, 1) := by decide +kernel
theorem dX12_ropesTo_283 : decode cX12_ropesTo 283 = .ok (.getfield 144, 3) := by decide +kernel
theorem dX12_ropesTo_286 : decode cX12_ropesTo 286 = .ok (.iload 4, 2) := by decide +kernel
theorem dX12_ropesTo_288 : decode cX12_ropesTo 288 = .ok (.iaload, 1) := by decide +kernel
theorem dX12_ropesTo_289 : decode cX12_ropesTo 289 = .ok (.iastore, 1) := by decide +kernel
theorem dX12_ropesTo_290 : decode cX12_ropesTo 290 = .ok (.iinc 5 (-1), 3) := by decide +kernel
theorem dX12_ropesTo_293 : decode cX12_ropesTo 293 = .ok (.goto (-132), 3) := by decide +kernel
theorem dX12_ropesTo_296 : decode cX12_ropesTo 296 = .ok (.iinc 3 1, 3) := by decide +kernel
theorem dX12_ropesTo_299 : decode cX12_ropesTo 299 = .ok (.goto (-170), 3) := by decide +kernel
theorem dX12_ropesTo_302 : decode cX12_ropesTo 302 = .ok (.iconst 0, 1) := by decide +kernel
theorem dX12_ropesTo_303 : decode cX12_ropesTo 303 = .ok (.istore_n 3, 1) := by decide +kernel
theorem dX12_ropesTo_304 : decode cX12_ropesTo 304 = .ok (.iload_n 3, 1) := by decide +kernel
theorem dX12_ropesTo_305 : decode cX12_ropesTo 305 = .ok (.aload_n 0, 1) := by decide +kernel
theorem dX12_ropesTo_306 : decode cX12_ropesTo 306 = .ok (.getfield 188, 3) := by decide +kernel
theorem dX12_ropesTo_309 : decode cX12_ropesTo 309 = .ok (.if_icmp .ge 79, 3) := by decide +kernel
theorem dX12_ropesTo_312 : decode cX12_ropesTo 312 = .ok (.iload_n 3, 1) := by decide +kernel
theorem dX12_ropesTo_313 : decode cX12_ropesTo 313 = .ok (.istore 4, 2) := by decide +kernel
theorem dX12_ropesTo_315 : decode cX12_ropesTo 315 = .ok (.aload_n 0, 1) := by decide +kernel
theorem dX12_ropesTo_316 : decode cX12_ropesTo 316 = .ok (.getfield 141, 3) := by decide +kernel
theorem dX12_ropesTo_319 : decode cX12_ropesTo 319 = .ok (.bipush 16, 2) := by decide +kernel
theorem dX12_ropesTo_321 : decode cX12_ropesTo 321 = .ok (.iload_n 3, 1) := by decide +kernel
theorem dX12_ropesTo_322 : decode cX12_ropesTo 322 = .ok (.imul, 1) := by decide +kernel
theorem dX12_ropesTo_323 : decode cX12_ropesTo 323 = .ok (.iload_n 1, 1) := by decide +kernel
theorem dX12_ropesTo_324 : decode cX12_ropesTo 324 = .ok (.iadd, 1) := by decide +kernel
theorem dX12_ropesTo_325 : decode cX12_ropesTo 325 = .ok (.iaload, 1) := by decide +kernel
theorem dX12_ropesTo_326 : decode cX12_ropesTo 326 = .ok (.ifCond .le 56, 3) := by decide +kernel
theorem dX12_ropesTo_329 : decode cX12_ropesTo 329 = .ok (.iload 4, 2) := by decide +kernel
theorem dX12_ropesTo_331 : decode cX12_ropesTo 331 = .ok (.iload_n 1, 1) := by decide +kernel
theorem dX12_ropesTo_332 : decode cX12_ropesTo 332 = .ok (.if_icmp .eq 50, 3) := by decide +kernel
theorem dX12_ropesTo_335 : decode cX12_ropesTo 335 = .ok (.aload_n 0, 1) := by decide +kernel
theorem dX12_ropesTo_336 : decode cX12_ropesTo 336 = .ok (.getfield 144, 3) := by decide +kernel
theorem dX12_ropesTo_339 : decode cX12_ropesTo 339 = .ok (.bipush 16, 2) := by decide +kernel
theorem dX12_ropesTo_341 : decode cX12_ropesTo 341 = .ok (.iload 4, 2) := by decide +kernel
theorem dX12_ropesTo_343 : decode cX12_ropesTo 343 = .ok (.imul, 1) := by decide +kernel
theorem dX12_ropesTo_344 : decode cX12_ropesTo 344 = .ok (.iload_n 1, 1) := by decide +kernel
theorem dX12_ropesTo_345 : decode cX12_ropesTo 345 = .ok (.iadd, 1) := by decide +kernel
theorem dX12_ropesTo_346 : decode cX12_ropesTo 346 = .ok (.iaload, 1) := by decide +kernel
theorem dX12_ropesTo_347 : decode cX12_ropesTo 347 = .ok (.istore 5, 2) := by decide +kernel
theorem dX12_ropesTo_349 : decode cX12_ropesTo 349 = .ok (.aload_n 0, 1) := by decide +kernel
theorem dX12_ropesTo_350 : decode cX12_ropesTo 350 = .ok (.getfield 138, 3) := by decide +kernel
theorem dX12_ropesTo_353 : decode cX12_ropesTo 353 = .ok (.bipush 16, 2) := by decide +kernel
theorem dX12_ropesTo_355 : decode cX12_ropesTo 355 = .ok (.iload_n 3, 1) := by decide +kernel
theorem dX12_ropesTo_356 : decode cX12_ropesTo 356 = .ok (.imul, 1) := by decide +kernel
theorem dX12_ropesTo_357 : decode cX12_ropesTo 357 = .ok (.iload_n 1, 1) := by decide +kernel
theorem dX12_ropesTo_358 : decode cX12_ropesTo 358 = .ok (.iadd, 1) := by decide +kernel
theorem dX12_ropesTo_359 : decode cX12_ropesTo 359 = .ok (.dup2, 1) := by decide +kernel
theorem dX12_ropesTo_360 : decode cX12_ropesTo 360 = .ok (.laload, 1) := by decide +kernel
theorem dX12_ropesTo_361 : decode cX12_ropesTo 361 = .ok (.aload_n 0, 1) := by decide +kernel
theorem dX12_ropesTo_362 : decode cX12_ropesTo 362 = .ok (.bipush 16, 2) := by decide +kernel
theorem dX12_ropesTo_364 : decode cX12_ropesTo 364 = .ok (.iload 4, 2) := by decide +kernel
theorem dX12_ropesTo_366 : decode cX12_ropesTo 366 = .ok (.imul, 1) := by decide +kernel
theorem dX12_ropesTo_367 : decode cX12_ropesTo 367 = .ok (.iload 5, 2) := by decide +kernel
theorem dX12_ropesTo_369 : decode cX12_ropesTo 369 = .ok (.iadd, 1) := by decide +kernel
theorem dX12_ropesTo_370 : decode cX12_ropesTo 370 = .ok (.invokevirtual 429, 3) := by decide +kernel
theorem dX12_ropesTo_373 : decode cX12_ropesTo 373 = .ok (.ladd, 1) := by decide +kernel
theorem dX12_ropesTo_374 : decode cX12_ropesTo 374 = .ok (.lastore, 1) := by decide +kernel
theorem dX12_ropesTo_375 : decode cX12_ropesTo 375 = .ok (.iload 5, 2) := by decide +kernel
theorem dX12_ropesTo_377 : decode cX12_ropesTo 377 = .ok (.istore 4, 2) := by decide +kernel
theorem dX12_ropesTo_379 : decode cX12_ropesTo 379 = .ok (.goto (-64), 3) := by decide +kernel
theorem dX12_ropesTo_382 : decode cX12_ropesTo 382 = .ok (.iinc 3 1, 3) := by decide +kernel
theorem dX12_ropesTo_385 : decode cX12_ropesTo 385 = .ok (.goto (-81), 3) := by decide +kernel
theorem dX12_ropesTo_388 : decode cX12_ropesTo 388 = .ok (.return_, 1) := by decide +kernel
set_option maxRecDepth 100000 in
set_option maxHeartbeats 4000000 in
theorem l1_X12_ropesTo {h : ai_H} {V0 : Md} {U : Nat → List Int} {n b : Nat} (hn : n ≤ 16) (hb : b < n) (hob0 : V0.1 2 = nI n) {Q : Option Value → ai_H → Prop} (kx : ∀ (g : ai_H) (V : Md), md_ext h g → md_at g V → rg b V0 V → rin V b n → ai_W MX12_ropesTo 61 [.ref 307, .int (nI b), .int (nI n), .float 0, .float 0, .float 0, .float 0, .float 0, .float 0] [] g Q) : ∀ (m i : Nat) (g : ai_H) (V : Md), i ≤ n → n + 1 ≤ i + m → md_ext h g → md_at g V → rg b V0 V → rin V b i → ai_W MX12_ropesTo 2 [.ref 307, .int (nI b), .int (nI i), .float 0, .float 0, .float 0, .float 0, .float 0, .float 0] [] g Q := by
  intro m
  induction m with
  | zero => intro i g V h1 h2; exact absurd h2 (by omega)
  | succ m ih =>
    intro i g V hi0 him E0 hmd hrg hin
    have hob : V.1 2 = nI n := by rw [hrg.1]; exact hob0
    refine wq (fun _ _ kk => rs_iload_n (pc := 2) dX12_ropesTo_2 rfl kk) ?_
    refine wq (fun _ _ kk => rs_aload_n (pc := 3) dX12_ropesTo_3 rfl kk) ?_
    refine wq (fun _ _ kk => rs_getf (pc := 4) dX12_ropesTo_4 fX12_188 (md_lt hmd (by decide)) hmd.2.1 rfl kk) ?_
    refine wq_br (fun _ _ kt kf => rs_icmp_ge (tgt := 61) (pc := 7) dX12_ropesTo_7 rfl kt kf) (fun c_7 => ?_) (fun c_7 => ?_)
    · have hie : i = n := lp_exit hob (by omega) hi0 c_7
      subst hie
      exact kx g V E0 hmd hrg hin
    · have hi : i < n := lp_go hob (by omega) c_7
      refine wq (fun _ _ kk => rs_aload_n (pc := 10) dX12_ropesTo_10 rfl kk) ?_
      refine wq (fun _ _ kk => rs_getf (pc := 11) dX12_ropesTo_11 fX12_141 (md_lt hmd (by decide)) hmd.2.1 rfl kk) ?_
      refine wq (fun _ _ kk => rs_bipush (v := 16) (pc := 14) dX12_ropesTo_14 rfl kk) ?_
      refine wq (fun _ _ kk => rs_iload_n (pc := 16) dX12_ropesTo_16 rfl kk) ?_
      refine wq (fun _ _ kk => rs_imul (pc := 17) dX12_ropesTo_17 kk) ?_
      rw [show (16 : Int32) * nI i = nI (16 * i) from pk_mul 16 (i)]
      refine wq (fun _ _ kk => rs_iload_n (pc := 18) dX12_ropesTo_18 rfl kk) ?_
      refine wq (fun _ _ kk => rs_iadd (pc := 19) dX12_ropesTo_19 kk) ?_
      rw [nI_add]
      refine wq (fun _ _ kk => rs_iload_n (pc := 20) dX12_ropesTo_20 rfl kk) ?_
      refine wq (fun _ _ kk => rs_iload_n (pc := 21) dX12_ropesTo_21 rfl kk) ?_
      refine wq_bn (fun _ _ kt kf => rs_icmp_ne (tgt := 29) (pc := 22) dX12_ropesTo_22 rfl kt kf) (fun c_22 => ?_) (fun c_22 => ?_)
      · refine wq (fun _ _ kk => rs_iconst (v := -1) (pc := 29) dX12_ropesTo_29 rfl kk) ?_
        refine wq (fun _ _ kk => rs_iast (pc := 30) dX12_ropesTo_30 (md_lt hmd (by decide)) (md_geti (d := 43) (k := 58) (kd := 0) (n := 256) rfl (by decide) hmd) (vp_in_nI (n := 16 * i + b) (N := 256) (by omega) (by decide)) kk) ?_
        refine wq_gen (fun h_1 e_1 => ?_)
        obtain ⟨m_1, s_1, g_1, o_1⟩ := ai_e1 e_1
        replace hmd := md_at_ai (d := 43) rfl (by decide) hmd m_1 g_1 o_1
        have E_1 := (E0).trans (md_ext_of m_1 s_1 o_1 (by decide))
        refine wq (fun _ _ kk => rs_aload_n (pc := 31) dX12_ropesTo_31 rfl kk) ?_
        refine wq (fun _ _ kk => rs_getf (pc := 32) dX12_ropesTo_32 fX12_135 (md_lt hmd (by decide)) hmd.2.1 rfl kk) ?_
        refine wq (fun _ _ kk => rs_bipush (v := 16) (pc := 35) dX12_ropesTo_35 rfl kk) ?_
        refine wq (fun _ _ kk => rs_iload_n (pc := 37) dX12_ropesTo_37 rfl kk) ?_
        refine wq (fun _ _ kk => rs_imul (pc := 38) dX12_ropesTo_38 kk) ?_
        rw [show (16 : Int32) * nI i = nI (16 * i) from pk_mul 16 (i)]
        refine wq (fun _ _ kk => rs_iload_n (pc := 39) dX12_ropesTo_39 rfl kk) ?_
        refine wq (fun _ _ kk => rs_iadd (pc := 40) dX12_ropesTo_40 kk) ?_
        rw [nI_add]
        refine wq (fun _ _ kk => rs_lconst (v := 0) (pc := 41) dX12_ropesTo_41 rfl kk) ?_
        refine wq (fun _ _ kk => rs_last (pc := 42) dX12_ropesTo_42 (md_lt hmd (by decide)) (md_getl (d := 41) (k := 56) (kd := 1) (n := 256) rfl (by decide) hmd) (vp_in_nI (n := 16 * i + b) (N := 256) (by omega) (by decide)) kk) ?_
        refine wq_gen (fun h_2 e_2 => ?_)
        obtain ⟨m_2, s_2, g_2, o_2⟩ := ai_e1 e_2
        replace hmd := md_at_al (d := 41) rfl (by decide) hmd m_2 g_2 o_2
        have E_2 := (E_1).trans (md_ext_of m_2 s_2 o_2 (by decide))
        refine wq (fun _ _ kk => rs_aload_n (pc := 43) dX12_ropesTo_43 rfl kk) ?_
        refine wq (fun _ _ kk => rs_getf (pc := 44) dX12_ropesTo_44 fX12_138 (md_lt hmd (by decide)) hmd.2.1 rfl kk) ?_
        refine wq (fun _ _ kk => rs_bipush (v := 16) (pc := 47) dX12_ropesTo_47 rfl kk) ?_
        refine wq (fun _ _ kk => rs_iload_n (pc := 49) dX12_ropesTo_49 rfl kk) ?_
        refine wq (fun _ _ kk => rs_imul (pc := 50) dX12_ropesTo_50 kk) ?_
        rw [show (16 : Int32) * nI i = nI (16 * i) from pk_mul 16 (i)]
        refine wq (fun _ _ kk => rs_iload_n (pc := 51) dX12_ropesTo_51 rfl kk) ?_
        refine wq (fun _ _ kk => rs_iadd (pc := 52) dX12_ropesTo_52 kk) ?_
        rw [nI_add]
        refine wq (fun _ _ kk => rs_lconst (v := 0) (pc := 53) dX12_ropesTo_53 rfl kk) ?_
        refine wq (fun _ _ kk => rs_last (pc := 54) dX12_ropesTo_54 (md_lt hmd (by decide)) (md_getl (d := 42) (k := 57) (kd := 1) (n := 256) rfl (by decide) hmd) (vp_in_nI (n := 16 * i + b) (N := 256) (by omega) (by decide)) kk) ?_
        refine wq_gen (fun h_3 e_3 => ?_)
        obtain ⟨m_3, s_3, g_3, o_3⟩ := ai_e1 e_3
        replace hmd := md_at_al (d := 42) rfl (by decide) hmd m_3 g_3 o_3
        have E_3 := (E_2).trans (md_ext_of m_3 s_3 o_3 (by decide))
        refine wq (fun _ _ kk => wk_iinc2 (v := nI (i + 1)) (pc := 55) dX12_ropesTo_55 (by decide) rfl (nI_1 i) kk) ?_
        refine wq (fun _ _ kk => rs_goto (tgt := 2) (pc := 58) dX12_ropesTo_58 rfl kk) ?_
        refine ih (i + 1) _ _ (by omega) (by omega) (E_3) hmd ?_ (rin_s (nI_clamp (by omega)) hin ?_)
        · rw [nI_clamp (show 16 * i + b < 2 ^ 31 by omega)]
          exact ((hrg.trans (rg.i58 (by omega))).trans (rg.l56 (by omega))).trans (rg.l57 (by omega))
        · first
          | (rw [if_pos (nI_inj (by omega) (by omega) c_22)])
          | (rw [if_neg (fun z => c_22 (by rw [z]))])
      · refine wq (fun _ _ kk => rs_iconst (v := 0) (pc := 25) dX12_ropesTo_25 rfl kk) ?_
        refine wq (fun _ _ kk => rs_goto (tgt := 30) (pc := 26) dX12_ropesTo_26 rfl kk) ?_
        refine wq (fun _ _ kk => rs_iast (pc := 30) dX12_ropesTo_30 (md_lt hmd (by decide)) (md_geti (d := 43) (k := 58) (kd := 0) (n := 256) rfl (by decide) hmd) (vp_in_nI (n := 16 * i + b) (N := 256) (by omega) (by decide)) kk) ?_
        refine wq_gen (fun h_4 e_4 => ?_)
        obtain ⟨m_4, s_4, g_4, o_4⟩ := ai_e1 e_4
        replace hmd := md_at_ai (d := 43) rfl (by decide) hmd m_4 g_4 o_4
        have E_4 := (E0).trans (md_ext_of m_4 s_4 o_4 (by decide))
        refine wq (fun _ _ kk => rs_aload_n (pc := 31) dX12_ropesTo_31 rfl kk) ?_
        refine wq (fun _ _ kk => rs_getf (pc := 32) dX12_ropesTo_32 fX12_135 (md_lt hmd (by decide)) hmd.2.1 rfl kk) ?_
        refine wq (fun _ _ kk => rs_bipush (v := 16) (pc := 35) dX12_ropesTo_35 rfl kk) ?_
        refine wq (fun _ _ kk => rs_iload_n (pc := 37) dX12_ropesTo_37 rfl kk) ?_
        refine wq (fun _ _ kk => rs_imul (pc := 38) dX12_ropesTo_38 kk) ?_
        rw [show (16 : Int32) * nI i = nI (16 * i) from pk_mul 16 (i)]
        refine wq (fun _ _ kk => rs_iload_n (pc := 39) dX12_ropesTo_39 rfl kk) ?_
        refine wq (fun _ _ kk => rs_iadd (pc := 40) dX12_ropesTo_40 kk) ?_
        rw [nI_add]
        refine wq (fun _ _ kk => rs_lconst (v := 0) (pc := 41) dX12_ropesTo_41 rfl kk) ?_
        refine wq (fun _ _ kk => rs_last (pc := 42) dX12_ropesTo_42 (md_lt hmd (by decide)) (md_getl (d := 41) (k := 56) (kd := 1) (n := 256) rfl (by decide) hmd) (vp_in_nI (n := 16 * i + b) (N := 256) (by omega) (by decide)) kk) ?_
        refine wq_gen (fun h_5 e_5 => ?_)
        obtain ⟨m_5, s_5, g_5, o_5⟩ := ai_e1 e_5
        replace hmd := md_at_al (d := 41) rfl (by decide) hmd m_5 g_5 o_5
        have E_5 := (E_4).trans (md_ext_of m_5 s_5 o_5 (by decide))
        refine wq (fun _ _ kk => rs_aload_n (pc := 43) dX12_ropesTo_43 rfl kk) ?_
        refine wq (fun _ _ kk => rs_getf (pc := 44) dX12_ropesTo_44 fX12_138 (md_lt hmd (by decide)) hmd.2.1 rfl kk) ?_
        refine wq (fun _ _ kk => rs_bipush (v := 16) (pc := 47) dX12_ropesTo_47 rfl kk) ?_
        refine wq (fun _ _ kk => rs_iload_n (pc := 49) dX12_ropesTo_49 rfl kk) ?_
        refine wq (fun _ _ kk => rs_imul (pc := 50) dX12_ropesTo_50 kk) ?_
        rw [show (16 : Int32) * nI i = nI (16 * i) from pk_mul 16 (i)]
        refine wq (fun _ _ kk => rs_iload_n (pc := 51) dX12_ropesTo_51 rfl kk) ?_
        refine wq (fun _ _ kk => rs_iadd (pc := 52) dX12_ropesTo_52 kk) ?_
        rw [nI_add]
        refine wq (fun _ _ kk => rs_lconst (v := 0) (pc := 53) dX12_ropesTo_53 rfl kk) ?_
        refine wq (fun _ _ kk => rs_last (pc := 54) dX12_ropesTo_54 (md_lt hmd (by decide)) (md_getl (d := 42) (k := 57) (kd := 1) (n := 256) rfl (by decide) hmd) (vp_in_nI (n := 16 * i + b) (N := 256) (by omega) (by decide)) kk) ?_
        refine wq_gen (fun h_6 e_6 => ?_)
        obtain ⟨m_6, s_6, g_6, o_6⟩ := ai_e1 e_6
        replace hmd := md_at_al (d := 42) rfl (by decide) hmd m_6 g_6 o_6
        have E_6 := (E_5).trans (md_ext_of m_6 s_6 o_6 (by decide))
        refine wq (fun _ _ kk => wk_iinc2 (v := nI (i + 1)) (pc := 55) dX12_ropesTo_55 (by decide) rfl (nI_1 i) kk) ?_
        refine wq (fun _ _ kk => rs_goto (tgt := 2) (pc := 58) dX12_ropesTo_58 rfl kk) ?_
        refine ih (i + 1) _ _ (by omega) (by omega) (E_6) hmd ?_ (rin_s (nI_clamp (by omega)) hin ?_)
        · rw [nI_clamp (show 16 * i + b < 2 ^ 31 by omega)]
          exact ((hrg.trans (rg.i58 (by omega))).trans (rg.l56 (by omega))).trans (rg.l57 (by omega))
        · first
          | (rw [if_pos (nI_inj (by omega) (by omega) c_22)])
          | (rw [if_neg (fun z => c_22 (by rw [z]))])
set_option maxRecDepth 100000 in
set_option maxHeartbeats 4000000 in
theorem l2_X12_ropesTo {h : ai_H} {V0 : Md} {U : Nat → List Int} {n b : Nat} (hn : n ≤ 16) (hb : b < n) (hob0 : V0.1 2 = nI n) (hl : lrow U) (hm : mrow V0 U) {a : Nat} {p0 : Tl × Bool} {Q : Option Value → ai_H → Prop} (ha : a < n) (kx : ∀ (g : ai_H) (f : Int32) (p : Tl × Bool) (V : Md), md_ext h g → md_at g V → rg b V0 V → p = ro_r (ro_U U) a p0 n → f = b32 p.2 → ro_good (ro_U U) n b p.1 → p.1 b = some 0 → rcol V n b p.1 → rl0 V n b → ai_W MX12_ropesTo 118 [.ref 307, .int (nI b), .int f, .int (nI a), .int (nI n), .float 0, .float 0, .float 0, .float 0] [] g Q) : ∀ (m c : Nat) (f : Int32) (p : Tl × Bool) (g : ai_H) (V : Md), c ≤ n → n + 1 ≤ c + m → md_ext h g → md_at g V → rg b V0 V → p = ro_r (ro_U U) a p0 c → f = b32 p.2 → ro_good (ro_U U) n b p.1 → p.1 b = some 0 → rcol V n b p.1 → rl0 V n b → ai_W MX12_ropesTo 82 [.ref 307, .int (nI b), .int f, .int (nI a), .int (nI c), .float 0, .float 0, .float 0, .float 0] [] g Q := by
  intro m
  induction m with
  | zero => intro c f p g V h1 h2; exact absurd h2 (by omega)
  | succ m ih =>
    intro c f p g V hc0 him E0 hmd hrg hto hf hgd hd0 hcol hl0
    have hob : V.1 2 = nI n := by rw [hrg.1]; exact hob0
    refine wq (fun _ _ kk => rs_iload (pc := 82) dX12_ropesTo_82 rfl kk) ?_
    refine wq (fun _ _ kk => rs_aload_n (pc := 84) dX12_ropesTo_84 rfl kk) ?_
    refine wq (fun _ _ kk => rs_getf (pc := 85) dX12_ropesTo_85 fX12_188 (md_lt hmd (by decide)) hmd.2.1 rfl kk) ?_
    refine wq_br (fun _ _ kt kf => rs_icmp_ge (tgt := 118) (pc := 88) dX12_ropesTo_88 rfl kt kf) (fun c_88 => ?_) (fun c_88 => ?_)
    · have hce : c = n := lp_exit hob (by omega) hc0 c_88
      subst hce
      exact kx g f p V E0 hmd hrg hto hf hgd hd0 hcol hl0
    · have hc : c < n := lp_go hob (by omega) c_88
      refine wq (fun _ _ kk => rs_aload_n (pc := 91) dX12_ropesTo_91 rfl kk) ?_
      refine wq (fun _ _ kk => rs_iload_n (pc := 92) dX12_ropesTo_92 rfl kk) ?_
      refine wq (fun _ _ kk => rs_iload (pc := 93) dX12_ropesTo_93 rfl kk) ?_
      refine wq (fun _ _ kk => rs_iload_n (pc := 95) dX12_ropesTo_95 rfl kk) ?_
      obtain ⟨rv_96, hc_96, ⟨rfl, ee_96, W, hmd_96, hrg2, hcol2, h57, h59⟩, hm_96⟩ := c_X12_isShorter hl (hrg.mrow hm) hn hb hmd hgd hd0 hcol ha hc p.2
      refine wq (fun _ _ kk => rs_callV (as := [_, _, _]) (pc := 96) dX12_ropesTo_96 mk_X12_isShorter mlX12_438 in_X12_isShorter se_X12_isShorter rfl (md_lt hmd (by decide)) hmd.2.1 rfl rfl (Nat.le_of_ble_eq_true rfl) (hm_96) kk) ?_
      replace hmd := hmd_96
      have E_96 := (E0).trans ee_96
      refine wq_bn (fun _ _ kt kf => rs_if_ne (tgt := 106) (pc := 99) dX12_ropesTo_99 rfl kt kf) (fun c_99 => ?_) (fun c_99 => ?_)
      · refine wq (fun _ _ kk => rs_iconst (v := 1) (pc := 106) dX12_ropesTo_106 rfl kk) ?_
        refine wq (fun _ _ kk => rs_goto (tgt := 111) (pc := 107) dX12_ropesTo_107 rfl kk) ?_
        refine wq (fun _ _ kk => wk_istn2 (pc := 111) dX12_ropesTo_111 (by decide) rfl kk) ?_
        refine wq (fun _ _ kk => wk_iinc4 (v := nI (c + 1)) (pc := 112) dX12_ropesTo_112 (by decide) rfl (nI_1 c) kk) ?_
        refine wq (fun _ _ kk => rs_goto (tgt := 82) (pc := 115) dX12_ropesTo_115 rfl kk) ?_
        have hgd2 := (ro_to_s (g := b) (ro_32_pos (ro_U_32 U)) ha p c).2.1 hgd
        obtain ⟨u0, hu0, eu0⟩ := (ro_to_s (g := b) (ro_32_pos (ro_U_32 U)) ha p c).1 b 0 hd0
        have hd2 : (ro_s (ro_U U) a p c).1 b = some 0 := by rw [eu0, show u0 = 0 by omega]
        refine ih (c + 1) _ (ro_s (ro_U U) a p c) _ _ (by omega) (by omega) (E0.trans ee_96) hmd (hrg.trans hrg2) ?_ ?_ hgd2 hd2 hcol2 (fun x hx => by rw [h57]; exact hl0 x hx)
        · rw [hto]; rfl
        · rw [ro_s2]
          first
          | (have hq : ro_bt (ro_by (ro_U U) p.1 a c) (p.1 a) = false := by
               cases hb : ro_bt (ro_by (ro_U U) p.1 a c) (p.1 a) with
               | false => rfl
               | true => rw [hb] at c_99; exact absurd c_99 (by decide)
             rw [hq]
             cases hp : p.2 with
             | false => rw [hf, hp] at c_103; first | rfl | exact absurd rfl c_103
             | true => rw [hf, hp] at c_103; first | rfl | exact absurd c_103 (by decide))
          | (have hq : ro_bt (ro_by (ro_U U) p.1 a c) (p.1 a) = true := by
               cases hb : ro_bt (ro_by (ro_U U) p.1 a c) (p.1 a) with
               | true => rfl
               | false => rw [hb] at c_99; exact absurd rfl c_99
             rw [hq]
             rfl)
      · refine wq (fun _ _ kk => rs_iload_n (pc := 102) dX12_ropesTo_102 rfl kk) ?_
        refine wq_br (fun _ _ kt kf => rs_if_eq (tgt := 110) (pc := 103) dX12_ropesTo_103 rfl kt kf) (fun c_103 => ?_) (fun c_103 => ?_)
        · refine wq (fun _ _ kk => rs_iconst (v := 0) (pc := 110) dX12_ropesTo_110 rfl kk) ?_
          refine wq (fun _ _ kk => wk_istn2 (pc := 111) dX12_ropesTo_111 (by decide) rfl kk) ?_
          refine wq (fun _ _ kk => wk_iinc4 (v := nI (c + 1)) (pc := 112) dX12_ropesTo_112 (by decide) rfl (nI_1 c) kk) ?_
          refine wq (fun _ _ kk => rs_goto (tgt := 82) (pc := 115) dX12_ropesTo_115 rfl kk) ?_
          have hgd2 := (ro_to_s (g := b) (ro_32_pos (ro_U_32 U)) ha p c).2.1 hgd
          obtain ⟨u0, hu0, eu0⟩ := (ro_to_s (g := b) (ro_32_pos (ro_U_32 U)) ha p c).1 b 0 hd0
          have hd2 : (ro_s (ro_U U) a p c).1 b = some 0 := by rw [eu0, show u0 = 0 by omega]
          refine ih (c + 1) _ (ro_s (ro_U U) a p c) _ _ (by omega) (by omega) (E0.trans ee_96) hmd (hrg.trans hrg2) ?_ ?_ hgd2 hd2 hcol2 (fun x hx => by rw [h57]; exact hl0 x hx)
          · rw [hto]; rfl
          · rw [ro_s2]
            first
            | (have hq : ro_bt (ro_by (ro_U U) p.1 a c) (p.1 a) = false := by
                 cases hb : ro_bt (ro_by (ro_U U) p.1 a c) (p.1 a) with
                 | false => rfl
                 | true => rw [hb] at c_99; exact absurd c_99 (by decide)
               rw [hq]
               cases hp : p.2 with
               | false => rw [hf, hp] at c_103; first | rfl | exact absurd rfl c_103
               | true => rw [hf, hp] at c_103; first | rfl | exact absurd c_103 (by decide))
            | (have hq : ro_bt (ro_by (ro_U U) p.1 a c) (p.1 a) = true := by
                 cases hb : ro_bt (ro_by (ro_U U) p.1 a c) (p.1 a) with
                 | true => rfl
                 | false => rw [hb] at c_99; exact absurd rfl c_99
               rw [hq]
               rfl)
        · refine wq (fun _ _ kk => rs_iconst (v := 1) (pc := 106) dX12_ropesTo_106 rfl kk) ?_
          refine wq (fun _ _ kk => rs_goto (tgt := 111) (pc := 107) dX12_ropesTo_107 rfl kk) ?_
          refine wq (fun _ _ kk => wk_istn2 (pc := 111) dX12_ropesTo_111 (by decide) rfl kk) ?_
          refine wq (fun _ _ kk => wk_iinc4 (v := nI (c + 1)) (pc := 112) dX12_ropesTo_112 (by decide) rfl (nI_1 c) kk) ?_
          refine wq (fun _ _ kk => rs_goto (tgt := 82) (pc := 115) dX12_ropesTo_115 rfl kk) ?_
          have hgd2 := (ro_to_s (g := b) (ro_32_pos (ro_U_32 U)) ha p c).2.1 hgd
          obtain ⟨u0, hu0, eu0⟩ := (ro_to_s (g := b) (ro_32_pos (ro_U_32 U)) ha p c).1 b 0 hd0
          have hd2 : (ro_s (ro_U U) a p c).1 b = some 0 := by rw [eu0, show u0 = 0 by omega]
          refine ih (c + 1) _ (ro_s (ro_U U) a p c) _ _ (by omega) (by omega) (E0.trans ee_96) hmd (hrg.trans hrg2) ?_ ?_ hgd2 hd2 hcol2 (fun x hx => by rw [h57]; exact hl0 x hx)
          · rw [hto]; rfl
          · rw [ro_s2]
            first
            | (have hq : ro_bt (ro_by (ro_U U) p.1 a c) (p.1 a) = false := by
                 cases hb : ro_bt (ro_by (ro_U U) p.1 a c) (p.1 a) with
                 | false => rfl
                 | true => rw [hb] at c_99; exact absurd c_99 (by decide)
               rw [hq]
               cases hp : p.2 with
               | false => rw [hf, hp] at c_103; first | rfl | exact absurd rfl c_103
               | true => rw [hf, hp] at c_103; first | rfl | exact absurd c_103 (by decide))
            | (have hq : ro_bt (ro_by (ro_U U) p.1 a c) (p.1 a) = true := by
                 cases hb : ro_bt (ro_by (ro_U U) p.1 a c) (p.1 a) with
                 | true => rfl
                 | false => rw [hb] at c_99; exact absurd rfl c_99
               rw [hq]
               rfl)
set_option maxRecDepth 100000 in
set_option maxHeartbeats 4000000 in
theorem l3_X12_ropesTo {h : ai_H} {V0 : Md} {U : Nat → List Int} {n b : Nat} (hn : n ≤ 16) (hb : b < n) (hob0 : V0.1 2 = nI n) (hl : lrow U) (hm : mrow V0 U) {p0 : Tl × Bool} {Q : Option Value → ai_H → Prop} (kx : ∀ (g : ai_H) (f : Int32) (p : Tl × Bool) (u3 u4 : Value) (V : Md), md_ext h g → md_at g V → rg b V0 V → p = ro_p (ro_U U) n p0 n → f = b32 p.2 → ro_good (ro_U U) n b p.1 → p.1 b = some 0 → rcol V n b p.1 → rl0 V n b → ai_W MX12_ropesTo 124 [.ref 307, .int (nI b), .int f, u3, u4, .float 0, .float 0, .float 0, .float 0] [] g Q) : ∀ (m a : Nat) (f : Int32) (p : Tl × Bool) (u4 : Value) (g : ai_H) (V : Md), a ≤ n → n + 1 ≤ a + m → md_ext h g → md_at g V → rg b V0 V → p = ro_p (ro_U U) n p0 a → f = b32 p.2 → ro_good (ro_U U) n b p.1 → p.1 b = some 0 → rcol V n b p.1 → rl0 V n b → ai_W MX12_ropesTo 71 [.ref 307, .int (nI b), .int f, .int (nI a), u4, .float 0, .float 0, .float 0, .float 0] [] g Q := by
  intro m
  induction m with
  | zero => intro a f p u4 g V h1 h2; exact absurd h2 (by omega)
  | succ m ih =>
    intro a f p u4 g V ha0 him E0 hmd hrg hto hf hgd hd0 hcol hl0
    have hob : V.1 2 = nI n := by rw [hrg.1]; exact hob0
    refine wq (fun _ _ kk => rs_iload_n (pc := 71) dX12_ropesTo_71 rfl kk) ?_
    refine wq (fun _ _ kk => rs_aload_n (pc := 72) dX12_ropesTo_72 rfl kk) ?_
    refine wq (fun _ _ kk => rs_getf (pc := 73) dX12_ropesTo_73 fX12_188 (md_lt hmd (by decide)) hmd.2.1 rfl kk) ?_
    refine wq_br (fun _ _ kt kf => rs_icmp_ge (tgt := 124) (pc := 76) dX12_ropesTo_76 rfl kt kf) (fun c_76 => ?_) (fun c_76 => ?_)
    · have hae : a = n := lp_exit hob (by omega) ha0 c_76
      subst hae
      exact kx g f p _ _ V E0 hmd hrg hto hf hgd hd0 hcol hl0
    · have ha : a < n := lp_go hob (by omega) c_76
      refine wq (fun _ _ kk => rs_iconst (v := 0) (pc := 79) dX12_ropesTo_79 rfl kk) ?_
      refine wq (fun _ _ kk => wk_ist4 (pc := 80) dX12_ropesTo_80 (by decide) rfl kk) ?_
      refine l2_X12_ropesTo (h := h) (V0 := V0) (a := a) (p0 := p) hn hb hob0 hl hm ha (fun g f p' V E0 hmd hrg hto' hf hgd hd0 hcol hl0 => ?_) (n + 1) 0 f p _ _ (by omega) (by omega) E0 hmd hrg rfl hf hgd hd0 hcol hl0
      refine wq (fun _ _ kk => wk_iinc3 (v := nI (a + 1)) (pc := 118) dX12_ropesTo_118 (by decide) rfl (nI_1 a) kk) ?_
      refine wq (fun _ _ kk => rs_goto (tgt := 71) (pc := 121) dX12_ropesTo_121 rfl kk) ?_
      exact ih (a + 1) f p' _ _ _ (by omega) (by omega) E0 hmd hrg (by rw [hto', hto]; rfl) hf hgd hd0 hcol hl0
set_option maxRecDepth 100000 in
set_option maxHeartbeats 4000000 in
theorem l4_X12_ropesTo {h : ai_H} {V0 : Md} {U : Nat → List Int} {n b : Nat} (hn : n ≤ 16) (hb : b < n) (hob0 : V0.1 2 = nI n) (hl : lrow U) (hm : mrow V0 U) {Q : Option Value → ai_H → Prop} (kx : ∀ (g : ai_H) (u3 u4 : Value) (V : Md), md_ext h g → md_at g V → rg b V0 V → rcol V n b (ro_end (ro_U U) n b) → rl0 V n b → ai_W MX12_ropesTo 127 [.ref 307, .int (nI b), .int 0, u3, u4, .float 0, .float 0, .float 0, .float 0] [] g Q) : ∀ (m k : Nat) (f : Int32) (u3 u4 : Value) (g : ai_H) (V : Md), k ≤ n → n + 1 ≤ k + m → md_ext h g → md_at g V → rg b V0 V → ro_good (ro_U U) n b (ro_it (ro_U U) n (ro_0 b) k) → ro_it (ro_U U) n (ro_0 b) k b = some 0 → rcol V n b (ro_it (ro_U U) n (ro_0 b) k) → rl0 V n b → (f = 0 → ro_p (ro_U U) n (ro_it (ro_U U) n (ro_0 b) k, false) n = (ro_it (ro_U U) n (ro_0 b) k, false)) → (¬ f = 0 → k < n) → ai_W MX12_ropesTo 63 [.ref 307, .int (nI b), .int f, u3, u4, .float 0, .float 0, .float 0, .float 0] [] g Q := by
  intro m
  induction m with
  | zero => intro k f u3 u4 g V h1 h2; exact absurd h2 (by omega)
  | succ m ih =>
    intro k f u3 u4 g V hk0 him E0 hmd hrg hgd hd0 hcol hl0 hst hgo
    have hob : V.1 2 = nI n := by rw [hrg.1]; exact hob0
    refine wq (fun _ _ kk => rs_iload_n (pc := 63) dX12_ropesTo_63 rfl kk) ?_
    refine wq_br (fun _ _ kt kf => rs_if_eq (tgt := 127) (pc := 64) dX12_ropesTo_64 rfl kt kf) (fun c_64 => ?_) (fun c_64 => ?_)
    · have e := hst c_64
      rw [c_64]
      refine kx g _ _ V E0 hmd hrg ?_ hl0
      rw [← ro_end_of e (by omega)]
      exact hcol
    · have hk : k < n := hgo c_64
      refine wq (fun _ _ kk => rs_iconst (v := 0) (pc := 67) dX12_ropesTo_67 rfl kk) ?_
      refine wq (fun _ _ kk => wk_istn2 (pc := 68) dX12_ropesTo_68 (by decide) rfl kk) ?_
      refine wq (fun _ _ kk => rs_iconst (v := 0) (pc := 69) dX12_ropesTo_69 rfl kk) ?_
      refine wq (fun _ _ kk => wk_istn3 (pc := 70) dX12_ropesTo_70 (by decide) rfl kk) ?_
      refine l3_X12_ropesTo (h := h) (V0 := V0) (p0 := (ro_it (ro_U U) n (ro_0 b) k, false)) hn hb hob0 hl hm (fun g f p u3 u4 V E0 hmd hrg hto hf hgd hd0 hcol hl0 => ?_) (n + 1) 0 0 (ro_it (ro_U U) n (ro_0 b) k, false) _ _ _ (by omega) (by omega) E0 hmd hrg rfl rfl hgd hd0 hcol hl0
      refine wq (fun _ _ kk => rs_goto (tgt := 63) (pc := 124) dX12_ropesTo_124 rfl kk) ?_
      have ep : p.1 = ro_it (ro_U U) n (ro_0 b) (k + 1) := by rw [hto]; rfl
      have ht := ro_to_p2 (g := b) (ro_32_pos (ro_U_32 U)) (ro_it (ro_U U) n (ro_0 b) k, false) (Nat.zero_le n) (Nat.le_refl n)
      refine ih (k + 1) f _ _ _ _ (by omega) (by omega) E0 hmd hrg (by rw [← ep]; exact hgd) (by rw [← ep]; exact hd0) (by rw [← ep]; exact hcol) hl0 (fun hz => ?_) (fun hz => ?_)
      · cases ht.2.2 with
        | inl q =>
          have e : ro_it (ro_U U) n (ro_0 b) (k + 1) = ro_it (ro_U U) n (ro_0 b) k := by
            show (ro_p (ro_U U) n (ro_it (ro_U U) n (ro_0 b) k, false) n).1 = _
            rw [q]; rfl
          rw [e]
          exact q
        | inr q => rw [hf, hto, q.1] at hz; exact absurd hz (by decide)
      · rcases Nat.lt_or_ge (k + 1) n with hlt | hge
        · exact hlt
        · rw [hf, hto, ro_still (ro_32_pos (ro_U_32 U)) hb hge] at hz
          exact absurd rfl hz
