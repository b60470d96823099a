/-! 45: longitude (walks laid by wip/whole/p45.py) -/
theorem lst_skip {α : Type} {p : Nat → Bool} {f : Nat → α} {i j : Nat} (hij : i ≤ j) (h : ∀ k, i ≤ k → k < j → p k = false) : lst p f j = lst p f i := by
  induction hij with
  | refl => rfl
  | step hm ih =>
    rw [lst, if_neg (by rw [h _ (by omega) (by omega)]; decide)]
    exact ih (fun k h1 h2 => h k h1 (by omega))
def zle (U : Nat → List Int) (n b x : Nat) : Int := match ro_end (ro_U U) n b x with
  | none => 0
  | some v => zl U (ro_pt (ro_U U) n b x) (v % 32)
theorem rle_zle (U : Nat → List Int) (n b x : Nat) : rle U n b x = aL (zle U n b x) := by
  unfold rle zle
  cases ro_end (ro_U U) n b x <;> rfl
theorem zl_b {U : Nat → List Int} (hl : lrow U) {p : Nat → Nat} : ∀ L, (∀ i, i < L → p i < 16 ∧ p (i + 1) < 16 ∧ U (p i * 16 + p (i + 1)) ≠ []) → -(20394000 * (L : Int)) ≤ zl U p L ∧ zl U p L ≤ 20394000 * (L : Int) := by
  intro L
  induction L with
  | zero => intro _; simp [zl]
  | succ L ih =>
    intro h
    have h1 := ih (fun i hi => h i (by omega))
    obtain ⟨a, b, c⟩ := h L (by omega)
    have h2 := zm_b hl (show p L * 16 + p (L + 1) < 256 by omega) c
    rw [zl]
    omega
theorem zle_b {U : Nat → List Int} (hl : lrow U) {n b x : Nat} (hn : n ≤ 16) (hb : b < n) : -326304000 ≤ zle U n b x ∧ zle U n b x ≤ 326304000 := by
  unfold zle
  cases hq : ro_end (ro_U U) n b x with
  | none => exact ⟨by show (-326304000 : Int) ≤ 0; decide, by show (0 : Int) ≤ 326304000; decide⟩
  | some v =>
    have h1 := zl_b hl (v % 32) (ro_pt_ne hn hb hq)
    have h2 := (ro_good_li (ro_U_32 U) hn (ro_end_good (ro_32_pos (ro_U_32 U)) hb) hq).1
    show -326304000 ≤ zl U _ (v % 32) ∧ zl U _ (v % 32) ≤ _
    omega
def zmn (B : Bk) (wk : Int32) (k : (Int32 × Int32 × Int32) × Int32) : Int := 1000 * zs B wk k.1 k.2 / (zc B wk k.1 k.2 : Int)
theorem zmn_b {B : Bk} {ln : Nat} (hok : bk_ok B ln) {wk : Int32} {k : (Int32 × Int32 × Int32) × Int32} (h : 0 < zc B wk k.1 k.2) : -10197000 ≤ zmn B wk k ∧ zmn B wk k ≤ 10197000 := by
  have h1 := zs_b hok wk k.1 k.2
  unfold zmn
  refine ⟨?_, ?_⟩
  · apply Int.le_ediv_of_mul_le (by omega)
    omega
  · apply Int.le_of_lt_add_one
    apply Int.ediv_lt_of_lt_mul (by omega)
    omega
/-- two SIGHTS in two houses that are compared -/
def lgQ (B : Bk) (wk : Int32) (U : Nat → List Int) (g h : Int32) (k : ((Int32 × Int32 × Int32) × Int32) × ((Int32 × Int32 × Int32) × Int32)) : Bool := decide (0 < zc B wk k.1.1 k.1.2 ∧ 0 < zc B wk k.2.1 k.2.2 ∧ ¬ k.1.1.2.2 = 3 ∧ bk_nat B k.1.1.1 0 = g ∧ k.2.1.2.1 = k.1.1.2.1 ∧ k.2.1.2.2 = k.1.1.2.2 ∧ bk_nat B k.2.1.1 0 = h ∧ bk_nat B k.2.1.1 1 = bk_nat B k.1.1.1 1 ∧ ¬ ro_end (ro_U U) (nO B) k.1.2.toNatClampNeg k.2.2.toNatClampNeg = none)
def lgV (B : Bk) (wk : Int32) (U : Nat → List Int) (k : ((Int32 × Int32 × Int32) × Int32) × ((Int32 × Int32 × Int32) × Int32)) : Int := zmn B wk k.2 - zmn B wk k.1 - zle U (nO B) k.1.2.toNatClampNeg k.2.2.toNatClampNeg
def lgI (z a c i : Nat) : Nat := (a * z + c) * z + i
def kL (S : Md) (z t : Nat) : ((Int32 × Int32 × Int32) × Int32) × ((Int32 × Int32 × Int32) × Int32) := (kP S (t / z % z), kP S (t % z))
theorem lgI_de {z a c i : Nat} (hc : c < z) (hi : i < z) : lgI z a c i % z = i ∧ lgI z a c i / z % z = c ∧ lgI z a c i / z / z = a := by
  unfold lgI
  obtain ⟨p3, p4⟩ := pair_mk (i := a * z + c) hi
  obtain ⟨p5, p6⟩ := pair_mk (i := a) hc
  rw [p3, p4, p5, p6]
  exact ⟨rfl, rfl, rfl⟩
theorem kL_at {S : Md} {z a c i : Nat} (hc : c < z) (hi : i < z) : kL S z (lgI z a c i) = (kP S c, kP S i) := by
  obtain ⟨p1, p2, p3⟩ := lgI_de (a := a) hc hi
  unfold kL
  rw [p1, p2]
/-- the two at t are compared, and the first is the one's whose turn it is -/
def lgP (B : Bk) (wk : Int32) (U : Nat → List Int) (g h : Int32) (S : Md) (z t : Nat) : Bool := decide (S.2.2.1 7 (t / z % z) = nI (t / z / z)) && lgQ B wk U g h (kL S z t)
theorem lgP_at {B : Bk} {wk : Int32} {U : Nat → List Int} {g h : Int32} {S : Md} {z a c i : Nat} (hc : c < z) (hi : i < z) : lgP B wk U g h S z (lgI z a c i) = (decide (S.2.2.1 7 c = nI a) && lgQ B wk U g h (kP S c, kP S i)) := by
  obtain ⟨p1, p2, p3⟩ := lgI_de (a := a) hc hi
  unfold lgP
  rw [kL_at hc hi, p2, p3]
def LC (B : Bk) (wk : Int32) (U : Nat → List Int) (g h : Int32) (S : Md) (z t : Nat) : List (((Int32 × Int32 × Int32) × Int32) × ((Int32 × Int32 × Int32) × Int32)) := lst (lgP B wk U g h S z) (kL S z) t
theorem zc_obs {B : Bk} {ln : Nat} (hok : bk_ok B ln) {wk : Int32} {K : Int32 × Int32 × Int32} {o : Int32} (h : 0 < zc B wk K o) : (∃ a, a < nO B ∧ o = nI a) ∧ ∃ n, n < nN B ∧ K.1 = nI n := by
  obtain ⟨k, k1, k2, k3⟩ := zc_ex h
  obtain ⟨r1, r2, -, -, -, -, r3, r4, -⟩ := hok.2.2.2.2.1.2.2 k k1
  rw [k3.1] at r3 r4
  rw [k3.2.1] at r1 r2
  exact ⟨i32_ex r3 r4, i32_ex r1 r2⟩
def LD (B : Bk) (wk : Int32) (U : Nat → List Int) (g h : Int32) (T : Md) (q t : Nat) : List (((Int32 × Int32 × Int32) × Int32) × ((Int32 × Int32 × Int32) × Int32)) := lst (fun t => lgQ B wk U g h (kT T (t / q), kT T (t % q))) (fun t => (kT T (t / q), kT T (t % q))) t
/-- the tally holds this list -/
def tcL (B : Bk) (wk : Int32) (U : Nat → List Int) (t : Ty) (L : List (((Int32 × Int32 × Int32) × Int32) × ((Int32 × Int32 × Int32) × Int32))) : Prop := t.1 = nI L.length ∧ t.2.1 = aL (zsum (L.map (lgV B wk U)))
theorem tcL_add {B : Bk} {wk : Int32} {U : Nat → List Int} {t : Ty} {L : List (((Int32 × Int32 × Int32) × Int32) × ((Int32 × Int32 × Int32) × Int32))} {k : ((Int32 × Int32 × Int32) × Int32) × ((Int32 × Int32 × Int32) × Int32)} {x : Int64} (h : tcL B wk U t L) (hx : x = aL (lgV B wk U k)) : tcL B wk U (ty_add t x) (k :: L) := by
  refine ⟨?_, ?_⟩
  · show t.1 + 1 = _
    rw [h.1, nI_1]; rfl
  · show t.2.1 + x = _
    rw [h.2, hx, aL_add, List.map_cons, zsum_cons, Int.add_comm]
theorem q_add {h : ai_H} {tb lm : Int32} {t : Ty} (hx : x_at h tb lm) (htl : h.2.2 306 = ty_cell t) (x : Int64) : ai_QM MX9_add [.ref 306, .long x] h (fun r g => r = none ∧ fr 306 306 h g ∧ g.2.2 306 = ty_cell (ty_add t x)) :=
  ⟨none, ai_set h 306 (ty_cell (ty_add t x)), ⟨rfl, ⟨rfl, rfl, fun j hj => ai_set_ne (by omega)⟩, ai_set_get⟩, c_X9_add (x_lt hx (by decide)) htl x⟩
theorem q_clear {h : ai_H} {tb lm : Int32} {t : Ty} (hx : x_at h tb lm) (htl : h.2.2 306 = ty_cell t) : ai_QM MX9_clear [.ref 306] h (fun r g => r = none ∧ fr 306 306 h g ∧ g.2.2 306 = ty_cell (0, 0, 0, 0)) :=
  ⟨none, ai_set h 306 (ty_cell (0, 0, 0, 0)), ⟨rfl, ⟨rfl, rfl, fun j hj => ai_set_ne (by omega)⟩, ai_set_get⟩, c_X9_clear (x_lt hx (by decide)) htl⟩
theorem cl_mean_at {B : Bk} {ln : Nat} (hok : bk_ok B ln) {wk : Int32} {S : Md} {z c : Nat} (hG : GI B wk S (nR B) z) (hc : c < z) : cl_mean S (nI c) = aL (zmn B wk (kP S c)) := by
  obtain ⟨e1, e2⟩ := cl_at_cell hG hc
  have h1 := zs_b hok wk (kC S c) (S.2.2.1 7 c)
  have h2 := zc_le B hok wk (kC S c) (S.2.2.1 7 c)
  have h3 := cell_pos hG hc
  have hz4 := hG.1.2.1
  unfold cl_mean
  rw [has_1 hG.1.1 hz4 hc, if_neg (by decide), nI_clamp (by omega), e1, e2, if_neg (by rw [i32_le0 (by omega)]; omega), nI_i2l (by omega), aI_i2l (by omega) (by omega), show (1000 : Int64) = aL 1000 from rfl, aL_mul, aL_fd (by omega) (by omega) (by omega) (by omega)]
  rfl
theorem cl_sz_of {B : Bk} {wk : Int32} {S : Md} {z : Nat} (hG : GI B wk S (nR B) z) : cl_sz S := hG.1.sz
theorem dX11_isOfHouse_0 : decode cX11_isOfHouse 0 = .ok (.aload_n 0, 1) := by decide +kernel
theorem dX11_isOfHouse_1 : decode cX11_isOfHouse 1 = .ok (.getfield 58, 3) := by decide +kernel
theorem dX11_isOfHouse_4 : decode cX11_isOfHouse 4 = .ok (.iload_n 1, 1) := by decide +kernel
theorem dX11_isOfHouse_5 : decode cX11_isOfHouse 5 = .ok (.invokevirtual 358, 3) := by decide +kernel
theorem dX11_isOfHouse_8 : decode cX11_isOfHouse 8 = .ok (.ifCond .ne 31, 3) := by decide +kernel
theorem dX11_isOfHouse_11 : decode cX11_isOfHouse 11 = .ok (.aload_n 0, 1) := by decide +kernel
theorem dX11_isOfHouse_12 : decode cX11_isOfHouse 12 = .ok (.getfield 10, 3) := by decide +kernel
theorem dX11_isOfHouse_15 : decode cX11_isOfHouse 15 = .ok (.getfield 128, 3) := by decide +kernel
theorem dX11_isOfHouse_18 : decode cX11_isOfHouse 18 = .ok (.aload_n 0, 1) := by decide +kernel
theorem dX11_isOfHouse_19 : decode cX11_isOfHouse 19 = .ok (.getfield 58, 3) := by decide +kernel
theorem dX11_isOfHouse_22 : decode cX11_isOfHouse 22 = .ok (.getfield 361, 3) := by decide +kernel
theorem dX11_isOfHouse_25 : decode cX11_isOfHouse 25 = .ok (.iload_n 1, 1) := by decide +kernel
theorem dX11_isOfHouse_26 : decode cX11_isOfHouse 26 = .ok (.iaload, 1) := by decide +kernel
theorem dX11_isOfHouse_27 : decode cX11_isOfHouse 27 = .ok (.iconst 0, 1) := by decide +kernel
theorem dX11_isOfHouse_28 : decode cX11_isOfHouse 28 = .ok (.invokevirtual 141, 3) := by decide +kernel
theorem dX11_isOfHouse_31 : decode cX11_isOfHouse 31 = .ok (.iload_n 2, 1) := by decide +kernel
theorem dX11_isOfHouse_32 : decode cX11_isOfHouse 32 = .ok (.if_icmp .ne 7, 3) := by decide +kernel
theorem dX11_isOfHouse_35 : decode cX11_isOfHouse 35 = .ok (.iconst 1, 1) := by decide +kernel
theorem dX11_isOfHouse_36 : decode cX11_isOfHouse 36 = .ok (.goto 4, 3) := by decide +kernel
theorem dX11_isOfHouse_39 : decode cX11_isOfHouse 39 = .ok (.iconst 0, 1) := by decide +kernel
theorem dX11_isOfHouse_40 : decode cX11_isOfHouse 40 = .ok (.ireturn, 1) := by decide +kernel
set_option maxRecDepth 100000 in
set_option maxHeartbeats 4000000 in
theorem c_X11_isOfHouse {h : ai_H} {tb lm : Int32} {B : Bk} {S : Md} (hx : x_at h tb lm) (hB : bk_at h 1 B) (hcl : cl_at h S) {z c : Nat} (hch : cl_ch S z) (hc : c < z) (g : Int32) : ai_Met MX11_isOfHouse [.ref 0, .int (nI c), .int g] h (some (.int (b32 (decide (¬ (kC S c).2.2 = 3 ∧ bk_nat B (kC S c).1 0 = g))))) h := by
  have hz4 := hch.2.1
  refine ai_met (ls := [.ref 0, .int (nI c), .int g]) (by decide) (by simp [ai_en, Value.category]) (by rfl) ?_
  refine rs_aload_n (pc := 0) dX11_isOfHouse_0 rfl ?_
  refine rs_getf (pc := 1) dX11_isOfHouse_1 fX11_58 (x_lt hx (by decide)) hx.2 rfl ?_
  refine rs_iload_n (pc := 4) dX11_isOfHouse_4 rfl ?_
  refine rs_callV (as := [_]) (pc := 5) dX11_isOfHouse_5 mk_X2_isFeigned mlX11_358 in_X2_isFeigned se_X2_isFeigned rfl (mo_lt hcl (by decide)) hcl.2.1 rfl rfl (Nat.le_of_ble_eq_true rfl) (c_X2_isFeigned hcl hch.sz _) ?_
  rw [fg_at hch hc]
  refine rs_if_ne (tgt := 39) (pc := 8) dX11_isOfHouse_8 rfl (fun c_8 => ?_) (fun c_8 => ?_)
  · rw [ite10, Classical.not_not] at c_8
    refine rs_iconst (v := 0) (pc := 39) dX11_isOfHouse_39 rfl ?_
    exact wk_zret (pc := 40) dX11_isOfHouse_40 rfl (Or.inl rfl) (by simp [b32, kC, bk_nat, c_8]) (rfl)
  · rw [ite10] at c_8
    refine rs_aload_n (pc := 11) dX11_isOfHouse_11 rfl ?_
    refine rs_getf (pc := 12) dX11_isOfHouse_12 fX11_10 (x_lt hx (by decide)) hx.2 rfl ?_
    refine rs_getf (pc := 15) dX11_isOfHouse_15 fX11_128 (bk_lt hB (by decide)) hB.2.1 rfl ?_
    refine rs_aload_n (pc := 18) dX11_isOfHouse_18 rfl ?_
    refine rs_getf (pc := 19) dX11_isOfHouse_19 fX11_58 (x_lt hx (by decide)) hx.2 rfl ?_
    refine rs_getf (pc := 22) dX11_isOfHouse_22 fX11_361 (mo_lt hcl (by decide)) hcl.2.1 rfl ?_
    refine rs_iload_n (pc := 25) dX11_isOfHouse_25 rfl ?_
    refine rs_iald (pc := 26) dX11_isOfHouse_26 (mo_lt hcl (by decide)) (mo_geti (d := 3) (k := 4) (kd := 0) (l := 400) rfl (by decide) hcl) (vp_in_nI (n := c) (N := 400) (by omega) (by decide)) ?_
    rw [nI_clamp (show c < 2 ^ 31 by omega)]
    refine rs_iconst (v := 0) (pc := 27) dX11_isOfHouse_27 rfl ?_
    refine rs_callV (as := [_, _]) (pc := 28) dX11_isOfHouse_28 mk_X8_at mlX11_141 in_X8_at se_X8_at rfl (bk_lt hB (by decide)) hB.2.2.2.2.1.1 rfl rfl (Nat.le_of_ble_eq_true rfl) (c_X8_at (bk_lt hB (by decide)) hB.2.2.2.2.1.1 (bk_lt hB (by decide)) hB.2.2.2.2.1.2.1 hB.2.2.2.2.1.2.2 _ _) ?_
    refine rs_iload_n (pc := 31) dX11_isOfHouse_31 rfl ?_
    refine rs_icmp_ne (tgt := 39) (pc := 32) dX11_isOfHouse_32 rfl (fun c_32 => ?_) (fun c_32 => ?_)
    · refine rs_iconst (v := 0) (pc := 39) dX11_isOfHouse_39 rfl ?_
      exact wk_zret (pc := 40) dX11_isOfHouse_40 rfl (Or.inl rfl) (by simp [b32, kC, bk_nat, c_8, c_32]) (rfl)
    · refine rs_iconst (v := 1) (pc := 35) dX11_isOfHouse_35 rfl ?_
      refine rs_goto (tgt := 40) (pc := 36) dX11_isOfHouse_36 rfl ?_
      exact wk_zret (pc := 40) dX11_isOfHouse_40 rfl (Or.inr rfl) (by simp [b32, kC, bk_nat, c_8, c_32]) (rfl)
theorem dX11_tallyAcross_0 : decode cX11_tallyAcross 0 = .ok (.aload_n 0, 1) := by decide +kernel
theorem dX11_tallyAcross_1 : decode cX11_tallyAcross 1 = .ok (.getfield 10, 3) := by decide +kernel
theorem dX11_tallyAcross_4 : decode cX11_tallyAcross 4 = .ok (.getfield 128, 3) := by decide +kernel
theorem dX11_tallyAcross_7 : decode cX11_tallyAcross 7 = .ok (.aload_n 0, 1) := by decide +kernel
theorem dX11_tallyAcross_8 : decode cX11_tallyAcross 8 = .ok (.getfield 58, 3) := by decide +kernel
theorem dX11_tallyAcross_11 : decode cX11_tallyAcross 11 = .ok (.getfield 361, 3) := by decide +kernel
theorem dX11_tallyAcross_14 : decode cX11_tallyAcross 14 = .ok (.iload_n 1, 1) := by decide +kernel
theorem dX11_tallyAcross_15 : decode cX11_tallyAcross 15 = .ok (.iaload, 1) := by decide +kernel
theorem dX11_tallyAcross_16 : decode cX11_tallyAcross 16 = .ok (.iconst 1, 1) := by decide +kernel
theorem dX11_tallyAcross_17 : decode cX11_tallyAcross 17 = .ok (.invokevirtual 141, 3) := by decide +kernel
theorem dX11_tallyAcross_20 : decode cX11_tallyAcross 20 = .ok (.istore_n 3, 1) := by decide +kernel
theorem dX11_tallyAcross_21 : decode cX11_tallyAcross 21 = .ok (.iconst 0, 1) := by decide +kernel
theorem dX11_tallyAcross_22 : decode cX11_tallyAcross 22 = .ok (.istore 4, 2) := by decide +kernel
theorem dX11_tallyAcross_24 : decode cX11_tallyAcross 24 = .ok (.iload 4, 2) := by decide +kernel
theorem dX11_tallyAcross_26 : decode cX11_tallyAcross 26 = .ok (.aload_n 0, 1) := by decide +kernel
theorem dX11_tallyAcross_27 : decode cX11_tallyAcross 27 = .ok (.getfield 58, 3) := by decide +kernel
theorem dX11_tallyAcross_30 : decode cX11_tallyAcross 30 = .ok (.getfield 348, 3) := by decide +kernel
theorem dX11_tallyAcross_33 : decode cX11_tallyAcross 33 = .ok (.if_icmp .ge 159, 3) := by decide +kernel
theorem dX11_tallyAcross_36 : decode cX11_tallyAcross 36 = .ok (.aload_n 0, 1) := by decide +kernel
theorem dX11_tallyAcross_37 : decode cX11_tallyAcross 37 = .ok (.getfield 58, 3) := by decide +kernel
theorem dX11_tallyAcross_40 : decode cX11_tallyAcross 40 = .ok (.getfield 364, 3) := by decide +kernel
theorem dX11_tallyAcross_43 : decode cX11_tallyAcross 43 = .ok (.iload 4, 2) := by decide +kernel
theorem dX11_tallyAcross_45 : decode cX11_tallyAcross 45 = .ok (.iaload, 1) := by decide +kernel
theorem dX11_tallyAcross_46 : decode cX11_tallyAcross 46 = .ok (.aload_n 0, 1) := by decide +kernel
theorem dX11_tallyAcross_47 : decode cX11_tallyAcross 47 = .ok (.getfield 58, 3) := by decide +kernel
theorem dX11_tallyAcross_50 : decode cX11_tallyAcross 50 = .ok (.getfield 364, 3) := by decide +kernel
theorem dX11_tallyAcross_53 : decode cX11_tallyAcross 53 = .ok (.iload_n 1, 1) := by decide +kernel
theorem dX11_tallyAcross_54 : decode cX11_tallyAcross 54 = .ok (.iaload, 1) := by decide +kernel
theorem dX11_tallyAcross_55 : decode cX11_tallyAcross 55 = .ok (.if_icmp .ne 29, 3) := by decide +kernel
theorem dX11_tallyAcross_58 : decode cX11_tallyAcross 58 = .ok (.aload_n 0, 1) := by decide +kernel
theorem dX11_tallyAcross_59 : decode cX11_tallyAcross 59 = .ok (.getfield 58, 3) := by decide +kernel
theorem dX11_tallyAcross_62 : decode cX11_tallyAcross 62 = .ok (.getfield 367, 3) := by decide +kernel
theorem dX11_tallyAcross_65 : decode cX11_tallyAcross 65 = .ok (.iload 4, 2) := by decide +kernel
theorem dX11_tallyAcross_67 : decode cX11_tallyAcross 67 = .ok (.iaload, 1) := by decide +kernel
theorem dX11_tallyAcross_68 : decode cX11_tallyAcross 68 = .ok (.aload_n 0, 1) := by decide +kernel
theorem dX11_tallyAcross_69 : decode cX11_tallyAcross 69 = .ok (.getfield 58, 3) := by decide +kernel
theorem dX11_tallyAcross_72 : decode cX11_tallyAcross 72 = .ok (.getfield 367, 3) := by decide +kernel
theorem dX11_tallyAcross_75 : decode cX11_tallyAcross 75 = .ok (.iload_n 1, 1) := by decide +kernel
theorem dX11_tallyAcross_76 : decode cX11_tallyAcross 76 = .ok (.iaload, 1) := by decide +kernel
theorem dX11_tallyAcross_77 : decode cX11_tallyAcross 77 = .ok (.if_icmp .ne 7, 3) := by decide +kernel
theorem dX11_tallyAcross_80 : decode cX11_tallyAcross 80 = .ok (.iconst 1, 1) := by decide +kernel
theorem dX11_tallyAcross_81 : decode cX11_tallyAcross 81 = .ok (.goto 4, 3) := by decide +kernel
theorem dX11_tallyAcross_84 : decode cX11_tallyAcross 84 = .ok (.iconst 0, 1) := by decide +kernel
theorem dX11_tallyAcross_85 : decode cX11_tallyAcross 85 = .ok (.istore 5, 2) := by decide +kernel
theorem dX11_tallyAcross_87 : decode cX11_tallyAcross 87 = .ok (.aload_n 0, 1) := by decide +kernel
theorem dX11_tallyAcross_88 : decode cX11_tallyAcross 88 = .ok (.getfield 58, 3) := by decide +kernel
theorem dX11_tallyAcross_91 : decode cX11_tallyAcross 91 = .ok (.getfield 370, 3) := by decide +kernel
theorem dX11_tallyAcross_94 : decode cX11_tallyAcross 94 = .ok (.iload 4, 2) := by decide +kernel
theorem dX11_tallyAcross_96 : decode cX11_tallyAcross 96 = .ok (.iaload, 1) := by decide +kernel
theorem dX11_tallyAcross_97 : decode cX11_tallyAcross 97 = .ok (.istore 6, 2) := by decide +kernel
theorem dX11_tallyAcross_99 : decode cX11_tallyAcross 99 = .ok (.iload 5, 2) := by decide +kernel
theorem dX11_tallyAcross_101 : decode cX11_tallyAcross 101 = .ok (.ifCond .eq 85, 3) := by decide +kernel
theorem dX11_tallyAcross_104 : decode cX11_tallyAcross 104 = .ok (.aload_n 0, 1) := by decide +kernel
theorem dX11_tallyAcross_105 : decode cX11_tallyAcross 105 = .ok (.iload 4, 2) := by decide +kernel
theorem dX11_tallyAcross_107 : decode cX11_tallyAcross 107 = .ok (.iload_n 2, 1) := by decide +kernel
theorem dX11_tallyAcross_108 : decode cX11_tallyAcross 108 = .ok (.invokevirtual 352, 3) := by decide +kernel
theorem dX11_tallyAcross_111 : decode cX11_tallyAcross 111 = .ok (.ifCond .eq 75, 3) := by decide +kernel
theorem dX11_tallyAcross_114 : decode cX11_tallyAcross 114 = .ok (.aload_n 0, 1) := by decide +kernel
theorem dX11_tallyAcross_115 : decode cX11_tallyAcross 115 = .ok (.getfield 10, 3) := by decide +kernel
theorem dX11_tallyAcross_118 : decode cX11_tallyAcross 118 = .ok (.getfield 128, 3) := by decide +kernel
theorem dX11_tallyAcross_121 : decode cX11_tallyAcross 121 = .ok (.aload_n 0, 1) := by decide +kernel
theorem dX11_tallyAcross_122 : decode cX11_tallyAcross 122 = .ok (.getfield 58, 3) := by decide +kernel
theorem dX11_tallyAcross_125 : decode cX11_tallyAcross 125 = .ok (.getfield 361, 3) := by decide +kernel
theorem dX11_tallyAcross_128 : decode cX11_tallyAcross 128 = .ok (.iload 4, 2) := by decide +kernel
theorem dX11_tallyAcross_130 : decode cX11_tallyAcross 130 = .ok (.iaload, 1) := by decide +kernel
theorem dX11_tallyAcross_131 : decode cX11_tallyAcross 131 = .ok (.iconst 1, 1) := by decide +kernel
theorem dX11_tallyAcross_132 : decode cX11_tallyAcross 132 = .ok (.invokevirtual 141, 3) := by decide +kernel
theorem dX11_tallyAcross_135 : decode cX11_tallyAcross 135 = .ok (.iload_n 3, 1) := by decide +kernel
theorem dX11_tallyAcross_136 : decode cX11_tallyAcross 136 = .ok (.if_icmp .ne 50, 3) := by decide +kernel
theorem dX11_tallyAcross_139 : decode cX11_tallyAcross 139 = .ok (.aload_n 0, 1) := by decide +kernel
theorem dX11_tallyAcross_140 : decode cX11_tallyAcross 140 = .ok (.getfield 72, 3) := by decide +kernel
theorem dX11_tallyAcross_143 : decode cX11_tallyAcross 143 = .ok (.iload 6, 2) := by decide +kernel
theorem dX11_tallyAcross_145 : decode cX11_tallyAcross 145 = .ok (.invokevirtual 208, 3) := by decide +kernel
theorem dX11_tallyAcross_148 : decode cX11_tallyAcross 148 = .ok (.ifCond .eq 38, 3) := by decide +kernel
theorem dX11_tallyAcross_151 : decode cX11_tallyAcross 151 = .ok (.aload_n 0, 1) := by decide +kernel
theorem dX11_tallyAcross_152 : decode cX11_tallyAcross 152 = .ok (.getfield 93, 3) := by decide +kernel
theorem dX11_tallyAcross_155 : decode cX11_tallyAcross 155 = .ok (.aload_n 0, 1) := by decide +kernel
theorem dX11_tallyAcross_156 : decode cX11_tallyAcross 156 = .ok (.getfield 58, 3) := by decide +kernel
theorem dX11_tallyAcross_159 : decode cX11_tallyAcross 159 = .ok (.iload 4, 2) := by decide +kernel
theorem dX11_tallyAcross_161 : decode cX11_tallyAcross 161 = .ok (.invokevirtual 373, 3) := by decide +kernel
theorem dX11_tallyAcross_164 : decode cX11_tallyAcross 164 = .ok (.aload_n 0, 1) := by decide +kernel
theorem dX11_tallyAcross_165 : decode cX11_tallyAcross 165 = .ok (.getfield 58, 3) := by decide +kernel
theorem dX11_tallyAcross_168 : decode cX11_tallyAcross 168 = .ok (.iload_n 1, 1) := by decide +kernel
theorem dX11_tallyAcross_169 : decode cX11_tallyAcross 169 = .ok (.invokevirtual 373, 3) := by decide +kernel
theorem dX11_tallyAcross_172 : decode cX11_tallyAcross 172 = .ok (.lsub, 1) := by decide +kernel
theorem dX11_tallyAcross_173 : decode cX11_tallyAcross 173 = .ok (.aload_n 0, 1) := by decide +kernel
theorem dX11_tallyAcross_174 : decode cX11_tallyAcross 174 = .ok (.getfield 72, 3) := by decide +kernel
theorem dX11_tallyAcross_177 : decode cX11_tallyAcross 177 = .ok (.iload 6, 2) := by decide +kernel
theorem dX11_tallyAcross_179 : decode cX11_tallyAcross 179 = .ok (.invokevirtual 215, 3) := by decide +kernel
theorem dX11_tallyAcross_182 : decode cX11_tallyAcross 182 = .ok (.lsub, 1) := by decide +kernel
theorem dX11_tallyAcross_183 : decode cX11_tallyAcross 183 = .ok (.invokevirtual 326, 3) := by decide +kernel
theorem dX11_tallyAcross_186 : decode cX11_tallyAcross 186 = .ok (.iinc 4 1, 3) := by decide +kernel
theorem dX11_tallyAcross_189 : decode cX11_tallyAcross 189 = .ok (.goto (-165), 3) := by decide +kernel
theorem dX11_tallyAcross_192 : decode cX11_tallyAcross 192 = .ok (.return_, 1) := by decide +kernel
set_option maxRecDepth 100000 in
set_option maxHeartbeats 4000000 in
theorem l2_X11_tallyAcross {h : ai_H} {tb lm : Int32} {B : Bk} {ln : Nat} {wk gh hh : Int32} {S R : Md} {z a c : Nat} (hok : bk_ok B ln) (hG : GI B wk S (nR B) z) (ha : a < nO B) (hc : c < z) (eca : S.2.2.1 7 c = nI a) (hca : ¬ (kC S c).2.2 = 3 ∧ bk_nat B (kC S c).1 0 = gh) (hled : rp_led (mt_F S z) (nO B) a R) : ∀ (m i : Nat) (t : Ty) (u5 u6 : Value) (g : ai_H), i ≤ z → z + 1 ≤ i + m → fr 306 306 h g → x_at g tb lm → bk_at g 1 B → cl_at g S → rp_at g R → g.2.2 306 = ty_cell t → tcL B wk (LM B wk S z) t (LC B wk (LM B wk S z) gh hh S z (lgI z a c i)) → ai_W MX11_tallyAcross 24 [.ref 0, .int (nI c), .int hh, .int (bk_nat B (kC S c).1 1), .int (nI i), u5, u6] [] g (fun r g => r = none ∧ fr 306 306 h g ∧ x_at g tb lm ∧ bk_at g 1 B ∧ cl_at g S ∧ rp_at g R ∧ ∃ t, g.2.2 306 = ty_cell t ∧ tcL B wk (LM B wk S z) t (LC B wk (LM B wk S z) gh hh S z (lgI z a c z))) := by
  intro m
  induction m with
  | zero => intro i t u5 u6 g h1 h2; exact absurd h2 (by omega)
  | succ m ih =>
    intro i t u5 u6 g hi0 him E0 hx hB hcl hrp htl htc
    have hn16 := hok.2.1.2.1
    obtain ⟨hlr, htr⟩ := LM_rows hok hG
    have hz4 := hG.1.2.1
    refine wq (fun _ _ kk => rs_iload (pc := 24) dX11_tallyAcross_24 rfl kk) ?_
    refine wq (fun _ _ kk => rs_aload_n (pc := 26) dX11_tallyAcross_26 rfl kk) ?_
    refine wq (fun _ _ kk => rs_getf (pc := 27) dX11_tallyAcross_27 fX11_58 (x_lt hx (by decide)) hx.2 rfl kk) ?_
    refine wq (fun _ _ kk => rs_getf (pc := 30) dX11_tallyAcross_30 fX11_348 (mo_lt hcl (by decide)) hcl.2.1 rfl kk) ?_
    refine wq_br (fun _ _ kt kf => rs_icmp_ge (tgt := 192) (pc := 33) dX11_tallyAcross_33 rfl kt kf) (fun c_33 => ?_) (fun c_33 => ?_)
    · have hie : i = z := lp_exit hG.1.1 (by omega) hi0 c_33
      subst hie
      refine wq_ret ?_ (rs_vret (pc := 192) dX11_tallyAcross_192 rfl)
      exact ⟨rfl, E0, hx, hB, hcl, hrp, t, htl, htc⟩
    · have hi : i < z := lp_go hG.1.1 (by omega) c_33
      have hpc := cell_pos hG hc
      have hpi := cell_pos hG hi
      obtain ⟨⟨b, hb, eb⟩, -⟩ := zc_obs hok hpi
      obtain ⟨la, lb⟩ := led_at htr hlr hn16 ha hled (show b < 16 by omega)
      refine wq (fun _ _ kk => rs_aload_n (pc := 36) dX11_tallyAcross_36 rfl kk) ?_
      refine wq (fun _ _ kk => rs_getf (pc := 37) dX11_tallyAcross_37 fX11_58 (x_lt hx (by decide)) hx.2 rfl kk) ?_
      refine wq (fun _ _ kk => rs_getf (pc := 40) dX11_tallyAcross_40 fX11_364 (mo_lt hcl (by decide)) hcl.2.1 rfl kk) ?_
      refine wq (fun _ _ kk => rs_iload (pc := 43) dX11_tallyAcross_43 rfl kk) ?_
      refine wq (fun _ _ kk => rs_iald (pc := 45) dX11_tallyAcross_45 (mo_lt hcl (by decide)) (mo_geti (d := 4) (k := 5) (kd := 0) (l := 400) rfl (by decide) hcl) (vp_in_nI (n := i) (N := 400) (by omega) (by decide)) kk) ?_
      rw [nI_clamp (show i < 2 ^ 31 by omega)]
      refine wq (fun _ _ kk => rs_aload_n (pc := 46) dX11_tallyAcross_46 rfl kk) ?_
      refine wq (fun _ _ kk => rs_getf (pc := 47) dX11_tallyAcross_47 fX11_58 (x_lt hx (by decide)) hx.2 rfl kk) ?_
      refine wq (fun _ _ kk => rs_getf (pc := 50) dX11_tallyAcross_50 fX11_364 (mo_lt hcl (by decide)) hcl.2.1 rfl kk) ?_
      refine wq (fun _ _ kk => rs_iload_n (pc := 53) dX11_tallyAcross_53 rfl kk) ?_
      refine wq (fun _ _ kk => rs_iald (pc := 54) dX11_tallyAcross_54 (mo_lt hcl (by decide)) (mo_geti (d := 4) (k := 5) (kd := 0) (l := 400) rfl (by decide) hcl) (vp_in_nI (n := c) (N := 400) (by omega) (by decide)) kk) ?_
      rw [nI_clamp (show c < 2 ^ 31 by omega)]
      refine wq_bn (fun _ _ kt kf => rs_icmp_ne (tgt := 84) (pc := 55) dX11_tallyAcross_55 rfl kt kf) (fun c_55 => ?_) (fun c_55 => ?_)
      · refine wq (fun _ _ kk => rs_iconst (v := 0) (pc := 84) dX11_tallyAcross_84 rfl kk) ?_
        refine wq (fun _ _ kk => wk_ist5 (pc := 85) dX11_tallyAcross_85 (by decide) rfl kk) ?_
        refine wq (fun _ _ kk => rs_aload_n (pc := 87) dX11_tallyAcross_87 rfl kk) ?_
        refine wq (fun _ _ kk => rs_getf (pc := 88) dX11_tallyAcross_88 fX11_58 (x_lt hx (by decide)) hx.2 rfl kk) ?_
        refine wq (fun _ _ kk => rs_getf (pc := 91) dX11_tallyAcross_91 fX11_370 (mo_lt hcl (by decide)) hcl.2.1 rfl kk) ?_
        refine wq (fun _ _ kk => rs_iload (pc := 94) dX11_tallyAcross_94 rfl kk) ?_
        refine wq (fun _ _ kk => rs_iald (pc := 96) dX11_tallyAcross_96 (mo_lt hcl (by decide)) (mo_geti (d := 6) (k := 7) (kd := 0) (l := 400) rfl (by decide) hcl) (vp_in_nI (n := i) (N := 400) (by omega) (by decide)) kk) ?_
        rw [nI_clamp (show i < 2 ^ 31 by omega), eb]
        refine wq (fun _ _ kk => wk_ist6 (pc := 97) dX11_tallyAcross_97 (by decide) rfl kk) ?_
        refine wq (fun _ _ kk => rs_iload (pc := 99) dX11_tallyAcross_99 rfl kk) ?_
        refine wq_br (fun _ _ kt kf => rs_if_eq (tgt := 186) (pc := 101) dX11_tallyAcross_101 rfl kt kf) (fun c_101 => ?_) (fun c_101 => absurd c_101 (by decide))
        refine wq (fun _ _ kk => wk_iinc4 (v := nI (i + 1)) (pc := 186) dX11_tallyAcross_186 (by decide) rfl (nI_1 i) kk) ?_
        refine wq (fun _ _ kk => rs_goto (tgt := 24) (pc := 189) dX11_tallyAcross_189 rfl kk) ?_
        have hno : lgP B wk (LM B wk S z) gh hh S z (lgI z a c i) = false := by
          rw [lgP_at hc hi, Bool.and_eq_false_iff]
          refine Or.inr (decide_eq_false (fun q => ?_))
          first
          | exact c_55 q.2.2.2.2.1
          | exact c_77 q.2.2.2.2.2.1
          | exact c_111 ⟨by rw [show (kC S i).2.2 = (kC S c).2.2 from q.2.2.2.2.2.1]; exact q.2.2.1, q.2.2.2.2.2.2.1⟩
          | exact c_136 q.2.2.2.2.2.2.2.1
          | (have q9 := q.2.2.2.2.2.2.2.2
             rw [show (kP S c).2 = nI a from eca, show (kP S i).2 = nI b from eb, nI_clamp (by omega), nI_clamp (by omega)] at q9
             cases hq : ro_end (ro_U (LM B wk S z)) (nO B) a b with
             | none => exact q9 hq
             | some v => exact (lb v hq).2.2.2.2.2 c_148)
        exact ih (i + 1) t _ _ g (by omega) (by omega) E0 hx hB hcl hrp htl (by
          have e : LC B wk (LM B wk S z) gh hh S z (lgI z a c i + 1) = LC B wk (LM B wk S z) gh hh S z (lgI z a c i) := by unfold LC; rw [lst, if_neg (by rw [hno]; decide)]
          show tcL B wk (LM B wk S z) t (LC B wk (LM B wk S z) gh hh S z (lgI z a c i + 1))
          rw [e]
          exact htc)
      · refine wq (fun _ _ kk => rs_aload_n (pc := 58) dX11_tallyAcross_58 rfl kk) ?_
        refine wq (fun _ _ kk => rs_getf (pc := 59) dX11_tallyAcross_59 fX11_58 (x_lt hx (by decide)) hx.2 rfl kk) ?_
        refine wq (fun _ _ kk => rs_getf (pc := 62) dX11_tallyAcross_62 fX11_367 (mo_lt hcl (by decide)) hcl.2.1 rfl kk) ?_
        refine wq (fun _ _ kk => rs_iload (pc := 65) dX11_tallyAcross_65 rfl kk) ?_
        refine wq (fun _ _ kk => rs_iald (pc := 67) dX11_tallyAcross_67 (mo_lt hcl (by decide)) (mo_geti (d := 5) (k := 6) (kd := 0) (l := 400) rfl (by decide) hcl) (vp_in_nI (n := i) (N := 400) (by omega) (by decide)) kk) ?_
        rw [nI_clamp (show i < 2 ^ 31 by omega)]
        refine wq (fun _ _ kk => rs_aload_n (pc := 68) dX11_tallyAcross_68 rfl kk) ?_
        refine wq (fun _ _ kk => rs_getf (pc := 69) dX11_tallyAcross_69 fX11_58 (x_lt hx (by decide)) hx.2 rfl kk) ?_
        refine wq (fun _ _ kk => rs_getf (pc := 72) dX11_tallyAcross_72 fX11_367 (mo_lt hcl (by decide)) hcl.2.1 rfl kk) ?_
        refine wq (fun _ _ kk => rs_iload_n (pc := 75) dX11_tallyAcross_75 rfl kk) ?_
        refine wq (fun _ _ kk => rs_iald (pc := 76) dX11_tallyAcross_76 (mo_lt hcl (by decide)) (mo_geti (d := 5) (k := 6) (kd := 0) (l := 400) rfl (by decide) hcl) (vp_in_nI (n := c) (N := 400) (by omega) (by decide)) kk) ?_
        rw [nI_clamp (show c < 2 ^ 31 by omega)]
        refine wq_bn (fun _ _ kt kf => rs_icmp_ne (tgt := 84) (pc := 77) dX11_tallyAcross_77 rfl kt kf) (fun c_77 => ?_) (fun c_77 => ?_)
        · refine wq (fun _ _ kk => rs_iconst (v := 0) (pc := 84) dX11_tallyAcross_84 rfl kk) ?_
          refine wq (fun _ _ kk => wk_ist5 (pc := 85) dX11_tallyAcross_85 (by decide) rfl kk) ?_
          refine wq (fun _ _ kk => rs_aload_n (pc := 87) dX11_tallyAcross_87 rfl kk) ?_
          refine wq (fun _ _ kk => rs_getf (pc := 88) dX11_tallyAcross_88 fX11_58 (x_lt hx (by decide)) hx.2 rfl kk) ?_
          refine wq (fun _ _ kk => rs_getf (pc := 91) dX11_tallyAcross_91 fX11_370 (mo_lt hcl (by decide)) hcl.2.1 rfl kk) ?_
          refine wq (fun _ _ kk => rs_iload (pc := 94) dX11_tallyAcross_94 rfl kk) ?_
          refine wq (fun _ _ kk => rs_iald (pc := 96) dX11_tallyAcross_96 (mo_lt hcl (by decide)) (mo_geti (d := 6) (k := 7) (kd := 0) (l := 400) rfl (by decide) hcl) (vp_in_nI (n := i) (N := 400) (by omega) (by decide)) kk) ?_
          rw [nI_clamp (show i < 2 ^ 31 by omega), eb]
          refine wq (fun _ _ kk => wk_ist6 (pc := 97) dX11_tallyAcross_97 (by decide) rfl kk) ?_
          refine wq (fun _ _ kk => rs_iload (pc := 99) dX11_tallyAcross_99 rfl kk) ?_
          refine wq_br (fun _ _ kt kf => rs_if_eq (tgt := 186) (pc := 101) dX11_tallyAcross_101 rfl kt kf) (fun c_101 => ?_) (fun c_101 => absurd c_101 (by decide))
          refine wq (fun _ _ kk => wk_iinc4 (v := nI (i + 1)) (pc := 186) dX11_tallyAcross_186 (by decide) rfl (nI_1 i) kk) ?_
          refine wq (fun _ _ kk => rs_goto (tgt := 24) (pc := 189) dX11_tallyAcross_189 rfl kk) ?_
          have hno : lgP B wk (LM B wk S z) gh hh S z (lgI z a c i) = false := by
            rw [lgP_at hc hi, Bool.and_eq_false_iff]
            refine Or.inr (decide_eq_false (fun q => ?_))
            first
            | exact c_55 q.2.2.2.2.1
            | exact c_77 q.2.2.2.2.2.1
            | exact c_111 ⟨by rw [show (kC S i).2.2 = (kC S c).2.2 from q.2.2.2.2.2.1]; exact q.2.2.1, q.2.2.2.2.2.2.1⟩
            | exact c_136 q.2.2.2.2.2.2.2.1
            | (have q9 := q.2.2.2.2.2.2.2.2
               rw [show (kP S c).2 = nI a from eca, show (kP S i).2 = nI b from eb, nI_clamp (by omega), nI_clamp (by omega)] at q9
               cases hq : ro_end (ro_U (LM B wk S z)) (nO B) a b with
               | none => exact q9 hq
               | some v => exact (lb v hq).2.2.2.2.2 c_148)
          exact ih (i + 1) t _ _ g (by omega) (by omega) E0 hx hB hcl hrp htl (by
            have e : LC B wk (LM B wk S z) gh hh S z (lgI z a c i + 1) = LC B wk (LM B wk S z) gh hh S z (lgI z a c i) := by unfold LC; rw [lst, if_neg (by rw [hno]; decide)]
            show tcL B wk (LM B wk S z) t (LC B wk (LM B wk S z) gh hh S z (lgI z a c i + 1))
            rw [e]
            exact htc)
        · refine wq (fun _ _ kk => rs_iconst (v := 1) (pc := 80) dX11_tallyAcross_80 rfl kk) ?_
          refine wq (fun _ _ kk => rs_goto (tgt := 85) (pc := 81) dX11_tallyAcross_81 rfl kk) ?_
          refine wq (fun _ _ kk => wk_ist5 (pc := 85) dX11_tallyAcross_85 (by decide) rfl kk) ?_
          refine wq (fun _ _ kk => rs_aload_n (pc := 87) dX11_tallyAcross_87 rfl kk) ?_
          refine wq (fun _ _ kk => rs_getf (pc := 88) dX11_tallyAcross_88 fX11_58 (x_lt hx (by decide)) hx.2 rfl kk) ?_
          refine wq (fun _ _ kk => rs_getf (pc := 91) dX11_tallyAcross_91 fX11_370 (mo_lt hcl (by decide)) hcl.2.1 rfl kk) ?_
          refine wq (fun _ _ kk => rs_iload (pc := 94) dX11_tallyAcross_94 rfl kk) ?_
          refine wq (fun _ _ kk => rs_iald (pc := 96) dX11_tallyAcross_96 (mo_lt hcl (by decide)) (mo_geti (d := 6) (k := 7) (kd := 0) (l := 400) rfl (by decide) hcl) (vp_in_nI (n := i) (N := 400) (by omega) (by decide)) kk) ?_
          rw [nI_clamp (show i < 2 ^ 31 by omega), eb]
          refine wq (fun _ _ kk => wk_ist6 (pc := 97) dX11_tallyAcross_97 (by decide) rfl kk) ?_
          refine wq (fun _ _ kk => rs_iload (pc := 99) dX11_tallyAcross_99 rfl kk) ?_
          refine wq_br (fun _ _ kt kf => rs_if_eq (tgt := 186) (pc := 101) dX11_tallyAcross_101 rfl kt kf) (fun c_101 => absurd c_101 (by decide)) (fun c_101 => ?_)
          refine wq (fun _ _ kk => rs_aload_n (pc := 104) dX11_tallyAcross_104 rfl kk) ?_
          refine wq (fun _ _ kk => rs_iload (pc := 105) dX11_tallyAcross_105 rfl kk) ?_
          refine wq (fun _ _ kk => rs_iload_n (pc := 107) dX11_tallyAcross_107 rfl kk) ?_
          refine wq (fun _ _ kk => rs_callV (as := [_, _]) (pc := 108) dX11_tallyAcross_108 mk_X11_isOfHouse mlX11_352 in_X11_isOfHouse se_X11_isOfHouse rfl (x_lt hx (by decide)) hx.2 rfl rfl (Nat.le_of_ble_eq_true rfl) (c_X11_isOfHouse hx hB hcl hG.1 hi hh) kk) ?_
          refine wq_br (fun _ _ kt kf => rs_if_eq (tgt := 186) (pc := 111) dX11_tallyAcross_111 rfl kt kf) (fun c_111 => ?_) (fun c_111 => ?_)
          · rw [b32_0] at c_111
            refine wq (fun _ _ kk => wk_iinc4 (v := nI (i + 1)) (pc := 186) dX11_tallyAcross_186 (by decide) rfl (nI_1 i) kk) ?_
            refine wq (fun _ _ kk => rs_goto (tgt := 24) (pc := 189) dX11_tallyAcross_189 rfl kk) ?_
            have hno : lgP B wk (LM B wk S z) gh hh S z (lgI z a c i) = false := by
              rw [lgP_at hc hi, Bool.and_eq_false_iff]
              refine Or.inr (decide_eq_false (fun q => ?_))
              first
              | exact c_55 q.2.2.2.2.1
              | exact c_77 q.2.2.2.2.2.1
              | exact c_111 ⟨by rw [show (kC S i).2.2 = (kC S c).2.2 from q.2.2.2.2.2.1]; exact q.2.2.1, q.2.2.2.2.2.2.1⟩
              | exact c_136 q.2.2.2.2.2.2.2.1
              | (have q9 := q.2.2.2.2.2.2.2.2
                 rw [show (kP S c).2 = nI a from eca, show (kP S i).2 = nI b from eb, nI_clamp (by omega), nI_clamp (by omega)] at q9
                 cases hq : ro_end (ro_U (LM B wk S z)) (nO B) a b with
                 | none => exact q9 hq
                 | some v => exact (lb v hq).2.2.2.2.2 c_148)
            exact ih (i + 1) t _ _ g (by omega) (by omega) E0 hx hB hcl hrp htl (by
              have e : LC B wk (LM B wk S z) gh hh S z (lgI z a c i + 1) = LC B wk (LM B wk S z) gh hh S z (lgI z a c i) := by unfold LC; rw [lst, if_neg (by rw [hno]; decide)]
              show tcL B wk (LM B wk S z) t (LC B wk (LM B wk S z) gh hh S z (lgI z a c i + 1))
              rw [e]
              exact htc)
          · rw [b32_0, Classical.not_not] at c_111
            refine wq (fun _ _ kk => rs_aload_n (pc := 114) dX11_tallyAcross_114 rfl kk) ?_
            refine wq (fun _ _ kk => rs_getf (pc := 115) dX11_tallyAcross_115 fX11_10 (x_lt hx (by decide)) hx.2 rfl kk) ?_
            refine wq (fun _ _ kk => rs_getf (pc := 118) dX11_tallyAcross_118 fX11_128 (bk_lt hB (by decide)) hB.2.1 rfl kk) ?_
            refine wq (fun _ _ kk => rs_aload_n (pc := 121) dX11_tallyAcross_121 rfl kk) ?_
            refine wq (fun _ _ kk => rs_getf (pc := 122) dX11_tallyAcross_122 fX11_58 (x_lt hx (by decide)) hx.2 rfl kk) ?_
            refine wq (fun _ _ kk => rs_getf (pc := 125) dX11_tallyAcross_125 fX11_361 (mo_lt hcl (by decide)) hcl.2.1 rfl kk) ?_
            refine wq (fun _ _ kk => rs_iload (pc := 128) dX11_tallyAcross_128 rfl kk) ?_
            refine wq (fun _ _ kk => rs_iald (pc := 130) dX11_tallyAcross_130 (mo_lt hcl (by decide)) (mo_geti (d := 3) (k := 4) (kd := 0) (l := 400) rfl (by decide) hcl) (vp_in_nI (n := i) (N := 400) (by omega) (by decide)) kk) ?_
            rw [nI_clamp (show i < 2 ^ 31 by omega)]
            refine wq (fun _ _ kk => rs_iconst (v := 1) (pc := 131) dX11_tallyAcross_131 rfl kk) ?_
            refine wq (fun _ _ kk => rs_callV (as := [_, _]) (pc := 132) dX11_tallyAcross_132 mk_X8_at mlX11_141 in_X8_at se_X8_at rfl (bk_lt hB (by decide)) hB.2.2.2.2.1.1 rfl rfl (Nat.le_of_ble_eq_true rfl) (c_X8_at (bk_lt hB (by decide)) hB.2.2.2.2.1.1 (bk_lt hB (by decide)) hB.2.2.2.2.1.2.1 hB.2.2.2.2.1.2.2 _ _) kk) ?_
            refine wq (fun _ _ kk => rs_iload_n (pc := 135) dX11_tallyAcross_135 rfl kk) ?_
            refine wq_bn (fun _ _ kt kf => rs_icmp_ne (tgt := 186) (pc := 136) dX11_tallyAcross_136 rfl kt kf) (fun c_136 => ?_) (fun c_136 => ?_)
            · refine wq (fun _ _ kk => wk_iinc4 (v := nI (i + 1)) (pc := 186) dX11_tallyAcross_186 (by decide) rfl (nI_1 i) kk) ?_
              refine wq (fun _ _ kk => rs_goto (tgt := 24) (pc := 189) dX11_tallyAcross_189 rfl kk) ?_
              have hno : lgP B wk (LM B wk S z) gh hh S z (lgI z a c i) = false := by
                rw [lgP_at hc hi, Bool.and_eq_false_iff]
                refine Or.inr (decide_eq_false (fun q => ?_))
                first
                | exact c_55 q.2.2.2.2.1
                | exact c_77 q.2.2.2.2.2.1
                | exact c_111 ⟨by rw [show (kC S i).2.2 = (kC S c).2.2 from q.2.2.2.2.2.1]; exact q.2.2.1, q.2.2.2.2.2.2.1⟩
                | exact c_136 q.2.2.2.2.2.2.2.1
                | (have q9 := q.2.2.2.2.2.2.2.2
                   rw [show (kP S c).2 = nI a from eca, show (kP S i).2 = nI b from eb, nI_clamp (by omega), nI_clamp (by omega)] at q9
                   cases hq : ro_end (ro_U (LM B wk S z)) (nO B) a b with
                   | none => exact q9 hq
                   | some v => exact (lb v hq).2.2.2.2.2 c_148)
              exact ih (i + 1) t _ _ g (by omega) (by omega) E0 hx hB hcl hrp htl (by
                have e : LC B wk (LM B wk S z) gh hh S z (lgI z a c i + 1) = LC B wk (LM B wk S z) gh hh S z (lgI z a c i) := by unfold LC; rw [lst, if_neg (by rw [hno]; decide)]
                show tcL B wk (LM B wk S z) t (LC B wk (LM B wk S z) gh hh S z (lgI z a c i + 1))
                rw [e]
                exact htc)
            · refine wq (fun _ _ kk => rs_aload_n (pc := 139) dX11_tallyAcross_139 rfl kk) ?_
              refine wq (fun _ _ kk => rs_getf (pc := 140) dX11_tallyAcross_140 fX11_72 (x_lt hx (by decide)) hx.2 rfl kk) ?_
              refine wq (fun _ _ kk => rs_iload (pc := 143) dX11_tallyAcross_143 rfl kk) ?_
              refine wq (fun _ _ kk => rs_callV (as := [_]) (pc := 145) dX11_tallyAcross_145 mk_X6_reach mlX11_208 in_X6_reach se_X6_reach rfl (mo_lt hrp (by decide)) hrp.2.1 rfl rfl (Nat.le_of_ble_eq_true rfl) (c_X6_reach hrp (show b < 16 by omega)) kk) ?_
              refine wq_br (fun _ _ kt kf => rs_if_eq (tgt := 186) (pc := 148) dX11_tallyAcross_148 rfl kt kf) (fun c_148 => ?_) (fun c_148 => ?_)
              · refine wq (fun _ _ kk => wk_iinc4 (v := nI (i + 1)) (pc := 186) dX11_tallyAcross_186 (by decide) rfl (nI_1 i) kk) ?_
                refine wq (fun _ _ kk => rs_goto (tgt := 24) (pc := 189) dX11_tallyAcross_189 rfl kk) ?_
                have hno : lgP B wk (LM B wk S z) gh hh S z (lgI z a c i) = false := by
                  rw [lgP_at hc hi, Bool.and_eq_false_iff]
                  refine Or.inr (decide_eq_false (fun q => ?_))
                  first
                  | exact c_55 q.2.2.2.2.1
                  | exact c_77 q.2.2.2.2.2.1
                  | exact c_111 ⟨by rw [show (kC S i).2.2 = (kC S c).2.2 from q.2.2.2.2.2.1]; exact q.2.2.1, q.2.2.2.2.2.2.1⟩
                  | exact c_136 q.2.2.2.2.2.2.2.1
                  | (have q9 := q.2.2.2.2.2.2.2.2
                     rw [show (kP S c).2 = nI a from eca, show (kP S i).2 = nI b from eb, nI_clamp (by omega), nI_clamp (by omega)] at q9
                     cases hq : ro_end (ro_U (LM B wk S z)) (nO B) a b with
                     | none => exact q9 hq
                     | some v => exact (lb v hq).2.2.2.2.2 c_148)
                exact ih (i + 1) t _ _ g (by omega) (by omega) E0 hx hB hcl hrp htl (by
                  have e : LC B wk (LM B wk S z) gh hh S z (lgI z a c i + 1) = LC B wk (LM B wk S z) gh hh S z (lgI z a c i) := by unfold LC; rw [lst, if_neg (by rw [hno]; decide)]
                  show tcL B wk (LM B wk S z) t (LC B wk (LM B wk S z) gh hh S z (lgI z a c i + 1))
                  rw [e]
                  exact htc)
              · obtain ⟨v, hv⟩ : ∃ v, ro_end (ro_U (LM B wk S z)) (nO B) a b = some v := by
                  cases hq : ro_end (ro_U (LM B wk S z)) (nO B) a b with
                  | none => exact absurd (la hq).2 c_148
                  | some v => exact ⟨v, rfl⟩
                obtain ⟨v1, v2, v3, v4, v5, v6⟩ := lb v hv
                have e2 := (hled b (by omega)).2.2
                rw [lean_is htr hlr hn16 ha hb, rle_zle] at e2
                have hyes : lgP B wk (LM B wk S z) gh hh S z (lgI z a c i) = true := by
                  rw [lgP_at hc hi, Bool.and_eq_true, decide_eq_true_eq]
                  refine ⟨eca, decide_eq_true ⟨hpc, hpi, hca.1, hca.2, c_55, c_77, c_111.2, c_136, ?_⟩⟩
                  rw [show (kP S c).2 = nI a from eca, show (kP S i).2 = nI b from eb, nI_clamp (by omega), nI_clamp (by omega), hv]
                  exact fun y => by cases y
                refine wq (fun _ _ kk => rs_aload_n (pc := 151) dX11_tallyAcross_151 rfl kk) ?_
                refine wq (fun _ _ kk => rs_getf (pc := 152) dX11_tallyAcross_152 fX11_93 (x_lt hx (by decide)) hx.2 rfl kk) ?_
                refine wq (fun _ _ kk => rs_aload_n (pc := 155) dX11_tallyAcross_155 rfl kk) ?_
                refine wq (fun _ _ kk => rs_getf (pc := 156) dX11_tallyAcross_156 fX11_58 (x_lt hx (by decide)) hx.2 rfl kk) ?_
                refine wq (fun _ _ kk => rs_iload (pc := 159) dX11_tallyAcross_159 rfl kk) ?_
                refine wq (fun _ _ kk => rs_callV (as := [_]) (pc := 161) dX11_tallyAcross_161 mk_X2_mean mlX11_373 in_X2_mean se_X2_mean rfl (mo_lt hcl (by decide)) hcl.2.1 rfl rfl (Nat.le_of_ble_eq_true rfl) (c_X2_mean hcl hG.1.sz _) kk) ?_
                rw [cl_mean_at hok hG hi]
                refine wq (fun _ _ kk => rs_aload_n (pc := 164) dX11_tallyAcross_164 rfl kk) ?_
                refine wq (fun _ _ kk => rs_getf (pc := 165) dX11_tallyAcross_165 fX11_58 (x_lt hx (by decide)) hx.2 rfl kk) ?_
                refine wq (fun _ _ kk => rs_iload_n (pc := 168) dX11_tallyAcross_168 rfl kk) ?_
                refine wq (fun _ _ kk => rs_callV (as := [_]) (pc := 169) dX11_tallyAcross_169 mk_X2_mean mlX11_373 in_X2_mean se_X2_mean rfl (mo_lt hcl (by decide)) hcl.2.1 rfl rfl (Nat.le_of_ble_eq_true rfl) (c_X2_mean hcl hG.1.sz _) kk) ?_
                rw [cl_mean_at hok hG hc]
                refine wq (fun _ _ kk => rs_lsub (pc := 172) dX11_tallyAcross_172 kk) ?_
                rw [aL_sub]
                refine wq (fun _ _ kk => rs_aload_n (pc := 173) dX11_tallyAcross_173 rfl kk) ?_
                refine wq (fun _ _ kk => rs_getf (pc := 174) dX11_tallyAcross_174 fX11_72 (x_lt hx (by decide)) hx.2 rfl kk) ?_
                refine wq (fun _ _ kk => rs_iload (pc := 177) dX11_tallyAcross_177 rfl kk) ?_
                refine wq (fun _ _ kk => rs_callV (as := [_]) (pc := 179) dX11_tallyAcross_179 mk_X6_lean mlX11_215 in_X6_lean se_X6_lean rfl (mo_lt hrp (by decide)) hrp.2.1 rfl rfl (Nat.le_of_ble_eq_true rfl) (c_X6_lean hrp (show b < 16 by omega)) kk) ?_
                rw [if_neg v5, e2]
                refine wq (fun _ _ kk => rs_lsub (pc := 182) dX11_tallyAcross_182 kk) ?_
                rw [aL_sub]
                obtain ⟨rv_183, hc_183, ⟨rfl, ee_183, htl_183⟩, hm_183⟩ := q_add hx htl _
                refine wq (fun _ _ kk => rs_callV (as := [_]) (pc := 183) dX11_tallyAcross_183 mk_X9_add mlX11_326 in_X9_add se_X9_add rfl (x_lt hx (by decide)) htl rfl rfl (Nat.le_of_ble_eq_true rfl) (hm_183) kk) ?_
                replace htl := htl_183
                replace hx := x_at.keep hx ee_183.1 (ee_183.2.2 0 (by decide))
                replace hB := hB.keep ee_183.1 (fun j _ _ => ee_183.2.2 j (by omega))
                replace hcl := cl_keep hcl ee_183.1 (fun j _ _ => ee_183.2.2 j (by omega))
                replace hrp := rp_keep hrp ee_183.1 (fun j _ _ => ee_183.2.2 j (by omega))
                refine wq (fun _ _ kk => wk_iinc4 (v := nI (i + 1)) (pc := 186) dX11_tallyAcross_186 (by decide) rfl (nI_1 i) kk) ?_
                refine wq (fun _ _ kk => rs_goto (tgt := 24) (pc := 189) dX11_tallyAcross_189 rfl kk) ?_
                refine ih (i + 1) _ _ _ _ (by omega) (by omega) (E0.trans ee_183) hx hB hcl hrp htl ?_
                show tcL B wk (LM B wk S z) _ (LC B wk (LM B wk S z) gh hh S z (lgI z a c i + 1))
                have e : LC B wk (LM B wk S z) gh hh S z (lgI z a c i + 1) = kL S z (lgI z a c i) :: LC B wk (LM B wk S z) gh hh S z (lgI z a c i) := by unfold LC; rw [lst, if_pos hyes]
                rw [e]
                refine tcL_add htc ?_
                rw [kL_at hc hi]
                unfold lgV
                rw [show (kP S c).2 = nI a from eca, show (kP S i).2 = nI b from eb, nI_clamp (by omega), nI_clamp (by omega)]
set_option maxRecDepth 100000 in
set_option maxHeartbeats 4000000 in
theorem c_X11_tallyAcross {h : ai_H} {tb lm : Int32} {B : Bk} {ln : Nat} {wk gh hh : Int32} {S R : Md} {z a c : Nat} (hok : bk_ok B ln) (hG : GI B wk S (nR B) z) (ha : a < nO B) (hc : c < z) (eca : S.2.2.1 7 c = nI a) (hca : ¬ (kC S c).2.2 = 3 ∧ bk_nat B (kC S c).1 0 = gh) (hled : rp_led (mt_F S z) (nO B) a R) {t : Ty} (hx : x_at h tb lm) (hB : bk_at h 1 B) (hcl : cl_at h S) (hrp : rp_at h R) (htl : h.2.2 306 = ty_cell t) (htc : tcL B wk (LM B wk S z) t (LC B wk (LM B wk S z) gh hh S z (lgI z a c 0))) : ai_QM MX11_tallyAcross [.ref 0, .int (nI c), .int hh] h (fun r g => r = none ∧ fr 306 306 h g ∧ x_at g tb lm ∧ bk_at g 1 B ∧ cl_at g S ∧ rp_at g R ∧ ∃ t, g.2.2 306 = ty_cell t ∧ tcL B wk (LM B wk S z) t (LC B wk (LM B wk S z) gh hh S z (lgI z a c z))) := by
  have hz4 := hG.1.2.1
  refine qm_of (ls := [.ref 0, .int (nI c), .int hh, .float 0, .float 0, .float 0, .float 0]) (by decide) (by simp [ai_en, Value.category]) (by rfl) ?_
  refine wq (fun _ _ kk => rs_aload_n (pc := 0) dX11_tallyAcross_0 rfl kk) ?_
  refine wq (fun _ _ kk => rs_getf (pc := 1) dX11_tallyAcross_1 fX11_10 (x_lt hx (by decide)) hx.2 rfl kk) ?_
  refine wq (fun _ _ kk => rs_getf (pc := 4) dX11_tallyAcross_4 fX11_128 (bk_lt hB (by decide)) hB.2.1 rfl kk) ?_
  refine wq (fun _ _ kk => rs_aload_n (pc := 7) dX11_tallyAcross_7 rfl kk) ?_
  refine wq (fun _ _ kk => rs_getf (pc := 8) dX11_tallyAcross_8 fX11_58 (x_lt hx (by decide)) hx.2 rfl kk) ?_
  refine wq (fun _ _ kk => rs_getf (pc := 11) dX11_tallyAcross_11 fX11_361 (mo_lt hcl (by decide)) hcl.2.1 rfl kk) ?_
  refine wq (fun _ _ kk => rs_iload_n (pc := 14) dX11_tallyAcross_14 rfl kk) ?_
  refine wq (fun _ _ kk => rs_iald (pc := 15) dX11_tallyAcross_15 (mo_lt hcl (by decide)) (mo_geti (d := 3) (k := 4) (kd := 0) (l := 400) rfl (by decide) hcl) (vp_in_nI (n := c) (N := 400) (by omega) (by decide)) kk) ?_
  rw [nI_clamp (show c < 2 ^ 31 by omega)]
  refine wq (fun _ _ kk => rs_iconst (v := 1) (pc := 16) dX11_tallyAcross_16 rfl kk) ?_
  refine wq (fun _ _ kk => rs_callV (as := [_, _]) (pc := 17) dX11_tallyAcross_17 mk_X8_at mlX11_141 in_X8_at se_X8_at rfl (bk_lt hB (by decide)) hB.2.2.2.2.1.1 rfl rfl (Nat.le_of_ble_eq_true rfl) (c_X8_at (bk_lt hB (by decide)) hB.2.2.2.2.1.1 (bk_lt hB (by decide)) hB.2.2.2.2.1.2.1 hB.2.2.2.2.1.2.2 _ _) kk) ?_
  refine wq (fun _ _ kk => wk_istn3 (pc := 20) dX11_tallyAcross_20 (by decide) rfl kk) ?_
  refine wq (fun _ _ kk => rs_iconst (v := 0) (pc := 21) dX11_tallyAcross_21 rfl kk) ?_
  refine wq (fun _ _ kk => wk_ist4 (pc := 22) dX11_tallyAcross_22 (by decide) rfl kk) ?_
  exact l2_X11_tallyAcross (h := h) (gh := gh) hok hG ha hc eca hca hled (z + 1) 0 t _ _ _ (by omega) (by omega) fr.rf hx hB hcl hrp htl htc
