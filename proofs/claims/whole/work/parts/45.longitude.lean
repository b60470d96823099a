/-! 45: longitude (walks laid by wip/whole/p45.py) -/
theorem lst_skip {α : Type} {p : Nat → Bool} {f : Nat → α} {i j : Nat} (hij : i ≤ j) (h : ∀ k, i ≤ k → k < j → p k = false) : lst p f j = lst p f i := by
  induction hij with
  | refl => rfl
  | step hm ih =>
    rw [lst, if_neg (by rw [h _ (by omega) (by omega)]; decide)]
    exact ih (fun k h1 h2 => h k h1 (by omega))
def zle (U : Nat → List Int) (n b x : Nat) : Int := match ro_end (ro_U U) n b x with
  | none => 0
  | some v => zl U (ro_pt (ro_U U) n b x) (v % 32)
theorem rle_zle (U : Nat → List Int) (n b x : Nat) : rle U n b x = aL (zle U n b x) := by
  unfold rle zle
  cases ro_end (ro_U U) n b x <;> rfl
theorem zl_b {U : Nat → List Int} (hl : lrow U) {p : Nat → Nat} : ∀ L, (∀ i, i < L → p i < 16 ∧ p (i + 1) < 16 ∧ U (p i * 16 + p (i + 1)) ≠ []) → -(20394000 * (L : Int)) ≤ zl U p L ∧ zl U p L ≤ 20394000 * (L : Int) := by
  intro L
  induction L with
  | zero => intro _; simp [zl]
  | succ L ih =>
    intro h
    have h1 := ih (fun i hi => h i (by omega))
    obtain ⟨a, b, c⟩ := h L (by omega)
    have h2 := zm_b hl (show p L * 16 + p (L + 1) < 256 by omega) c
    rw [zl]
    omega
theorem zle_b {U : Nat → List Int} (hl : lrow U) {n b x : Nat} (hn : n ≤ 16) (hb : b < n) : -326304000 ≤ zle U n b x ∧ zle U n b x ≤ 326304000 := by
  unfold zle
  cases hq : ro_end (ro_U U) n b x with
  | none => exact ⟨by show (-326304000 : Int) ≤ 0; decide, by show (0 : Int) ≤ 326304000; decide⟩
  | some v =>
    have h1 := zl_b hl (v % 32) (ro_pt_ne hn hb hq)
    have h2 := (ro_good_li (ro_U_32 U) hn (ro_end_good (ro_32_pos (ro_U_32 U)) hb) hq).1
    show -326304000 ≤ zl U _ (v % 32) ∧ zl U _ (v % 32) ≤ _
    omega
def zmn (B : Bk) (wk : Int32) (k : (Int32 × Int32 × Int32) × Int32) : Int := 1000 * zs B wk k.1 k.2 / (zc B wk k.1 k.2 : Int)
theorem zmn_b {B : Bk} {ln : Nat} (hok : bk_ok B ln) {wk : Int32} {k : (Int32 × Int32 × Int32) × Int32} (h : 0 < zc B wk k.1 k.2) : -10197000 ≤ zmn B wk k ∧ zmn B wk k ≤ 10197000 := by
  have h1 := zs_b hok wk k.1 k.2
  unfold zmn
  refine ⟨?_, ?_⟩
  · apply Int.le_ediv_of_mul_le (by omega)
    omega
  · apply Int.le_of_lt_add_one
    apply Int.ediv_lt_of_lt_mul (by omega)
    omega
/-- two SIGHTS in two houses that are compared -/
def lgQ (B : Bk) (wk : Int32) (U : Nat → List Int) (g h : Int32) (k : ((Int32 × Int32 × Int32) × Int32) × ((Int32 × Int32 × Int32) × Int32)) : Bool := decide (0 < zc B wk k.1.1 k.1.2 ∧ 0 < zc B wk k.2.1 k.2.2 ∧ ¬ k.1.1.2.2 = 3 ∧ bk_nat B k.1.1.1 0 = g ∧ k.2.1.2.1 = k.1.1.2.1 ∧ k.2.1.2.2 = k.1.1.2.2 ∧ bk_nat B k.2.1.1 0 = h ∧ bk_nat B k.2.1.1 1 = bk_nat B k.1.1.1 1 ∧ ¬ ro_end (ro_U U) (nO B) k.1.2.toNatClampNeg k.2.2.toNatClampNeg = none)
def lgV (B : Bk) (wk : Int32) (U : Nat → List Int) (k : ((Int32 × Int32 × Int32) × Int32) × ((Int32 × Int32 × Int32) × Int32)) : Int := zmn B wk k.2 - zmn B wk k.1 - zle U (nO B) k.1.2.toNatClampNeg k.2.2.toNatClampNeg
def lgI (n z a c i b : Nat) : Nat := ((a * z + c) * z + i) * n + b
def kL (S : Md) (n z t : Nat) : ((Int32 × Int32 × Int32) × Int32) × ((Int32 × Int32 × Int32) × Int32) := ((kC S (t / n / z % z), nI (t / n / z / z)), (kC S (t / n % z), nI (t % n)))
theorem lgI_de {n z a c i b : Nat} (hc : c < z) (hi : i < z) (hb : b < n) : lgI n z a c i b % n = b ∧ lgI n z a c i b / n % z = i ∧ lgI n z a c i b / n / z % z = c ∧ lgI n z a c i b / n / z / z = a := by
  unfold lgI
  obtain ⟨p1, p2⟩ := pair_mk (i := (a * z + c) * z + i) hb
  obtain ⟨p3, p4⟩ := pair_mk (i := a * z + c) hi
  obtain ⟨p5, p6⟩ := pair_mk (i := a) hc
  rw [p1, p2, p3, p4, p5, p6]
  exact ⟨rfl, rfl, rfl, rfl⟩
theorem kL_at {S : Md} {n z a c i b : Nat} (hc : c < z) (hi : i < z) (hb : b < n) : kL S n z (lgI n z a c i b) = ((kC S c, nI a), (kC S i, nI b)) := by
  obtain ⟨p1, p2, p3, p4⟩ := lgI_de (a := a) hc hi hb
  unfold kL
  rw [p1, p2, p3, p4]
def LC (B : Bk) (wk : Int32) (U : Nat → List Int) (g h : Int32) (S : Md) (z t : Nat) : List (((Int32 × Int32 × Int32) × Int32) × ((Int32 × Int32 × Int32) × Int32)) := lst (fun t => lgQ B wk U g h (kL S (nO B) z t)) (kL S (nO B) z) t
def LD (B : Bk) (wk : Int32) (U : Nat → List Int) (g h : Int32) (T : Md) (q t : Nat) : List (((Int32 × Int32 × Int32) × Int32) × ((Int32 × Int32 × Int32) × Int32)) := lst (fun t => lgQ B wk U g h (kT T (t / q), kT T (t % q))) (fun t => (kT T (t / q), kT T (t % q))) t
/-- the tally holds this list -/
def tcL (B : Bk) (wk : Int32) (U : Nat → List Int) (t : Ty) (L : List (((Int32 × Int32 × Int32) × Int32) × ((Int32 × Int32 × Int32) × Int32))) : Prop := t.1 = nI L.length ∧ t.2.1 = aL (zsum (L.map (lgV B wk U)))
theorem tcL_add {B : Bk} {wk : Int32} {U : Nat → List Int} {t : Ty} {L : List (((Int32 × Int32 × Int32) × Int32) × ((Int32 × Int32 × Int32) × Int32))} {k : ((Int32 × Int32 × Int32) × Int32) × ((Int32 × Int32 × Int32) × Int32)} {x : Int64} (h : tcL B wk U t L) (hx : x = aL (lgV B wk U k)) : tcL B wk U (ty_add t x) (k :: L) := by
  refine ⟨?_, ?_⟩
  · show t.1 + 1 = _
    rw [h.1, nI_1]; rfl
  · show t.2.1 + x = _
    rw [h.2, hx, aL_add, List.map_cons, zsum_cons, Int.add_comm]
theorem q_add {h : ai_H} {tb lm : Int32} {t : Ty} (hx : x_at h tb lm) (htl : h.2.2 304 = ty_cell t) (x : Int64) : ai_QM MX9_add [.ref 304, .long x] h (fun r g => r = none ∧ fr 304 304 h g ∧ g.2.2 304 = ty_cell (ty_add t x)) :=
  ⟨none, ai_set h 304 (ty_cell (ty_add t x)), ⟨rfl, ⟨rfl, rfl, fun j hj => ai_set_ne (by omega)⟩, ai_set_get⟩, c_X9_add (x_lt hx (by decide)) htl x⟩
theorem q_clear {h : ai_H} {tb lm : Int32} {t : Ty} (hx : x_at h tb lm) (htl : h.2.2 304 = ty_cell t) : ai_QM MX9_clear [.ref 304] h (fun r g => r = none ∧ fr 304 304 h g ∧ g.2.2 304 = ty_cell (0, 0, 0, 0)) :=
  ⟨none, ai_set h 304 (ty_cell (0, 0, 0, 0)), ⟨rfl, ⟨rfl, rfl, fun j hj => ai_set_ne (by omega)⟩, ai_set_get⟩, c_X9_clear (x_lt hx (by decide)) htl⟩
theorem cl_mean_at {B : Bk} {ln : Nat} (hok : bk_ok B ln) {wk : Int32} {S : Md} {z c o : Nat} (hG : GI B wk S (nR B) z) (hc : c < z) (ho : o < 16) (hp : 0 < zc B wk (kC S c) (nI o)) : cl_mean S (nI c) (nI o) = aL (zmn B wk (kC S c, nI o)) := by
  obtain ⟨e1, e2⟩ := cl_at_cell hG hc ho
  have h1 := zs_b hok wk (kC S c) (nI o)
  have h2 := zc_le B hok wk (kC S c) (nI o)
  unfold cl_mean
  rw [e1, e2, if_neg (by rw [nI_z (by omega)]; omega), nI_i2l (by omega), aI_i2l (by omega) (by omega), show (1000 : Int64) = aL 1000 from rfl, aL_mul, aL_fd (by omega) (by omega) (by omega) (by omega)]
  rfl
theorem cl_sz_of {B : Bk} {wk : Int32} {S : Md} {z : Nat} (hG : GI B wk S (nR B) z) : cl_sz S := by
  unfold cl_sz
  rw [hG.1.1, nI_toInt (by have := hG.1.2.1; omega)]
  have := hG.1.2.1
  omega
theorem dX11_isCellOfHouse_0 : decode cX11_isCellOfHouse 0 = .ok (.aload_n 0, 1) := by decide +kernel
theorem dX11_isCellOfHouse_1 : decode cX11_isCellOfHouse 1 = .ok (.getfield 58, 3) := by decide +kernel
theorem dX11_isCellOfHouse_4 : decode cX11_isCellOfHouse 4 = .ok (.getfield 357, 3) := by decide +kernel
theorem dX11_isCellOfHouse_7 : decode cX11_isCellOfHouse 7 = .ok (.iload_n 1, 1) := by decide +kernel
theorem dX11_isCellOfHouse_8 : decode cX11_isCellOfHouse 8 = .ok (.iaload, 1) := by decide +kernel
theorem dX11_isCellOfHouse_9 : decode cX11_isCellOfHouse 9 = .ok (.iconst 3, 1) := by decide +kernel
theorem dX11_isCellOfHouse_10 : decode cX11_isCellOfHouse 10 = .ok (.if_icmp .eq 31, 3) := by decide +kernel
theorem dX11_isCellOfHouse_13 : decode cX11_isCellOfHouse 13 = .ok (.aload_n 0, 1) := by decide +kernel
theorem dX11_isCellOfHouse_14 : decode cX11_isCellOfHouse 14 = .ok (.getfield 10, 3) := by decide +kernel
theorem dX11_isCellOfHouse_17 : decode cX11_isCellOfHouse 17 = .ok (.getfield 128, 3) := by decide +kernel
theorem dX11_isCellOfHouse_20 : decode cX11_isCellOfHouse 20 = .ok (.aload_n 0, 1) := by decide +kernel
theorem dX11_isCellOfHouse_21 : decode cX11_isCellOfHouse 21 = .ok (.getfield 58, 3) := by decide +kernel
theorem dX11_isCellOfHouse_24 : decode cX11_isCellOfHouse 24 = .ok (.getfield 360, 3) := by decide +kernel
theorem dX11_isCellOfHouse_27 : decode cX11_isCellOfHouse 27 = .ok (.iload_n 1, 1) := by decide +kernel
theorem dX11_isCellOfHouse_28 : decode cX11_isCellOfHouse 28 = .ok (.iaload, 1) := by decide +kernel
theorem dX11_isCellOfHouse_29 : decode cX11_isCellOfHouse 29 = .ok (.iconst 0, 1) := by decide +kernel
theorem dX11_isCellOfHouse_30 : decode cX11_isCellOfHouse 30 = .ok (.invokevirtual 141, 3) := by decide +kernel
theorem dX11_isCellOfHouse_33 : decode cX11_isCellOfHouse 33 = .ok (.iload_n 2, 1) := by decide +kernel
theorem dX11_isCellOfHouse_34 : decode cX11_isCellOfHouse 34 = .ok (.if_icmp .ne 7, 3) := by decide +kernel
theorem dX11_isCellOfHouse_37 : decode cX11_isCellOfHouse 37 = .ok (.iconst 1, 1) := by decide +kernel
theorem dX11_isCellOfHouse_38 : decode cX11_isCellOfHouse 38 = .ok (.goto 4, 3) := by decide +kernel
theorem dX11_isCellOfHouse_41 : decode cX11_isCellOfHouse 41 = .ok (.iconst 0, 1) := by decide +kernel
theorem dX11_isCellOfHouse_42 : decode cX11_isCellOfHouse 42 = .ok (.ireturn, 1) := by decide +kernel
set_option maxRecDepth 100000 in
set_option maxHeartbeats 4000000 in
theorem c_X11_isCellOfHouse {h : ai_H} {tb lm : Int32} {B : Bk} {S : Md} (hx : x_at h tb lm) (hB : bk_at h 1 B) (hcl : cl_at h S) {c : Nat} (hc : c < 400) (g : Int32) : ai_Met MX11_isCellOfHouse [.ref 0, .int (nI c), .int g] h (some (.int (b32 (decide (¬ (kC S c).2.2 = 3 ∧ bk_nat B (kC S c).1 0 = g))))) h := by
  refine ai_met (ls := [.ref 0, .int (nI c), .int g]) (by decide) (by simp [ai_en, Value.category]) (by rfl) ?_
  refine rs_aload_n (pc := 0) dX11_isCellOfHouse_0 rfl ?_
  refine rs_getf (pc := 1) dX11_isCellOfHouse_1 fX11_58 (x_lt hx (by decide)) hx.2 rfl ?_
  refine rs_getf (pc := 4) dX11_isCellOfHouse_4 fX11_357 (mo_lt hcl (by decide)) hcl.2.1 rfl ?_
  refine rs_iload_n (pc := 7) dX11_isCellOfHouse_7 rfl ?_
  refine rs_iald (pc := 8) dX11_isCellOfHouse_8 (mo_lt hcl (by decide)) (mo_geti (d := 4) (k := 5) (kd := 0) (l := 400) rfl (by decide) hcl) (vp_in_nI (n := c) (N := 400) (by omega) (by decide)) ?_
  rw [nI_clamp (show c < 2 ^ 31 by omega)]
  refine rs_iconst (v := 3) (pc := 9) dX11_isCellOfHouse_9 rfl ?_
  refine rs_icmp_eq (tgt := 41) (pc := 10) dX11_isCellOfHouse_10 rfl (fun c_10 => ?_) (fun c_10 => ?_)
  · refine rs_iconst (v := 0) (pc := 41) dX11_isCellOfHouse_41 rfl ?_
    exact wk_zret (pc := 42) dX11_isCellOfHouse_42 rfl (Or.inl rfl) (by simp [b32, kC, bk_nat, c_10]) (rfl)
  · refine rs_aload_n (pc := 13) dX11_isCellOfHouse_13 rfl ?_
    refine rs_getf (pc := 14) dX11_isCellOfHouse_14 fX11_10 (x_lt hx (by decide)) hx.2 rfl ?_
    refine rs_getf (pc := 17) dX11_isCellOfHouse_17 fX11_128 (bk_lt hB (by decide)) hB.2.1 rfl ?_
    refine rs_aload_n (pc := 20) dX11_isCellOfHouse_20 rfl ?_
    refine rs_getf (pc := 21) dX11_isCellOfHouse_21 fX11_58 (x_lt hx (by decide)) hx.2 rfl ?_
    refine rs_getf (pc := 24) dX11_isCellOfHouse_24 fX11_360 (mo_lt hcl (by decide)) hcl.2.1 rfl ?_
    refine rs_iload_n (pc := 27) dX11_isCellOfHouse_27 rfl ?_
    refine rs_iald (pc := 28) dX11_isCellOfHouse_28 (mo_lt hcl (by decide)) (mo_geti (d := 2) (k := 3) (kd := 0) (l := 400) rfl (by decide) hcl) (vp_in_nI (n := c) (N := 400) (by omega) (by decide)) ?_
    rw [nI_clamp (show c < 2 ^ 31 by omega)]
    refine rs_iconst (v := 0) (pc := 29) dX11_isCellOfHouse_29 rfl ?_
    refine rs_callV (as := [_, _]) (pc := 30) dX11_isCellOfHouse_30 mk_X8_at mlX11_141 in_X8_at se_X8_at rfl (bk_lt hB (by decide)) hB.2.2.2.2.1.1 rfl rfl (Nat.le_of_ble_eq_true rfl) (c_X8_at (bk_lt hB (by decide)) hB.2.2.2.2.1.1 (bk_lt hB (by decide)) hB.2.2.2.2.1.2.1 hB.2.2.2.2.1.2.2 _ _) ?_
    refine rs_iload_n (pc := 33) dX11_isCellOfHouse_33 rfl ?_
    refine rs_icmp_ne (tgt := 41) (pc := 34) dX11_isCellOfHouse_34 rfl (fun c_34 => ?_) (fun c_34 => ?_)
    · refine rs_iconst (v := 0) (pc := 41) dX11_isCellOfHouse_41 rfl ?_
      exact wk_zret (pc := 42) dX11_isCellOfHouse_42 rfl (Or.inl rfl) (by simp [b32, kC, bk_nat, c_10, c_34]) (rfl)
    · refine rs_iconst (v := 1) (pc := 37) dX11_isCellOfHouse_37 rfl ?_
      refine rs_goto (tgt := 42) (pc := 38) dX11_isCellOfHouse_38 rfl ?_
      exact wk_zret (pc := 42) dX11_isCellOfHouse_42 rfl (Or.inr rfl) (by simp [b32, kC, bk_nat, c_10, c_34]) (rfl)
theorem dX11_tallyAcross_0 : decode cX11_tallyAcross 0 = .ok (.aload_n 0, 1) := by decide +kernel
theorem dX11_tallyAcross_1 : decode cX11_tallyAcross 1 = .ok (.getfield 10, 3) := by decide +kernel
theorem dX11_tallyAcross_4 : decode cX11_tallyAcross 4 = .ok (.getfield 128, 3) := by decide +kernel
theorem dX11_tallyAcross_7 : decode cX11_tallyAcross 7 = .ok (.aload_n 0, 1) := by decide +kernel
theorem dX11_tallyAcross_8 : decode cX11_tallyAcross 8 = .ok (.getfield 58, 3) := by decide +kernel
theorem dX11_tallyAcross_11 : decode cX11_tallyAcross 11 = .ok (.getfield 360, 3) := by decide +kernel
theorem dX11_tallyAcross_14 : decode cX11_tallyAcross 14 = .ok (.iload_n 1, 1) := by decide +kernel
theorem dX11_tallyAcross_15 : decode cX11_tallyAcross 15 = .ok (.iaload, 1) := by decide +kernel
theorem dX11_tallyAcross_16 : decode cX11_tallyAcross 16 = .ok (.iconst 1, 1) := by decide +kernel
theorem dX11_tallyAcross_17 : decode cX11_tallyAcross 17 = .ok (.invokevirtual 141, 3) := by decide +kernel
theorem dX11_tallyAcross_20 : decode cX11_tallyAcross 20 = .ok (.istore 4, 2) := by decide +kernel
theorem dX11_tallyAcross_22 : decode cX11_tallyAcross 22 = .ok (.iconst 0, 1) := by decide +kernel
theorem dX11_tallyAcross_23 : decode cX11_tallyAcross 23 = .ok (.istore 5, 2) := by decide +kernel
theorem dX11_tallyAcross_25 : decode cX11_tallyAcross 25 = .ok (.iload 5, 2) := by decide +kernel
theorem dX11_tallyAcross_27 : decode cX11_tallyAcross 27 = .ok (.aload_n 0, 1) := by decide +kernel
theorem dX11_tallyAcross_28 : decode cX11_tallyAcross 28 = .ok (.getfield 58, 3) := by decide +kernel
theorem dX11_tallyAcross_31 : decode cX11_tallyAcross 31 = .ok (.getfield 348, 3) := by decide +kernel
theorem dX11_tallyAcross_34 : decode cX11_tallyAcross 34 = .ok (.if_icmp .ge 192, 3) := by decide +kernel
theorem dX11_tallyAcross_37 : decode cX11_tallyAcross 37 = .ok (.aload_n 0, 1) := by decide +kernel
theorem dX11_tallyAcross_38 : decode cX11_tallyAcross 38 = .ok (.getfield 58, 3) := by decide +kernel
theorem dX11_tallyAcross_41 : decode cX11_tallyAcross 41 = .ok (.getfield 363, 3) := by decide +kernel
theorem dX11_tallyAcross_44 : decode cX11_tallyAcross 44 = .ok (.iload 5, 2) := by decide +kernel
theorem dX11_tallyAcross_46 : decode cX11_tallyAcross 46 = .ok (.iaload, 1) := by decide +kernel
theorem dX11_tallyAcross_47 : decode cX11_tallyAcross 47 = .ok (.aload_n 0, 1) := by decide +kernel
theorem dX11_tallyAcross_48 : decode cX11_tallyAcross 48 = .ok (.getfield 58, 3) := by decide +kernel
theorem dX11_tallyAcross_51 : decode cX11_tallyAcross 51 = .ok (.getfield 363, 3) := by decide +kernel
theorem dX11_tallyAcross_54 : decode cX11_tallyAcross 54 = .ok (.iload_n 1, 1) := by decide +kernel
theorem dX11_tallyAcross_55 : decode cX11_tallyAcross 55 = .ok (.iaload, 1) := by decide +kernel
theorem dX11_tallyAcross_56 : decode cX11_tallyAcross 56 = .ok (.if_icmp .ne 29, 3) := by decide +kernel
theorem dX11_tallyAcross_59 : decode cX11_tallyAcross 59 = .ok (.aload_n 0, 1) := by decide +kernel
theorem dX11_tallyAcross_60 : decode cX11_tallyAcross 60 = .ok (.getfield 58, 3) := by decide +kernel
theorem dX11_tallyAcross_63 : decode cX11_tallyAcross 63 = .ok (.getfield 357, 3) := by decide +kernel
theorem dX11_tallyAcross_66 : decode cX11_tallyAcross 66 = .ok (.iload 5, 2) := by decide +kernel
theorem dX11_tallyAcross_68 : decode cX11_tallyAcross 68 = .ok (.iaload, 1) := by decide +kernel
theorem dX11_tallyAcross_69 : decode cX11_tallyAcross 69 = .ok (.aload_n 0, 1) := by decide +kernel
theorem dX11_tallyAcross_70 : decode cX11_tallyAcross 70 = .ok (.getfield 58, 3) := by decide +kernel
theorem dX11_tallyAcross_73 : decode cX11_tallyAcross 73 = .ok (.getfield 357, 3) := by decide +kernel
theorem dX11_tallyAcross_76 : decode cX11_tallyAcross 76 = .ok (.iload_n 1, 1) := by decide +kernel
theorem dX11_tallyAcross_77 : decode cX11_tallyAcross 77 = .ok (.iaload, 1) := by decide +kernel
theorem dX11_tallyAcross_78 : decode cX11_tallyAcross 78 = .ok (.if_icmp .ne 7, 3) := by decide +kernel
theorem dX11_tallyAcross_81 : decode cX11_tallyAcross 81 = .ok (.iconst 1, 1) := by decide +kernel
theorem dX11_tallyAcross_82 : decode cX11_tallyAcross 82 = .ok (.goto 4, 3) := by decide +kernel
theorem dX11_tallyAcross_85 : decode cX11_tallyAcross 85 = .ok (.iconst 0, 1) := by decide +kernel
theorem dX11_tallyAcross_86 : decode cX11_tallyAcross 86 = .ok (.istore 6, 2) := by decide +kernel
theorem dX11_tallyAcross_88 : decode cX11_tallyAcross 88 = .ok (.iload 6, 2) := by decide +kernel
theorem dX11_tallyAcross_90 : decode cX11_tallyAcross 90 = .ok (.ifCond .eq 130, 3) := by decide +kernel
theorem dX11_tallyAcross_93 : decode cX11_tallyAcross 93 = .ok (.aload_n 0, 1) := by decide +kernel
theorem dX11_tallyAcross_94 : decode cX11_tallyAcross 94 = .ok (.iload 5, 2) := by decide +kernel
theorem dX11_tallyAcross_96 : decode cX11_tallyAcross 96 = .ok (.iload_n 3, 1) := by decide +kernel
theorem dX11_tallyAcross_97 : decode cX11_tallyAcross 97 = .ok (.invokevirtual 351, 3) := by decide +kernel
theorem dX11_tallyAcross_100 : decode cX11_tallyAcross 100 = .ok (.ifCond .eq 120, 3) := by decide +kernel
theorem dX11_tallyAcross_103 : decode cX11_tallyAcross 103 = .ok (.aload_n 0, 1) := by decide +kernel
theorem dX11_tallyAcross_104 : decode cX11_tallyAcross 104 = .ok (.getfield 10, 3) := by decide +kernel
theorem dX11_tallyAcross_107 : decode cX11_tallyAcross 107 = .ok (.getfield 128, 3) := by decide +kernel
theorem dX11_tallyAcross_110 : decode cX11_tallyAcross 110 = .ok (.aload_n 0, 1) := by decide +kernel
theorem dX11_tallyAcross_111 : decode cX11_tallyAcross 111 = .ok (.getfield 58, 3) := by decide +kernel
theorem dX11_tallyAcross_114 : decode cX11_tallyAcross 114 = .ok (.getfield 360, 3) := by decide +kernel
theorem dX11_tallyAcross_117 : decode cX11_tallyAcross 117 = .ok (.iload 5, 2) := by decide +kernel
theorem dX11_tallyAcross_119 : decode cX11_tallyAcross 119 = .ok (.iaload, 1) := by decide +kernel
theorem dX11_tallyAcross_120 : decode cX11_tallyAcross 120 = .ok (.iconst 1, 1) := by decide +kernel
theorem dX11_tallyAcross_121 : decode cX11_tallyAcross 121 = .ok (.invokevirtual 141, 3) := by decide +kernel
theorem dX11_tallyAcross_124 : decode cX11_tallyAcross 124 = .ok (.iload 4, 2) := by decide +kernel
theorem dX11_tallyAcross_126 : decode cX11_tallyAcross 126 = .ok (.if_icmp .eq 6, 3) := by decide +kernel
theorem dX11_tallyAcross_129 : decode cX11_tallyAcross 129 = .ok (.goto 91, 3) := by decide +kernel
theorem dX11_tallyAcross_132 : decode cX11_tallyAcross 132 = .ok (.iconst 0, 1) := by decide +kernel
theorem dX11_tallyAcross_133 : decode cX11_tallyAcross 133 = .ok (.istore 7, 2) := by decide +kernel
theorem dX11_tallyAcross_135 : decode cX11_tallyAcross 135 = .ok (.iload 7, 2) := by decide +kernel
theorem dX11_tallyAcross_137 : decode cX11_tallyAcross 137 = .ok (.aload_n 0, 1) := by decide +kernel
theorem dX11_tallyAcross_138 : decode cX11_tallyAcross 138 = .ok (.getfield 10, 3) := by decide +kernel
theorem dX11_tallyAcross_141 : decode cX11_tallyAcross 141 = .ok (.getfield 108, 3) := by decide +kernel
theorem dX11_tallyAcross_144 : decode cX11_tallyAcross 144 = .ok (.getfield 224, 3) := by decide +kernel
theorem dX11_tallyAcross_147 : decode cX11_tallyAcross 147 = .ok (.if_icmp .ge 73, 3) := by decide +kernel
theorem dX11_tallyAcross_150 : decode cX11_tallyAcross 150 = .ok (.aload_n 0, 1) := by decide +kernel
theorem dX11_tallyAcross_151 : decode cX11_tallyAcross 151 = .ok (.getfield 58, 3) := by decide +kernel
theorem dX11_tallyAcross_154 : decode cX11_tallyAcross 154 = .ok (.iload 5, 2) := by decide +kernel
theorem dX11_tallyAcross_156 : decode cX11_tallyAcross 156 = .ok (.iload 7, 2) := by decide +kernel
theorem dX11_tallyAcross_158 : decode cX11_tallyAcross 158 = .ok (.invokevirtual 349, 3) := by decide +kernel
theorem dX11_tallyAcross_161 : decode cX11_tallyAcross 161 = .ok (.ifCond .le 53, 3) := by decide +kernel
theorem dX11_tallyAcross_164 : decode cX11_tallyAcross 164 = .ok (.aload_n 0, 1) := by decide +kernel
theorem dX11_tallyAcross_165 : decode cX11_tallyAcross 165 = .ok (.getfield 72, 3) := by decide +kernel
theorem dX11_tallyAcross_168 : decode cX11_tallyAcross 168 = .ok (.iload 7, 2) := by decide +kernel
theorem dX11_tallyAcross_170 : decode cX11_tallyAcross 170 = .ok (.invokevirtual 208, 3) := by decide +kernel
theorem dX11_tallyAcross_173 : decode cX11_tallyAcross 173 = .ok (.ifCond .eq 41, 3) := by decide +kernel
theorem dX11_tallyAcross_176 : decode cX11_tallyAcross 176 = .ok (.aload_n 0, 1) := by decide +kernel
theorem dX11_tallyAcross_177 : decode cX11_tallyAcross 177 = .ok (.getfield 93, 3) := by decide +kernel
theorem dX11_tallyAcross_180 : decode cX11_tallyAcross 180 = .ok (.aload_n 0, 1) := by decide +kernel
theorem dX11_tallyAcross_181 : decode cX11_tallyAcross 181 = .ok (.getfield 58, 3) := by decide +kernel
theorem dX11_tallyAcross_184 : decode cX11_tallyAcross 184 = .ok (.iload 5, 2) := by decide +kernel
theorem dX11_tallyAcross_186 : decode cX11_tallyAcross 186 = .ok (.iload 7, 2) := by decide +kernel
theorem dX11_tallyAcross_188 : decode cX11_tallyAcross 188 = .ok (.invokevirtual 366, 3) := by decide +kernel
theorem dX11_tallyAcross_191 : decode cX11_tallyAcross 191 = .ok (.aload_n 0, 1) := by decide +kernel
theorem dX11_tallyAcross_192 : decode cX11_tallyAcross 192 = .ok (.getfield 58, 3) := by decide +kernel
theorem dX11_tallyAcross_195 : decode cX11_tallyAcross 195 = .ok (.iload_n 1, 1) := by decide +kernel
theorem dX11_tallyAcross_196 : decode cX11_tallyAcross 196 = .ok (.iload_n 2, 1) := by decide +kernel
theorem dX11_tallyAcross_197 : decode cX11_tallyAcross 197 = .ok (.invokevirtual 366, 3) := by decide +kernel
theorem dX11_tallyAcross_200 : decode cX11_tallyAcross 200 = .ok (.lsub, 1) := by decide +kernel
theorem dX11_tallyAcross_201 : decode cX11_tallyAcross 201 = .ok (.aload_n 0, 1) := by decide +kernel
theorem dX11_tallyAcross_202 : decode cX11_tallyAcross 202 = .ok (.getfield 72, 3) := by decide +kernel
theorem dX11_tallyAcross_205 : decode cX11_tallyAcross 205 = .ok (.iload 7, 2) := by decide +kernel
theorem dX11_tallyAcross_207 : decode cX11_tallyAcross 207 = .ok (.invokevirtual 215, 3) := by decide +kernel
theorem dX11_tallyAcross_210 : decode cX11_tallyAcross 210 = .ok (.lsub, 1) := by decide +kernel
theorem dX11_tallyAcross_211 : decode cX11_tallyAcross 211 = .ok (.invokevirtual 326, 3) := by decide +kernel
theorem dX11_tallyAcross_214 : decode cX11_tallyAcross 214 = .ok (.iinc 7 1, 3) := by decide +kernel
theorem dX11_tallyAcross_217 : decode cX11_tallyAcross 217 = .ok (.goto (-82), 3) := by decide +kernel
theorem dX11_tallyAcross_220 : decode cX11_tallyAcross 220 = .ok (.iinc 5 1, 3) := by decide +kernel
theorem dX11_tallyAcross_223 : decode cX11_tallyAcross 223 = .ok (.goto (-198), 3) := by decide +kernel
theorem dX11_tallyAcross_226 : decode cX11_tallyAcross 226 = .ok (.return_, 1) := by decide +kernel
set_option maxRecDepth 100000 in
set_option maxHeartbeats 4000000 in
theorem l1_X11_tallyAcross {h : ai_H} {tb lm : Int32} {B : Bk} {ln : Nat} {wk gh hh : Int32} {S R : Md} {z a c : Nat} (hok : bk_ok B ln) (hG : GI B wk S (nR B) z) (ha : a < nO B) (hc : c < z) (hpa : 0 < zc B wk (kC S c) (nI a)) (hca : ¬ (kC S c).2.2 = 3 ∧ bk_nat B (kC S c).1 0 = gh) (hled : rp_led (mt_F S z) (nO B) a R) {i : Nat} (hi : i < z) (hal : (kC S i).2.1 = (kC S c).2.1 ∧ (kC S i).2.2 = (kC S c).2.2) (hci : ¬ (kC S i).2.2 = 3 ∧ bk_nat B (kC S i).1 0 = hh) (hwe : bk_nat B (kC S i).1 1 = bk_nat B (kC S c).1 1) {u6 : Int32} {Q : Option Value → ai_H → Prop} (kx : ∀ (g : ai_H) (t : Ty) (u7 : Value), fr 304 304 h g → x_at g tb lm → bk_at g 1 B → cl_at g S → rp_at g R → g.2.2 304 = ty_cell t → tcL B wk (LM B wk S z) t (LC B wk (LM B wk S z) gh hh S z (lgI (nO B) z a c (i + 1) 0)) → ai_W MX11_tallyAcross 220 [.ref 0, .int (nI c), .int (nI a), .int hh, .int (bk_nat B (kC S c).1 1), .int (nI (i)), .int u6, u7] [] g Q) : ∀ (m b : Nat) (t : Ty) (g : ai_H), b ≤ nO B → nO B + 1 ≤ b + m → fr 304 304 h g → x_at g tb lm → bk_at g 1 B → cl_at g S → rp_at g R → g.2.2 304 = ty_cell t → tcL B wk (LM B wk S z) t (LC B wk (LM B wk S z) gh hh S z (lgI (nO B) z a c i b)) → ai_W MX11_tallyAcross 135 [.ref 0, .int (nI c), .int (nI a), .int hh, .int (bk_nat B (kC S c).1 1), .int (nI (i)), .int u6, .int (nI b)] [] g Q := by
  intro m
  induction m with
  | zero => intro b t g h1 h2; exact absurd h2 (by omega)
  | succ m ih =>
    intro b t g hb0 him E0 hx hB hcl hrp htl htc
    have hn16 := hok.2.1.2.1
    obtain ⟨hlr, htr⟩ := LM_rows hok hG
    have hz4 := hG.1.2.1
    refine wq (fun _ _ kk => rs_iload (pc := 135) dX11_tallyAcross_135 rfl kk) ?_
    refine wq (fun _ _ kk => rs_aload_n (pc := 137) dX11_tallyAcross_137 rfl kk) ?_
    refine wq (fun _ _ kk => rs_getf (pc := 138) dX11_tallyAcross_138 fX11_10 (x_lt hx (by decide)) hx.2 rfl kk) ?_
    refine wq (fun _ _ kk => rs_getf (pc := 141) dX11_tallyAcross_141 fX11_108 (bk_lt hB (by decide)) hB.2.1 rfl kk) ?_
    refine wq (fun _ _ kk => rs_getf (pc := 144) dX11_tallyAcross_144 fX11_224 (bk_lt hB (by decide)) hB.2.2.1.1 rfl kk) ?_
    refine wq_br (fun _ _ kt kf => rs_icmp_ge (tgt := 220) (pc := 147) dX11_tallyAcross_147 rfl kt kf) (fun c_147 => ?_) (fun c_147 => ?_)
    · have hbe : b = nO B := lp_exit hok.2.1.1 (by omega) hb0 c_147
      subst hbe
      exact kx g t _ E0 hx hB hcl hrp htl (by rw [show lgI (nO B) z a c (i + 1) 0 = lgI (nO B) z a c i (nO B) from by unfold lgI; rw [← Nat.add_assoc, Nat.add_mul _ 1, Nat.one_mul, Nat.add_zero]]; exact htc)
    · have hb : b < nO B := lp_go hok.2.1.1 (by omega) c_147
      obtain ⟨la, lb⟩ := led_at htr hlr hn16 ha hled (show b < 16 by omega)
      have ekL := kL_at (S := S) (n := nO B) (a := a) hc hi hb
      refine wq (fun _ _ kk => rs_aload_n (pc := 150) dX11_tallyAcross_150 rfl kk) ?_
      refine wq (fun _ _ kk => rs_getf (pc := 151) dX11_tallyAcross_151 fX11_58 (x_lt hx (by decide)) hx.2 rfl kk) ?_
      refine wq (fun _ _ kk => rs_iload (pc := 154) dX11_tallyAcross_154 rfl kk) ?_
      refine wq (fun _ _ kk => rs_iload (pc := 156) dX11_tallyAcross_156 rfl kk) ?_
      refine wq (fun _ _ kk => rs_callV (as := [_, _]) (pc := 158) dX11_tallyAcross_158 mk_X2_many mlX11_349 in_X2_many se_X2_many rfl (mo_lt hcl (by decide)) hcl.2.1 rfl rfl (Nat.le_of_ble_eq_true rfl) (c_X2_many hcl (cl_sz_of hG) _ _) kk) ?_
      rw [(cl_at_cell hG hi (show b < 16 by omega)).1]
      refine wq_br (fun _ _ kt kf => rs_if_le (tgt := 214) (pc := 161) dX11_tallyAcross_161 rfl kt kf) (fun c_161 => ?_) (fun c_161 => ?_)
      · have hno : lgQ B wk (LM B wk S z) gh hh (kL S (nO B) z (lgI (nO B) z a c i b)) = false := by
          rw [ekL]
          refine decide_eq_false (fun q => ?_)
          rw [i32_le0 (by have := zc_le B hok wk (kC S i) (nI b); omega)] at c_161
          have q2 : 0 < zc B wk (kC S i) (nI b) := q.2.1
          omega
        refine wq (fun _ _ kk => wk_iinc7 (v := nI (b + 1)) (pc := 214) dX11_tallyAcross_214 (by decide) rfl (nI_1 b) kk) ?_
        refine wq (fun _ _ kk => rs_goto (tgt := 135) (pc := 217) dX11_tallyAcross_217 rfl kk) ?_
        exact ih (b + 1) t g (by omega) (by omega) E0 hx hB hcl hrp htl (by
          have e : LC B wk (LM B wk S z) gh hh S z (lgI (nO B) z a c i b + 1) = LC B wk (LM B wk S z) gh hh S z (lgI (nO B) z a c i b) := by unfold LC; rw [lst, if_neg (by rw [hno]; decide)]
          show tcL B wk (LM B wk S z) t (LC B wk (LM B wk S z) gh hh S z (lgI (nO B) z a c i b + 1))
          rw [e]
          exact htc)
      · have hpb : 0 < zc B wk (kC S i) (nI b) := by
          rw [i32_le0 (by have := zc_le B hok wk (kC S i) (nI b); omega)] at c_161
          omega
        refine wq (fun _ _ kk => rs_aload_n (pc := 164) dX11_tallyAcross_164 rfl kk) ?_
        refine wq (fun _ _ kk => rs_getf (pc := 165) dX11_tallyAcross_165 fX11_72 (x_lt hx (by decide)) hx.2 rfl kk) ?_
        refine wq (fun _ _ kk => rs_iload (pc := 168) dX11_tallyAcross_168 rfl kk) ?_
        refine wq (fun _ _ kk => rs_callV (as := [_]) (pc := 170) dX11_tallyAcross_170 mk_X6_reach mlX11_208 in_X6_reach se_X6_reach rfl (mo_lt hrp (by decide)) hrp.2.1 rfl rfl (Nat.le_of_ble_eq_true rfl) (c_X6_reach hrp (show b < 16 by omega)) kk) ?_
        refine wq_br (fun _ _ kt kf => rs_if_eq (tgt := 214) (pc := 173) dX11_tallyAcross_173 rfl kt kf) (fun c_173 => ?_) (fun c_173 => ?_)
        · have hno : lgQ B wk (LM B wk S z) gh hh (kL S (nO B) z (lgI (nO B) z a c i b)) = false := by
            rw [ekL]
            refine decide_eq_false (fun q => ?_)
            have q9 := q.2.2.2.2.2.2.2.2
            rw [nI_clamp (by omega), nI_clamp (by omega)] at q9
            cases hq : ro_end (ro_U (LM B wk S z)) (nO B) a b with
            | none => exact q9 hq
            | some v => exact (lb v hq).2.2.2.2.2 c_173
          refine wq (fun _ _ kk => wk_iinc7 (v := nI (b + 1)) (pc := 214) dX11_tallyAcross_214 (by decide) rfl (nI_1 b) kk) ?_
          refine wq (fun _ _ kk => rs_goto (tgt := 135) (pc := 217) dX11_tallyAcross_217 rfl kk) ?_
          exact ih (b + 1) t g (by omega) (by omega) E0 hx hB hcl hrp htl (by
            have e : LC B wk (LM B wk S z) gh hh S z (lgI (nO B) z a c i b + 1) = LC B wk (LM B wk S z) gh hh S z (lgI (nO B) z a c i b) := by unfold LC; rw [lst, if_neg (by rw [hno]; decide)]
            show tcL B wk (LM B wk S z) t (LC B wk (LM B wk S z) gh hh S z (lgI (nO B) z a c i b + 1))
            rw [e]
            exact htc)
        · obtain ⟨v, hv⟩ : ∃ v, ro_end (ro_U (LM B wk S z)) (nO B) a b = some v := by
            cases hq : ro_end (ro_U (LM B wk S z)) (nO B) a b with
            | none => exact absurd (la hq).2 c_173
            | some v => exact ⟨v, rfl⟩
          obtain ⟨v1, v2, v3, v4, v5, v6⟩ := lb v hv
          have e2 := (hled b (by omega)).2.2
          rw [lean_is htr hlr hn16 ha hb, rle_zle] at e2
          have hyes : lgQ B wk (LM B wk S z) gh hh (kL S (nO B) z (lgI (nO B) z a c i b)) = true := by
            rw [ekL]
            refine decide_eq_true ⟨hpa, hpb, hca.1, hca.2, hal.1, hal.2, hci.2, hwe, ?_⟩
            rw [nI_clamp (by omega), nI_clamp (by omega), hv]
            exact fun z => by cases z
          refine wq (fun _ _ kk => rs_aload_n (pc := 176) dX11_tallyAcross_176 rfl kk) ?_
          refine wq (fun _ _ kk => rs_getf (pc := 177) dX11_tallyAcross_177 fX11_93 (x_lt hx (by decide)) hx.2 rfl kk) ?_
          refine wq (fun _ _ kk => rs_aload_n (pc := 180) dX11_tallyAcross_180 rfl kk) ?_
          refine wq (fun _ _ kk => rs_getf (pc := 181) dX11_tallyAcross_181 fX11_58 (x_lt hx (by decide)) hx.2 rfl kk) ?_
          refine wq (fun _ _ kk => rs_iload (pc := 184) dX11_tallyAcross_184 rfl kk) ?_
          refine wq (fun _ _ kk => rs_iload (pc := 186) dX11_tallyAcross_186 rfl kk) ?_
          refine wq (fun _ _ kk => rs_callV (as := [_, _]) (pc := 188) dX11_tallyAcross_188 mk_X2_mean mlX11_366 in_X2_mean se_X2_mean rfl (mo_lt hcl (by decide)) hcl.2.1 rfl rfl (Nat.le_of_ble_eq_true rfl) (c_X2_mean hcl (cl_sz_of hG) _ _) kk) ?_
          rw [cl_mean_at hok hG hi (by omega) hpb]
          refine wq (fun _ _ kk => rs_aload_n (pc := 191) dX11_tallyAcross_191 rfl kk) ?_
          refine wq (fun _ _ kk => rs_getf (pc := 192) dX11_tallyAcross_192 fX11_58 (x_lt hx (by decide)) hx.2 rfl kk) ?_
          refine wq (fun _ _ kk => rs_iload_n (pc := 195) dX11_tallyAcross_195 rfl kk) ?_
          refine wq (fun _ _ kk => rs_iload_n (pc := 196) dX11_tallyAcross_196 rfl kk) ?_
          refine wq (fun _ _ kk => rs_callV (as := [_, _]) (pc := 197) dX11_tallyAcross_197 mk_X2_mean mlX11_366 in_X2_mean se_X2_mean rfl (mo_lt hcl (by decide)) hcl.2.1 rfl rfl (Nat.le_of_ble_eq_true rfl) (c_X2_mean hcl (cl_sz_of hG) _ _) kk) ?_
          rw [cl_mean_at hok hG hc (by omega) hpa]
          refine wq (fun _ _ kk => rs_lsub (pc := 200) dX11_tallyAcross_200 kk) ?_
          rw [aL_sub]
          refine wq (fun _ _ kk => rs_aload_n (pc := 201) dX11_tallyAcross_201 rfl kk) ?_
          refine wq (fun _ _ kk => rs_getf (pc := 202) dX11_tallyAcross_202 fX11_72 (x_lt hx (by decide)) hx.2 rfl kk) ?_
          refine wq (fun _ _ kk => rs_iload (pc := 205) dX11_tallyAcross_205 rfl kk) ?_
          refine wq (fun _ _ kk => rs_callV (as := [_]) (pc := 207) dX11_tallyAcross_207 mk_X6_lean mlX11_215 in_X6_lean se_X6_lean rfl (mo_lt hrp (by decide)) hrp.2.1 rfl rfl (Nat.le_of_ble_eq_true rfl) (c_X6_lean hrp (show b < 16 by omega)) kk) ?_
          rw [if_neg v5, e2]
          refine wq (fun _ _ kk => rs_lsub (pc := 210) dX11_tallyAcross_210 kk) ?_
          rw [aL_sub]
          obtain ⟨rv_211, hc_211, ⟨rfl, ee_211, htl_211⟩, hm_211⟩ := q_add hx htl _
          refine wq (fun _ _ kk => rs_callV (as := [_]) (pc := 211) dX11_tallyAcross_211 mk_X9_add mlX11_326 in_X9_add se_X9_add rfl (x_lt hx (by decide)) htl rfl rfl (Nat.le_of_ble_eq_true rfl) (hm_211) kk) ?_
          replace htl := htl_211
          replace hx := x_at.keep hx ee_211.1 (ee_211.2.2 0 (by decide))
          replace hB := hB.keep ee_211.1 (fun j _ _ => ee_211.2.2 j (by omega))
          replace hcl := cl_keep hcl ee_211.1 (fun j _ _ => ee_211.2.2 j (by omega))
          replace hrp := rp_keep hrp ee_211.1 (fun j _ _ => ee_211.2.2 j (by omega))
          refine wq (fun _ _ kk => wk_iinc7 (v := nI (b + 1)) (pc := 214) dX11_tallyAcross_214 (by decide) rfl (nI_1 b) kk) ?_
          refine wq (fun _ _ kk => rs_goto (tgt := 135) (pc := 217) dX11_tallyAcross_217 rfl kk) ?_
          refine ih (b + 1) _ _ (by omega) (by omega) (E0.trans ee_211) hx hB hcl hrp htl ?_
          show tcL B wk (LM B wk S z) _ (LC B wk (LM B wk S z) gh hh S z (lgI (nO B) z a c i b + 1))
          have e : LC B wk (LM B wk S z) gh hh S z (lgI (nO B) z a c i b + 1) = kL S (nO B) z (lgI (nO B) z a c i b) :: LC B wk (LM B wk S z) gh hh S z (lgI (nO B) z a c i b) := by unfold LC; rw [lst, if_pos hyes]
          rw [e]
          refine tcL_add htc ?_
          rw [ekL]
          unfold lgV
          rw [nI_clamp (by omega), nI_clamp (by omega)]
set_option maxRecDepth 100000 in
set_option maxHeartbeats 4000000 in
theorem l2_X11_tallyAcross {h : ai_H} {tb lm : Int32} {B : Bk} {ln : Nat} {wk gh hh : Int32} {S R : Md} {z a c : Nat} (hok : bk_ok B ln) (hG : GI B wk S (nR B) z) (ha : a < nO B) (hc : c < z) (hpa : 0 < zc B wk (kC S c) (nI a)) (hca : ¬ (kC S c).2.2 = 3 ∧ bk_nat B (kC S c).1 0 = gh) (hled : rp_led (mt_F S z) (nO B) a R) : ∀ (m i : Nat) (t : Ty) (u6 u7 : Value) (g : ai_H), i ≤ z → z + 1 ≤ i + m → fr 304 304 h g → x_at g tb lm → bk_at g 1 B → cl_at g S → rp_at g R → g.2.2 304 = ty_cell t → tcL B wk (LM B wk S z) t (LC B wk (LM B wk S z) gh hh S z (lgI (nO B) z a c i 0)) → ai_W MX11_tallyAcross 25 [.ref 0, .int (nI c), .int (nI a), .int hh, .int (bk_nat B (kC S c).1 1), .int (nI (i)), u6, u7] [] g (fun r g => r = none ∧ fr 304 304 h g ∧ x_at g tb lm ∧ bk_at g 1 B ∧ cl_at g S ∧ rp_at g R ∧ ∃ t, g.2.2 304 = ty_cell t ∧ tcL B wk (LM B wk S z) t (LC B wk (LM B wk S z) gh hh S z (lgI (nO B) z a c z 0))) := by
  intro m
  induction m with
  | zero => intro i t u6 u7 g h1 h2; exact absurd h2 (by omega)
  | succ m ih =>
    intro i t u6 u7 g hi0 him E0 hx hB hcl hrp htl htc
    have hn16 := hok.2.1.2.1
    obtain ⟨hlr, htr⟩ := LM_rows hok hG
    have hz4 := hG.1.2.1
    refine wq (fun _ _ kk => rs_iload (pc := 25) dX11_tallyAcross_25 rfl kk) ?_
    refine wq (fun _ _ kk => rs_aload_n (pc := 27) dX11_tallyAcross_27 rfl kk) ?_
    refine wq (fun _ _ kk => rs_getf (pc := 28) dX11_tallyAcross_28 fX11_58 (x_lt hx (by decide)) hx.2 rfl kk) ?_
    refine wq (fun _ _ kk => rs_getf (pc := 31) dX11_tallyAcross_31 fX11_348 (mo_lt hcl (by decide)) hcl.2.1 rfl kk) ?_
    refine wq_br (fun _ _ kt kf => rs_icmp_ge (tgt := 226) (pc := 34) dX11_tallyAcross_34 rfl kt kf) (fun c_34 => ?_) (fun c_34 => ?_)
    · have hie : i = z := lp_exit hG.1.1 (by omega) hi0 c_34
      subst hie
      refine wq_ret ?_ (rs_vret (pc := 226) dX11_tallyAcross_226 rfl)
      exact ⟨rfl, E0, hx, hB, hcl, hrp, t, htl, htc⟩
    · have hi : i < z := lp_go hG.1.1 (by omega) c_34
      refine wq (fun _ _ kk => rs_aload_n (pc := 37) dX11_tallyAcross_37 rfl kk) ?_
      refine wq (fun _ _ kk => rs_getf (pc := 38) dX11_tallyAcross_38 fX11_58 (x_lt hx (by decide)) hx.2 rfl kk) ?_
      refine wq (fun _ _ kk => rs_getf (pc := 41) dX11_tallyAcross_41 fX11_363 (mo_lt hcl (by decide)) hcl.2.1 rfl kk) ?_
      refine wq (fun _ _ kk => rs_iload (pc := 44) dX11_tallyAcross_44 rfl kk) ?_
      refine wq (fun _ _ kk => rs_iald (pc := 46) dX11_tallyAcross_46 (mo_lt hcl (by decide)) (mo_geti (d := 3) (k := 4) (kd := 0) (l := 400) rfl (by decide) hcl) (vp_in_nI (n := i) (N := 400) (by omega) (by decide)) kk) ?_
      rw [nI_clamp (show i < 2 ^ 31 by omega)]
      refine wq (fun _ _ kk => rs_aload_n (pc := 47) dX11_tallyAcross_47 rfl kk) ?_
      refine wq (fun _ _ kk => rs_getf (pc := 48) dX11_tallyAcross_48 fX11_58 (x_lt hx (by decide)) hx.2 rfl kk) ?_
      refine wq (fun _ _ kk => rs_getf (pc := 51) dX11_tallyAcross_51 fX11_363 (mo_lt hcl (by decide)) hcl.2.1 rfl kk) ?_
      refine wq (fun _ _ kk => rs_iload_n (pc := 54) dX11_tallyAcross_54 rfl kk) ?_
      refine wq (fun _ _ kk => rs_iald (pc := 55) dX11_tallyAcross_55 (mo_lt hcl (by decide)) (mo_geti (d := 3) (k := 4) (kd := 0) (l := 400) rfl (by decide) hcl) (vp_in_nI (n := c) (N := 400) (by omega) (by decide)) kk) ?_
      rw [nI_clamp (show c < 2 ^ 31 by omega)]
      refine wq_bn (fun _ _ kt kf => rs_icmp_ne (tgt := 85) (pc := 56) dX11_tallyAcross_56 rfl kt kf) (fun c_56 => ?_) (fun c_56 => ?_)
      · refine wq (fun _ _ kk => rs_iconst (v := 0) (pc := 85) dX11_tallyAcross_85 rfl kk) ?_
        refine wq (fun _ _ kk => wk_ist6 (pc := 86) dX11_tallyAcross_86 (by decide) rfl kk) ?_
        refine wq (fun _ _ kk => rs_iload (pc := 88) dX11_tallyAcross_88 rfl kk) ?_
        refine wq_br (fun _ _ kt kf => rs_if_eq (tgt := 220) (pc := 90) dX11_tallyAcross_90 rfl kt kf) (fun c_90 => ?_) (fun c_90 => absurd c_90 (by decide))
        refine wq (fun _ _ kk => wk_iinc5 (v := nI (i + 1)) (pc := 220) dX11_tallyAcross_220 (by decide) rfl (nI_1 i) kk) ?_
        refine wq (fun _ _ kk => rs_goto (tgt := 25) (pc := 223) dX11_tallyAcross_223 rfl kk) ?_
        have hsk : LC B wk (LM B wk S z) gh hh S z (lgI (nO B) z a c (i + 1) 0) = LC B wk (LM B wk S z) gh hh S z (lgI (nO B) z a c i 0) := by
          refine lst_skip (by unfold lgI; exact Nat.mul_le_mul_right _ (by omega)) (fun k k1 k2 => ?_)
          obtain ⟨b, hb, rfl⟩ : ∃ b, b < nO B ∧ k = lgI (nO B) z a c i b := by
            refine ⟨k - lgI (nO B) z a c i 0, ?_, ?_⟩
            · have e : lgI (nO B) z a c (i + 1) 0 = lgI (nO B) z a c i 0 + nO B := by unfold lgI; rw [← Nat.add_assoc, Nat.add_mul _ 1, Nat.one_mul, Nat.add_zero, Nat.add_zero]
              omega
            · unfold lgI at k1 ⊢
              omega
          show lgQ B wk (LM B wk S z) gh hh (kL S (nO B) z _) = false
          rw [kL_at hc hi hb]
          refine decide_eq_false (fun q => ?_)
          first
          | exact c_56 q.2.2.2.2.1
          | exact c_78 q.2.2.2.2.2.1
          | exact c_100 ⟨by rw [q.2.2.2.2.2.1]; exact q.2.2.1, q.2.2.2.2.2.2.1⟩
          | exact c_126 q.2.2.2.2.2.2.2.1
        exact ih (i + 1) t _ _ g (by omega) (by omega) E0 hx hB hcl hrp htl (by rw [hsk]; exact htc)
      · refine wq (fun _ _ kk => rs_aload_n (pc := 59) dX11_tallyAcross_59 rfl kk) ?_
        refine wq (fun _ _ kk => rs_getf (pc := 60) dX11_tallyAcross_60 fX11_58 (x_lt hx (by decide)) hx.2 rfl kk) ?_
        refine wq (fun _ _ kk => rs_getf (pc := 63) dX11_tallyAcross_63 fX11_357 (mo_lt hcl (by decide)) hcl.2.1 rfl kk) ?_
        refine wq (fun _ _ kk => rs_iload (pc := 66) dX11_tallyAcross_66 rfl kk) ?_
        refine wq (fun _ _ kk => rs_iald (pc := 68) dX11_tallyAcross_68 (mo_lt hcl (by decide)) (mo_geti (d := 4) (k := 5) (kd := 0) (l := 400) rfl (by decide) hcl) (vp_in_nI (n := i) (N := 400) (by omega) (by decide)) kk) ?_
        rw [nI_clamp (show i < 2 ^ 31 by omega)]
        refine wq (fun _ _ kk => rs_aload_n (pc := 69) dX11_tallyAcross_69 rfl kk) ?_
        refine wq (fun _ _ kk => rs_getf (pc := 70) dX11_tallyAcross_70 fX11_58 (x_lt hx (by decide)) hx.2 rfl kk) ?_
        refine wq (fun _ _ kk => rs_getf (pc := 73) dX11_tallyAcross_73 fX11_357 (mo_lt hcl (by decide)) hcl.2.1 rfl kk) ?_
        refine wq (fun _ _ kk => rs_iload_n (pc := 76) dX11_tallyAcross_76 rfl kk) ?_
        refine wq (fun _ _ kk => rs_iald (pc := 77) dX11_tallyAcross_77 (mo_lt hcl (by decide)) (mo_geti (d := 4) (k := 5) (kd := 0) (l := 400) rfl (by decide) hcl) (vp_in_nI (n := c) (N := 400) (by omega) (by decide)) kk) ?_
        rw [nI_clamp (show c < 2 ^ 31 by omega)]
        refine wq_bn (fun _ _ kt kf => rs_icmp_ne (tgt := 85) (pc := 78) dX11_tallyAcross_78 rfl kt kf) (fun c_78 => ?_) (fun c_78 => ?_)
        · refine wq (fun _ _ kk => rs_iconst (v := 0) (pc := 85) dX11_tallyAcross_85 rfl kk) ?_
          refine wq (fun _ _ kk => wk_ist6 (pc := 86) dX11_tallyAcross_86 (by decide) rfl kk) ?_
          refine wq (fun _ _ kk => rs_iload (pc := 88) dX11_tallyAcross_88 rfl kk) ?_
          refine wq_br (fun _ _ kt kf => rs_if_eq (tgt := 220) (pc := 90) dX11_tallyAcross_90 rfl kt kf) (fun c_90 => ?_) (fun c_90 => absurd c_90 (by decide))
          refine wq (fun _ _ kk => wk_iinc5 (v := nI (i + 1)) (pc := 220) dX11_tallyAcross_220 (by decide) rfl (nI_1 i) kk) ?_
          refine wq (fun _ _ kk => rs_goto (tgt := 25) (pc := 223) dX11_tallyAcross_223 rfl kk) ?_
          have hsk : LC B wk (LM B wk S z) gh hh S z (lgI (nO B) z a c (i + 1) 0) = LC B wk (LM B wk S z) gh hh S z (lgI (nO B) z a c i 0) := by
            refine lst_skip (by unfold lgI; exact Nat.mul_le_mul_right _ (by omega)) (fun k k1 k2 => ?_)
            obtain ⟨b, hb, rfl⟩ : ∃ b, b < nO B ∧ k = lgI (nO B) z a c i b := by
              refine ⟨k - lgI (nO B) z a c i 0, ?_, ?_⟩
              · have e : lgI (nO B) z a c (i + 1) 0 = lgI (nO B) z a c i 0 + nO B := by unfold lgI; rw [← Nat.add_assoc, Nat.add_mul _ 1, Nat.one_mul, Nat.add_zero, Nat.add_zero]
                omega
              · unfold lgI at k1 ⊢
                omega
            show lgQ B wk (LM B wk S z) gh hh (kL S (nO B) z _) = false
            rw [kL_at hc hi hb]
            refine decide_eq_false (fun q => ?_)
            first
            | exact c_56 q.2.2.2.2.1
            | exact c_78 q.2.2.2.2.2.1
            | exact c_100 ⟨by rw [q.2.2.2.2.2.1]; exact q.2.2.1, q.2.2.2.2.2.2.1⟩
            | exact c_126 q.2.2.2.2.2.2.2.1
          exact ih (i + 1) t _ _ g (by omega) (by omega) E0 hx hB hcl hrp htl (by rw [hsk]; exact htc)
        · refine wq (fun _ _ kk => rs_iconst (v := 1) (pc := 81) dX11_tallyAcross_81 rfl kk) ?_
          refine wq (fun _ _ kk => rs_goto (tgt := 86) (pc := 82) dX11_tallyAcross_82 rfl kk) ?_
          refine wq (fun _ _ kk => wk_ist6 (pc := 86) dX11_tallyAcross_86 (by decide) rfl kk) ?_
          refine wq (fun _ _ kk => rs_iload (pc := 88) dX11_tallyAcross_88 rfl kk) ?_
          refine wq_br (fun _ _ kt kf => rs_if_eq (tgt := 220) (pc := 90) dX11_tallyAcross_90 rfl kt kf) (fun c_90 => absurd c_90 (by decide)) (fun c_90 => ?_)
          refine wq (fun _ _ kk => rs_aload_n (pc := 93) dX11_tallyAcross_93 rfl kk) ?_
          refine wq (fun _ _ kk => rs_iload (pc := 94) dX11_tallyAcross_94 rfl kk) ?_
          refine wq (fun _ _ kk => rs_iload_n (pc := 96) dX11_tallyAcross_96 rfl kk) ?_
          refine wq (fun _ _ kk => rs_callV (as := [_, _]) (pc := 97) dX11_tallyAcross_97 mk_X11_isCellOfHouse mlX11_351 in_X11_isCellOfHouse se_X11_isCellOfHouse rfl (x_lt hx (by decide)) hx.2 rfl rfl (Nat.le_of_ble_eq_true rfl) (c_X11_isCellOfHouse hx hB hcl (show i < 400 by omega) hh) kk) ?_
          refine wq_br (fun _ _ kt kf => rs_if_eq (tgt := 220) (pc := 100) dX11_tallyAcross_100 rfl kt kf) (fun c_100 => ?_) (fun c_100 => ?_)
          · rw [b32_0] at c_100
            refine wq (fun _ _ kk => wk_iinc5 (v := nI (i + 1)) (pc := 220) dX11_tallyAcross_220 (by decide) rfl (nI_1 i) kk) ?_
            refine wq (fun _ _ kk => rs_goto (tgt := 25) (pc := 223) dX11_tallyAcross_223 rfl kk) ?_
            have hsk : LC B wk (LM B wk S z) gh hh S z (lgI (nO B) z a c (i + 1) 0) = LC B wk (LM B wk S z) gh hh S z (lgI (nO B) z a c i 0) := by
              refine lst_skip (by unfold lgI; exact Nat.mul_le_mul_right _ (by omega)) (fun k k1 k2 => ?_)
              obtain ⟨b, hb, rfl⟩ : ∃ b, b < nO B ∧ k = lgI (nO B) z a c i b := by
                refine ⟨k - lgI (nO B) z a c i 0, ?_, ?_⟩
                · have e : lgI (nO B) z a c (i + 1) 0 = lgI (nO B) z a c i 0 + nO B := by unfold lgI; rw [← Nat.add_assoc, Nat.add_mul _ 1, Nat.one_mul, Nat.add_zero, Nat.add_zero]
                  omega
                · unfold lgI at k1 ⊢
                  omega
              show lgQ B wk (LM B wk S z) gh hh (kL S (nO B) z _) = false
              rw [kL_at hc hi hb]
              refine decide_eq_false (fun q => ?_)
              first
              | exact c_56 q.2.2.2.2.1
              | exact c_78 q.2.2.2.2.2.1
              | exact c_100 ⟨by rw [q.2.2.2.2.2.1]; exact q.2.2.1, q.2.2.2.2.2.2.1⟩
              | exact c_126 q.2.2.2.2.2.2.2.1
            exact ih (i + 1) t _ _ g (by omega) (by omega) E0 hx hB hcl hrp htl (by rw [hsk]; exact htc)
          · rw [b32_0, Classical.not_not] at c_100
            refine wq (fun _ _ kk => rs_aload_n (pc := 103) dX11_tallyAcross_103 rfl kk) ?_
            refine wq (fun _ _ kk => rs_getf (pc := 104) dX11_tallyAcross_104 fX11_10 (x_lt hx (by decide)) hx.2 rfl kk) ?_
            refine wq (fun _ _ kk => rs_getf (pc := 107) dX11_tallyAcross_107 fX11_128 (bk_lt hB (by decide)) hB.2.1 rfl kk) ?_
            refine wq (fun _ _ kk => rs_aload_n (pc := 110) dX11_tallyAcross_110 rfl kk) ?_
            refine wq (fun _ _ kk => rs_getf (pc := 111) dX11_tallyAcross_111 fX11_58 (x_lt hx (by decide)) hx.2 rfl kk) ?_
            refine wq (fun _ _ kk => rs_getf (pc := 114) dX11_tallyAcross_114 fX11_360 (mo_lt hcl (by decide)) hcl.2.1 rfl kk) ?_
            refine wq (fun _ _ kk => rs_iload (pc := 117) dX11_tallyAcross_117 rfl kk) ?_
            refine wq (fun _ _ kk => rs_iald (pc := 119) dX11_tallyAcross_119 (mo_lt hcl (by decide)) (mo_geti (d := 2) (k := 3) (kd := 0) (l := 400) rfl (by decide) hcl) (vp_in_nI (n := i) (N := 400) (by omega) (by decide)) kk) ?_
            rw [nI_clamp (show i < 2 ^ 31 by omega)]
            refine wq (fun _ _ kk => rs_iconst (v := 1) (pc := 120) dX11_tallyAcross_120 rfl kk) ?_
            refine wq (fun _ _ kk => rs_callV (as := [_, _]) (pc := 121) dX11_tallyAcross_121 mk_X8_at mlX11_141 in_X8_at se_X8_at rfl (bk_lt hB (by decide)) hB.2.2.2.2.1.1 rfl rfl (Nat.le_of_ble_eq_true rfl) (c_X8_at (bk_lt hB (by decide)) hB.2.2.2.2.1.1 (bk_lt hB (by decide)) hB.2.2.2.2.1.2.1 hB.2.2.2.2.1.2.2 _ _) kk) ?_
            refine wq (fun _ _ kk => rs_iload (pc := 124) dX11_tallyAcross_124 rfl kk) ?_
            refine wq_br (fun _ _ kt kf => rs_icmp_eq (tgt := 132) (pc := 126) dX11_tallyAcross_126 rfl kt kf) (fun c_126 => ?_) (fun c_126 => ?_)
            · refine wq (fun _ _ kk => rs_iconst (v := 0) (pc := 132) dX11_tallyAcross_132 rfl kk) ?_
              refine wq (fun _ _ kk => wk_ist7 (pc := 133) dX11_tallyAcross_133 (by decide) rfl kk) ?_
              refine l1_X11_tallyAcross (h := h) (gh := gh) (i := i) hok hG ha hc hpa hca hled hi ⟨c_56, c_78⟩ c_100 c_126 ?_ (nO B + 1) 0 t _ (by omega) (by omega) E0 hx hB hcl hrp htl htc
              clear E0 hx hB hcl hrp htl htc
              intro g t u7 E0 hx hB hcl hrp htl htc
              refine wq (fun _ _ kk => wk_iinc5 (v := nI (i + 1)) (pc := 220) dX11_tallyAcross_220 (by decide) rfl (nI_1 i) kk) ?_
              refine wq (fun _ _ kk => rs_goto (tgt := 25) (pc := 223) dX11_tallyAcross_223 rfl kk) ?_
              exact ih (i + 1) t _ _ g (by omega) (by omega) E0 hx hB hcl hrp htl htc
            · refine wq (fun _ _ kk => rs_goto (tgt := 220) (pc := 129) dX11_tallyAcross_129 rfl kk) ?_
              refine wq (fun _ _ kk => wk_iinc5 (v := nI (i + 1)) (pc := 220) dX11_tallyAcross_220 (by decide) rfl (nI_1 i) kk) ?_
              refine wq (fun _ _ kk => rs_goto (tgt := 25) (pc := 223) dX11_tallyAcross_223 rfl kk) ?_
              have hsk : LC B wk (LM B wk S z) gh hh S z (lgI (nO B) z a c (i + 1) 0) = LC B wk (LM B wk S z) gh hh S z (lgI (nO B) z a c i 0) := by
                refine lst_skip (by unfold lgI; exact Nat.mul_le_mul_right _ (by omega)) (fun k k1 k2 => ?_)
                obtain ⟨b, hb, rfl⟩ : ∃ b, b < nO B ∧ k = lgI (nO B) z a c i b := by
                  refine ⟨k - lgI (nO B) z a c i 0, ?_, ?_⟩
                  · have e : lgI (nO B) z a c (i + 1) 0 = lgI (nO B) z a c i 0 + nO B := by unfold lgI; rw [← Nat.add_assoc, Nat.add_mul _ 1, Nat.one_mul, Nat.add_zero, Nat.add_zero]
                    omega
                  · unfold lgI at k1 ⊢
                    omega
                show lgQ B wk (LM B wk S z) gh hh (kL S (nO B) z _) = false
                rw [kL_at hc hi hb]
                refine decide_eq_false (fun q => ?_)
                first
                | exact c_56 q.2.2.2.2.1
                | exact c_78 q.2.2.2.2.2.1
                | exact c_100 ⟨by rw [q.2.2.2.2.2.1]; exact q.2.2.1, q.2.2.2.2.2.2.1⟩
                | exact c_126 q.2.2.2.2.2.2.2.1
              exact ih (i + 1) t _ _ g (by omega) (by omega) E0 hx hB hcl hrp htl (by rw [hsk]; exact htc)
set_option maxRecDepth 100000 in
set_option maxHeartbeats 4000000 in
theorem c_X11_tallyAcross {h : ai_H} {tb lm : Int32} {B : Bk} {ln : Nat} {wk gh hh : Int32} {S R : Md} {z a c : Nat} (hok : bk_ok B ln) (hG : GI B wk S (nR B) z) (ha : a < nO B) (hc : c < z) (hpa : 0 < zc B wk (kC S c) (nI a)) (hca : ¬ (kC S c).2.2 = 3 ∧ bk_nat B (kC S c).1 0 = gh) (hled : rp_led (mt_F S z) (nO B) a R) {t : Ty} (hx : x_at h tb lm) (hB : bk_at h 1 B) (hcl : cl_at h S) (hrp : rp_at h R) (htl : h.2.2 304 = ty_cell t) (htc : tcL B wk (LM B wk S z) t (LC B wk (LM B wk S z) gh hh S z (lgI (nO B) z a c 0 0))) : ai_QM MX11_tallyAcross [.ref 0, .int (nI c), .int (nI a), .int hh] h (fun r g => r = none ∧ fr 304 304 h g ∧ x_at g tb lm ∧ bk_at g 1 B ∧ cl_at g S ∧ rp_at g R ∧ ∃ t, g.2.2 304 = ty_cell t ∧ tcL B wk (LM B wk S z) t (LC B wk (LM B wk S z) gh hh S z (lgI (nO B) z a c z 0))) := by
  have hz4 := hG.1.2.1
  refine qm_of (ls := [.ref 0, .int (nI c), .int (nI a), .int hh, .float 0, .float 0, .float 0, .float 0]) (by decide) (by simp [ai_en, Value.category]) (by rfl) ?_
  refine wq (fun _ _ kk => rs_aload_n (pc := 0) dX11_tallyAcross_0 rfl kk) ?_
  refine wq (fun _ _ kk => rs_getf (pc := 1) dX11_tallyAcross_1 fX11_10 (x_lt hx (by decide)) hx.2 rfl kk) ?_
  refine wq (fun _ _ kk => rs_getf (pc := 4) dX11_tallyAcross_4 fX11_128 (bk_lt hB (by decide)) hB.2.1 rfl kk) ?_
  refine wq (fun _ _ kk => rs_aload_n (pc := 7) dX11_tallyAcross_7 rfl kk) ?_
  refine wq (fun _ _ kk => rs_getf (pc := 8) dX11_tallyAcross_8 fX11_58 (x_lt hx (by decide)) hx.2 rfl kk) ?_
  refine wq (fun _ _ kk => rs_getf (pc := 11) dX11_tallyAcross_11 fX11_360 (mo_lt hcl (by decide)) hcl.2.1 rfl kk) ?_
  refine wq (fun _ _ kk => rs_iload_n (pc := 14) dX11_tallyAcross_14 rfl kk) ?_
  refine wq (fun _ _ kk => rs_iald (pc := 15) dX11_tallyAcross_15 (mo_lt hcl (by decide)) (mo_geti (d := 2) (k := 3) (kd := 0) (l := 400) rfl (by decide) hcl) (vp_in_nI (n := c) (N := 400) (by omega) (by decide)) kk) ?_
  rw [nI_clamp (show c < 2 ^ 31 by omega)]
  refine wq (fun _ _ kk => rs_iconst (v := 1) (pc := 16) dX11_tallyAcross_16 rfl kk) ?_
  refine wq (fun _ _ kk => rs_callV (as := [_, _]) (pc := 17) dX11_tallyAcross_17 mk_X8_at mlX11_141 in_X8_at se_X8_at rfl (bk_lt hB (by decide)) hB.2.2.2.2.1.1 rfl rfl (Nat.le_of_ble_eq_true rfl) (c_X8_at (bk_lt hB (by decide)) hB.2.2.2.2.1.1 (bk_lt hB (by decide)) hB.2.2.2.2.1.2.1 hB.2.2.2.2.1.2.2 _ _) kk) ?_
  refine wq (fun _ _ kk => wk_ist4 (pc := 20) dX11_tallyAcross_20 (by decide) rfl kk) ?_
  refine wq (fun _ _ kk => rs_iconst (v := 0) (pc := 22) dX11_tallyAcross_22 rfl kk) ?_
  refine wq (fun _ _ kk => wk_ist5 (pc := 23) dX11_tallyAcross_23 (by decide) rfl kk) ?_
  exact l2_X11_tallyAcross (h := h) (gh := gh) hok hG ha hc hpa hca hled (z + 1) 0 t _ _ _ (by omega) (by omega) fr.rf hx hB hcl hrp htl htc
