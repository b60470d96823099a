/-! 43: scatter, finest (walks laid by wip/whole/p43.py) -/
theorem nI_i2l {n : Nat} (h : n < 2 ^ 31) : (nI n).toInt64 = aL (n : Int) := by rw [← aI_nat, aI_i2l (by omega) (by omega)]
theorem nI_s1 (n : Nat) : nI n - 1 = aI ((n : Int) - 1) := by rw [← aI_nat, show (1 : Int32) = aI 1 from rfl, aI_sub]
theorem sq_nn (x : Int) : 0 ≤ x * x := by
  rcases Int.le_total 0 x with h | h
  · exact Int.mul_nonneg h h
  · exact Int.mul_nonneg_of_nonpos_of_nonpos h h
theorem zS_qx (p : Nat → Bool) (v : Nat → Int) (x : Int) : ∀ n, 0 ≤ zS p (fun k => v k * v k) n + (cN p n : Int) * x * x - 2 * zS p v n * x := by
  intro n
  induction n with
  | zero => simp [zS, cN]
  | succ n ih =>
    rw [zS, zS, cN]
    split
    · have e : zS p (fun k => v k * v k) n + v n * v n + ((cN p n + 1 : Nat) : Int) * x * x - 2 * (zS p v n + v n) * x = (zS p (fun k => v k * v k) n + (cN p n : Int) * x * x - 2 * zS p v n * x) + (v n - x) * (v n - x) := by
        rw [Int.natCast_add]
        grind
      have := sq_nn (v n - x)
      rw [e]
      omega
    · exact ih
/-- the squares' sum, many times, is no less than the sum's square -/
theorem zS_cs (p : Nat → Bool) (v : Nat → Int) : ∀ n, 0 ≤ (cN p n : Int) * zS p (fun k => v k * v k) n - zS p v n * zS p v n := by
  intro n
  induction n with
  | zero => simp [zS, cN]
  | succ n ih =>
    have h := zS_qx p v (v n) n
    rw [zS, zS, cN]
    split
    · have e : ((cN p n + 1 : Nat) : Int) * (zS p (fun k => v k * v k) n + v n * v n) - (zS p v n + v n) * (zS p v n + v n) = ((cN p n : Int) * zS p (fun k => v k * v k) n - zS p v n * zS p v n) + (zS p (fun k => v k * v k) n + (cN p n : Int) * v n * v n - 2 * zS p v n * v n) := by
        rw [Int.natCast_add]
        grind
      rw [e]
      omega
    · exact ih
def zq (B : Bk) (wk : Int32) (K : Int32 × Int32 × Int32) (o : Int32) : Int := zS (ga B wk K.1 K.2.1 K.2.2 o) (fun k => rR B k * rR B k) (nR B)
theorem rR_sq {B : Bk} {ln : Nat} (hok : bk_ok B ln) {k : Nat} (hk : k < nR B) : rR B k * rR B k ≤ 103978809 := by
  have h := rR_b hok hk
  have h1 : 0 ≤ (10197 - rR B k) * (10197 + rR B k) := Int.mul_nonneg (by omega) (by omega)
  have e : (10197 - rR B k) * (10197 + rR B k) = 103978809 - rR B k * rR B k := by grind
  omega
theorem a_sq_zq {B : Bk} {ln : Nat} (hok : bk_ok B ln) (wk : Int32) (K : Int32 × Int32 × Int32) (o : Int32) : a_sq B wk K.1 K.2.1 K.2.2 o (nR B) = aL (zq B wk K o) := by
  unfold a_sq zq
  rw [fL_zS]
  congr 1
  refine zS_cong _ (fun _ _ => rfl) (fun k hk _ => ?_)
  have h2 := rR_sq hok hk
  have h3 := sq_nn (rR B k)
  have h1 := rR_b hok hk
  show ((bk_red B (nI k)).toInt64 * (bk_red B (nI k)).toInt64).toInt = _
  have e : (bk_red B (nI k)).toInt64 = aL (rR B k) := by
    unfold rR at h1 ⊢
    conv => lhs; rw [← aI_to (bk_red B (nI k))]
    exact aI_i2l (by omega) (by omega)
  rw [e, aL_mul, aL_int (by omega) (by omega)]
theorem zqq_b {B : Bk} {ln : Nat} (hok : bk_ok B ln) (wk : Int32) (K : Int32 × Int32 × Int32) (o : Int32) : 0 ≤ zq B wk K o ∧ zq B wk K o ≤ 103978809 * (zc B wk K o : Int) := by
  refine ⟨?_, (zS_b (M := 103978809) _ (fun k hk => ⟨by have := sq_nn (rR B k); omega, rR_sq hok hk⟩)).2⟩
  have h := zS_qx (ga B wk K.1 K.2.1 K.2.2 o) (rR B) 0 (nR B)
  simp only [Int.mul_zero, Int.add_zero, Int.sub_zero] at h
  exact h
/-- a SIGHT's spread -/
def vS (B : Bk) (wk : Int32) (k : (Int32 × Int32 × Int32) × Int32) : Int := 1000 * ((zc B wk k.1 k.2 : Int) * zq B wk k.1 k.2 - zs B wk k.1 k.2 * zs B wk k.1 k.2) / (zc B wk k.1 k.2 : Int)
def vF (B : Bk) (wk : Int32) (k : (Int32 × Int32 × Int32) × Int32) : Int := (zc B wk k.1 k.2 : Int) - 1
theorem vS_b {B : Bk} {ln : Nat} (hok : bk_ok B ln) {wk : Int32} {k : (Int32 × Int32 × Int32) × Int32} (h : 0 < zc B wk k.1 k.2) : 0 ≤ vS B wk k ∧ vS B wk k ≤ 41591523600000 ∧ 0 ≤ 1000 * ((zc B wk k.1 k.2 : Int) * zq B wk k.1 k.2 - zs B wk k.1 k.2 * zs B wk k.1 k.2) ∧ 1000 * ((zc B wk k.1 k.2 : Int) * zq B wk k.1 k.2 - zs B wk k.1 k.2 * zs B wk k.1 k.2) ≤ 16636609440000000 := by
  have h1 : 0 ≤ (zc B wk k.1 k.2 : Int) * zq B wk k.1 k.2 - zs B wk k.1 k.2 * zs B wk k.1 k.2 := zS_cs _ _ _
  have h2 := sq_nn (zs B wk k.1 k.2)
  have h3 := zqq_b hok wk k.1 k.2
  have h4 := zc_le B hok wk k.1 k.2
  have h5 : zq B wk k.1 k.2 ≤ 41591523600 := by omega
  have h6 : (zc B wk k.1 k.2 : Int) * zq B wk k.1 k.2 ≤ (zc B wk k.1 k.2 : Int) * 41591523600 := Int.mul_le_mul_of_nonneg_left h5 (by omega)
  unfold vS
  refine ⟨Int.ediv_nonneg (by omega) (by omega), ?_, by omega, by omega⟩
  apply Int.le_of_lt_add_one
  apply Int.ediv_lt_of_lt_mul (by omega)
  omega
def p2 (x : Int32) : Bool := decide (¬ x &&& (x - 1) = 0)
theorem or_nI {a b : Nat} : nI a ||| nI b = nI (a ||| b) := by
  unfold nI
  apply Int32.toBitVec_inj.mp
  show BitVec.ofNat 32 a ||| BitVec.ofNat 32 b = BitVec.ofNat 32 (a ||| b)
  rw [BitVec.ofNat_or]
theorem sh_nI : ∀ t : Nat, t < 5 → (1 : Int32) <<< (nI t &&& 31) = nI (2 ^ t) ∧ 2 ^ t < 32 := by decide
theorem thr_ex {B : Bk} {ln : Nat} (hok : bk_ok B ln) (wk : Int32) (K : Int32 × Int32 × Int32) (o : Int32) : ∃ m, m < 32 ∧ a_thr B wk K.1 K.2.1 K.2.2 o (nR B) = nI m := by
  have key : ∀ n, n ≤ nR B → ∃ m, m < 32 ∧ a_thr B wk K.1 K.2.1 K.2.2 o n = nI m := by
    intro n
    induction n with
    | zero => intro _; exact ⟨0, by decide, rfl⟩
    | succ n ih =>
      intro hn
      obtain ⟨m, h1, h2⟩ := ih (by omega)
      unfold a_thr at h2 ⊢
      rw [fO]
      split
      · obtain ⟨-, -, -, -, t1, t2, -⟩ := hok.2.2.2.2.1.2.2 n (by omega)
        obtain ⟨t, t3, t4⟩ := i32_ex (n := 5) t1 (by omega)
        obtain ⟨s1, s2⟩ := sh_nI t t3
        rw [h2, t4, s1, or_nI]
        exact ⟨m ||| 2 ^ t, Nat.or_lt_two_pow (n := 5) h1 s2, rfl⟩
      · exact ⟨m, h1, h2⟩
  exact key (nR B) (Nat.le_refl _)
theorem bc_p2 : ∀ m : Nat, m < 32 → (bi_bc (nI m) < 2 ↔ p2 (nI m) = false) := by decide
theorem p2_pos {B : Bk} {wk : Int32} {K : Int32 × Int32 × Int32} {o : Int32} (h : p2 (a_thr B wk K.1 K.2.1 K.2.2 o (nR B)) = true) : 0 < zc B wk K o := by
  rcases Nat.eq_zero_or_pos (zc B wk K o) with e | e
  · exfalso
    have hg : ∀ k, k < nR B → ga B wk K.1 K.2.1 K.2.2 o k = false := by
      intro k hk
      cases hq : ga B wk K.1 K.2.1 K.2.2 o k with
      | false => rfl
      | true =>
        have := cN_pos hq (nR B) hk
        unfold zc at e
        omega
    unfold a_thr at h
    rw [fO_0 hg] at h
    exact absurd h (by decide)
  · exact e
def scB (B : Bk) (wk w : Int32) (k : (Int32 × Int32 × Int32) × Int32) : Bool := decide (k.1.2.2 = w) && p2 (a_thr B wk k.1.1 k.1.2.1 k.1.2.2 k.2 (nR B))
theorem scB_pos {B : Bk} {wk w : Int32} {k : (Int32 × Int32 × Int32) × Int32} (h : scB B wk w k = true) : 0 < zc B wk k.1 k.2 := by
  unfold scB at h
  rw [Bool.and_eq_true] at h
  exact p2_pos h.2
/-- the sights of the class, of the model -/
def kP (S : Md) (i : Nat) : (Int32 × Int32 × Int32) × Int32 := (kC S i, S.2.2.1 7 i)
def kT (T : Md) (c : Nat) : (Int32 × Int32 × Int32) × Int32 := (kM T c, T.2.2.1 41 c)
def LPl (B : Bk) (wk w : Int32) (S : Md) (n : Nat) : List ((Int32 × Int32 × Int32) × Int32) := lst (fun i => scB B wk w (kP S i)) (kP S) n
def LTl (B : Bk) (wk w : Int32) (T : Md) (n : Nat) : List ((Int32 × Int32 × Int32) × Int32) := lst (fun i => scB B wk w (kT T i)) (kT T) n
theorem LP_perm {B : Bk} {ln : Nat} (_hok : bk_ok B ln) {wk w : Int32} {S T : Md} {z q : Nat} (hG : GI B wk S (nR B) z) (hS : SI B wk T (nR B) (nR B) q) : (LPl B wk w S z).Perm (LTl B wk w T q) := by
  refine (List.perm_ext_iff_of_nodup ?_ ?_).2 (fun k => ?_)
  · refine lst_nodup _ (fun c d hc hd _ _ e => ?_)
    unfold kP at e
    simp only [Prod.mk.injEq] at e
    exact cell_inj hG hc hd e.1 e.2
  · refine lst_nodup _ (fun c d hc hd _ _ e => ?_)
    unfold kT at e
    simp only [Prod.mk.injEq] at e
    exact sight_inj hS hc hd e.2 e.1
  · unfold LPl LTl
    rw [mem_lst, mem_lst]
    constructor
    · rintro ⟨c, c1, c2, c3⟩
      have hp := scB_pos c2
      rw [c3] at hp c2
      obtain ⟨d, d1, d2, d3⟩ := sight_of hS hp
      have e : kT T d = k := Prod.ext d3 d2
      exact ⟨d, d1, by rw [e]; exact c2, e⟩
    · rintro ⟨d, d1, d2, d3⟩
      have hp := scB_pos d2
      rw [d3] at hp d2
      obtain ⟨c, c1, c2, c3⟩ := cell_of hG hp
      have e : kP S c = k := Prod.ext c2 c3
      exact ⟨c, c1, by rw [e]; exact d2, e⟩
/-- SCATTER of a list of SIGHTS -/
def uu_scat (B : Bk) (wk : Int32) (L : List ((Int32 × Int32 × Int32) × Int32)) : Int64 := if zsum (L.map (vF B wk)) = 0 then -2 else aL (zsum (L.map (vS B wk)) / zsum (L.map (vF B wk)))
theorem uu_scat_perm {B : Bk} {wk : Int32} {L M : List ((Int32 × Int32 × Int32) × Int32)} (h : L.Perm M) : uu_scat B wk L = uu_scat B wk M := by
  unfold uu_scat
  rw [zsum_perm (h.map _), zsum_perm (h.map _)]
theorem scat_b {B : Bk} {ln : Nat} (hok : bk_ok B ln) {wk : Int32} {L : List ((Int32 × Int32 × Int32) × Int32)} (h : ∀ k, k ∈ L → 0 < zc B wk k.1 k.2) (hl : L.length ≤ 6400) : 0 ≤ zsum (L.map (vS B wk)) ∧ zsum (L.map (vS B wk)) ≤ 266185751040000000 ∧ 0 ≤ zsum (L.map (vF B wk)) ∧ zsum (L.map (vF B wk)) ≤ 2560000 := by
  have h1 : ∀ x, x ∈ L.map (vS B wk) → 0 ≤ x ∧ x ≤ 41591523600000 := by
    intro x hx
    obtain ⟨k, k1, k2⟩ := List.mem_map.1 hx
    have := vS_b hok (h k k1)
    omega
  have h2 : ∀ x, x ∈ L.map (vF B wk) → 0 ≤ x ∧ x ≤ 400 := by
    intro x hx
    obtain ⟨k, k1, k2⟩ := List.mem_map.1 hx
    have := h k k1
    have := zc_le B hok wk k.1 k.2
    unfold vF at k2
    omega
  have nn : ∀ l : List Int, (∀ x, x ∈ l → 0 ≤ x) → 0 ≤ zsum l := by
    intro l
    induction l with
    | nil => intro _; exact Int.le_refl 0
    | cons a l ih =>
      intro hq
      have := ih (fun x hx => hq x (List.mem_cons_of_mem _ hx))
      have := hq a List.mem_cons_self
      show 0 ≤ a + zsum l
      omega
  have b1 := zsum_b (M := 41591523600000) (fun x hx => ⟨by have := h1 x hx; omega, (h1 x hx).2⟩)
  have b2 := zsum_b (M := 400) (fun x hx => ⟨by have := h2 x hx; omega, (h2 x hx).2⟩)
  rw [List.length_map] at b1 b2
  exact ⟨nn _ (fun x hx => (h1 x hx).1), by omega, nn _ (fun x hx => (h2 x hx).1), by omega⟩
theorem zsum_cons (a : Int) (l : List Int) : zsum (a :: l) = a + zsum l := rfl
theorem dX2_scatterOf_0 : decode cX2_scatterOf 0 = .ok (.lconst 0, 1) := by decide +kernel
theorem dX2_scatterOf_1 : decode cX2_scatterOf 1 = .ok (.lstore_n 2, 1) := by decide +kernel
theorem dX2_scatterOf_2 : decode cX2_scatterOf 2 = .ok (.lconst 0, 1) := by decide +kernel
theorem dX2_scatterOf_3 : decode cX2_scatterOf 3 = .ok (.lstore 4, 2) := by decide +kernel
theorem dX2_scatterOf_5 : decode cX2_scatterOf 5 = .ok (.iconst 0, 1) := by decide +kernel
theorem dX2_scatterOf_6 : decode cX2_scatterOf 6 = .ok (.istore 6, 2) := by decide +kernel
theorem dX2_scatterOf_8 : decode cX2_scatterOf 8 = .ok (.iload 6, 2) := by decide +kernel
theorem dX2_scatterOf_10 : decode cX2_scatterOf 10 = .ok (.aload_n 0, 1) := by decide +kernel
theorem dX2_scatterOf_11 : decode cX2_scatterOf 11 = .ok (.getfield 9, 3) := by decide +kernel
theorem dX2_scatterOf_14 : decode cX2_scatterOf 14 = .ok (.if_icmp .ge 101, 3) := by decide +kernel
theorem dX2_scatterOf_17 : decode cX2_scatterOf 17 = .ok (.aload_n 0, 1) := by decide +kernel
theorem dX2_scatterOf_18 : decode cX2_scatterOf 18 = .ok (.getfield 40, 3) := by decide +kernel
theorem dX2_scatterOf_21 : decode cX2_scatterOf 21 = .ok (.iload 6, 2) := by decide +kernel
theorem dX2_scatterOf_23 : decode cX2_scatterOf 23 = .ok (.iaload, 1) := by decide +kernel
theorem dX2_scatterOf_24 : decode cX2_scatterOf 24 = .ok (.invokestatic 124, 3) := by decide +kernel
theorem dX2_scatterOf_27 : decode cX2_scatterOf 27 = .ok (.iconst 2, 1) := by decide +kernel
theorem dX2_scatterOf_28 : decode cX2_scatterOf 28 = .ok (.if_icmp .lt 81, 3) := by decide +kernel
theorem dX2_scatterOf_31 : decode cX2_scatterOf 31 = .ok (.aload_n 0, 1) := by decide +kernel
theorem dX2_scatterOf_32 : decode cX2_scatterOf 32 = .ok (.getfield 31, 3) := by decide +kernel
theorem dX2_scatterOf_35 : decode cX2_scatterOf 35 = .ok (.iload 6, 2) := by decide +kernel
theorem dX2_scatterOf_37 : decode cX2_scatterOf 37 = .ok (.iaload, 1) := by decide +kernel
theorem dX2_scatterOf_38 : decode cX2_scatterOf 38 = .ok (.iload_n 1, 1) := by decide +kernel
theorem dX2_scatterOf_39 : decode cX2_scatterOf 39 = .ok (.if_icmp .ne 70, 3) := by decide +kernel
theorem dX2_scatterOf_42 : decode cX2_scatterOf 42 = .ok (.iconst 1, 1) := by decide +kernel
theorem dX2_scatterOf_43 : decode cX2_scatterOf 43 = .ok (.aload_n 0, 1) := by decide +kernel
theorem dX2_scatterOf_44 : decode cX2_scatterOf 44 = .ok (.getfield 37, 3) := by decide +kernel
theorem dX2_scatterOf_47 : decode cX2_scatterOf 47 = .ok (.iload 6, 2) := by decide +kernel
theorem dX2_scatterOf_49 : decode cX2_scatterOf 49 = .ok (.iaload, 1) := by decide +kernel
theorem dX2_scatterOf_50 : decode cX2_scatterOf 50 = .ok (.invokestatic 129, 3) := by decide +kernel
theorem dX2_scatterOf_53 : decode cX2_scatterOf 53 = .ok (.i2l, 1) := by decide +kernel
theorem dX2_scatterOf_54 : decode cX2_scatterOf 54 = .ok (.lstore 7, 2) := by decide +kernel
theorem dX2_scatterOf_56 : decode cX2_scatterOf 56 = .ok (.lload 7, 2) := by decide +kernel
theorem dX2_scatterOf_58 : decode cX2_scatterOf 58 = .ok (.aload_n 0, 1) := by decide +kernel
theorem dX2_scatterOf_59 : decode cX2_scatterOf 59 = .ok (.getfield 46, 3) := by decide +kernel
theorem dX2_scatterOf_62 : decode cX2_scatterOf 62 = .ok (.iload 6, 2) := by decide +kernel
theorem dX2_scatterOf_64 : decode cX2_scatterOf 64 = .ok (.laload, 1) := by decide +kernel
theorem dX2_scatterOf_65 : decode cX2_scatterOf 65 = .ok (.lmul, 1) := by decide +kernel
theorem dX2_scatterOf_66 : decode cX2_scatterOf 66 = .ok (.aload_n 0, 1) := by decide +kernel
theorem dX2_scatterOf_67 : decode cX2_scatterOf 67 = .ok (.getfield 43, 3) := by decide +kernel
theorem dX2_scatterOf_70 : decode cX2_scatterOf 70 = .ok (.iload 6, 2) := by decide +kernel
theorem dX2_scatterOf_72 : decode cX2_scatterOf 72 = .ok (.iaload, 1) := by decide +kernel
theorem dX2_scatterOf_73 : decode cX2_scatterOf 73 = .ok (.i2l, 1) := by decide +kernel
theorem dX2_scatterOf_74 : decode cX2_scatterOf 74 = .ok (.aload_n 0, 1) := by decide +kernel
theorem dX2_scatterOf_75 : decode cX2_scatterOf 75 = .ok (.getfield 43, 3) := by decide +kernel
theorem dX2_scatterOf_78 : decode cX2_scatterOf 78 = .ok (.iload 6, 2) := by decide +kernel
theorem dX2_scatterOf_80 : decode cX2_scatterOf 80 = .ok (.iaload, 1) := by decide +kernel
theorem dX2_scatterOf_81 : decode cX2_scatterOf 81 = .ok (.i2l, 1) := by decide +kernel
theorem dX2_scatterOf_82 : decode cX2_scatterOf 82 = .ok (.lmul, 1) := by decide +kernel
theorem dX2_scatterOf_83 : decode cX2_scatterOf 83 = .ok (.lsub, 1) := by decide +kernel
theorem dX2_scatterOf_84 : decode cX2_scatterOf 84 = .ok (.lstore 9, 2) := by decide +kernel
theorem dX2_scatterOf_86 : decode cX2_scatterOf 86 = .ok (.lload_n 2, 1) := by decide +kernel
theorem dX2_scatterOf_87 : decode cX2_scatterOf 87 = .ok (.ldc2_w 99, 3) := by decide +kernel
theorem dX2_scatterOf_90 : decode cX2_scatterOf 90 = .ok (.lload 9, 2) := by decide +kernel
theorem dX2_scatterOf_92 : decode cX2_scatterOf 92 = .ok (.lmul, 1) := by decide +kernel
theorem dX2_scatterOf_93 : decode cX2_scatterOf 93 = .ok (.lload 7, 2) := by decide +kernel
theorem dX2_scatterOf_95 : decode cX2_scatterOf 95 = .ok (.invokestatic 101, 3) := by decide +kernel
theorem dX2_scatterOf_98 : decode cX2_scatterOf 98 = .ok (.ladd, 1) := by decide +kernel
theorem dX2_scatterOf_99 : decode cX2_scatterOf 99 = .ok (.lstore_n 2, 1) := by decide +kernel
theorem dX2_scatterOf_100 : decode cX2_scatterOf 100 = .ok (.lload 4, 2) := by decide +kernel
theorem dX2_scatterOf_102 : decode cX2_scatterOf 102 = .ok (.lload 7, 2) := by decide +kernel
theorem dX2_scatterOf_104 : decode cX2_scatterOf 104 = .ok (.lconst 1, 1) := by decide +kernel
theorem dX2_scatterOf_105 : decode cX2_scatterOf 105 = .ok (.lsub, 1) := by decide +kernel
theorem dX2_scatterOf_106 : decode cX2_scatterOf 106 = .ok (.ladd, 1) := by decide +kernel
theorem dX2_scatterOf_107 : decode cX2_scatterOf 107 = .ok (.lstore 4, 2) := by decide +kernel
theorem dX2_scatterOf_109 : decode cX2_scatterOf 109 = .ok (.iinc 6 1, 3) := by decide +kernel
theorem dX2_scatterOf_112 : decode cX2_scatterOf 112 = .ok (.goto (-104), 3) := by decide +kernel
theorem dX2_scatterOf_115 : decode cX2_scatterOf 115 = .ok (.lload 4, 2) := by decide +kernel
theorem dX2_scatterOf_117 : decode cX2_scatterOf 117 = .ok (.lconst 0, 1) := by decide +kernel
theorem dX2_scatterOf_118 : decode cX2_scatterOf 118 = .ok (.lcmp, 1) := by decide +kernel
theorem dX2_scatterOf_119 : decode cX2_scatterOf 119 = .ok (.ifCond .ne 9, 3) := by decide +kernel
theorem dX2_scatterOf_122 : decode cX2_scatterOf 122 = .ok (.ldc2_w 132, 3) := by decide +kernel
theorem dX2_scatterOf_125 : decode cX2_scatterOf 125 = .ok (.goto 9, 3) := by decide +kernel
theorem dX2_scatterOf_128 : decode cX2_scatterOf 128 = .ok (.lload_n 2, 1) := by decide +kernel
theorem dX2_scatterOf_129 : decode cX2_scatterOf 129 = .ok (.lload 4, 2) := by decide +kernel
theorem dX2_scatterOf_131 : decode cX2_scatterOf 131 = .ok (.invokestatic 101, 3) := by decide +kernel
theorem dX2_scatterOf_134 : decode cX2_scatterOf 134 = .ok (.lreturn, 1) := by decide +kernel
set_option maxRecDepth 100000 in
set_option maxHeartbeats 4000000 in
theorem l_X2_scatterOf {h : ai_H} {B : Bk} {ln : Nat} {wk w : Int32} {S : Md} {z : Nat} (hok : bk_ok B ln) (hcl : cl_at h S) (ezz : S.1 0 = nI z) (hz4 : z ≤ 400) (hag : ∀ i, i < z → S.2.2.1 8 i = nI (zc B wk (kP S i).1 (kP S i).2) ∧ S.2.2.1 9 i = a_thr B wk (kP S i).1.1 (kP S i).1.2.1 (kP S i).1.2.2 (kP S i).2 (nR B) ∧ S.2.2.1 10 i = aI (zs B wk (kP S i).1 (kP S i).2) ∧ S.2.2.2 11 i = aL (zq B wk (kP S i).1 (kP S i).2)) : ∀ (m i : Nat) (u7 u9 : Value), i ≤ z → z + 1 ≤ i + m → ai_R MX2_scatterOf 8 [.ref 22, .int w, .long (aL (zsum ((LPl B wk w S (i)).map (vS B wk)))), .float 0, .long (aL (zsum ((LPl B wk w S (i)).map (vF B wk)))), .float 0, .int (nI i), u7, .float 0, u9, .float 0] [] h (some (.long (uu_scat B wk (LPl B wk w S z)))) h := by
  intro m
  induction m with
  | zero => intro i u7 u9 h1 h2; exact absurd h2 (by omega)
  | succ m ih =>
    intro i u7 u9 hi0 him
    refine rs_iload (pc := 8) dX2_scatterOf_8 rfl ?_
    refine rs_aload_n (pc := 10) dX2_scatterOf_10 rfl ?_
    refine rs_getf (pc := 11) dX2_scatterOf_11 fX2_9 (mo_lt hcl (by decide)) hcl.2.1 rfl ?_
    refine rs_icmp_ge (tgt := 115) (pc := 14) dX2_scatterOf_14 rfl (fun c_14 => ?_) (fun c_14 => ?_)
    · have hie : i = z := lp_exit ezz (by omega) hi0 c_14
      subst hie
      refine rs_lload (pc := 115) dX2_scatterOf_115 rfl ?_
      refine rs_lconst (v := 0) (pc := 117) dX2_scatterOf_117 rfl ?_
      have hsb := scat_b (B := B) (wk := wk) (L := LPl B wk w S i) hok (fun k hk => by obtain ⟨c, c1, c2, c3⟩ := (mem_lst _).1 hk; rw [← c3]; exact scB_pos c2) (by unfold LPl; rw [lst_len]; exact Nat.le_trans (cN_le _ _) (by omega))
      refine wk_lcmp_ne (tgt := 128) (pc := 118) dX2_scatterOf_118 dX2_scatterOf_119 rfl (fun c_118 => ?_) (fun c_118 => ?_)
      · rw [show (0 : Int64) = aL 0 from rfl, aL_eq (by omega) (by omega) (by omega) (by omega)] at c_118
        refine rs_lload_n (pc := 128) dX2_scatterOf_128 rfl ?_
        refine rs_lload (pc := 129) dX2_scatterOf_129 rfl ?_
        refine rs_callS (as := [_, _]) (pc := 131) dX2_scatterOf_131 mk_J9_floorDiv_f86c9 mlX2_101 st_J9_floorDiv_f86c9 rfl rfl (Nat.le_of_ble_eq_true rfl) (c_fdL (by rw [show (0 : Int64) = aL 0 from rfl, aL_eq (by omega) (by omega) (by omega) (by omega)]; omega)) ?_
        rw [aL_fd (by omega) (by omega) (by omega) (by omega)]
        exact wk_lret (pc := 134) dX2_scatterOf_134 rfl (by unfold uu_scat; first | rw [if_pos c_118] | rw [if_neg c_118]) (rfl)
      · rw [show (0 : Int64) = aL 0 from rfl, aL_eq (by omega) (by omega) (by omega) (by omega)] at c_118
        refine rs_ldc2 (pc := 122) dX2_scatterOf_122 cnX2_132 ?_
        refine rs_goto (tgt := 134) (pc := 125) dX2_scatterOf_125 rfl ?_
        exact wk_lret (pc := 134) dX2_scatterOf_134 rfl (by unfold uu_scat; first | rw [if_pos c_118] | rw [if_neg c_118]) (rfl)
    · have hi : i < z := lp_go ezz (by omega) c_14
      obtain ⟨n7, n8, n9, n10⟩ := hag i hi
      obtain ⟨tm, tm1, tm2⟩ := thr_ex hok wk (kP S i).1 (kP S i).2
      refine rs_aload_n (pc := 17) dX2_scatterOf_17 rfl ?_
      refine rs_getf (pc := 18) dX2_scatterOf_18 fX2_40 (mo_lt hcl (by decide)) hcl.2.1 rfl ?_
      refine rs_iload (pc := 21) dX2_scatterOf_21 rfl ?_
      refine rs_iald (pc := 23) dX2_scatterOf_23 (mo_lt hcl (by decide)) (mo_geti (d := 8) (k := 9) (kd := 0) (l := 400) rfl (by decide) hcl) (vp_in_nI (n := i) (N := 400) (by omega) (by decide)) ?_
      rw [nI_clamp (show i < 2 ^ 31 by omega), n8, tm2]
      refine rs_callS (as := [_]) (pc := 24) dX2_scatterOf_24 mk_J6_bitCount_0f7a4 mlX2_124 st_J6_bitCount_0f7a4 rfl rfl (Nat.le_of_ble_eq_true rfl) (c_bitCount _) ?_
      refine rs_iconst (v := 2) (pc := 27) dX2_scatterOf_27 rfl ?_
      refine rs_icmp_lt (tgt := 109) (pc := 28) dX2_scatterOf_28 rfl (fun c_28 => ?_) (fun c_28 => ?_)
      · have hsc : scB B wk w (kP S i) = false := by unfold scB; rw [tm2, (bc_p2 tm tm1).1 c_28, Bool.and_false]
        refine wk_iinc6 (v := nI (i + 1)) (pc := 109) dX2_scatterOf_109 (by decide) rfl (nI_1 i) ?_
        refine rs_goto (tgt := 8) (pc := 112) dX2_scatterOf_112 rfl ?_
        first
        | (have e1 : LPl B wk w S (i + 1) = LPl B wk w S i := by unfold LPl; rw [lst, if_neg (by rw [hsc]; decide)]
           rw [← e1]
           exact ih (i + 1) _ _ (by omega) (by omega))
        | (have e1 : LPl B wk w S (i + 1) = kP S i :: LPl B wk w S i := by unfold LPl; rw [lst, if_pos hsc]
           rw [show zsum ((LPl B wk w S i).map (vS B wk)) + 1000 * ((zc B wk (kP S i).1 (kP S i).2 : Int) * zq B wk (kP S i).1 (kP S i).2 - zs B wk (kP S i).1 (kP S i).2 * zs B wk (kP S i).1 (kP S i).2) / (zc B wk (kP S i).1 (kP S i).2 : Int) = zsum ((LPl B wk w S (i + 1)).map (vS B wk)) from by rw [e1, List.map_cons, zsum_cons, Int.add_comm]; rfl,
             show zsum ((LPl B wk w S i).map (vF B wk)) + ((zc B wk (kP S i).1 (kP S i).2 : Int) - 1) = zsum ((LPl B wk w S (i + 1)).map (vF B wk)) from by rw [e1, List.map_cons, zsum_cons, Int.add_comm]; rfl]
           exact ih (i + 1) _ _ (by omega) (by omega))
      · have hp2 : p2 (a_thr B wk (kP S i).1.1 (kP S i).1.2.1 (kP S i).1.2.2 (kP S i).2 (nR B)) = true := by rw [tm2]; cases hq : p2 (nI tm) with
          | true => rfl
          | false => exact absurd ((bc_p2 tm tm1).2 hq) c_28
        refine rs_aload_n (pc := 31) dX2_scatterOf_31 rfl ?_
        refine rs_getf (pc := 32) dX2_scatterOf_32 fX2_31 (mo_lt hcl (by decide)) hcl.2.1 rfl ?_
        refine rs_iload (pc := 35) dX2_scatterOf_35 rfl ?_
        refine rs_iald (pc := 37) dX2_scatterOf_37 (mo_lt hcl (by decide)) (mo_geti (d := 5) (k := 6) (kd := 0) (l := 400) rfl (by decide) hcl) (vp_in_nI (n := i) (N := 400) (by omega) (by decide)) ?_
        rw [nI_clamp (show i < 2 ^ 31 by omega)]
        refine rs_iload_n (pc := 38) dX2_scatterOf_38 rfl ?_
        refine rs_icmp_ne (tgt := 109) (pc := 39) dX2_scatterOf_39 rfl (fun c_39 => ?_) (fun c_39 => ?_)
        · have hsc : scB B wk w (kP S i) = false := by unfold scB; rw [show decide ((kP S i).1.2.2 = w) = false from decide_eq_false c_39, Bool.false_and]
          refine wk_iinc6 (v := nI (i + 1)) (pc := 109) dX2_scatterOf_109 (by decide) rfl (nI_1 i) ?_
          refine rs_goto (tgt := 8) (pc := 112) dX2_scatterOf_112 rfl ?_
          first
          | (have e1 : LPl B wk w S (i + 1) = LPl B wk w S i := by unfold LPl; rw [lst, if_neg (by rw [hsc]; decide)]
             rw [← e1]
             exact ih (i + 1) _ _ (by omega) (by omega))
          | (have e1 : LPl B wk w S (i + 1) = kP S i :: LPl B wk w S i := by unfold LPl; rw [lst, if_pos hsc]
             rw [show zsum ((LPl B wk w S i).map (vS B wk)) + 1000 * ((zc B wk (kP S i).1 (kP S i).2 : Int) * zq B wk (kP S i).1 (kP S i).2 - zs B wk (kP S i).1 (kP S i).2 * zs B wk (kP S i).1 (kP S i).2) / (zc B wk (kP S i).1 (kP S i).2 : Int) = zsum ((LPl B wk w S (i + 1)).map (vS B wk)) from by rw [e1, List.map_cons, zsum_cons, Int.add_comm]; rfl,
               show zsum ((LPl B wk w S i).map (vF B wk)) + ((zc B wk (kP S i).1 (kP S i).2 : Int) - 1) = zsum ((LPl B wk w S (i + 1)).map (vF B wk)) from by rw [e1, List.map_cons, zsum_cons, Int.add_comm]; rfl]
             exact ih (i + 1) _ _ (by omega) (by omega))
        · have hsc : scB B wk w (kP S i) = true := by unfold scB; rw [hp2, show decide ((kP S i).1.2.2 = w) = true from decide_eq_true c_39]; rfl
          have hzp := scB_pos hsc
          have hzl := zc_le B hok wk (kP S i).1 (kP S i).2
          have hvb := vS_b hok hzp
          have hzb := zs_b hok wk (kP S i).1 (kP S i).2
          have hqb := zqq_b hok wk (kP S i).1 (kP S i).2
          refine rs_iconst (v := 1) (pc := 42) dX2_scatterOf_42 rfl ?_
          refine rs_aload_n (pc := 43) dX2_scatterOf_43 rfl ?_
          refine rs_getf (pc := 44) dX2_scatterOf_44 fX2_37 (mo_lt hcl (by decide)) hcl.2.1 rfl ?_
          refine rs_iload (pc := 47) dX2_scatterOf_47 rfl ?_
          refine rs_iald (pc := 49) dX2_scatterOf_49 (mo_lt hcl (by decide)) (mo_geti (d := 7) (k := 8) (kd := 0) (l := 400) rfl (by decide) hcl) (vp_in_nI (n := i) (N := 400) (by omega) (by decide)) ?_
          rw [nI_clamp (show i < 2 ^ 31 by omega), n7]
          refine rs_callS (as := [_, _]) (pc := 50) dX2_scatterOf_50 mk_J9_max_7cf53 mlX2_129 st_J9_max_7cf53 rfl rfl (Nat.le_of_ble_eq_true rfl) (c_maxI) ?_
          rw [show bi_maxI 1 (nI (zc B wk (kP S i).1 (kP S i).2)) = nI (zc B wk (kP S i).1 (kP S i).2) from by unfold bi_maxI; split; rfl; next q => rw [show (1 : Int32) = aI 1 from rfl, ← aI_nat, aI_lt (by omega) (by omega) (by omega) (by omega)] at q; rw [← aI_nat]; show aI 1 = _; congr 1; omega]
          refine rs_i2l (pc := 53) dX2_scatterOf_53 ?_
          rw [nI_i2l (by omega)]
          refine wk_lst7 (pc := 54) dX2_scatterOf_54 (by decide) rfl ?_
          refine rs_lload (pc := 56) dX2_scatterOf_56 rfl ?_
          refine rs_aload_n (pc := 58) dX2_scatterOf_58 rfl ?_
          refine rs_getf (pc := 59) dX2_scatterOf_59 fX2_46 (mo_lt hcl (by decide)) hcl.2.1 rfl ?_
          refine rs_iload (pc := 62) dX2_scatterOf_62 rfl ?_
          refine rs_lald (pc := 64) dX2_scatterOf_64 (mo_lt hcl (by decide)) (mo_getl (d := 10) (k := 11) (kd := 1) (l := 400) rfl (by decide) hcl) (vp_in_nI (n := i) (N := 400) (by omega) (by decide)) ?_
          rw [nI_clamp (show i < 2 ^ 31 by omega), n10]
          refine rs_lmul (pc := 65) dX2_scatterOf_65 ?_
          refine rs_aload_n (pc := 66) dX2_scatterOf_66 rfl ?_
          refine rs_getf (pc := 67) dX2_scatterOf_67 fX2_43 (mo_lt hcl (by decide)) hcl.2.1 rfl ?_
          refine rs_iload (pc := 70) dX2_scatterOf_70 rfl ?_
          refine rs_iald (pc := 72) dX2_scatterOf_72 (mo_lt hcl (by decide)) (mo_geti (d := 9) (k := 10) (kd := 0) (l := 400) rfl (by decide) hcl) (vp_in_nI (n := i) (N := 400) (by omega) (by decide)) ?_
          rw [nI_clamp (show i < 2 ^ 31 by omega), n9]
          refine rs_i2l (pc := 73) dX2_scatterOf_73 ?_
          rw [aI_i2l (by omega) (by omega)]
          refine rs_aload_n (pc := 74) dX2_scatterOf_74 rfl ?_
          refine rs_getf (pc := 75) dX2_scatterOf_75 fX2_43 (mo_lt hcl (by decide)) hcl.2.1 rfl ?_
          refine rs_iload (pc := 78) dX2_scatterOf_78 rfl ?_
          refine rs_iald (pc := 80) dX2_scatterOf_80 (mo_lt hcl (by decide)) (mo_geti (d := 9) (k := 10) (kd := 0) (l := 400) rfl (by decide) hcl) (vp_in_nI (n := i) (N := 400) (by omega) (by decide)) ?_
          rw [nI_clamp (show i < 2 ^ 31 by omega), n9]
          refine rs_i2l (pc := 81) dX2_scatterOf_81 ?_
          rw [aI_i2l (by omega) (by omega)]
          refine rs_lmul (pc := 82) dX2_scatterOf_82 ?_
          rw [aL_mul, aL_mul]
          refine rs_lsub (pc := 83) dX2_scatterOf_83 ?_
          rw [aL_sub]
          refine wk_lst9 (pc := 84) dX2_scatterOf_84 (by decide) rfl ?_
          refine rs_lload_n (pc := 86) dX2_scatterOf_86 rfl ?_
          refine rs_ldc2 (pc := 87) dX2_scatterOf_87 cnX2_99 ?_
          refine rs_lload (pc := 90) dX2_scatterOf_90 rfl ?_
          refine rs_lmul (pc := 92) dX2_scatterOf_92 ?_
          rw [show (1000 : Int64) = aL 1000 from rfl, aL_mul]
          refine rs_lload (pc := 93) dX2_scatterOf_93 rfl ?_
          refine rs_callS (as := [_, _]) (pc := 95) dX2_scatterOf_95 mk_J9_floorDiv_f86c9 mlX2_101 st_J9_floorDiv_f86c9 rfl rfl (Nat.le_of_ble_eq_true rfl) (c_fdL (by rw [show (0 : Int64) = aL 0 from rfl, aL_eq (by omega) (by omega) (by omega) (by omega)]; omega)) ?_
          rw [aL_fd (by omega) (by omega) (by omega) (by omega)]
          refine rs_ladd (pc := 98) dX2_scatterOf_98 ?_
          rw [aL_add]
          refine wk_lstn2 (pc := 99) dX2_scatterOf_99 (by decide) rfl ?_
          refine rs_lload (pc := 100) dX2_scatterOf_100 rfl ?_
          refine rs_lload (pc := 102) dX2_scatterOf_102 rfl ?_
          refine rs_lconst (v := 1) (pc := 104) dX2_scatterOf_104 rfl ?_
          refine rs_lsub (pc := 105) dX2_scatterOf_105 ?_
          rw [show (1 : Int64) = aL 1 from rfl, aL_sub]
          refine rs_ladd (pc := 106) dX2_scatterOf_106 ?_
          rw [aL_add]
          refine wk_lst4 (pc := 107) dX2_scatterOf_107 (by decide) rfl ?_
          refine wk_iinc6 (v := nI (i + 1)) (pc := 109) dX2_scatterOf_109 (by decide) rfl (nI_1 i) ?_
          refine rs_goto (tgt := 8) (pc := 112) dX2_scatterOf_112 rfl ?_
          first
          | (have e1 : LPl B wk w S (i + 1) = LPl B wk w S i := by unfold LPl; rw [lst, if_neg (by rw [hsc]; decide)]
             rw [← e1]
             exact ih (i + 1) _ _ (by omega) (by omega))
          | (have e1 : LPl B wk w S (i + 1) = kP S i :: LPl B wk w S i := by unfold LPl; rw [lst, if_pos hsc]
             rw [show zsum ((LPl B wk w S i).map (vS B wk)) + 1000 * ((zc B wk (kP S i).1 (kP S i).2 : Int) * zq B wk (kP S i).1 (kP S i).2 - zs B wk (kP S i).1 (kP S i).2 * zs B wk (kP S i).1 (kP S i).2) / (zc B wk (kP S i).1 (kP S i).2 : Int) = zsum ((LPl B wk w S (i + 1)).map (vS B wk)) from by rw [e1, List.map_cons, zsum_cons, Int.add_comm]; rfl,
               show zsum ((LPl B wk w S i).map (vF B wk)) + ((zc B wk (kP S i).1 (kP S i).2 : Int) - 1) = zsum ((LPl B wk w S (i + 1)).map (vF B wk)) from by rw [e1, List.map_cons, zsum_cons, Int.add_comm]; rfl]
             exact ih (i + 1) _ _ (by omega) (by omega))
set_option maxRecDepth 100000 in
set_option maxHeartbeats 4000000 in
theorem c_X2_scatterOf {h : ai_H} {B : Bk} {ln : Nat} {wk : Int32} {S : Md} {z : Nat} (hok : bk_ok B ln) (hcl : cl_at h S) (hG : GI B wk S (nR B) z) (w : Int32) : ai_Met MX2_scatterOf [.ref 22, .int w] h (some (.long (uu_scat B wk (LPl B wk w S z)))) h := by
  refine ai_met (ls := [.ref 22, .int w, .float 0, .float 0, .float 0, .float 0, .float 0, .float 0, .float 0, .float 0, .float 0]) (by decide) (by simp [ai_en, Value.category]) (by rfl) ?_
  refine rs_lconst (v := 0) (pc := 0) dX2_scatterOf_0 rfl ?_
  refine wk_lstn2 (pc := 1) dX2_scatterOf_1 (by decide) rfl ?_
  refine rs_lconst (v := 0) (pc := 2) dX2_scatterOf_2 rfl ?_
  refine wk_lst4 (pc := 3) dX2_scatterOf_3 (by decide) rfl ?_
  refine rs_iconst (v := 0) (pc := 5) dX2_scatterOf_5 rfl ?_
  refine wk_ist6 (pc := 6) dX2_scatterOf_6 (by decide) rfl ?_
  exact l_X2_scatterOf hok hcl hG.1.1 hG.1.2.1 (fun i hi => by
    obtain ⟨b1, b2, b3, b4⟩ := hG.2.2.2.2 i hi
    exact ⟨b1.trans (a_cnt_zc B wk (kP S i).1 (kP S i).2), b2, b3.trans (a_sum_zs B wk (kP S i).1 (kP S i).2), b4.trans (a_sq_zq hok wk (kP S i).1 (kP S i).2)⟩) (z + 1) 0 _ _ (by omega) (by omega)
