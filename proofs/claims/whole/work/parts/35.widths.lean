/-! 35: widths and tolls of the meetings' lists -/
def zm (l : List Int) : Int := zsum l / (l.length : Int)
def zw (l : List Int) : Int := lmax l - lmin l + (999 + (l.length : Int)) / (l.length : Int)
def lrow (U : Nat → List Int) : Prop := ∀ k, k < 256 → (U k).length ≤ 400 ∧ ∀ x, x ∈ U k → -20394000 ≤ x ∧ x ≤ 20394000
def trow (T : Nat → Ty) (U : Nat → List Int) : Prop := ∀ k, k < 256 → T k = tyl (U k)
def mrow (V : Md) (U : Nat → List Int) : Prop := ∀ k, k < 256 → V.2.2.1 50 k = nI (U k).length ∧ V.2.2.2 53 k = aL (zsum (U k)) ∧ (U k ≠ [] → V.2.2.2 54 k = aL (lmin (U k)) ∧ V.2.2.2 55 k = aL (lmax (U k)))
def ro_U (U : Nat → List Int) (x y : Nat) : Option Nat := if x < 16 ∧ y < 16 ∧ U (x * 16 + y) ≠ [] then some ((zw (U (x * 16 + y))).toNat * 32 + 1) else none
theorem len_pos {l : List Int} (h : l ≠ []) : 1 ≤ l.length := by
  cases l with
  | nil => exact absurd rfl h
  | cons a l => simp
theorem zq_b {n : Nat} (h1 : 1 ≤ n) : 1 ≤ (999 + (n : Int)) / (n : Int) ∧ (999 + (n : Int)) / (n : Int) ≤ 1000 := by
  refine ⟨?_, ?_⟩
  · apply Int.le_ediv_of_mul_le (by omega)
    omega
  · apply Int.le_of_lt_add_one
    apply Int.ediv_lt_of_lt_mul (by omega)
    omega
theorem zw_b {U : Nat → List Int} (h : lrow U) {k : Nat} (hk : k < 256) (hne : U k ≠ []) : 0 ≤ zw (U k) ∧ zw (U k) ≤ 40789000 := by
  obtain ⟨h1, h2⟩ := h k hk
  have := lmin_b (M := 20394000) (by decide) h2
  have := zq_b (len_pos hne)
  unfold zw
  omega
theorem zm_b {U : Nat → List Int} (h : lrow U) {k : Nat} (hk : k < 256) (hne : U k ≠ []) : -20394000 ≤ zm (U k) ∧ zm (U k) ≤ 20394000 := by
  obtain ⟨h1, h2⟩ := h k hk
  have hl := len_pos hne
  have hz := zsum_b h2
  unfold zm
  refine ⟨?_, ?_⟩
  · apply Int.le_ediv_of_mul_le (by omega)
    omega
  · apply Int.le_of_lt_add_one
    apply Int.ediv_lt_of_lt_mul (by omega)
    omega
theorem zsum_len {U : Nat → List Int} (h : lrow U) {k : Nat} (hk : k < 256) : -8157600000 ≤ zsum (U k) ∧ zsum (U k) ≤ 8157600000 := by
  obtain ⟨h1, h2⟩ := h k hk
  have hz := zsum_b h2
  omega
theorem i32_le0 {n : Nat} (h : n < 2 ^ 31) : nI n ≤ 0 ↔ n = 0 := by
  rw [show (0 : Int32) = aI 0 from rfl, ← aI_nat, aI_le (by omega) (by omega) (by omega) (by omega)]
  omega
theorem len_0 {l : List Int} : l.length = 0 ↔ l = [] := List.length_eq_zero_iff
theorem mt_wid_is {T : Nat → Ty} {U : Nat → List Int} (ht : trow T U) (hl : lrow U) {x y : Nat} (hx : x < 16) (hy : y < 16) (hne : U (x * 16 + y) ≠ []) : mt_wid T x y = aL (zw (U (x * 16 + y))) := by
  obtain ⟨h1, h2⟩ := hl (x * 16 + y) (by omega)
  have hp := len_pos hne
  unfold mt_wid
  rw [ht (x * 16 + y) (by omega)]
  show (if nI (U (x * 16 + y)).length = 0 then 0 else aL (lmax (U (x * 16 + y))) - aL (lmin (U (x * 16 + y))) + ((1000 + nI (U (x * 16 + y)).length - 1) / nI (U (x * 16 + y)).length).toInt64) = _
  have hq := zq_b hp
  rw [if_neg (fun z => by rw [nI_z (by omega)] at z; omega), ← aI_nat, show (1000 : Int32) = aI 1000 from rfl, show (1 : Int32) = aI 1 from rfl, aI_add, aI_sub, aI_quo (by omega) (by omega) (by omega) (by omega), show 1000 + ((U (x * 16 + y)).length : Int) - 1 = 999 + ((U (x * 16 + y)).length : Int) by omega, aI_i2l (by omega) (by omega), aL_sub, aL_add]
  rfl
theorem mt_ok_is {T : Nat → Ty} {U : Nat → List Int} (ht : trow T U) (hl : lrow U) : mt_ok T := by
  intro x y hx hy hm
  have h1 := (hl (x * 16 + y) (by omega)).1
  rw [ht (x * 16 + y) (by omega), show (tyl (U (x * 16 + y))).1 = nI (U (x * 16 + y)).length from rfl, i32_le0 (by omega), len_0] at hm
  have := zw_b hl (by omega) hm
  rw [mt_wid_is ht hl hx hy hm, aL_int (by omega) (by omega)]
  omega
theorem ro_T_U {T : Nat → Ty} {U : Nat → List Int} (ht : trow T U) (hl : lrow U) : ro_T T = ro_U U := by
  funext x y
  unfold ro_T ro_U
  by_cases h : x < 16 ∧ y < 16
  · obtain ⟨hx, hy⟩ := h
    have h1 := (hl (x * 16 + y) (by omega)).1
    have e : ¬ (T (x * 16 + y)).1 ≤ 0 ↔ U (x * 16 + y) ≠ [] := by
      rw [ht (x * 16 + y) (by omega), show (tyl (U (x * 16 + y))).1 = nI (U (x * 16 + y)).length from rfl, i32_le0 (by omega), len_0]
    by_cases hu : U (x * 16 + y) = []
    · rw [if_neg (fun z => e.1 z.2.2 hu), if_neg (fun z => z.2.2 hu)]
    · have := zw_b hl (show x * 16 + y < 256 by omega) hu
      rw [if_pos ⟨hx, hy, e.2 hu⟩, if_pos ⟨hx, hy, hu⟩, mt_wid_is ht hl hx hy hu, aL_int (by omega) (by omega)]
  · rw [if_neg (fun z => h ⟨z.1, z.2.1⟩), if_neg (fun z => h ⟨z.1, z.2.1⟩)]
theorem ro_U_32 (U : Nat → List Int) : ro_32 (ro_U U) := by
  intro a b x h
  unfold ro_U at h
  split at h
  · cases h; omega
  · cases h
theorem ro_U_max {U : Nat → List Int} (hl : lrow U) : ∀ a b x, ro_U U a b = some x → x ≤ 1305248001 := by
  intro a b x h
  unfold ro_U at h
  split at h
  · next q => cases h; have := zw_b hl (show a * 16 + b < 256 by omega) q.2.2; omega
  · cases h
theorem ro_U_b {U : Nat → List Int} {n g : Nat} {d : Tl} (hl : lrow U) (hn : n ≤ 16) (hg : ro_good (ro_U U) n g d) {x v : Nat} (h : d x = some v) : v ≤ 19578720015 ∧ x < n := by
  obtain ⟨h1, h3⟩ := ro_good_max (ro_U_max hl) hg h
  have h2 : (n - 1) * 1305248001 ≤ 15 * 1305248001 := Nat.mul_le_mul_right _ (by omega)
  exact ⟨by omega, h3⟩
theorem ty_mean_is {U : Nat → List Int} (hl : lrow U) {k : Nat} (hk : k < 256) (hne : U k ≠ []) : ty_mean (tyl (U k)).1 (tyl (U k)).2.1 = aL (zm (U k)) ∧ bi_fl (aL (zsum (U k))) (nI (U k).length).toInt64 = aL (zm (U k)) := by
  have h1 := (hl k hk).1
  have h2 := zsum_len hl hk
  have hp := len_pos hne
  unfold ty_mean
  show (if nI (U k).length = 0 then 0 else bi_fdL (aL (zsum (U k))) (nI (U k).length).toInt64) = _ ∧ _
  rw [if_neg (fun z => by rw [nI_z (by omega)] at z; omega), ← aI_nat, aI_i2l (by omega) (by omega), aL_fd (by omega) (by omega) (by omega) (by omega), aL_fl (by omega) (by omega) (by omega) (by omega)]
  exact ⟨rfl, rfl⟩
/-- means along the knots -/
def zl (U : Nat → List Int) (p : Nat → Nat) : Nat → Int
  | 0 => 0
  | n + 1 => zl U p n + zm (U (p n * 16 + p (n + 1)))
theorem rp_sum_is {T : Nat → Ty} {U : Nat → List Int} (ht : trow T U) (hl : lrow U) {p : Nat → Nat} : ∀ L, (∀ i, i < L → p i < 16 ∧ p (i + 1) < 16 ∧ U (p i * 16 + p (i + 1)) ≠ []) → rp_sum T p L = aL (zl U p L) := by
  intro L
  induction L with
  | zero => intro _; rfl
  | succ L ih =>
    intro h
    obtain ⟨h1, h2, h3⟩ := h L (by omega)
    rw [rp_sum, zl, ih (fun i hi => h i (by omega)), ht _ (by omega), (ty_mean_is hl (by omega) h3).1, aL_add]
theorem ro_U_ne {U : Nat → List Int} {d : Tl} {a b v : Nat} (h : ro_by (ro_U U) d a b = some v) : a < 16 ∧ b < 16 ∧ U (a * 16 + b) ≠ [] := by
  obtain ⟨x, y, ex, -, -⟩ := ro_by_some.1 h
  unfold ro_U at ex
  split at ex
  · next q => exact q
  · cases ex
theorem ro_pt_ne {U : Nat → List Int} {n gl x v : Nat} (hn : n ≤ 16) (hg : gl < n) (hv : ro_end (ro_U U) n gl x = some v) : ∀ i, i < v % 32 → ro_pt (ro_U U) n gl x i < 16 ∧ ro_pt (ro_U U) n gl x (i + 1) < 16 ∧ U (ro_pt (ro_U U) n gl x i * 16 + ro_pt (ro_U U) n gl x (i + 1)) ≠ [] := by
  intro i hi
  obtain ⟨u, hu, h1, h2⟩ := ro_pt_is (ro_U_32 U) hn hg hv i (by omega)
  have hne : ro_pt (ro_U U) n gl x i ≠ gl := by
    intro q
    rw [q, ro_end_g (ro_32_pos (ro_U_32 U)) hg] at hu
    cases hu
    omega
  exact ro_U_ne (ro_nx_is (ro_32_pos (ro_U_32 U)) hg hu hne).2.1
/-- the class's lists are the model's rows -/
theorem mrow_of {B : Bk} {lm : Nat} (hok : bk_ok B lm) {wk : Int32} {S T V : Md} {z q : Nat} (hG : GI B wk S (nR B) z) (hS : SI B wk T (nR B) (nR B) q) (hq : q ≤ 400) (hM : MI T q (q * q) V) : mrow V (LM B wk S z) ∧ lrow (LM B wk S z) ∧ trow (mt_F S z) (LM B wk S z) := by
  have hz4 := hG.1.2.1
  have hlen : ∀ k, (LM B wk S z k).length ≤ 400 := by
    intro k
    unfold LM
    rw [List.length_map, lst_len]
    exact Nat.le_trans (cN_le _ _) hz4
  refine ⟨fun k hk => ?_, fun k hk => ⟨hlen k, LM_b hok hG hk⟩, fun k hk => mt_F_is hok hG hk⟩
  obtain ⟨h1, h2, h3, -, -⟩ := hM k hk
  rw [meet_same hok hG hS hq hk] at h1 h2 h3
  refine ⟨h1, h2, fun hne => h3 ?_⟩
  show ¬ nI _ = 0
  rw [nI_z (by have := hlen k; omega)]
  have := len_pos hne
  omega
