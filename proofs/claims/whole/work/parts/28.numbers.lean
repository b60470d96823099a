/-! 28: numbers of 32 and 64 bits as whole numbers -/
def aI (z : Int) : Int32 := Int32.ofInt z
def aL (z : Int) : Int64 := Int64.ofInt z
theorem aL_add (a b : Int) : aL a + aL b = aL (a + b) := (Int64.ofInt_add a b).symm
theorem aL_sub (a b : Int) : aL a - aL b = aL (a - b) := (Int64.ofInt_sub a b).symm
theorem aL_mul (a b : Int) : aL a * aL b = aL (a * b) := (Int64.ofInt_mul a b).symm
theorem aL_neg (a : Int) : - aL a = aL (- a) := (Int64.ofInt_neg a).symm
theorem aI_add (a b : Int) : aI a + aI b = aI (a + b) := (Int32.ofInt_add a b).symm
theorem aI_sub (a b : Int) : aI a - aI b = aI (a - b) := (Int32.ofInt_sub a b).symm
theorem aI_mul (a b : Int) : aI a * aI b = aI (a * b) := (Int32.ofInt_mul a b).symm
theorem aI_neg (a : Int) : - aI a = aI (- a) := (Int32.ofInt_neg a).symm
theorem aI_to (x : Int32) : aI x.toInt = x := Int32.ofInt_toInt x
theorem aL_to (x : Int64) : aL x.toInt = x := Int64.ofInt_toInt x
theorem aI_nat (n : Nat) : aI (n : Int) = nI n := rfl
theorem aL_l2i (a : Int) : (aL a).toInt32 = aI a := Int64.toInt32_ofInt
theorem aI_i2l {a : Int} (h1 : -2147483648 ≤ a) (h2 : a ≤ 2147483647) : (aI a).toInt64 = aL a := Int32.toInt64_ofInt h1 h2
theorem aI_int {a : Int} (h1 : -2147483648 ≤ a) (h2 : a ≤ 2147483647) : (aI a).toInt = a := Int32.toInt_ofInt_of_le h1 (by omega)
theorem aL_int {a : Int} (h1 : -9223372036854775808 ≤ a) (h2 : a ≤ 9223372036854775807) : (aL a).toInt = a := Int64.toInt_ofInt_of_le h1 (by omega)
theorem aI_lt {a b : Int} (h1 : -2147483648 ≤ a) (h2 : a ≤ 2147483647) (h3 : -2147483648 ≤ b) (h4 : b ≤ 2147483647) : aI a < aI b ↔ a < b := Int32.ofInt_lt_iff_lt h1 h2 h3 h4
theorem aI_le {a b : Int} (h1 : -2147483648 ≤ a) (h2 : a ≤ 2147483647) (h3 : -2147483648 ≤ b) (h4 : b ≤ 2147483647) : aI a ≤ aI b ↔ a ≤ b := Int32.ofInt_le_iff_le h1 h2 h3 h4
theorem aI_eq {a b : Int} (h1 : -2147483648 ≤ a) (h2 : a ≤ 2147483647) (h3 : -2147483648 ≤ b) (h4 : b ≤ 2147483647) : aI a = aI b ↔ a = b :=
  ⟨fun h => by have := congrArg Int32.toInt h; rwa [aI_int h1 h2, aI_int h3 h4] at this, fun h => by rw [h]⟩
theorem aL_lt {a b : Int} (h1 : -9223372036854775808 ≤ a) (h2 : a ≤ 9223372036854775807) (h3 : -9223372036854775808 ≤ b) (h4 : b ≤ 9223372036854775807) : aL a < aL b ↔ a < b := Int64.ofInt_lt_iff_lt h1 h2 h3 h4
theorem aL_le {a b : Int} (h1 : -9223372036854775808 ≤ a) (h2 : a ≤ 9223372036854775807) (h3 : -9223372036854775808 ≤ b) (h4 : b ≤ 9223372036854775807) : aL a ≤ aL b ↔ a ≤ b := Int64.ofInt_le_iff_le h1 h2 h3 h4
theorem aL_eq {a b : Int} (h1 : -9223372036854775808 ≤ a) (h2 : a ≤ 9223372036854775807) (h3 : -9223372036854775808 ≤ b) (h4 : b ≤ 9223372036854775807) : aL a = aL b ↔ a = b :=
  ⟨fun h => by have := congrArg Int64.toInt h; rwa [aL_int h1 h2, aL_int h3 h4] at this, fun h => by rw [h]⟩
theorem aL_div {a b : Int} (h1 : -9223372036854775808 ≤ a) (h2 : a ≤ 9223372036854775807) (h3 : -9223372036854775808 ≤ b) (h4 : b ≤ 9223372036854775807) : aL a / aL b = aL (a.tdiv b) := (Int64.ofInt_tdiv h1 h2 h3 h4).symm
theorem aI_div {a b : Int} (h1 : -2147483648 ≤ a) (h2 : a ≤ 2147483647) (h3 : -2147483648 ≤ b) (h4 : b ≤ 2147483647) : aI a / aI b = aI (a.tdiv b) := (Int32.ofInt_tdiv h1 h2 h3 h4).symm
theorem aL_quo {a b : Int} (h1 : 0 ≤ a) (h2 : a ≤ 9223372036854775807) (h3 : 0 ≤ b) (h4 : b ≤ 9223372036854775807) : aL a / aL b = aL (a / b) := by
  rw [aL_div (by omega) h2 (by omega) h4, Int.tdiv_eq_ediv_of_nonneg h1]
theorem aI_quo {a b : Int} (h1 : 0 ≤ a) (h2 : a ≤ 2147483647) (h3 : 0 ≤ b) (h4 : b ≤ 2147483647) : aI a / aI b = aI (a / b) := by
  rw [aI_div (by omega) h2 (by omega) h4, Int.tdiv_eq_ediv_of_nonneg h1]
theorem i64_xor (a b : Int64) : 0 ≤ a ^^^ b ↔ (a.toInt < 0 ↔ b.toInt < 0) := by
  rw [Int64.le_iff_toInt_le]
  have e : (a ^^^ b).toBitVec = a.toBitVec ^^^ b.toBitVec := rfl
  have m : ∀ x : Int64, x.toBitVec.msb = decide (x.toInt < 0) := fun x => BitVec.msb_eq_toInt
  have := m (a ^^^ b)
  rw [e, BitVec.msb_xor, m a, m b] at this
  have h0 : (0 : Int64).toInt = 0 := rfl
  rw [h0]
  by_cases ha : a.toInt < 0 <;> by_cases hb : b.toInt < 0 <;> simp [ha, hb] at this ⊢ <;> omega
theorem i32_xor (a b : Int32) : 0 ≤ a ^^^ b ↔ (a.toInt < 0 ↔ b.toInt < 0) := by
  rw [Int32.le_iff_toInt_le]
  have e : (a ^^^ b).toBitVec = a.toBitVec ^^^ b.toBitVec := rfl
  have m : ∀ x : Int32, x.toBitVec.msb = decide (x.toInt < 0) := fun x => BitVec.msb_eq_toInt
  have := m (a ^^^ b)
  rw [e, BitVec.msb_xor, m a, m b] at this
  have h0 : (0 : Int32).toInt = 0 := rfl
  rw [h0]
  by_cases ha : a.toInt < 0 <;> by_cases hb : b.toInt < 0 <;> simp [ha, hb] at this ⊢ <;> omega
/-- rounding to nothing against rounding down -/
theorem td_neg {a b : Int} (ha : a < 0) (hb : 0 < b) : (a.tdiv b * b = a → a / b = a.tdiv b) ∧ (¬ a.tdiv b * b = a → a / b = a.tdiv b - 1) ∧ (a.tdiv b * b - a < b ∧ a ≤ a.tdiv b * b) := by
  have h1 : a.tdiv b = -((-a) / b) := by
    have : a.tdiv b = -((-a).tdiv b) := by rw [Int.neg_tdiv]; omega
    rw [this, Int.tdiv_eq_ediv_of_nonneg (by omega)]
  have h2 := Int.mul_ediv_add_emod (-a) b
  have h3 := Int.emod_nonneg (-a) (show b ≠ 0 by omega)
  have h4 := Int.emod_lt_of_pos (-a) hb
  have h5 : a.tdiv b * b = -(b * ((-a) / b)) := by rw [h1, Int.neg_mul, Int.mul_comm]
  refine ⟨fun h => ?_, fun h => ?_, ?_, ?_⟩
  · rw [h5] at h
    have e : a = b * (-((-a) / b)) := by rw [Int.mul_neg]; omega
    rw [h1]
    have := Int.mul_ediv_cancel_left (-((-a) / b)) (show b ≠ 0 by omega)
    rwa [← e] at this
  · rw [h5] at h
    rw [h1]
    apply Int.le_antisymm
    · apply Int.le_of_lt_add_one
      apply Int.ediv_lt_of_lt_mul hb
      have : (-(-a / b) - 1 + 1) * b = -(b * (-a / b)) := by rw [Int.sub_add_cancel, Int.neg_mul, Int.mul_comm]
      rw [this]
      omega
    · apply Int.le_ediv_of_mul_le hb
      have : (-(-a / b) - 1) * b = -(b * (-a / b)) - b := by rw [Int.sub_mul, Int.neg_mul, Int.mul_comm, Int.one_mul]
      rw [this]
      omega
  · rw [h5]; omega
  · rw [h5]; omega
theorem td_abs {a b : Int} (hb : 0 < b) : (0 ≤ a → 0 ≤ a.tdiv b ∧ a.tdiv b ≤ a) ∧ (a < 0 → a ≤ a.tdiv b ∧ a.tdiv b ≤ 0) := by
  refine ⟨fun h => ?_, fun h => ?_⟩
  · rw [Int.tdiv_eq_ediv_of_nonneg h]
    exact ⟨Int.ediv_nonneg h (by omega), Int.ediv_le_self b h⟩
  · have h1 : a.tdiv b = -((-a) / b) := by
      have : a.tdiv b = -((-a).tdiv b) := by rw [Int.neg_tdiv]; omega
      rw [this, Int.tdiv_eq_ediv_of_nonneg (by omega)]
    have := Int.ediv_nonneg (show 0 ≤ -a by omega) (show 0 ≤ b by omega)
    have := Int.ediv_le_self b (show 0 ≤ -a by omega)
    rw [h1]
    omega
theorem aL_fd {a b : Int} (h1 : -4611686018427387904 ≤ a) (h2 : a ≤ 4611686018427387904) (h3 : 0 < b) (h4 : b ≤ 4611686018427387904) : bi_fdL (aL a) (aL b) = aL (a / b) := by
  unfold bi_fdL
  have hx := i64_xor (aL a) (aL b)
  rw [aL_int (by omega) (by omega), aL_int (by omega) (by omega)] at hx
  rw [aL_div (by omega) (by omega) (by omega) (by omega)]
  obtain ⟨p, q⟩ := td_abs (a := a) h3
  by_cases ha : a < 0
  · rw [if_neg (by rw [hx]; omega), aL_mul]
    obtain ⟨n1, n2, n3, n4⟩ := td_neg ha h3
    have := q ha
    by_cases hm : a.tdiv b * b = a
    · rw [if_pos (by rw [hm]), n1 hm]
    · rw [if_neg (fun z => hm ((aL_eq (by omega) (by omega) (by omega) (by omega)).1 z)), n2 hm, ← aL_sub]; rfl
  · rw [if_pos (by rw [hx]; omega), Int.tdiv_eq_ediv_of_nonneg (by omega)]
theorem aI_fd {a b : Int} (h1 : -1073741824 ≤ a) (h2 : a ≤ 1073741824) (h3 : 0 < b) (h4 : b ≤ 1073741824) : bi_fdI (aI a) (aI b) = aI (a / b) := by
  unfold bi_fdI
  have hx := i32_xor (aI a) (aI b)
  rw [aI_int (by omega) (by omega), aI_int (by omega) (by omega)] at hx
  rw [aI_div (by omega) (by omega) (by omega) (by omega)]
  obtain ⟨p, q⟩ := td_abs (a := a) h3
  by_cases ha : a < 0
  · rw [if_neg (by rw [hx]; omega), aI_mul]
    obtain ⟨n1, n2, n3, n4⟩ := td_neg ha h3
    have := q ha
    by_cases hm : a.tdiv b * b = a
    · rw [if_pos (by rw [hm]), n1 hm]
    · rw [if_neg (fun z => hm ((aI_eq (by omega) (by omega) (by omega) (by omega)).1 z)), n2 hm, ← aI_sub]; rfl
  · rw [if_pos (by rw [hx]; omega), Int.tdiv_eq_ediv_of_nonneg (by omega)]
theorem aL_fl {a b : Int} (h1 : -4611686018427387904 ≤ a) (h2 : a ≤ 4611686018427387904) (h3 : 0 < b) (h4 : b ≤ 4611686018427387904) : bi_fl (aL a) (aL b) = aL (a / b) := by
  unfold bi_fl
  rw [aL_div (by omega) (by omega) (by omega) (by omega), aL_mul, aL_sub]
  obtain ⟨p, q⟩ := td_abs (a := a) h3
  by_cases ha : a < 0
  · obtain ⟨n1, n2, n3, n4⟩ := td_neg ha h3
    have := q ha
    by_cases hm : a.tdiv b * b = a
    · rw [if_pos (by rw [hm, Int.sub_self]; decide), n1 hm]
    · rw [if_neg (fun z => by have := (aL_le (a := 0) (by omega) (by omega) (by omega) (by omega)).1 z; omega), n2 hm, ← aL_sub]; rfl
  · have := p (by omega)
    have e := Int.tdiv_eq_ediv_of_nonneg (b := b) (show 0 ≤ a by omega)
    have h5 := Int.mul_ediv_add_emod a b
    have h6 := Int.emod_nonneg a (show b ≠ 0 by omega)
    have h7 := Int.emod_lt_of_pos a h3
    have h8 : a / b * b = b * (a / b) := Int.mul_comm _ _
    rw [e, if_pos (by rw [show (0 : Int64) = aL 0 from rfl, aL_le (by omega) (by omega) (by omega) (by omega)]; omega)]
