/-! 65: texts: places, words, numbers, tokens -/
/-- the first place from p on where P fails, or the text's end -/
def tx_rk (P : Nat → Bool) : Nat → Nat → Nat
  | 0, p => p
  | k + 1, p => if P p = true then tx_rk P k (p + 1) else p
def tx_rn (P : Nat → Bool) (n p : Nat) : Nat := tx_rk P (n - p) p
theorem tx_y {P : Nat → Bool} {n p : Nat} (h : p < n) (hp : P p = true) : tx_rn P n p = tx_rn P n (p + 1) := by
  unfold tx_rn
  obtain ⟨k, hk⟩ : ∃ k, n - p = k + 1 := ⟨n - p - 1, by omega⟩
  rw [hk, show n - (p + 1) = k by omega, tx_rk, if_pos hp]
theorem tx_n {P : Nat → Bool} {n p : Nat} (h : ¬ (p < n ∧ P p = true)) : tx_rn P n p = p := by
  unfold tx_rn
  cases e : n - p with
  | zero => rfl
  | succ k => rw [tx_rk, if_neg (fun z => h ⟨by omega, z⟩)]
theorem tx_ge {P : Nat → Bool} {n : Nat} : ∀ (k p : Nat), n - p = k → p ≤ tx_rn P n p ∧ (p ≤ n → tx_rn P n p ≤ n) ∧ (n ≤ p → tx_rn P n p = p) ∧ (∀ q, p ≤ q → q < tx_rn P n p → P q = true) ∧ (tx_rn P n p < n → ¬ P (tx_rn P n p) = true) := by
  intro k
  induction k with
  | zero =>
    intro p hp
    rw [tx_n (by omega)]
    exact ⟨Nat.le_refl _, fun z => z, fun _ => rfl, fun q h1 h2 => absurd h2 (by omega), fun z => absurd z (by omega)⟩
  | succ k ih =>
    intro p hp
    by_cases h : P p = true
    · rw [tx_y (by omega) h]
      obtain ⟨a, b, c, d, e⟩ := ih (p + 1) (by omega)
      refine ⟨by omega, fun z => b (by omega), fun z => absurd z (by omega), fun q h1 h2 => ?_, e⟩
      by_cases hq : q = p
      · rw [hq]; exact h
      · exact d q (by omega) h2
    · rw [tx_n (fun z => h z.2)]
      exact ⟨Nat.le_refl _, fun z => z, fun _ => rfl, fun q h1 h2 => absurd h2 (by omega), fun _ => h⟩
theorem tx_idem {P : Nat → Bool} {n p : Nat} : tx_rn P n (tx_rn P n p) = tx_rn P n p := by
  obtain ⟨a, b, c, d, e⟩ := tx_ge (P := P) (n := n) (n - p) p rfl
  apply tx_n
  rintro ⟨h1, h2⟩
  exact e h1 h2
def tx_bl (t : Nat → Nat) : Nat → Bool := fun q => decide (t q = 32)
def tx_dg (t : Nat → Nat) : Nat → Bool := fun q => decide (48 ≤ t q ∧ t q ≤ 57)
def tx_lt (t : Nat → Nat) : Nat → Bool := fun q => decide (97 ≤ t q ∧ t q ≤ 122)
/-- the words: lean, if, or, and, not, and the ten of a record -/
def tx_ws : List (List Nat) := [[108, 101, 97, 110], [105, 102], [111, 114], [97, 110, 100], [110, 111, 116], [98, 114, 105, 103, 104, 116], [112, 97, 99, 101], [115, 105, 100, 101], [115, 116, 97, 114], [116, 104, 114, 101, 97, 100], [119, 97, 121], [119, 101, 101, 107], [121, 101, 97, 114], [104, 111, 117, 115, 101], [97, 103, 101]]
def tx_sg (t : Nat → Nat) (a b : Nat) : List Nat := (List.range (b - a)).map fun i => t (a + i)
def tx_ix (t : Nat → Nat) (a b : Nat) : Nat := tx_ws.idxOf (tx_sg t a b)
theorem tx_ws_len : ∀ j, j < 15 → (tx_ws.getD j []).length = ai_sl.getD j 0 := by decide
theorem tx_ws_by : ∀ j, j < 15 → ∀ i, i < ai_sl.getD j 0 → sby j i = nI ((tx_ws.getD j []).getD i 0) ∧ 97 ≤ (tx_ws.getD j []).getD i 0 ∧ (tx_ws.getD j []).getD i 0 ≤ 122 := by decide +kernel
theorem tx_ws_ix : ∀ j, j < 15 → tx_ws.idxOf (tx_ws.getD j []) = j := by decide +kernel
theorem tx_ix_le (t : Nat → Nat) (a b : Nat) : tx_ix t a b ≤ 15 := List.idxOf_le_length
theorem tx_ix_get {t : Nat → Nat} {a b : Nat} (h : tx_ix t a b < 15) : tx_sg t a b = tx_ws.getD (tx_ix t a b) [] := by
  have h1 : tx_ws.idxOf (tx_sg t a b) < tx_ws.length := h
  have h2 : tx_ws[tx_ws.idxOf (tx_sg t a b)]'h1 = tx_sg t a b := List.getElem_idxOf h1
  unfold tx_ix
  rw [List.getD_eq_getElem?_getD, List.getElem?_eq_getElem h1, Option.getD_some, h2]
theorem tx_ix_iff {t : Nat → Nat} {a b j : Nat} (hj : j < 15) : tx_ix t a b = j ↔ tx_sg t a b = tx_ws.getD j [] := by
  constructor
  · intro h
    rw [← h]
    exact tx_ix_get (by omega)
  · intro h
    unfold tx_ix
    rw [h]
    exact tx_ws_ix j hj
theorem tx_sg_len (t : Nat → Nat) (a b : Nat) : (tx_sg t a b).length = b - a := by simp [tx_sg]
theorem tx_sg_get {t : Nat → Nat} {a b i : Nat} (h : i < b - a) : (tx_sg t a b)[i]? = some (t (a + i)) := by
  unfold tx_sg
  rw [List.getElem?_map, List.getElem?_range h]
  rfl
/-- spelled: as long, and sign by sign -/
theorem tx_spell {t : Nat → Nat} {a b j : Nat} (hj : j < 15) : tx_ix t a b = j ↔ b - a = ai_sl.getD j 0 ∧ ∀ i, i < ai_sl.getD j 0 → t (a + i) = (tx_ws.getD j []).getD i 0 := by
  rw [tx_ix_iff hj]
  have hl := tx_ws_len j hj
  constructor
  · intro h
    have h1 : b - a = ai_sl.getD j 0 := by rw [← tx_sg_len t a b, h, hl]
    refine ⟨h1, fun i hi => ?_⟩
    rw [← h, List.getD_eq_getElem?_getD, tx_sg_get (by omega)]
    rfl
  · rintro ⟨h1, h2⟩
    apply List.ext_getElem?
    intro i
    by_cases hi : i < ai_sl.getD j 0
    · have := h2 i hi
      rw [List.getD_eq_getElem?_getD] at this
      rw [List.getElem?_eq_getElem (show i < (tx_ws.getD j []).length by omega)] at this ⊢
      simp only [Option.getD_some] at this
      rw [← this]
      exact tx_sg_get (by omega)
    · rw [List.getElem?_eq_none (by rw [tx_sg_len]; omega), List.getElem?_eq_none (by omega)]
theorem tx_sl : ∀ j, j < 15 → 2 ≤ ai_sl.getD j 0 ∧ ai_sl.getD j 0 ≤ 6 := by decide
/-- what k digits come to, of which five count -/
def tx_nv (t : Nat → Nat) (a : Nat) : Nat → Nat
  | 0 => 0
  | k + 1 => if k < 5 then 10 * tx_nv t a k + (t (a + k) - 48) else tx_nv t a k
theorem tx_nv_b {t : Nat → Nat} {a : Nat} : ∀ k, (∀ i, i < k → tx_dg t (a + i) = true) → tx_nv t a k ≤ 99999 ∧ (k ≤ 5 → tx_nv t a k + 1 ≤ 10 ^ k)
  | 0, _ => ⟨Nat.zero_le _, fun _ => Nat.le_refl _⟩
  | k + 1, h => by
    obtain ⟨h1, h2⟩ := tx_nv_b (t := t) (a := a) k (fun i hi => h i (by omega))
    have h3 := of_decide_eq_true (h k (by omega))
    rw [tx_nv]
    by_cases hk : k < 5
    · rw [if_pos hk]
      have h4 := h2 (by omega)
      have h5 : (10 : Nat) ^ (k + 1) = 10 * 10 ^ k := by rw [Nat.pow_succ, Nat.mul_comm]
      have h6 : (10 : Nat) ^ k ≤ 10000 := by
        have := Nat.pow_le_pow_right (n := 10) (by decide) (show k ≤ 4 by omega)
        exact this
      refine ⟨by omega, fun _ => by omega⟩
    · rw [if_neg hk]
      exact ⟨h1, fun z => absurd z (by omega)⟩
/-- the sign at a place, 0 behind the end -/
def tx_ch (t : Nat → Nat) (n p : Nat) : Nat := if p < n then t p else 0
/-- where the token begins that is read from p -/
def tx_fr (t : Nat → Nat) (n p : Nat) : Nat := tx_rn (tx_bl t) n p
def tx_wk (j : Nat) : Nat := if j = 0 then 14 else if j = 1 then 15 else if j = 2 then 11 else if j = 3 then 10 else if j = 4 then 9 else if j < 15 then 1 else 19
def tx_sk (c d : Nat) : Nat := if c = 59 then 17 else if c = 91 then 12 else if c = 93 then 16 else if c = 43 then 2 else if c = 45 then 3 else if c = 42 then 13 else if c = 61 then 6 else if c = 60 then (if d = 61 then 5 else 4) else if c = 62 then (if d = 61 then 7 else 8) else 19
/-- the token that begins at a: its kind, its end, its value -/
def tx_k (t : Nat → Nat) (n a : Nat) : Nat := if n ≤ a then 18 else if tx_dg t a = true then 0 else if tx_lt t a = true then tx_wk (tx_ix t a (tx_rn (tx_lt t) n (a + 1))) else tx_sk (t a) (tx_ch t n (a + 1))
def tx_e (t : Nat → Nat) (n a : Nat) : Nat := if n ≤ a then a + 1 else if tx_dg t a = true then tx_rn (tx_dg t) n (a + 1) else if tx_lt t a = true then tx_rn (tx_lt t) n (a + 1) else if tx_sk (t a) (tx_ch t n (a + 1)) = 5 ∨ tx_sk (t a) (tx_ch t n (a + 1)) = 7 then a + 2 else a + 1
def tx_v (t : Nat → Nat) (n a : Nat) : Nat := if tx_dg t a = true then tx_nv t a (tx_rn (tx_dg t) n (a + 1) - a) else tx_ix t a (tx_rn (tx_lt t) n (a + 1)) - 5
/-- the class's number of a kind -/
def tx_kc (k : Nat) : Nat := if k = 0 then 300000 else if k = 1 then 300001 else if k = 12 then 300004 else if k = 14 then 300002 else if k = 15 then 300003 else if k = 16 then 300005 else if k = 17 then 300006 else if k = 18 then 300007 else if k = 19 then 300008 else opc k
theorem tx_fr_fr {t : Nat → Nat} {n p : Nat} : tx_fr t n (tx_fr t n p) = tx_fr t n p := tx_idem
theorem tx_fr_ge {t : Nat → Nat} {n p : Nat} : p ≤ tx_fr t n p := (tx_ge _ p rfl).1
theorem tx_fr_le {t : Nat → Nat} {n p : Nat} (h : p ≤ n) : tx_fr t n p ≤ n := (tx_ge _ p rfl).2.1 h
theorem tx_rn_ge {P : Nat → Bool} {n p : Nat} : p ≤ tx_rn P n p := (tx_ge _ p rfl).1
theorem tx_rn_le {P : Nat → Bool} {n p : Nat} (h : p ≤ n) : tx_rn P n p ≤ n := (tx_ge _ p rfl).2.1 h
theorem tx_wk_le (j : Nat) : tx_wk j ≤ 19 := by
  unfold tx_wk
  repeat' split
  all_goals decide
theorem tx_sk_le (c d : Nat) : tx_sk c d ≤ 19 := by
  unfold tx_sk
  repeat' split
  all_goals decide
theorem tx_k_le (t : Nat → Nat) (n a : Nat) : tx_k t n a ≤ 19 := by
  unfold tx_k
  repeat' split
  · decide
  · decide
  · exact tx_wk_le _
  · exact tx_sk_le _ _
theorem tx_kc_b : ∀ k, k < 20 → tx_kc k < 400000 ∧ ∀ j, j < 20 → tx_kc k = tx_kc j → k = j := by decide +kernel
theorem tx_e_gt {t : Nat → Nat} {n a : Nat} : a + 1 ≤ tx_e t n a := by
  unfold tx_e
  repeat' split
  · exact Nat.le_refl _
  · exact tx_rn_ge
  · exact tx_rn_ge
  · exact Nat.le_succ _
  · exact Nat.le_refl _
theorem tx_sk_5 {c d : Nat} (h : tx_sk c d = 5 ∨ tx_sk c d = 7) : d = 61 := by
  by_cases hd : d = 61
  · exact hd
  · exfalso
    unfold tx_sk at h
    rw [if_neg hd, if_neg hd] at h
    revert h
    repeat' split
    all_goals decide
theorem tx_e_le {t : Nat → Nat} {n a : Nat} (h : a < n) : tx_e t n a ≤ n := by
  unfold tx_e
  rw [if_neg (by omega)]
  repeat' split
  · exact tx_rn_le h
  · exact tx_rn_le h
  · next hk =>
    have h1 := tx_sk_5 hk
    unfold tx_ch at h1
    by_cases h2 : a + 1 < n
    · omega
    · rw [if_neg h2] at h1; cases h1
  · exact h
