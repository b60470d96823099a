/-! 30: the book and the model's rows (laid by wip/whole/p30.py) -/
def nO (B : Bk) : Nat := (bk_o B).1.toInt.toNat
def nS (B : Bk) : Nat := (bk_s B).1.toInt.toNat
def nN (B : Bk) : Nat := (bk_n B).1.toInt.toNat
def nR (B : Bk) : Nat := (bk_r B).1.toInt.toNat
def nJ (B : Bk) : Nat := (bk_j B).1.toInt.toNat
def ok_o (B : Bk) (lm : Nat) (k : Nat) : Prop := -5000 ≤ (bk_oat B (nI k) 0).toInt ∧ (bk_oat B (nI k) 0).toInt ≤ 9999 ∧ -1 ≤ (bk_oat B (nI k) 1).toInt ∧ (bk_oat B (nI k) 1).toInt < lm
def ok_s (B : Bk) (k : Nat) : Prop := 0 ≤ (bk_sat B (nI k) 0).toInt ∧ (bk_sat B (nI k) 0).toInt ≤ 9 ∧ 1 ≤ (bk_sat B (nI k) 1).toInt ∧ (bk_sat B (nI k) 1).toInt ≤ 99 ∧ 0 ≤ (bk_sat B (nI k) 2).toInt ∧ (bk_sat B (nI k) 2).toInt ≤ 1
def ok_n (B : Bk) (k : Nat) : Prop := 0 ≤ (bk_nat B (nI k) 0).toInt ∧ (bk_nat B (nI k) 0).toInt ≤ 3 ∧ 0 ≤ (bk_nat B (nI k) 1).toInt ∧ (bk_nat B (nI k) 1).toInt ≤ 9999
def ok_r (B : Bk) (k : Nat) : Prop := 0 ≤ (bk_rat B (nI k) 0).toInt ∧ (bk_rat B (nI k) 0).toInt < nN B ∧ 0 ≤ (bk_rat B (nI k) 1).toInt ∧ (bk_rat B (nI k) 1).toInt < nS B ∧ 0 ≤ (bk_rat B (nI k) 2).toInt ∧ (bk_rat B (nI k) 2).toInt ≤ 4 ∧ 0 ≤ (bk_rat B (nI k) 3).toInt ∧ (bk_rat B (nI k) 3).toInt < nO B ∧ 0 ≤ (bk_rat B (nI k) 4).toInt ∧ (bk_rat B (nI k) 4).toInt ≤ 4 ∧ 0 ≤ (bk_rat B (nI k) 5).toInt ∧ (bk_rat B (nI k) 5).toInt ≤ 9999 ∧ -1 ≤ (bk_rat B (nI k) 6).toInt ∧ (bk_rat B (nI k) 6).toInt ≤ 9999 ∧ 0 ≤ (bk_rat B (nI k) 7).toInt ∧ (bk_rat B (nI k) 7).toInt ≤ 9999 ∧ 0 ≤ (bk_rat B (nI k) 8).toInt ∧ (bk_rat B (nI k) 8).toInt ≤ 10000
def ok_j (B : Bk) (k : Nat) : Prop := 0 ≤ (bk_jat B (nI k) 0).toInt ∧ (bk_jat B (nI k) 0).toInt < nO B ∧ 0 ≤ (bk_jat B (nI k) 1).toInt ∧ (bk_jat B (nI k) 1).toInt < nO B ∧ ¬ bk_jat B (nI k) 0 = bk_jat B (nI k) 1 ∧ 1 ≤ (bk_jat B (nI k) 2).toInt ∧ (bk_jat B (nI k) 2).toInt ≤ 99
/-- a book as the calls make it; lm laws are made -/
def bk_ok (B : Bk) (lm : Nat) : Prop := (0 ≤ (bk_now B).toInt ∧ (bk_now B).toInt ≤ 9999) ∧ ((bk_o B).1 = nI (nO B) ∧ nO B ≤ 16 ∧ ∀ k, k < nO B → ok_o B lm k) ∧ ((bk_s B).1 = nI (nS B) ∧ nS B ≤ 24 ∧ ∀ k, k < nS B → ok_s B k) ∧ ((bk_n B).1 = nI (nN B) ∧ nN B ≤ 80 ∧ ∀ k, k < nN B → ok_n B k) ∧ ((bk_r B).1 = nI (nR B) ∧ nR B ≤ 400 ∧ ∀ k, k < nR B → ok_r B k) ∧ ((bk_j B).1 = nI (nJ B) ∧ nJ B ≤ 9 ∧ ∀ k, k < nJ B → ok_j B k)
def rb_o (B : Bk) (S : Md) (k : Nat) : Prop := S.2.2.1 6 k = bk_oat B (nI k) 0 ∧ S.2.2.1 7 k = bk_oat B (nI k) 1
def rb_s (B : Bk) (S : Md) (k : Nat) : Prop := S.2.2.1 8 k = bk_sat B (nI k) 0 ∧ S.2.2.1 9 k = bk_sat B (nI k) 1 ∧ S.2.2.1 10 k = bk_sat B (nI k) 2
def rb_n (B : Bk) (S : Md) (k : Nat) : Prop := S.2.2.1 11 k = bk_nat B (nI k) 0 ∧ S.2.2.1 12 k = bk_nat B (nI k) 1
def rb_r (B : Bk) (S : Md) (k : Nat) : Prop := S.2.2.1 13 k = bk_rat B (nI k) 0 ∧ S.2.2.1 14 k = bk_rat B (nI k) 1 ∧ S.2.2.1 15 k = bk_rat B (nI k) 2 ∧ S.2.2.1 16 k = bk_rat B (nI k) 3 ∧ S.2.2.1 17 k = bk_rat B (nI k) 4 ∧ S.2.2.1 18 k = bk_rat B (nI k) 5 ∧ S.2.2.1 19 k = bk_rat B (nI k) 6 ∧ S.2.2.1 20 k = bk_rat B (nI k) 7 ∧ S.2.2.1 21 k = (if bk_rat B (nI k) 8 = 10000 then -1 else bk_rat B (nI k) 8)
def rb_j (B : Bk) (S : Md) (k : Nat) : Prop := S.2.2.1 61 k = bk_jat B (nI k) 0 ∧ S.2.2.1 62 k = bk_jat B (nI k) 1 ∧ S.2.2.1 63 k = bk_jat B (nI k) 2
/-- the model's rows hold the book -/
def RB (B : Bk) (S : Md) : Prop := (S.1 1 = bk_now B ∧ S.1 2 = (bk_o B).1 ∧ S.1 3 = (bk_s B).1 ∧ S.1 4 = (bk_n B).1 ∧ S.1 5 = (bk_r B).1 ∧ S.1 60 = (bk_j B).1) ∧ (∀ k, k < nO B → rb_o B S k) ∧ (∀ k, k < nS B → rb_s B S k) ∧ (∀ k, k < nN B → rb_n B S k) ∧ (∀ k, k < nR B → rb_r B S k) ∧ ∀ k, k < nJ B → rb_j B S k
/-- the rows that hold the book are the same -/
def sb (S T : Md) : Prop := (∀ k, k = 1 ∨ k = 2 ∨ k = 3 ∨ k = 4 ∨ k = 5 ∨ k = 60 → T.1 k = S.1 k) ∧ ∀ k, (6 ≤ k ∧ k ≤ 21) ∨ (61 ≤ k ∧ k ≤ 63) → T.2.2.1 k = S.2.2.1 k
theorem RB.of {B : Bk} {S T : Md} (h : RB B S) (s : sb S T) : RB B T := by
  obtain ⟨s1, s2⟩ := s
  unfold RB rb_o rb_s rb_n rb_r rb_j at h ⊢
  rw [s1 1 (by omega), s1 2 (by omega), s1 3 (by omega), s1 4 (by omega), s1 5 (by omega), s1 60 (by omega), s2 6 (by omega), s2 7 (by omega), s2 8 (by omega), s2 9 (by omega), s2 10 (by omega), s2 11 (by omega), s2 12 (by omega), s2 13 (by omega), s2 14 (by omega), s2 15 (by omega), s2 16 (by omega), s2 17 (by omega), s2 18 (by omega), s2 19 (by omega), s2 20 (by omega), s2 21 (by omega), s2 61 (by omega), s2 62 (by omega), s2 63 (by omega)]
  exact h
theorem i32_nat {x : Int32} (h : 0 ≤ x.toInt) : nI x.toNatClampNeg = x := by
  have h1 := i32_clamp h
  have h2 : x.toInt < 2147483648 := Int32.toInt_lt x
  apply Int32.toInt_inj.mp
  rw [nI_toInt (by omega)]
  exact h1
theorem i32_ex {x : Int32} {n : Nat} (h : 0 ≤ x.toInt) (h2 : x.toInt < n) : ∃ k, k < n ∧ x = nI k := ⟨x.toNatClampNeg, by have := i32_clamp h; omega, (i32_nat h).symm⟩
theorem bk_ok_rows {B : Bk} {lm : Nat} (h : bk_ok B lm) : bk_rows B := by
  intro k hk
  obtain ⟨-, ⟨-, ho, -⟩, -, ⟨-, hn, -⟩, ⟨-, -, hr⟩, -⟩ := h
  obtain ⟨r1, r2, -, -, -, -, r3, r4, -⟩ := hr k hk
  refine ⟨i32_ex r1 (by omega), i32_ex r3 (by omega)⟩
theorem rb_counts {B : Bk} {S : Md} (hRB : RB B S) {k : Nat} {lm : Nat} (hok : bk_ok B lm) (hk : k < nR B) {w : Int32} (hw : w.toInt ≤ 9999) : ms_counts S k w = bk_known B (nI k) w := by
  obtain ⟨-, -, -, -, h, -⟩ := hRB
  obtain ⟨-, -, -, -, -, -, -, h7, h8⟩ := h k hk
  unfold ms_counts bk_known
  rw [h7, h8]
  by_cases h1 : w < bk_rat B (nI k) 7
  · rw [if_pos h1, if_pos h1]
  · rw [if_neg h1, if_neg h1]
    by_cases h2 : bk_rat B (nI k) 8 = 10000
    · rw [if_pos h2, if_pos rfl, h2, if_neg (by rw [i32_le]; rw [show (10000 : Int32).toInt = 10000 from rfl]; omega)]
    · rw [if_neg h2]
      by_cases h3 : bk_rat B (nI k) 8 = -1
      · obtain ⟨-, -, -, -, ⟨-, -, hr⟩, -⟩ := hok
        obtain ⟨-, -, -, -, -, -, -, -, -, -, -, -, -, -, -, -, r, -⟩ := hr k hk
        rw [h3] at r
        exact absurd r (by decide)
      · rw [if_neg h3]
theorem rb_red {B : Bk} {S : Md} {lm : Nat} (hok : bk_ok B lm) (hRB : RB B S) {k : Nat} (hk : k < nR B) : ms_red S k = bk_red B (nI k) ∧ vp_in (S.2.2.1 14 k) 24 := by
  obtain ⟨-, -, ⟨-, hs, -⟩, -, ⟨-, -, hr⟩, -⟩ := hok
  obtain ⟨-, -, r1, r2, -⟩ := hr k hk
  obtain ⟨-, -, b2, -, b4, -⟩ := hRB
  obtain ⟨-, q1, q2, -, -, q5, -⟩ := b4 k hk
  obtain ⟨s, s1, s2⟩ := i32_ex r1 r2
  have hc : (bk_rat B (nI k) 1).toNatClampNeg = s := by rw [s2, nI_clamp (by omega)]
  unfold ms_red ms_thr bk_red
  rw [q5, q2, q1, hc, (b2 s s1).2.1, s2]
  exact ⟨rfl, vp_in_nI (by omega) (by decide)⟩
