/-! 90: the simple calls: book and model alike -/
theorem nI_mul_clamp {i w c : Nat} (h : i * w + c < 2 ^ 31) : (nI i * nI w + nI c).toNatClampNeg = i * w + c := by
  rw [nI_mul, nI_add, nI_clamp h]
theorem tb_at_n {w m i c : Nat} {f : Nat → Int32} (hi : i < m) (hc : c < w) (hm : m ≤ 400) (hw : w ≤ 9) : tb_at (nI w) (nI m) f (nI i) (nI c) = f (i * w + c) := by
  unfold tb_at
  have h1 : i * w ≤ 400 * 9 := Nat.mul_le_mul (by omega) hw
  rw [if_neg (nI_pos (by omega)), if_neg (nI_ge hi (by omega)), if_neg (nI_pos (by omega)), if_neg (nI_ge hc (by omega)), nI_mul_clamp (by omega)]
theorem tb_put_n {w m i c : Nat} {f : Nat → Int32} {x : Int32} (hi : i < m) (hc : c < w) (hm : m ≤ 400) (hw : w ≤ 9) : tb_put (nI w) (nI m) f (nI i) (nI c) x = upd f (i * w + c) x := by
  unfold tb_put
  have h1 : i * w ≤ 400 * 9 := Nat.mul_le_mul (by omega) hw
  rw [if_neg (nI_pos (by omega)), if_neg (nI_ge hi (by omega)), if_neg (nI_pos (by omega)), if_neg (nI_ge hc (by omega)), nI_mul_clamp (by omega)]
/-- places in a table -/
theorem pl_ne {i j c d w : Nat} (hc : c < w) (hd : d < w) (h : i ≠ j ∨ c ≠ d) : i * w + c ≠ j * w + d := by
  intro e
  have hw : 0 < w := by omega
  have e1 : (i * w + c) / w = i := by rw [Nat.mul_comm, Nat.mul_add_div hw, Nat.div_eq_of_lt hc, Nat.add_zero]
  have e2 : (j * w + d) / w = j := by rw [Nat.mul_comm, Nat.mul_add_div hw, Nat.div_eq_of_lt hd, Nat.add_zero]
  have e3 : i = j := by rw [← e1, e, e2]
  subst e3
  omega
/-- what lies beside the book in the model: tape, laws, marks -/
def oth (S T : Md) : Prop := (∀ j, (22 ≤ j ∧ j ≤ 29) → T.1 j = S.1 j) ∧ (∀ j, (30 ≤ j ∧ j ≤ 37) ∨ j = 68 ∨ j = 70 → T.2.2.1 j = S.2.2.1 j)
theorem oth.rf {S : Md} : oth S S := ⟨fun _ _ => rfl, fun _ _ => rfl⟩
theorem oth.trans {S T V : Md} (a : oth S T) (b : oth T V) : oth S V := ⟨fun j hj => (b.1 j hj).trans (a.1 j hj), fun j hj => (b.2 j hj).trans (a.2 j hj)⟩
theorem oth.si {S : Md} {k : Nat} {v : Int32} (hk : k < 22 ∨ 29 < k) : oth S (md_si S k v) := ⟨fun j hj => if_neg (by omega), fun _ _ => rfl⟩
theorem oth.ai {S : Md} {k : Nat} {f : Nat → Int32} (hk : ¬ ((30 ≤ k ∧ k ≤ 37) ∨ k = 68 ∨ k = 70)) : oth S (md_ai S k f) := ⟨fun _ _ => rfl, fun j hj => if_neg (fun e => hk (e ▸ hj))⟩
/-- clock -/
theorem al_clock {B : Bk} {S : Md} {lm : Nat} (hok : bk_ok B lm) (hRB : RB B S) (w : Int32) : ms_clock S w = xs_clock B w ∧ bk_ok (xs_clockB B w) lm ∧ RB (xs_clockB B w) (ms_clockS S w) ∧ oth S (ms_clockS S w) := by
  have h1 : S.1 1 = bk_now B := hRB.1.1
  obtain ⟨⟨n1, n2⟩, hrest⟩ := id hok
  unfold ms_clock xs_clock xs_clockB ms_clockS bi_in
  rw [h1]
  simp only [i32_lt, i32_le, i32_0]
  have e9 : (9999 : Int32).toInt = 9999 := rfl
  rw [e9]
  by_cases c1 : w.toInt < 0
  · rw [if_pos c1, if_pos rfl, if_pos rfl, if_pos (show w.toInt < (bk_now B).toInt by omega), if_pos rfl, if_pos rfl]
    exact ⟨rfl, hok, hRB, oth.rf⟩
  · rw [if_neg c1]
    by_cases c2 : 9999 < w.toInt
    · rw [if_pos c2, if_pos rfl, if_pos rfl]
      by_cases c3 : w.toInt < (bk_now B).toInt
      · rw [if_pos c3, if_pos rfl, if_pos rfl]
        exact ⟨rfl, hok, hRB, oth.rf⟩
      · rw [if_neg c3, if_pos rfl, if_pos rfl]
        exact ⟨rfl, hok, hRB, oth.rf⟩
    · rw [if_neg c2, if_neg (show ¬ (1 : Int32) = 0 by decide), if_neg (show ¬ (1 : Int32) = 0 by decide)]
      by_cases c3 : w.toInt < (bk_now B).toInt
      · rw [if_pos c3, if_pos rfl, if_pos rfl, if_neg (by omega), if_neg (by omega)]
        exact ⟨rfl, hok, hRB, oth.rf⟩
      · rw [if_neg c3, if_neg (show ¬ (1 : Int32) = 0 by decide), if_neg (show ¬ (1 : Int32) = 0 by decide), if_pos (by omega), if_pos (by omega)]
        refine ⟨rfl, ⟨⟨by show 0 ≤ w.toInt; omega, by show w.toInt ≤ 9999; omega⟩, hrest⟩, ?_, oth.si (by omega)⟩
        obtain ⟨⟨-, r2, r3, r4, r5, r6⟩, rr⟩ := hRB
        exact ⟨⟨rfl, r2, r3, r4, r5, r6⟩, rr⟩
