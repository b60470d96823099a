/-! 90: the simple calls: book and model alike -/
theorem nI_mul_clamp {i w c : Nat} (h : i * w + c < 2 ^ 31) : (nI i * nI w + nI c).toNatClampNeg = i * w + c := by
  rw [nI_mul, nI_add, nI_clamp h]
theorem tb_at_n {w m i c : Nat} {f : Nat → Int32} (hi : i < m) (hc : c < w) (hm : m ≤ 400) (hw : w ≤ 9) : tb_at (nI w) (nI m) f (nI i) (nI c) = f (i * w + c) := by
  unfold tb_at
  have h1 : i * w ≤ 400 * 9 := Nat.mul_le_mul (by omega) hw
  rw [if_neg (nI_pos (by omega)), if_neg (nI_ge hi (by omega)), if_neg (nI_pos (by omega)), if_neg (nI_ge hc (by omega)), nI_mul_clamp (by omega)]
theorem tb_put_n {w m i c : Nat} {f : Nat → Int32} {x : Int32} (hi : i < m) (hc : c < w) (hm : m ≤ 400) (hw : w ≤ 9) : tb_put (nI w) (nI m) f (nI i) (nI c) x = upd f (i * w + c) x := by
  unfold tb_put
  have h1 : i * w ≤ 400 * 9 := Nat.mul_le_mul (by omega) hw
  rw [if_neg (nI_pos (by omega)), if_neg (nI_ge hi (by omega)), if_neg (nI_pos (by omega)), if_neg (nI_ge hc (by omega)), nI_mul_clamp (by omega)]
/-- places in a table -/
theorem pl_ne {i j c d w : Nat} (hc : c < w) (hd : d < w) (h : i ≠ j ∨ c ≠ d) : i * w + c ≠ j * w + d := by
  intro e
  have hw : 0 < w := by omega
  have e1 : (i * w + c) / w = i := by rw [Nat.mul_comm, Nat.mul_add_div hw, Nat.div_eq_of_lt hc, Nat.add_zero]
  have e2 : (j * w + d) / w = j := by rw [Nat.mul_comm, Nat.mul_add_div hw, Nat.div_eq_of_lt hd, Nat.add_zero]
  have e3 : i = j := by rw [← e1, e, e2]
  subst e3
  omega
/-- what lies beside the book in the model: tape, laws, marks -/
def oth (S T : Md) : Prop := (∀ j, (22 ≤ j ∧ j ≤ 29) → T.1 j = S.1 j) ∧ (∀ j, (30 ≤ j ∧ j ≤ 37) ∨ j = 68 ∨ j = 70 → T.2.2.1 j = S.2.2.1 j)
theorem oth.rf {S : Md} : oth S S := ⟨fun _ _ => rfl, fun _ _ => rfl⟩
theorem oth.trans {S T V : Md} (a : oth S T) (b : oth T V) : oth S V := ⟨fun j hj => (b.1 j hj).trans (a.1 j hj), fun j hj => (b.2 j hj).trans (a.2 j hj)⟩
theorem oth.si {S : Md} {k : Nat} {v : Int32} (hk : k < 22 ∨ 29 < k) : oth S (md_si S k v) := ⟨fun j hj => if_neg (by omega), fun _ _ => rfl⟩
theorem oth.ai {S : Md} {k : Nat} {f : Nat → Int32} (hk : ¬ ((30 ≤ k ∧ k ≤ 37) ∨ k = 68 ∨ k = 70)) : oth S (md_ai S k f) := ⟨fun _ _ => rfl, fun j hj => if_neg (show ¬ j = k by omega)⟩
/-- clock -/
theorem al_clock {B : Bk} {S : Md} {lm : Nat} (hok : bk_ok B lm) (hRB : RB B S) (w : Int32) : ms_clock S w = xs_clock B w ∧ bk_ok (xs_clockB B w) lm ∧ RB (xs_clockB B w) (ms_clockS S w) ∧ oth S (ms_clockS S w) := by
  have h1 : S.1 1 = bk_now B := hRB.1.1
  obtain ⟨⟨n1, n2⟩, hrest⟩ := id hok
  unfold ms_clock xs_clock xs_clockB ms_clockS bi_in
  rw [h1]
  simp only [i32_lt, i32_le, i32_0]
  have e9 : (9999 : Int32).toInt = 9999 := rfl
  rw [e9]
  by_cases c1 : w.toInt < 0
  · rw [if_pos c1, if_pos rfl, if_pos rfl, if_pos (show w.toInt < (bk_now B).toInt by omega), if_pos rfl, if_pos rfl]
    exact ⟨rfl, hok, hRB, oth.rf⟩
  · rw [if_neg c1]
    by_cases c2 : 9999 < w.toInt
    · rw [if_pos c2, if_pos rfl, if_pos rfl]
      by_cases c3 : w.toInt < (bk_now B).toInt
      · rw [if_pos c3, if_pos rfl, if_pos rfl]
        exact ⟨rfl, hok, hRB, oth.rf⟩
      · rw [if_neg c3, if_pos rfl, if_pos rfl]
        exact ⟨rfl, hok, hRB, oth.rf⟩
    · rw [if_neg c2, if_neg (show ¬ (1 : Int32) = 0 by decide), if_neg (show ¬ (1 : Int32) = 0 by decide)]
      by_cases c3 : w.toInt < (bk_now B).toInt
      · rw [if_pos c3, if_pos rfl, if_pos rfl, if_neg (by omega), if_neg (by omega)]
        exact ⟨rfl, hok, hRB, oth.rf⟩
      · rw [if_neg c3, if_neg (show ¬ (1 : Int32) = 0 by decide), if_neg (show ¬ (1 : Int32) = 0 by decide), if_pos (by omega), if_pos (by omega)]
        refine ⟨rfl, ⟨⟨by show 0 ≤ w.toInt; omega, by show w.toInt ≤ 9999; omega⟩, hrest⟩, ?_, oth.si (by omega)⟩
        obtain ⟨⟨-, r2, r3, r4, r5, r6⟩, rr⟩ := hRB
        exact ⟨⟨rfl, r2, r3, r4, r5, r6⟩, rr⟩
/-- the observers' table, one more -/
theorem obs_new {B : Bk} {n : Nat} (hn : n < 16) (h1 : (bk_o B).1 = nI n) {w : Int32} (hb : bi_in w (-5000) 9999 ≠ 0) : xs_obs B w = nI n ∧ xs_obsB B w = (bk_now B, (nI (n + 1), upd (upd (bk_o B).2 (n * 2 + 0) w) (n * 2 + 1) (-1)), bk_s B, bk_n B, bk_r B, bk_j B) := by
  have hl : (bk_o B).1 < 16 := by rw [h1]; exact nI_lt (b := 16) hn (by decide)
  unfold xs_obs xs_obsB
  rw [if_neg hb, if_neg hb]
  simp only [if_pos hl]
  rw [h1, nI_1]
  refine ⟨rfl, ?_⟩
  have e1 : tb_put 2 (nI (n + 1)) (bk_o B).2 (nI n) 0 w = upd (bk_o B).2 (n * 2 + 0) w := tb_put_n (w := 2) (c := 0) (by omega) (by decide) (by omega) (by decide)
  have e2 : tb_put 2 (nI (n + 1)) (upd (bk_o B).2 (n * 2 + 0) w) (nI n) 1 (-1) = upd (upd (bk_o B).2 (n * 2 + 0) w) (n * 2 + 1) (-1) := tb_put_n (w := 2) (c := 1) (by omega) (by decide) (by omega) (by decide)
  rw [e1, e2]
theorem obs_at {B : Bk} {n k c : Nat} {w : Int32} (hn : n < 16) (h1 : (bk_o B).1 = nI n) (hk : k < n + 1) (hc : c < 2) : bk_oat (bk_now B, (nI (n + 1), upd (upd (bk_o B).2 (n * 2 + 0) w) (n * 2 + 1) (-1)), bk_s B, bk_n B, bk_r B, bk_j B) (nI k) (nI c) = if k = n then (if c = 0 then w else -1) else bk_oat B (nI k) (nI c) := by
  have e1 : bk_oat (bk_now B, (nI (n + 1), upd (upd (bk_o B).2 (n * 2 + 0) w) (n * 2 + 1) (-1)), bk_s B, bk_n B, bk_r B, bk_j B) (nI k) (nI c) = upd (upd (bk_o B).2 (n * 2 + 0) w) (n * 2 + 1) (-1) (k * 2 + c) := tb_at_n (w := 2) hk hc (by omega) (by decide)
  rw [e1]
  by_cases hkn : k = n
  · subst hkn
    rw [if_pos rfl]
    by_cases hc0 : c = 0
    · subst hc0
      rw [if_pos rfl, pk_un (by omega), pk_us]
    · have : c = 1 := by omega
      subst this
      rw [if_neg (by decide), pk_us]
  · rw [if_neg hkn, pk_un (pl_ne hc (by decide) (Or.inl hkn)), pk_un (pl_ne hc (by decide) (Or.inl hkn))]
    have e2 : bk_oat B (nI k) (nI c) = (bk_o B).2 (k * 2 + c) := by
      unfold bk_oat
      rw [h1]
      exact tb_at_n (w := 2) (by omega) hc (by omega) (by decide)
    rw [e2]
theorem nO_of {B : Bk} {n : Nat} (h : (bk_o B).1 = nI n) (hn : n < 2 ^ 31) : nO B = n := by
  unfold nO
  rw [h, nI_toInt hn]
  rfl
theorem al_obs {B : Bk} {S : Md} {lm : Nat} (hok : bk_ok B lm) (hRB : RB B S) (w : Int32) : ms_obs S w = xs_obs B w ∧ bk_ok (xs_obsB B w) lm ∧ RB (xs_obsB B w) (ms_obsS S w) ∧ oth S (ms_obsS S w) := by
  obtain ⟨hnow, ⟨o1, o2, o3⟩, hs, hn, hr, hj⟩ := id hok
  obtain ⟨⟨r1, r2, r3, r4, r5, r6⟩, ro, rs, rn, rr, rj⟩ := id hRB
  by_cases hb : bi_in w (-5000) 9999 = 0
  · unfold ms_obs xs_obs xs_obsB ms_obsS
    rw [if_pos (Or.inr hb), if_pos hb, if_pos hb, if_pos (Or.inr hb)]
    exact ⟨rfl, hok, hRB, oth.rf⟩
  · by_cases hf : nO B < 16
    · obtain ⟨x1, x2⟩ := obs_new hf o1 hb
      have hS2 : S.1 2 = nI (nO B) := r2.trans o1
      have hne : ¬ (S.1 2 = 16 ∨ bi_in w (-5000) 9999 = 0) := fun z => z.elim (fun e => absurd (nI_inj (b := 16) (by omega) (by decide) (hS2.symm.trans e)) (by omega)) hb
      have hm1 : ms_obs S w = nI (nO B) := by
        unfold ms_obs
        rw [if_neg hne, hS2, nI_1]
        exact nI_pred _
      have hm2 : ms_obsS S w = md_si (md_ai (md_ai S 6 (upd (S.2.2.1 6) (nO B) w)) 7 (upd (S.2.2.1 7) (nO B) (-1))) 2 (nI (nO B + 1)) := by
        unfold ms_obsS
        rw [if_neg hne, hS2, nI_clamp (by omega), nI_1]
      have hat := fun k c hk hc => obs_at (w := w) (k := k) (c := c) hf o1 hk hc
      rw [hm1, x1, hm2, x2]
      generalize hB' : ((bk_now B, (nI (nO B + 1), upd (upd (bk_o B).2 (nO B * 2 + 0) w) (nO B * 2 + 1) (-1)), bk_s B, bk_n B, bk_r B, bk_j B) : Bk) = B' at hat ⊢
      have b1 : (bk_o B').1 = nI (nO B + 1) := by rw [← hB']; rfl
      have hO : nO B' = nO B + 1 := nO_of b1 (by omega)
      have b2 : bk_now B' = bk_now B := by rw [← hB']; rfl
      have b3 : bk_s B' = bk_s B := by rw [← hB']; rfl
      have b4 : bk_n B' = bk_n B := by rw [← hB']; rfl
      have b5 : bk_r B' = bk_r B := by rw [← hB']; rfl
      have b6 : bk_j B' = bk_j B := by rw [← hB']; rfl
      have a0 : ∀ k, k < nO B + 1 → bk_oat B' (nI k) 0 = if k = nO B then w else bk_oat B (nI k) 0 := fun k hk => hat k 0 hk (by decide)
      have a1 : ∀ k, k < nO B + 1 → bk_oat B' (nI k) 1 = if k = nO B then -1 else bk_oat B (nI k) 1 := fun k hk => hat k 1 hk (by decide)
      have hwb : -5000 ≤ w.toInt ∧ w.toInt ≤ 9999 := by
        unfold bi_in at hb
        rw [i32_lt, i32_lt, show (-5000 : Int32).toInt = -5000 from rfl, show (9999 : Int32).toInt = 9999 from rfl] at hb
        by_cases z1 : w.toInt < -5000
        · rw [if_pos z1] at hb; exact absurd rfl hb
        · rw [if_neg z1] at hb
          by_cases z2 : 9999 < w.toInt
          · rw [if_pos z2] at hb; exact absurd rfl hb
          · omega
      refine ⟨rfl, ⟨by rw [b2]; exact hnow, ⟨by rw [b1, hO], by omega, fun k hk => ?_⟩, ?_, ?_, ?_, ?_⟩, ⟨⟨by rw [b2]; exact r1, by rw [b1]; rfl, by rw [b3]; exact r3, by rw [b4]; exact r4, by rw [b5]; exact r5, by rw [b6]; exact r6⟩, fun k hk => ?_, ?_, ?_, ?_, ?_⟩, ?_⟩
      · rw [hO] at hk
        unfold ok_o
        rw [a0 k hk, a1 k hk]
        by_cases e : k = nO B
        · rw [if_pos e, if_pos e]
          have : (-1 : Int32).toInt = -1 := rfl
          rw [this]
          exact ⟨hwb.1, hwb.2, by omega, by omega⟩
        · rw [if_neg e, if_neg e]
          exact o3 k (by omega)
      · have e1 : nS B' = nS B := by unfold nS; rw [b3]
        have e2 : ∀ i c, bk_sat B' i c = bk_sat B i c := fun i c => by unfold bk_sat; rw [b3]
        rw [b3, e1]
        exact ⟨hs.1, hs.2.1, fun k hk => by unfold ok_s; rw [e2, e2, e2]; exact hs.2.2 k hk⟩
      · have e1 : nN B' = nN B := by unfold nN; rw [b4]
        have e2 : ∀ i c, bk_nat B' i c = bk_nat B i c := fun i c => by unfold bk_nat; rw [b4]
        rw [b4, e1]
        exact ⟨hn.1, hn.2.1, fun k hk => by unfold ok_n; rw [e2, e2]; exact hn.2.2 k hk⟩
      · have e1 : nR B' = nR B := by unfold nR; rw [b5]
        have e2 : ∀ i c, bk_rat B' i c = bk_rat B i c := fun i c => by unfold bk_rat; rw [b5]
        have e3 : nN B' = nN B := by unfold nN; rw [b4]
        have e4 : nS B' = nS B := by unfold nS; rw [b3]
        rw [b5, e1]
        refine ⟨hr.1, hr.2.1, fun k hk => ?_⟩
        have := hr.2.2 k hk
        unfold ok_r at this ⊢
        simp only [e2, e3, e4, hO]
        obtain ⟨q1, q2, q3, q4, q5, q6, q7, q8, q9⟩ := this
        exact ⟨q1, q2, q3, q4, q5, q6, q7, by omega, q9⟩
      · have e1 : nJ B' = nJ B := by unfold nJ; rw [b6]
        have e2 : ∀ i c, bk_jat B' i c = bk_jat B i c := fun i c => by unfold bk_jat; rw [b6]
        rw [b6, e1]
        refine ⟨hj.1, hj.2.1, fun k hk => ?_⟩
        have := hj.2.2 k hk
        unfold ok_j at this ⊢
        simp only [e2, hO]
        obtain ⟨q1, q2, q3, q4, q5⟩ := this
        exact ⟨q1, by omega, q3, by omega, q5⟩
      · rw [hO] at hk
        unfold rb_o
        rw [a0 k hk, a1 k hk]
        show upd (S.2.2.1 6) (nO B) w k = _ ∧ upd (S.2.2.1 7) (nO B) (-1) k = _
        by_cases e : k = nO B
        · subst e
          rw [if_pos rfl, if_pos rfl]
          exact ⟨pk_us, pk_us⟩
        · rw [if_neg e, if_neg e, pk_un e, pk_un e]
          exact ro k (by omega)
      · intro k hk
        have e1 : nS B' = nS B := by unfold nS; rw [b3]
        have e2 : ∀ i c, bk_sat B' i c = bk_sat B i c := fun i c => by unfold bk_sat; rw [b3]
        unfold rb_s
        rw [e2, e2, e2]
        exact rs k (by omega)
      · intro k hk
        have e1 : nN B' = nN B := by unfold nN; rw [b4]
        have e2 : ∀ i c, bk_nat B' i c = bk_nat B i c := fun i c => by unfold bk_nat; rw [b4]
        unfold rb_n
        rw [e2, e2]
        exact rn k (by omega)
      · intro k hk
        have e1 : nR B' = nR B := by unfold nR; rw [b5]
        have e2 : ∀ i c, bk_rat B' i c = bk_rat B i c := fun i c => by unfold bk_rat; rw [b5]
        unfold rb_r
        simp only [e2]
        exact rr k (by omega)
      · intro k hk
        have e1 : nJ B' = nJ B := by unfold nJ; rw [b6]
        have e2 : ∀ i c, bk_jat B' i c = bk_jat B i c := fun i c => by unfold bk_jat; rw [b6]
        unfold rb_j
        simp only [e2]
        exact rj k (by omega)
      · exact (oth.ai (by decide)).trans ((oth.ai (by decide)).trans (oth.si (by decide)))
    · have h16 : nO B = 16 := by omega
      have hl : ¬ (bk_o B).1 < 16 := by rw [o1, h16]; decide
      have hS2 : S.1 2 = 16 := by rw [r2, o1, h16]; rfl
      unfold ms_obs xs_obs xs_obsB ms_obsS
      rw [if_pos (Or.inl hS2), if_neg hb, if_neg hb, if_pos (Or.inl hS2)]
      simp only [if_neg hl]
      have e1 : ∀ (f : Nat → Int32) (c x : Int32), tb_put 2 (bk_o B).1 f (-1) c x = f := fun f c x => by unfold tb_put; rw [if_pos (by decide)]
      rw [e1, e1]
      exact ⟨rfl, hok, hRB, oth.rf⟩
