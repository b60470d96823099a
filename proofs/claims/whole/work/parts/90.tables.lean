/-! 90: the simple calls: book and model alike -/
theorem nI_mul_clamp {i w c : Nat} (h : i * w + c < 2 ^ 31) : (nI i * nI w + nI c).toNatClampNeg = i * w + c := by
  rw [nI_mul, nI_add, nI_clamp h]
theorem tb_at_n {w m i c : Nat} {f : Nat → Int32} (hi : i < m) (hc : c < w) (hm : m ≤ 400) (hw : w ≤ 9) : tb_at (nI w) (nI m) f (nI i) (nI c) = f (i * w + c) := by
  unfold tb_at
  have h1 : i * w ≤ 400 * 9 := Nat.mul_le_mul (by omega) hw
  rw [if_neg (nI_pos (by omega)), if_neg (nI_ge hi (by omega)), if_neg (nI_pos (by omega)), if_neg (nI_ge hc (by omega)), nI_mul_clamp (by omega)]
theorem tb_put_n {w m i c : Nat} {f : Nat → Int32} {x : Int32} (hi : i < m) (hc : c < w) (hm : m ≤ 400) (hw : w ≤ 9) : tb_put (nI w) (nI m) f (nI i) (nI c) x = upd f (i * w + c) x := by
  unfold tb_put
  have h1 : i * w ≤ 400 * 9 := Nat.mul_le_mul (by omega) hw
  rw [if_neg (nI_pos (by omega)), if_neg (nI_ge hi (by omega)), if_neg (nI_pos (by omega)), if_neg (nI_ge hc (by omega)), nI_mul_clamp (by omega)]
/-- places in a table -/
theorem pl_ne {i j c d w : Nat} (hc : c < w) (hd : d < w) (h : i ≠ j ∨ c ≠ d) : i * w + c ≠ j * w + d := by
  intro e
  have hw : 0 < w := by omega
  have e1 : (i * w + c) / w = i := by rw [Nat.mul_comm, Nat.mul_add_div hw, Nat.div_eq_of_lt hc, Nat.add_zero]
  have e2 : (j * w + d) / w = j := by rw [Nat.mul_comm, Nat.mul_add_div hw, Nat.div_eq_of_lt hd, Nat.add_zero]
  have e3 : i = j := by rw [← e1, e, e2]
  subst e3
  omega
/-- what lies beside the book in the model: tape, laws, marks -/
def oth (S T : Md) : Prop := (∀ j, (22 ≤ j ∧ j ≤ 29) → T.1 j = S.1 j) ∧ (∀ j, (30 ≤ j ∧ j ≤ 37) ∨ j = 68 ∨ j = 70 → T.2.2.1 j = S.2.2.1 j)
theorem oth.rf {S : Md} : oth S S := ⟨fun _ _ => rfl, fun _ _ => rfl⟩
theorem oth.trans {S T V : Md} (a : oth S T) (b : oth T V) : oth S V := ⟨fun j hj => (b.1 j hj).trans (a.1 j hj), fun j hj => (b.2 j hj).trans (a.2 j hj)⟩
theorem oth.si {S : Md} {k : Nat} {v : Int32} (hk : k < 22 ∨ 29 < k) : oth S (md_si S k v) := ⟨fun j hj => if_neg (by omega), fun _ _ => rfl⟩
theorem oth.ai {S : Md} {k : Nat} {f : Nat → Int32} (hk : ¬ ((30 ≤ k ∧ k ≤ 37) ∨ k = 68 ∨ k = 70)) : oth S (md_ai S k f) := ⟨fun _ _ => rfl, fun j hj => if_neg (show ¬ j = k by omega)⟩
/-- clock -/
theorem al_clock {B : Bk} {S : Md} {lm : Nat} (hok : bk_ok B lm) (hRB : RB B S) (w : Int32) : ms_clock S w = xs_clock B w ∧ bk_ok (xs_clockB B w) lm ∧ RB (xs_clockB B w) (ms_clockS S w) ∧ oth S (ms_clockS S w) := by
  have h1 : S.1 1 = bk_now B := hRB.1.1
  obtain ⟨⟨n1, n2⟩, hrest⟩ := id hok
  unfold ms_clock xs_clock xs_clockB ms_clockS bi_in
  rw [h1]
  simp only [i32_lt, i32_le, i32_0]
  have e9 : (9999 : Int32).toInt = 9999 := rfl
  rw [e9]
  by_cases c1 : w.toInt < 0
  · rw [if_pos c1, if_pos rfl, if_pos rfl, if_pos (show w.toInt < (bk_now B).toInt by omega), if_pos rfl, if_pos rfl]
    exact ⟨rfl, hok, hRB, oth.rf⟩
  · rw [if_neg c1]
    by_cases c2 : 9999 < w.toInt
    · rw [if_pos c2, if_pos rfl, if_pos rfl]
      by_cases c3 : w.toInt < (bk_now B).toInt
      · rw [if_pos c3, if_pos rfl, if_pos rfl]
        exact ⟨rfl, hok, hRB, oth.rf⟩
      · rw [if_neg c3, if_pos rfl, if_pos rfl]
        exact ⟨rfl, hok, hRB, oth.rf⟩
    · rw [if_neg c2, if_neg (show ¬ (1 : Int32) = 0 by decide), if_neg (show ¬ (1 : Int32) = 0 by decide)]
      by_cases c3 : w.toInt < (bk_now B).toInt
      · rw [if_pos c3, if_pos rfl, if_pos rfl, if_neg (by omega), if_neg (by omega)]
        exact ⟨rfl, hok, hRB, oth.rf⟩
      · rw [if_neg c3, if_neg (show ¬ (1 : Int32) = 0 by decide), if_neg (show ¬ (1 : Int32) = 0 by decide), if_pos (by omega), if_pos (by omega)]
        refine ⟨rfl, ⟨⟨by show 0 ≤ w.toInt; omega, by show w.toInt ≤ 9999; omega⟩, hrest⟩, ?_, oth.si (by omega)⟩
        obtain ⟨⟨-, r2, r3, r4, r5, r6⟩, rr⟩ := hRB
        exact ⟨⟨rfl, r2, r3, r4, r5, r6⟩, rr⟩
theorem bi_ok {w a b : Int32} (h : ¬ bi_in w a b = 0) : a.toInt ≤ w.toInt ∧ w.toInt ≤ b.toInt := by
  unfold bi_in at h
  by_cases c1 : w < a
  · rw [if_pos c1] at h; exact absurd rfl h
  · rw [if_neg c1] at h
    by_cases c2 : b < w
    · rw [if_pos c2] at h; exact absurd rfl h
    · rw [i32_lt] at c1 c2
      omega
theorem obs_new {B : Bk} {n : Nat} (hn : n < 16) (h1 : (bk_o B).1 = nI n) {w : Int32} (hb : ¬ (bi_in w (-5000) 9999 = 0)) : xs_obs B w = nI n ∧ xs_obsB B w = (bk_now B, (nI (n + 1), (upd (upd (bk_o B).2 (n * 2 + 0) w) (n * 2 + 1) (-1))), bk_s B, bk_n B, bk_r B, bk_j B) := by
  have hl : (bk_o B).1 < 16 := by rw [h1]; exact nI_lt (b := 16) hn (by decide)
  unfold xs_obs xs_obsB
  rw [if_neg hb, if_neg hb]
  simp only [if_pos hl]
  rw [h1, nI_1]
  refine ⟨rfl, ?_⟩
  have e : ∀ (f : Nat → Int32) (c : Nat) (x : Int32), c < 2 → tb_put 2 (nI (n + 1)) f (nI n) (nI c) x = upd f (n * 2 + c) x := fun f c x hc => tb_put_n (w := 2) (by omega) hc (by omega) (by decide)
  have e0 : ∀ (f : Nat → Int32) (x : Int32), tb_put 2 (nI (n + 1)) f (nI n) 0 x = upd f (n * 2 + 0) x := fun f x => e f 0 x (by decide)
  have e1 : ∀ (f : Nat → Int32) (x : Int32), tb_put 2 (nI (n + 1)) f (nI n) 1 x = upd f (n * 2 + 1) x := fun f x => e f 1 x (by decide)
  rw [e0, e1]
theorem obs_at0 {B : Bk} {n k : Nat} {w : Int32} (hn : n < 16) (h1 : (bk_o B).1 = nI n) (hk : k < n + 1) : bk_oat (bk_now B, (nI (n + 1), (upd (upd (bk_o B).2 (n * 2 + 0) w) (n * 2 + 1) (-1))), bk_s B, bk_n B, bk_r B, bk_j B) (nI k) 0 = if k = n then w else bk_oat B (nI k) 0 := by
  have e1 : bk_oat (bk_now B, (nI (n + 1), (upd (upd (bk_o B).2 (n * 2 + 0) w) (n * 2 + 1) (-1))), bk_s B, bk_n B, bk_r B, bk_j B) (nI k) 0 = (upd (upd (bk_o B).2 (n * 2 + 0) w) (n * 2 + 1) (-1)) (k * 2 + 0) := tb_at_n (w := 2) (c := 0) hk (by decide) (by omega) (by decide)
  rw [e1]
  by_cases hkn : k = n
  · subst hkn
    rw [if_pos rfl, pk_un (by omega), pk_us]
  · rw [if_neg hkn, pk_un (pl_ne (by decide) (by decide) (Or.inl hkn)), pk_un (pl_ne (by decide) (by decide) (Or.inl hkn))]
    have e2 : bk_oat B (nI k) 0 = (bk_o B).2 (k * 2 + 0) := by
      unfold bk_oat
      rw [h1]
      exact tb_at_n (w := 2) (c := 0) (by omega) (by decide) (by omega) (by decide)
    rw [e2]
theorem obs_at1 {B : Bk} {n k : Nat} {w : Int32} (hn : n < 16) (h1 : (bk_o B).1 = nI n) (hk : k < n + 1) : bk_oat (bk_now B, (nI (n + 1), (upd (upd (bk_o B).2 (n * 2 + 0) w) (n * 2 + 1) (-1))), bk_s B, bk_n B, bk_r B, bk_j B) (nI k) 1 = if k = n then (-1) else bk_oat B (nI k) 1 := by
  have e1 : bk_oat (bk_now B, (nI (n + 1), (upd (upd (bk_o B).2 (n * 2 + 0) w) (n * 2 + 1) (-1))), bk_s B, bk_n B, bk_r B, bk_j B) (nI k) 1 = (upd (upd (bk_o B).2 (n * 2 + 0) w) (n * 2 + 1) (-1)) (k * 2 + 1) := tb_at_n (w := 2) (c := 1) hk (by decide) (by omega) (by decide)
  rw [e1]
  by_cases hkn : k = n
  · subst hkn
    rw [if_pos rfl, pk_us]
  · rw [if_neg hkn, pk_un (pl_ne (by decide) (by decide) (Or.inl hkn)), pk_un (pl_ne (by decide) (by decide) (Or.inl hkn))]
    have e2 : bk_oat B (nI k) 1 = (bk_o B).2 (k * 2 + 1) := by
      unfold bk_oat
      rw [h1]
      exact tb_at_n (w := 2) (c := 1) (by omega) (by decide) (by omega) (by decide)
    rw [e2]
theorem nO_of {B : Bk} {n : Nat} (h : (bk_o B).1 = nI n) (hn : n < 2 ^ 31) : nO B = n := by
  unfold nO
  rw [h, nI_toInt hn]
  rfl
theorem al_obs {B : Bk} {S : Md} {lm : Nat} (hok : bk_ok B lm) (hRB : RB B S) (w : Int32) : ms_obs S w = xs_obs B w ∧ bk_ok (xs_obsB B w) lm ∧ RB (xs_obsB B w) (ms_obsS S w) ∧ oth S (ms_obsS S w) := by
  obtain ⟨hnow, ⟨o1, o2, o3⟩, hs, hn, hr, hj⟩ := id hok
  obtain ⟨⟨r1, r2, r3, r4, r5, r6⟩, ro, rs, rn, rr, rj⟩ := id hRB
  have hcnd : (S.1 2 = 16 ∨ bi_in w (-5000) 9999 = 0) ↔ (S.1 2 = 16 ∨ (bi_in w (-5000) 9999 = 0)) := by
    exact Iff.rfl
  by_cases hb : bi_in w (-5000) 9999 = 0
  · unfold ms_obs xs_obs xs_obsB ms_obsS
    rw [if_pos (hcnd.mpr (Or.inr hb)), if_pos hb, if_pos hb, if_pos (hcnd.mpr (Or.inr hb))]
    exact ⟨rfl, hok, hRB, oth.rf⟩
  · by_cases hf : nO B < 16
    · obtain ⟨x1, x2⟩ := obs_new hf o1 hb
      have hSc : S.1 2 = nI (nO B) := r2.trans o1
      have hne : ¬ (S.1 2 = 16 ∨ bi_in w (-5000) 9999 = 0) := fun z => (hcnd.mp z).elim (fun e => absurd (nI_inj (b := 16) (by omega) (by decide) (hSc.symm.trans e)) (by omega)) hb
      have hm1 : ms_obs S w = nI (nO B) := by
        unfold ms_obs
        rw [if_neg hne, hSc, nI_1]
        exact nI_pred _
      have hm2 : ms_obsS S w = md_si (md_ai (md_ai S 6 (upd (S.2.2.1 6) (nO B) w)) 7 (upd (S.2.2.1 7) (nO B) (-1))) 2 (nI (nO B + 1)) := by
        unfold ms_obsS
        rw [if_neg hne, hSc, nI_clamp (by omega), nI_1]
      have a0 := fun k hk => obs_at0 (w := w) (k := k) hf o1 hk
      have a1 := fun k hk => obs_at1 (w := w) (k := k) hf o1 hk
      rw [hm1, x1, hm2, x2]
      generalize hB' : ((bk_now B, (nI (nO B + 1), (upd (upd (bk_o B).2 (nO B * 2 + 0) w) (nO B * 2 + 1) (-1))), bk_s B, bk_n B, bk_r B, bk_j B) : Bk) = B' at a0 a1 ⊢
      have b1 : (bk_o B').1 = nI (nO B + 1) := by rw [← hB']; rfl
      have hO : nO B' = nO B + 1 := nO_of b1 (by omega)
      have b0 : bk_now B' = bk_now B := by rw [← hB']; rfl
      have b_s : bk_s B' = bk_s B := by rw [← hB']; rfl
      have n_s : nS B' = nS B := by unfold nS; rw [b_s]
      have t_s : ∀ i c, bk_sat B' i c = bk_sat B i c := fun i c => by unfold bk_sat; rw [b_s]
      have b_n : bk_n B' = bk_n B := by rw [← hB']; rfl
      have n_n : nN B' = nN B := by unfold nN; rw [b_n]
      have t_n : ∀ i c, bk_nat B' i c = bk_nat B i c := fun i c => by unfold bk_nat; rw [b_n]
      have b_r : bk_r B' = bk_r B := by rw [← hB']; rfl
      have n_r : nR B' = nR B := by unfold nR; rw [b_r]
      have t_r : ∀ i c, bk_rat B' i c = bk_rat B i c := fun i c => by unfold bk_rat; rw [b_r]
      have b_j : bk_j B' = bk_j B := by rw [← hB']; rfl
      have n_j : nJ B' = nJ B := by unfold nJ; rw [b_j]
      have t_j : ∀ i c, bk_jat B' i c = bk_jat B i c := fun i c => by unfold bk_jat; rw [b_j]
      refine ⟨rfl, ⟨by rw [b0]; exact hnow, ⟨by rw [b1, hO], by omega, fun k hk => ?_⟩, ?_, ?_, ?_, ?_⟩, ⟨⟨by rw [b0]; exact r1, by rw [b1]; rfl, by rw [b_s]; exact r3, by rw [b_n]; exact r4, by rw [b_r]; exact r5, by rw [b_j]; exact r6⟩, fun k hk => ?_, fun k hk => ?_, fun k hk => ?_, fun k hk => ?_, fun k hk => ?_⟩, ?_⟩
      · rw [hO] at hk
        unfold ok_o
        rw [a0 k hk, a1 k hk]
        by_cases e : k = nO B
        · rw [if_pos e, if_pos e]
          have z := bi_ok hb
          rw [show (-5000 : Int32).toInt = -5000 from rfl, show (9999 : Int32).toInt = 9999 from rfl] at z
          have : (-1 : Int32).toInt = -1 := rfl
          rw [this]
          exact ⟨z.1, z.2, by omega, by omega⟩
        · rw [if_neg e, if_neg e]
          exact o3 k (by omega)
      · rw [b_s, n_s]
        refine ⟨hs.1, hs.2.1, fun k hk => ?_⟩
        have z := hs.2.2 k hk
        unfold ok_s at z ⊢
        simp only [t_s]
        exact z
      · rw [b_n, n_n]
        refine ⟨hn.1, hn.2.1, fun k hk => ?_⟩
        have z := hn.2.2 k hk
        unfold ok_n at z ⊢
        simp only [t_n]
        exact z
      · rw [b_r, n_r]
        refine ⟨hr.1, hr.2.1, fun k hk => ?_⟩
        have z := hr.2.2 k hk
        unfold ok_r at z ⊢
        simp only [t_r, hO, n_s, n_n]
        obtain ⟨q1, q2, q3, q4, q5, q6, q7, q8, qq⟩ := z
        exact ⟨q1, q2, q3, q4, q5, q6, q7, by omega, qq⟩
      · rw [b_j, n_j]
        refine ⟨hj.1, hj.2.1, fun k hk => ?_⟩
        have z := hj.2.2 k hk
        unfold ok_j at z ⊢
        simp only [t_j, hO]
        obtain ⟨q1, q2, q3, q4, q5⟩ := z
        exact ⟨q1, by omega, q3, by omega, q5⟩
      · rw [hO] at hk
        unfold rb_o
        rw [a0 k hk, a1 k hk]
        show upd (S.2.2.1 6) (nO B) w k = _ ∧ upd (S.2.2.1 7) (nO B) (-1) k = _
        by_cases e : k = nO B
        · subst e
          rw [if_pos rfl, if_pos rfl]
          exact ⟨pk_us, pk_us⟩
        · rw [if_neg e, if_neg e, pk_un e, pk_un e]
          exact ro k (by omega)
      · rw [n_s] at hk
        unfold rb_s
        simp only [t_s]
        exact rs k hk
      · rw [n_n] at hk
        unfold rb_n
        simp only [t_n]
        exact rn k hk
      · rw [n_r] at hk
        unfold rb_r
        simp only [t_r]
        exact rr k hk
      · rw [n_j] at hk
        unfold rb_j
        simp only [t_j]
        exact rj k hk
      · exact ((oth.ai (by decide)).trans ((oth.ai (by decide)).trans (oth.si (by decide))))
    · have h16 : nO B = 16 := by omega
      have hl : ¬ (bk_o B).1 < 16 := by rw [o1, h16]; decide
      have hSc : S.1 2 = 16 := by rw [r2, o1, h16]; rfl
      unfold ms_obs xs_obs xs_obsB ms_obsS
      rw [if_pos (hcnd.mpr (Or.inl hSc)), if_neg hb, if_neg hb, if_pos (hcnd.mpr (Or.inl hSc))]
      simp only [if_neg hl]
      have e1 : ∀ (f : Nat → Int32) (c x : Int32), tb_put 2 (bk_o B).1 f (-1) c x = f := fun f c x => by unfold tb_put; rw [if_pos (by decide)]
      rw [e1, e1]
      exact ⟨trivial, hok, hRB, oth.rf⟩
theorem star_new {B : Bk} {n : Nat} (hn : n < 24) (h1 : (bk_s B).1 = nI n) {a b c : Int32} (hb : ¬ (bi_in a 0 9 = 0 ∨ bi_in b 1 99 = 0 ∨ bi_in c 0 1 = 0)) : xs_star B a b c = nI n ∧ xs_starB B a b c = (bk_now B, bk_o B, (nI (n + 1), (upd (upd (upd (bk_s B).2 (n * 3 + 0) a) (n * 3 + 1) b) (n * 3 + 2) c)), bk_n B, bk_r B, bk_j B) := by
  have hl : (bk_s B).1 < 24 := by rw [h1]; exact nI_lt (b := 24) hn (by decide)
  unfold xs_star xs_starB
  rw [if_neg hb, if_neg hb]
  simp only [if_pos hl]
  rw [h1, nI_1]
  refine ⟨rfl, ?_⟩
  have e : ∀ (f : Nat → Int32) (c : Nat) (x : Int32), c < 3 → tb_put 3 (nI (n + 1)) f (nI n) (nI c) x = upd f (n * 3 + c) x := fun f c x hc => tb_put_n (w := 3) (by omega) hc (by omega) (by decide)
  have e0 : ∀ (f : Nat → Int32) (x : Int32), tb_put 3 (nI (n + 1)) f (nI n) 0 x = upd f (n * 3 + 0) x := fun f x => e f 0 x (by decide)
  have e1 : ∀ (f : Nat → Int32) (x : Int32), tb_put 3 (nI (n + 1)) f (nI n) 1 x = upd f (n * 3 + 1) x := fun f x => e f 1 x (by decide)
  have e2 : ∀ (f : Nat → Int32) (x : Int32), tb_put 3 (nI (n + 1)) f (nI n) 2 x = upd f (n * 3 + 2) x := fun f x => e f 2 x (by decide)
  rw [e0, e1, e2]
theorem star_at0 {B : Bk} {n k : Nat} {a b c : Int32} (hn : n < 24) (h1 : (bk_s B).1 = nI n) (hk : k < n + 1) : bk_sat (bk_now B, bk_o B, (nI (n + 1), (upd (upd (upd (bk_s B).2 (n * 3 + 0) a) (n * 3 + 1) b) (n * 3 + 2) c)), bk_n B, bk_r B, bk_j B) (nI k) 0 = if k = n then a else bk_sat B (nI k) 0 := by
  have e1 : bk_sat (bk_now B, bk_o B, (nI (n + 1), (upd (upd (upd (bk_s B).2 (n * 3 + 0) a) (n * 3 + 1) b) (n * 3 + 2) c)), bk_n B, bk_r B, bk_j B) (nI k) 0 = (upd (upd (upd (bk_s B).2 (n * 3 + 0) a) (n * 3 + 1) b) (n * 3 + 2) c) (k * 3 + 0) := tb_at_n (w := 3) (c := 0) hk (by decide) (by omega) (by decide)
  rw [e1]
  by_cases hkn : k = n
  · subst hkn
    rw [if_pos rfl, pk_un (by omega), pk_un (by omega), pk_us]
  · rw [if_neg hkn, pk_un (pl_ne (by decide) (by decide) (Or.inl hkn)), pk_un (pl_ne (by decide) (by decide) (Or.inl hkn)), pk_un (pl_ne (by decide) (by decide) (Or.inl hkn))]
    have e2 : bk_sat B (nI k) 0 = (bk_s B).2 (k * 3 + 0) := by
      unfold bk_sat
      rw [h1]
      exact tb_at_n (w := 3) (c := 0) (by omega) (by decide) (by omega) (by decide)
    rw [e2]
theorem star_at1 {B : Bk} {n k : Nat} {a b c : Int32} (hn : n < 24) (h1 : (bk_s B).1 = nI n) (hk : k < n + 1) : bk_sat (bk_now B, bk_o B, (nI (n + 1), (upd (upd (upd (bk_s B).2 (n * 3 + 0) a) (n * 3 + 1) b) (n * 3 + 2) c)), bk_n B, bk_r B, bk_j B) (nI k) 1 = if k = n then b else bk_sat B (nI k) 1 := by
  have e1 : bk_sat (bk_now B, bk_o B, (nI (n + 1), (upd (upd (upd (bk_s B).2 (n * 3 + 0) a) (n * 3 + 1) b) (n * 3 + 2) c)), bk_n B, bk_r B, bk_j B) (nI k) 1 = (upd (upd (upd (bk_s B).2 (n * 3 + 0) a) (n * 3 + 1) b) (n * 3 + 2) c) (k * 3 + 1) := tb_at_n (w := 3) (c := 1) hk (by decide) (by omega) (by decide)
  rw [e1]
  by_cases hkn : k = n
  · subst hkn
    rw [if_pos rfl, pk_un (by omega), pk_us]
  · rw [if_neg hkn, pk_un (pl_ne (by decide) (by decide) (Or.inl hkn)), pk_un (pl_ne (by decide) (by decide) (Or.inl hkn)), pk_un (pl_ne (by decide) (by decide) (Or.inl hkn))]
    have e2 : bk_sat B (nI k) 1 = (bk_s B).2 (k * 3 + 1) := by
      unfold bk_sat
      rw [h1]
      exact tb_at_n (w := 3) (c := 1) (by omega) (by decide) (by omega) (by decide)
    rw [e2]
theorem star_at2 {B : Bk} {n k : Nat} {a b c : Int32} (hn : n < 24) (h1 : (bk_s B).1 = nI n) (hk : k < n + 1) : bk_sat (bk_now B, bk_o B, (nI (n + 1), (upd (upd (upd (bk_s B).2 (n * 3 + 0) a) (n * 3 + 1) b) (n * 3 + 2) c)), bk_n B, bk_r B, bk_j B) (nI k) 2 = if k = n then c else bk_sat B (nI k) 2 := by
  have e1 : bk_sat (bk_now B, bk_o B, (nI (n + 1), (upd (upd (upd (bk_s B).2 (n * 3 + 0) a) (n * 3 + 1) b) (n * 3 + 2) c)), bk_n B, bk_r B, bk_j B) (nI k) 2 = (upd (upd (upd (bk_s B).2 (n * 3 + 0) a) (n * 3 + 1) b) (n * 3 + 2) c) (k * 3 + 2) := tb_at_n (w := 3) (c := 2) hk (by decide) (by omega) (by decide)
  rw [e1]
  by_cases hkn : k = n
  · subst hkn
    rw [if_pos rfl, pk_us]
  · rw [if_neg hkn, pk_un (pl_ne (by decide) (by decide) (Or.inl hkn)), pk_un (pl_ne (by decide) (by decide) (Or.inl hkn)), pk_un (pl_ne (by decide) (by decide) (Or.inl hkn))]
    have e2 : bk_sat B (nI k) 2 = (bk_s B).2 (k * 3 + 2) := by
      unfold bk_sat
      rw [h1]
      exact tb_at_n (w := 3) (c := 2) (by omega) (by decide) (by omega) (by decide)
    rw [e2]
theorem nS_of {B : Bk} {n : Nat} (h : (bk_s B).1 = nI n) (hn : n < 2 ^ 31) : nS B = n := by
  unfold nS
  rw [h, nI_toInt hn]
  rfl
theorem al_star {B : Bk} {S : Md} {lm : Nat} (hok : bk_ok B lm) (hRB : RB B S) (a b c : Int32) : ms_star S a b c = xs_star B a b c ∧ bk_ok (xs_starB B a b c) lm ∧ RB (xs_starB B a b c) (ms_starS S a b c) ∧ oth S (ms_starS S a b c) := by
  obtain ⟨hnow, ho, ⟨o1, o2, o3⟩, hn, hr, hj⟩ := id hok
  obtain ⟨⟨r1, r2, r3, r4, r5, r6⟩, ro, rs, rn, rr, rj⟩ := id hRB
  have hcnd : (S.1 3 = 24 ∨ bi_in a 0 9 = 0 ∨ bi_in b 1 99 = 0 ∨ bi_in c 0 1 = 0) ↔ (S.1 3 = 24 ∨ (bi_in a 0 9 = 0 ∨ bi_in b 1 99 = 0 ∨ bi_in c 0 1 = 0)) := by
    exact Iff.rfl
  by_cases hb : bi_in a 0 9 = 0 ∨ bi_in b 1 99 = 0 ∨ bi_in c 0 1 = 0
  · unfold ms_star xs_star xs_starB ms_starS
    rw [if_pos (hcnd.mpr (Or.inr hb)), if_pos hb, if_pos hb, if_pos (hcnd.mpr (Or.inr hb))]
    exact ⟨rfl, hok, hRB, oth.rf⟩
  · by_cases hf : nS B < 24
    · obtain ⟨x1, x2⟩ := star_new hf o1 hb
      have hSc : S.1 3 = nI (nS B) := r3.trans o1
      have hne : ¬ (S.1 3 = 24 ∨ bi_in a 0 9 = 0 ∨ bi_in b 1 99 = 0 ∨ bi_in c 0 1 = 0) := fun z => (hcnd.mp z).elim (fun e => absurd (nI_inj (b := 24) (by omega) (by decide) (hSc.symm.trans e)) (by omega)) hb
      have hm1 : ms_star S a b c = nI (nS B) := by
        unfold ms_star
        rw [if_neg hne, hSc, nI_1]
        exact nI_pred _
      have hm2 : ms_starS S a b c = md_si (md_ai (md_ai (md_ai S 8 (upd (S.2.2.1 8) (nS B) a)) 9 (upd (S.2.2.1 9) (nS B) b)) 10 (upd (S.2.2.1 10) (nS B) c)) 3 (nI (nS B + 1)) := by
        unfold ms_starS
        rw [if_neg hne, hSc, nI_clamp (by omega), nI_1]
      have a0 := fun k hk => star_at0 (a := a) (b := b) (c := c) (k := k) hf o1 hk
      have a1 := fun k hk => star_at1 (a := a) (b := b) (c := c) (k := k) hf o1 hk
      have a2 := fun k hk => star_at2 (a := a) (b := b) (c := c) (k := k) hf o1 hk
      rw [hm1, x1, hm2, x2]
      generalize hB' : ((bk_now B, bk_o B, (nI (nS B + 1), (upd (upd (upd (bk_s B).2 (nS B * 3 + 0) a) (nS B * 3 + 1) b) (nS B * 3 + 2) c)), bk_n B, bk_r B, bk_j B) : Bk) = B' at a0 a1 a2 ⊢
      have b1 : (bk_s B').1 = nI (nS B + 1) := by rw [← hB']; rfl
      have hO : nS B' = nS B + 1 := nS_of b1 (by omega)
      have b0 : bk_now B' = bk_now B := by rw [← hB']; rfl
      have b_o : bk_o B' = bk_o B := by rw [← hB']; rfl
      have n_o : nO B' = nO B := by unfold nO; rw [b_o]
      have t_o : ∀ i c, bk_oat B' i c = bk_oat B i c := fun i c => by unfold bk_oat; rw [b_o]
      have b_n : bk_n B' = bk_n B := by rw [← hB']; rfl
      have n_n : nN B' = nN B := by unfold nN; rw [b_n]
      have t_n : ∀ i c, bk_nat B' i c = bk_nat B i c := fun i c => by unfold bk_nat; rw [b_n]
      have b_r : bk_r B' = bk_r B := by rw [← hB']; rfl
      have n_r : nR B' = nR B := by unfold nR; rw [b_r]
      have t_r : ∀ i c, bk_rat B' i c = bk_rat B i c := fun i c => by unfold bk_rat; rw [b_r]
      have b_j : bk_j B' = bk_j B := by rw [← hB']; rfl
      have n_j : nJ B' = nJ B := by unfold nJ; rw [b_j]
      have t_j : ∀ i c, bk_jat B' i c = bk_jat B i c := fun i c => by unfold bk_jat; rw [b_j]
      refine ⟨rfl, ⟨by rw [b0]; exact hnow, ?_, ⟨by rw [b1, hO], by omega, fun k hk => ?_⟩, ?_, ?_, ?_⟩, ⟨⟨by rw [b0]; exact r1, by rw [b_o]; exact r2, by rw [b1]; rfl, by rw [b_n]; exact r4, by rw [b_r]; exact r5, by rw [b_j]; exact r6⟩, fun k hk => ?_, fun k hk => ?_, fun k hk => ?_, fun k hk => ?_, fun k hk => ?_⟩, ?_⟩
      · rw [b_o, n_o]
        refine ⟨ho.1, ho.2.1, fun k hk => ?_⟩
        have z := ho.2.2 k hk
        unfold ok_o at z ⊢
        simp only [t_o]
        exact z
      · rw [hO] at hk
        unfold ok_s
        rw [a0 k hk, a1 k hk, a2 k hk]
        by_cases e : k = nS B
        · rw [if_pos e, if_pos e, if_pos e]
          have z1 := bi_ok (fun z => hb (Or.inl z))
          have z2 := bi_ok (fun z => hb (Or.inr (Or.inl z)))
          have z3 := bi_ok (fun z => hb (Or.inr (Or.inr z)))
          exact ⟨z1.1, z1.2, z2.1, z2.2, z3.1, z3.2⟩
        · rw [if_neg e, if_neg e, if_neg e]
          exact o3 k (by omega)
      · rw [b_n, n_n]
        refine ⟨hn.1, hn.2.1, fun k hk => ?_⟩
        have z := hn.2.2 k hk
        unfold ok_n at z ⊢
        simp only [t_n]
        exact z
      · rw [b_r, n_r]
        refine ⟨hr.1, hr.2.1, fun k hk => ?_⟩
        have z := hr.2.2 k hk
        unfold ok_r at z ⊢
        simp only [t_r, n_o, hO, n_n]
        obtain ⟨q1, q2, q3, q4, qq⟩ := z
        exact ⟨q1, q2, q3, by omega, qq⟩
      · rw [b_j, n_j]
        refine ⟨hj.1, hj.2.1, fun k hk => ?_⟩
        have z := hj.2.2 k hk
        unfold ok_j at z ⊢
        simp only [t_j, n_o]
        exact z
      · rw [n_o] at hk
        unfold rb_o
        simp only [t_o]
        exact ro k hk
      · rw [hO] at hk
        unfold rb_s
        rw [a0 k hk, a1 k hk, a2 k hk]
        show upd (S.2.2.1 8) (nS B) a k = _ ∧ upd (S.2.2.1 9) (nS B) b k = _ ∧ upd (S.2.2.1 10) (nS B) c k = _
        by_cases e : k = nS B
        · subst e
          rw [if_pos rfl, if_pos rfl, if_pos rfl]
          exact ⟨pk_us, pk_us, pk_us⟩
        · rw [if_neg e, if_neg e, if_neg e, pk_un e, pk_un e, pk_un e]
          exact rs k (by omega)
      · rw [n_n] at hk
        unfold rb_n
        simp only [t_n]
        exact rn k hk
      · rw [n_r] at hk
        unfold rb_r
        simp only [t_r]
        exact rr k hk
      · rw [n_j] at hk
        unfold rb_j
        simp only [t_j]
        exact rj k hk
      · exact ((oth.ai (by decide)).trans ((oth.ai (by decide)).trans ((oth.ai (by decide)).trans (oth.si (by decide)))))
    · have h16 : nS B = 24 := by omega
      have hl : ¬ (bk_s B).1 < 24 := by rw [o1, h16]; decide
      have hSc : S.1 3 = 24 := by rw [r3, o1, h16]; rfl
      unfold ms_star xs_star xs_starB ms_starS
      rw [if_pos (hcnd.mpr (Or.inl hSc)), if_neg hb, if_neg hb, if_pos (hcnd.mpr (Or.inl hSc))]
      simp only [if_neg hl]
      have e1 : ∀ (f : Nat → Int32) (c x : Int32), tb_put 3 (bk_s B).1 f (-1) c x = f := fun f c x => by unfold tb_put; rw [if_pos (by decide)]
      rw [e1, e1, e1]
      exact ⟨trivial, hok, hRB, oth.rf⟩
theorem night_new {B : Bk} {n : Nat} (hn : n < 80) (h1 : (bk_n B).1 = nI n) {a b : Int32} (hb : ¬ (bi_in a 0 3 = 0 ∨ bi_in b 0 (bk_now B) = 0)) : xs_night B a b = nI n ∧ xs_nightB B a b = (bk_now B, bk_o B, bk_s B, (nI (n + 1), (upd (upd (bk_n B).2 (n * 2 + 0) a) (n * 2 + 1) b)), bk_r B, bk_j B) := by
  have hl : (bk_n B).1 < 80 := by rw [h1]; exact nI_lt (b := 80) hn (by decide)
  unfold xs_night xs_nightB
  rw [if_neg hb, if_neg hb]
  simp only [if_pos hl]
  rw [h1, nI_1]
  refine ⟨rfl, ?_⟩
  have e : ∀ (f : Nat → Int32) (c : Nat) (x : Int32), c < 2 → tb_put 2 (nI (n + 1)) f (nI n) (nI c) x = upd f (n * 2 + c) x := fun f c x hc => tb_put_n (w := 2) (by omega) hc (by omega) (by decide)
  have e0 : ∀ (f : Nat → Int32) (x : Int32), tb_put 2 (nI (n + 1)) f (nI n) 0 x = upd f (n * 2 + 0) x := fun f x => e f 0 x (by decide)
  have e1 : ∀ (f : Nat → Int32) (x : Int32), tb_put 2 (nI (n + 1)) f (nI n) 1 x = upd f (n * 2 + 1) x := fun f x => e f 1 x (by decide)
  rw [e0, e1]
theorem night_at0 {B : Bk} {n k : Nat} {a b : Int32} (hn : n < 80) (h1 : (bk_n B).1 = nI n) (hk : k < n + 1) : bk_nat (bk_now B, bk_o B, bk_s B, (nI (n + 1), (upd (upd (bk_n B).2 (n * 2 + 0) a) (n * 2 + 1) b)), bk_r B, bk_j B) (nI k) 0 = if k = n then a else bk_nat B (nI k) 0 := by
  have e1 : bk_nat (bk_now B, bk_o B, bk_s B, (nI (n + 1), (upd (upd (bk_n B).2 (n * 2 + 0) a) (n * 2 + 1) b)), bk_r B, bk_j B) (nI k) 0 = (upd (upd (bk_n B).2 (n * 2 + 0) a) (n * 2 + 1) b) (k * 2 + 0) := tb_at_n (w := 2) (c := 0) hk (by decide) (by omega) (by decide)
  rw [e1]
  by_cases hkn : k = n
  · subst hkn
    rw [if_pos rfl, pk_un (by omega), pk_us]
  · rw [if_neg hkn, pk_un (pl_ne (by decide) (by decide) (Or.inl hkn)), pk_un (pl_ne (by decide) (by decide) (Or.inl hkn))]
    have e2 : bk_nat B (nI k) 0 = (bk_n B).2 (k * 2 + 0) := by
      unfold bk_nat
      rw [h1]
      exact tb_at_n (w := 2) (c := 0) (by omega) (by decide) (by omega) (by decide)
    rw [e2]
theorem night_at1 {B : Bk} {n k : Nat} {a b : Int32} (hn : n < 80) (h1 : (bk_n B).1 = nI n) (hk : k < n + 1) : bk_nat (bk_now B, bk_o B, bk_s B, (nI (n + 1), (upd (upd (bk_n B).2 (n * 2 + 0) a) (n * 2 + 1) b)), bk_r B, bk_j B) (nI k) 1 = if k = n then b else bk_nat B (nI k) 1 := by
  have e1 : bk_nat (bk_now B, bk_o B, bk_s B, (nI (n + 1), (upd (upd (bk_n B).2 (n * 2 + 0) a) (n * 2 + 1) b)), bk_r B, bk_j B) (nI k) 1 = (upd (upd (bk_n B).2 (n * 2 + 0) a) (n * 2 + 1) b) (k * 2 + 1) := tb_at_n (w := 2) (c := 1) hk (by decide) (by omega) (by decide)
  rw [e1]
  by_cases hkn : k = n
  · subst hkn
    rw [if_pos rfl, pk_us]
  · rw [if_neg hkn, pk_un (pl_ne (by decide) (by decide) (Or.inl hkn)), pk_un (pl_ne (by decide) (by decide) (Or.inl hkn))]
    have e2 : bk_nat B (nI k) 1 = (bk_n B).2 (k * 2 + 1) := by
      unfold bk_nat
      rw [h1]
      exact tb_at_n (w := 2) (c := 1) (by omega) (by decide) (by omega) (by decide)
    rw [e2]
theorem nN_of {B : Bk} {n : Nat} (h : (bk_n B).1 = nI n) (hn : n < 2 ^ 31) : nN B = n := by
  unfold nN
  rw [h, nI_toInt hn]
  rfl
theorem al_night {B : Bk} {S : Md} {lm : Nat} (hok : bk_ok B lm) (hRB : RB B S) (a b : Int32) : ms_night S a b = xs_night B a b ∧ bk_ok (xs_nightB B a b) lm ∧ RB (xs_nightB B a b) (ms_nightS S a b) ∧ oth S (ms_nightS S a b) := by
  obtain ⟨hnow, ho, hs, ⟨o1, o2, o3⟩, hr, hj⟩ := id hok
  obtain ⟨⟨r1, r2, r3, r4, r5, r6⟩, ro, rs, rn, rr, rj⟩ := id hRB
  have hcnd : (S.1 4 = 80 ∨ bi_in a 0 3 = 0 ∨ bi_in b 0 (S.1 1) = 0) ↔ (S.1 4 = 80 ∨ (bi_in a 0 3 = 0 ∨ bi_in b 0 (bk_now B) = 0)) := by
    rw [r1]
  by_cases hb : bi_in a 0 3 = 0 ∨ bi_in b 0 (bk_now B) = 0
  · unfold ms_night xs_night xs_nightB ms_nightS
    rw [if_pos (hcnd.mpr (Or.inr hb)), if_pos hb, if_pos hb, if_pos (hcnd.mpr (Or.inr hb))]
    exact ⟨rfl, hok, hRB, oth.rf⟩
  · by_cases hf : nN B < 80
    · obtain ⟨x1, x2⟩ := night_new hf o1 hb
      have hSc : S.1 4 = nI (nN B) := r4.trans o1
      have hne : ¬ (S.1 4 = 80 ∨ bi_in a 0 3 = 0 ∨ bi_in b 0 (S.1 1) = 0) := fun z => (hcnd.mp z).elim (fun e => absurd (nI_inj (b := 80) (by omega) (by decide) (hSc.symm.trans e)) (by omega)) hb
      have hm1 : ms_night S a b = nI (nN B) := by
        unfold ms_night
        rw [if_neg hne, hSc, nI_1]
        exact nI_pred _
      have hm2 : ms_nightS S a b = md_si (md_ai (md_ai S 11 (upd (S.2.2.1 11) (nN B) a)) 12 (upd (S.2.2.1 12) (nN B) b)) 4 (nI (nN B + 1)) := by
        unfold ms_nightS
        rw [if_neg hne, hSc, nI_clamp (by omega), nI_1]
      have a0 := fun k hk => night_at0 (a := a) (b := b) (k := k) hf o1 hk
      have a1 := fun k hk => night_at1 (a := a) (b := b) (k := k) hf o1 hk
      rw [hm1, x1, hm2, x2]
      generalize hB' : ((bk_now B, bk_o B, bk_s B, (nI (nN B + 1), (upd (upd (bk_n B).2 (nN B * 2 + 0) a) (nN B * 2 + 1) b)), bk_r B, bk_j B) : Bk) = B' at a0 a1 ⊢
      have b1 : (bk_n B').1 = nI (nN B + 1) := by rw [← hB']; rfl
      have hO : nN B' = nN B + 1 := nN_of b1 (by omega)
      have b0 : bk_now B' = bk_now B := by rw [← hB']; rfl
      have b_o : bk_o B' = bk_o B := by rw [← hB']; rfl
      have n_o : nO B' = nO B := by unfold nO; rw [b_o]
      have t_o : ∀ i c, bk_oat B' i c = bk_oat B i c := fun i c => by unfold bk_oat; rw [b_o]
      have b_s : bk_s B' = bk_s B := by rw [← hB']; rfl
      have n_s : nS B' = nS B := by unfold nS; rw [b_s]
      have t_s : ∀ i c, bk_sat B' i c = bk_sat B i c := fun i c => by unfold bk_sat; rw [b_s]
      have b_r : bk_r B' = bk_r B := by rw [← hB']; rfl
      have n_r : nR B' = nR B := by unfold nR; rw [b_r]
      have t_r : ∀ i c, bk_rat B' i c = bk_rat B i c := fun i c => by unfold bk_rat; rw [b_r]
      have b_j : bk_j B' = bk_j B := by rw [← hB']; rfl
      have n_j : nJ B' = nJ B := by unfold nJ; rw [b_j]
      have t_j : ∀ i c, bk_jat B' i c = bk_jat B i c := fun i c => by unfold bk_jat; rw [b_j]
      refine ⟨rfl, ⟨by rw [b0]; exact hnow, ?_, ?_, ⟨by rw [b1, hO], by omega, fun k hk => ?_⟩, ?_, ?_⟩, ⟨⟨by rw [b0]; exact r1, by rw [b_o]; exact r2, by rw [b_s]; exact r3, by rw [b1]; rfl, by rw [b_r]; exact r5, by rw [b_j]; exact r6⟩, fun k hk => ?_, fun k hk => ?_, fun k hk => ?_, fun k hk => ?_, fun k hk => ?_⟩, ?_⟩
      · rw [b_o, n_o]
        refine ⟨ho.1, ho.2.1, fun k hk => ?_⟩
        have z := ho.2.2 k hk
        unfold ok_o at z ⊢
        simp only [t_o]
        exact z
      · rw [b_s, n_s]
        refine ⟨hs.1, hs.2.1, fun k hk => ?_⟩
        have z := hs.2.2 k hk
        unfold ok_s at z ⊢
        simp only [t_s]
        exact z
      · rw [hO] at hk
        unfold ok_n
        rw [a0 k hk, a1 k hk]
        by_cases e : k = nN B
        · rw [if_pos e, if_pos e]
          have z1 := bi_ok (fun z => hb (Or.inl z))
          have z2 := bi_ok (fun z => hb (Or.inr z))
          exact ⟨z1.1, z1.2, z2.1, Int.le_trans z2.2 hnow.2⟩
        · rw [if_neg e, if_neg e]
          exact o3 k (by omega)
      · rw [b_r, n_r]
        refine ⟨hr.1, hr.2.1, fun k hk => ?_⟩
        have z := hr.2.2 k hk
        unfold ok_r at z ⊢
        simp only [t_r, n_o, n_s, hO]
        obtain ⟨q1, q2, qq⟩ := z
        exact ⟨q1, by omega, qq⟩
      · rw [b_j, n_j]
        refine ⟨hj.1, hj.2.1, fun k hk => ?_⟩
        have z := hj.2.2 k hk
        unfold ok_j at z ⊢
        simp only [t_j, n_o]
        exact z
      · rw [n_o] at hk
        unfold rb_o
        simp only [t_o]
        exact ro k hk
      · rw [n_s] at hk
        unfold rb_s
        simp only [t_s]
        exact rs k hk
      · rw [hO] at hk
        unfold rb_n
        rw [a0 k hk, a1 k hk]
        show upd (S.2.2.1 11) (nN B) a k = _ ∧ upd (S.2.2.1 12) (nN B) b k = _
        by_cases e : k = nN B
        · subst e
          rw [if_pos rfl, if_pos rfl]
          exact ⟨pk_us, pk_us⟩
        · rw [if_neg e, if_neg e, pk_un e, pk_un e]
          exact rn k (by omega)
      · rw [n_r] at hk
        unfold rb_r
        simp only [t_r]
        exact rr k hk
      · rw [n_j] at hk
        unfold rb_j
        simp only [t_j]
        exact rj k hk
      · exact ((oth.ai (by decide)).trans ((oth.ai (by decide)).trans (oth.si (by decide))))
    · have h16 : nN B = 80 := by omega
      have hl : ¬ (bk_n B).1 < 80 := by rw [o1, h16]; decide
      have hSc : S.1 4 = 80 := by rw [r4, o1, h16]; rfl
      unfold ms_night xs_night xs_nightB ms_nightS
      rw [if_pos (hcnd.mpr (Or.inl hSc)), if_neg hb, if_neg hb, if_pos (hcnd.mpr (Or.inl hSc))]
      simp only [if_neg hl]
      have e1 : ∀ (f : Nat → Int32) (c x : Int32), tb_put 2 (bk_n B).1 f (-1) c x = f := fun f c x => by unfold tb_put; rw [if_pos (by decide)]
      rw [e1, e1]
      exact ⟨trivial, hok, hRB, oth.rf⟩
