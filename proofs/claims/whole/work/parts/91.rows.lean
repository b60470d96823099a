/-! 91: records and journeys: book and model alike (laid by wip/whole/p90.py) -/
theorem has_ok {n : Nat} (hn : n < 2 ^ 31) {a : Int32} (h : ¬ tb_has (nI n) a = 0) : 0 ≤ a.toInt ∧ a.toInt < n := by
  unfold tb_has at h
  by_cases c1 : a < 0
  · rw [if_pos c1] at h; exact absurd rfl h
  · rw [if_neg c1] at h
    by_cases c2 : nI n ≤ a
    · rw [if_pos c2] at h; exact absurd rfl h
    · rw [i32_lt, i32_0] at c1
      rw [i32_le, nI_toInt hn] at c2
      omega
theorem pair0 (B : Bk) (a b : Int32) : xs_pair B a b = 0 ↔ (tb_has (bk_o B).1 a = 0 ∨ tb_has (bk_o B).1 b = 0 ∨ a = b) := by
  unfold xs_pair xs_both
  by_cases h1 : tb_has (bk_o B).1 a = 0
  · simp [h1]
  · by_cases h2 : tb_has (bk_o B).1 b = 0
    · simp [h1, h2]
    · by_cases h3 : a = b
      · simp [h3]
      · simp [h1, h2, h3]
theorem sight0 (B : Bk) (o n s w : Int32) : xs_sight B o n s w = 0 ↔ (tb_has (bk_o B).1 o = 0 ∨ tb_has (bk_n B).1 n = 0 ∨ tb_has (bk_s B).1 s = 0 ∨ bi_in w 0 4 = 0) := by
  unfold xs_sight
  by_cases h1 : tb_has (bk_o B).1 o = 0
  · simp [h1]
  · by_cases h2 : tb_has (bk_n B).1 n = 0
    · simp [h1, h2]
    · by_cases h3 : tb_has (bk_s B).1 s = 0
      · simp [h1, h2, h3]
      · by_cases h4 : bi_in w 0 4 = 0
        · simp [h1, h2, h3, h4]
        · simp [h1, h2, h3, h4]
theorem told_ok {w u : Int32} (h : ¬ xs_told w u = 0) : -1 ≤ u.toInt ∧ u.toInt ≤ 9999 := by
  unfold xs_told at h
  by_cases c : w = 3
  · rw [if_pos c] at h
    have := bi_ok h
    rw [i32_0, show (9999 : Int32).toInt = 9999 from rfl] at this
    omega
  · rw [if_neg c] at h
    by_cases c2 : u = -1
    · rw [c2, show (-1 : Int32).toInt = -1 from rfl]; omega
    · rw [if_neg c2] at h; exact absurd rfl h
theorem jour_new {B : Bk} {n : Nat} (hn : n < 9) (h1 : (bk_j B).1 = nI n) {a b c : Int32} (hb : ¬ (xs_pair B a b = 0 ∨ bi_in c 1 99 = 0)) : xs_jour B a b c = nI n ∧ xs_jourB B a b c = (bk_now B, bk_o B, bk_s B, bk_n B, bk_r B, (nI (n + 1), (upd (upd (upd (bk_j B).2 (n * 3 + 0) a) (n * 3 + 1) b) (n * 3 + 2) c))) := by
  have hl : (bk_j B).1 < 9 := by rw [h1]; exact nI_lt (b := 9) hn (by decide)
  unfold xs_jour xs_jourB
  rw [if_neg hb, if_neg hb]
  simp only [if_pos hl]
  rw [h1, nI_1]
  refine ⟨rfl, ?_⟩
  have e : ∀ (f : Nat → Int32) (c : Nat) (x : Int32), c < 3 → tb_put 3 (nI (n + 1)) f (nI n) (nI c) x = upd f (n * 3 + c) x := fun f c x hc => tb_put_n (w := 3) (by omega) hc (by omega) (by decide)
  have e0 : ∀ (f : Nat → Int32) (x : Int32), tb_put 3 (nI (n + 1)) f (nI n) 0 x = upd f (n * 3 + 0) x := fun f x => e f 0 x (by decide)
  have e1 : ∀ (f : Nat → Int32) (x : Int32), tb_put 3 (nI (n + 1)) f (nI n) 1 x = upd f (n * 3 + 1) x := fun f x => e f 1 x (by decide)
  have e2 : ∀ (f : Nat → Int32) (x : Int32), tb_put 3 (nI (n + 1)) f (nI n) 2 x = upd f (n * 3 + 2) x := fun f x => e f 2 x (by decide)
  rw [e0, e1, e2]
theorem jour_at0 {B : Bk} {n k : Nat} {a b c : Int32} (hn : n < 9) (h1 : (bk_j B).1 = nI n) (hk : k < n + 1) : bk_jat (bk_now B, bk_o B, bk_s B, bk_n B, bk_r B, (nI (n + 1), (upd (upd (upd (bk_j B).2 (n * 3 + 0) a) (n * 3 + 1) b) (n * 3 + 2) c))) (nI k) 0 = if k = n then a else bk_jat B (nI k) 0 := by
  have e1 : bk_jat (bk_now B, bk_o B, bk_s B, bk_n B, bk_r B, (nI (n + 1), (upd (upd (upd (bk_j B).2 (n * 3 + 0) a) (n * 3 + 1) b) (n * 3 + 2) c))) (nI k) 0 = (upd (upd (upd (bk_j B).2 (n * 3 + 0) a) (n * 3 + 1) b) (n * 3 + 2) c) (k * 3 + 0) := tb_at_n (w := 3) (c := 0) hk (by decide) (by omega) (by decide)
  rw [e1]
  by_cases hkn : k = n
  · subst hkn
    rw [if_pos rfl, pk_un (by omega), pk_un (by omega), pk_us]
  · rw [if_neg hkn, pk_un (pl_ne (by decide) (by decide) (Or.inl hkn)), pk_un (pl_ne (by decide) (by decide) (Or.inl hkn)), pk_un (pl_ne (by decide) (by decide) (Or.inl hkn))]
    have e2 : bk_jat B (nI k) 0 = (bk_j B).2 (k * 3 + 0) := by
      unfold bk_jat
      rw [h1]
      exact tb_at_n (w := 3) (c := 0) (by omega) (by decide) (by omega) (by decide)
    rw [e2]
theorem jour_at1 {B : Bk} {n k : Nat} {a b c : Int32} (hn : n < 9) (h1 : (bk_j B).1 = nI n) (hk : k < n + 1) : bk_jat (bk_now B, bk_o B, bk_s B, bk_n B, bk_r B, (nI (n + 1), (upd (upd (upd (bk_j B).2 (n * 3 + 0) a) (n * 3 + 1) b) (n * 3 + 2) c))) (nI k) 1 = if k = n then b else bk_jat B (nI k) 1 := by
  have e1 : bk_jat (bk_now B, bk_o B, bk_s B, bk_n B, bk_r B, (nI (n + 1), (upd (upd (upd (bk_j B).2 (n * 3 + 0) a) (n * 3 + 1) b) (n * 3 + 2) c))) (nI k) 1 = (upd (upd (upd (bk_j B).2 (n * 3 + 0) a) (n * 3 + 1) b) (n * 3 + 2) c) (k * 3 + 1) := tb_at_n (w := 3) (c := 1) hk (by decide) (by omega) (by decide)
  rw [e1]
  by_cases hkn : k = n
  · subst hkn
    rw [if_pos rfl, pk_un (by omega), pk_us]
  · rw [if_neg hkn, pk_un (pl_ne (by decide) (by decide) (Or.inl hkn)), pk_un (pl_ne (by decide) (by decide) (Or.inl hkn)), pk_un (pl_ne (by decide) (by decide) (Or.inl hkn))]
    have e2 : bk_jat B (nI k) 1 = (bk_j B).2 (k * 3 + 1) := by
      unfold bk_jat
      rw [h1]
      exact tb_at_n (w := 3) (c := 1) (by omega) (by decide) (by omega) (by decide)
    rw [e2]
theorem jour_at2 {B : Bk} {n k : Nat} {a b c : Int32} (hn : n < 9) (h1 : (bk_j B).1 = nI n) (hk : k < n + 1) : bk_jat (bk_now B, bk_o B, bk_s B, bk_n B, bk_r B, (nI (n + 1), (upd (upd (upd (bk_j B).2 (n * 3 + 0) a) (n * 3 + 1) b) (n * 3 + 2) c))) (nI k) 2 = if k = n then c else bk_jat B (nI k) 2 := by
  have e1 : bk_jat (bk_now B, bk_o B, bk_s B, bk_n B, bk_r B, (nI (n + 1), (upd (upd (upd (bk_j B).2 (n * 3 + 0) a) (n * 3 + 1) b) (n * 3 + 2) c))) (nI k) 2 = (upd (upd (upd (bk_j B).2 (n * 3 + 0) a) (n * 3 + 1) b) (n * 3 + 2) c) (k * 3 + 2) := tb_at_n (w := 3) (c := 2) hk (by decide) (by omega) (by decide)
  rw [e1]
  by_cases hkn : k = n
  · subst hkn
    rw [if_pos rfl, pk_us]
  · rw [if_neg hkn, pk_un (pl_ne (by decide) (by decide) (Or.inl hkn)), pk_un (pl_ne (by decide) (by decide) (Or.inl hkn)), pk_un (pl_ne (by decide) (by decide) (Or.inl hkn))]
    have e2 : bk_jat B (nI k) 2 = (bk_j B).2 (k * 3 + 2) := by
      unfold bk_jat
      rw [h1]
      exact tb_at_n (w := 3) (c := 2) (by omega) (by decide) (by omega) (by decide)
    rw [e2]
theorem nJ_of {B : Bk} {n : Nat} (h : (bk_j B).1 = nI n) (hn : n < 2 ^ 31) : nJ B = n := by
  unfold nJ
  rw [h, nI_toInt hn]
  rfl
theorem al_jour {B : Bk} {S : Md} {lm : Nat} (hok : bk_ok B lm) (hRB : RB B S) (a b c : Int32) : ms_jour S a b c = xs_jour B a b c ∧ bk_ok (xs_jourB B a b c) lm ∧ RB (xs_jourB B a b c) (ms_jourS S a b c) ∧ oth S (ms_jourS S a b c) := by
  obtain ⟨hnow, ho, hs, hn, hr, ⟨o1, o2, o3⟩⟩ := id hok
  obtain ⟨⟨r1, r2, r3, r4, r5, r6⟩, ro, rs, rn, rr, rj⟩ := id hRB
  have hcnd : (S.1 60 = 9 ∨ bi_in a 0 (S.1 2 - 1) = 0 ∨ bi_in b 0 (S.1 2 - 1) = 0 ∨ a = b ∨ bi_in c 1 99 = 0) ↔ (S.1 60 = 9 ∨ (xs_pair B a b = 0 ∨ bi_in c 1 99 = 0)) := by
    rw [rb_obs hok hRB, rb_obs hok hRB, pair0]
    simp only [or_assoc]
  by_cases hb : xs_pair B a b = 0 ∨ bi_in c 1 99 = 0
  · unfold ms_jour xs_jour xs_jourB ms_jourS
    rw [if_pos (hcnd.mpr (Or.inr hb)), if_pos hb, if_pos hb, if_pos (hcnd.mpr (Or.inr hb))]
    exact ⟨rfl, hok, hRB, oth.rf⟩
  · by_cases hf : nJ B < 9
    · obtain ⟨x1, x2⟩ := jour_new hf o1 hb
      have hSc : S.1 60 = nI (nJ B) := r6.trans o1
      have hne : ¬ (S.1 60 = 9 ∨ bi_in a 0 (S.1 2 - 1) = 0 ∨ bi_in b 0 (S.1 2 - 1) = 0 ∨ a = b ∨ bi_in c 1 99 = 0) := fun z => (hcnd.mp z).elim (fun e => absurd (nI_inj (b := 9) (by omega) (by decide) (hSc.symm.trans e)) (by omega)) hb
      have hm1 : ms_jour S a b c = nI (nJ B) := by
        unfold ms_jour
        rw [if_neg hne, hSc, nI_1]
        exact nI_pred _
      have hm2 : ms_jourS S a b c = md_si (md_ai (md_ai (md_ai S 61 (upd (S.2.2.1 61) (nJ B) a)) 62 (upd (S.2.2.1 62) (nJ B) b)) 63 (upd (S.2.2.1 63) (nJ B) c)) 60 (nI (nJ B + 1)) := by
        unfold ms_jourS
        rw [if_neg hne, hSc, nI_clamp (by omega), nI_1]
      have a0 := fun k hk => jour_at0 (a := a) (b := b) (c := c) (k := k) hf o1 hk
      have a1 := fun k hk => jour_at1 (a := a) (b := b) (c := c) (k := k) hf o1 hk
      have a2 := fun k hk => jour_at2 (a := a) (b := b) (c := c) (k := k) hf o1 hk
      rw [hm1, x1, hm2, x2]
      generalize hB' : ((bk_now B, bk_o B, bk_s B, bk_n B, bk_r B, (nI (nJ B + 1), (upd (upd (upd (bk_j B).2 (nJ B * 3 + 0) a) (nJ B * 3 + 1) b) (nJ B * 3 + 2) c))) : Bk) = B' at a0 a1 a2 ⊢
      have b1 : (bk_j B').1 = nI (nJ B + 1) := by rw [← hB']; rfl
      have hO : nJ B' = nJ B + 1 := nJ_of b1 (by omega)
      have b0 : bk_now B' = bk_now B := by rw [← hB']; rfl
      have b_o : bk_o B' = bk_o B := by rw [← hB']; rfl
      have n_o : nO B' = nO B := by unfold nO; rw [b_o]
      have t_o : ∀ i c, bk_oat B' i c = bk_oat B i c := fun i c => by unfold bk_oat; rw [b_o]
      have b_s : bk_s B' = bk_s B := by rw [← hB']; rfl
      have n_s : nS B' = nS B := by unfold nS; rw [b_s]
      have t_s : ∀ i c, bk_sat B' i c = bk_sat B i c := fun i c => by unfold bk_sat; rw [b_s]
      have b_n : bk_n B' = bk_n B := by rw [← hB']; rfl
      have n_n : nN B' = nN B := by unfold nN; rw [b_n]
      have t_n : ∀ i c, bk_nat B' i c = bk_nat B i c := fun i c => by unfold bk_nat; rw [b_n]
      have b_r : bk_r B' = bk_r B := by rw [← hB']; rfl
      have n_r : nR B' = nR B := by unfold nR; rw [b_r]
      have t_r : ∀ i c, bk_rat B' i c = bk_rat B i c := fun i c => by unfold bk_rat; rw [b_r]
      refine ⟨rfl, ⟨by rw [b0]; exact hnow, ?_, ?_, ?_, ?_, ⟨by rw [b1, hO], by omega, fun k hk => ?_⟩⟩, ⟨⟨by rw [b0]; exact r1, by rw [b_o]; exact r2, by rw [b_s]; exact r3, by rw [b_n]; exact r4, by rw [b_r]; exact r5, by rw [b1]; rfl⟩, fun k hk => ?_, fun k hk => ?_, fun k hk => ?_, fun k hk => ?_, fun k hk => ?_⟩, ?_⟩
      · rw [b_o, n_o]
        refine ⟨ho.1, ho.2.1, fun k hk => ?_⟩
        have z := ho.2.2 k hk
        unfold ok_o at z ⊢
        simp only [t_o]
        exact z
      · rw [b_s, n_s]
        refine ⟨hs.1, hs.2.1, fun k hk => ?_⟩
        have z := hs.2.2 k hk
        unfold ok_s at z ⊢
        simp only [t_s]
        exact z
      · rw [b_n, n_n]
        refine ⟨hn.1, hn.2.1, fun k hk => ?_⟩
        have z := hn.2.2 k hk
        unfold ok_n at z ⊢
        simp only [t_n]
        exact z
      · rw [b_r, n_r]
        refine ⟨hr.1, hr.2.1, fun k hk => ?_⟩
        have z := hr.2.2 k hk
        unfold ok_r at z ⊢
        simp only [t_r, n_o, n_s, n_n]
        exact z
      · rw [hO] at hk
        unfold ok_j
        rw [a0 k hk, a1 k hk, a2 k hk, n_o]
        by_cases e : k = nJ B
        · rw [if_pos e, if_pos e, if_pos e]
          have hp := fun z => hb (Or.inl ((pair0 B a b).mpr z))
          have z1 := has_ok (n := nO B) (by have := ho.2.1; omega) (a := a) (fun z => hp (Or.inl (by rw [ho.1]; exact z)))
          have z2 := has_ok (n := nO B) (by have := ho.2.1; omega) (a := b) (fun z => hp (Or.inr (Or.inl (by rw [ho.1]; exact z))))
          have z3 := bi_ok (fun z => hb (Or.inr z))
          exact ⟨z1.1, z1.2, z2.1, z2.2, fun z => hp (Or.inr (Or.inr z)), z3.1, z3.2⟩
        · rw [if_neg e, if_neg e, if_neg e]
          exact o3 k (by omega)
      · rw [n_o] at hk
        unfold rb_o
        simp only [t_o]
        exact ro k hk
      · rw [n_s] at hk
        unfold rb_s
        simp only [t_s]
        exact rs k hk
      · rw [n_n] at hk
        unfold rb_n
        simp only [t_n]
        exact rn k hk
      · rw [n_r] at hk
        unfold rb_r
        simp only [t_r]
        exact rr k hk
      · rw [hO] at hk
        unfold rb_j
        rw [a0 k hk, a1 k hk, a2 k hk]
        show upd (S.2.2.1 61) (nJ B) a k = _ ∧ upd (S.2.2.1 62) (nJ B) b k = _ ∧ upd (S.2.2.1 63) (nJ B) c k = _
        by_cases e : k = nJ B
        · subst e
          rw [if_pos rfl, if_pos rfl, if_pos rfl]
          exact ⟨pk_us, pk_us, pk_us⟩
        · rw [if_neg e, if_neg e, if_neg e, pk_un e, pk_un e, pk_un e]
          exact rj k (by omega)
      · exact ((oth.ai (by decide)).trans ((oth.ai (by decide)).trans ((oth.ai (by decide)).trans (oth.si (by decide)))))
    · have h16 : nJ B = 9 := by omega
      have hl : ¬ (bk_j B).1 < 9 := by rw [o1, h16]; decide
      have hSc : S.1 60 = 9 := by rw [r6, o1, h16]; rfl
      unfold ms_jour xs_jour xs_jourB ms_jourS
      rw [if_pos (hcnd.mpr (Or.inl hSc)), if_neg hb, if_neg hb, if_pos (hcnd.mpr (Or.inl hSc))]
      simp only [if_neg hl]
      have e1 : ∀ (f : Nat → Int32) (c x : Int32), tb_put 3 (bk_j B).1 f (-1) c x = f := fun f c x => by unfold tb_put; rw [if_pos (by decide)]
      rw [e1, e1, e1]
      exact ⟨trivial, hok, hRB, oth.rf⟩
theorem rec_new {B : Bk} {n : Nat} (hn : n < 400) (h1 : (bk_r B).1 = nI n) {ni st th ob wy te tr : Int32} (hb : ¬ (xs_sight B ob ni st wy = 0 ∨ bi_in th 0 4 = 0 ∨ bi_in te 0 9999 = 0 ∨ xs_told wy tr = 0)) : xs_rec B ni st th ob wy te tr = nI n ∧ xs_recB B ni st th ob wy te tr = (bk_now B, bk_o B, bk_s B, bk_n B, (nI (n + 1), (upd (upd (upd (upd (upd (upd (upd (upd (upd (bk_r B).2 (n * 9 + 0) ni) (n * 9 + 1) st) (n * 9 + 2) th) (n * 9 + 3) ob) (n * 9 + 4) wy) (n * 9 + 5) te) (n * 9 + 6) tr) (n * 9 + 7) (bk_now B)) (n * 9 + 8) 10000)), bk_j B) := by
  have hl : (bk_r B).1 < 400 := by rw [h1]; exact nI_lt (b := 400) hn (by decide)
  unfold xs_rec xs_recB
  rw [if_neg hb, if_neg hb]
  simp only [if_pos hl]
  rw [h1, nI_1]
  refine ⟨rfl, ?_⟩
  have e : ∀ (f : Nat → Int32) (c : Nat) (x : Int32), c < 9 → tb_put 9 (nI (n + 1)) f (nI n) (nI c) x = upd f (n * 9 + c) x := fun f c x hc => tb_put_n (w := 9) (by omega) hc (by omega) (by decide)
  have e0 : ∀ (f : Nat → Int32) (x : Int32), tb_put 9 (nI (n + 1)) f (nI n) 0 x = upd f (n * 9 + 0) x := fun f x => e f 0 x (by decide)
  have e1 : ∀ (f : Nat → Int32) (x : Int32), tb_put 9 (nI (n + 1)) f (nI n) 1 x = upd f (n * 9 + 1) x := fun f x => e f 1 x (by decide)
  have e2 : ∀ (f : Nat → Int32) (x : Int32), tb_put 9 (nI (n + 1)) f (nI n) 2 x = upd f (n * 9 + 2) x := fun f x => e f 2 x (by decide)
  have e3 : ∀ (f : Nat → Int32) (x : Int32), tb_put 9 (nI (n + 1)) f (nI n) 3 x = upd f (n * 9 + 3) x := fun f x => e f 3 x (by decide)
  have e4 : ∀ (f : Nat → Int32) (x : Int32), tb_put 9 (nI (n + 1)) f (nI n) 4 x = upd f (n * 9 + 4) x := fun f x => e f 4 x (by decide)
  have e5 : ∀ (f : Nat → Int32) (x : Int32), tb_put 9 (nI (n + 1)) f (nI n) 5 x = upd f (n * 9 + 5) x := fun f x => e f 5 x (by decide)
  have e6 : ∀ (f : Nat → Int32) (x : Int32), tb_put 9 (nI (n + 1)) f (nI n) 6 x = upd f (n * 9 + 6) x := fun f x => e f 6 x (by decide)
  have e7 : ∀ (f : Nat → Int32) (x : Int32), tb_put 9 (nI (n + 1)) f (nI n) 7 x = upd f (n * 9 + 7) x := fun f x => e f 7 x (by decide)
  have e8 : ∀ (f : Nat → Int32) (x : Int32), tb_put 9 (nI (n + 1)) f (nI n) 8 x = upd f (n * 9 + 8) x := fun f x => e f 8 x (by decide)
  rw [e0, e1, e2, e3, e4, e5, e6, e7, e8]
theorem rec_at0 {B : Bk} {n k : Nat} {ni st th ob wy te tr : Int32} (hn : n < 400) (h1 : (bk_r B).1 = nI n) (hk : k < n + 1) : bk_rat (bk_now B, bk_o B, bk_s B, bk_n B, (nI (n + 1), (upd (upd (upd (upd (upd (upd (upd (upd (upd (bk_r B).2 (n * 9 + 0) ni) (n * 9 + 1) st) (n * 9 + 2) th) (n * 9 + 3) ob) (n * 9 + 4) wy) (n * 9 + 5) te) (n * 9 + 6) tr) (n * 9 + 7) (bk_now B)) (n * 9 + 8) 10000)), bk_j B) (nI k) 0 = if k = n then ni else bk_rat B (nI k) 0 := by
  have e1 : bk_rat (bk_now B, bk_o B, bk_s B, bk_n B, (nI (n + 1), (upd (upd (upd (upd (upd (upd (upd (upd (upd (bk_r B).2 (n * 9 + 0) ni) (n * 9 + 1) st) (n * 9 + 2) th) (n * 9 + 3) ob) (n * 9 + 4) wy) (n * 9 + 5) te) (n * 9 + 6) tr) (n * 9 + 7) (bk_now B)) (n * 9 + 8) 10000)), bk_j B) (nI k) 0 = (upd (upd (upd (upd (upd (upd (upd (upd (upd (bk_r B).2 (n * 9 + 0) ni) (n * 9 + 1) st) (n * 9 + 2) th) (n * 9 + 3) ob) (n * 9 + 4) wy) (n * 9 + 5) te) (n * 9 + 6) tr) (n * 9 + 7) (bk_now B)) (n * 9 + 8) 10000) (k * 9 + 0) := tb_at_n (w := 9) (c := 0) hk (by decide) (by omega) (by decide)
  rw [e1]
  by_cases hkn : k = n
  · subst hkn
    rw [if_pos rfl, pk_un (by omega), pk_un (by omega), pk_un (by omega), pk_un (by omega), pk_un (by omega), pk_un (by omega), pk_un (by omega), pk_un (by omega), pk_us]
  · rw [if_neg hkn, pk_un (pl_ne (by decide) (by decide) (Or.inl hkn)), pk_un (pl_ne (by decide) (by decide) (Or.inl hkn)), pk_un (pl_ne (by decide) (by decide) (Or.inl hkn)), pk_un (pl_ne (by decide) (by decide) (Or.inl hkn)), pk_un (pl_ne (by decide) (by decide) (Or.inl hkn)), pk_un (pl_ne (by decide) (by decide) (Or.inl hkn)), pk_un (pl_ne (by decide) (by decide) (Or.inl hkn)), pk_un (pl_ne (by decide) (by decide) (Or.inl hkn)), pk_un (pl_ne (by decide) (by decide) (Or.inl hkn))]
    have e2 : bk_rat B (nI k) 0 = (bk_r B).2 (k * 9 + 0) := by
      unfold bk_rat
      rw [h1]
      exact tb_at_n (w := 9) (c := 0) (by omega) (by decide) (by omega) (by decide)
    rw [e2]
theorem rec_at1 {B : Bk} {n k : Nat} {ni st th ob wy te tr : Int32} (hn : n < 400) (h1 : (bk_r B).1 = nI n) (hk : k < n + 1) : bk_rat (bk_now B, bk_o B, bk_s B, bk_n B, (nI (n + 1), (upd (upd (upd (upd (upd (upd (upd (upd (upd (bk_r B).2 (n * 9 + 0) ni) (n * 9 + 1) st) (n * 9 + 2) th) (n * 9 + 3) ob) (n * 9 + 4) wy) (n * 9 + 5) te) (n * 9 + 6) tr) (n * 9 + 7) (bk_now B)) (n * 9 + 8) 10000)), bk_j B) (nI k) 1 = if k = n then st else bk_rat B (nI k) 1 := by
  have e1 : bk_rat (bk_now B, bk_o B, bk_s B, bk_n B, (nI (n + 1), (upd (upd (upd (upd (upd (upd (upd (upd (upd (bk_r B).2 (n * 9 + 0) ni) (n * 9 + 1) st) (n * 9 + 2) th) (n * 9 + 3) ob) (n * 9 + 4) wy) (n * 9 + 5) te) (n * 9 + 6) tr) (n * 9 + 7) (bk_now B)) (n * 9 + 8) 10000)), bk_j B) (nI k) 1 = (upd (upd (upd (upd (upd (upd (upd (upd (upd (bk_r B).2 (n * 9 + 0) ni) (n * 9 + 1) st) (n * 9 + 2) th) (n * 9 + 3) ob) (n * 9 + 4) wy) (n * 9 + 5) te) (n * 9 + 6) tr) (n * 9 + 7) (bk_now B)) (n * 9 + 8) 10000) (k * 9 + 1) := tb_at_n (w := 9) (c := 1) hk (by decide) (by omega) (by decide)
  rw [e1]
  by_cases hkn : k = n
  · subst hkn
    rw [if_pos rfl, pk_un (by omega), pk_un (by omega), pk_un (by omega), pk_un (by omega), pk_un (by omega), pk_un (by omega), pk_un (by omega), pk_us]
  · rw [if_neg hkn, pk_un (pl_ne (by decide) (by decide) (Or.inl hkn)), pk_un (pl_ne (by decide) (by decide) (Or.inl hkn)), pk_un (pl_ne (by decide) (by decide) (Or.inl hkn)), pk_un (pl_ne (by decide) (by decide) (Or.inl hkn)), pk_un (pl_ne (by decide) (by decide) (Or.inl hkn)), pk_un (pl_ne (by decide) (by decide) (Or.inl hkn)), pk_un (pl_ne (by decide) (by decide) (Or.inl hkn)), pk_un (pl_ne (by decide) (by decide) (Or.inl hkn)), pk_un (pl_ne (by decide) (by decide) (Or.inl hkn))]
    have e2 : bk_rat B (nI k) 1 = (bk_r B).2 (k * 9 + 1) := by
      unfold bk_rat
      rw [h1]
      exact tb_at_n (w := 9) (c := 1) (by omega) (by decide) (by omega) (by decide)
    rw [e2]
theorem rec_at2 {B : Bk} {n k : Nat} {ni st th ob wy te tr : Int32} (hn : n < 400) (h1 : (bk_r B).1 = nI n) (hk : k < n + 1) : bk_rat (bk_now B, bk_o B, bk_s B, bk_n B, (nI (n + 1), (upd (upd (upd (upd (upd (upd (upd (upd (upd (bk_r B).2 (n * 9 + 0) ni) (n * 9 + 1) st) (n * 9 + 2) th) (n * 9 + 3) ob) (n * 9 + 4) wy) (n * 9 + 5) te) (n * 9 + 6) tr) (n * 9 + 7) (bk_now B)) (n * 9 + 8) 10000)), bk_j B) (nI k) 2 = if k = n then th else bk_rat B (nI k) 2 := by
  have e1 : bk_rat (bk_now B, bk_o B, bk_s B, bk_n B, (nI (n + 1), (upd (upd (upd (upd (upd (upd (upd (upd (upd (bk_r B).2 (n * 9 + 0) ni) (n * 9 + 1) st) (n * 9 + 2) th) (n * 9 + 3) ob) (n * 9 + 4) wy) (n * 9 + 5) te) (n * 9 + 6) tr) (n * 9 + 7) (bk_now B)) (n * 9 + 8) 10000)), bk_j B) (nI k) 2 = (upd (upd (upd (upd (upd (upd (upd (upd (upd (bk_r B).2 (n * 9 + 0) ni) (n * 9 + 1) st) (n * 9 + 2) th) (n * 9 + 3) ob) (n * 9 + 4) wy) (n * 9 + 5) te) (n * 9 + 6) tr) (n * 9 + 7) (bk_now B)) (n * 9 + 8) 10000) (k * 9 + 2) := tb_at_n (w := 9) (c := 2) hk (by decide) (by omega) (by decide)
  rw [e1]
  by_cases hkn : k = n
  · subst hkn
    rw [if_pos rfl, pk_un (by omega), pk_un (by omega), pk_un (by omega), pk_un (by omega), pk_un (by omega), pk_un (by omega), pk_us]
  · rw [if_neg hkn, pk_un (pl_ne (by decide) (by decide) (Or.inl hkn)), pk_un (pl_ne (by decide) (by decide) (Or.inl hkn)), pk_un (pl_ne (by decide) (by decide) (Or.inl hkn)), pk_un (pl_ne (by decide) (by decide) (Or.inl hkn)), pk_un (pl_ne (by decide) (by decide) (Or.inl hkn)), pk_un (pl_ne (by decide) (by decide) (Or.inl hkn)), pk_un (pl_ne (by decide) (by decide) (Or.inl hkn)), pk_un (pl_ne (by decide) (by decide) (Or.inl hkn)), pk_un (pl_ne (by decide) (by decide) (Or.inl hkn))]
    have e2 : bk_rat B (nI k) 2 = (bk_r B).2 (k * 9 + 2) := by
      unfold bk_rat
      rw [h1]
      exact tb_at_n (w := 9) (c := 2) (by omega) (by decide) (by omega) (by decide)
    rw [e2]
theorem rec_at3 {B : Bk} {n k : Nat} {ni st th ob wy te tr : Int32} (hn : n < 400) (h1 : (bk_r B).1 = nI n) (hk : k < n + 1) : bk_rat (bk_now B, bk_o B, bk_s B, bk_n B, (nI (n + 1), (upd (upd (upd (upd (upd (upd (upd (upd (upd (bk_r B).2 (n * 9 + 0) ni) (n * 9 + 1) st) (n * 9 + 2) th) (n * 9 + 3) ob) (n * 9 + 4) wy) (n * 9 + 5) te) (n * 9 + 6) tr) (n * 9 + 7) (bk_now B)) (n * 9 + 8) 10000)), bk_j B) (nI k) 3 = if k = n then ob else bk_rat B (nI k) 3 := by
  have e1 : bk_rat (bk_now B, bk_o B, bk_s B, bk_n B, (nI (n + 1), (upd (upd (upd (upd (upd (upd (upd (upd (upd (bk_r B).2 (n * 9 + 0) ni) (n * 9 + 1) st) (n * 9 + 2) th) (n * 9 + 3) ob) (n * 9 + 4) wy) (n * 9 + 5) te) (n * 9 + 6) tr) (n * 9 + 7) (bk_now B)) (n * 9 + 8) 10000)), bk_j B) (nI k) 3 = (upd (upd (upd (upd (upd (upd (upd (upd (upd (bk_r B).2 (n * 9 + 0) ni) (n * 9 + 1) st) (n * 9 + 2) th) (n * 9 + 3) ob) (n * 9 + 4) wy) (n * 9 + 5) te) (n * 9 + 6) tr) (n * 9 + 7) (bk_now B)) (n * 9 + 8) 10000) (k * 9 + 3) := tb_at_n (w := 9) (c := 3) hk (by decide) (by omega) (by decide)
  rw [e1]
  by_cases hkn : k = n
  · subst hkn
    rw [if_pos rfl, pk_un (by omega), pk_un (by omega), pk_un (by omega), pk_un (by omega), pk_un (by omega), pk_us]
  · rw [if_neg hkn, pk_un (pl_ne (by decide) (by decide) (Or.inl hkn)), pk_un (pl_ne (by decide) (by decide) (Or.inl hkn)), pk_un (pl_ne (by decide) (by decide) (Or.inl hkn)), pk_un (pl_ne (by decide) (by decide) (Or.inl hkn)), pk_un (pl_ne (by decide) (by decide) (Or.inl hkn)), pk_un (pl_ne (by decide) (by decide) (Or.inl hkn)), pk_un (pl_ne (by decide) (by decide) (Or.inl hkn)), pk_un (pl_ne (by decide) (by decide) (Or.inl hkn)), pk_un (pl_ne (by decide) (by decide) (Or.inl hkn))]
    have e2 : bk_rat B (nI k) 3 = (bk_r B).2 (k * 9 + 3) := by
      unfold bk_rat
      rw [h1]
      exact tb_at_n (w := 9) (c := 3) (by omega) (by decide) (by omega) (by decide)
    rw [e2]
theorem rec_at4 {B : Bk} {n k : Nat} {ni st th ob wy te tr : Int32} (hn : n < 400) (h1 : (bk_r B).1 = nI n) (hk : k < n + 1) : bk_rat (bk_now B, bk_o B, bk_s B, bk_n B, (nI (n + 1), (upd (upd (upd (upd (upd (upd (upd (upd (upd (bk_r B).2 (n * 9 + 0) ni) (n * 9 + 1) st) (n * 9 + 2) th) (n * 9 + 3) ob) (n * 9 + 4) wy) (n * 9 + 5) te) (n * 9 + 6) tr) (n * 9 + 7) (bk_now B)) (n * 9 + 8) 10000)), bk_j B) (nI k) 4 = if k = n then wy else bk_rat B (nI k) 4 := by
  have e1 : bk_rat (bk_now B, bk_o B, bk_s B, bk_n B, (nI (n + 1), (upd (upd (upd (upd (upd (upd (upd (upd (upd (bk_r B).2 (n * 9 + 0) ni) (n * 9 + 1) st) (n * 9 + 2) th) (n * 9 + 3) ob) (n * 9 + 4) wy) (n * 9 + 5) te) (n * 9 + 6) tr) (n * 9 + 7) (bk_now B)) (n * 9 + 8) 10000)), bk_j B) (nI k) 4 = (upd (upd (upd (upd (upd (upd (upd (upd (upd (bk_r B).2 (n * 9 + 0) ni) (n * 9 + 1) st) (n * 9 + 2) th) (n * 9 + 3) ob) (n * 9 + 4) wy) (n * 9 + 5) te) (n * 9 + 6) tr) (n * 9 + 7) (bk_now B)) (n * 9 + 8) 10000) (k * 9 + 4) := tb_at_n (w := 9) (c := 4) hk (by decide) (by omega) (by decide)
  rw [e1]
  by_cases hkn : k = n
  · subst hkn
    rw [if_pos rfl, pk_un (by omega), pk_un (by omega), pk_un (by omega), pk_un (by omega), pk_us]
  · rw [if_neg hkn, pk_un (pl_ne (by decide) (by decide) (Or.inl hkn)), pk_un (pl_ne (by decide) (by decide) (Or.inl hkn)), pk_un (pl_ne (by decide) (by decide) (Or.inl hkn)), pk_un (pl_ne (by decide) (by decide) (Or.inl hkn)), pk_un (pl_ne (by decide) (by decide) (Or.inl hkn)), pk_un (pl_ne (by decide) (by decide) (Or.inl hkn)), pk_un (pl_ne (by decide) (by decide) (Or.inl hkn)), pk_un (pl_ne (by decide) (by decide) (Or.inl hkn)), pk_un (pl_ne (by decide) (by decide) (Or.inl hkn))]
    have e2 : bk_rat B (nI k) 4 = (bk_r B).2 (k * 9 + 4) := by
      unfold bk_rat
      rw [h1]
      exact tb_at_n (w := 9) (c := 4) (by omega) (by decide) (by omega) (by decide)
    rw [e2]
theorem rec_at5 {B : Bk} {n k : Nat} {ni st th ob wy te tr : Int32} (hn : n < 400) (h1 : (bk_r B).1 = nI n) (hk : k < n + 1) : bk_rat (bk_now B, bk_o B, bk_s B, bk_n B, (nI (n + 1), (upd (upd (upd (upd (upd (upd (upd (upd (upd (bk_r B).2 (n * 9 + 0) ni) (n * 9 + 1) st) (n * 9 + 2) th) (n * 9 + 3) ob) (n * 9 + 4) wy) (n * 9 + 5) te) (n * 9 + 6) tr) (n * 9 + 7) (bk_now B)) (n * 9 + 8) 10000)), bk_j B) (nI k) 5 = if k = n then te else bk_rat B (nI k) 5 := by
  have e1 : bk_rat (bk_now B, bk_o B, bk_s B, bk_n B, (nI (n + 1), (upd (upd (upd (upd (upd (upd (upd (upd (upd (bk_r B).2 (n * 9 + 0) ni) (n * 9 + 1) st) (n * 9 + 2) th) (n * 9 + 3) ob) (n * 9 + 4) wy) (n * 9 + 5) te) (n * 9 + 6) tr) (n * 9 + 7) (bk_now B)) (n * 9 + 8) 10000)), bk_j B) (nI k) 5 = (upd (upd (upd (upd (upd (upd (upd (upd (upd (bk_r B).2 (n * 9 + 0) ni) (n * 9 + 1) st) (n * 9 + 2) th) (n * 9 + 3) ob) (n * 9 + 4) wy) (n * 9 + 5) te) (n * 9 + 6) tr) (n * 9 + 7) (bk_now B)) (n * 9 + 8) 10000) (k * 9 + 5) := tb_at_n (w := 9) (c := 5) hk (by decide) (by omega) (by decide)
  rw [e1]
  by_cases hkn : k = n
  · subst hkn
    rw [if_pos rfl, pk_un (by omega), pk_un (by omega), pk_un (by omega), pk_us]
  · rw [if_neg hkn, pk_un (pl_ne (by decide) (by decide) (Or.inl hkn)), pk_un (pl_ne (by decide) (by decide) (Or.inl hkn)), pk_un (pl_ne (by decide) (by decide) (Or.inl hkn)), pk_un (pl_ne (by decide) (by decide) (Or.inl hkn)), pk_un (pl_ne (by decide) (by decide) (Or.inl hkn)), pk_un (pl_ne (by decide) (by decide) (Or.inl hkn)), pk_un (pl_ne (by decide) (by decide) (Or.inl hkn)), pk_un (pl_ne (by decide) (by decide) (Or.inl hkn)), pk_un (pl_ne (by decide) (by decide) (Or.inl hkn))]
    have e2 : bk_rat B (nI k) 5 = (bk_r B).2 (k * 9 + 5) := by
      unfold bk_rat
      rw [h1]
      exact tb_at_n (w := 9) (c := 5) (by omega) (by decide) (by omega) (by decide)
    rw [e2]
theorem rec_at6 {B : Bk} {n k : Nat} {ni st th ob wy te tr : Int32} (hn : n < 400) (h1 : (bk_r B).1 = nI n) (hk : k < n + 1) : bk_rat (bk_now B, bk_o B, bk_s B, bk_n B, (nI (n + 1), (upd (upd (upd (upd (upd (upd (upd (upd (upd (bk_r B).2 (n * 9 + 0) ni) (n * 9 + 1) st) (n * 9 + 2) th) (n * 9 + 3) ob) (n * 9 + 4) wy) (n * 9 + 5) te) (n * 9 + 6) tr) (n * 9 + 7) (bk_now B)) (n * 9 + 8) 10000)), bk_j B) (nI k) 6 = if k = n then tr else bk_rat B (nI k) 6 := by
  have e1 : bk_rat (bk_now B, bk_o B, bk_s B, bk_n B, (nI (n + 1), (upd (upd (upd (upd (upd (upd (upd (upd (upd (bk_r B).2 (n * 9 + 0) ni) (n * 9 + 1) st) (n * 9 + 2) th) (n * 9 + 3) ob) (n * 9 + 4) wy) (n * 9 + 5) te) (n * 9 + 6) tr) (n * 9 + 7) (bk_now B)) (n * 9 + 8) 10000)), bk_j B) (nI k) 6 = (upd (upd (upd (upd (upd (upd (upd (upd (upd (bk_r B).2 (n * 9 + 0) ni) (n * 9 + 1) st) (n * 9 + 2) th) (n * 9 + 3) ob) (n * 9 + 4) wy) (n * 9 + 5) te) (n * 9 + 6) tr) (n * 9 + 7) (bk_now B)) (n * 9 + 8) 10000) (k * 9 + 6) := tb_at_n (w := 9) (c := 6) hk (by decide) (by omega) (by decide)
  rw [e1]
  by_cases hkn : k = n
  · subst hkn
    rw [if_pos rfl, pk_un (by omega), pk_un (by omega), pk_us]
  · rw [if_neg hkn, pk_un (pl_ne (by decide) (by decide) (Or.inl hkn)), pk_un (pl_ne (by decide) (by decide) (Or.inl hkn)), pk_un (pl_ne (by decide) (by decide) (Or.inl hkn)), pk_un (pl_ne (by decide) (by decide) (Or.inl hkn)), pk_un (pl_ne (by decide) (by decide) (Or.inl hkn)), pk_un (pl_ne (by decide) (by decide) (Or.inl hkn)), pk_un (pl_ne (by decide) (by decide) (Or.inl hkn)), pk_un (pl_ne (by decide) (by decide) (Or.inl hkn)), pk_un (pl_ne (by decide) (by decide) (Or.inl hkn))]
    have e2 : bk_rat B (nI k) 6 = (bk_r B).2 (k * 9 + 6) := by
      unfold bk_rat
      rw [h1]
      exact tb_at_n (w := 9) (c := 6) (by omega) (by decide) (by omega) (by decide)
    rw [e2]
theorem rec_at7 {B : Bk} {n k : Nat} {ni st th ob wy te tr : Int32} (hn : n < 400) (h1 : (bk_r B).1 = nI n) (hk : k < n + 1) : bk_rat (bk_now B, bk_o B, bk_s B, bk_n B, (nI (n + 1), (upd (upd (upd (upd (upd (upd (upd (upd (upd (bk_r B).2 (n * 9 + 0) ni) (n * 9 + 1) st) (n * 9 + 2) th) (n * 9 + 3) ob) (n * 9 + 4) wy) (n * 9 + 5) te) (n * 9 + 6) tr) (n * 9 + 7) (bk_now B)) (n * 9 + 8) 10000)), bk_j B) (nI k) 7 = if k = n then (bk_now B) else bk_rat B (nI k) 7 := by
  have e1 : bk_rat (bk_now B, bk_o B, bk_s B, bk_n B, (nI (n + 1), (upd (upd (upd (upd (upd (upd (upd (upd (upd (bk_r B).2 (n * 9 + 0) ni) (n * 9 + 1) st) (n * 9 + 2) th) (n * 9 + 3) ob) (n * 9 + 4) wy) (n * 9 + 5) te) (n * 9 + 6) tr) (n * 9 + 7) (bk_now B)) (n * 9 + 8) 10000)), bk_j B) (nI k) 7 = (upd (upd (upd (upd (upd (upd (upd (upd (upd (bk_r B).2 (n * 9 + 0) ni) (n * 9 + 1) st) (n * 9 + 2) th) (n * 9 + 3) ob) (n * 9 + 4) wy) (n * 9 + 5) te) (n * 9 + 6) tr) (n * 9 + 7) (bk_now B)) (n * 9 + 8) 10000) (k * 9 + 7) := tb_at_n (w := 9) (c := 7) hk (by decide) (by omega) (by decide)
  rw [e1]
  by_cases hkn : k = n
  · subst hkn
    rw [if_pos rfl, pk_un (by omega), pk_us]
  · rw [if_neg hkn, pk_un (pl_ne (by decide) (by decide) (Or.inl hkn)), pk_un (pl_ne (by decide) (by decide) (Or.inl hkn)), pk_un (pl_ne (by decide) (by decide) (Or.inl hkn)), pk_un (pl_ne (by decide) (by decide) (Or.inl hkn)), pk_un (pl_ne (by decide) (by decide) (Or.inl hkn)), pk_un (pl_ne (by decide) (by decide) (Or.inl hkn)), pk_un (pl_ne (by decide) (by decide) (Or.inl hkn)), pk_un (pl_ne (by decide) (by decide) (Or.inl hkn)), pk_un (pl_ne (by decide) (by decide) (Or.inl hkn))]
    have e2 : bk_rat B (nI k) 7 = (bk_r B).2 (k * 9 + 7) := by
      unfold bk_rat
      rw [h1]
      exact tb_at_n (w := 9) (c := 7) (by omega) (by decide) (by omega) (by decide)
    rw [e2]
theorem rec_at8 {B : Bk} {n k : Nat} {ni st th ob wy te tr : Int32} (hn : n < 400) (h1 : (bk_r B).1 = nI n) (hk : k < n + 1) : bk_rat (bk_now B, bk_o B, bk_s B, bk_n B, (nI (n + 1), (upd (upd (upd (upd (upd (upd (upd (upd (upd (bk_r B).2 (n * 9 + 0) ni) (n * 9 + 1) st) (n * 9 + 2) th) (n * 9 + 3) ob) (n * 9 + 4) wy) (n * 9 + 5) te) (n * 9 + 6) tr) (n * 9 + 7) (bk_now B)) (n * 9 + 8) 10000)), bk_j B) (nI k) 8 = if k = n then 10000 else bk_rat B (nI k) 8 := by
  have e1 : bk_rat (bk_now B, bk_o B, bk_s B, bk_n B, (nI (n + 1), (upd (upd (upd (upd (upd (upd (upd (upd (upd (bk_r B).2 (n * 9 + 0) ni) (n * 9 + 1) st) (n * 9 + 2) th) (n * 9 + 3) ob) (n * 9 + 4) wy) (n * 9 + 5) te) (n * 9 + 6) tr) (n * 9 + 7) (bk_now B)) (n * 9 + 8) 10000)), bk_j B) (nI k) 8 = (upd (upd (upd (upd (upd (upd (upd (upd (upd (bk_r B).2 (n * 9 + 0) ni) (n * 9 + 1) st) (n * 9 + 2) th) (n * 9 + 3) ob) (n * 9 + 4) wy) (n * 9 + 5) te) (n * 9 + 6) tr) (n * 9 + 7) (bk_now B)) (n * 9 + 8) 10000) (k * 9 + 8) := tb_at_n (w := 9) (c := 8) hk (by decide) (by omega) (by decide)
  rw [e1]
  by_cases hkn : k = n
  · subst hkn
    rw [if_pos rfl, pk_us]
  · rw [if_neg hkn, pk_un (pl_ne (by decide) (by decide) (Or.inl hkn)), pk_un (pl_ne (by decide) (by decide) (Or.inl hkn)), pk_un (pl_ne (by decide) (by decide) (Or.inl hkn)), pk_un (pl_ne (by decide) (by decide) (Or.inl hkn)), pk_un (pl_ne (by decide) (by decide) (Or.inl hkn)), pk_un (pl_ne (by decide) (by decide) (Or.inl hkn)), pk_un (pl_ne (by decide) (by decide) (Or.inl hkn)), pk_un (pl_ne (by decide) (by decide) (Or.inl hkn)), pk_un (pl_ne (by decide) (by decide) (Or.inl hkn))]
    have e2 : bk_rat B (nI k) 8 = (bk_r B).2 (k * 9 + 8) := by
      unfold bk_rat
      rw [h1]
      exact tb_at_n (w := 9) (c := 8) (by omega) (by decide) (by omega) (by decide)
    rw [e2]
theorem nR_of {B : Bk} {n : Nat} (h : (bk_r B).1 = nI n) (hn : n < 2 ^ 31) : nR B = n := by
  unfold nR
  rw [h, nI_toInt hn]
  rfl
theorem al_rec {B : Bk} {S : Md} {lm : Nat} (hok : bk_ok B lm) (hRB : RB B S) (ni st th ob wy te tr : Int32) : ms_rec S ni st th ob wy te tr = xs_rec B ni st th ob wy te tr ∧ bk_ok (xs_recB B ni st th ob wy te tr) lm ∧ RB (xs_recB B ni st th ob wy te tr) (ms_recS S ni st th ob wy te tr) ∧ oth S (ms_recS S ni st th ob wy te tr) := by
  obtain ⟨hnow, ho, hs, hn, ⟨o1, o2, o3⟩, hj⟩ := id hok
  obtain ⟨⟨r1, r2, r3, r4, r5, r6⟩, ro, rs, rn, rr, rj⟩ := id hRB
  have hcnd : (S.1 5 = 400 ∨ bi_in ni 0 (S.1 4 - 1) = 0 ∨ bi_in st 0 (S.1 3 - 1) = 0 ∨ bi_in th 0 4 = 0 ∨ bi_in ob 0 (S.1 2 - 1) = 0 ∨ bi_in wy 0 4 = 0 ∨ bi_in te 0 9999 = 0 ∨ xs_told wy tr = 0) ↔ (S.1 5 = 400 ∨ (xs_sight B ob ni st wy = 0 ∨ bi_in th 0 4 = 0 ∨ bi_in te 0 9999 = 0 ∨ xs_told wy tr = 0)) := by
    rw [rb_nig hok hRB, rb_str hok hRB, rb_obs hok hRB, sight0]
    constructor
    · intro z
      rcases z with z | z | z | z | z | z | z | z
      · exact Or.inl z
      · exact Or.inr (Or.inl (Or.inr (Or.inl z)))
      · exact Or.inr (Or.inl (Or.inr (Or.inr (Or.inl z))))
      · exact Or.inr (Or.inr (Or.inl z))
      · exact Or.inr (Or.inl (Or.inl z))
      · exact Or.inr (Or.inl (Or.inr (Or.inr (Or.inr z))))
      · exact Or.inr (Or.inr (Or.inr (Or.inl z)))
      · exact Or.inr (Or.inr (Or.inr (Or.inr z)))
    · intro z
      rcases z with z | (z | z | z | z) | z | z | z
      · exact Or.inl z
      · exact Or.inr (Or.inr (Or.inr (Or.inr (Or.inl z))))
      · exact Or.inr (Or.inl z)
      · exact Or.inr (Or.inr (Or.inl z))
      · exact Or.inr (Or.inr (Or.inr (Or.inr (Or.inr (Or.inl z)))))
      · exact Or.inr (Or.inr (Or.inr (Or.inl z)))
      · exact Or.inr (Or.inr (Or.inr (Or.inr (Or.inr (Or.inr (Or.inl z))))))
      · exact Or.inr (Or.inr (Or.inr (Or.inr (Or.inr (Or.inr (Or.inr z))))))
  by_cases hb : xs_sight B ob ni st wy = 0 ∨ bi_in th 0 4 = 0 ∨ bi_in te 0 9999 = 0 ∨ xs_told wy tr = 0
  · unfold ms_rec xs_rec xs_recB ms_recS
    rw [if_pos (hcnd.mpr (Or.inr hb)), if_pos hb, if_pos hb, if_pos (hcnd.mpr (Or.inr hb))]
    exact ⟨rfl, hok, hRB, oth.rf⟩
  · by_cases hf : nR B < 400
    · obtain ⟨x1, x2⟩ := rec_new hf o1 hb
      have hSc : S.1 5 = nI (nR B) := r5.trans o1
      have hne : ¬ (S.1 5 = 400 ∨ bi_in ni 0 (S.1 4 - 1) = 0 ∨ bi_in st 0 (S.1 3 - 1) = 0 ∨ bi_in th 0 4 = 0 ∨ bi_in ob 0 (S.1 2 - 1) = 0 ∨ bi_in wy 0 4 = 0 ∨ bi_in te 0 9999 = 0 ∨ xs_told wy tr = 0) := fun z => (hcnd.mp z).elim (fun e => absurd (nI_inj (b := 400) (by omega) (by decide) (hSc.symm.trans e)) (by omega)) hb
      have hm1 : ms_rec S ni st th ob wy te tr = nI (nR B) := by
        unfold ms_rec
        rw [if_neg hne, hSc, nI_1]
        exact nI_pred _
      have hm2 : ms_recS S ni st th ob wy te tr = md_si (md_ai (md_ai (md_ai (md_ai (md_ai (md_ai (md_ai (md_ai (md_ai S 13 (upd (S.2.2.1 13) (nR B) ni)) 14 (upd (S.2.2.1 14) (nR B) st)) 15 (upd (S.2.2.1 15) (nR B) th)) 16 (upd (S.2.2.1 16) (nR B) ob)) 17 (upd (S.2.2.1 17) (nR B) wy)) 18 (upd (S.2.2.1 18) (nR B) te)) 19 (upd (S.2.2.1 19) (nR B) tr)) 20 (upd (S.2.2.1 20) (nR B) (S.1 1))) 21 (upd (S.2.2.1 21) (nR B) (-1))) 5 (nI (nR B + 1)) := by
        unfold ms_recS
        rw [if_neg hne, hSc, nI_clamp (by omega), nI_1]
      have a0 := fun k hk => rec_at0 (ni := ni) (st := st) (th := th) (ob := ob) (wy := wy) (te := te) (tr := tr) (k := k) hf o1 hk
      have a1 := fun k hk => rec_at1 (ni := ni) (st := st) (th := th) (ob := ob) (wy := wy) (te := te) (tr := tr) (k := k) hf o1 hk
      have a2 := fun k hk => rec_at2 (ni := ni) (st := st) (th := th) (ob := ob) (wy := wy) (te := te) (tr := tr) (k := k) hf o1 hk
      have a3 := fun k hk => rec_at3 (ni := ni) (st := st) (th := th) (ob := ob) (wy := wy) (te := te) (tr := tr) (k := k) hf o1 hk
      have a4 := fun k hk => rec_at4 (ni := ni) (st := st) (th := th) (ob := ob) (wy := wy) (te := te) (tr := tr) (k := k) hf o1 hk
      have a5 := fun k hk => rec_at5 (ni := ni) (st := st) (th := th) (ob := ob) (wy := wy) (te := te) (tr := tr) (k := k) hf o1 hk
      have a6 := fun k hk => rec_at6 (ni := ni) (st := st) (th := th) (ob := ob) (wy := wy) (te := te) (tr := tr) (k := k) hf o1 hk
      have a7 := fun k hk => rec_at7 (ni := ni) (st := st) (th := th) (ob := ob) (wy := wy) (te := te) (tr := tr) (k := k) hf o1 hk
      have a8 := fun k hk => rec_at8 (ni := ni) (st := st) (th := th) (ob := ob) (wy := wy) (te := te) (tr := tr) (k := k) hf o1 hk
      rw [hm1, x1, hm2, x2]
      generalize hB' : ((bk_now B, bk_o B, bk_s B, bk_n B, (nI (nR B + 1), (upd (upd (upd (upd (upd (upd (upd (upd (upd (bk_r B).2 (nR B * 9 + 0) ni) (nR B * 9 + 1) st) (nR B * 9 + 2) th) (nR B * 9 + 3) ob) (nR B * 9 + 4) wy) (nR B * 9 + 5) te) (nR B * 9 + 6) tr) (nR B * 9 + 7) (bk_now B)) (nR B * 9 + 8) 10000)), bk_j B) : Bk) = B' at a0 a1 a2 a3 a4 a5 a6 a7 a8 ⊢
      have b1 : (bk_r B').1 = nI (nR B + 1) := by rw [← hB']; rfl
      have hO : nR B' = nR B + 1 := nR_of b1 (by omega)
      have b0 : bk_now B' = bk_now B := by rw [← hB']; rfl
      have b_o : bk_o B' = bk_o B := by rw [← hB']; rfl
      have n_o : nO B' = nO B := by unfold nO; rw [b_o]
      have t_o : ∀ i c, bk_oat B' i c = bk_oat B i c := fun i c => by unfold bk_oat; rw [b_o]
      have b_s : bk_s B' = bk_s B := by rw [← hB']; rfl
      have n_s : nS B' = nS B := by unfold nS; rw [b_s]
      have t_s : ∀ i c, bk_sat B' i c = bk_sat B i c := fun i c => by unfold bk_sat; rw [b_s]
      have b_n : bk_n B' = bk_n B := by rw [← hB']; rfl
      have n_n : nN B' = nN B := by unfold nN; rw [b_n]
      have t_n : ∀ i c, bk_nat B' i c = bk_nat B i c := fun i c => by unfold bk_nat; rw [b_n]
      have b_j : bk_j B' = bk_j B := by rw [← hB']; rfl
      have n_j : nJ B' = nJ B := by unfold nJ; rw [b_j]
      have t_j : ∀ i c, bk_jat B' i c = bk_jat B i c := fun i c => by unfold bk_jat; rw [b_j]
      refine ⟨rfl, ⟨by rw [b0]; exact hnow, ?_, ?_, ?_, ⟨by rw [b1, hO], by omega, fun k hk => ?_⟩, ?_⟩, ⟨⟨by rw [b0]; exact r1, by rw [b_o]; exact r2, by rw [b_s]; exact r3, by rw [b_n]; exact r4, by rw [b1]; rfl, by rw [b_j]; exact r6⟩, fun k hk => ?_, fun k hk => ?_, fun k hk => ?_, fun k hk => ?_, fun k hk => ?_⟩, ?_⟩
      · rw [b_o, n_o]
        refine ⟨ho.1, ho.2.1, fun k hk => ?_⟩
        have z := ho.2.2 k hk
        unfold ok_o at z ⊢
        simp only [t_o]
        exact z
      · rw [b_s, n_s]
        refine ⟨hs.1, hs.2.1, fun k hk => ?_⟩
        have z := hs.2.2 k hk
        unfold ok_s at z ⊢
        simp only [t_s]
        exact z
      · rw [b_n, n_n]
        refine ⟨hn.1, hn.2.1, fun k hk => ?_⟩
        have z := hn.2.2 k hk
        unfold ok_n at z ⊢
        simp only [t_n]
        exact z
      · rw [hO] at hk
        unfold ok_r
        rw [a0 k hk, a1 k hk, a2 k hk, a3 k hk, a4 k hk, a5 k hk, a6 k hk, a7 k hk, a8 k hk, n_n, n_s, n_o]
        by_cases e : k = nR B
        · rw [if_pos e, if_pos e, if_pos e, if_pos e, if_pos e, if_pos e, if_pos e, if_pos e, if_pos e]
          have hp := fun z => hb (Or.inl ((sight0 B ob ni st wy).mpr z))
          have z1 := has_ok (n := nN B) (by have := hn.2.1; omega) (a := ni) (fun z => hp (Or.inr (Or.inl (by rw [hn.1]; exact z))))
          have z2 := has_ok (n := nS B) (by have := hs.2.1; omega) (a := st) (fun z => hp (Or.inr (Or.inr (Or.inl (by rw [hs.1]; exact z)))))
          have z3 := bi_ok (fun z => hb (Or.inr (Or.inl z)))
          have z4 := has_ok (n := nO B) (by have := ho.2.1; omega) (a := ob) (fun z => hp (Or.inl (by rw [ho.1]; exact z)))
          have z5 := bi_ok (fun z => hp (Or.inr (Or.inr (Or.inr z))))
          have z6 := bi_ok (fun z => hb (Or.inr (Or.inr (Or.inl z))))
          have z7 := told_ok (fun z => hb (Or.inr (Or.inr (Or.inr z))))
          exact ⟨z1.1, z1.2, z2.1, z2.2, z3.1, z3.2, z4.1, z4.2, z5.1, z5.2, z6.1, z6.2, z7.1, z7.2, hnow.1, hnow.2, by decide, by decide⟩
        · rw [if_neg e, if_neg e, if_neg e, if_neg e, if_neg e, if_neg e, if_neg e, if_neg e, if_neg e]
          exact o3 k (by omega)
      · rw [b_j, n_j]
        refine ⟨hj.1, hj.2.1, fun k hk => ?_⟩
        have z := hj.2.2 k hk
        unfold ok_j at z ⊢
        simp only [t_j, n_o]
        exact z
      · rw [n_o] at hk
        unfold rb_o
        simp only [t_o]
        exact ro k hk
      · rw [n_s] at hk
        unfold rb_s
        simp only [t_s]
        exact rs k hk
      · rw [n_n] at hk
        unfold rb_n
        simp only [t_n]
        exact rn k hk
      · rw [hO] at hk
        unfold rb_r
        rw [a0 k hk, a1 k hk, a2 k hk, a3 k hk, a4 k hk, a5 k hk, a6 k hk, a7 k hk, a8 k hk]
        show upd (S.2.2.1 13) (nR B) ni k = _ ∧ upd (S.2.2.1 14) (nR B) st k = _ ∧ upd (S.2.2.1 15) (nR B) th k = _ ∧ upd (S.2.2.1 16) (nR B) ob k = _ ∧ upd (S.2.2.1 17) (nR B) wy k = _ ∧ upd (S.2.2.1 18) (nR B) te k = _ ∧ upd (S.2.2.1 19) (nR B) tr k = _ ∧ upd (S.2.2.1 20) (nR B) (S.1 1) k = _ ∧ upd (S.2.2.1 21) (nR B) (-1) k = _
        by_cases e : k = nR B
        · subst e
          refine ⟨?_, ?_, ?_, ?_, ?_, ?_, ?_, ?_, ?_⟩
          · rw [if_pos rfl]; exact pk_us
          · rw [if_pos rfl]; exact pk_us
          · rw [if_pos rfl]; exact pk_us
          · rw [if_pos rfl]; exact pk_us
          · rw [if_pos rfl]; exact pk_us
          · rw [if_pos rfl]; exact pk_us
          · rw [if_pos rfl]; exact pk_us
          · rw [if_pos rfl, pk_us]; exact r1
          · rw [if_pos rfl, if_pos rfl]; exact pk_us
        · refine ⟨?_, ?_, ?_, ?_, ?_, ?_, ?_, ?_, ?_⟩
          · rw [if_neg e, pk_un e]; exact (rr k (by omega)).1
          · rw [if_neg e, pk_un e]; exact (rr k (by omega)).2.1
          · rw [if_neg e, pk_un e]; exact (rr k (by omega)).2.2.1
          · rw [if_neg e, pk_un e]; exact (rr k (by omega)).2.2.2.1
          · rw [if_neg e, pk_un e]; exact (rr k (by omega)).2.2.2.2.1
          · rw [if_neg e, pk_un e]; exact (rr k (by omega)).2.2.2.2.2.1
          · rw [if_neg e, pk_un e]; exact (rr k (by omega)).2.2.2.2.2.2.1
          · rw [if_neg e, pk_un e]; exact (rr k (by omega)).2.2.2.2.2.2.2.1
          · rw [if_neg e, pk_un e]; exact (rr k (by omega)).2.2.2.2.2.2.2.2
      · rw [n_j] at hk
        unfold rb_j
        simp only [t_j]
        exact rj k hk
      · exact ((oth.ai (by decide)).trans ((oth.ai (by decide)).trans ((oth.ai (by decide)).trans ((oth.ai (by decide)).trans ((oth.ai (by decide)).trans ((oth.ai (by decide)).trans ((oth.ai (by decide)).trans ((oth.ai (by decide)).trans ((oth.ai (by decide)).trans (oth.si (by decide)))))))))))
    · have h16 : nR B = 400 := by omega
      have hl : ¬ (bk_r B).1 < 400 := by rw [o1, h16]; decide
      have hSc : S.1 5 = 400 := by rw [r5, o1, h16]; rfl
      unfold ms_rec xs_rec xs_recB ms_recS
      rw [if_pos (hcnd.mpr (Or.inl hSc)), if_neg hb, if_neg hb, if_pos (hcnd.mpr (Or.inl hSc))]
      simp only [if_neg hl]
      have e1 : ∀ (f : Nat → Int32) (c x : Int32), tb_put 9 (bk_r B).1 f (-1) c x = f := fun f c x => by unfold tb_put; rw [if_pos (by decide)]
      rw [e1, e1, e1, e1, e1, e1, e1, e1, e1]
      exact ⟨trivial, hok, hRB, oth.rf⟩
