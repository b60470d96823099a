/-! 92: strike, leans, end, count: book and model alike (laid by wip/whole/p92.py) -/
theorem strk_at {B : Bk} {i k d : Nat} {v : Int32} (hL : nR B ≤ 400) (h1 : (bk_r B).1 = nI (nR B)) (hd : d < 9) (hk : k < nR B) : bk_rat (bk_now B, bk_o B, bk_s B, bk_n B, ((bk_r B).1, upd (bk_r B).2 (i * 9 + 8) v), bk_j B) (nI k) (nI d) = if k = i ∧ d = 8 then v else bk_rat B (nI k) (nI d) := by
  have e1 : bk_rat (bk_now B, bk_o B, bk_s B, bk_n B, ((bk_r B).1, upd (bk_r B).2 (i * 9 + 8) v), bk_j B) (nI k) (nI d) = upd (bk_r B).2 (i * 9 + 8) v (k * 9 + d) := by
    show tb_at 9 (bk_r B).1 (upd (bk_r B).2 (i * 9 + 8) v) (nI k) (nI d) = _
    rw [h1]
    exact tb_at_n (w := 9) (c := d) hk hd (by omega) (by decide)
  have e2 : bk_rat B (nI k) (nI d) = (bk_r B).2 (k * 9 + d) := by
    unfold bk_rat
    rw [h1]
    exact tb_at_n (w := 9) (c := d) hk hd (by omega) (by decide)
  rw [e1, e2]
  by_cases hkn : k = i ∧ d = 8
  · obtain ⟨ha, hb⟩ := hkn
    subst ha
    subst hb
    rw [if_pos ⟨rfl, rfl⟩]
    exact pk_us
  · rw [if_neg hkn]
    exact pk_un (pl_ne hd (by decide) (by omega))
theorem lnw_at {B : Bk} {i k d : Nat} {v : Int32} (hL : nO B ≤ 16) (h1 : (bk_o B).1 = nI (nO B)) (hd : d < 2) (hk : k < nO B) : bk_oat (bk_now B, ((bk_o B).1, upd (bk_o B).2 (i * 2 + 1) v), bk_s B, bk_n B, bk_r B, bk_j B) (nI k) (nI d) = if k = i ∧ d = 1 then v else bk_oat B (nI k) (nI d) := by
  have e1 : bk_oat (bk_now B, ((bk_o B).1, upd (bk_o B).2 (i * 2 + 1) v), bk_s B, bk_n B, bk_r B, bk_j B) (nI k) (nI d) = upd (bk_o B).2 (i * 2 + 1) v (k * 2 + d) := by
    show tb_at 2 (bk_o B).1 (upd (bk_o B).2 (i * 2 + 1) v) (nI k) (nI d) = _
    rw [h1]
    exact tb_at_n (w := 2) (c := d) hk hd (by omega) (by decide)
  have e2 : bk_oat B (nI k) (nI d) = (bk_o B).2 (k * 2 + d) := by
    unfold bk_oat
    rw [h1]
    exact tb_at_n (w := 2) (c := d) hk hd (by omega) (by decide)
  rw [e1, e2]
  by_cases hkn : k = i ∧ d = 1
  · obtain ⟨ha, hb⟩ := hkn
    subst ha
    subst hb
    rw [if_pos ⟨rfl, rfl⟩]
    exact pk_us
  · rw [if_neg hkn]
    exact pk_un (pl_ne hd (by decide) (by omega))
theorem strk_step {B : Bk} {S : Md} {lm : Nat} (hok : bk_ok B lm) (hRB : RB B S) {i : Nat} (hi : i < nR B) {v mv : Int32} (hv : 0 ≤ v.toInt ∧ v.toInt ≤ 9999) (hm : mv = v) : bk_ok (bk_now B, bk_o B, bk_s B, bk_n B, ((bk_r B).1, upd (bk_r B).2 (i * 9 + 8) v), bk_j B) lm ∧ RB (bk_now B, bk_o B, bk_s B, bk_n B, ((bk_r B).1, upd (bk_r B).2 (i * 9 + 8) v), bk_j B) (md_ai S 21 (upd (S.2.2.1 21) i mv)) := by
  obtain ⟨hnow, ho, hs, hn, ⟨o1, o2, o3⟩, hj⟩ := id hok
  obtain ⟨⟨r1, r2, r3, r4, r5, r6⟩, ro, rs, rn, rr, rj⟩ := id hRB
  have a := fun k d hd hk => strk_at (B := B) (i := i) (k := k) (d := d) (v := v) o2 o1 hd hk
  generalize hB' : ((bk_now B, bk_o B, bk_s B, bk_n B, ((bk_r B).1, upd (bk_r B).2 (i * 9 + 8) v), bk_j B) : Bk) = B' at a ⊢
  have b0 : bk_now B' = bk_now B := by rw [← hB']; rfl
  have b1 : (bk_r B').1 = (bk_r B).1 := by rw [← hB']; rfl
  have n_r : nR B' = nR B := by unfold nR; rw [b1]
  have b_o : bk_o B' = bk_o B := by rw [← hB']; rfl
  have n_o : nO B' = nO B := by unfold nO; rw [b_o]
  have t_o : ∀ i c, bk_oat B' i c = bk_oat B i c := fun i c => by unfold bk_oat; rw [b_o]
  have b_s : bk_s B' = bk_s B := by rw [← hB']; rfl
  have n_s : nS B' = nS B := by unfold nS; rw [b_s]
  have t_s : ∀ i c, bk_sat B' i c = bk_sat B i c := fun i c => by unfold bk_sat; rw [b_s]
  have b_n : bk_n B' = bk_n B := by rw [← hB']; rfl
  have n_n : nN B' = nN B := by unfold nN; rw [b_n]
  have t_n : ∀ i c, bk_nat B' i c = bk_nat B i c := fun i c => by unfold bk_nat; rw [b_n]
  have b_j : bk_j B' = bk_j B := by rw [← hB']; rfl
  have n_j : nJ B' = nJ B := by unfold nJ; rw [b_j]
  have t_j : ∀ i c, bk_jat B' i c = bk_jat B i c := fun i c => by unfold bk_jat; rw [b_j]
  have a0 : ∀ k, k < nR B → bk_rat B' (nI k) 0 = bk_rat B (nI k) 0 := fun k hk => by
    have z := a k 0 (by decide) hk
    rw [if_neg (fun y => absurd y.2 (by decide))] at z
    exact z
  have a1 : ∀ k, k < nR B → bk_rat B' (nI k) 1 = bk_rat B (nI k) 1 := fun k hk => by
    have z := a k 1 (by decide) hk
    rw [if_neg (fun y => absurd y.2 (by decide))] at z
    exact z
  have a2 : ∀ k, k < nR B → bk_rat B' (nI k) 2 = bk_rat B (nI k) 2 := fun k hk => by
    have z := a k 2 (by decide) hk
    rw [if_neg (fun y => absurd y.2 (by decide))] at z
    exact z
  have a3 : ∀ k, k < nR B → bk_rat B' (nI k) 3 = bk_rat B (nI k) 3 := fun k hk => by
    have z := a k 3 (by decide) hk
    rw [if_neg (fun y => absurd y.2 (by decide))] at z
    exact z
  have a4 : ∀ k, k < nR B → bk_rat B' (nI k) 4 = bk_rat B (nI k) 4 := fun k hk => by
    have z := a k 4 (by decide) hk
    rw [if_neg (fun y => absurd y.2 (by decide))] at z
    exact z
  have a5 : ∀ k, k < nR B → bk_rat B' (nI k) 5 = bk_rat B (nI k) 5 := fun k hk => by
    have z := a k 5 (by decide) hk
    rw [if_neg (fun y => absurd y.2 (by decide))] at z
    exact z
  have a6 : ∀ k, k < nR B → bk_rat B' (nI k) 6 = bk_rat B (nI k) 6 := fun k hk => by
    have z := a k 6 (by decide) hk
    rw [if_neg (fun y => absurd y.2 (by decide))] at z
    exact z
  have a7 : ∀ k, k < nR B → bk_rat B' (nI k) 7 = bk_rat B (nI k) 7 := fun k hk => by
    have z := a k 7 (by decide) hk
    rw [if_neg (fun y => absurd y.2 (by decide))] at z
    exact z
  have a8 : ∀ k, k < nR B → bk_rat B' (nI k) 8 = if k = i then v else bk_rat B (nI k) 8 := fun k hk => by
    have z := a k 8 (by decide) hk
    by_cases e : k = i
    · rw [if_pos ⟨e, rfl⟩] at z
      rw [if_pos e]
      exact z
    · rw [if_neg (fun y => e y.1)] at z
      rw [if_neg e]
      exact z
  refine ⟨⟨by rw [b0]; exact hnow, ?_, ?_, ?_, ⟨by rw [b1, n_r]; exact o1, by rw [n_r]; exact o2, fun k hk => ?_⟩, ?_⟩, ⟨by rw [b0]; exact r1, by rw [b_o]; exact r2, by rw [b_s]; exact r3, by rw [b_n]; exact r4, by rw [b1]; exact r5, by rw [b_j]; exact r6⟩, fun k hk => ?_, fun k hk => ?_, fun k hk => ?_, fun k hk => ?_, fun k hk => ?_⟩
  · rw [b_o, n_o]
    refine ⟨ho.1, ho.2.1, fun k hk => ?_⟩
    have z := ho.2.2 k hk
    unfold ok_o at z ⊢
    simp only [t_o]
    exact z
  · rw [b_s, n_s]
    refine ⟨hs.1, hs.2.1, fun k hk => ?_⟩
    have z := hs.2.2 k hk
    unfold ok_s at z ⊢
    simp only [t_s]
    exact z
  · rw [b_n, n_n]
    refine ⟨hn.1, hn.2.1, fun k hk => ?_⟩
    have z := hn.2.2 k hk
    unfold ok_n at z ⊢
    simp only [t_n]
    exact z
  · rw [n_r] at hk
    have z := o3 k hk
    unfold ok_r at z ⊢
    rw [a0 k hk, a1 k hk, a2 k hk, a3 k hk, a4 k hk, a5 k hk, a6 k hk, a7 k hk, a8 k hk, n_n, n_s, n_o]
    by_cases e : k = i
    · rw [if_pos e]
      obtain ⟨z0, z1, z2, z3, z4, z5, z6, z7, z8, z9, z10, z11, z12, z13, z14, z15, -, -⟩ := z
      exact ⟨z0, z1, z2, z3, z4, z5, z6, z7, z8, z9, z10, z11, z12, z13, z14, z15, hv.1, by omega⟩
    · rw [if_neg e]
      exact z
  · rw [b_j, n_j]
    refine ⟨hj.1, hj.2.1, fun k hk => ?_⟩
    have z := hj.2.2 k hk
    unfold ok_j at z ⊢
    simp only [t_j, n_o]
    exact z
  · rw [n_o] at hk
    unfold rb_o
    simp only [t_o]
    exact ro k hk
  · rw [n_s] at hk
    unfold rb_s
    simp only [t_s]
    exact rs k hk
  · rw [n_n] at hk
    unfold rb_n
    simp only [t_n]
    exact rn k hk
  · rw [n_r] at hk
    have z := rr k hk
    unfold rb_r at z ⊢
    rw [a0 k hk, a1 k hk, a2 k hk, a3 k hk, a4 k hk, a5 k hk, a6 k hk, a7 k hk, a8 k hk]
    obtain ⟨z0, z1, z2, z3, z4, z5, z6, z7, z8⟩ := z
    refine ⟨z0, z1, z2, z3, z4, z5, z6, z7, ?_⟩
    show upd (S.2.2.1 21) i mv k = _
    by_cases e : k = i
    · subst e
      have hne : ¬ v = 10000 := fun y => by
        rw [y] at hv
        exact absurd hv.2 (by decide)
      rw [if_pos rfl, if_neg hne, hm]
      exact pk_us
    · rw [if_neg e, pk_un e]
      exact z8
  · rw [n_j] at hk
    unfold rb_j
    simp only [t_j]
    exact rj k hk
theorem lnw_step {B : Bk} {S : Md} {lm : Nat} (hok : bk_ok B lm) (hRB : RB B S) {i : Nat} (hi : i < nO B) {v mv : Int32} (hv : -1 ≤ v.toInt ∧ v.toInt < lm) (hm : mv = v) : bk_ok (bk_now B, ((bk_o B).1, upd (bk_o B).2 (i * 2 + 1) v), bk_s B, bk_n B, bk_r B, bk_j B) lm ∧ RB (bk_now B, ((bk_o B).1, upd (bk_o B).2 (i * 2 + 1) v), bk_s B, bk_n B, bk_r B, bk_j B) (md_ai S 7 (upd (S.2.2.1 7) i mv)) := by
  obtain ⟨hnow, ⟨o1, o2, o3⟩, hs, hn, hr, hj⟩ := id hok
  obtain ⟨⟨r1, r2, r3, r4, r5, r6⟩, ro, rs, rn, rr, rj⟩ := id hRB
  have a := fun k d hd hk => lnw_at (B := B) (i := i) (k := k) (d := d) (v := v) o2 o1 hd hk
  generalize hB' : ((bk_now B, ((bk_o B).1, upd (bk_o B).2 (i * 2 + 1) v), bk_s B, bk_n B, bk_r B, bk_j B) : Bk) = B' at a ⊢
  have b0 : bk_now B' = bk_now B := by rw [← hB']; rfl
  have b1 : (bk_o B').1 = (bk_o B).1 := by rw [← hB']; rfl
  have n_o : nO B' = nO B := by unfold nO; rw [b1]
  have b_s : bk_s B' = bk_s B := by rw [← hB']; rfl
  have n_s : nS B' = nS B := by unfold nS; rw [b_s]
  have t_s : ∀ i c, bk_sat B' i c = bk_sat B i c := fun i c => by unfold bk_sat; rw [b_s]
  have b_n : bk_n B' = bk_n B := by rw [← hB']; rfl
  have n_n : nN B' = nN B := by unfold nN; rw [b_n]
  have t_n : ∀ i c, bk_nat B' i c = bk_nat B i c := fun i c => by unfold bk_nat; rw [b_n]
  have b_r : bk_r B' = bk_r B := by rw [← hB']; rfl
  have n_r : nR B' = nR B := by unfold nR; rw [b_r]
  have t_r : ∀ i c, bk_rat B' i c = bk_rat B i c := fun i c => by unfold bk_rat; rw [b_r]
  have b_j : bk_j B' = bk_j B := by rw [← hB']; rfl
  have n_j : nJ B' = nJ B := by unfold nJ; rw [b_j]
  have t_j : ∀ i c, bk_jat B' i c = bk_jat B i c := fun i c => by unfold bk_jat; rw [b_j]
  have a0 : ∀ k, k < nO B → bk_oat B' (nI k) 0 = bk_oat B (nI k) 0 := fun k hk => by
    have z := a k 0 (by decide) hk
    rw [if_neg (fun y => absurd y.2 (by decide))] at z
    exact z
  have a1 : ∀ k, k < nO B → bk_oat B' (nI k) 1 = if k = i then v else bk_oat B (nI k) 1 := fun k hk => by
    have z := a k 1 (by decide) hk
    by_cases e : k = i
    · rw [if_pos ⟨e, rfl⟩] at z
      rw [if_pos e]
      exact z
    · rw [if_neg (fun y => e y.1)] at z
      rw [if_neg e]
      exact z
  refine ⟨⟨by rw [b0]; exact hnow, ⟨by rw [b1, n_o]; exact o1, by rw [n_o]; exact o2, fun k hk => ?_⟩, ?_, ?_, ?_, ?_⟩, ⟨by rw [b0]; exact r1, by rw [b1]; exact r2, by rw [b_s]; exact r3, by rw [b_n]; exact r4, by rw [b_r]; exact r5, by rw [b_j]; exact r6⟩, fun k hk => ?_, fun k hk => ?_, fun k hk => ?_, fun k hk => ?_, fun k hk => ?_⟩
  · rw [n_o] at hk
    have z := o3 k hk
    unfold ok_o at z ⊢
    rw [a0 k hk, a1 k hk]
    by_cases e : k = i
    · rw [if_pos e]
      exact ⟨z.1, z.2.1, hv.1, hv.2⟩
    · rw [if_neg e]
      exact z
  · rw [b_s, n_s]
    refine ⟨hs.1, hs.2.1, fun k hk => ?_⟩
    have z := hs.2.2 k hk
    unfold ok_s at z ⊢
    simp only [t_s]
    exact z
  · rw [b_n, n_n]
    refine ⟨hn.1, hn.2.1, fun k hk => ?_⟩
    have z := hn.2.2 k hk
    unfold ok_n at z ⊢
    simp only [t_n]
    exact z
  · rw [b_r, n_r]
    refine ⟨hr.1, hr.2.1, fun k hk => ?_⟩
    have z := hr.2.2 k hk
    unfold ok_r at z ⊢
    simp only [t_r, n_n, n_s, n_o]
    exact z
  · rw [b_j, n_j]
    refine ⟨hj.1, hj.2.1, fun k hk => ?_⟩
    have z := hj.2.2 k hk
    unfold ok_j at z ⊢
    simp only [t_j, n_o]
    exact z
  · rw [n_o] at hk
    have z := ro k hk
    unfold rb_o at z ⊢
    rw [a0 k hk, a1 k hk]
    refine ⟨z.1, ?_⟩
    show upd (S.2.2.1 7) i mv k = _
    by_cases e : k = i
    · subst e
      rw [if_pos rfl, hm]
      exact pk_us
    · rw [if_neg e, pk_un e]
      exact z.2
  · rw [n_s] at hk
    unfold rb_s
    simp only [t_s]
    exact rs k hk
  · rw [n_n] at hk
    unfold rb_n
    simp only [t_n]
    exact rn k hk
  · rw [n_r] at hk
    unfold rb_r
    simp only [t_r]
    exact rr k hk
  · rw [n_j] at hk
    unfold rb_j
    simp only [t_j]
    exact rj k hk
theorem al_strike {B : Bk} {S : Md} {lm : Nat} (hok : bk_ok B lm) (hRB : RB B S) (j : Int32) : ms_strike S j = xs_strike B j ∧ bk_ok (xs_strikeB B j) lm ∧ RB (xs_strikeB B j) (ms_strikeS S j) ∧ oth S (ms_strikeS S j) := by
  have hr := hok.2.2.2.2.1
  unfold ms_strike xs_strike xs_strikeB ms_strikeS
  rw [rb_rec hok hRB]
  by_cases c1 : tb_has (bk_r B).1 j = 0
  · rw [if_pos c1, if_pos c1, if_pos c1, if_pos c1]
    exact ⟨rfl, hok, hRB, oth.rf⟩
  · rw [if_neg c1, if_neg c1, if_neg c1, if_neg c1]
    have h4 := hr.2.1
    obtain ⟨i, hi, e⟩ := has_ex (n := nR B) (by omega) (by rw [← hr.1]; exact c1)
    subst e
    rw [nI_clamp (by omega)]
    have h9 : S.2.2.1 21 i = (if bk_rat B (nI i) 8 = 10000 then -1 else bk_rat B (nI i) 8) := (hRB.2.2.2.2.1 i hi).2.2.2.2.2.2.2.2
    have hz := hr.2.2 i hi
    by_cases c2 : bk_rat B (nI i) 8 = 10000
    · rw [if_pos c2] at h9
      rw [if_pos c2, if_pos h9, if_pos c2, if_pos h9]
      have e8 : tb_put 9 (bk_r B).1 (bk_r B).2 (nI i) 8 (bk_now B) = upd (bk_r B).2 (i * 9 + 8) (bk_now B) := by
        rw [hr.1]
        exact tb_put_n (w := 9) (c := 8) hi (by decide) h4 (by decide)
      rw [e8]
      have z := strk_step hok hRB hi (v := bk_now B) (mv := S.1 1) hok.1 hRB.1.1
      exact ⟨rfl, z.1, z.2, oth.ai (by decide)⟩
    · rw [if_neg c2] at h9
      have hne : ¬ S.2.2.1 21 i = -1 := fun y => by
        rw [h9] at y
        have z0 : 0 ≤ (bk_rat B (nI i) 8).toInt := hz.2.2.2.2.2.2.2.2.2.2.2.2.2.2.2.2.1
        rw [y] at z0
        exact absurd z0 (by decide)
      rw [if_neg c2, if_neg hne, if_neg c2, if_neg hne]
      exact ⟨rfl, hok, hRB, oth.rf⟩
theorem al_leans {B : Bk} {S : Md} {lm : Nat} (hok : bk_ok B lm) (hRB : RB B S) (hlm : lm ≤ 30) (hS : S.1 25 = nI lm) (o r : Int32) : ms_leans S o r = xs_leans B (nI lm) o r ∧ bk_ok (xs_leansB B (nI lm) o r) lm ∧ RB (xs_leansB B (nI lm) o r) (ms_leansS S o r) ∧ oth S (ms_leansS S o r) := by
  have ho := hok.2.1
  unfold ms_leans xs_leans xs_leansB ms_leansS
  rw [rb_obs hok hRB, hS, tbh_in (by omega)]
  by_cases c1 : tb_has (bk_o B).1 o = 0
  · rw [if_pos c1, if_pos c1, if_pos c1, if_pos c1]
    exact ⟨rfl, hok, hRB, oth.rf⟩
  · rw [if_neg c1, if_neg c1, if_neg c1, if_neg c1]
    have h4 := ho.2.1
    obtain ⟨i, hi, e⟩ := has_ex (n := nO B) (by omega) (by rw [← ho.1]; exact c1)
    subst e
    rw [nI_clamp (by omega)]
    have hp : (nI lm).toInt = lm := nI_toInt (by omega)
    have hq : (nI lm - 1).toInt = (lm : Int) - 1 := by
      rw [Int32.toInt_sub, hp]
      show Int.bmod ((lm : Int) - 1) (2 ^ 32) = _
      exact Int.bmod_eq_of_le (by omega) (by omega)
    have e1 : ∀ x : Int32, tb_put 2 (bk_o B).1 (bk_o B).2 (nI i) 1 x = upd (bk_o B).2 (i * 2 + 1) x := fun x => by
      rw [ho.1]
      exact tb_put_n (w := 2) (c := 1) hi (by decide) (by omega) (by decide)
    rw [e1]
    have hm1 : (-1 : Int32).toInt = -1 := rfl
    by_cases c2 : bi_in r (-1) (nI lm - 1) = 0
    · have hne : ¬ r = -1 := fun y => by
        subst y
        unfold bi_in at c2
        rw [if_neg (by rw [i32_lt]; omega), if_neg (by rw [i32_lt, hq, hm1]; omega)] at c2
        exact absurd c2 (by decide)
      have hh : tb_has (nI lm) r = 0 := Classical.byContradiction fun y => by
        obtain ⟨z1, z2⟩ := has_ok (n := lm) (by omega) y
        unfold bi_in at c2
        rw [if_neg (by rw [i32_lt, hm1]; omega), if_neg (by rw [i32_lt, hq]; omega)] at c2
        exact absurd c2 (by decide)
      rw [if_pos c2, if_neg hne, if_pos hh, if_pos c2, if_neg hne, if_pos hh]
      exact ⟨rfl, hok, hRB, oth.rf⟩
    · obtain ⟨y1, y2⟩ := bi_ok c2
      rw [hm1] at y1
      rw [hq] at y2
      have z := lnw_step hok hRB hi (v := r) (mv := r) ⟨y1, by omega⟩ rfl
      rw [if_neg c2, if_neg c2]
      by_cases c3 : r = -1
      · rw [if_pos c3, if_pos c3]
        exact ⟨rfl, z.1, z.2, oth.ai (by decide)⟩
      · have hh : ¬ tb_has (nI lm) r = 0 := fun y => by
          unfold tb_has at y
          have hr0 : ¬ r.toInt = -1 := fun w => c3 (Int32.toInt_inj.mp (w.trans hm1.symm))
          simp only [i32_lt, i32_le, i32_0, hp] at y
          split at y
          · omega
          · split at y
            · omega
            · exact absurd y (by decide)
        rw [if_neg c3, if_neg hh, if_neg c3, if_neg hh]
        exact ⟨rfl, z.1, z.2, oth.ai (by decide)⟩
theorem al_count {B : Bk} {S : Md} {tb lm : Int32} (hRB : RB B S) (h25 : S.1 25 = lm) (h22 : S.1 22 = tb) (k : Int32) : ms_count S k = xs_count B tb lm k := by
  obtain ⟨r1, r2, r3, r4, r5, r6⟩ := hRB.1
  unfold ms_count xs_count
  rw [r1, r2, r3, r4, r5, r6, h25, h22]
theorem al_end {S : Md} {k : Nat} (h22 : S.1 22 = nI k) (hk : k ≤ 400) (n : Int32) : ms_end S n = xs_end (nI k) n ∧ (ms_endS S n = S ∧ xs_endT (nI k) n = nI k ∨ ∃ m, m ≤ k ∧ n = nI m ∧ ms_endS S n = md_si S 22 (nI m) ∧ xs_endT (nI k) n = nI m) := by
  unfold ms_end xs_end ms_endS xs_endT bi_in
  rw [h22]
  have hp : (nI k).toInt = k := nI_toInt (by omega)
  by_cases c1 : n < 0
  · rw [if_pos c1, if_pos c1, if_pos c1, if_pos rfl, if_pos rfl]
    exact ⟨rfl, Or.inl ⟨rfl, rfl⟩⟩
  · rw [if_neg c1, if_neg c1, if_neg c1]
    by_cases c2 : nI k < n
    · have c3 : ¬ n ≤ nI k := by rw [i32_le]; rw [i32_lt] at c2; omega
      rw [if_pos c2, if_neg c3, if_neg c3, if_pos rfl, if_pos rfl]
      exact ⟨rfl, Or.inl ⟨rfl, rfl⟩⟩
    · have c3 : n ≤ nI k := by rw [i32_le]; rw [i32_lt] at c2; omega
      rw [if_neg c2, if_pos c3, if_pos c3, if_neg (by decide), if_neg (by decide)]
      simp only [i32_lt, i32_0, hp] at c1 c2
      obtain ⟨m, hm, e⟩ := i32_ex (x := n) (n := k + 1) (by omega) (by omega)
      exact ⟨rfl, Or.inr ⟨m, by omega, e, by rw [e], e⟩⟩
