/-! 34: the class's meetings are the model's -/
def rR (B : Bk) (k : Nat) : Int := (bk_red B (nI k)).toInt
def zc (B : Bk) (wk : Int32) (K : Int32 × Int32 × Int32) (o : Int32) : Nat := cN (ga B wk K.1 K.2.1 K.2.2 o) (nR B)
def zs (B : Bk) (wk : Int32) (K : Int32 × Int32 × Int32) (o : Int32) : Int := zS (ga B wk K.1 K.2.1 K.2.2 o) (rR B) (nR B)
def dK (B : Bk) (wk a b : Int32) (K : Int32 × Int32 × Int32) : Int := zdif (zs B wk K a) (zc B wk K a) (zs B wk K b) (zc B wk K b)
/-- at K both saw -/
def mK (B : Bk) (wk a b : Int32) (K : Int32 × Int32 × Int32) : Prop := ¬ a = b ∧ ¬ K.2.2 = 3 ∧ 0 < zc B wk K a ∧ 0 < zc B wk K b
theorem red_num {x y p : Int32} (h1 : -2147483648 ≤ x.toInt - (y.toInt - 2) * p.toInt) (h2 : x.toInt - (y.toInt - 2) * p.toInt ≤ 2147483647) : (x - (y - 2) * p).toInt = x.toInt - (y.toInt - 2) * p.toInt := by
  have e : x - (y - 2) * p = aI (x.toInt - (y.toInt - 2) * p.toInt) := by
    rw [← aI_sub, ← aI_mul, ← aI_sub, aI_to, aI_to, aI_to]; rfl
  rw [e, aI_int h1 h2]
theorem rR_b {B : Bk} {lm : Nat} (hok : bk_ok B lm) {k : Nat} (hk : k < nR B) : -10197 ≤ rR B k ∧ rR B k ≤ 10197 := by
  obtain ⟨-, -, ⟨-, hs, hss⟩, -, ⟨-, -, hr⟩, -⟩ := hok
  obtain ⟨-, -, r1, r2, t1, t2, -, -, -, -, e1, e2, -⟩ := hr k hk
  obtain ⟨s, s1, s2⟩ := i32_ex r1 r2
  obtain ⟨-, -, p1, p2, -⟩ := hss s s1
  have e : rR B k = (bk_rat B (nI k) 5).toInt - ((bk_rat B (nI k) 2).toInt - 2) * (bk_sat B (nI s) 1).toInt ∧ (((bk_rat B (nI k) 2).toInt - 2) * (bk_sat B (nI s) 1).toInt ≤ 198 ∧ -198 ≤ ((bk_rat B (nI k) 2).toInt - 2) * (bk_sat B (nI s) 1).toInt) := by
    have hb : ((bk_rat B (nI k) 2).toInt - 2) * (bk_sat B (nI s) 1).toInt ≤ 198 ∧ -198 ≤ ((bk_rat B (nI k) 2).toInt - 2) * (bk_sat B (nI s) 1).toInt := by
      generalize (bk_rat B (nI k) 2).toInt = t at *
      generalize (bk_sat B (nI s) 1).toInt = p at *
      have : t = 0 ∨ t = 1 ∨ t = 2 ∨ t = 3 ∨ t = 4 := by omega
      rcases this with h | h | h | h | h <;> subst h <;> omega
    refine ⟨?_, hb⟩
    unfold rR bk_red
    rw [s2]
    exact red_num (by omega) (by omega)
  omega
theorem a_cnt_zc (B : Bk) (wk : Int32) (K : Int32 × Int32 × Int32) (o : Int32) : a_cnt B wk K.1 K.2.1 K.2.2 o (nR B) = nI (zc B wk K o) := fI_cN _ _
theorem a_sum_zs (B : Bk) (wk : Int32) (K : Int32 × Int32 × Int32) (o : Int32) : a_sum B wk K.1 K.2.1 K.2.2 o (nR B) = aI (zs B wk K o) := fI_zS _
theorem b_sum_zs (B : Bk) (wk : Int32) (K : Int32 × Int32 × Int32) (o : Int32) : b_sum B wk K.1 K.2.1 K.2.2 o (nR B) = aL (zs B wk K o) := by
  unfold b_sum zs
  rw [fL_zS]
  congr 1
  refine zS_cong _ (fun _ _ => rfl) (fun k _ _ => ?_)
  show (bk_red B (nI k)).toInt64.toInt = _
  rw [Int32.toInt_toInt64]
  rfl
theorem zc_le (B : Bk) {lm : Nat} (hok : bk_ok B lm) (wk : Int32) (K : Int32 × Int32 × Int32) (o : Int32) : zc B wk K o ≤ 400 := Nat.le_trans (cN_le _ _) hok.2.2.2.2.1.2.1
theorem zs_b {B : Bk} {lm : Nat} (hok : bk_ok B lm) (wk : Int32) (K : Int32 × Int32 × Int32) (o : Int32) : -(10197 * (zc B wk K o : Int)) ≤ zs B wk K o ∧ zs B wk K o ≤ 10197 * (zc B wk K o : Int) := zS_b _ (fun _ hk => rR_b hok hk)
theorem dK_b {B : Bk} {lm : Nat} (hok : bk_ok B lm) {wk a b : Int32} {K : Int32 × Int32 × Int32} (ha : 0 < zc B wk K a) (hb : 0 < zc B wk K b) : -20394000 ≤ dK B wk a b K ∧ dK B wk a b K ≤ 20394000 := by
  have h1 := zs_b hok wk K a
  have h2 := zs_b hok wk K b
  have := zdif_b (M := 10197) (sa := zs B wk K a) (na := zc B wk K a) (sb := zs B wk K b) (nb := zc B wk K b) (by omega) (by omega) (by omega) (by omega) (by omega) (by omega) (by omega)
  unfold dK
  omega
theorem dif_num {B : Bk} {lm : Nat} (hok : bk_ok B lm) {wk a b : Int32} {K : Int32 × Int32 × Int32} (ha : 0 < zc B wk K a) (hb : 0 < zc B wk K b) :
    cl_less (aI (zs B wk K a)).toInt64 (nI (zc B wk K a)).toInt64 (aI (zs B wk K b)).toInt64 (nI (zc B wk K b)).toInt64 = aL (dK B wk a b K) ∧ ms_dif (aL (zs B wk K a)) (nI (zc B wk K a)) (aL (zs B wk K b)) (nI (zc B wk K b)) = aL (dK B wk a b K) := by
  have h1 := zs_b hok wk K a
  have h2 := zs_b hok wk K b
  have l1 := zc_le B hok wk K a
  have l2 := zc_le B hok wk K b
  have hz := zdif_b (M := 10197) (sa := zs B wk K a) (na := zc B wk K a) (sb := zs B wk K b) (nb := zc B wk K b) (by omega) (by omega) (by omega) (by omega) (by omega) (by omega) (by omega)
  have hm : ((zc B wk K a : Int) * (zc B wk K b : Int)) ≤ 160000 := by
    have : zc B wk K a * zc B wk K b ≤ 400 * 400 := Nat.mul_le_mul l1 l2
    have e : ((zc B wk K a : Int) * (zc B wk K b : Int)) = ((zc B wk K a * zc B wk K b : Nat) : Int) := by rw [Int.natCast_mul]
    omega
  rw [← aI_nat, ← aI_nat, aI_i2l (by omega) (by omega), aI_i2l (by omega) (by omega), aI_i2l (by omega) (by omega), aI_i2l (by omega) (by omega)]
  unfold cl_less ms_dif
  rw [aI_i2l (by omega) (by omega), aI_i2l (by omega) (by omega), show (1000 : Int64) = aL 1000 from rfl, aL_mul, aL_mul, aL_mul, aL_sub, aL_mul]
  have hne : ¬ aL ((zc B wk K a : Int) * (zc B wk K b : Int)) = 0 := by
    rw [show (0 : Int64) = aL 0 from rfl, aL_eq (by omega) (by omega) (by omega) (by omega)]
    omega
  rw [if_neg hne, aL_fd (by omega) (by omega) (by omega) (by omega), aL_fl (by omega) (by omega) (by omega) (by omega)]
  exact ⟨rfl, rfl⟩
/-- the key of a sight of the model -/
def kM (T : Md) (i : Nat) : Int32 × Int32 × Int32 := (T.2.2.1 42 i, T.2.2.1 43 i, T.2.2.1 44 i)
theorem cl_at_cell {B : Bk} {wk : Int32} {S : Md} {z c : Nat} (hG : GI B wk S (nR B) z) (hc : c < z) : S.2.2.1 8 c = nI (zc B wk (kC S c) (S.2.2.1 7 c)) ∧ S.2.2.1 10 c = aI (zs B wk (kC S c) (S.2.2.1 7 c)) := by
  obtain ⟨b1, -, b3, -⟩ := hG.2.2.2.2 c hc
  exact ⟨b1.trans (a_cnt_zc B wk (kC S c) _), b3.trans (a_sum_zs B wk (kC S c) _)⟩
theorem nI_z {n : Nat} (h : n < 2 ^ 31) : nI n = 0 ↔ n = 0 := ⟨fun z => nI_inj (b := 0) h (by decide) z, fun z => by rw [z]; rfl⟩
theorem nI_gt0 {n : Nat} (h : n < 2 ^ 31) : 0 < nI n ↔ 0 < n := by
  rw [show (0 : Int32) = aI 0 from rfl, ← aI_nat, aI_lt (by omega) (by omega) (by omega) (by omega)]
  omega
theorem zc_ex {B : Bk} {wk : Int32} {K : Int32 × Int32 × Int32} {o : Int32} (h : 0 < zc B wk K o) : ∃ k, k < nR B ∧ ¬ bk_known B (nI k) wk = 0 ∧ sk B k o K.1 K.2.1 K.2.2 := by
  obtain ⟨k, h1, h2⟩ := cN_ex _ h
  simp only [ga, decide_eq_true_eq] at h2
  exact ⟨k, h1, h2.1, h2.2.2.2.2, h2.2.1, h2.2.2.1, h2.2.2.2.1⟩
theorem zc_pos {B : Bk} {wk : Int32} {K : Int32 × Int32 × Int32} {o : Int32} {k : Nat} (h1 : k < nR B) (h2 : ¬ bk_known B (nI k) wk = 0) (h3 : sk B k o K.1 K.2.1 K.2.2) : 0 < zc B wk K o := by
  refine cN_pos (k := k) ?_ _ h1
  simp only [ga, decide_eq_true_eq]
  exact ⟨h2, h3.2.1, h3.2.2.1, h3.2.2.2, h3.1⟩
theorem cell_of {B : Bk} {wk : Int32} {S : Md} {z : Nat} (hG : GI B wk S (nR B) z) {K : Int32 × Int32 × Int32} {o : Int32} (h : 0 < zc B wk K o) : ∃ c, c < z ∧ kC S c = K ∧ S.2.2.1 7 c = o := by
  obtain ⟨k, h1, h2, h3⟩ := zc_ex h
  obtain ⟨c, c1, -, c3⟩ := (hG.2.2.2.1 k h1).1 h2
  exact ⟨c, c1, c3.1.trans (Prod.ext h3.2.1 (Prod.ext h3.2.2.1 h3.2.2.2)), c3.2.trans h3.1⟩
theorem cell_pos {B : Bk} {wk : Int32} {S : Md} {z c : Nat} (hG : GI B wk S (nR B) z) (hc : c < z) : 0 < zc B wk (kC S c) (S.2.2.1 7 c) := by
  obtain ⟨k, h1, h2, h3⟩ := hG.2.2.1 c hc
  have e := h3.1
  unfold kC rK at e
  simp only [Prod.mk.injEq] at e
  exact zc_pos h1 h2 ⟨h3.2.symm, e.1.symm, e.2.1.symm, e.2.2.symm⟩
theorem cell_inj {B : Bk} {wk : Int32} {S : Md} {z : Nat} (hG : GI B wk S (nR B) z) {c d : Nat} (hc : c < z) (hd : d < z) (e : kC S c = kC S d) (eo : S.2.2.1 7 c = S.2.2.1 7 d) : c = d := hG.1.2.2.2.2.2 c d hc hd e eo
/-- there is one of o in c's ring just where o saw -/
theorem mo_zc {B : Bk} {wk : Int32} {S : Md} {z c : Nat} {o : Int32} (hG : GI B wk S (nR B) z) : ¬ mo S z c o = -1 ↔ 0 < zc B wk (kC S c) o := by
  constructor
  · intro h
    rcases mo_cases S z c o with ⟨e, -⟩ | ⟨d, d1, -, d3, d4⟩
    · exact absurd e h
    · have := cell_pos hG d1
      rw [d3, d4] at this
      exact this
  · intro h
    obtain ⟨d, d1, d2, d3⟩ := cell_of hG h
    rw [mo_is hG.1 d1 d2 d3]
    exact nI_m1 (by have := hG.1.2.1; omega)
theorem mt_p_is {B : Bk} {lm : Nat} (_hok : bk_ok B lm) {wk : Int32} {S : Md} {z c k : Nat} (hG : GI B wk S (nR B) z) (hc : c < z) (hk : k < 256) : mt_p S z k c = true ↔ mK B wk (nI (k / 16)) (nI (k % 16)) (kC S c) ∧ S.2.2.1 7 c = nI (k / 16) := by
  unfold mt_p mK
  rw [decide_eq_true_eq, mo_zc hG]
  constructor
  · rintro ⟨a, b, c1, d⟩
    have hp := cell_pos hG hc
    rw [b] at hp
    exact ⟨⟨fun e => c1 (nI_inj (by omega) (by omega) e).symm, a, hp, d⟩, b⟩
  · rintro ⟨⟨a, b, -, d⟩, e⟩
    exact ⟨b, e, fun y => a (by rw [y]), d⟩
theorem sight_of {B : Bk} {wk : Int32} {T : Md} {q : Nat} (hS : SI B wk T (nR B) (nR B) q) {K : Int32 × Int32 × Int32} {o : Int32} (h : 0 < zc B wk K o) : ∃ c, c < q ∧ T.2.2.1 41 c = o ∧ kM T c = K := by
  obtain ⟨k, h1, h2, h3⟩ := zc_ex h
  obtain ⟨c, c1, -, c3⟩ := (hS.2.2.1 k h1).1 h2
  exact ⟨c, c1, c3.1.symm.trans h3.1, Prod.ext (c3.2.1.symm.trans h3.2.1) (Prod.ext (c3.2.2.1.symm.trans h3.2.2.1) (c3.2.2.2.symm.trans h3.2.2.2))⟩
theorem sight_pos {B : Bk} {wk : Int32} {T : Md} {q : Nat} (hS : SI B wk T (nR B) (nR B) q) {c : Nat} (hc : c < q) : 0 < zc B wk (kM T c) (T.2.2.1 41 c) := by
  obtain ⟨k, h1, h2, h3⟩ := hS.1 c hc
  exact zc_pos h1 h2 h3
theorem sight_inj {B : Bk} {wk : Int32} {T : Md} {q : Nat} (hS : SI B wk T (nR B) (nR B) q) {c d : Nat} (hc : c < q) (hd : d < q) (eo : T.2.2.1 41 c = T.2.2.1 41 d) (e : kM T c = kM T d) : c = d := by
  unfold kM at e
  simp only [Prod.mk.injEq] at e
  exact hS.2.1 c d hc hd eo e.1 e.2.1 e.2.2
theorem pair_lt {t q : Nat} (h : t < q * q) : t / q < q ∧ t % q < q := by
  have hq : 0 < q := by
    rcases Nat.eq_zero_or_pos q with e | e
    · subst e; omega
    · exact e
  exact ⟨Nat.div_lt_of_lt_mul h, Nat.mod_lt _ hq⟩
theorem mp_is {B : Bk} {wk : Int32} {T : Md} {q t k : Nat} (hS : SI B wk T (nR B) (nR B) q) (ht : t < q * q) (h : mp T q k t = true) : mK B wk (nI (k / 16)) (nI (k % 16)) (kM T (t / q)) ∧ kM T (t % q) = kM T (t / q) ∧ T.2.2.1 41 (t / q) = nI (k / 16) ∧ T.2.2.1 41 (t % q) = nI (k % 16) := by
  obtain ⟨l1, l2⟩ := pair_lt ht
  unfold mp ms_meet at h
  simp only [decide_eq_true_eq] at h
  obtain ⟨⟨a1, a2, a3, a4, a5⟩, a6, a7⟩ := h
  have ek : kM T (t % q) = kM T (t / q) := by unfold kM; rw [a2, a3, a4]
  have p1 := sight_pos hS l1
  have p2 := sight_pos hS l2
  rw [a6] at p1
  rw [a7, ek] at p2
  exact ⟨⟨fun e => a1 (by rw [a6, a7, e]), a5, p1, p2⟩, ek, a6, a7⟩
theorem pair_mk {i j q : Nat} (hj : j < q) : (i * q + j) / q = i ∧ (i * q + j) % q = j := by
  refine ⟨?_, ?_⟩
  · rw [Nat.mul_comm, Nat.mul_add_div (by omega), Nat.div_eq_of_lt hj, Nat.add_zero]
  · rw [Nat.mul_comm, Nat.mul_add_mod, Nat.mod_eq_of_lt hj]
theorem pair_bd {i j q : Nat} (hi : i < q) (hj : j < q) : i * q + j < q * q := by
  have : (i + 1) * q ≤ q * q := Nat.mul_le_mul_right q hi
  rw [Nat.add_mul] at this
  omega
/-- the same keys, in another order -/
theorem keys_perm {B : Bk} {lm : Nat} (hok : bk_ok B lm) {wk : Int32} {S T : Md} {z q k : Nat} (hG : GI B wk S (nR B) z) (hS : SI B wk T (nR B) (nR B) q) (hk : k < 256) : (lst (mt_p S z k) (kC S) z).Perm (lst (mp T q k) (fun t => kM T (t / q)) (q * q)) := by
  refine (List.perm_ext_iff_of_nodup ?_ ?_).2 (fun K => ?_)
  · exact lst_nodup _ (fun c d hc hd pc pd e => cell_inj hG hc hd e (((mt_p_is hok hG hc hk).1 pc).2.trans ((mt_p_is hok hG hd hk).1 pd).2.symm))
  · refine lst_nodup _ (fun t u ht hu pt pu e => ?_)
    obtain ⟨-, a2, a3, a4⟩ := mp_is hS ht pt
    obtain ⟨-, b2, b3, b4⟩ := mp_is hS hu pu
    obtain ⟨l1, l2⟩ := pair_lt ht
    obtain ⟨m1, m2⟩ := pair_lt hu
    have e1 := sight_inj hS l1 m1 (a3.trans b3.symm) e
    have e2 := sight_inj hS l2 m2 (a4.trans b4.symm) (a2.trans (e.trans b2.symm))
    have x1 := Nat.div_add_mod t q
    have x2 := Nat.div_add_mod u q
    rw [← e1, ← e2] at x2
    omega
  · rw [mem_lst, mem_lst]
    constructor
    · rintro ⟨c, hc, hp, e⟩
      have hm := ((mt_p_is hok hG hc hk).1 hp).1
      rw [e] at hm
      obtain ⟨h1, h2, h3, h4⟩ := hm
      obtain ⟨i, i1, i2, i3⟩ := sight_of hS h3
      obtain ⟨j, j1, j2, j3⟩ := sight_of hS h4
      obtain ⟨p1, p2⟩ := pair_mk (i := i) j1
      refine ⟨i * q + j, pair_bd i1 j1, ?_, by show kM T ((i * q + j) / q) = K; rw [p1]; exact i3⟩
      unfold mp ms_meet
      rw [p1, p2]
      simp only [decide_eq_true_eq]
      have e5 := i3.trans j3.symm
      unfold kM at e5 i3
      simp only [Prod.mk.injEq] at e5
      exact ⟨⟨by rw [i2, j2]; exact h1, e5.1, e5.2.1, e5.2.2, fun z => h2 (by rw [← i3]; exact z)⟩, i2, j2⟩
    · rintro ⟨t, ht, hp, e⟩
      obtain ⟨hm, -, -, -⟩ := mp_is hS ht hp
      rw [show kM T (t / q) = K from e] at hm
      obtain ⟨c, c1, c2, c3⟩ := cell_of hG hm.2.2.1
      exact ⟨c, c1, (mt_p_is hok hG c1 hk).2 ⟨by rw [c2]; exact hm, c3⟩, c2⟩
theorem diff_at {S : Md} {z c d : Nat} (hch : cl_ch S z) (hc : c < z) (hd : d < z) : cl_diff S (nI c) (nI d) = cl_less (S.2.2.1 10 c).toInt64 (S.2.2.1 8 c).toInt64 (S.2.2.1 10 d).toInt64 (S.2.2.1 8 d).toInt64 := by
  have hz4 := hch.2.1
  unfold cl_diff cl_lessM
  rw [has_1 hch.1 hz4 hc, has_1 hch.1 hz4 hd, if_neg (by decide), if_neg (by decide), if_neg (by decide), if_neg (by decide), nI_clamp (by omega), nI_clamp (by omega)]
theorem mc_d_is {B : Bk} {lm : Nat} (hok : bk_ok B lm) {wk : Int32} {S : Md} {z c k : Nat} (hG : GI B wk S (nR B) z) (hc : c < z) (_hk : k < 256) (hm : mK B wk (nI (k / 16)) (nI (k % 16)) (kC S c) ∧ S.2.2.1 7 c = nI (k / 16)) : mc_d S z c k = aL (dK B wk (nI (k / 16)) (nI (k % 16)) (kC S c)) := by
  obtain ⟨a1, a2⟩ := cl_at_cell hG hc
  obtain ⟨d, d1, d2, d3⟩ := cell_of hG hm.1.2.2.2
  obtain ⟨b1, b2⟩ := cl_at_cell hG d1
  unfold mc_d
  rw [mo_is hG.1 d1 d2 d3, diff_at hG.1 hc d1, a1, a2, b1, b2, d2, d3, hm.2]
  exact (dif_num hok hm.1.2.2.1 hm.1.2.2.2).1
theorem sight_num {B : Bk} {wk : Int32} {T : Md} {q c : Nat} (hS : SI B wk T (nR B) (nR B) q) (hc : c < q) : T.2.2.1 45 c = nI (zc B wk (kM T c) (T.2.2.1 41 c)) ∧ T.2.2.2 48 c = aL (zs B wk (kM T c) (T.2.2.1 41 c)) := by
  obtain ⟨b1, -, b3, -⟩ := hS.2.2.2 c hc
  exact ⟨b1.trans (a_cnt_zc B wk (kM T c) _), b3.trans (b_sum_zs B wk (kM T c) _)⟩
theorem mdf_is {B : Bk} {lm : Nat} (hok : bk_ok B lm) {wk : Int32} {T : Md} {q t k : Nat} (hS : SI B wk T (nR B) (nR B) q) (ht : t < q * q) (h : mp T q k t = true) : mdf T q t = aL (dK B wk (nI (k / 16)) (nI (k % 16)) (kM T (t / q))) := by
  obtain ⟨l1, l2⟩ := pair_lt ht
  obtain ⟨hm, ek, e1, e2⟩ := mp_is hS ht h
  obtain ⟨a1, a2⟩ := sight_num hS l1
  obtain ⟨b1, b2⟩ := sight_num hS l2
  unfold mdf
  rw [a1, a2, b1, b2, e1, e2, ek]
  exact (dif_num hok hm.2.2.1 hm.2.2.2).2
/-- the meetings' tallies of the class and of the model -/
def LM (B : Bk) (wk : Int32) (S : Md) (z k : Nat) : List Int := (lst (mt_p S z k) (kC S) z).map (dK B wk (nI (k / 16)) (nI (k % 16)))
theorem LM_b {B : Bk} {lm : Nat} (hok : bk_ok B lm) {wk : Int32} {S : Md} {z k : Nat} (hG : GI B wk S (nR B) z) (hk : k < 256) : ∀ x, x ∈ LM B wk S z k → -20394000 ≤ x ∧ x ≤ 20394000 := by
  intro x hx
  obtain ⟨K, h1, h2⟩ := List.mem_map.1 hx
  obtain ⟨c, c1, c2, c3⟩ := (mem_lst z).1 h1
  have hm := ((mt_p_is hok hG c1 hk).1 c2).1
  rw [c3] at hm
  rw [← h2]
  exact dK_b hok hm.2.2.1 hm.2.2.2
theorem mt_F_is {B : Bk} {lm : Nat} (hok : bk_ok B lm) {wk : Int32} {S : Md} {z k : Nat} (hG : GI B wk S (nR B) z) (hk : k < 256) : mt_F S z k = tyl (LM B wk S z k) := by
  have hz4 := hG.1.2.1
  unfold mt_F mt_G LM
  rw [ty_fold_l (M := 20394000) (d := fun c => dK B wk (nI (k / 16)) (nI (k % 16)) (kC S c)) (by decide) (by decide) z (by omega) (fun c hc hp => ?_)]
  · rw [lst_map (f := kC S) (g := dK B wk (nI (k / 16)) (nI (k % 16))) z (fun _ _ _ => rfl)]
  · have hm := (mt_p_is hok hG hc hk).1 hp
    exact ⟨mc_d_is hok hG hc hk hm, dK_b hok hm.1.2.2.1 hm.1.2.2.2⟩
theorem meet_same {B : Bk} {lm : Nat} (hok : bk_ok B lm) {wk : Int32} {S T : Md} {z q k : Nat} (hG : GI B wk S (nR B) z) (hS : SI B wk T (nR B) (nR B) q) (hq : q ≤ 400) (hk : k < 256) : mU T q k (q * q) = tyl (LM B wk S z k) := by
  have hqq : q * q ≤ 400 * 400 := Nat.mul_le_mul hq hq
  unfold mU
  rw [ty_fold_l (M := 20394000) (d := fun t => dK B wk (nI (k / 16)) (nI (k % 16)) (kM T (t / q))) (by decide) (by decide) (q * q) (by omega) (fun t ht hp => ?_)]
  · rw [lst_map (f := fun t => kM T (t / q)) (g := dK B wk (nI (k / 16)) (nI (k % 16))) (q * q) (fun _ _ _ => rfl)]
    exact tyl_perm ((keys_perm hok hG hS hk).map _).symm
  · obtain ⟨hm, -, -, -⟩ := mp_is hS ht hp
    exact ⟨mdf_is hok hS ht hp, dK_b hok hm.2.2.1 hm.2.2.2⟩
