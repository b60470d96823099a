/-! 24: Sights.enter, gather (walks laid by wip/whole/p24.py) -/
/-- sums over the places below n that p holds of -/
def fI (p : Nat → Bool) (v : Nat → Int32) : Nat → Int32
  | 0 => 0
  | n + 1 => if p n then fI p v n + v n else fI p v n
def fO (p : Nat → Bool) (v : Nat → Int32) : Nat → Int32
  | 0 => 0
  | n + 1 => if p n then fO p v n ||| v n else fO p v n
def fL (p : Nat → Bool) (v : Nat → Int64) : Nat → Int64
  | 0 => 0
  | n + 1 => if p n then fL p v n + v n else fL p v n
theorem fI_0 {p : Nat → Bool} {v : Nat → Int32} : ∀ {n : Nat}, (∀ k, k < n → p k = false) → fI p v n = 0
  | 0, _ => rfl
  | n + 1, h => by rw [fI, if_neg (by rw [h n (Nat.lt_succ_self n)]; decide)]; exact fI_0 fun k hk => h k (by omega)
theorem fO_0 {p : Nat → Bool} {v : Nat → Int32} : ∀ {n : Nat}, (∀ k, k < n → p k = false) → fO p v n = 0
  | 0, _ => rfl
  | n + 1, h => by rw [fO, if_neg (by rw [h n (Nat.lt_succ_self n)]; decide)]; exact fO_0 fun k hk => h k (by omega)
theorem fL_0 {p : Nat → Bool} {v : Nat → Int64} : ∀ {n : Nat}, (∀ k, k < n → p k = false) → fL p v n = 0
  | 0, _ => rfl
  | n + 1, h => by rw [fL, if_neg (by rw [h n (Nat.lt_succ_self n)]; decide)]; exact fL_0 fun k hk => h k (by omega)
/-- record k is known in wk, of this night, star, way, by this observer -/
def ga (B : Bk) (wk n s w o : Int32) (k : Nat) : Bool := decide (¬ bk_known B (nI k) wk = 0 ∧ bk_rat B (nI k) 0 = n ∧ bk_rat B (nI k) 1 = s ∧ bk_rat B (nI k) 4 = w ∧ bk_rat B (nI k) 3 = o)
def a_cnt (B : Bk) (wk n s w o : Int32) (i : Nat) : Int32 := fI (ga B wk n s w o) (fun _ => 1) i
def a_thr (B : Bk) (wk n s w o : Int32) (i : Nat) : Int32 := fO (ga B wk n s w o) (fun k => 1 <<< (bk_rat B (nI k) 2 &&& 31)) i
def a_sum (B : Bk) (wk n s w o : Int32) (i : Nat) : Int32 := fI (ga B wk n s w o) (fun k => bk_red B (nI k)) i
def a_sq (B : Bk) (wk n s w o : Int32) (i : Nat) : Int64 := fL (ga B wk n s w o) (fun k => (bk_red B (nI k)).toInt64 * (bk_red B (nI k)).toInt64) i
/-- a record's key -/
def rK (B : Bk) (k : Nat) : Int32 × Int32 × Int32 := (bk_rat B (nI k) 0, bk_rat B (nI k) 1, bk_rat B (nI k) 4)
def gm (B : Bk) (S : Md) (c k : Nat) : Prop := kC S c = rK B k ∧ S.2.2.1 7 c = bk_rat B (nI k) 3
/-- sums of the sights -/
def gsum (B : Bk) (wk : Int32) (S : Md) (i c : Nat) : Prop := S.2.2.1 8 c = a_cnt B wk (S.2.2.1 4 c) (S.2.2.1 5 c) (S.2.2.1 6 c) (S.2.2.1 7 c) i ∧ S.2.2.1 9 c = a_thr B wk (S.2.2.1 4 c) (S.2.2.1 5 c) (S.2.2.1 6 c) (S.2.2.1 7 c) i ∧ S.2.2.1 10 c = a_sum B wk (S.2.2.1 4 c) (S.2.2.1 5 c) (S.2.2.1 6 c) (S.2.2.1 7 c) i ∧ S.2.2.2 11 c = a_sq B wk (S.2.2.1 4 c) (S.2.2.1 5 c) (S.2.2.1 6 c) (S.2.2.1 7 c) i
/-- which sight is whose -/
def gof (B : Bk) (wk : Int32) (S : Md) (z k : Nat) : Prop := (¬ bk_known B (nI k) wk = 0 → ∃ c, c < z ∧ S.2.2.1 12 k = nI c ∧ gm B S c k) ∧ (bk_known B (nI k) wk = 0 → S.2.2.1 12 k = -1)
/-- the sights hold what is known of the records below i; the sight e may be without a record -/
def GJ (B : Bk) (wk : Int32) (S : Md) (i z e : Nat) : Prop := cl_ch S z ∧ (∀ c, c < z → (∃ n, n < 80 ∧ S.2.2.1 4 c = nI n) ∧ ∃ o, o < 16 ∧ S.2.2.1 7 c = nI o) ∧ (∀ c, c < z → c ≠ e → ∃ k, k < i ∧ ¬ bk_known B (nI k) wk = 0 ∧ gm B S c k) ∧ (∀ k, k < i → gof B wk S z k) ∧ ∀ c, c < z → gsum B wk S i c
def GI (B : Bk) (wk : Int32) (S : Md) (i z : Nat) : Prop := cl_ch S z ∧ (∀ c, c < z → (∃ n, n < 80 ∧ S.2.2.1 4 c = nI n) ∧ ∃ o, o < 16 ∧ S.2.2.1 7 c = nI o) ∧ (∀ c, c < z → ∃ k, k < i ∧ ¬ bk_known B (nI k) wk = 0 ∧ gm B S c k) ∧ (∀ k, k < i → gof B wk S z k) ∧ ∀ c, c < z → gsum B wk S i c
theorem GI.j {B : Bk} {wk : Int32} {S : Md} {i z : Nat} (h : GI B wk S i z) (e : Nat) : GJ B wk S i z e := ⟨h.1, h.2.1, fun c hc _ => h.2.2.1 c hc, h.2.2.2.1, h.2.2.2.2⟩
theorem ga_at {B : Bk} {wk : Int32} {S : Md} {c k : Nat} : ga B wk (S.2.2.1 4 c) (S.2.2.1 5 c) (S.2.2.1 6 c) (S.2.2.1 7 c) k = true ↔ ¬ bk_known B (nI k) wk = 0 ∧ gm B S c k := by
  simp only [ga, gm, kC, rK, decide_eq_true_eq, Prod.mk.injEq]
  constructor
  · rintro ⟨a, b, c, d, e⟩
    exact ⟨a, ⟨b.symm, c.symm, d.symm⟩, e.symm⟩
  · rintro ⟨a, ⟨b, c, d⟩, e⟩
    exact ⟨a, b.symm, c.symm, d.symm, e.symm⟩
theorem ch_keep {S T : Md} {z : Nat} (h : cl_ch S z) (h0 : T.1 = S.1) (ta : ∀ a, a ≠ 8 → a ≠ 9 → a ≠ 10 → a ≠ 12 → T.2.2.1 a = S.2.2.1 a) : cl_ch T z ∧ (∀ c, kC T c = kC S c) ∧ T.2.2.1 4 = S.2.2.1 4 ∧ T.2.2.1 5 = S.2.2.1 5 ∧ T.2.2.1 6 = S.2.2.1 6 ∧ T.2.2.1 7 = S.2.2.1 7 := by
  have a1 := ta 1 (by decide) (by decide) (by decide) (by decide)
  have a2 := ta 2 (by decide) (by decide) (by decide) (by decide)
  have a3 := ta 3 (by decide) (by decide) (by decide) (by decide)
  have a4 := ta 4 (by decide) (by decide) (by decide) (by decide)
  have a5 := ta 5 (by decide) (by decide) (by decide) (by decide)
  have a6 := ta 6 (by decide) (by decide) (by decide) (by decide)
  have a7 := ta 7 (by decide) (by decide) (by decide) (by decide)
  have hk : ∀ c, kC T c = kC S c := fun c => by unfold kC; rw [a4, a5, a6]
  have hs : ∀ c, sk2 T c = sk2 S c := fun c => by funext d; unfold sk2; rw [hk c, hk d]
  have hh : ∀ c, hdp T c = hdp S c := fun c => by unfold hdp; rw [hs c]
  refine ⟨?_, hk, a4, a5, a6, a7⟩
  unfold cl_ch
  rw [h0, a1, a2, a3, a4, a7]
  simp only [hk, hs, hh]
  exact h
theorem GJ_tail {B : Bk} {wk : Int32} {S T : Md} {i z c : Nat} (hG : GJ B wk S i z c) (hk : ¬ bk_known B (nI i) wk = 0) (hc : c < z) (hm : gm B S c i) (ht : tl_rel S T c i (bk_red B (nI i)) (bk_rat B (nI i) 2)) : GI B wk T (i + 1) z := by
  obtain ⟨hch, hni, hpo, hof, hag⟩ := hG
  obtain ⟨t1, ta, t12, t8, t9, t10, t11⟩ := ht
  obtain ⟨hcT, hkk, a4, a5, a6, a7⟩ := ch_keep hch t1 ta
  have hgm : ∀ d k, gm B T d k ↔ gm B S d k := fun d k => by unfold gm; rw [hkk d, a7]
  refine ⟨hcT, by rw [a4, a7]; exact hni, fun d hd => ?_, fun k hki => ?_, fun d hd => ?_⟩
  · by_cases e : d = c
    · subst e; exact ⟨i, Nat.lt_succ_self i, hk, (hgm _ _).2 hm⟩
    · obtain ⟨k, k1, k2, k3⟩ := hpo d hd e
      exact ⟨k, by omega, k2, (hgm _ _).2 k3⟩
  · unfold gof
    rw [t12]
    by_cases e : k = i
    · subst e
      exact ⟨fun _ => ⟨c, hc, pk_us, (hgm _ _).2 hm⟩, fun y => absurd y hk⟩
    · rw [pk_un e]
      obtain ⟨q1, q2⟩ := hof k (by omega)
      refine ⟨fun y => ?_, q2⟩
      obtain ⟨d, d1, d2, d3⟩ := q1 y
      exact ⟨d, d1, d2, (hgm _ _).2 d3⟩
  · have hga := ga_at (B := B) (wk := wk) (S := S) (c := d) (k := i)
    obtain ⟨b1, b2, b3, b4⟩ := hag d hd
    unfold gsum
    rw [a4, a5, a6, a7, t8, t9, t10, t11]
    unfold a_cnt a_thr a_sum a_sq at *
    rw [fI, fO, fI, fL]
    by_cases e : d = c
    · subst e
      have hg := hga.2 ⟨hk, hm⟩
      rw [if_pos hg, if_pos hg, if_pos hg, if_pos hg, pk_us, pk_us, pk_us, pk_uLs, b1, b2, b3, b4]
      exact ⟨rfl, rfl, rfl, rfl⟩
    · have hg : ¬ ga B wk (S.2.2.1 4 d) (S.2.2.1 5 d) (S.2.2.1 6 d) (S.2.2.1 7 d) i = true := fun y => by
        have y2 := (hga.1 y).2
        exact e (hch.2.2.2.2.2 d c hd hc (y2.1.trans hm.1.symm) (y2.2.trans hm.2.symm))
      rw [if_neg hg, if_neg hg, if_neg hg, if_neg hg, pk_un e, pk_un e, pk_un e, pk_uLn e]
      exact ⟨b1, b2, b3, b4⟩
theorem hd_uniq {S : Md} {c d : Nat} (hc : c < 400) (hd : d < 400) (h1 : hdp S c = true) (h2 : hdp S d = true) (e : kC S c = kC S d) : c = d := by
  have key : ∀ a b, a < b → b < 400 → hdp S b = true → kC S a = kC S b → False := fun a b hab hb hh he => by
    simp only [hdp, decide_eq_true_eq] at hh
    rcases lastc_cases (sk2 S b) b with ⟨-, hn⟩ | ⟨t, q1, q2, -, -⟩
    · have := hn a hab
      simp only [sk2, decide_eq_false_iff_not] at this
      exact this he
    · rw [q2] at hh
      exact nI_m1 (by omega) hh
  rcases Nat.lt_trichotomy c d with q | q | q
  · exact absurd (key c d q hd h2 e) id
  · exact q
  · exact absurd (key d c q hc h1 e.symm) id
theorem hd_ex {S : Md} : ∀ (n c : Nat), c < n → c < 400 → ∃ c0, c0 ≤ c ∧ kC S c0 = kC S c ∧ hdp S c0 = true
  | 0, c, h, _ => absurd h (Nat.not_lt_zero c)
  | n + 1, c, h, h4 => by
    by_cases hh : hdp S c = true
    · exact ⟨c, Nat.le_refl c, rfl, hh⟩
    · simp only [hdp, decide_eq_true_eq] at hh
      rcases lastc_cases (sk2 S c) c with ⟨e0, -⟩ | ⟨t, q1, -, q3, -⟩
      · exact absurd e0 hh
      · simp only [sk2, decide_eq_true_eq] at q3
        obtain ⟨c0, r1, r2, r3⟩ := hd_ex n t (by omega) (by omega)
        exact ⟨c0, by omega, r2.trans q3, r3⟩
theorem ch_new {S T : Md} {z nn : Nat} {K : Int32 × Int32 × Int32} {o : Int32} (hz : z < 400) (hch : cl_ch S z) (hnn : nn < 80) (hK : K.1 = nI nn) (h0 : T.1 0 = nI (z + 1)) (hk : ∀ c, c < z → kC T c = kC S c) (hkz : kC T z = K) (ho : ∀ c, c < z → T.2.2.1 7 c = S.2.2.1 7 c) (hoz : T.2.2.1 7 z = o) (hno : ∀ c, c < z → kC S c = K → ¬ S.2.2.1 7 c = o)
    (hcase : ((∀ c, c < z → ¬ kC S c = K) ∧ T.2.2.1 1 = upd (S.2.2.1 1) nn (nI z) ∧ T.2.2.1 2 = upd (S.2.2.1 2) z (S.2.2.1 1 nn) ∧ T.2.2.1 3 = upd (S.2.2.1 3) z (nI z)) ∨ ∃ c0, c0 < z ∧ kC S c0 = K ∧ hdp S c0 = true ∧ T.2.2.1 1 = S.2.2.1 1 ∧ T.2.2.1 2 = S.2.2.1 2 ∧ T.2.2.1 3 = upd (upd (S.2.2.1 3) z (S.2.2.1 3 c0)) c0 (nI z)) : cl_ch T (z + 1) := by
  have hsk : ∀ c d, c < z → d < z → sk2 T c d = sk2 S c d := fun c d hc hd => by unfold sk2; rw [hk c hc, hk d hd]
  have hhd : ∀ c, c < z → hdp T c = hdp S c := fun c hc => by unfold hdp; rw [lastc_cong (fun d hd => hsk c d hc (by omega))]
  have h4 : ∀ c, c < z → T.2.2.1 4 c = S.2.2.1 4 c := fun c hc => congrArg (·.1) (hk c hc)
  have h4z : T.2.2.1 4 z = nI nn := (congrArg (·.1) hkz).trans hK
  have huniq : ∀ c d, c < z + 1 → d < z + 1 → kC T c = kC T d → T.2.2.1 7 c = T.2.2.1 7 d → c = d := by
    intro c d hc hd e1 e2
    by_cases ec : c = z
    · by_cases ed : d = z
      · omega
      · subst ec
        rw [hkz, hk d (by omega)] at e1
        rw [hoz, ho d (by omega)] at e2
        exact absurd e2.symm (hno d (by omega) e1.symm)
    · by_cases ed : d = z
      · subst ed
        rw [hkz, hk c (by omega)] at e1
        rw [hoz, ho c (by omega)] at e2
        exact absurd e2 (hno c (by omega) e1)
      · rw [hk c (by omega), hk d (by omega)] at e1
        rw [ho c (by omega), ho d (by omega)] at e2
        exact hch.2.2.2.2.2 c d (by omega) (by omega) e1 e2
  rcases hcase with ⟨hK0, t1, t2, t3⟩ | ⟨c0, hc0, hK0, hh0, t1, t2, t3⟩
  · have hhz : hdp T z = true := by
      simp only [hdp, decide_eq_true_eq]
      refine lastc_none (fun d hd => ?_)
      simp only [sk2, decide_eq_false_iff_not]
      exact fun y => hK0 d hd (by rw [← hk d hd, y]; exact hkz)
    refine ⟨h0, by omega, fun n hn => ?_, fun c hc hh => ?_, fun c hc => ?_, huniq⟩
    · rw [t1, lastc]
      by_cases e : n = nn
      · subst e
        rw [pk_us, if_pos (by simp [h4z, hhz])]
      · rw [pk_un e, if_neg (by rw [h4z, Bool.and_eq_true, decide_eq_true_eq]; exact fun q => e ((nI_eq (by omega) (by omega)).mp q.1).symm), hch.2.2.1 n hn]
        exact lastc_cong fun c hc => by rw [h4 c hc, hhd c hc]
    · rw [t2]
      by_cases e : c = z
      · subst e
        rw [pk_us, h4z, hch.2.2.1 nn hnn]
        exact lastc_cong fun d hd => by rw [h4 d hd, hhd d hd]
      · have hcz : c < z := by omega
        rw [pk_un e, hch.2.2.2.1 c hcz (by rw [← hhd c hcz]; exact hh), h4 c hcz]
        exact lastc_cong fun d hd => by rw [h4 d (by omega), hhd d (by omega)]
    · rw [t3]
      by_cases e : c = z
      · subst e
        rw [pk_us, if_pos hhz, lastc, if_pos (by simp [sk2])]
      · have hcz : c < z := by omega
        have hzc : ¬ sk2 T c z = true := by
          simp only [sk2, decide_eq_true_eq]
          exact fun y => hK0 c hcz (by rw [← hk c hcz, ← y]; exact hkz)
        rw [pk_un e, hch.2.2.2.2.1 c hcz, hhd c hcz, lastc, if_neg hzc, lastc_cong (fun d hd => hsk c d hcz hd), lastc_cong (t := c) (fun d hd => hsk c d hcz (by omega))]
  · have hhz : ¬ hdp T z = true := by
      simp only [hdp, decide_eq_true_eq]
      intro y
      rcases lastc_cases (sk2 T z) z with ⟨-, hn⟩ | ⟨t, q1, q2, -, -⟩
      · have := hn c0 hc0
        simp only [sk2, decide_eq_false_iff_not] at this
        exact this (by rw [hk c0 hc0, hkz]; exact hK0)
      · rw [q2] at y
        exact nI_m1 (by omega) y
    have hhf : hdp T z = false := by simpa using hhz
    refine ⟨h0, by omega, fun n hn => ?_, fun c hc hh => ?_, fun c hc => ?_, huniq⟩
    · rw [t1, lastc, if_neg (by rw [hhf, Bool.and_false]; decide), hch.2.2.1 n hn]
      exact lastc_cong fun c hc => by rw [h4 c hc, hhd c hc]
    · rw [t2]
      by_cases e : c = z
      · subst e; exact absurd hh hhz
      · have hcz : c < z := by omega
        rw [hch.2.2.2.1 c hcz (by rw [← hhd c hcz]; exact hh), h4 c hcz]
        exact lastc_cong fun d hd => by rw [h4 d (by omega), hhd d (by omega)]
    · rw [t3]
      by_cases e : c = z
      · subst e
        rw [pk_un (by omega), pk_us, hch.2.2.2.2.1 c0 hc0, if_pos hh0, if_neg hhz]
        exact lastc_cong fun d hd => by unfold sk2; rw [hk d hd, hkz, hK0]
      · have hcz : c < z := by omega
        by_cases e2 : c = c0
        · subst e2
          rw [pk_us, hhd c hcz, if_pos hh0, lastc, if_pos (by simp only [sk2, decide_eq_true_eq]; rw [hkz, hk c hcz]; exact hK0.symm)]
        · rw [pk_un e2, pk_un e, hch.2.2.2.2.1 c hcz, hhd c hcz, lastc_cong (t := c) (fun d hd => hsk c d hcz (by omega))]
          by_cases q : hdp S c = true
          · have hzc : ¬ sk2 T c z = true := by
              simp only [sk2, decide_eq_true_eq]
              exact fun y => e2 (hd_uniq (by omega) (by omega) q hh0 (by rw [← hk c hcz, ← y, hkz]; exact hK0.symm))
            rw [if_pos q, if_pos q, lastc, if_neg hzc, lastc_cong (fun d hd => hsk c d hcz hd)]
          · rw [if_neg q, if_neg q]
theorem GJ_new {B : Bk} {wk : Int32} {S T1 T : Md} {i z nn o : Nat} (hz : z < 400) (hG : GI B wk S i z) (hnn : nn < 80) (en : bk_rat B (nI i) 0 = nI nn) (ho : o < 16) (eo : bk_rat B (nI i) 3 = nI o) (hno : ∀ c, c < z → ¬ gm B S c i) (hop : op_rel S T1 z (nI nn) (bk_rat B (nI i) 1) (bk_rat B (nI i) 4) (nI o))
    (hcase : ((∀ c, c < z → ¬ kC S c = rK B i) ∧ jn_on T1 T z nn) ∨ ∃ c0, c0 < z ∧ kC S c0 = rK B i ∧ hdp S c0 = true ∧ jn_in T1 T z c0) : GJ B wk T i (z + 1) z ∧ gm B T z i := by
  obtain ⟨hch, hni, hpo, hof, hag⟩ := hG
  obtain ⟨p0, p1, p2, p3, p4, p5, p6, p7, p8, p9, p10, p11, p12⟩ := hop
  have hT : T.1 = T1.1 ∧ (∀ a, a ≠ 1 → a ≠ 2 → a ≠ 3 → T.2.2.1 a = T1.2.2.1 a) ∧ T.2.2.2 = T1.2.2.2 := by
    rcases hcase with ⟨-, hj⟩ | ⟨c0, -, -, -, hj⟩
    · unfold jn_on at hj; subst hj
      exact ⟨rfl, fun a a1 a2 a3 => by simp [md_ai, va_up, a1, a2], rfl⟩
    · unfold jn_in at hj; subst hj
      exact ⟨rfl, fun a a1 a2 a3 => by simp [md_ai, va_up, a3], rfl⟩
  obtain ⟨q0, qa, qL⟩ := hT
  have t4 := (qa 4 (by decide) (by decide) (by decide)).trans p4
  have t5 := (qa 5 (by decide) (by decide) (by decide)).trans p5
  have t6 := (qa 6 (by decide) (by decide) (by decide)).trans p6
  have t7 := (qa 7 (by decide) (by decide) (by decide)).trans p7
  have t8 := (qa 8 (by decide) (by decide) (by decide)).trans p8
  have t9 := (qa 9 (by decide) (by decide) (by decide)).trans p9
  have t10 := (qa 10 (by decide) (by decide) (by decide)).trans p10
  have t12 := (qa 12 (by decide) (by decide) (by decide)).trans p12
  have t11 : T.2.2.2 11 = vp_updL (S.2.2.2 11) z 0 := by rw [qL]; exact p11
  have hk : ∀ c, c < z → kC T c = kC S c := fun c hc => by unfold kC; rw [t4, t5, t6, pk_un (by omega), pk_un (by omega), pk_un (by omega)]
  have hkz : kC T z = rK B i := by unfold kC rK; rw [t4, t5, t6, pk_us, pk_us, pk_us, en]
  have h7 : ∀ c, c < z → T.2.2.1 7 c = S.2.2.1 7 c := fun c hc => by rw [t7, pk_un (by omega)]
  have h7z : T.2.2.1 7 z = nI o := by rw [t7, pk_us]
  have hmz : gm B T z i := ⟨hkz, h7z.trans eo.symm⟩
  have hgm : ∀ c k, c < z → (gm B T c k ↔ gm B S c k) := fun c k hc => by unfold gm; rw [hk c hc, h7 c hc]
  refine ⟨⟨?_, fun c hc => ?_, fun c hc he => ?_, fun k hki => ?_, fun c hc => ?_⟩, hmz⟩
  · refine ch_new hz hch hnn (K := rK B i) (o := nI o) en (by rw [q0]; exact p0) hk hkz h7 h7z (fun c hc h1 h2 => hno c hc ⟨h1, h2.trans eo.symm⟩) ?_
    rcases hcase with ⟨hK0, hj⟩ | ⟨c0, r1, r2, r3, hj⟩
    · unfold jn_on at hj; subst hj
      refine Or.inl ⟨hK0, ?_, ?_, ?_⟩
      · simp [md_ai, va_up, p1]
      · simp [md_ai, va_up, p1, p2]
      · simp [md_ai, va_up, p3]
    · unfold jn_in at hj; subst hj
      refine Or.inr ⟨c0, r1, r2, r3, ?_, ?_, ?_⟩
      · simp [md_ai, va_up, p1]
      · simp [md_ai, va_up, p2]
      · simp only [md_ai, va_up, if_pos]
        rw [p3, pk_un (show c0 ≠ z by omega)]
        congr 1
        funext j
        by_cases e : j = z
        · subst e; rw [pk_us, pk_us]
        · rw [pk_un e, pk_un e, pk_un e]
  · by_cases e : c = z
    · subst e
      exact ⟨⟨nn, hnn, by rw [t4, pk_us]⟩, ⟨o, ho, h7z⟩⟩
    · rw [t4, pk_un e, h7 c (by omega)]; exact hni c (by omega)
  · obtain ⟨k, k1, k2, k3⟩ := hpo c (by omega)
    exact ⟨k, k1, k2, (hgm c k (by omega)).2 k3⟩
  · obtain ⟨q1, q2⟩ := hof k hki
    unfold gof
    rw [t12]
    refine ⟨fun y => ?_, q2⟩
    obtain ⟨d, d1, d2, d3⟩ := q1 y
    exact ⟨d, by omega, d2, (hgm d k d1).2 d3⟩
  · by_cases e : c = z
    · subst e
      have hz0 : ∀ k, k < i → ga B wk (T.2.2.1 4 c) (T.2.2.1 5 c) (T.2.2.1 6 c) (T.2.2.1 7 c) k = false := fun k hki => by
        cases hq : ga B wk (T.2.2.1 4 c) (T.2.2.1 5 c) (T.2.2.1 6 c) (T.2.2.1 7 c) k with
        | false => rfl
        | true =>
          exfalso
          obtain ⟨y1, y2⟩ := ga_at.1 hq
          obtain ⟨d, d1, -, d3⟩ := (hof k hki).1 y1
          exact hno d d1 ⟨d3.1.trans (y2.1.symm.trans hmz.1), d3.2.trans (y2.2.symm.trans hmz.2)⟩
      unfold gsum a_cnt a_thr a_sum a_sq
      rw [fI_0 hz0, fO_0 hz0, fI_0 hz0, fL_0 hz0, t8, t9, t10, t11, pk_us, pk_us, pk_us, pk_uLs]
      exact ⟨rfl, rfl, rfl, rfl⟩
    · have hcz : c < z := by omega
      unfold gsum
      rw [t4, t5, t6, t7, t8, t9, t10, t11, pk_un e, pk_un e, pk_un e, pk_un e, pk_un e, pk_un e, pk_un e, pk_uLn e]
      exact hag c hcz
theorem GI_12 {B : Bk} {wk : Int32} {S : Md} {i z : Nat} (j : Nat) (x : Int32) (hj : i ≤ j) (hG : GI B wk S i z) : GI B wk (md_ai S 12 (upd (S.2.2.1 12) j x)) i z := by
  obtain ⟨hch, hni, hpo, hof, hag⟩ := hG
  refine ⟨hch, hni, hpo, fun k hk => ?_, hag⟩
  show (_ → ∃ c, c < z ∧ upd (S.2.2.1 12) j x k = nI c ∧ gm B S c k) ∧ (_ → upd (S.2.2.1 12) j x k = -1)
  rw [pk_un (by omega)]
  exact hof k hk
theorem GI_skip {B : Bk} {wk : Int32} {S : Md} {i z : Nat} (hG : GI B wk S i z) (hk : bk_known B (nI i) wk = 0) : GI B wk (md_ai S 12 (upd (S.2.2.1 12) i (-1))) (i + 1) z := by
  obtain ⟨hch, hni, hpo, hof, hag⟩ := hG
  refine ⟨hch, hni, fun c hc => ?_, fun k hki => ?_, fun c hc => ?_⟩
  · obtain ⟨k, k1, k2, k3⟩ := hpo c hc
    exact ⟨k, by omega, k2, k3⟩
  · show (_ → ∃ c, c < z ∧ upd (S.2.2.1 12) i (-1) k = nI c ∧ gm B S c k) ∧ (_ → upd (S.2.2.1 12) i (-1) k = -1)
    by_cases e : k = i
    · subst e; exact ⟨fun q => absurd hk q, fun _ => pk_us⟩
    · rw [pk_un e]; exact hof k (by omega)
  · have hg : ¬ ga B wk (S.2.2.1 4 c) (S.2.2.1 5 c) (S.2.2.1 6 c) (S.2.2.1 7 c) i = true := fun y => (ga_at.1 y).1 hk
    obtain ⟨b1, b2, b3, b4⟩ := hag c hc
    unfold a_cnt a_thr a_sum a_sq at *
    refine ⟨?_, ?_, ?_, ?_⟩
    · show S.2.2.1 8 c = fI (ga B wk (S.2.2.1 4 c) (S.2.2.1 5 c) (S.2.2.1 6 c) (S.2.2.1 7 c)) _ (i + 1)
      rw [fI, if_neg hg]; exact b1
    · show S.2.2.1 9 c = fO (ga B wk (S.2.2.1 4 c) (S.2.2.1 5 c) (S.2.2.1 6 c) (S.2.2.1 7 c)) _ (i + 1)
      rw [fO, if_neg hg]; exact b2
    · show S.2.2.1 10 c = fI (ga B wk (S.2.2.1 4 c) (S.2.2.1 5 c) (S.2.2.1 6 c) (S.2.2.1 7 c)) _ (i + 1)
      rw [fI, if_neg hg]; exact b3
    · show S.2.2.2 11 c = fL (ga B wk (S.2.2.1 4 c) (S.2.2.1 5 c) (S.2.2.1 6 c) (S.2.2.1 7 c)) _ (i + 1)
      rw [fL, if_neg hg]; exact b4
/-- the rows of records are of nights and observers that are there -/
def bk_rows (B : Bk) : Prop := ∀ k : Nat, k < (bk_r B).1.toInt.toNat → (∃ n, n < 80 ∧ bk_rat B (nI k) 0 = nI n) ∧ ∃ o, o < 16 ∧ bk_rat B (nI k) 3 = nI o
set_option maxRecDepth 100000 in
set_option maxHeartbeats 4000000 in
theorem c_X2_enter {h : ai_H} {S : Md} {B : Bk} {wk : Int32} {i z : Nat} (hcl : cl_at h S) (hB : bk_at h 1 B) (hi : i < 400) (hzi : z ≤ i) (hG : GI B wk S i z) (hk : ¬ bk_known B (nI i) wk = 0) (hen : ∃ n, n < 80 ∧ bk_rat B (nI i) 0 = nI n) (heo : ∃ o, o < 16 ∧ bk_rat B (nI i) 3 = nI o) : ai_QM MX2_enter [.ref 22, .ref 1, .int (nI i)] h (fun r g => r = none ∧ xc h g ∧ ∃ T z', z' ≤ i + 1 ∧ GI B wk T (i + 1) z' ∧ cl_at g T) := by
  obtain ⟨nn, hnn, en⟩ := hen
  obtain ⟨o, ho, eo⟩ := heo
  have hz4 := hG.1.2.1
  refine qm_of (ls := [.ref 22, .ref 1, .int (nI i), .float 0, .float 0, .float 0, .float 0, .float 0, .float 0, .float 0, .float 0]) (by decide) (by simp [ai_en, Value.category]) (by rfl) ?_
  have hrk : rK B i = (nI nn, bk_rat B (nI i) 1, bk_rat B (nI i) 4) := by unfold rK; rw [en]
  rcases lastc_cases (cl_key S (nI nn) (bk_rat B (nI i) 1) (bk_rat B (nI i) 4)) z with ⟨e0, hno0⟩ | ⟨c0, hc0, e0, hpc, -⟩
  · have hnk : ∀ c, c < z → ¬ kC S c = rK B i := fun c hc y => by
      obtain ⟨d, d1, d2, d3⟩ := hd_ex (S := S) 400 c (by omega) (by omega)
      have := hno0 d (by omega)
      unfold cl_key at this
      rw [Bool.and_eq_false_iff, decide_eq_false_iff_not] at this
      rcases this with q | q
      · exact q (d2.trans (y.trans hrk))
      · rw [d3] at q; cases q
    have hno : ∀ c, c < z → ¬ gm B S c i := fun c hc q => hnk c hc q.1
    refine wq (fun _ _ kk => rs_aload_n (pc := 0) dX2_enter_0 rfl kk) ?_
    refine wq (fun _ _ kk => rs_getf (pc := 1) dX2_enter_1 fX2_53 (bk_lt hB (by decide)) hB.2.1 rfl kk) ?_
    refine wq (fun _ _ kk => rs_iload_n (pc := 4) dX2_enter_4 rfl kk) ?_
    refine wq (fun _ _ kk => rs_iconst (v := 0) (pc := 5) dX2_enter_5 rfl kk) ?_
    refine wq (fun _ _ kk => rs_callV (as := [_, _]) (pc := 6) dX2_enter_6 mk_X8_at mlX2_69 in_X8_at se_X8_at rfl (bk_lt hB (by decide)) hB.2.2.2.2.2.1.1 rfl rfl (Nat.le_of_ble_eq_true rfl) (c_X8_at (bk_lt hB (by decide)) hB.2.2.2.2.2.1.1 (bk_lt hB (by decide)) hB.2.2.2.2.2.1.2.1 hB.2.2.2.2.2.1.2.2 _ _) kk) ?_
    rw [show tb_at 9 (bk_r B).1 (bk_r B).2 (nI i) 0 = nI nn from en]
    refine wq (fun _ _ kk => wk_istn3 (pc := 9) dX2_enter_9 (by decide) rfl kk) ?_
    refine wq (fun _ _ kk => rs_aload_n (pc := 10) dX2_enter_10 rfl kk) ?_
    refine wq (fun _ _ kk => rs_getf (pc := 11) dX2_enter_11 fX2_53 (bk_lt hB (by decide)) hB.2.1 rfl kk) ?_
    refine wq (fun _ _ kk => rs_iload_n (pc := 14) dX2_enter_14 rfl kk) ?_
    refine wq (fun _ _ kk => rs_iconst (v := 1) (pc := 15) dX2_enter_15 rfl kk) ?_
    refine wq (fun _ _ kk => rs_callV (as := [_, _]) (pc := 16) dX2_enter_16 mk_X8_at mlX2_69 in_X8_at se_X8_at rfl (bk_lt hB (by decide)) hB.2.2.2.2.2.1.1 rfl rfl (Nat.le_of_ble_eq_true rfl) (c_X8_at (bk_lt hB (by decide)) hB.2.2.2.2.2.1.1 (bk_lt hB (by decide)) hB.2.2.2.2.2.1.2.1 hB.2.2.2.2.2.1.2.2 _ _) kk) ?_
    refine wq (fun _ _ kk => wk_ist4 (pc := 19) dX2_enter_19 (by decide) rfl kk) ?_
    refine wq (fun _ _ kk => rs_aload_n (pc := 21) dX2_enter_21 rfl kk) ?_
    refine wq (fun _ _ kk => rs_getf (pc := 22) dX2_enter_22 fX2_53 (bk_lt hB (by decide)) hB.2.1 rfl kk) ?_
    refine wq (fun _ _ kk => rs_iload_n (pc := 25) dX2_enter_25 rfl kk) ?_
    refine wq (fun _ _ kk => rs_iconst (v := 4) (pc := 26) dX2_enter_26 rfl kk) ?_
    refine wq (fun _ _ kk => rs_callV (as := [_, _]) (pc := 27) dX2_enter_27 mk_X8_at mlX2_69 in_X8_at se_X8_at rfl (bk_lt hB (by decide)) hB.2.2.2.2.2.1.1 rfl rfl (Nat.le_of_ble_eq_true rfl) (c_X8_at (bk_lt hB (by decide)) hB.2.2.2.2.2.1.1 (bk_lt hB (by decide)) hB.2.2.2.2.2.1.2.1 hB.2.2.2.2.2.1.2.2 _ _) kk) ?_
    refine wq (fun _ _ kk => wk_ist5 (pc := 30) dX2_enter_30 (by decide) rfl kk) ?_
    refine wq (fun _ _ kk => rs_aload_n (pc := 32) dX2_enter_32 rfl kk) ?_
    refine wq (fun _ _ kk => rs_getf (pc := 33) dX2_enter_33 fX2_53 (bk_lt hB (by decide)) hB.2.1 rfl kk) ?_
    refine wq (fun _ _ kk => rs_iload_n (pc := 36) dX2_enter_36 rfl kk) ?_
    refine wq (fun _ _ kk => rs_iconst (v := 3) (pc := 37) dX2_enter_37 rfl kk) ?_
    refine wq (fun _ _ kk => rs_callV (as := [_, _]) (pc := 38) dX2_enter_38 mk_X8_at mlX2_69 in_X8_at se_X8_at rfl (bk_lt hB (by decide)) hB.2.2.2.2.2.1.1 rfl rfl (Nat.le_of_ble_eq_true rfl) (c_X8_at (bk_lt hB (by decide)) hB.2.2.2.2.2.1.1 (bk_lt hB (by decide)) hB.2.2.2.2.2.1.2.1 hB.2.2.2.2.2.1.2.2 _ _) kk) ?_
    rw [show tb_at 9 (bk_r B).1 (bk_r B).2 (nI i) 3 = nI o from eo]
    refine wq (fun _ _ kk => wk_ist6 (pc := 41) dX2_enter_41 (by decide) rfl kk) ?_
    refine wq (fun _ _ kk => rs_aload_n (pc := 43) dX2_enter_43 rfl kk) ?_
    refine wq (fun _ _ kk => rs_iload_n (pc := 44) dX2_enter_44 rfl kk) ?_
    refine wq (fun _ _ kk => rs_iload (pc := 45) dX2_enter_45 rfl kk) ?_
    refine wq (fun _ _ kk => rs_iload (pc := 47) dX2_enter_47 rfl kk) ?_
    refine wq (fun _ _ kk => rs_callV (as := [_, _, _]) (pc := 49) dX2_enter_49 mk_X2_find mlX2_73 in_X2_find se_X2_find rfl (mo_lt hcl (by decide)) hcl.2.1 rfl rfl (Nat.le_of_ble_eq_true rfl) (c_X2_find hcl hG.1 hnn _ _) kk) ?_
    rw [show lastc (cl_key S (nI nn) (tb_at 9 (bk_r B).1 (bk_r B).2 (nI i) 1) (tb_at 9 (bk_r B).1 (bk_r B).2 (nI i) 4)) z = _ from e0]
    refine wq (fun _ _ kk => wk_ist7 (pc := 52) dX2_enter_52 (by decide) rfl kk) ?_
    refine wq (fun _ _ kk => rs_aload_n (pc := 54) dX2_enter_54 rfl kk) ?_
    refine wq (fun _ _ kk => rs_iload (pc := 55) dX2_enter_55 rfl kk) ?_
    refine wq (fun _ _ kk => rs_iload (pc := 57) dX2_enter_57 rfl kk) ?_
    refine wq (fun _ _ kk => rs_callV (as := [_, _]) (pc := 59) dX2_enter_59 mk_X2_ringed mlX2_77 in_X2_ringed se_X2_ringed rfl (mo_lt hcl (by decide)) hcl.2.1 rfl rfl (Nat.le_of_ble_eq_true rfl) (c_X2_ringed0 hcl _) kk) ?_
    refine wq (fun _ _ kk => wk_ist8 (pc := 62) dX2_enter_62 (by decide) rfl kk) ?_
    refine wq (fun _ _ kk => rs_iload (pc := 64) dX2_enter_64 rfl kk) ?_
    refine wq (fun _ _ kk => rs_iconst (v := -1) (pc := 66) dX2_enter_66 rfl kk) ?_
    refine wq_bn (fun _ _ kt kf => rs_icmp_ne (tgt := 91) (pc := 67) dX2_enter_67 rfl kt kf) (fun c_67 => absurd c_67 (fun y => y rfl)) (fun c_67 => ?_)
    refine wq (fun _ _ kk => rs_aload_n (pc := 70) dX2_enter_70 rfl kk) ?_
    refine wq (fun _ _ kk => rs_iload_n (pc := 71) dX2_enter_71 rfl kk) ?_
    refine wq (fun _ _ kk => rs_iload (pc := 72) dX2_enter_72 rfl kk) ?_
    refine wq (fun _ _ kk => rs_iload (pc := 74) dX2_enter_74 rfl kk) ?_
    refine wq (fun _ _ kk => rs_iload (pc := 76) dX2_enter_76 rfl kk) ?_
    obtain ⟨rv_78, hc_78, ⟨rfl, ee_78, T1, hop, hcl_78⟩, hm_78⟩ := c_X2_open hcl hG.1.1 (show z < 400 by omega) (nI nn) (bk_rat B (nI i) 1) (bk_rat B (nI i) 4) (nI o)
    refine wq (fun _ _ kk => rs_callV (as := [_, _, _, _]) (pc := 78) dX2_enter_78 mk_X2_open mlX2_80 in_X2_open se_X2_open rfl (mo_lt hcl (by decide)) hcl.2.1 rfl rfl (Nat.le_of_ble_eq_true rfl) (hm_78) kk) ?_
    replace hcl := hcl_78
    replace hB := hB.keep ee_78.1 (fun j _ _ => ee_78.2.2 j (by omega))
    refine wq (fun _ _ kk => wk_ist8 (pc := 81) dX2_enter_81 (by decide) rfl kk) ?_
    refine wq (fun _ _ kk => rs_aload_n (pc := 83) dX2_enter_83 rfl kk) ?_
    refine wq (fun _ _ kk => rs_iload (pc := 84) dX2_enter_84 rfl kk) ?_
    refine wq (fun _ _ kk => rs_iload (pc := 86) dX2_enter_86 rfl kk) ?_
    obtain ⟨rv_88, hc_88, ⟨rfl, ee_88, T2, hjn, hcl_88⟩, hm_88⟩ := c_X2_join_on hcl hop.1 (by omega) hnn (by rw [hop.2.2.2.2.1, pk_us])
    refine wq (fun _ _ kk => rs_callV (as := [_, _]) (pc := 88) dX2_enter_88 mk_X2_join mlX2_84 in_X2_join se_X2_join rfl (mo_lt hcl (by decide)) hcl.2.1 rfl rfl (Nat.le_of_ble_eq_true rfl) (hm_88) kk) ?_
    replace hcl := hcl_88
    replace hB := hB.keep ee_88.1 (fun j _ _ => ee_88.2.2 j (by omega))
    obtain ⟨hG1, hmz⟩ := GJ_new (show z < 400 by omega) hG hnn en ho eo hno hop (Or.inl ⟨hnk, hjn⟩)
    refine wq_mono ?_ (t_X2_enter (ee_78.trans ee_88) hcl hB hG1.1.1 hG1.1.2.1 (Nat.lt_succ_self z) hi _ _ _ _ _)
    rintro r g ⟨h1, h2, T, h3, h4⟩
    exact ⟨h1, h2, T, z + 1, by omega, GJ_tail hG1 hk (Nat.lt_succ_self z) hmz h3, h4⟩
  · unfold cl_key at hpc
    rw [Bool.and_eq_true, decide_eq_true_eq] at hpc
    obtain ⟨hpk, hh0⟩ := hpc
    have hK0 : kC S c0 = rK B i := hpk.trans hrk.symm
    rcases mo_cases S z c0 (nI o) with ⟨e1, hnn0⟩ | ⟨d, hd1, e1, hd3, hd4⟩
    · have hno : ∀ c, c < z → ¬ gm B S c i := fun c hc q => hnn0 c hc (q.1.trans hK0.symm) (q.2.trans eo)
      refine wq (fun _ _ kk => rs_aload_n (pc := 0) dX2_enter_0 rfl kk) ?_
      refine wq (fun _ _ kk => rs_getf (pc := 1) dX2_enter_1 fX2_53 (bk_lt hB (by decide)) hB.2.1 rfl kk) ?_
      refine wq (fun _ _ kk => rs_iload_n (pc := 4) dX2_enter_4 rfl kk) ?_
      refine wq (fun _ _ kk => rs_iconst (v := 0) (pc := 5) dX2_enter_5 rfl kk) ?_
      refine wq (fun _ _ kk => rs_callV (as := [_, _]) (pc := 6) dX2_enter_6 mk_X8_at mlX2_69 in_X8_at se_X8_at rfl (bk_lt hB (by decide)) hB.2.2.2.2.2.1.1 rfl rfl (Nat.le_of_ble_eq_true rfl) (c_X8_at (bk_lt hB (by decide)) hB.2.2.2.2.2.1.1 (bk_lt hB (by decide)) hB.2.2.2.2.2.1.2.1 hB.2.2.2.2.2.1.2.2 _ _) kk) ?_
      rw [show tb_at 9 (bk_r B).1 (bk_r B).2 (nI i) 0 = nI nn from en]
      refine wq (fun _ _ kk => wk_istn3 (pc := 9) dX2_enter_9 (by decide) rfl kk) ?_
      refine wq (fun _ _ kk => rs_aload_n (pc := 10) dX2_enter_10 rfl kk) ?_
      refine wq (fun _ _ kk => rs_getf (pc := 11) dX2_enter_11 fX2_53 (bk_lt hB (by decide)) hB.2.1 rfl kk) ?_
      refine wq (fun _ _ kk => rs_iload_n (pc := 14) dX2_enter_14 rfl kk) ?_
      refine wq (fun _ _ kk => rs_iconst (v := 1) (pc := 15) dX2_enter_15 rfl kk) ?_
      refine wq (fun _ _ kk => rs_callV (as := [_, _]) (pc := 16) dX2_enter_16 mk_X8_at mlX2_69 in_X8_at se_X8_at rfl (bk_lt hB (by decide)) hB.2.2.2.2.2.1.1 rfl rfl (Nat.le_of_ble_eq_true rfl) (c_X8_at (bk_lt hB (by decide)) hB.2.2.2.2.2.1.1 (bk_lt hB (by decide)) hB.2.2.2.2.2.1.2.1 hB.2.2.2.2.2.1.2.2 _ _) kk) ?_
      refine wq (fun _ _ kk => wk_ist4 (pc := 19) dX2_enter_19 (by decide) rfl kk) ?_
      refine wq (fun _ _ kk => rs_aload_n (pc := 21) dX2_enter_21 rfl kk) ?_
      refine wq (fun _ _ kk => rs_getf (pc := 22) dX2_enter_22 fX2_53 (bk_lt hB (by decide)) hB.2.1 rfl kk) ?_
      refine wq (fun _ _ kk => rs_iload_n (pc := 25) dX2_enter_25 rfl kk) ?_
      refine wq (fun _ _ kk => rs_iconst (v := 4) (pc := 26) dX2_enter_26 rfl kk) ?_
      refine wq (fun _ _ kk => rs_callV (as := [_, _]) (pc := 27) dX2_enter_27 mk_X8_at mlX2_69 in_X8_at se_X8_at rfl (bk_lt hB (by decide)) hB.2.2.2.2.2.1.1 rfl rfl (Nat.le_of_ble_eq_true rfl) (c_X8_at (bk_lt hB (by decide)) hB.2.2.2.2.2.1.1 (bk_lt hB (by decide)) hB.2.2.2.2.2.1.2.1 hB.2.2.2.2.2.1.2.2 _ _) kk) ?_
      refine wq (fun _ _ kk => wk_ist5 (pc := 30) dX2_enter_30 (by decide) rfl kk) ?_
      refine wq (fun _ _ kk => rs_aload_n (pc := 32) dX2_enter_32 rfl kk) ?_
      refine wq (fun _ _ kk => rs_getf (pc := 33) dX2_enter_33 fX2_53 (bk_lt hB (by decide)) hB.2.1 rfl kk) ?_
      refine wq (fun _ _ kk => rs_iload_n (pc := 36) dX2_enter_36 rfl kk) ?_
      refine wq (fun _ _ kk => rs_iconst (v := 3) (pc := 37) dX2_enter_37 rfl kk) ?_
      refine wq (fun _ _ kk => rs_callV (as := [_, _]) (pc := 38) dX2_enter_38 mk_X8_at mlX2_69 in_X8_at se_X8_at rfl (bk_lt hB (by decide)) hB.2.2.2.2.2.1.1 rfl rfl (Nat.le_of_ble_eq_true rfl) (c_X8_at (bk_lt hB (by decide)) hB.2.2.2.2.2.1.1 (bk_lt hB (by decide)) hB.2.2.2.2.2.1.2.1 hB.2.2.2.2.2.1.2.2 _ _) kk) ?_
      rw [show tb_at 9 (bk_r B).1 (bk_r B).2 (nI i) 3 = nI o from eo]
      refine wq (fun _ _ kk => wk_ist6 (pc := 41) dX2_enter_41 (by decide) rfl kk) ?_
      refine wq (fun _ _ kk => rs_aload_n (pc := 43) dX2_enter_43 rfl kk) ?_
      refine wq (fun _ _ kk => rs_iload_n (pc := 44) dX2_enter_44 rfl kk) ?_
      refine wq (fun _ _ kk => rs_iload (pc := 45) dX2_enter_45 rfl kk) ?_
      refine wq (fun _ _ kk => rs_iload (pc := 47) dX2_enter_47 rfl kk) ?_
      refine wq (fun _ _ kk => rs_callV (as := [_, _, _]) (pc := 49) dX2_enter_49 mk_X2_find mlX2_73 in_X2_find se_X2_find rfl (mo_lt hcl (by decide)) hcl.2.1 rfl rfl (Nat.le_of_ble_eq_true rfl) (c_X2_find hcl hG.1 hnn _ _) kk) ?_
      rw [show lastc (cl_key S (nI nn) (tb_at 9 (bk_r B).1 (bk_r B).2 (nI i) 1) (tb_at 9 (bk_r B).1 (bk_r B).2 (nI i) 4)) z = _ from e0]
      refine wq (fun _ _ kk => wk_ist7 (pc := 52) dX2_enter_52 (by decide) rfl kk) ?_
      refine wq (fun _ _ kk => rs_aload_n (pc := 54) dX2_enter_54 rfl kk) ?_
      refine wq (fun _ _ kk => rs_iload (pc := 55) dX2_enter_55 rfl kk) ?_
      refine wq (fun _ _ kk => rs_iload (pc := 57) dX2_enter_57 rfl kk) ?_
      refine wq (fun _ _ kk => rs_callV (as := [_, _]) (pc := 59) dX2_enter_59 mk_X2_ringed mlX2_77 in_X2_ringed se_X2_ringed rfl (mo_lt hcl (by decide)) hcl.2.1 rfl rfl (Nat.le_of_ble_eq_true rfl) (c_X2_ringed hcl hG.1 hc0 _) kk) ?_
      rw [e1]
      refine wq (fun _ _ kk => wk_ist8 (pc := 62) dX2_enter_62 (by decide) rfl kk) ?_
      refine wq (fun _ _ kk => rs_iload (pc := 64) dX2_enter_64 rfl kk) ?_
      refine wq (fun _ _ kk => rs_iconst (v := -1) (pc := 66) dX2_enter_66 rfl kk) ?_
      refine wq_bn (fun _ _ kt kf => rs_icmp_ne (tgt := 91) (pc := 67) dX2_enter_67 rfl kt kf) (fun c_67 => absurd c_67 (fun y => y rfl)) (fun c_67 => ?_)
      refine wq (fun _ _ kk => rs_aload_n (pc := 70) dX2_enter_70 rfl kk) ?_
      refine wq (fun _ _ kk => rs_iload_n (pc := 71) dX2_enter_71 rfl kk) ?_
      refine wq (fun _ _ kk => rs_iload (pc := 72) dX2_enter_72 rfl kk) ?_
      refine wq (fun _ _ kk => rs_iload (pc := 74) dX2_enter_74 rfl kk) ?_
      refine wq (fun _ _ kk => rs_iload (pc := 76) dX2_enter_76 rfl kk) ?_
      obtain ⟨rv_78, hc_78, ⟨rfl, ee_78, T1, hop, hcl_78⟩, hm_78⟩ := c_X2_open hcl hG.1.1 (show z < 400 by omega) (nI nn) (bk_rat B (nI i) 1) (bk_rat B (nI i) 4) (nI o)
      refine wq (fun _ _ kk => rs_callV (as := [_, _, _, _]) (pc := 78) dX2_enter_78 mk_X2_open mlX2_80 in_X2_open se_X2_open rfl (mo_lt hcl (by decide)) hcl.2.1 rfl rfl (Nat.le_of_ble_eq_true rfl) (hm_78) kk) ?_
      replace hcl := hcl_78
      replace hB := hB.keep ee_78.1 (fun j _ _ => ee_78.2.2 j (by omega))
      refine wq (fun _ _ kk => wk_ist8 (pc := 81) dX2_enter_81 (by decide) rfl kk) ?_
      refine wq (fun _ _ kk => rs_aload_n (pc := 83) dX2_enter_83 rfl kk) ?_
      refine wq (fun _ _ kk => rs_iload (pc := 84) dX2_enter_84 rfl kk) ?_
      refine wq (fun _ _ kk => rs_iload (pc := 86) dX2_enter_86 rfl kk) ?_
      obtain ⟨rv_88, hc_88, ⟨rfl, ee_88, T2, hjn, hcl_88⟩, hm_88⟩ := c_X2_join_in hcl hop.1 (by omega) hc0
      refine wq (fun _ _ kk => rs_callV (as := [_, _]) (pc := 88) dX2_enter_88 mk_X2_join mlX2_84 in_X2_join se_X2_join rfl (mo_lt hcl (by decide)) hcl.2.1 rfl rfl (Nat.le_of_ble_eq_true rfl) (hm_88) kk) ?_
      replace hcl := hcl_88
      replace hB := hB.keep ee_88.1 (fun j _ _ => ee_88.2.2 j (by omega))
      obtain ⟨hG1, hmz⟩ := GJ_new (show z < 400 by omega) hG hnn en ho eo hno hop (Or.inr ⟨c0, hc0, hK0, hh0, hjn⟩)
      refine wq_mono ?_ (t_X2_enter (ee_78.trans ee_88) hcl hB hG1.1.1 hG1.1.2.1 (Nat.lt_succ_self z) hi _ _ _ _ _)
      rintro r g ⟨h1, h2, T, h3, h4⟩
      exact ⟨h1, h2, T, z + 1, by omega, GJ_tail hG1 hk (Nat.lt_succ_self z) hmz h3, h4⟩
    · refine wq (fun _ _ kk => rs_aload_n (pc := 0) dX2_enter_0 rfl kk) ?_
      refine wq (fun _ _ kk => rs_getf (pc := 1) dX2_enter_1 fX2_53 (bk_lt hB (by decide)) hB.2.1 rfl kk) ?_
      refine wq (fun _ _ kk => rs_iload_n (pc := 4) dX2_enter_4 rfl kk) ?_
      refine wq (fun _ _ kk => rs_iconst (v := 0) (pc := 5) dX2_enter_5 rfl kk) ?_
      refine wq (fun _ _ kk => rs_callV (as := [_, _]) (pc := 6) dX2_enter_6 mk_X8_at mlX2_69 in_X8_at se_X8_at rfl (bk_lt hB (by decide)) hB.2.2.2.2.2.1.1 rfl rfl (Nat.le_of_ble_eq_true rfl) (c_X8_at (bk_lt hB (by decide)) hB.2.2.2.2.2.1.1 (bk_lt hB (by decide)) hB.2.2.2.2.2.1.2.1 hB.2.2.2.2.2.1.2.2 _ _) kk) ?_
      rw [show tb_at 9 (bk_r B).1 (bk_r B).2 (nI i) 0 = nI nn from en]
      refine wq (fun _ _ kk => wk_istn3 (pc := 9) dX2_enter_9 (by decide) rfl kk) ?_
      refine wq (fun _ _ kk => rs_aload_n (pc := 10) dX2_enter_10 rfl kk) ?_
      refine wq (fun _ _ kk => rs_getf (pc := 11) dX2_enter_11 fX2_53 (bk_lt hB (by decide)) hB.2.1 rfl kk) ?_
      refine wq (fun _ _ kk => rs_iload_n (pc := 14) dX2_enter_14 rfl kk) ?_
      refine wq (fun _ _ kk => rs_iconst (v := 1) (pc := 15) dX2_enter_15 rfl kk) ?_
      refine wq (fun _ _ kk => rs_callV (as := [_, _]) (pc := 16) dX2_enter_16 mk_X8_at mlX2_69 in_X8_at se_X8_at rfl (bk_lt hB (by decide)) hB.2.2.2.2.2.1.1 rfl rfl (Nat.le_of_ble_eq_true rfl) (c_X8_at (bk_lt hB (by decide)) hB.2.2.2.2.2.1.1 (bk_lt hB (by decide)) hB.2.2.2.2.2.1.2.1 hB.2.2.2.2.2.1.2.2 _ _) kk) ?_
      refine wq (fun _ _ kk => wk_ist4 (pc := 19) dX2_enter_19 (by decide) rfl kk) ?_
      refine wq (fun _ _ kk => rs_aload_n (pc := 21) dX2_enter_21 rfl kk) ?_
      refine wq (fun _ _ kk => rs_getf (pc := 22) dX2_enter_22 fX2_53 (bk_lt hB (by decide)) hB.2.1 rfl kk) ?_
      refine wq (fun _ _ kk => rs_iload_n (pc := 25) dX2_enter_25 rfl kk) ?_
      refine wq (fun _ _ kk => rs_iconst (v := 4) (pc := 26) dX2_enter_26 rfl kk) ?_
      refine wq (fun _ _ kk => rs_callV (as := [_, _]) (pc := 27) dX2_enter_27 mk_X8_at mlX2_69 in_X8_at se_X8_at rfl (bk_lt hB (by decide)) hB.2.2.2.2.2.1.1 rfl rfl (Nat.le_of_ble_eq_true rfl) (c_X8_at (bk_lt hB (by decide)) hB.2.2.2.2.2.1.1 (bk_lt hB (by decide)) hB.2.2.2.2.2.1.2.1 hB.2.2.2.2.2.1.2.2 _ _) kk) ?_
      refine wq (fun _ _ kk => wk_ist5 (pc := 30) dX2_enter_30 (by decide) rfl kk) ?_
      refine wq (fun _ _ kk => rs_aload_n (pc := 32) dX2_enter_32 rfl kk) ?_
      refine wq (fun _ _ kk => rs_getf (pc := 33) dX2_enter_33 fX2_53 (bk_lt hB (by decide)) hB.2.1 rfl kk) ?_
      refine wq (fun _ _ kk => rs_iload_n (pc := 36) dX2_enter_36 rfl kk) ?_
      refine wq (fun _ _ kk => rs_iconst (v := 3) (pc := 37) dX2_enter_37 rfl kk) ?_
      refine wq (fun _ _ kk => rs_callV (as := [_, _]) (pc := 38) dX2_enter_38 mk_X8_at mlX2_69 in_X8_at se_X8_at rfl (bk_lt hB (by decide)) hB.2.2.2.2.2.1.1 rfl rfl (Nat.le_of_ble_eq_true rfl) (c_X8_at (bk_lt hB (by decide)) hB.2.2.2.2.2.1.1 (bk_lt hB (by decide)) hB.2.2.2.2.2.1.2.1 hB.2.2.2.2.2.1.2.2 _ _) kk) ?_
      rw [show tb_at 9 (bk_r B).1 (bk_r B).2 (nI i) 3 = nI o from eo]
      refine wq (fun _ _ kk => wk_ist6 (pc := 41) dX2_enter_41 (by decide) rfl kk) ?_
      refine wq (fun _ _ kk => rs_aload_n (pc := 43) dX2_enter_43 rfl kk) ?_
      refine wq (fun _ _ kk => rs_iload_n (pc := 44) dX2_enter_44 rfl kk) ?_
      refine wq (fun _ _ kk => rs_iload (pc := 45) dX2_enter_45 rfl kk) ?_
      refine wq (fun _ _ kk => rs_iload (pc := 47) dX2_enter_47 rfl kk) ?_
      refine wq (fun _ _ kk => rs_callV (as := [_, _, _]) (pc := 49) dX2_enter_49 mk_X2_find mlX2_73 in_X2_find se_X2_find rfl (mo_lt hcl (by decide)) hcl.2.1 rfl rfl (Nat.le_of_ble_eq_true rfl) (c_X2_find hcl hG.1 hnn _ _) kk) ?_
      rw [show lastc (cl_key S (nI nn) (tb_at 9 (bk_r B).1 (bk_r B).2 (nI i) 1) (tb_at 9 (bk_r B).1 (bk_r B).2 (nI i) 4)) z = _ from e0]
      refine wq (fun _ _ kk => wk_ist7 (pc := 52) dX2_enter_52 (by decide) rfl kk) ?_
      refine wq (fun _ _ kk => rs_aload_n (pc := 54) dX2_enter_54 rfl kk) ?_
      refine wq (fun _ _ kk => rs_iload (pc := 55) dX2_enter_55 rfl kk) ?_
      refine wq (fun _ _ kk => rs_iload (pc := 57) dX2_enter_57 rfl kk) ?_
      refine wq (fun _ _ kk => rs_callV (as := [_, _]) (pc := 59) dX2_enter_59 mk_X2_ringed mlX2_77 in_X2_ringed se_X2_ringed rfl (mo_lt hcl (by decide)) hcl.2.1 rfl rfl (Nat.le_of_ble_eq_true rfl) (c_X2_ringed hcl hG.1 hc0 _) kk) ?_
      rw [e1]
      refine wq (fun _ _ kk => wk_ist8 (pc := 62) dX2_enter_62 (by decide) rfl kk) ?_
      refine wq (fun _ _ kk => rs_iload (pc := 64) dX2_enter_64 rfl kk) ?_
      refine wq (fun _ _ kk => rs_iconst (v := -1) (pc := 66) dX2_enter_66 rfl kk) ?_
      refine wq_bn (fun _ _ kt kf => rs_icmp_ne (tgt := 91) (pc := 67) dX2_enter_67 rfl kt kf) (fun c_67 => ?_) (fun c_67 => absurd c_67 (nI_m1 (by omega)))
      refine wq_mono ?_ (t_X2_enter xc.rf hcl hB hG.1.1 hG.1.2.1 hd1 hi _ _ _ _ _)
      rintro r g ⟨h1, h2, T, h3, h4⟩
      exact ⟨h1, h2, T, z, by omega, GJ_tail (hG.j d) hk hd1 ⟨hd3.trans hK0, hd4.trans eo.symm⟩ h3, h4⟩
/-- the start of gather: no cell, no night has one, up to k -/
def gz (S T : Md) (k : Nat) : Prop := T.1 = S.1 ∧ (∀ a, a ≠ 1 → T.2.2.1 a = S.2.2.1 a) ∧ T.2.2.2 = S.2.2.2 ∧ ∀ n, n < k → T.2.2.1 1 n = -1
theorem gz_step {S T : Md} {k : Nat} (hk : k < 80) (hi : gz S T k) : gz S (md_ai T 1 (upd (T.2.2.1 1) (nI k).toNatClampNeg (-1))) (k + 1) := by
  obtain ⟨a1, a2, a3, a4⟩ := hi
  rw [nI_clamp (show k < 2 ^ 31 by omega)]
  refine ⟨a1, fun a ha => ?_, a3, fun n hn => ?_⟩
  · show va_up T.2.2.1 1 _ a = _
    simp only [va_up, if_neg ha]; exact a2 a ha
  · show upd (T.2.2.1 1) k (-1) n = -1
    by_cases e : n = k
    · subst e; exact pk_us
    · rw [pk_un e]; exact a4 n (by omega)
theorem gz_GI {B : Bk} {wk : Int32} {S T : Md} (hz : gz S T 80) (h0 : S.1 0 = 0) : GI B wk T 0 0 := by
  refine ⟨⟨by rw [hz.1, h0]; rfl, by omega, fun n hn => hz.2.2.2 n hn, fun c hc => absurd hc (by omega), fun c hc => absurd hc (by omega), fun c d hc => absurd hc (by omega)⟩, fun c hc => absurd hc (by omega), fun c hc => absurd hc (by omega), fun k hk => absurd hk (by omega), fun c hc => absurd hc (by omega)⟩
theorem dX2_gather_0 : decode cX2_gather 0 = .ok (.aload_n 0, 1) := by decide +kernel
theorem dX2_gather_1 : decode cX2_gather 1 = .ok (.iconst 0, 1) := by decide +kernel
theorem dX2_gather_2 : decode cX2_gather 2 = .ok (.putfield 9, 3) := by decide +kernel
theorem dX2_gather_5 : decode cX2_gather 5 = .ok (.iconst 0, 1) := by decide +kernel
theorem dX2_gather_6 : decode cX2_gather 6 = .ok (.istore_n 3, 1) := by decide +kernel
theorem dX2_gather_7 : decode cX2_gather 7 = .ok (.iload_n 3, 1) := by decide +kernel
theorem dX2_gather_8 : decode cX2_gather 8 = .ok (.bipush 80, 2) := by decide +kernel
theorem dX2_gather_10 : decode cX2_gather 10 = .ok (.if_icmp .ge 16, 3) := by decide +kernel
theorem dX2_gather_13 : decode cX2_gather 13 = .ok (.aload_n 0, 1) := by decide +kernel
theorem dX2_gather_14 : decode cX2_gather 14 = .ok (.getfield 15, 3) := by decide +kernel
theorem dX2_gather_17 : decode cX2_gather 17 = .ok (.iload_n 3, 1) := by decide +kernel
theorem dX2_gather_18 : decode cX2_gather 18 = .ok (.iconst (-1), 1) := by decide +kernel
theorem dX2_gather_19 : decode cX2_gather 19 = .ok (.iastore, 1) := by decide +kernel
theorem dX2_gather_20 : decode cX2_gather 20 = .ok (.iinc 3 1, 3) := by decide +kernel
theorem dX2_gather_23 : decode cX2_gather 23 = .ok (.goto (-16), 3) := by decide +kernel
theorem dX2_gather_26 : decode cX2_gather 26 = .ok (.iconst 0, 1) := by decide +kernel
theorem dX2_gather_27 : decode cX2_gather 27 = .ok (.istore_n 3, 1) := by decide +kernel
theorem dX2_gather_28 : decode cX2_gather 28 = .ok (.iload_n 3, 1) := by decide +kernel
theorem dX2_gather_29 : decode cX2_gather 29 = .ok (.aload_n 1, 1) := by decide +kernel
theorem dX2_gather_30 : decode cX2_gather 30 = .ok (.getfield 53, 3) := by decide +kernel
theorem dX2_gather_33 : decode cX2_gather 33 = .ok (.getfield 58, 3) := by decide +kernel
theorem dX2_gather_36 : decode cX2_gather 36 = .ok (.if_icmp .ge 38, 3) := by decide +kernel
theorem dX2_gather_39 : decode cX2_gather 39 = .ok (.iload_n 3, 1) := by decide +kernel
theorem dX2_gather_40 : decode cX2_gather 40 = .ok (.sipush 400, 3) := by decide +kernel
theorem dX2_gather_43 : decode cX2_gather 43 = .ok (.if_icmp .ge 31, 3) := by decide +kernel
theorem dX2_gather_46 : decode cX2_gather 46 = .ok (.aload_n 0, 1) := by decide +kernel
theorem dX2_gather_47 : decode cX2_gather 47 = .ok (.getfield 50, 3) := by decide +kernel
theorem dX2_gather_50 : decode cX2_gather 50 = .ok (.iload_n 3, 1) := by decide +kernel
theorem dX2_gather_51 : decode cX2_gather 51 = .ok (.iconst (-1), 1) := by decide +kernel
theorem dX2_gather_52 : decode cX2_gather 52 = .ok (.iastore, 1) := by decide +kernel
theorem dX2_gather_53 : decode cX2_gather 53 = .ok (.aload_n 1, 1) := by decide +kernel
theorem dX2_gather_54 : decode cX2_gather 54 = .ok (.iload_n 3, 1) := by decide +kernel
theorem dX2_gather_55 : decode cX2_gather 55 = .ok (.iload_n 2, 1) := by decide +kernel
theorem dX2_gather_56 : decode cX2_gather 56 = .ok (.invokevirtual 61, 3) := by decide +kernel
theorem dX2_gather_59 : decode cX2_gather 59 = .ok (.ifCond .eq 9, 3) := by decide +kernel
theorem dX2_gather_62 : decode cX2_gather 62 = .ok (.aload_n 0, 1) := by decide +kernel
theorem dX2_gather_63 : decode cX2_gather 63 = .ok (.aload_n 1, 1) := by decide +kernel
theorem dX2_gather_64 : decode cX2_gather 64 = .ok (.iload_n 3, 1) := by decide +kernel
theorem dX2_gather_65 : decode cX2_gather 65 = .ok (.invokevirtual 65, 3) := by decide +kernel
theorem dX2_gather_68 : decode cX2_gather 68 = .ok (.iinc 3 1, 3) := by decide +kernel
theorem dX2_gather_71 : decode cX2_gather 71 = .ok (.goto (-43), 3) := by decide +kernel
theorem dX2_gather_74 : decode cX2_gather 74 = .ok (.return_, 1) := by decide +kernel
set_option maxRecDepth 100000 in
set_option maxHeartbeats 4000000 in
theorem l1_X2_gather {h : ai_H} {S : Md} {B : Bk} {wk : Int32} {Q : Option Value → ai_H → Prop} (kx : ∀ (g : ai_H) (T : Md), gz S T 80 → cl_at g T → bk_at g 1 B → xc h g → ai_W MX2_gather 28 [.ref 22, .ref 1, .int wk, .int 0] [] g Q) : ∀ (m k : Nat) (g : ai_H) (T : Md), k ≤ 80 → 81 ≤ k + m → xc h g → gz S T k → cl_at g T → bk_at g 1 B → ai_W MX2_gather 7 [.ref 22, .ref 1, .int wk, .int (nI k)] [] g Q := by
  intro m
  induction m with
  | zero => intro k g T h1 h2; exact absurd h2 (by omega)
  | succ m ih =>
    intro k g T hk0 him E0 hin hcl hB
    refine wq (fun _ _ kk => rs_iload_n (pc := 7) dX2_gather_7 rfl kk) ?_
    refine wq (fun _ _ kk => rs_bipush (v := 80) (pc := 8) dX2_gather_8 rfl kk) ?_
    refine wq_br (fun _ _ kt kf => rs_icmp_ge (tgt := 26) (pc := 10) dX2_gather_10 rfl kt kf) (fun c_10 => ?_) (fun c_10 => ?_)
    · have hke : k = 80 := lp_exit (sz := 80) rfl (by decide) hk0 c_10
      subst hke
      refine wq (fun _ _ kk => rs_iconst (v := 0) (pc := 26) dX2_gather_26 rfl kk) ?_
      refine wq (fun _ _ kk => wk_istn3 (pc := 27) dX2_gather_27 (by decide) rfl kk) ?_
      exact kx _ _ hin hcl hB E0
    · have hk : k < 80 := lp_go (sz := 80) rfl (by omega) c_10
      refine wq (fun _ _ kk => rs_aload_n (pc := 13) dX2_gather_13 rfl kk) ?_
      refine wq (fun _ _ kk => rs_getf (pc := 14) dX2_gather_14 fX2_15 (mo_lt hcl (by decide)) hcl.2.1 rfl kk) ?_
      refine wq (fun _ _ kk => rs_iload_n (pc := 17) dX2_gather_17 rfl kk) ?_
      refine wq (fun _ _ kk => rs_iconst (v := -1) (pc := 18) dX2_gather_18 rfl kk) ?_
      refine wq (fun _ _ kk => rs_iast (pc := 19) dX2_gather_19 (mo_lt hcl (by decide)) (mo_geti (d := 0) (k := 1) (kd := 0) (l := 80) rfl (by decide) hcl) (vp_in_nI (n := k) (N := 80) hk (by decide)) kk) ?_
      refine wq_gen (fun h_1 e_1 => ?_)
      obtain ⟨m_1, s_1, g_1, o_1⟩ := ai_e1 e_1
      replace hcl := mo_ai (tab := cl_tab) (d := 0) cl_nd rfl (by decide) (fun _ _ _ => rfl) hcl m_1 g_1 o_1
      replace hB := hB.keep m_1 (fun j _ _ => o_1 j (by omega))
      have E_1 := (E0).trans (xc_of m_1 s_1 o_1 (by decide))
      refine wq (fun _ _ kk => wk_iinc3 (v := nI (k + 1)) (pc := 20) dX2_gather_20 (by decide) rfl (nI_1 k) kk) ?_
      refine wq (fun _ _ kk => rs_goto (tgt := 7) (pc := 23) dX2_gather_23 rfl kk) ?_
      exact ih (k + 1) _ _ (by omega) (by omega) (E_1) (gz_step hk hin) hcl hB
set_option maxRecDepth 100000 in
set_option maxHeartbeats 4000000 in
theorem l2_X2_gather {h : ai_H} {B : Bk} {wk : Int32} {sz : Nat} (hsz : sz ≤ 400) (esz : (bk_r B).1 = nI sz) (hrow : bk_rows B) : ∀ (m i : Nat) (g : ai_H) (T : Md) (z : Nat), i ≤ sz → sz + 1 ≤ i + m → z ≤ i → xc h g → GI B wk T i z → cl_at g T → bk_at g 1 B → ai_W MX2_gather 28 [.ref 22, .ref 1, .int wk, .int (nI i)] [] g (fun r g => r = none ∧ xc h g ∧ ∃ T z, z ≤ sz ∧ GI B wk T sz z ∧ cl_at g T) := by
  intro m
  induction m with
  | zero => intro i g T z h1 h2; exact absurd h2 (by omega)
  | succ m ih =>
    intro i g T z hi him hzi E0 hG hcl hB
    refine wq (fun _ _ kk => rs_iload_n (pc := 28) dX2_gather_28 rfl kk) ?_
    refine wq (fun _ _ kk => rs_aload_n (pc := 29) dX2_gather_29 rfl kk) ?_
    refine wq (fun _ _ kk => rs_getf (pc := 30) dX2_gather_30 fX2_53 (bk_lt hB (by decide)) hB.2.1 rfl kk) ?_
    refine wq (fun _ _ kk => rs_getf (pc := 33) dX2_gather_33 fX2_58 (bk_lt hB (by decide)) hB.2.2.2.2.2.1.1 rfl kk) ?_
    refine wq_br (fun _ _ kt kf => rs_icmp_ge (tgt := 74) (pc := 36) dX2_gather_36 rfl kt kf) (fun c_36 => ?_) (fun c_36 => ?_)
    · have hie : i = sz := lp_exit esz (by omega) hi c_36
      subst hie
      refine wq_ret ?_ (rs_vret (pc := 74) dX2_gather_74 rfl)
      exact ⟨rfl, E0, T, z, hzi, hG, hcl⟩
    · have hlt : i < sz := lp_go esz (by omega) c_36
      refine wq (fun _ _ kk => rs_iload_n (pc := 39) dX2_gather_39 rfl kk) ?_
      refine wq (fun _ _ kk => rs_sipush (v := 400) (pc := 40) dX2_gather_40 rfl kk) ?_
      refine wq_br (fun _ _ kt kf => rs_icmp_ge (tgt := 74) (pc := 43) dX2_gather_43 rfl kt kf) (fun c_43 => absurd c_43 (nI_ge (b := 400) (by omega) (by decide))) (fun c_43 => ?_)
      refine wq (fun _ _ kk => rs_aload_n (pc := 46) dX2_gather_46 rfl kk) ?_
      refine wq (fun _ _ kk => rs_getf (pc := 47) dX2_gather_47 fX2_50 (mo_lt hcl (by decide)) hcl.2.1 rfl kk) ?_
      refine wq (fun _ _ kk => rs_iload_n (pc := 50) dX2_gather_50 rfl kk) ?_
      refine wq (fun _ _ kk => rs_iconst (v := -1) (pc := 51) dX2_gather_51 rfl kk) ?_
      refine wq (fun _ _ kk => rs_iast (pc := 52) dX2_gather_52 (mo_lt hcl (by decide)) (mo_geti (d := 11) (k := 12) (kd := 0) (l := 400) rfl (by decide) hcl) (vp_in_nI (n := i) (N := 400) (by omega) (by decide)) kk) ?_
      refine wq_gen (fun h_1 e_1 => ?_)
      obtain ⟨m_1, s_1, g_1, o_1⟩ := ai_e1 e_1
      replace hcl := mo_ai (tab := cl_tab) (d := 11) cl_nd rfl (by decide) (fun _ _ _ => rfl) hcl m_1 g_1 o_1
      replace hB := hB.keep m_1 (fun j _ _ => o_1 j (by omega))
      have E_1 := (E0).trans (xc_of m_1 s_1 o_1 (by decide))
      have hG0 := hG
      rw [nI_clamp (show i < 2 ^ 31 by omega)] at hcl
      have hri : i < (bk_r B).1.toInt.toNat := by rw [esz, nI_toInt (by omega)]; omega
      refine wq (fun _ _ kk => rs_aload_n (pc := 53) dX2_gather_53 rfl kk) ?_
      refine wq (fun _ _ kk => rs_iload_n (pc := 54) dX2_gather_54 rfl kk) ?_
      refine wq (fun _ _ kk => rs_iload_n (pc := 55) dX2_gather_55 rfl kk) ?_
      refine wq (fun _ _ kk => rs_callV (as := [_, _]) (pc := 56) dX2_gather_56 mk_X1_isKnown mlX2_61 in_X1_isKnown se_X1_isKnown rfl (bk_lt hB (by decide)) hB.2.1 rfl rfl (Nat.le_of_ble_eq_true rfl) (c_X1_isKnown hB _ _) kk) ?_
      refine wq_br (fun _ _ kt kf => rs_if_eq (tgt := 68) (pc := 59) dX2_gather_59 rfl kt kf) (fun c_59 => ?_) (fun c_59 => ?_)
      · refine wq (fun _ _ kk => wk_iinc3 (v := nI (i + 1)) (pc := 68) dX2_gather_68 (by decide) rfl (nI_1 i) kk) ?_
        refine wq (fun _ _ kk => rs_goto (tgt := 28) (pc := 71) dX2_gather_71 rfl kk) ?_
        first
        | exact ih (i + 1) _ _ _ (by omega) (by omega) (by omega) (E_1) (GI_skip hG0 c_59) hcl hB
        | exact ih (i + 1) _ _ z2 (by omega) (by omega) (by omega) ((E_1).trans ee_65) hG2 hcl hB
      · refine wq (fun _ _ kk => rs_aload_n (pc := 62) dX2_gather_62 rfl kk) ?_
        refine wq (fun _ _ kk => rs_aload_n (pc := 63) dX2_gather_63 rfl kk) ?_
        refine wq (fun _ _ kk => rs_iload_n (pc := 64) dX2_gather_64 rfl kk) ?_
        obtain ⟨rv_65, hc_65, ⟨rfl, ee_65, T2, z2, hz2, hG2, hcl_65⟩, hm_65⟩ := c_X2_enter hcl hB (show i < 400 by omega) hzi (GI_12 i (-1) (Nat.le_refl i) hG0) c_59 (hrow i hri).1 (hrow i hri).2
        refine wq (fun _ _ kk => rs_callV (as := [_, _]) (pc := 65) dX2_gather_65 mk_X2_enter mlX2_65 in_X2_enter se_X2_enter rfl (mo_lt hcl (by decide)) hcl.2.1 rfl rfl (Nat.le_of_ble_eq_true rfl) (hm_65) kk) ?_
        replace hcl := hcl_65
        replace hB := hB.keep ee_65.1 (fun j _ _ => ee_65.2.2 j (by omega))
        refine wq (fun _ _ kk => wk_iinc3 (v := nI (i + 1)) (pc := 68) dX2_gather_68 (by decide) rfl (nI_1 i) kk) ?_
        refine wq (fun _ _ kk => rs_goto (tgt := 28) (pc := 71) dX2_gather_71 rfl kk) ?_
        first
        | exact ih (i + 1) _ _ _ (by omega) (by omega) (by omega) (E_1) (GI_skip hG0 c_59) hcl hB
        | exact ih (i + 1) _ _ z2 (by omega) (by omega) (by omega) ((E_1).trans ee_65) hG2 hcl hB
set_option maxRecDepth 100000 in
set_option maxHeartbeats 4000000 in
theorem c_X2_gather {h : ai_H} {S : Md} {B : Bk} (hcl : cl_at h S) (hB : bk_at h 1 B) (hrow : bk_rows B) {sz : Nat} (hsz : sz ≤ 400) (esz : (bk_r B).1 = nI sz) (wk : Int32) : ai_QM MX2_gather [.ref 22, .ref 1, .int wk] h (fun r g => r = none ∧ xc h g ∧ ∃ T z, z ≤ sz ∧ GI B wk T sz z ∧ cl_at g T) := by
  refine qm_of (ls := [.ref 22, .ref 1, .int wk, .float 0]) (by decide) (by simp [ai_en, Value.category]) (by rfl) ?_
  refine wq (fun _ _ kk => rs_aload_n (pc := 0) dX2_gather_0 rfl kk) ?_
  refine wq (fun _ _ kk => rs_iconst (v := 0) (pc := 1) dX2_gather_1 rfl kk) ?_
  refine wq (fun _ _ kk => rs_putf (pc := 2) dX2_gather_2 fX2_9 (mo_lt hcl (by decide)) hcl.2.1 rfl (Nat.le_of_ble_eq_true rfl) kk) ?_
  refine wq_gen (fun h_1 e_1 => ?_)
  obtain ⟨m_1, s_1, g_1, o_1⟩ := ai_e1 e_1
  replace hcl := mo_si (k := 0) hcl m_1 g_1 o_1 rfl
  replace hB := hB.keep m_1 (fun j _ _ => o_1 j (by omega))
  have E_1 := (xc.rf).trans (xc_of m_1 s_1 o_1 (by decide))
  refine wq (fun _ _ kk => rs_iconst (v := 0) (pc := 5) dX2_gather_5 rfl kk) ?_
  refine wq (fun _ _ kk => wk_istn3 (pc := 6) dX2_gather_6 (by decide) rfl kk) ?_
  refine l1_X2_gather (S := md_si S 0 0) (h := h) ?_ 81 0 _ _ (by omega) (by omega) (E_1) ⟨rfl, fun _ _ => rfl, rfl, fun n hn => absurd hn (by omega)⟩ hcl hB
  intro g T hz hcl hB E
  exact l2_X2_gather hsz esz hrow (sz + 1) 0 g T 0 (by omega) (by omega) (by omega) E (gz_GI hz rfl) hcl hB
