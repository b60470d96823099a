/-! 24: Cells.enter, gather (walks laid by wip/whole/p24.py) -/
/-- sums over the places below n that p holds of -/
def fI (p : Nat → Bool) (v : Nat → Int32) : Nat → Int32
  | 0 => 0
  | n + 1 => if p n then fI p v n + v n else fI p v n
def fO (p : Nat → Bool) (v : Nat → Int32) : Nat → Int32
  | 0 => 0
  | n + 1 => if p n then fO p v n ||| v n else fO p v n
def fL (p : Nat → Bool) (v : Nat → Int64) : Nat → Int64
  | 0 => 0
  | n + 1 => if p n then fL p v n + v n else fL p v n
theorem fI_0 {p : Nat → Bool} {v : Nat → Int32} : ∀ {n : Nat}, (∀ k, k < n → p k = false) → fI p v n = 0
  | 0, _ => rfl
  | n + 1, h => by rw [fI, if_neg (by rw [h n (Nat.lt_succ_self n)]; decide)]; exact fI_0 fun k hk => h k (by omega)
theorem fO_0 {p : Nat → Bool} {v : Nat → Int32} : ∀ {n : Nat}, (∀ k, k < n → p k = false) → fO p v n = 0
  | 0, _ => rfl
  | n + 1, h => by rw [fO, if_neg (by rw [h n (Nat.lt_succ_self n)]; decide)]; exact fO_0 fun k hk => h k (by omega)
theorem fL_0 {p : Nat → Bool} {v : Nat → Int64} : ∀ {n : Nat}, (∀ k, k < n → p k = false) → fL p v n = 0
  | 0, _ => rfl
  | n + 1, h => by rw [fL, if_neg (by rw [h n (Nat.lt_succ_self n)]; decide)]; exact fL_0 fun k hk => h k (by omega)
/-- record k is known in wk, of this night, star, way, by this observer -/
def ga (B : Bk) (wk n s w o : Int32) (k : Nat) : Bool := decide (¬ bk_known B (nI k) wk = 0 ∧ bk_rat B (nI k) 0 = n ∧ bk_rat B (nI k) 1 = s ∧ bk_rat B (nI k) 4 = w ∧ bk_rat B (nI k) 3 = o)
def a_cnt (B : Bk) (wk n s w o : Int32) (i : Nat) : Int32 := fI (ga B wk n s w o) (fun _ => 1) i
def a_thr (B : Bk) (wk n s w o : Int32) (i : Nat) : Int32 := fO (ga B wk n s w o) (fun k => 1 <<< (bk_rat B (nI k) 2 &&& 31)) i
def a_sum (B : Bk) (wk n s w o : Int32) (i : Nat) : Int32 := fI (ga B wk n s w o) (fun k => bk_red B (nI k)) i
def a_sq (B : Bk) (wk n s w o : Int32) (i : Nat) : Int64 := fL (ga B wk n s w o) (fun k => (bk_red B (nI k)).toInt64 * (bk_red B (nI k)).toInt64) i
def gm (B : Bk) (S : Md) (c k : Nat) : Prop := S.2.2.1 3 c = bk_rat B (nI k) 0 ∧ S.2.2.1 4 c = bk_rat B (nI k) 1 ∧ S.2.2.1 5 c = bk_rat B (nI k) 4
/-- the cells hold what is known of the records below i -/
def GI (B : Bk) (wk : Int32) (S : Md) (i z : Nat) : Prop := cl_ch S z ∧ (∀ c, c < z → ∃ n, n < 80 ∧ S.2.2.1 3 c = nI n) ∧ (∀ c d, c < z → d < z → S.2.2.1 3 c = S.2.2.1 3 d → S.2.2.1 4 c = S.2.2.1 4 d → S.2.2.1 5 c = S.2.2.1 5 d → c = d)
  ∧ (∀ k, k < i → (¬ bk_known B (nI k) wk = 0 → ∃ c, c < z ∧ S.2.2.1 6 k = nI c ∧ gm B S c k) ∧ (bk_known B (nI k) wk = 0 → S.2.2.1 6 k = -1))
  ∧ ∀ c o, c < z → o < 16 → S.2.2.1 7 (c * 16 + o) = a_cnt B wk (S.2.2.1 3 c) (S.2.2.1 4 c) (S.2.2.1 5 c) (nI o) i ∧ S.2.2.1 8 (c * 16 + o) = a_thr B wk (S.2.2.1 3 c) (S.2.2.1 4 c) (S.2.2.1 5 c) (nI o) i ∧ S.2.2.1 9 (c * 16 + o) = a_sum B wk (S.2.2.1 3 c) (S.2.2.1 4 c) (S.2.2.1 5 c) (nI o) i ∧ S.2.2.2 10 (c * 16 + o) = a_sq B wk (S.2.2.1 3 c) (S.2.2.1 4 c) (S.2.2.1 5 c) (nI o) i
theorem GI_tail {B : Bk} {wk : Int32} {S T : Md} {i z c o : Nat} (hi : i < 400) (hG : GI B wk S i z) (hk : ¬ bk_known B (nI i) wk = 0) (hc : c < z) (hm : gm B S c i) (ho : o < 16) (eo : bk_rat B (nI i) 3 = nI o) (ht : tl_rel S T c (c * 16 + o) i (bk_red B (nI i)) (bk_rat B (nI i) 2)) : GI B wk T (i + 1) z := by
  obtain ⟨⟨ez, hz4, hn, hol⟩, hni, hdi, hof, hag⟩ := hG
  obtain ⟨t1, ta, t6, t7, t8, t9, t10⟩ := ht
  have a1 := ta 1 (by decide) (by decide) (by decide) (by decide)
  have a2 := ta 2 (by decide) (by decide) (by decide) (by decide)
  have a3 := ta 3 (by decide) (by decide) (by decide) (by decide)
  have a4 := ta 4 (by decide) (by decide) (by decide) (by decide)
  have a5 := ta 5 (by decide) (by decide) (by decide) (by decide)
  refine ⟨⟨by rw [t1]; exact ez, hz4, by rw [a1, a3]; exact hn, by rw [a2, a3]; exact hol⟩, by rw [a3]; exact hni, by rw [a3, a4, a5]; exact hdi, fun k hki => ?_, fun c' o' hc' ho' => ?_⟩
  · by_cases e : k = i
    · subst e
      refine ⟨fun _ => ⟨c, hc, by rw [t6, pk_us], ?_⟩, fun z => absurd z hk⟩
      unfold gm
      rw [a3, a4, a5]
      exact hm
    · rw [t6, pk_un e]
      obtain ⟨q1, q2⟩ := hof k (by omega)
      refine ⟨fun z => ?_, q2⟩
      obtain ⟨d, d1, d2, d3⟩ := q1 z
      refine ⟨d, d1, d2, ?_⟩
      unfold gm
      rw [a3, a4, a5]
      exact d3
  · rw [a3, a4, a5, t7, t8, t9, t10]
    obtain ⟨b1, b2, b3, b4⟩ := hag c' o' hc' ho'
    unfold a_cnt a_thr a_sum a_sq at *
    rw [fI, fO, fI, fL]
    by_cases e : c' = c ∧ o' = o
    · obtain ⟨e1, e2⟩ := e
      subst e1; subst e2
      have hg : ga B wk (S.2.2.1 3 c') (S.2.2.1 4 c') (S.2.2.1 5 c') (nI o') i = true := by
        simp only [ga, decide_eq_true_eq]
        exact ⟨hk, hm.1.symm, hm.2.1.symm, hm.2.2.symm, eo⟩
      rw [if_pos hg, if_pos hg, if_pos hg, if_pos hg, pk_us, pk_us, pk_us, pk_uLs, b1, b2, b3, b4]
      exact ⟨rfl, rfl, rfl, rfl⟩
    · have hg : ¬ ga B wk (S.2.2.1 3 c') (S.2.2.1 4 c') (S.2.2.1 5 c') (nI o') i = true := by
        simp only [ga, decide_eq_true_eq]
        rintro ⟨-, g0, g1, g4, g3⟩
        have ec : c' = c := hdi c' c hc' hc (g0.symm.trans hm.1.symm) (g1.symm.trans hm.2.1.symm) (g4.symm.trans hm.2.2.symm)
        have eo' : o' = o := (nI_eq (by omega) (by omega)).mp (g3.symm.trans eo)
        exact e ⟨ec, eo'⟩
      have hne : c' * 16 + o' ≠ c * 16 + o := by omega
      rw [if_neg hg, if_neg hg, if_neg hg, if_neg hg, pk_un hne, pk_un hne, pk_un hne, pk_uLn hne]
      exact ⟨b1, b2, b3, b4⟩
theorem GI_open {B : Bk} {wk : Int32} {S T : Md} {i z nn : Nat} (hzi : z < 400) (hnn : nn < 80) (hG : GI B wk S i z) (en : bk_rat B (nI i) 0 = nI nn) (hno : ∀ c, c < z → ¬ gm B S c i) (ht : op_rel S T z nn (bk_rat B (nI i) 1) (bk_rat B (nI i) 4)) : GI B wk T i (z + 1) := by
  obtain ⟨⟨ez, hz4, hn, hol⟩, hni, hdi, hof, hag⟩ := hG
  obtain ⟨t0, t1, t2, t3, t4, t5, t6, t7, t8, t9, t10⟩ := ht
  have k3 : ∀ c, c < z → T.2.2.1 3 c = S.2.2.1 3 c := fun c hc => by rw [t3, pk_un (by omega)]
  have k4 : ∀ c, c < z → T.2.2.1 4 c = S.2.2.1 4 c := fun c hc => by rw [t4, pk_un (by omega)]
  have k5 : ∀ c, c < z → T.2.2.1 5 c = S.2.2.1 5 c := fun c hc => by rw [t5, pk_un (by omega)]
  have e3 : T.2.2.1 3 z = nI nn := by rw [t3, pk_us]
  have e4 : T.2.2.1 4 z = bk_rat B (nI i) 1 := by rw [t4, pk_us]
  have e5 : T.2.2.1 5 z = bk_rat B (nI i) 4 := by rw [t5, pk_us]
  refine ⟨⟨t0, by omega, fun n hn' => ?_, fun c hc => ?_⟩, fun c hc => ?_, fun c d hc hd q3 q4 q5 => ?_, fun k hk => ?_, fun c o hc ho => ?_⟩
  · rw [t1, lastc]
    by_cases e : n = nn
    · subst e
      rw [pk_us, if_pos (by simp [e3])]
    · rw [pk_un e, if_neg (by simp only [e3, decide_eq_true_eq]; exact fun q => e ((nI_eq (by omega) (by omega)).mp q).symm), hn n hn']
      exact lastc_cong fun c hc => by rw [k3 c hc]
  · rw [t2]
    by_cases e : c = z
    · subst e
      rw [pk_us, e3, hn nn hnn]
      exact lastc_cong fun d hd => by rw [k3 d hd]
    · have hcz : c < z := by omega
      rw [pk_un e, hol c hcz, k3 c hcz]
      exact lastc_cong fun d hd => by rw [k3 d (by omega)]
  · by_cases e : c = z
    · subst e; exact ⟨nn, hnn, e3⟩
    · rw [k3 c (by omega)]; exact hni c (by omega)
  · by_cases e : c = z
    · subst e
      by_cases f : d = c
      · exact f.symm
      · have hd' : d < c := by omega
        rw [e3, k3 d hd'] at q3; rw [e4, k4 d hd'] at q4; rw [e5, k5 d hd'] at q5
        exact absurd ⟨by rw [en]; exact q3.symm, q4.symm, q5.symm⟩ (hno d hd')
    · by_cases f : d = z
      · subst f
        have hc' : c < d := by omega
        rw [e3, k3 c hc'] at q3; rw [e4, k4 c hc'] at q4; rw [e5, k5 c hc'] at q5
        exact absurd ⟨by rw [en]; exact q3, q4, q5⟩ (hno c hc')
      · rw [k3 c (by omega), k3 d (by omega)] at q3; rw [k4 c (by omega), k4 d (by omega)] at q4; rw [k5 c (by omega), k5 d (by omega)] at q5
        exact hdi c d (by omega) (by omega) q3 q4 q5
  · obtain ⟨q1, q2⟩ := hof k hk
    refine ⟨fun q => ?_, fun q => by rw [t6]; exact q2 q⟩
    obtain ⟨d, d1, d2, d3⟩ := q1 q
    refine ⟨d, by omega, by rw [t6]; exact d2, ?_⟩
    unfold gm
    rw [k3 d d1, k4 d d1, k5 d d1]
    exact d3
  · by_cases e : c = z
    · subst e
      have hz0 : ∀ k, k < i → ga B wk (nI nn) (bk_rat B (nI i) 1) (bk_rat B (nI i) 4) (nI o) k = false := fun k hk => by
        simp only [ga, decide_eq_false_iff_not]
        rintro ⟨g0, g1, g2, g3, -⟩
        obtain ⟨d, d1, -, d3⟩ := (hof k hk).1 g0
        exact hno d d1 ⟨by rw [d3.1, g1, en], by rw [d3.2.1, g2], by rw [d3.2.2, g3]⟩
      have hin : c * 16 ≤ c * 16 + o ∧ c * 16 + o < c * 16 + 16 := by omega
      unfold a_cnt a_thr a_sum a_sq
      rw [t7, t8, t9, t10, e3, e4, e5, fI_0 hz0, fO_0 hz0, fI_0 hz0, fL_0 hz0]
      simp only [zr, if_pos hin]
      exact ⟨trivial, trivial, trivial, trivial⟩
    · have hcz : c < z := by omega
      have hout : ¬ (z * 16 ≤ c * 16 + o ∧ c * 16 + o < z * 16 + 16) := by omega
      rw [t7, t8, t9, t10, k3 c hcz, k4 c hcz, k5 c hcz]
      simp only [zr, if_neg hout]
      exact hag c o hcz ho
theorem GI_skip {B : Bk} {wk : Int32} {S : Md} {i z : Nat} (hG : GI B wk S i z) (hk : bk_known B (nI i) wk = 0) : GI B wk (md_ai S 6 (upd (S.2.2.1 6) i (-1))) (i + 1) z := by
  obtain ⟨⟨ez, hz4, hn, hol⟩, hni, hdi, hof, hag⟩ := hG
  refine ⟨⟨ez, hz4, hn, hol⟩, hni, hdi, fun k hki => ?_, fun c o hc ho => ?_⟩
  · show (_ → ∃ c, c < z ∧ upd (S.2.2.1 6) i (-1) k = nI c ∧ gm B S c k) ∧ (_ → upd (S.2.2.1 6) i (-1) k = -1)
    by_cases e : k = i
    · subst e; exact ⟨fun q => absurd hk q, fun _ => pk_us⟩
    · rw [pk_un e]; exact hof k (by omega)
  · have hg : ∀ o, ¬ ga B wk (S.2.2.1 3 c) (S.2.2.1 4 c) (S.2.2.1 5 c) o i = true := fun o => by
      simp only [ga, decide_eq_true_eq]; exact fun q => q.1 hk
    obtain ⟨b1, b2, b3, b4⟩ := hag c o hc ho
    unfold a_cnt a_thr a_sum a_sq at *
    refine ⟨?_, ?_, ?_, ?_⟩
    · show S.2.2.1 7 _ = fI (ga B wk (S.2.2.1 3 c) (S.2.2.1 4 c) (S.2.2.1 5 c) (nI o)) _ (i + 1)
      rw [fI, if_neg (hg _)]; exact b1
    · show S.2.2.1 8 _ = fO (ga B wk (S.2.2.1 3 c) (S.2.2.1 4 c) (S.2.2.1 5 c) (nI o)) _ (i + 1)
      rw [fO, if_neg (hg _)]; exact b2
    · show S.2.2.1 9 _ = fI (ga B wk (S.2.2.1 3 c) (S.2.2.1 4 c) (S.2.2.1 5 c) (nI o)) _ (i + 1)
      rw [fI, if_neg (hg _)]; exact b3
    · show S.2.2.2 10 _ = fL (ga B wk (S.2.2.1 3 c) (S.2.2.1 4 c) (S.2.2.1 5 c) (nI o)) _ (i + 1)
      rw [fL, if_neg (hg _)]; exact b4
theorem GI_of {B : Bk} {wk : Int32} {S : Md} {i z : Nat} (j : Nat) (x : Int32) (hj : i ≤ j) (hG : GI B wk S i z) : GI B wk (md_ai S 6 (upd (S.2.2.1 6) j x)) i z := by
  obtain ⟨hch, hni, hdi, hof, hag⟩ := hG
  refine ⟨hch, hni, hdi, fun k hk => ?_, hag⟩
  show (_ → ∃ c, c < z ∧ upd (S.2.2.1 6) j x k = nI c ∧ gm B S c k) ∧ (_ → upd (S.2.2.1 6) j x k = -1)
  rw [pk_un (by omega)]
  exact hof k hk
/-- the rows of records are of nights and observers that are there -/
def bk_rows (B : Bk) : Prop := ∀ k : Nat, k < (bk_r B).1.toInt.toNat → (∃ n, n < 80 ∧ bk_rat B (nI k) 0 = nI n) ∧ ∃ o, o < 16 ∧ bk_rat B (nI k) 3 = nI o
set_option maxRecDepth 100000 in
set_option maxHeartbeats 4000000 in
theorem c_X2_enter {h : ai_H} {S : Md} {B : Bk} {wk : Int32} {i z : Nat} (hcl : cl_at h S) (hB : bk_at h 1 B) (hi : i < 400) (hzi : z ≤ i) (hG : GI B wk S i z) (hk : ¬ bk_known B (nI i) wk = 0) (hen : ∃ n, n < 80 ∧ bk_rat B (nI i) 0 = nI n) (heo : ∃ o, o < 16 ∧ bk_rat B (nI i) 3 = nI o) : ai_QM MX2_enter [.ref 22, .ref 1, .int (nI i)] h (fun r g => r = none ∧ xc h g ∧ ∃ T z', z' ≤ i + 1 ∧ GI B wk T (i + 1) z' ∧ cl_at g T) := by
  obtain ⟨nn, hnn, en⟩ := hen
  obtain ⟨o, ho, eo⟩ := heo
  have ez := hG.1.1
  have hz4 := hG.1.2.1
  refine qm_of (ls := [.ref 22, .ref 1, .int (nI i), .float 0, .float 0, .float 0, .float 0, .float 0, .float 0, .float 0]) (by decide) (by simp [ai_en, Value.category]) (by rfl) ?_
  rcases lastc_cases (cl_key S (nI nn) (bk_rat B (nI i) 1) (bk_rat B (nI i) 4)) z with ⟨e0, hno0⟩ | ⟨c, hc, e0, hpc, -⟩
  · have hno : ∀ c, c < z → ¬ gm B S c i := fun c hc q => by
      have := hno0 c hc
      simp only [cl_key, decide_eq_false_iff_not] at this
      exact this ⟨q.1.trans en, q.2.1, q.2.2⟩
    refine wq (fun _ _ kk => rs_aload_n (pc := 0) dX2_enter_0 rfl kk) ?_
    refine wq (fun _ _ kk => rs_getf (pc := 1) dX2_enter_1 fX2_47 (bk_lt hB (by decide)) hB.2.1 rfl kk) ?_
    refine wq (fun _ _ kk => rs_iload_n (pc := 4) dX2_enter_4 rfl kk) ?_
    refine wq (fun _ _ kk => rs_iconst (v := 0) (pc := 5) dX2_enter_5 rfl kk) ?_
    refine wq (fun _ _ kk => rs_callV (as := [_, _]) (pc := 6) dX2_enter_6 mk_X8_at mlX2_63 in_X8_at se_X8_at rfl (bk_lt hB (by decide)) hB.2.2.2.2.2.1.1 rfl rfl (Nat.le_of_ble_eq_true rfl) (c_X8_at (bk_lt hB (by decide)) hB.2.2.2.2.2.1.1 (bk_lt hB (by decide)) hB.2.2.2.2.2.1.2.1 hB.2.2.2.2.2.1.2.2 _ _) kk) ?_
    rw [show tb_at 9 (bk_r B).1 (bk_r B).2 (nI i) 0 = nI nn from en]
    refine wq (fun _ _ kk => wk_istn3 (pc := 9) dX2_enter_9 (by decide) rfl kk) ?_
    refine wq (fun _ _ kk => rs_aload_n (pc := 10) dX2_enter_10 rfl kk) ?_
    refine wq (fun _ _ kk => rs_getf (pc := 11) dX2_enter_11 fX2_47 (bk_lt hB (by decide)) hB.2.1 rfl kk) ?_
    refine wq (fun _ _ kk => rs_iload_n (pc := 14) dX2_enter_14 rfl kk) ?_
    refine wq (fun _ _ kk => rs_iconst (v := 1) (pc := 15) dX2_enter_15 rfl kk) ?_
    refine wq (fun _ _ kk => rs_callV (as := [_, _]) (pc := 16) dX2_enter_16 mk_X8_at mlX2_63 in_X8_at se_X8_at rfl (bk_lt hB (by decide)) hB.2.2.2.2.2.1.1 rfl rfl (Nat.le_of_ble_eq_true rfl) (c_X8_at (bk_lt hB (by decide)) hB.2.2.2.2.2.1.1 (bk_lt hB (by decide)) hB.2.2.2.2.2.1.2.1 hB.2.2.2.2.2.1.2.2 _ _) kk) ?_
    refine wq (fun _ _ kk => wk_ist4 (pc := 19) dX2_enter_19 (by decide) rfl kk) ?_
    refine wq (fun _ _ kk => rs_aload_n (pc := 21) dX2_enter_21 rfl kk) ?_
    refine wq (fun _ _ kk => rs_getf (pc := 22) dX2_enter_22 fX2_47 (bk_lt hB (by decide)) hB.2.1 rfl kk) ?_
    refine wq (fun _ _ kk => rs_iload_n (pc := 25) dX2_enter_25 rfl kk) ?_
    refine wq (fun _ _ kk => rs_iconst (v := 4) (pc := 26) dX2_enter_26 rfl kk) ?_
    refine wq (fun _ _ kk => rs_callV (as := [_, _]) (pc := 27) dX2_enter_27 mk_X8_at mlX2_63 in_X8_at se_X8_at rfl (bk_lt hB (by decide)) hB.2.2.2.2.2.1.1 rfl rfl (Nat.le_of_ble_eq_true rfl) (c_X8_at (bk_lt hB (by decide)) hB.2.2.2.2.2.1.1 (bk_lt hB (by decide)) hB.2.2.2.2.2.1.2.1 hB.2.2.2.2.2.1.2.2 _ _) kk) ?_
    refine wq (fun _ _ kk => wk_ist5 (pc := 30) dX2_enter_30 (by decide) rfl kk) ?_
    refine wq (fun _ _ kk => rs_aload_n (pc := 32) dX2_enter_32 rfl kk) ?_
    refine wq (fun _ _ kk => rs_iload_n (pc := 33) dX2_enter_33 rfl kk) ?_
    refine wq (fun _ _ kk => rs_iload (pc := 34) dX2_enter_34 rfl kk) ?_
    refine wq (fun _ _ kk => rs_iload (pc := 36) dX2_enter_36 rfl kk) ?_
    refine wq (fun _ _ kk => rs_callV (as := [_, _, _]) (pc := 38) dX2_enter_38 mk_X2_find mlX2_67 in_X2_find se_X2_find rfl (mo_lt hcl (by decide)) hcl.2.1 rfl rfl (Nat.le_of_ble_eq_true rfl) (c_X2_find hcl hG.1 hnn _ _) kk) ?_
    rw [show lastc (cl_key S (nI nn) (tb_at 9 (bk_r B).1 (bk_r B).2 (nI i) 1) (tb_at 9 (bk_r B).1 (bk_r B).2 (nI i) 4)) z = _ from e0]
    refine wq (fun _ _ kk => wk_ist6 (pc := 41) dX2_enter_41 (by decide) rfl kk) ?_
    refine wq (fun _ _ kk => rs_iload (pc := 43) dX2_enter_43 rfl kk) ?_
    refine wq (fun _ _ kk => rs_iconst (v := -1) (pc := 45) dX2_enter_45 rfl kk) ?_
    refine wq_bn (fun _ _ kt kf => rs_icmp_ne (tgt := 60) (pc := 46) dX2_enter_46 rfl kt kf) (fun c_46 => absurd c_46 (fun z => z rfl)) (fun c_46 => ?_)
    refine wq (fun _ _ kk => rs_aload_n (pc := 49) dX2_enter_49 rfl kk) ?_
    refine wq (fun _ _ kk => rs_iload_n (pc := 50) dX2_enter_50 rfl kk) ?_
    refine wq (fun _ _ kk => rs_iload (pc := 51) dX2_enter_51 rfl kk) ?_
    refine wq (fun _ _ kk => rs_iload (pc := 53) dX2_enter_53 rfl kk) ?_
    obtain ⟨rv_55, hc_55, ⟨rfl, ee_55, T1, hop, hcl_55⟩, hm_55⟩ := c_X2_open hcl ez (show z < 400 by omega) hnn (bk_rat B (nI i) 1) (bk_rat B (nI i) 4)
    refine wq (fun _ _ kk => rs_callV (as := [_, _, _]) (pc := 55) dX2_enter_55 mk_X2_open mlX2_71 in_X2_open se_X2_open rfl (mo_lt hcl (by decide)) hcl.2.1 rfl rfl (Nat.le_of_ble_eq_true rfl) (hm_55) kk) ?_
    replace hcl := hcl_55
    replace hB := hB.keep ee_55.1 (fun j _ _ => ee_55.2.2 j (by omega))
    refine wq (fun _ _ kk => wk_ist6 (pc := 58) dX2_enter_58 (by decide) rfl kk) ?_
    have hG1 := GI_open (show z < 400 by omega) hnn hG en hno hop
    have hmz : gm B T1 z i := ⟨by rw [hop.2.2.2.1, pk_us]; exact en.symm, by rw [hop.2.2.2.2.1, pk_us], by rw [hop.2.2.2.2.2.1, pk_us]⟩
    refine wq_mono ?_ (t_X2_enter ee_55 hcl hB hG1.1.1 hG1.1.2.1 (Nat.lt_succ_self z) ho hi eo _ _ _)
    rintro r g ⟨h1, h2, T, h3, h4⟩
    exact ⟨h1, h2, T, z + 1, by omega, GI_tail hi hG1 hk (Nat.lt_succ_self z) hmz ho eo h3, h4⟩
  · simp only [cl_key, decide_eq_true_eq] at hpc
    refine wq (fun _ _ kk => rs_aload_n (pc := 0) dX2_enter_0 rfl kk) ?_
    refine wq (fun _ _ kk => rs_getf (pc := 1) dX2_enter_1 fX2_47 (bk_lt hB (by decide)) hB.2.1 rfl kk) ?_
    refine wq (fun _ _ kk => rs_iload_n (pc := 4) dX2_enter_4 rfl kk) ?_
    refine wq (fun _ _ kk => rs_iconst (v := 0) (pc := 5) dX2_enter_5 rfl kk) ?_
    refine wq (fun _ _ kk => rs_callV (as := [_, _]) (pc := 6) dX2_enter_6 mk_X8_at mlX2_63 in_X8_at se_X8_at rfl (bk_lt hB (by decide)) hB.2.2.2.2.2.1.1 rfl rfl (Nat.le_of_ble_eq_true rfl) (c_X8_at (bk_lt hB (by decide)) hB.2.2.2.2.2.1.1 (bk_lt hB (by decide)) hB.2.2.2.2.2.1.2.1 hB.2.2.2.2.2.1.2.2 _ _) kk) ?_
    rw [show tb_at 9 (bk_r B).1 (bk_r B).2 (nI i) 0 = nI nn from en]
    refine wq (fun _ _ kk => wk_istn3 (pc := 9) dX2_enter_9 (by decide) rfl kk) ?_
    refine wq (fun _ _ kk => rs_aload_n (pc := 10) dX2_enter_10 rfl kk) ?_
    refine wq (fun _ _ kk => rs_getf (pc := 11) dX2_enter_11 fX2_47 (bk_lt hB (by decide)) hB.2.1 rfl kk) ?_
    refine wq (fun _ _ kk => rs_iload_n (pc := 14) dX2_enter_14 rfl kk) ?_
    refine wq (fun _ _ kk => rs_iconst (v := 1) (pc := 15) dX2_enter_15 rfl kk) ?_
    refine wq (fun _ _ kk => rs_callV (as := [_, _]) (pc := 16) dX2_enter_16 mk_X8_at mlX2_63 in_X8_at se_X8_at rfl (bk_lt hB (by decide)) hB.2.2.2.2.2.1.1 rfl rfl (Nat.le_of_ble_eq_true rfl) (c_X8_at (bk_lt hB (by decide)) hB.2.2.2.2.2.1.1 (bk_lt hB (by decide)) hB.2.2.2.2.2.1.2.1 hB.2.2.2.2.2.1.2.2 _ _) kk) ?_
    refine wq (fun _ _ kk => wk_ist4 (pc := 19) dX2_enter_19 (by decide) rfl kk) ?_
    refine wq (fun _ _ kk => rs_aload_n (pc := 21) dX2_enter_21 rfl kk) ?_
    refine wq (fun _ _ kk => rs_getf (pc := 22) dX2_enter_22 fX2_47 (bk_lt hB (by decide)) hB.2.1 rfl kk) ?_
    refine wq (fun _ _ kk => rs_iload_n (pc := 25) dX2_enter_25 rfl kk) ?_
    refine wq (fun _ _ kk => rs_iconst (v := 4) (pc := 26) dX2_enter_26 rfl kk) ?_
    refine wq (fun _ _ kk => rs_callV (as := [_, _]) (pc := 27) dX2_enter_27 mk_X8_at mlX2_63 in_X8_at se_X8_at rfl (bk_lt hB (by decide)) hB.2.2.2.2.2.1.1 rfl rfl (Nat.le_of_ble_eq_true rfl) (c_X8_at (bk_lt hB (by decide)) hB.2.2.2.2.2.1.1 (bk_lt hB (by decide)) hB.2.2.2.2.2.1.2.1 hB.2.2.2.2.2.1.2.2 _ _) kk) ?_
    refine wq (fun _ _ kk => wk_ist5 (pc := 30) dX2_enter_30 (by decide) rfl kk) ?_
    refine wq (fun _ _ kk => rs_aload_n (pc := 32) dX2_enter_32 rfl kk) ?_
    refine wq (fun _ _ kk => rs_iload_n (pc := 33) dX2_enter_33 rfl kk) ?_
    refine wq (fun _ _ kk => rs_iload (pc := 34) dX2_enter_34 rfl kk) ?_
    refine wq (fun _ _ kk => rs_iload (pc := 36) dX2_enter_36 rfl kk) ?_
    refine wq (fun _ _ kk => rs_callV (as := [_, _, _]) (pc := 38) dX2_enter_38 mk_X2_find mlX2_67 in_X2_find se_X2_find rfl (mo_lt hcl (by decide)) hcl.2.1 rfl rfl (Nat.le_of_ble_eq_true rfl) (c_X2_find hcl hG.1 hnn _ _) kk) ?_
    rw [show lastc (cl_key S (nI nn) (tb_at 9 (bk_r B).1 (bk_r B).2 (nI i) 1) (tb_at 9 (bk_r B).1 (bk_r B).2 (nI i) 4)) z = _ from e0]
    refine wq (fun _ _ kk => wk_ist6 (pc := 41) dX2_enter_41 (by decide) rfl kk) ?_
    refine wq (fun _ _ kk => rs_iload (pc := 43) dX2_enter_43 rfl kk) ?_
    refine wq (fun _ _ kk => rs_iconst (v := -1) (pc := 45) dX2_enter_45 rfl kk) ?_
    refine wq_bn (fun _ _ kt kf => rs_icmp_ne (tgt := 60) (pc := 46) dX2_enter_46 rfl kt kf) (fun c_46 => ?_) (fun c_46 => absurd c_46 (nI_m1 (by omega)))
    refine wq_mono ?_ (t_X2_enter xc.rf hcl hB ez hz4 hc ho hi eo _ _ _)
    rintro r g ⟨h1, h2, T, h3, h4⟩
    exact ⟨h1, h2, T, z, by omega, GI_tail hi hG hk hc ⟨hpc.1.trans en.symm, hpc.2.1, hpc.2.2⟩ ho eo h3, h4⟩
/-- the start of gather: no cell, no night has one, up to k -/
def gz (S T : Md) (k : Nat) : Prop := T.1 = S.1 ∧ (∀ a, a ≠ 1 → T.2.2.1 a = S.2.2.1 a) ∧ T.2.2.2 = S.2.2.2 ∧ ∀ n, n < k → T.2.2.1 1 n = -1
theorem gz_step {S T : Md} {k : Nat} (hk : k < 80) (hi : gz S T k) : gz S (md_ai T 1 (upd (T.2.2.1 1) (nI k).toNatClampNeg (-1))) (k + 1) := by
  obtain ⟨a1, a2, a3, a4⟩ := hi
  rw [nI_clamp (show k < 2 ^ 31 by omega)]
  refine ⟨a1, fun a ha => ?_, a3, fun n hn => ?_⟩
  · show va_up T.2.2.1 1 _ a = _
    simp only [va_up, if_neg ha]; exact a2 a ha
  · show upd (T.2.2.1 1) k (-1) n = -1
    by_cases e : n = k
    · subst e; exact pk_us
    · rw [pk_un e]; exact a4 n (by omega)
theorem gz_GI {B : Bk} {wk : Int32} {S T : Md} (hz : gz S T 80) (h0 : S.1 0 = 0) : GI B wk T 0 0 := by
  refine ⟨⟨by rw [hz.1, h0]; rfl, by omega, fun n hn => hz.2.2.2 n hn, fun c hc => absurd hc (by omega)⟩, fun c hc => absurd hc (by omega), fun c d hc => absurd hc (by omega), fun k hk => absurd hk (by omega), fun c o hc => absurd hc (by omega)⟩
theorem dX2_gather_0 : decode cX2_gather 0 = .ok (.aload_n 0, 1) := by decide +kernel
theorem dX2_gather_1 : decode cX2_gather 1 = .ok (.iconst 0, 1) := by decide +kernel
theorem dX2_gather_2 : decode cX2_gather 2 = .ok (.putfield 9, 3) := by decide +kernel
theorem dX2_gather_5 : decode cX2_gather 5 = .ok (.iconst 0, 1) := by decide +kernel
theorem dX2_gather_6 : decode cX2_gather 6 = .ok (.istore_n 3, 1) := by decide +kernel
theorem dX2_gather_7 : decode cX2_gather 7 = .ok (.iload_n 3, 1) := by decide +kernel
theorem dX2_gather_8 : decode cX2_gather 8 = .ok (.bipush 80, 2) := by decide +kernel
theorem dX2_gather_10 : decode cX2_gather 10 = .ok (.if_icmp .ge 16, 3) := by decide +kernel
theorem dX2_gather_13 : decode cX2_gather 13 = .ok (.aload_n 0, 1) := by decide +kernel
theorem dX2_gather_14 : decode cX2_gather 14 = .ok (.getfield 15, 3) := by decide +kernel
theorem dX2_gather_17 : decode cX2_gather 17 = .ok (.iload_n 3, 1) := by decide +kernel
theorem dX2_gather_18 : decode cX2_gather 18 = .ok (.iconst (-1), 1) := by decide +kernel
theorem dX2_gather_19 : decode cX2_gather 19 = .ok (.iastore, 1) := by decide +kernel
theorem dX2_gather_20 : decode cX2_gather 20 = .ok (.iinc 3 1, 3) := by decide +kernel
theorem dX2_gather_23 : decode cX2_gather 23 = .ok (.goto (-16), 3) := by decide +kernel
theorem dX2_gather_26 : decode cX2_gather 26 = .ok (.iconst 0, 1) := by decide +kernel
theorem dX2_gather_27 : decode cX2_gather 27 = .ok (.istore_n 3, 1) := by decide +kernel
theorem dX2_gather_28 : decode cX2_gather 28 = .ok (.iload_n 3, 1) := by decide +kernel
theorem dX2_gather_29 : decode cX2_gather 29 = .ok (.aload_n 1, 1) := by decide +kernel
theorem dX2_gather_30 : decode cX2_gather 30 = .ok (.getfield 47, 3) := by decide +kernel
theorem dX2_gather_33 : decode cX2_gather 33 = .ok (.getfield 52, 3) := by decide +kernel
theorem dX2_gather_36 : decode cX2_gather 36 = .ok (.if_icmp .ge 38, 3) := by decide +kernel
theorem dX2_gather_39 : decode cX2_gather 39 = .ok (.iload_n 3, 1) := by decide +kernel
theorem dX2_gather_40 : decode cX2_gather 40 = .ok (.sipush 400, 3) := by decide +kernel
theorem dX2_gather_43 : decode cX2_gather 43 = .ok (.if_icmp .ge 31, 3) := by decide +kernel
theorem dX2_gather_46 : decode cX2_gather 46 = .ok (.aload_n 0, 1) := by decide +kernel
theorem dX2_gather_47 : decode cX2_gather 47 = .ok (.getfield 31, 3) := by decide +kernel
theorem dX2_gather_50 : decode cX2_gather 50 = .ok (.iload_n 3, 1) := by decide +kernel
theorem dX2_gather_51 : decode cX2_gather 51 = .ok (.iconst (-1), 1) := by decide +kernel
theorem dX2_gather_52 : decode cX2_gather 52 = .ok (.iastore, 1) := by decide +kernel
theorem dX2_gather_53 : decode cX2_gather 53 = .ok (.aload_n 1, 1) := by decide +kernel
theorem dX2_gather_54 : decode cX2_gather 54 = .ok (.iload_n 3, 1) := by decide +kernel
theorem dX2_gather_55 : decode cX2_gather 55 = .ok (.iload_n 2, 1) := by decide +kernel
theorem dX2_gather_56 : decode cX2_gather 56 = .ok (.invokevirtual 55, 3) := by decide +kernel
theorem dX2_gather_59 : decode cX2_gather 59 = .ok (.ifCond .eq 9, 3) := by decide +kernel
theorem dX2_gather_62 : decode cX2_gather 62 = .ok (.aload_n 0, 1) := by decide +kernel
theorem dX2_gather_63 : decode cX2_gather 63 = .ok (.aload_n 1, 1) := by decide +kernel
theorem dX2_gather_64 : decode cX2_gather 64 = .ok (.iload_n 3, 1) := by decide +kernel
theorem dX2_gather_65 : decode cX2_gather 65 = .ok (.invokevirtual 59, 3) := by decide +kernel
theorem dX2_gather_68 : decode cX2_gather 68 = .ok (.iinc 3 1, 3) := by decide +kernel
theorem dX2_gather_71 : decode cX2_gather 71 = .ok (.goto (-43), 3) := by decide +kernel
theorem dX2_gather_74 : decode cX2_gather 74 = .ok (.return_, 1) := by decide +kernel
set_option maxRecDepth 100000 in
set_option maxHeartbeats 4000000 in
theorem l1_X2_gather {h : ai_H} {S : Md} {B : Bk} {wk : Int32} {Q : Option Value → ai_H → Prop} (kx : ∀ (g : ai_H) (T : Md), gz S T 80 → cl_at g T → bk_at g 1 B → xc h g → ai_W MX2_gather 28 [.ref 22, .ref 1, .int wk, .int 0] [] g Q) : ∀ (m k : Nat) (g : ai_H) (T : Md), k ≤ 80 → 81 ≤ k + m → xc h g → gz S T k → cl_at g T → bk_at g 1 B → ai_W MX2_gather 7 [.ref 22, .ref 1, .int wk, .int (nI k)] [] g Q := by
  intro m
  induction m with
  | zero => intro k g T h1 h2; exact absurd h2 (by omega)
  | succ m ih =>
    intro k g T hk0 him E0 hin hcl hB
    refine wq (fun _ _ kk => rs_iload_n (pc := 7) dX2_gather_7 rfl kk) ?_
    refine wq (fun _ _ kk => rs_bipush (v := 80) (pc := 8) dX2_gather_8 rfl kk) ?_
    refine wq_br (fun _ _ kt kf => rs_icmp_ge (tgt := 26) (pc := 10) dX2_gather_10 rfl kt kf) (fun c_10 => ?_) (fun c_10 => ?_)
    · have hke : k = 80 := lp_exit (sz := 80) rfl (by decide) hk0 c_10
      subst hke
      refine wq (fun _ _ kk => rs_iconst (v := 0) (pc := 26) dX2_gather_26 rfl kk) ?_
      refine wq (fun _ _ kk => wk_istn3 (pc := 27) dX2_gather_27 (by decide) rfl kk) ?_
      exact kx _ _ hin hcl hB E0
    · have hk : k < 80 := lp_go (sz := 80) rfl (by omega) c_10
      refine wq (fun _ _ kk => rs_aload_n (pc := 13) dX2_gather_13 rfl kk) ?_
      refine wq (fun _ _ kk => rs_getf (pc := 14) dX2_gather_14 fX2_15 (mo_lt hcl (by decide)) hcl.2.1 rfl kk) ?_
      refine wq (fun _ _ kk => rs_iload_n (pc := 17) dX2_gather_17 rfl kk) ?_
      refine wq (fun _ _ kk => rs_iconst (v := -1) (pc := 18) dX2_gather_18 rfl kk) ?_
      refine wq (fun _ _ kk => rs_iast (pc := 19) dX2_gather_19 (mo_lt hcl (by decide)) (mo_geti (d := 0) (k := 1) (kd := 0) (l := 80) rfl (by decide) hcl) (vp_in_nI (n := k) (N := 80) hk (by decide)) kk) ?_
      refine wq_gen (fun h_1 e_1 => ?_)
      obtain ⟨m_1, s_1, g_1, o_1⟩ := ai_e1 e_1
      replace hcl := mo_ai (tab := cl_tab) (d := 0) cl_nd rfl (by decide) (fun _ _ _ => rfl) hcl m_1 g_1 o_1
      replace hB := hB.keep m_1 (fun j _ _ => o_1 j (by omega))
      have E_1 := (E0).trans (xc_of m_1 s_1 o_1 (by decide))
      refine wq (fun _ _ kk => wk_iinc3 (v := nI (k + 1)) (pc := 20) dX2_gather_20 (by decide) rfl (nI_1 k) kk) ?_
      refine wq (fun _ _ kk => rs_goto (tgt := 7) (pc := 23) dX2_gather_23 rfl kk) ?_
      exact ih (k + 1) _ _ (by omega) (by omega) (E_1) (gz_step hk hin) hcl hB
set_option maxRecDepth 100000 in
set_option maxHeartbeats 4000000 in
theorem l2_X2_gather {h : ai_H} {B : Bk} {wk : Int32} {sz : Nat} (hsz : sz ≤ 400) (esz : (bk_r B).1 = nI sz) (hrow : bk_rows B) : ∀ (m i : Nat) (g : ai_H) (T : Md) (z : Nat), i ≤ sz → sz + 1 ≤ i + m → z ≤ i → xc h g → GI B wk T i z → cl_at g T → bk_at g 1 B → ai_W MX2_gather 28 [.ref 22, .ref 1, .int wk, .int (nI i)] [] g (fun r g => r = none ∧ xc h g ∧ ∃ T z, z ≤ sz ∧ GI B wk T sz z ∧ cl_at g T) := by
  intro m
  induction m with
  | zero => intro i g T z h1 h2; exact absurd h2 (by omega)
  | succ m ih =>
    intro i g T z hi him hzi E0 hG hcl hB
    refine wq (fun _ _ kk => rs_iload_n (pc := 28) dX2_gather_28 rfl kk) ?_
    refine wq (fun _ _ kk => rs_aload_n (pc := 29) dX2_gather_29 rfl kk) ?_
    refine wq (fun _ _ kk => rs_getf (pc := 30) dX2_gather_30 fX2_47 (bk_lt hB (by decide)) hB.2.1 rfl kk) ?_
    refine wq (fun _ _ kk => rs_getf (pc := 33) dX2_gather_33 fX2_52 (bk_lt hB (by decide)) hB.2.2.2.2.2.1.1 rfl kk) ?_
    refine wq_br (fun _ _ kt kf => rs_icmp_ge (tgt := 74) (pc := 36) dX2_gather_36 rfl kt kf) (fun c_36 => ?_) (fun c_36 => ?_)
    · have hie : i = sz := lp_exit esz (by omega) hi c_36
      subst hie
      refine wq_ret ?_ (rs_vret (pc := 74) dX2_gather_74 rfl)
      exact ⟨rfl, E0, T, z, hzi, hG, hcl⟩
    · have hlt : i < sz := lp_go esz (by omega) c_36
      refine wq (fun _ _ kk => rs_iload_n (pc := 39) dX2_gather_39 rfl kk) ?_
      refine wq (fun _ _ kk => rs_sipush (v := 400) (pc := 40) dX2_gather_40 rfl kk) ?_
      refine wq_br (fun _ _ kt kf => rs_icmp_ge (tgt := 74) (pc := 43) dX2_gather_43 rfl kt kf) (fun c_43 => absurd c_43 (nI_ge (b := 400) (by omega) (by decide))) (fun c_43 => ?_)
      refine wq (fun _ _ kk => rs_aload_n (pc := 46) dX2_gather_46 rfl kk) ?_
      refine wq (fun _ _ kk => rs_getf (pc := 47) dX2_gather_47 fX2_31 (mo_lt hcl (by decide)) hcl.2.1 rfl kk) ?_
      refine wq (fun _ _ kk => rs_iload_n (pc := 50) dX2_gather_50 rfl kk) ?_
      refine wq (fun _ _ kk => rs_iconst (v := -1) (pc := 51) dX2_gather_51 rfl kk) ?_
      refine wq (fun _ _ kk => rs_iast (pc := 52) dX2_gather_52 (mo_lt hcl (by decide)) (mo_geti (d := 5) (k := 6) (kd := 0) (l := 400) rfl (by decide) hcl) (vp_in_nI (n := i) (N := 400) (by omega) (by decide)) kk) ?_
      refine wq_gen (fun h_1 e_1 => ?_)
      obtain ⟨m_1, s_1, g_1, o_1⟩ := ai_e1 e_1
      replace hcl := mo_ai (tab := cl_tab) (d := 5) cl_nd rfl (by decide) (fun _ _ _ => rfl) hcl m_1 g_1 o_1
      replace hB := hB.keep m_1 (fun j _ _ => o_1 j (by omega))
      have E_1 := (E0).trans (xc_of m_1 s_1 o_1 (by decide))
      have hG0 := hG
      rw [nI_clamp (show i < 2 ^ 31 by omega)] at hcl
      have hri : i < (bk_r B).1.toInt.toNat := by rw [esz, nI_toInt (by omega)]; omega
      refine wq (fun _ _ kk => rs_aload_n (pc := 53) dX2_gather_53 rfl kk) ?_
      refine wq (fun _ _ kk => rs_iload_n (pc := 54) dX2_gather_54 rfl kk) ?_
      refine wq (fun _ _ kk => rs_iload_n (pc := 55) dX2_gather_55 rfl kk) ?_
      refine wq (fun _ _ kk => rs_callV (as := [_, _]) (pc := 56) dX2_gather_56 mk_X1_isKnown mlX2_55 in_X1_isKnown se_X1_isKnown rfl (bk_lt hB (by decide)) hB.2.1 rfl rfl (Nat.le_of_ble_eq_true rfl) (c_X1_isKnown hB _ _) kk) ?_
      refine wq_br (fun _ _ kt kf => rs_if_eq (tgt := 68) (pc := 59) dX2_gather_59 rfl kt kf) (fun c_59 => ?_) (fun c_59 => ?_)
      · refine wq (fun _ _ kk => wk_iinc3 (v := nI (i + 1)) (pc := 68) dX2_gather_68 (by decide) rfl (nI_1 i) kk) ?_
        refine wq (fun _ _ kk => rs_goto (tgt := 28) (pc := 71) dX2_gather_71 rfl kk) ?_
        first
        | exact ih (i + 1) _ _ _ (by omega) (by omega) (by omega) (E_1) (GI_skip hG0 c_59) hcl hB
        | exact ih (i + 1) _ _ z2 (by omega) (by omega) (by omega) ((E_1).trans ee_65) hG2 hcl hB
      · refine wq (fun _ _ kk => rs_aload_n (pc := 62) dX2_gather_62 rfl kk) ?_
        refine wq (fun _ _ kk => rs_aload_n (pc := 63) dX2_gather_63 rfl kk) ?_
        refine wq (fun _ _ kk => rs_iload_n (pc := 64) dX2_gather_64 rfl kk) ?_
        obtain ⟨rv_65, hc_65, ⟨rfl, ee_65, T2, z2, hz2, hG2, hcl_65⟩, hm_65⟩ := c_X2_enter hcl hB (show i < 400 by omega) hzi (GI_of i (-1) (Nat.le_refl i) hG0) c_59 (hrow i hri).1 (hrow i hri).2
        refine wq (fun _ _ kk => rs_callV (as := [_, _]) (pc := 65) dX2_gather_65 mk_X2_enter mlX2_59 in_X2_enter se_X2_enter rfl (mo_lt hcl (by decide)) hcl.2.1 rfl rfl (Nat.le_of_ble_eq_true rfl) (hm_65) kk) ?_
        replace hcl := hcl_65
        replace hB := hB.keep ee_65.1 (fun j _ _ => ee_65.2.2 j (by omega))
        refine wq (fun _ _ kk => wk_iinc3 (v := nI (i + 1)) (pc := 68) dX2_gather_68 (by decide) rfl (nI_1 i) kk) ?_
        refine wq (fun _ _ kk => rs_goto (tgt := 28) (pc := 71) dX2_gather_71 rfl kk) ?_
        first
        | exact ih (i + 1) _ _ _ (by omega) (by omega) (by omega) (E_1) (GI_skip hG0 c_59) hcl hB
        | exact ih (i + 1) _ _ z2 (by omega) (by omega) (by omega) ((E_1).trans ee_65) hG2 hcl hB
set_option maxRecDepth 100000 in
set_option maxHeartbeats 4000000 in
theorem c_X2_gather {h : ai_H} {S : Md} {B : Bk} (hcl : cl_at h S) (hB : bk_at h 1 B) (hrow : bk_rows B) {sz : Nat} (hsz : sz ≤ 400) (esz : (bk_r B).1 = nI sz) (wk : Int32) : ai_QM MX2_gather [.ref 22, .ref 1, .int wk] h (fun r g => r = none ∧ xc h g ∧ ∃ T z, z ≤ sz ∧ GI B wk T sz z ∧ cl_at g T) := by
  refine qm_of (ls := [.ref 22, .ref 1, .int wk, .float 0]) (by decide) (by simp [ai_en, Value.category]) (by rfl) ?_
  refine wq (fun _ _ kk => rs_aload_n (pc := 0) dX2_gather_0 rfl kk) ?_
  refine wq (fun _ _ kk => rs_iconst (v := 0) (pc := 1) dX2_gather_1 rfl kk) ?_
  refine wq (fun _ _ kk => rs_putf (pc := 2) dX2_gather_2 fX2_9 (mo_lt hcl (by decide)) hcl.2.1 rfl (Nat.le_of_ble_eq_true rfl) kk) ?_
  refine wq_gen (fun h_1 e_1 => ?_)
  obtain ⟨m_1, s_1, g_1, o_1⟩ := ai_e1 e_1
  replace hcl := mo_si (k := 0) hcl m_1 g_1 o_1 rfl
  replace hB := hB.keep m_1 (fun j _ _ => o_1 j (by omega))
  have E_1 := (xc.rf).trans (xc_of m_1 s_1 o_1 (by decide))
  refine wq (fun _ _ kk => rs_iconst (v := 0) (pc := 5) dX2_gather_5 rfl kk) ?_
  refine wq (fun _ _ kk => wk_istn3 (pc := 6) dX2_gather_6 (by decide) rfl kk) ?_
  refine l1_X2_gather (S := md_si S 0 0) (h := h) ?_ 81 0 _ _ (by omega) (by omega) (E_1) ⟨rfl, fun _ _ => rfl, rfl, fun n hn => absurd hn (by omega)⟩ hcl hB
  intro g T hz hcl hB E
  exact l2_X2_gather hsz esz hrow (sz + 1) 0 g T 0 (by omega) (by omega) (by omega) E (gz_GI hz rfl) hcl hB
