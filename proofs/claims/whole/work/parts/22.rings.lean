/-! 22: Sights: chains and rings; find, ringed, met (walks laid by wip/whole/p22.py) -/
/-- the last place below n that p holds of; -1: none -/
def lastc (p : Nat → Bool) : Nat → Int32
  | 0 => -1
  | n + 1 => if p n then nI n else lastc p n
theorem lastc_cases (p : Nat → Bool) : ∀ t : Nat, (lastc p t = -1 ∧ ∀ c, c < t → p c = false) ∨ ∃ t', t' < t ∧ lastc p t = nI t' ∧ p t' = true ∧ ∀ c, t' < c → c < t → p c = false
  | 0 => Or.inl ⟨rfl, fun c h => absurd h (Nat.not_lt_zero c)⟩
  | t + 1 => by
    by_cases h : p t = true
    · exact Or.inr ⟨t, Nat.lt_succ_self t, by rw [lastc, if_pos h], h, fun c h1 h2 => by omega⟩
    · have hf : p t = false := by simpa using h
      rcases lastc_cases p t with ⟨e, hn⟩ | ⟨t', h1, e, h2, h3⟩
      · refine Or.inl ⟨by rw [lastc, if_neg h]; exact e, fun c hc => ?_⟩
        by_cases z : c = t
        · rw [z]; exact hf
        · exact hn c (by omega)
      · refine Or.inr ⟨t', by omega, by rw [lastc, if_neg h]; exact e, h2, fun c a b => ?_⟩
        by_cases z : c = t
        · rw [z]; exact hf
        · exact h3 c a (by omega)
theorem lastc_skip {p : Nat → Bool} {t : Nat} : ∀ {s : Nat}, t ≤ s → (∀ c, t ≤ c → c < s → p c = false) → lastc p s = lastc p t
  | 0, h, _ => by rw [show t = 0 by omega]
  | s + 1, h, hn => by
    by_cases z : t = s + 1
    · rw [z]
    · rw [lastc, if_neg (by rw [hn s (by omega) (by omega)]; decide)]
      exact lastc_skip (by omega) (fun c a b => hn c a (by omega))
theorem lastc_none {p : Nat → Bool} {t : Nat} (h : ∀ c, c < t → p c = false) : lastc p t = -1 := lastc_skip (t := 0) (Nat.zero_le t) (fun c _ b => h c b)
theorem lastc_cong {p q : Nat → Bool} : ∀ {t : Nat}, (∀ c, c < t → p c = q c) → lastc p t = lastc q t
  | 0, _ => rfl
  | t + 1, h => by rw [lastc, lastc, h t (Nat.lt_succ_self t), lastc_cong (fun c hc => h c (by omega))]
theorem lastc_at {p : Nat → Bool} {t t' : Nat} (h1 : t' < t) (h2 : p t' = true) (h3 : ∀ c, t' < c → c < t → p c = false) : lastc p t = nI t' := by
  rw [lastc_skip (t := t' + 1) (by omega) (fun c a b => h3 c (by omega) b), lastc, if_pos h2]
theorem nI_m1 {n : Nat} (h : n < 2 ^ 31) : ¬ nI n = -1 := fun z => by
  have := congrArg Int32.toInt z
  rw [nI_toInt h] at this
  have e : (-1 : Int32).toInt = -1 := rfl
  omega
theorem bi_in_nI {c z : Nat} (h : c < z) (hz : z < 2 ^ 31) : bi_in (nI c) 0 (nI z - 1) = 1 := by
  have e : nI z - 1 = nI (z - 1) := by
    obtain ⟨y, rfl⟩ : ∃ y, z = y + 1 := ⟨z - 1, by omega⟩
    exact nI_pred y
  unfold bi_in
  rw [if_neg (nI_pos (by omega)), e, if_neg (nI_nlt (by omega) (by omega))]
theorem bi_in_m1 {z : Int32} : bi_in (-1) 0 z = 0 := by
  unfold bi_in
  rw [if_pos (by decide)]
theorem has_1 {S : Md} {z c : Nat} (ez : S.1 0 = nI z) (hz : z ≤ 400) (hc : c < z) : cl_has S (nI c) = 1 := by
  unfold cl_has
  rw [if_neg (nI_pos (by omega)), ez, if_neg (nI_ge hc (by omega))]
theorem has_m1 {S : Md} : cl_has S (-1) = 0 := by
  unfold cl_has
  rw [if_pos (by decide)]
/-- the key of a sight: night, star, way -/
def kC (S : Md) (c : Nat) : Int32 × Int32 × Int32 := (S.2.2.1 4 c, S.2.2.1 5 c, S.2.2.1 6 c)
/-- d is of c's key -/
def sk2 (S : Md) (c d : Nat) : Bool := decide (kC S d = kC S c)
/-- the first sight of its key -/
def hdp (S : Md) (c : Nat) : Bool := decide (lastc (sk2 S c) c = -1)
/-- the chains of the nights, the rings of the keys -/
def cl_ch (S : Md) (z : Nat) : Prop := S.1 0 = nI z ∧ z ≤ 400 ∧ (∀ n, n < 80 → S.2.2.1 1 n = lastc (fun c => decide (S.2.2.1 4 c = nI n) && hdp S c) z)
  ∧ (∀ c, c < z → hdp S c = true → S.2.2.1 2 c = lastc (fun d => decide (S.2.2.1 4 d = S.2.2.1 4 c) && hdp S d) c)
  ∧ (∀ c, c < z → S.2.2.1 3 c = if hdp S c = true then lastc (sk2 S c) z else lastc (sk2 S c) c)
  ∧ ∀ c d, c < z → d < z → kC S c = kC S d → S.2.2.1 7 c = S.2.2.1 7 d → c = d
theorem cl_ch.sz {S : Md} {z : Nat} (h : cl_ch S z) : cl_sz S := by
  unfold cl_sz
  rw [h.1, nI_toInt (by have := h.2.1; omega)]
  have := h.2.1
  omega
def cl_key (S : Md) (n s w : Int32) (c : Nat) : Bool := decide (kC S c = (n, s, w)) && hdp S c
/-- where a sight stands in the ring, as seen from x -/
def rk (z x d : Nat) : Nat := if d ≤ x then x - d else x + z - d
theorem rk_lt {z x d : Nat} (hx : x < z) (hd : d < z) : rk z x d < z := by
  unfold rk
  split <;> omega
theorem rk_inj {z x c d : Nat} (hx : x < z) (hc : c < z) (hd : d < z) (e : rk z x c = rk z x d) : c = d := by
  unfold rk at e
  split at e <;> split at e <;> omega
theorem rk_x {z x : Nat} : rk z x x = 0 := by
  unfold rk
  rw [if_pos (Nat.le_refl x)]
  omega
/-- the next in the ring -/
theorem nx {S : Md} {z x c : Nat} (hch : cl_ch S z) (hx : x < z) (hc : c < z) (hk : kC S c = kC S x) : ∃ c', c' < z ∧ S.2.2.1 3 c = nI c' ∧ kC S c' = kC S x ∧ ((c' = x ∧ ∀ d, d < z → kC S d = kC S x → rk z x d ≤ rk z x c) ∨ (c' ≠ x ∧ rk z x c < rk z x c' ∧ ∀ d, d < z → kC S d = kC S x → rk z x d ≤ rk z x c ∨ rk z x c' ≤ rk z x d)) := by
  have hb := hch.2.2.2.2.1 c hc
  by_cases hh : hdp S c = true
  · rw [if_pos hh] at hb
    simp only [hdp, decide_eq_true_eq] at hh
    have hlo : ∀ d, d < c → ¬ kC S d = kC S x := fun d hd e => by
      rcases lastc_cases (sk2 S c) c with ⟨-, hn⟩ | ⟨t, h1, h2, -, -⟩
      · have := hn d hd
        simp only [sk2, decide_eq_false_iff_not] at this
        exact this (e.trans hk.symm)
      · rw [h2] at hh
        exact nI_m1 (by have := hch.2.1; omega) hh
    rcases lastc_cases (sk2 S c) z with ⟨-, hn⟩ | ⟨t, h1, h2, h3, h4⟩
    · have := hn c hc
      simp [sk2] at this
    · simp only [sk2, decide_eq_true_eq] at h3
      have hup : ∀ d, t < d → d < z → ¬ kC S d = kC S x := fun d hd hz e => by
        have := h4 d hd hz
        simp only [sk2, decide_eq_false_iff_not] at this
        exact this (e.trans hk.symm)
      have htx : kC S t = kC S x := h3.trans hk
      have h5 : ¬ x < c := fun q => hlo x q rfl
      have h6 : ¬ t < x := fun q => hup x q hx rfl
      refine ⟨t, h1, hb.trans h2, htx, ?_⟩
      by_cases e : t = x
      · refine Or.inl ⟨e, fun d hd he => ?_⟩
        have a1 : ¬ d < c := fun q => hlo d q he
        have a2 : ¬ t < d := fun q => hup d q hd he
        unfold rk
        rw [if_pos (by omega), if_pos (by omega)]
        omega
      · refine Or.inr ⟨e, ?_, fun d hd he => ?_⟩
        · unfold rk
          rw [if_pos (by omega), if_neg (by omega)]
          omega
        · have a1 : ¬ d < c := fun q => hlo d q he
          have a2 : ¬ t < d := fun q => hup d q hd he
          unfold rk
          rw [if_pos (show c ≤ x by omega), if_neg (show ¬ t ≤ x by omega)]
          split <;> omega
  · rw [if_neg hh] at hb
    simp only [hdp, decide_eq_true_eq] at hh
    rcases lastc_cases (sk2 S c) c with ⟨e0, -⟩ | ⟨t, h1, h2, h3, h4⟩
    · exact absurd e0 hh
    · simp only [sk2, decide_eq_true_eq] at h3
      have hup : ∀ d, t < d → d < c → ¬ kC S d = kC S x := fun d hd hz e => by
        have := h4 d hd hz
        simp only [sk2, decide_eq_false_iff_not] at this
        exact this (e.trans hk.symm)
      refine ⟨t, by omega, hb.trans h2, h3.trans hk, ?_⟩
      have h6 : ¬ (t < x ∧ x < c) := fun q => hup x q.1 q.2 rfl
      by_cases e : t = x
      · refine Or.inl ⟨e, fun d hd he => ?_⟩
        have a2 : ¬ (t < d ∧ d < c) := fun q => hup d q.1 q.2 he
        unfold rk
        rw [if_neg (show ¬ c ≤ x by omega)]
        split <;> omega
      · refine Or.inr ⟨e, ?_, fun d hd he => ?_⟩
        · unfold rk
          split <;> split <;> omega
        · have a2 : ¬ (t < d ∧ d < c) := fun q => hup d q.1 q.2 he
          unfold rk
          split <;> split <;> split <;> omega
/-- the sight of o in x's ring -/
def mo (S : Md) (z x : Nat) (o : Int32) : Int32 := lastc (fun d => decide (kC S d = kC S x ∧ S.2.2.1 7 d = o)) z
theorem mo_is {S : Md} {z x d : Nat} {o : Int32} (hch : cl_ch S z) (hd : d < z) (h1 : kC S d = kC S x) (h2 : S.2.2.1 7 d = o) : mo S z x o = nI d := by
  refine lastc_at hd (by simp [h1, h2]) (fun c a b => ?_)
  simp only [decide_eq_false_iff_not]
  exact fun q => by have := hch.2.2.2.2.2 c d b hd (q.1.trans h1.symm) (q.2.trans h2.symm); omega
theorem mo_cases (S : Md) (z x : Nat) (o : Int32) : (mo S z x o = -1 ∧ ∀ d, d < z → kC S d = kC S x → ¬ S.2.2.1 7 d = o) ∨ ∃ d, d < z ∧ mo S z x o = nI d ∧ kC S d = kC S x ∧ S.2.2.1 7 d = o := by
  rcases lastc_cases (fun d => decide (kC S d = kC S x ∧ S.2.2.1 7 d = o)) z with ⟨e, hn⟩ | ⟨t, h1, h2, h3, -⟩
  · refine Or.inl ⟨e, fun d hd h1 h2 => ?_⟩
    have := hn d hd
    simp only [decide_eq_false_iff_not] at this
    exact this ⟨h1, h2⟩
  · simp only [decide_eq_true_eq] at h3
    exact Or.inr ⟨t, h1, h2, h3.1, h3.2⟩
def cl_met (S : Md) (z x : Nat) (o : Int32) : Int32 := if S.2.2.1 6 x = 3 then -1 else mo S z x o
theorem dX2_find_0 : decode cX2_find 0 = .ok (.iload_n 1, 1) := by decide +kernel
theorem dX2_find_1 : decode cX2_find 1 = .ok (.iconst 0, 1) := by decide +kernel
theorem dX2_find_2 : decode cX2_find 2 = .ok (.bipush 79, 2) := by decide +kernel
theorem dX2_find_4 : decode cX2_find 4 = .ok (.invokestatic 95, 3) := by decide +kernel
theorem dX2_find_7 : decode cX2_find 7 = .ok (.ifCond .eq 12, 3) := by decide +kernel
theorem dX2_find_10 : decode cX2_find 10 = .ok (.aload_n 0, 1) := by decide +kernel
theorem dX2_find_11 : decode cX2_find 11 = .ok (.getfield 15, 3) := by decide +kernel
theorem dX2_find_14 : decode cX2_find 14 = .ok (.iload_n 1, 1) := by decide +kernel
theorem dX2_find_15 : decode cX2_find 15 = .ok (.iaload, 1) := by decide +kernel
theorem dX2_find_16 : decode cX2_find 16 = .ok (.goto 4, 3) := by decide +kernel
theorem dX2_find_19 : decode cX2_find 19 = .ok (.iconst (-1), 1) := by decide +kernel
theorem dX2_find_20 : decode cX2_find 20 = .ok (.istore 4, 2) := by decide +kernel
theorem dX2_find_22 : decode cX2_find 22 = .ok (.iconst 0, 1) := by decide +kernel
theorem dX2_find_23 : decode cX2_find 23 = .ok (.istore 5, 2) := by decide +kernel
theorem dX2_find_25 : decode cX2_find 25 = .ok (.iload 5, 2) := by decide +kernel
theorem dX2_find_27 : decode cX2_find 27 = .ok (.aload_n 0, 1) := by decide +kernel
theorem dX2_find_28 : decode cX2_find 28 = .ok (.getfield 9, 3) := by decide +kernel
theorem dX2_find_31 : decode cX2_find 31 = .ok (.if_icmp .ge 52, 3) := by decide +kernel
theorem dX2_find_34 : decode cX2_find 34 = .ok (.aload_n 0, 1) := by decide +kernel
theorem dX2_find_35 : decode cX2_find 35 = .ok (.iload 4, 2) := by decide +kernel
theorem dX2_find_37 : decode cX2_find 37 = .ok (.invokevirtual 88, 3) := by decide +kernel
theorem dX2_find_40 : decode cX2_find 40 = .ok (.ifCond .eq 43, 3) := by decide +kernel
theorem dX2_find_43 : decode cX2_find 43 = .ok (.aload_n 0, 1) := by decide +kernel
theorem dX2_find_44 : decode cX2_find 44 = .ok (.getfield 28, 3) := by decide +kernel
theorem dX2_find_47 : decode cX2_find 47 = .ok (.iload 4, 2) := by decide +kernel
theorem dX2_find_49 : decode cX2_find 49 = .ok (.iaload, 1) := by decide +kernel
theorem dX2_find_50 : decode cX2_find 50 = .ok (.iload_n 2, 1) := by decide +kernel
theorem dX2_find_51 : decode cX2_find 51 = .ok (.if_icmp .ne 17, 3) := by decide +kernel
theorem dX2_find_54 : decode cX2_find 54 = .ok (.aload_n 0, 1) := by decide +kernel
theorem dX2_find_55 : decode cX2_find 55 = .ok (.getfield 31, 3) := by decide +kernel
theorem dX2_find_58 : decode cX2_find 58 = .ok (.iload 4, 2) := by decide +kernel
theorem dX2_find_60 : decode cX2_find 60 = .ok (.iaload, 1) := by decide +kernel
theorem dX2_find_61 : decode cX2_find 61 = .ok (.iload_n 3, 1) := by decide +kernel
theorem dX2_find_62 : decode cX2_find 62 = .ok (.if_icmp .ne 6, 3) := by decide +kernel
theorem dX2_find_65 : decode cX2_find 65 = .ok (.iload 4, 2) := by decide +kernel
theorem dX2_find_67 : decode cX2_find 67 = .ok (.ireturn, 1) := by decide +kernel
theorem dX2_find_68 : decode cX2_find 68 = .ok (.aload_n 0, 1) := by decide +kernel
theorem dX2_find_69 : decode cX2_find 69 = .ok (.getfield 19, 3) := by decide +kernel
theorem dX2_find_72 : decode cX2_find 72 = .ok (.iload 4, 2) := by decide +kernel
theorem dX2_find_74 : decode cX2_find 74 = .ok (.iaload, 1) := by decide +kernel
theorem dX2_find_75 : decode cX2_find 75 = .ok (.istore 4, 2) := by decide +kernel
theorem dX2_find_77 : decode cX2_find 77 = .ok (.iinc 5 1, 3) := by decide +kernel
theorem dX2_find_80 : decode cX2_find 80 = .ok (.goto (-55), 3) := by decide +kernel
theorem dX2_find_83 : decode cX2_find 83 = .ok (.iconst (-1), 1) := by decide +kernel
theorem dX2_find_84 : decode cX2_find 84 = .ok (.ireturn, 1) := by decide +kernel
set_option maxRecDepth 100000 in
set_option maxHeartbeats 4000000 in
theorem l_X2_find {h : ai_H} {S : Md} (hcl : cl_at h S) {z0 nn : Nat} (hch : cl_ch S z0) (hnn : nn < 80) (s w : Int32) : ∀ (m i t : Nat), t + 1 ≤ m → i + t ≤ z0 → lastc (cl_key S (nI nn) s w) z0 = lastc (cl_key S (nI nn) s w) t → ai_R MX2_find 25 [.ref 22, .int (nI nn), .int s, .int w, .int (lastc (fun c => decide (S.2.2.1 4 c = nI nn) && hdp S c) t), .int (nI i)] [] h (some (.int (lastc (cl_key S (nI nn) s w) z0))) h := by
  have ez := hch.1
  have hz4 := hch.2.1
  have hkn : ∀ d, (decide (S.2.2.1 4 d = nI nn) && hdp S d) = false → cl_key S (nI nn) s w d = false := fun d hd => by
    rw [Bool.and_eq_false_iff, decide_eq_false_iff_not] at hd
    rcases hd with hd | hd
    · simp [cl_key, kC, hd]
    · simp [cl_key, hd]
  intro m
  induction m with
  | zero => intro i t h1; exact absurd h1 (by omega)
  | succ m ih =>
    intro i t htm hit hk
    rcases lastc_cases (fun c => decide (S.2.2.1 4 c = nI nn) && hdp S c) t with ⟨e0, hno⟩ | ⟨c, hct, e0, hpc, hno⟩
    · rw [e0]
      replace hkn : ∀ c, c < t → cl_key S (nI nn) s w c = false := fun c hc => hkn c (hno c hc)
      refine rs_iload (pc := 25) dX2_find_25 rfl ?_
      refine rs_aload_n (pc := 27) dX2_find_27 rfl ?_
      refine rs_getf (pc := 28) dX2_find_28 fX2_9 (mo_lt hcl (by decide)) hcl.2.1 rfl ?_
      refine rs_icmp_ge (tgt := 83) (pc := 31) dX2_find_31 rfl (fun c_31 => ?_) (fun c_31 => ?_)
      · refine rs_iconst (v := -1) (pc := 83) dX2_find_83 rfl ?_
        exact wk_iret (pc := 84) dX2_find_84 rfl (by rw [hk, lastc_none (fun c hc => hkn c hc)]) (rfl)
      · refine rs_aload_n (pc := 34) dX2_find_34 rfl ?_
        refine rs_iload (pc := 35) dX2_find_35 rfl ?_
        refine rs_callV (as := [_]) (pc := 37) dX2_find_37 mk_X2_has mlX2_88 in_X2_has se_X2_has rfl (mo_lt hcl (by decide)) hcl.2.1 rfl rfl (Nat.le_of_ble_eq_true rfl) (c_X2_has hcl _) ?_
        refine rs_if_eq (tgt := 83) (pc := 40) dX2_find_40 rfl (fun c_40 => ?_) (fun c_40 => absurd c_40 (fun z => z has_m1))
        refine rs_iconst (v := -1) (pc := 83) dX2_find_83 rfl ?_
        exact wk_iret (pc := 84) dX2_find_84 rfl (by rw [hk, lastc_none (fun c hc => hkn c hc)]) (rfl)
    · rw [e0]
      rw [Bool.and_eq_true, decide_eq_true_eq] at hpc
      obtain ⟨hpc, hhc⟩ := hpc
      refine rs_iload (pc := 25) dX2_find_25 rfl ?_
      refine rs_aload_n (pc := 27) dX2_find_27 rfl ?_
      refine rs_getf (pc := 28) dX2_find_28 fX2_9 (mo_lt hcl (by decide)) hcl.2.1 rfl ?_
      refine rs_icmp_ge (tgt := 83) (pc := 31) dX2_find_31 rfl (fun c_31 => absurd c_31 (fun z => by have := lp_exit (i := i) (sz := z0) ez (by omega) (by omega) z; omega)) (fun c_31 => ?_)
      refine rs_aload_n (pc := 34) dX2_find_34 rfl ?_
      refine rs_iload (pc := 35) dX2_find_35 rfl ?_
      refine rs_callV (as := [_]) (pc := 37) dX2_find_37 mk_X2_has mlX2_88 in_X2_has se_X2_has rfl (mo_lt hcl (by decide)) hcl.2.1 rfl rfl (Nat.le_of_ble_eq_true rfl) (c_X2_has hcl _) ?_
      refine rs_if_eq (tgt := 83) (pc := 40) dX2_find_40 rfl (fun c_40 => absurd c_40 (by rw [has_1 ez hz4 (by omega)]; decide)) (fun c_40 => ?_)
      refine rs_aload_n (pc := 43) dX2_find_43 rfl ?_
      refine rs_getf (pc := 44) dX2_find_44 fX2_28 (mo_lt hcl (by decide)) hcl.2.1 rfl ?_
      refine rs_iload (pc := 47) dX2_find_47 rfl ?_
      refine rs_iald (pc := 49) dX2_find_49 (mo_lt hcl (by decide)) (mo_geti (d := 4) (k := 5) (kd := 0) (l := 400) rfl (by decide) hcl) (vp_in_nI (n := c) (N := 400) (by omega) (by decide)) ?_
      rw [nI_clamp (show c < 2 ^ 31 by omega)]
      refine rs_iload_n (pc := 50) dX2_find_50 rfl ?_
      refine rs_icmp_ne (tgt := 68) (pc := 51) dX2_find_51 rfl (fun c_51 => ?_) (fun c_51 => ?_)
      · refine rs_aload_n (pc := 68) dX2_find_68 rfl ?_
        refine rs_getf (pc := 69) dX2_find_69 fX2_19 (mo_lt hcl (by decide)) hcl.2.1 rfl ?_
        refine rs_iload (pc := 72) dX2_find_72 rfl ?_
        refine rs_iald (pc := 74) dX2_find_74 (mo_lt hcl (by decide)) (mo_geti (d := 1) (k := 2) (kd := 0) (l := 400) rfl (by decide) hcl) (vp_in_nI (n := c) (N := 400) (by omega) (by decide)) ?_
        rw [nI_clamp (show c < 2 ^ 31 by omega), hch.2.2.2.1 c (by omega) hhc, show (fun d => decide (S.2.2.1 4 d = S.2.2.1 4 c) && hdp S d) = (fun d => decide (S.2.2.1 4 d = nI nn) && hdp S d) from by funext d; rw [hpc]]
        refine wk_ist4 (pc := 75) dX2_find_75 (by decide) rfl ?_
        refine wk_iinc5 (v := nI (i + 1)) (pc := 77) dX2_find_77 (by decide) rfl (nI_1 i) ?_
        refine rs_goto (tgt := 25) (pc := 80) dX2_find_80 rfl ?_
        exact ih (i + 1) c (by omega) (by omega) (by rw [hk]; exact lastc_skip (by omega) (fun d a b => by
          by_cases zz : d = c
          · subst zz; simp [cl_key, kC, c_51]
          · exact hkn d (hno d (by omega) b)))
      · refine rs_aload_n (pc := 54) dX2_find_54 rfl ?_
        refine rs_getf (pc := 55) dX2_find_55 fX2_31 (mo_lt hcl (by decide)) hcl.2.1 rfl ?_
        refine rs_iload (pc := 58) dX2_find_58 rfl ?_
        refine rs_iald (pc := 60) dX2_find_60 (mo_lt hcl (by decide)) (mo_geti (d := 5) (k := 6) (kd := 0) (l := 400) rfl (by decide) hcl) (vp_in_nI (n := c) (N := 400) (by omega) (by decide)) ?_
        rw [nI_clamp (show c < 2 ^ 31 by omega)]
        refine rs_iload_n (pc := 61) dX2_find_61 rfl ?_
        refine rs_icmp_ne (tgt := 68) (pc := 62) dX2_find_62 rfl (fun c_62 => ?_) (fun c_62 => ?_)
        · refine rs_aload_n (pc := 68) dX2_find_68 rfl ?_
          refine rs_getf (pc := 69) dX2_find_69 fX2_19 (mo_lt hcl (by decide)) hcl.2.1 rfl ?_
          refine rs_iload (pc := 72) dX2_find_72 rfl ?_
          refine rs_iald (pc := 74) dX2_find_74 (mo_lt hcl (by decide)) (mo_geti (d := 1) (k := 2) (kd := 0) (l := 400) rfl (by decide) hcl) (vp_in_nI (n := c) (N := 400) (by omega) (by decide)) ?_
          rw [nI_clamp (show c < 2 ^ 31 by omega), hch.2.2.2.1 c (by omega) hhc, show (fun d => decide (S.2.2.1 4 d = S.2.2.1 4 c) && hdp S d) = (fun d => decide (S.2.2.1 4 d = nI nn) && hdp S d) from by funext d; rw [hpc]]
          refine wk_ist4 (pc := 75) dX2_find_75 (by decide) rfl ?_
          refine wk_iinc5 (v := nI (i + 1)) (pc := 77) dX2_find_77 (by decide) rfl (nI_1 i) ?_
          refine rs_goto (tgt := 25) (pc := 80) dX2_find_80 rfl ?_
          exact ih (i + 1) c (by omega) (by omega) (by rw [hk]; exact lastc_skip (by omega) (fun d a b => by
            by_cases zz : d = c
            · subst zz; simp [cl_key, kC, c_51, c_62]
            · exact hkn d (hno d (by omega) b)))
        · refine rs_iload (pc := 65) dX2_find_65 rfl ?_
          exact wk_iret (pc := 67) dX2_find_67 rfl (by rw [hk, lastc_at hct (by simp [cl_key, kC, hpc, hhc, c_51, c_62]) (fun d a b => hkn d (hno d a b))]) (rfl)
set_option maxRecDepth 100000 in
set_option maxHeartbeats 4000000 in
theorem c_X2_find {h : ai_H} {S : Md} (hcl : cl_at h S) {z0 nn : Nat} (hch : cl_ch S z0) (hnn : nn < 80) (s w : Int32) : ai_Met MX2_find [.ref 22, .int (nI nn), .int s, .int w] h (some (.int (lastc (cl_key S (nI nn) s w) z0))) h := by
  refine ai_met (ls := [.ref 22, .int (nI nn), .int s, .int w, .float 0, .float 0]) (by decide) (by simp [ai_en, Value.category]) (by rfl) ?_
  refine rs_iload_n (pc := 0) dX2_find_0 rfl ?_
  refine rs_iconst (v := 0) (pc := 1) dX2_find_1 rfl ?_
  refine rs_bipush (v := 79) (pc := 2) dX2_find_2 rfl ?_
  refine rs_callS (as := [_, _, _]) (pc := 4) dX2_find_4 mk_X11_isWithin mlX2_95 st_X11_isWithin rfl rfl (Nat.le_of_ble_eq_true rfl) (c_X11_isWithin) ?_
  refine rs_if_eq (tgt := 19) (pc := 7) dX2_find_7 rfl (fun c_7 => absurd c_7 (by rw [show bi_in (nI nn) 0 79 = 1 from bi_in_nI (z := 80) hnn (by decide)]; decide)) (fun c_7 => ?_)
  refine rs_aload_n (pc := 10) dX2_find_10 rfl ?_
  refine rs_getf (pc := 11) dX2_find_11 fX2_15 (mo_lt hcl (by decide)) hcl.2.1 rfl ?_
  refine rs_iload_n (pc := 14) dX2_find_14 rfl ?_
  refine rs_iald (pc := 15) dX2_find_15 (mo_lt hcl (by decide)) (mo_geti (d := 0) (k := 1) (kd := 0) (l := 80) rfl (by decide) hcl) (vp_in_nI hnn (by decide)) ?_
  rw [nI_clamp (show nn < 2 ^ 31 by omega), hch.2.2.1 nn hnn]
  refine rs_goto (tgt := 20) (pc := 16) dX2_find_16 rfl ?_
  refine wk_ist4 (pc := 20) dX2_find_20 (by decide) rfl ?_
  refine rs_iconst (v := 0) (pc := 22) dX2_find_22 rfl ?_
  refine wk_ist5 (pc := 23) dX2_find_23 (by decide) rfl ?_
  exact l_X2_find hcl hch hnn s w (z0 + 1) 0 z0 (by omega) (by omega) rfl
theorem dX2_ringed_0 : decode cX2_ringed 0 = .ok (.iload_n 1, 1) := by decide +kernel
theorem dX2_ringed_1 : decode cX2_ringed 1 = .ok (.istore_n 3, 1) := by decide +kernel
theorem dX2_ringed_2 : decode cX2_ringed 2 = .ok (.iconst 0, 1) := by decide +kernel
theorem dX2_ringed_3 : decode cX2_ringed 3 = .ok (.istore 4, 2) := by decide +kernel
theorem dX2_ringed_5 : decode cX2_ringed 5 = .ok (.iload 4, 2) := by decide +kernel
theorem dX2_ringed_7 : decode cX2_ringed 7 = .ok (.aload_n 0, 1) := by decide +kernel
theorem dX2_ringed_8 : decode cX2_ringed 8 = .ok (.getfield 9, 3) := by decide +kernel
theorem dX2_ringed_11 : decode cX2_ringed 11 = .ok (.if_icmp .ge 50, 3) := by decide +kernel
theorem dX2_ringed_14 : decode cX2_ringed 14 = .ok (.aload_n 0, 1) := by decide +kernel
theorem dX2_ringed_15 : decode cX2_ringed 15 = .ok (.iload_n 3, 1) := by decide +kernel
theorem dX2_ringed_16 : decode cX2_ringed 16 = .ok (.invokevirtual 88, 3) := by decide +kernel
theorem dX2_ringed_19 : decode cX2_ringed 19 = .ok (.ifCond .eq 42, 3) := by decide +kernel
theorem dX2_ringed_22 : decode cX2_ringed 22 = .ok (.aload_n 0, 1) := by decide +kernel
theorem dX2_ringed_23 : decode cX2_ringed 23 = .ok (.getfield 34, 3) := by decide +kernel
theorem dX2_ringed_26 : decode cX2_ringed 26 = .ok (.iload_n 3, 1) := by decide +kernel
theorem dX2_ringed_27 : decode cX2_ringed 27 = .ok (.iaload, 1) := by decide +kernel
theorem dX2_ringed_28 : decode cX2_ringed 28 = .ok (.iload_n 2, 1) := by decide +kernel
theorem dX2_ringed_29 : decode cX2_ringed 29 = .ok (.if_icmp .ne 5, 3) := by decide +kernel
theorem dX2_ringed_32 : decode cX2_ringed 32 = .ok (.iload_n 3, 1) := by decide +kernel
theorem dX2_ringed_33 : decode cX2_ringed 33 = .ok (.ireturn, 1) := by decide +kernel
theorem dX2_ringed_34 : decode cX2_ringed 34 = .ok (.aload_n 0, 1) := by decide +kernel
theorem dX2_ringed_35 : decode cX2_ringed 35 = .ok (.getfield 22, 3) := by decide +kernel
theorem dX2_ringed_38 : decode cX2_ringed 38 = .ok (.iload_n 3, 1) := by decide +kernel
theorem dX2_ringed_39 : decode cX2_ringed 39 = .ok (.iaload, 1) := by decide +kernel
theorem dX2_ringed_40 : decode cX2_ringed 40 = .ok (.iload_n 1, 1) := by decide +kernel
theorem dX2_ringed_41 : decode cX2_ringed 41 = .ok (.if_icmp .ne 7, 3) := by decide +kernel
theorem dX2_ringed_44 : decode cX2_ringed 44 = .ok (.iconst (-1), 1) := by decide +kernel
theorem dX2_ringed_45 : decode cX2_ringed 45 = .ok (.goto 9, 3) := by decide +kernel
theorem dX2_ringed_48 : decode cX2_ringed 48 = .ok (.aload_n 0, 1) := by decide +kernel
theorem dX2_ringed_49 : decode cX2_ringed 49 = .ok (.getfield 22, 3) := by decide +kernel
theorem dX2_ringed_52 : decode cX2_ringed 52 = .ok (.iload_n 3, 1) := by decide +kernel
theorem dX2_ringed_53 : decode cX2_ringed 53 = .ok (.iaload, 1) := by decide +kernel
theorem dX2_ringed_54 : decode cX2_ringed 54 = .ok (.istore_n 3, 1) := by decide +kernel
theorem dX2_ringed_55 : decode cX2_ringed 55 = .ok (.iinc 4 1, 3) := by decide +kernel
theorem dX2_ringed_58 : decode cX2_ringed 58 = .ok (.goto (-53), 3) := by decide +kernel
theorem dX2_ringed_61 : decode cX2_ringed 61 = .ok (.iconst (-1), 1) := by decide +kernel
theorem dX2_ringed_62 : decode cX2_ringed 62 = .ok (.ireturn, 1) := by decide +kernel
set_option maxRecDepth 100000 in
set_option maxHeartbeats 4000000 in
theorem n_X2_ringed {h : ai_H} {S : Md} (hcl : cl_at h S) (x i o : Int32) : ai_R MX2_ringed 5 [.ref 22, .int x, .int o, .int (-1), .int i] [] h (some (.int (-1))) h := by
  refine rs_iload (pc := 5) dX2_ringed_5 rfl ?_
  refine rs_aload_n (pc := 7) dX2_ringed_7 rfl ?_
  refine rs_getf (pc := 8) dX2_ringed_8 fX2_9 (mo_lt hcl (by decide)) hcl.2.1 rfl ?_
  refine rs_icmp_ge (tgt := 61) (pc := 11) dX2_ringed_11 rfl (fun c_11 => ?_) (fun c_11 => ?_)
  · refine rs_iconst (v := -1) (pc := 61) dX2_ringed_61 rfl ?_
    exact wk_iret (pc := 62) dX2_ringed_62 rfl (rfl) (rfl)
  · refine rs_aload_n (pc := 14) dX2_ringed_14 rfl ?_
    refine rs_iload_n (pc := 15) dX2_ringed_15 rfl ?_
    refine rs_callV (as := [_]) (pc := 16) dX2_ringed_16 mk_X2_has mlX2_88 in_X2_has se_X2_has rfl (mo_lt hcl (by decide)) hcl.2.1 rfl rfl (Nat.le_of_ble_eq_true rfl) (c_X2_has hcl _) ?_
    refine rs_if_eq (tgt := 61) (pc := 19) dX2_ringed_19 rfl (fun c_19 => ?_) (fun c_19 => absurd c_19 (fun z => z has_m1))
    refine rs_iconst (v := -1) (pc := 61) dX2_ringed_61 rfl ?_
    exact wk_iret (pc := 62) dX2_ringed_62 rfl (rfl) (rfl)
set_option maxRecDepth 100000 in
set_option maxHeartbeats 4000000 in
theorem c_X2_ringed0 {h : ai_H} {S : Md} (hcl : cl_at h S) (o : Int32) : ai_Met MX2_ringed [.ref 22, .int (-1), .int o] h (some (.int (-1))) h := by
  refine ai_met (ls := [.ref 22, .int (-1), .int o, .float 0, .float 0]) (by decide) (by simp [ai_en, Value.category]) (by rfl) ?_
  refine rs_iload_n (pc := 0) dX2_ringed_0 rfl ?_
  refine wk_istn3 (pc := 1) dX2_ringed_1 (by decide) rfl ?_
  refine rs_iconst (v := 0) (pc := 2) dX2_ringed_2 rfl ?_
  refine wk_ist4 (pc := 3) dX2_ringed_3 (by decide) rfl ?_
  exact n_X2_ringed hcl _ _ _
set_option maxRecDepth 100000 in
set_option maxHeartbeats 4000000 in
theorem l_X2_ringed {h : ai_H} {S : Md} (hcl : cl_at h S) {z0 x : Nat} (hch : cl_ch S z0) (hx : x < z0) (o : Int32) : ∀ (m i c : Nat), c < z0 → kC S c = kC S x → z0 + 1 ≤ rk z0 x c + m → i ≤ rk z0 x c → (∀ d, d < z0 → kC S d = kC S x → rk z0 x d < rk z0 x c → ¬ S.2.2.1 7 d = o) → ai_R MX2_ringed 5 [.ref 22, .int (nI x), .int o, .int (nI c), .int (nI i)] [] h (some (.int (mo S z0 x o))) h := by
  have ez := hch.1
  have hz4 := hch.2.1
  intro m
  induction m with
  | zero => intro i c h1 h2 h3; exact absurd h3 (by have := rk_lt hx h1; omega)
  | succ m ih =>
    intro i c hc hk him hir hno
    have hrk := rk_lt hx hc
    obtain ⟨c', hc', eb, hk', hnx⟩ := nx hch hx hc hk
    refine rs_iload (pc := 5) dX2_ringed_5 rfl ?_
    refine rs_aload_n (pc := 7) dX2_ringed_7 rfl ?_
    refine rs_getf (pc := 8) dX2_ringed_8 fX2_9 (mo_lt hcl (by decide)) hcl.2.1 rfl ?_
    refine rs_icmp_ge (tgt := 61) (pc := 11) dX2_ringed_11 rfl (fun c_11 => absurd c_11 (fun z => by have := lp_exit (i := i) (sz := z0) ez (by omega) (by omega) z; omega)) (fun c_11 => ?_)
    refine rs_aload_n (pc := 14) dX2_ringed_14 rfl ?_
    refine rs_iload_n (pc := 15) dX2_ringed_15 rfl ?_
    refine rs_callV (as := [_]) (pc := 16) dX2_ringed_16 mk_X2_has mlX2_88 in_X2_has se_X2_has rfl (mo_lt hcl (by decide)) hcl.2.1 rfl rfl (Nat.le_of_ble_eq_true rfl) (c_X2_has hcl _) ?_
    refine rs_if_eq (tgt := 61) (pc := 19) dX2_ringed_19 rfl (fun c_19 => absurd c_19 (by rw [has_1 ez hz4 hc]; decide)) (fun c_19 => ?_)
    refine rs_aload_n (pc := 22) dX2_ringed_22 rfl ?_
    refine rs_getf (pc := 23) dX2_ringed_23 fX2_34 (mo_lt hcl (by decide)) hcl.2.1 rfl ?_
    refine rs_iload_n (pc := 26) dX2_ringed_26 rfl ?_
    refine rs_iald (pc := 27) dX2_ringed_27 (mo_lt hcl (by decide)) (mo_geti (d := 6) (k := 7) (kd := 0) (l := 400) rfl (by decide) hcl) (vp_in_nI (n := c) (N := 400) (by omega) (by decide)) ?_
    rw [nI_clamp (show c < 2 ^ 31 by omega)]
    refine rs_iload_n (pc := 28) dX2_ringed_28 rfl ?_
    refine rs_icmp_ne (tgt := 34) (pc := 29) dX2_ringed_29 rfl (fun c_29 => ?_) (fun c_29 => ?_)
    · refine rs_aload_n (pc := 34) dX2_ringed_34 rfl ?_
      refine rs_getf (pc := 35) dX2_ringed_35 fX2_22 (mo_lt hcl (by decide)) hcl.2.1 rfl ?_
      refine rs_iload_n (pc := 38) dX2_ringed_38 rfl ?_
      refine rs_iald (pc := 39) dX2_ringed_39 (mo_lt hcl (by decide)) (mo_geti (d := 2) (k := 3) (kd := 0) (l := 400) rfl (by decide) hcl) (vp_in_nI (n := c) (N := 400) (by omega) (by decide)) ?_
      rw [nI_clamp (show c < 2 ^ 31 by omega), eb]
      refine rs_iload_n (pc := 40) dX2_ringed_40 rfl ?_
      refine rs_icmp_ne (tgt := 48) (pc := 41) dX2_ringed_41 rfl (fun c_41 => ?_) (fun c_41 => ?_)
      · have hcx : ¬ c' = x := fun z => c_41 (by rw [z])
        refine rs_aload_n (pc := 48) dX2_ringed_48 rfl ?_
        refine rs_getf (pc := 49) dX2_ringed_49 fX2_22 (mo_lt hcl (by decide)) hcl.2.1 rfl ?_
        refine rs_iload_n (pc := 52) dX2_ringed_52 rfl ?_
        refine rs_iald (pc := 53) dX2_ringed_53 (mo_lt hcl (by decide)) (mo_geti (d := 2) (k := 3) (kd := 0) (l := 400) rfl (by decide) hcl) (vp_in_nI (n := c) (N := 400) (by omega) (by decide)) ?_
        rw [nI_clamp (show c < 2 ^ 31 by omega), eb]
        refine wk_istn3 (pc := 54) dX2_ringed_54 (by decide) rfl ?_
        refine wk_iinc4 (v := nI (i + 1)) (pc := 55) dX2_ringed_55 (by decide) rfl (nI_1 i) ?_
        refine rs_goto (tgt := 5) (pc := 58) dX2_ringed_58 rfl ?_
        rcases hnx with ⟨q1, -⟩ | ⟨-, q2, q3⟩
        · exact absurd q1 hcx
        · refine ih (i + 1) c' hc' hk' (by omega) (by omega) (fun d hd he hr => ?_)
          rcases q3 d hd he with q4 | q4
          · by_cases q5 : rk z0 x d < rk z0 x c
            · exact hno d hd he q5
            · have q6 := rk_inj hx hd hc (by omega)
              subst q6
              exact c_29
          · omega
      · have hcx : c' = x := (nI_eq (by omega) (by omega)).mp c_41
        refine rs_iconst (v := -1) (pc := 44) dX2_ringed_44 rfl ?_
        refine rs_goto (tgt := 54) (pc := 45) dX2_ringed_45 rfl ?_
        refine wk_istn3 (pc := 54) dX2_ringed_54 (by decide) rfl ?_
        refine wk_iinc4 (v := nI (i + 1)) (pc := 55) dX2_ringed_55 (by decide) rfl (nI_1 i) ?_
        refine rs_goto (tgt := 5) (pc := 58) dX2_ringed_58 rfl ?_
        rw [show mo S z0 x o = -1 from lastc_none (fun d hd => by
          simp only [decide_eq_false_iff_not]
          intro q
          rcases hnx with ⟨-, q2⟩ | ⟨q1, -⟩
          · have q3 := q2 d hd q.1
            by_cases q4 : rk z0 x d < rk z0 x c
            · exact hno d hd q.1 q4 q.2
            · have q5 := rk_inj hx hd hc (by omega)
              subst q5
              exact c_29 q.2
          · exact q1 hcx)]
        exact n_X2_ringed hcl _ _ _
    · refine rs_iload_n (pc := 32) dX2_ringed_32 rfl ?_
      exact wk_iret (pc := 33) dX2_ringed_33 rfl (by rw [mo_is hch hc hk c_29]) (rfl)
set_option maxRecDepth 100000 in
set_option maxHeartbeats 4000000 in
theorem c_X2_ringed {h : ai_H} {S : Md} (hcl : cl_at h S) {z0 x : Nat} (hch : cl_ch S z0) (hx : x < z0) (o : Int32) : ai_Met MX2_ringed [.ref 22, .int (nI x), .int o] h (some (.int (mo S z0 x o))) h := by
  refine ai_met (ls := [.ref 22, .int (nI x), .int o, .float 0, .float 0]) (by decide) (by simp [ai_en, Value.category]) (by rfl) ?_
  refine rs_iload_n (pc := 0) dX2_ringed_0 rfl ?_
  refine wk_istn3 (pc := 1) dX2_ringed_1 (by decide) rfl ?_
  refine rs_iconst (v := 0) (pc := 2) dX2_ringed_2 rfl ?_
  refine wk_ist4 (pc := 3) dX2_ringed_3 (by decide) rfl ?_
  exact l_X2_ringed hcl hch hx o (z0 + 1) 0 x hx rfl (by omega) (by omega) (fun d _ _ q => by rw [rk_x] at q; omega)
theorem fg_at {S : Md} {z x : Nat} (hch : cl_ch S z) (hx : x < z) : cl_fg S (nI x) = if S.2.2.1 6 x = 3 then 1 else 0 := by
  unfold cl_fg
  rw [has_1 hch.1 hch.2.1 hx, if_neg (by decide), nI_clamp (by have := hch.2.1; omega)]
theorem by_at {S : Md} {z x : Nat} (hch : cl_ch S z) (hx : x < z) (o : Int32) : cl_by S (nI x) o = if S.2.2.1 7 x = o then 1 else 0 := by
  unfold cl_by
  rw [has_1 hch.1 hch.2.1 hx, if_neg (by decide), nI_clamp (by have := hch.2.1; omega)]
theorem by_m1 {S : Md} {o : Int32} : cl_by S (-1) o = 0 := by
  unfold cl_by
  rw [has_m1, if_pos rfl]
theorem ite10 {p : Prop} [Decidable p] : (if p then (1 : Int32) else 0) = 0 ↔ ¬ p := by
  by_cases h : p
  · rw [if_pos h]; exact ⟨fun z => absurd z (by decide), fun z => absurd h z⟩
  · rw [if_neg h]; exact ⟨fun _ => h, fun _ => rfl⟩
theorem dX2_met_0 : decode cX2_met 0 = .ok (.aload_n 0, 1) := by decide +kernel
theorem dX2_met_1 : decode cX2_met 1 = .ok (.iload_n 1, 1) := by decide +kernel
theorem dX2_met_2 : decode cX2_met 2 = .ok (.invokevirtual 107, 3) := by decide +kernel
theorem dX2_met_5 : decode cX2_met 5 = .ok (.ifCond .eq 7, 3) := by decide +kernel
theorem dX2_met_8 : decode cX2_met 8 = .ok (.iconst (-1), 1) := by decide +kernel
theorem dX2_met_9 : decode cX2_met 9 = .ok (.goto 9, 3) := by decide +kernel
theorem dX2_met_12 : decode cX2_met 12 = .ok (.aload_n 0, 1) := by decide +kernel
theorem dX2_met_13 : decode cX2_met 13 = .ok (.iload_n 1, 1) := by decide +kernel
theorem dX2_met_14 : decode cX2_met 14 = .ok (.iload_n 2, 1) := by decide +kernel
theorem dX2_met_15 : decode cX2_met 15 = .ok (.invokevirtual 77, 3) := by decide +kernel
theorem dX2_met_18 : decode cX2_met 18 = .ok (.ireturn, 1) := by decide +kernel
set_option maxRecDepth 100000 in
set_option maxHeartbeats 4000000 in
theorem c_X2_met {h : ai_H} {S : Md} (hcl : cl_at h S) {z0 x : Nat} (hch : cl_ch S z0) (hx : x < z0) (o : Int32) : ai_Met MX2_met [.ref 22, .int (nI x), .int o] h (some (.int (cl_met S z0 x o))) h := by
  refine ai_met (ls := [.ref 22, .int (nI x), .int o]) (by decide) (by simp [ai_en, Value.category]) (by rfl) ?_
  refine rs_aload_n (pc := 0) dX2_met_0 rfl ?_
  refine rs_iload_n (pc := 1) dX2_met_1 rfl ?_
  refine rs_callV (as := [_]) (pc := 2) dX2_met_2 mk_X2_isFeigned mlX2_107 in_X2_isFeigned se_X2_isFeigned rfl (mo_lt hcl (by decide)) hcl.2.1 rfl rfl (Nat.le_of_ble_eq_true rfl) (c_X2_isFeigned hcl hch.sz _) ?_
  rw [fg_at hch hx]
  refine rs_if_eq (tgt := 12) (pc := 5) dX2_met_5 rfl (fun c_5 => ?_) (fun c_5 => ?_)
  · rw [ite10] at c_5
    refine rs_aload_n (pc := 12) dX2_met_12 rfl ?_
    refine rs_iload_n (pc := 13) dX2_met_13 rfl ?_
    refine rs_iload_n (pc := 14) dX2_met_14 rfl ?_
    refine rs_callV (as := [_, _]) (pc := 15) dX2_met_15 mk_X2_ringed mlX2_77 in_X2_ringed se_X2_ringed rfl (mo_lt hcl (by decide)) hcl.2.1 rfl rfl (Nat.le_of_ble_eq_true rfl) (c_X2_ringed hcl hch hx _) ?_
    exact wk_iret (pc := 18) dX2_met_18 rfl (by simp [cl_met, c_5]) (rfl)
  · rw [ite10, Classical.not_not] at c_5
    refine rs_iconst (v := -1) (pc := 8) dX2_met_8 rfl ?_
    refine rs_goto (tgt := 18) (pc := 9) dX2_met_9 rfl ?_
    exact wk_iret (pc := 18) dX2_met_18 rfl (by simp [cl_met, c_5]) (rfl)
