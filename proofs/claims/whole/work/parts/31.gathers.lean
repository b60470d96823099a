/-! 31: the model's gathers (walks laid by wip/whole/p31.py) -/
/-- record k has this key -/
def sk (B : Bk) (k : Nat) (o n s w : Int32) : Prop := bk_rat B (nI k) 3 = o ∧ bk_rat B (nI k) 0 = n ∧ bk_rat B (nI k) 1 = s ∧ bk_rat B (nI k) 4 = w
def b_sum (B : Bk) (wk n s w o : Int32) (i : Nat) : Int64 := fL (ga B wk n s w o) (fun k => (bk_red B (nI k)).toInt64) i
/-- rows of the sights: q of them, when the records below i are told -/
def SI (B : Bk) (wk : Int32) (T : Md) (i e q : Nat) : Prop :=
  (∀ c, c < q → ∃ k, k < e ∧ ¬ bk_known B (nI k) wk = 0 ∧ sk B k (T.2.2.1 41 c) (T.2.2.1 42 c) (T.2.2.1 43 c) (T.2.2.1 44 c)) ∧
  (∀ c d, c < q → d < q → T.2.2.1 41 c = T.2.2.1 41 d → T.2.2.1 42 c = T.2.2.1 42 d → T.2.2.1 43 c = T.2.2.1 43 d → T.2.2.1 44 c = T.2.2.1 44 d → c = d) ∧
  (∀ k, k < i → (¬ bk_known B (nI k) wk = 0 → ∃ c, c < q ∧ T.2.2.1 47 k = nI c ∧ sk B k (T.2.2.1 41 c) (T.2.2.1 42 c) (T.2.2.1 43 c) (T.2.2.1 44 c)) ∧ (bk_known B (nI k) wk = 0 → T.2.2.1 47 k = -1)) ∧
  ∀ c, c < q → T.2.2.1 45 c = a_cnt B wk (T.2.2.1 42 c) (T.2.2.1 43 c) (T.2.2.1 44 c) (T.2.2.1 41 c) i ∧ T.2.2.1 46 c = a_thr B wk (T.2.2.1 42 c) (T.2.2.1 43 c) (T.2.2.1 44 c) (T.2.2.1 41 c) i ∧ T.2.2.2 48 c = b_sum B wk (T.2.2.1 42 c) (T.2.2.1 43 c) (T.2.2.1 44 c) (T.2.2.1 41 c) i ∧ T.2.2.2 49 c = a_sq B wk (T.2.2.1 42 c) (T.2.2.1 43 c) (T.2.2.1 44 c) (T.2.2.1 41 c) i
theorem SI_more {B : Bk} {wk : Int32} {T : Md} {i q : Nat} (h : SI B wk T i i q) : SI B wk T i (i + 1) q :=
  ⟨fun c hc => by obtain ⟨k, h1, h2⟩ := h.1 c hc; exact ⟨k, by omega, h2⟩, h.2⟩
theorem SI_0 (B : Bk) (wk : Int32) (T : Md) : SI B wk T 0 0 0 := ⟨fun c hc => absurd hc (Nat.not_lt_zero c), fun c d hc => absurd hc (Nat.not_lt_zero c), fun k hk => absurd hk (Nat.not_lt_zero k), fun c hc => absurd hc (Nat.not_lt_zero c)⟩
/-- not known: nothing but the row of it -/
theorem SI_skip {B : Bk} {wk : Int32} {S T : Md} {i q : Nat} (h : SI B wk S i i q) (hk : bk_known B (nI i) wk = 0) (t1 : ∀ k, k ≠ 47 → T.2.2.1 k = S.2.2.1 k) (t2 : T.2.2.2 = S.2.2.2) (t47 : T.2.2.1 47 = upd (S.2.2.1 47) i (-1)) : SI B wk T (i + 1) (i + 1) q := by
  obtain ⟨h1, h2, h3, h4⟩ := SI_more h
  unfold SI
  rw [t1 41 (by decide), t1 42 (by decide), t1 43 (by decide), t1 44 (by decide), t1 45 (by decide), t1 46 (by decide), t2, t47]
  refine ⟨h1, h2, fun k hki => ?_, fun c hc => ?_⟩
  · by_cases e : k = i
    · subst e
      exact ⟨fun z => absurd hk z, fun _ => pk_us ..⟩
    · rw [pk_un e]
      exact h3 k (by omega)
  · have hg : ¬ ga B wk (S.2.2.1 42 c) (S.2.2.1 43 c) (S.2.2.1 44 c) (S.2.2.1 41 c) i = true := by
      simp only [ga, decide_eq_true_eq]
      exact fun z => z.1 hk
    obtain ⟨b1, b2, b3, b4⟩ := h4 c hc
    unfold a_cnt a_thr b_sum a_sq at *
    rw [fI, fO, fL, fL, if_neg hg, if_neg hg, if_neg hg, if_neg hg]
    exact ⟨b1, b2, b3, b4⟩
theorem SI_add {B : Bk} {wk : Int32} {S T : Md} {i q c : Nat} (h : SI B wk S i (i + 1) q) (hk : ¬ bk_known B (nI i) wk = 0) (hc : c < q) (hm : sk B i (S.2.2.1 41 c) (S.2.2.1 42 c) (S.2.2.1 43 c) (S.2.2.1 44 c))
    (t1 : ∀ k, k ≠ 45 → k ≠ 46 → k ≠ 47 → T.2.2.1 k = S.2.2.1 k) (t45 : T.2.2.1 45 = upd (S.2.2.1 45) c (S.2.2.1 45 c + 1)) (t46 : T.2.2.1 46 = upd (S.2.2.1 46) c (S.2.2.1 46 c ||| 1 <<< (bk_rat B (nI i) 2 &&& 31))) (t47 : T.2.2.1 47 = upd (S.2.2.1 47) i (nI c))
    (t48 : T.2.2.2 48 = vp_updL (S.2.2.2 48) c (S.2.2.2 48 c + (bk_red B (nI i)).toInt64)) (t49 : T.2.2.2 49 = vp_updL (S.2.2.2 49) c (S.2.2.2 49 c + (bk_red B (nI i)).toInt64 * (bk_red B (nI i)).toInt64)) : SI B wk T (i + 1) (i + 1) q := by
  obtain ⟨h1, h2, h3, h4⟩ := h
  unfold SI
  rw [t1 41 (by decide) (by decide) (by decide), t1 42 (by decide) (by decide) (by decide), t1 43 (by decide) (by decide) (by decide), t1 44 (by decide) (by decide) (by decide), t45, t46, t47, t48, t49]
  refine ⟨h1, h2, fun k hki => ?_, fun d hd => ?_⟩
  · by_cases e : k = i
    · subst e
      exact ⟨fun _ => ⟨c, hc, pk_us .., hm⟩, fun z => absurd z hk⟩
    · rw [pk_un e]
      exact h3 k (by omega)
  · obtain ⟨b1, b2, b3, b4⟩ := h4 d hd
    unfold a_cnt a_thr b_sum a_sq at *
    rw [fI, fO, fL, fL]
    by_cases e : d = c
    · subst e
      have hg : ga B wk (S.2.2.1 42 d) (S.2.2.1 43 d) (S.2.2.1 44 d) (S.2.2.1 41 d) i = true := by
        simp only [ga, decide_eq_true_eq]
        exact ⟨hk, hm.2.1, hm.2.2.1, hm.2.2.2, hm.1⟩
      rw [if_pos hg, if_pos hg, if_pos hg, if_pos hg, pk_us, pk_us, pk_uLs, pk_uLs, b1, b2, b3, b4]
      exact ⟨rfl, rfl, rfl, rfl⟩
    · have hg : ¬ ga B wk (S.2.2.1 42 d) (S.2.2.1 43 d) (S.2.2.1 44 d) (S.2.2.1 41 d) i = true := by
        simp only [ga, decide_eq_true_eq]
        rintro ⟨-, g0, g1, g4, g3⟩
        exact e (h2 d c hd hc (g3.symm.trans hm.1) (g0.symm.trans hm.2.1) (g1.symm.trans hm.2.2.1) (g4.symm.trans hm.2.2.2))
      rw [if_neg hg, if_neg hg, if_neg hg, if_neg hg, pk_un e, pk_un e, pk_uLn e, pk_uLn e]
      exact ⟨b1, b2, b3, b4⟩
theorem SI_new {B : Bk} {wk : Int32} {S T : Md} {i q : Nat} (h : SI B wk S i i q) (hk : ¬ bk_known B (nI i) wk = 0) (hno : ∀ c, c < q → ¬ sk B i (S.2.2.1 41 c) (S.2.2.1 42 c) (S.2.2.1 43 c) (S.2.2.1 44 c))
    (t41 : T.2.2.1 41 = upd (S.2.2.1 41) q (bk_rat B (nI i) 3)) (t42 : T.2.2.1 42 = upd (S.2.2.1 42) q (bk_rat B (nI i) 0)) (t43 : T.2.2.1 43 = upd (S.2.2.1 43) q (bk_rat B (nI i) 1)) (t44 : T.2.2.1 44 = upd (S.2.2.1 44) q (bk_rat B (nI i) 4))
    (t45 : T.2.2.1 45 = upd (S.2.2.1 45) q 0) (t46 : T.2.2.1 46 = upd (S.2.2.1 46) q 0) (t47 : T.2.2.1 47 = S.2.2.1 47) (t48 : T.2.2.2 48 = vp_updL (S.2.2.2 48) q 0) (t49 : T.2.2.2 49 = vp_updL (S.2.2.2 49) q 0) : SI B wk T i (i + 1) (q + 1) := by
  obtain ⟨h1, h2, h3, h4⟩ := h
  unfold SI
  rw [t41, t42, t43, t44, t45, t46, t47, t48, t49]
  refine ⟨fun c hc => ?_, fun c d hc hd => ?_, fun k hki => ?_, fun c hc => ?_⟩
  · by_cases e : c = q
    · subst e
      exact ⟨i, by omega, hk, by rw [pk_us, pk_us, pk_us, pk_us]; exact ⟨rfl, rfl, rfl, rfl⟩⟩
    · rw [pk_un e, pk_un e, pk_un e, pk_un e]
      obtain ⟨k, k1, k2⟩ := h1 c (by omega)
      exact ⟨k, by omega, k2⟩
  · by_cases e : c = q
    · subst e
      by_cases e' : d = c
      · intro _ _ _ _; exact e'.symm
      · rw [pk_us, pk_us, pk_us, pk_us, pk_un e', pk_un e', pk_un e', pk_un e']
        intro z1 z2 z3 z4
        exact absurd ⟨z1, z2, z3, z4⟩ (hno d (by omega))
    · by_cases e' : d = q
      · subst e'
        rw [pk_us, pk_us, pk_us, pk_us, pk_un e, pk_un e, pk_un e, pk_un e]
        intro z1 z2 z3 z4
        exact absurd ⟨z1.symm, z2.symm, z3.symm, z4.symm⟩ (hno c (by omega))
      · rw [pk_un e, pk_un e, pk_un e, pk_un e, pk_un e', pk_un e', pk_un e', pk_un e']
        exact h2 c d (by omega) (by omega)
  · obtain ⟨q1, q2⟩ := h3 k hki
    refine ⟨fun z => ?_, q2⟩
    obtain ⟨c, c1, c2, c3⟩ := q1 z
    have e : c ≠ q := by omega
    exact ⟨c, by omega, c2, by rw [pk_un e, pk_un e, pk_un e, pk_un e]; exact c3⟩
  · by_cases e : c = q
    · subst e
      rw [pk_us, pk_us, pk_us, pk_us, pk_us, pk_us, pk_uLs, pk_uLs]
      have hg : ∀ k, k < i → ga B wk (bk_rat B (nI i) 0) (bk_rat B (nI i) 1) (bk_rat B (nI i) 4) (bk_rat B (nI i) 3) k = false := by
        intro k hki
        simp only [ga, decide_eq_false_iff_not]
        rintro ⟨g, g0, g1, g4, g3⟩
        obtain ⟨d, d1, d2, d3⟩ := (h3 k hki).1 g
        exact hno d d1 ⟨g3.symm.trans d3.1, g0.symm.trans d3.2.1, g1.symm.trans d3.2.2.1, g4.symm.trans d3.2.2.2⟩
      exact ⟨(fI_0 hg).symm, (fO_0 hg).symm, (fL_0 hg).symm, (fL_0 hg).symm⟩
    · rw [pk_un e, pk_un e, pk_un e, pk_un e, pk_un e, pk_un e, pk_uLn e, pk_uLn e]
      exact h4 c (by omega)
/-- all but the sights is the same -/
def sg (S T : Md) : Prop := (∀ k, k ≠ 40 → T.1 k = S.1 k) ∧ T.2.1 = S.2.1 ∧ (∀ k, k < 41 ∨ 47 < k → T.2.2.1 k = S.2.2.1 k) ∧ ∀ k, k < 48 ∨ 49 < k → T.2.2.2 k = S.2.2.2 k
theorem sg.rf {S : Md} : sg S S := ⟨fun _ _ => rfl, rfl, fun _ _ => rfl, fun _ _ => rfl⟩
theorem sg.sb {S T : Md} (h : sg S T) : sb S T := ⟨fun k hk => h.1 k (by omega), fun k hk => h.2.2.1 k (by omega)⟩
theorem sg.si {S T : Md} {v : Int32} (h : sg S T) : sg S (md_si T 40 v) := ⟨fun k hk => (pk_un hk).trans (h.1 k hk), h.2⟩
theorem sg.ai {S T : Md} {j : Nat} {f : Nat → Int32} (h : sg S T) (hj : 41 ≤ j ∧ j ≤ 47) : sg S (md_ai T j f) := ⟨h.1, h.2.1, fun k hk => by
  show va_up T.2.2.1 j f k = _
  rw [va_up, if_neg (by omega)]
  exact h.2.2.1 k hk, h.2.2.2⟩
theorem sg.al {S T : Md} {j : Nat} {f : Nat → Int64} (h : sg S T) (hj : 48 ≤ j ∧ j ≤ 49) : sg S (md_al T j f) := ⟨h.1, h.2.1, h.2.2.1, fun k hk => by
  show va_up T.2.2.2 j f k = _
  rw [va_up, if_neg (by omega)]
  exact h.2.2.2 k hk⟩
theorem dX12_gathers_0 : decode cX12_gathers 0 = .ok (.aload_n 0, 1) := by decide +kernel
theorem dX12_gathers_1 : decode cX12_gathers 1 = .ok (.iconst 0, 1) := by decide +kernel
theorem dX12_gathers_2 : decode cX12_gathers 2 = .ok (.putfield 398, 3) := by decide +kernel
theorem dX12_gathers_5 : decode cX12_gathers 5 = .ok (.iconst 0, 1) := by decide +kernel
theorem dX12_gathers_6 : decode cX12_gathers 6 = .ok (.istore_n 2, 1) := by decide +kernel
theorem dX12_gathers_7 : decode cX12_gathers 7 = .ok (.iload_n 2, 1) := by decide +kernel
theorem dX12_gathers_8 : decode cX12_gathers 8 = .ok (.aload_n 0, 1) := by decide +kernel
theorem dX12_gathers_9 : decode cX12_gathers 9 = .ok (.getfield 197, 3) := by decide +kernel
theorem dX12_gathers_12 : decode cX12_gathers 12 = .ok (.if_icmp .ge 262, 3) := by decide +kernel
theorem dX12_gathers_15 : decode cX12_gathers 15 = .ok (.aload_n 0, 1) := by decide +kernel
theorem dX12_gathers_16 : decode cX12_gathers 16 = .ok (.getfield 108, 3) := by decide +kernel
theorem dX12_gathers_19 : decode cX12_gathers 19 = .ok (.iload_n 2, 1) := by decide +kernel
theorem dX12_gathers_20 : decode cX12_gathers 20 = .ok (.iconst (-1), 1) := by decide +kernel
theorem dX12_gathers_21 : decode cX12_gathers 21 = .ok (.iastore, 1) := by decide +kernel
theorem dX12_gathers_22 : decode cX12_gathers 22 = .ok (.aload_n 0, 1) := by decide +kernel
theorem dX12_gathers_23 : decode cX12_gathers 23 = .ok (.iload_n 2, 1) := by decide +kernel
theorem dX12_gathers_24 : decode cX12_gathers 24 = .ok (.iload_n 1, 1) := by decide +kernel
theorem dX12_gathers_25 : decode cX12_gathers 25 = .ok (.invokevirtual 234, 3) := by decide +kernel
theorem dX12_gathers_28 : decode cX12_gathers 28 = .ok (.ifCond .eq 240, 3) := by decide +kernel
theorem dX12_gathers_31 : decode cX12_gathers 31 = .ok (.iconst 0, 1) := by decide +kernel
theorem dX12_gathers_32 : decode cX12_gathers 32 = .ok (.istore_n 3, 1) := by decide +kernel
theorem dX12_gathers_33 : decode cX12_gathers 33 = .ok (.iload_n 3, 1) := by decide +kernel
theorem dX12_gathers_34 : decode cX12_gathers 34 = .ok (.aload_n 0, 1) := by decide +kernel
theorem dX12_gathers_35 : decode cX12_gathers 35 = .ok (.getfield 398, 3) := by decide +kernel
theorem dX12_gathers_38 : decode cX12_gathers 38 = .ok (.if_icmp .ge 69, 3) := by decide +kernel
theorem dX12_gathers_41 : decode cX12_gathers 41 = .ok (.aload_n 0, 1) := by decide +kernel
theorem dX12_gathers_42 : decode cX12_gathers 42 = .ok (.getfield 90, 3) := by decide +kernel
theorem dX12_gathers_45 : decode cX12_gathers 45 = .ok (.iload_n 3, 1) := by decide +kernel
theorem dX12_gathers_46 : decode cX12_gathers 46 = .ok (.iaload, 1) := by decide +kernel
theorem dX12_gathers_47 : decode cX12_gathers 47 = .ok (.aload_n 0, 1) := by decide +kernel
theorem dX12_gathers_48 : decode cX12_gathers 48 = .ok (.getfield 40, 3) := by decide +kernel
theorem dX12_gathers_51 : decode cX12_gathers 51 = .ok (.iload_n 2, 1) := by decide +kernel
theorem dX12_gathers_52 : decode cX12_gathers 52 = .ok (.iaload, 1) := by decide +kernel
theorem dX12_gathers_53 : decode cX12_gathers 53 = .ok (.if_icmp .ne 48, 3) := by decide +kernel
theorem dX12_gathers_56 : decode cX12_gathers 56 = .ok (.aload_n 0, 1) := by decide +kernel
theorem dX12_gathers_57 : decode cX12_gathers 57 = .ok (.getfield 93, 3) := by decide +kernel
theorem dX12_gathers_60 : decode cX12_gathers 60 = .ok (.iload_n 3, 1) := by decide +kernel
theorem dX12_gathers_61 : decode cX12_gathers 61 = .ok (.iaload, 1) := by decide +kernel
theorem dX12_gathers_62 : decode cX12_gathers 62 = .ok (.aload_n 0, 1) := by decide +kernel
theorem dX12_gathers_63 : decode cX12_gathers 63 = .ok (.getfield 31, 3) := by decide +kernel
theorem dX12_gathers_66 : decode cX12_gathers 66 = .ok (.iload_n 2, 1) := by decide +kernel
theorem dX12_gathers_67 : decode cX12_gathers 67 = .ok (.iaload, 1) := by decide +kernel
theorem dX12_gathers_68 : decode cX12_gathers 68 = .ok (.if_icmp .ne 33, 3) := by decide +kernel
theorem dX12_gathers_71 : decode cX12_gathers 71 = .ok (.aload_n 0, 1) := by decide +kernel
theorem dX12_gathers_72 : decode cX12_gathers 72 = .ok (.getfield 96, 3) := by decide +kernel
theorem dX12_gathers_75 : decode cX12_gathers 75 = .ok (.iload_n 3, 1) := by decide +kernel
theorem dX12_gathers_76 : decode cX12_gathers 76 = .ok (.iaload, 1) := by decide +kernel
theorem dX12_gathers_77 : decode cX12_gathers 77 = .ok (.aload_n 0, 1) := by decide +kernel
theorem dX12_gathers_78 : decode cX12_gathers 78 = .ok (.getfield 34, 3) := by decide +kernel
theorem dX12_gathers_81 : decode cX12_gathers 81 = .ok (.iload_n 2, 1) := by decide +kernel
theorem dX12_gathers_82 : decode cX12_gathers 82 = .ok (.iaload, 1) := by decide +kernel
theorem dX12_gathers_83 : decode cX12_gathers 83 = .ok (.if_icmp .ne 18, 3) := by decide +kernel
theorem dX12_gathers_86 : decode cX12_gathers 86 = .ok (.aload_n 0, 1) := by decide +kernel
theorem dX12_gathers_87 : decode cX12_gathers 87 = .ok (.getfield 99, 3) := by decide +kernel
theorem dX12_gathers_90 : decode cX12_gathers 90 = .ok (.iload_n 3, 1) := by decide +kernel
theorem dX12_gathers_91 : decode cX12_gathers 91 = .ok (.iaload, 1) := by decide +kernel
theorem dX12_gathers_92 : decode cX12_gathers 92 = .ok (.aload_n 0, 1) := by decide +kernel
theorem dX12_gathers_93 : decode cX12_gathers 93 = .ok (.getfield 43, 3) := by decide +kernel
theorem dX12_gathers_96 : decode cX12_gathers 96 = .ok (.iload_n 2, 1) := by decide +kernel
theorem dX12_gathers_97 : decode cX12_gathers 97 = .ok (.iaload, 1) := by decide +kernel
theorem dX12_gathers_98 : decode cX12_gathers 98 = .ok (.if_icmp .eq 9, 3) := by decide +kernel
theorem dX12_gathers_101 : decode cX12_gathers 101 = .ok (.iinc 3 1, 3) := by decide +kernel
theorem dX12_gathers_104 : decode cX12_gathers 104 = .ok (.goto (-71), 3) := by decide +kernel
theorem dX12_gathers_107 : decode cX12_gathers 107 = .ok (.iload_n 3, 1) := by decide +kernel
theorem dX12_gathers_108 : decode cX12_gathers 108 = .ok (.aload_n 0, 1) := by decide +kernel
theorem dX12_gathers_109 : decode cX12_gathers 109 = .ok (.getfield 398, 3) := by decide +kernel
theorem dX12_gathers_112 : decode cX12_gathers 112 = .ok (.if_icmp .ne 89, 3) := by decide +kernel
theorem dX12_gathers_115 : decode cX12_gathers 115 = .ok (.aload_n 0, 1) := by decide +kernel
theorem dX12_gathers_116 : decode cX12_gathers 116 = .ok (.getfield 90, 3) := by decide +kernel
theorem dX12_gathers_119 : decode cX12_gathers 119 = .ok (.iload_n 3, 1) := by decide +kernel
theorem dX12_gathers_120 : decode cX12_gathers 120 = .ok (.aload_n 0, 1) := by decide +kernel
theorem dX12_gathers_121 : decode cX12_gathers 121 = .ok (.getfield 40, 3) := by decide +kernel
theorem dX12_gathers_124 : decode cX12_gathers 124 = .ok (.iload_n 2, 1) := by decide +kernel
theorem dX12_gathers_125 : decode cX12_gathers 125 = .ok (.iaload, 1) := by decide +kernel
theorem dX12_gathers_126 : decode cX12_gathers 126 = .ok (.iastore, 1) := by decide +kernel
theorem dX12_gathers_127 : decode cX12_gathers 127 = .ok (.aload_n 0, 1) := by decide +kernel
theorem dX12_gathers_128 : decode cX12_gathers 128 = .ok (.getfield 93, 3) := by decide +kernel
theorem dX12_gathers_131 : decode cX12_gathers 131 = .ok (.iload_n 3, 1) := by decide +kernel
theorem dX12_gathers_132 : decode cX12_gathers 132 = .ok (.aload_n 0, 1) := by decide +kernel
theorem dX12_gathers_133 : decode cX12_gathers 133 = .ok (.getfield 31, 3) := by decide +kernel
theorem dX12_gathers_136 : decode cX12_gathers 136 = .ok (.iload_n 2, 1) := by decide +kernel
theorem dX12_gathers_137 : decode cX12_gathers 137 = .ok (.iaload, 1) := by decide +kernel
theorem dX12_gathers_138 : decode cX12_gathers 138 = .ok (.iastore, 1) := by decide +kernel
theorem dX12_gathers_139 : decode cX12_gathers 139 = .ok (.aload_n 0, 1) := by decide +kernel
theorem dX12_gathers_140 : decode cX12_gathers 140 = .ok (.getfield 96, 3) := by decide +kernel
theorem dX12_gathers_143 : decode cX12_gathers 143 = .ok (.iload_n 3, 1) := by decide +kernel
theorem dX12_gathers_144 : decode cX12_gathers 144 = .ok (.aload_n 0, 1) := by decide +kernel
theorem dX12_gathers_145 : decode cX12_gathers 145 = .ok (.getfield 34, 3) := by decide +kernel
theorem dX12_gathers_148 : decode cX12_gathers 148 = .ok (.iload_n 2, 1) := by decide +kernel
theorem dX12_gathers_149 : decode cX12_gathers 149 = .ok (.iaload, 1) := by decide +kernel
theorem dX12_gathers_150 : decode cX12_gathers 150 = .ok (.iastore, 1) := by decide +kernel
theorem dX12_gathers_151 : decode cX12_gathers 151 = .ok (.aload_n 0, 1) := by decide +kernel
theorem dX12_gathers_152 : decode cX12_gathers 152 = .ok (.getfield 99, 3) := by decide +kernel
theorem dX12_gathers_155 : decode cX12_gathers 155 = .ok (.iload_n 3, 1) := by decide +kernel
theorem dX12_gathers_156 : decode cX12_gathers 156 = .ok (.aload_n 0, 1) := by decide +kernel
theorem dX12_gathers_157 : decode cX12_gathers 157 = .ok (.getfield 43, 3) := by decide +kernel
theorem dX12_gathers_160 : decode cX12_gathers 160 = .ok (.iload_n 2, 1) := by decide +kernel
theorem dX12_gathers_161 : decode cX12_gathers 161 = .ok (.iaload, 1) := by decide +kernel
theorem dX12_gathers_162 : decode cX12_gathers 162 = .ok (.iastore, 1) := by decide +kernel
theorem dX12_gathers_163 : decode cX12_gathers 163 = .ok (.aload_n 0, 1) := by decide +kernel
theorem dX12_gathers_164 : decode cX12_gathers 164 = .ok (.getfield 102, 3) := by decide +kernel
theorem dX12_gathers_167 : decode cX12_gathers 167 = .ok (.iload_n 3, 1) := by decide +kernel
theorem dX12_gathers_168 : decode cX12_gathers 168 = .ok (.iconst 0, 1) := by decide +kernel
theorem dX12_gathers_169 : decode cX12_gathers 169 = .ok (.iastore, 1) := by decide +kernel
theorem dX12_gathers_170 : decode cX12_gathers 170 = .ok (.aload_n 0, 1) := by decide +kernel
theorem dX12_gathers_171 : decode cX12_gathers 171 = .ok (.getfield 105, 3) := by decide +kernel
theorem dX12_gathers_174 : decode cX12_gathers 174 = .ok (.iload_n 3, 1) := by decide +kernel
theorem dX12_gathers_175 : decode cX12_gathers 175 = .ok (.iconst 0, 1) := by decide +kernel
theorem dX12_gathers_176 : decode cX12_gathers 176 = .ok (.iastore, 1) := by decide +kernel
theorem dX12_gathers_177 : decode cX12_gathers 177 = .ok (.aload_n 0, 1) := by decide +kernel
theorem dX12_gathers_178 : decode cX12_gathers 178 = .ok (.getfield 111, 3) := by decide +kernel
theorem dX12_gathers_181 : decode cX12_gathers 181 = .ok (.iload_n 3, 1) := by decide +kernel
theorem dX12_gathers_182 : decode cX12_gathers 182 = .ok (.lconst 0, 1) := by decide +kernel
theorem dX12_gathers_183 : decode cX12_gathers 183 = .ok (.lastore, 1) := by decide +kernel
theorem dX12_gathers_184 : decode cX12_gathers 184 = .ok (.aload_n 0, 1) := by decide +kernel
theorem dX12_gathers_185 : decode cX12_gathers 185 = .ok (.getfield 114, 3) := by decide +kernel
theorem dX12_gathers_188 : decode cX12_gathers 188 = .ok (.iload_n 3, 1) := by decide +kernel
theorem dX12_gathers_189 : decode cX12_gathers 189 = .ok (.lconst 0, 1) := by decide +kernel
theorem dX12_gathers_190 : decode cX12_gathers 190 = .ok (.lastore, 1) := by decide +kernel
theorem dX12_gathers_191 : decode cX12_gathers 191 = .ok (.aload_n 0, 1) := by decide +kernel
theorem dX12_gathers_192 : decode cX12_gathers 192 = .ok (.dup, 1) := by decide +kernel
theorem dX12_gathers_193 : decode cX12_gathers 193 = .ok (.getfield 398, 3) := by decide +kernel
theorem dX12_gathers_196 : decode cX12_gathers 196 = .ok (.iconst 1, 1) := by decide +kernel
theorem dX12_gathers_197 : decode cX12_gathers 197 = .ok (.iadd, 1) := by decide +kernel
theorem dX12_gathers_198 : decode cX12_gathers 198 = .ok (.putfield 398, 3) := by decide +kernel
theorem dX12_gathers_201 : decode cX12_gathers 201 = .ok (.aload_n 0, 1) := by decide +kernel
theorem dX12_gathers_202 : decode cX12_gathers 202 = .ok (.iload_n 2, 1) := by decide +kernel
theorem dX12_gathers_203 : decode cX12_gathers 203 = .ok (.invokevirtual 238, 3) := by decide +kernel
theorem dX12_gathers_206 : decode cX12_gathers 206 = .ok (.i2l, 1) := by decide +kernel
theorem dX12_gathers_207 : decode cX12_gathers 207 = .ok (.lstore 4, 2) := by decide +kernel
theorem dX12_gathers_209 : decode cX12_gathers 209 = .ok (.aload_n 0, 1) := by decide +kernel
theorem dX12_gathers_210 : decode cX12_gathers 210 = .ok (.getfield 102, 3) := by decide +kernel
theorem dX12_gathers_213 : decode cX12_gathers 213 = .ok (.iload_n 3, 1) := by decide +kernel
theorem dX12_gathers_214 : decode cX12_gathers 214 = .ok (.dup2, 1) := by decide +kernel
theorem dX12_gathers_215 : decode cX12_gathers 215 = .ok (.iaload, 1) := by decide +kernel
theorem dX12_gathers_216 : decode cX12_gathers 216 = .ok (.iconst 1, 1) := by decide +kernel
theorem dX12_gathers_217 : decode cX12_gathers 217 = .ok (.iadd, 1) := by decide +kernel
theorem dX12_gathers_218 : decode cX12_gathers 218 = .ok (.iastore, 1) := by decide +kernel
theorem dX12_gathers_219 : decode cX12_gathers 219 = .ok (.aload_n 0, 1) := by decide +kernel
theorem dX12_gathers_220 : decode cX12_gathers 220 = .ok (.getfield 105, 3) := by decide +kernel
theorem dX12_gathers_223 : decode cX12_gathers 223 = .ok (.iload_n 3, 1) := by decide +kernel
theorem dX12_gathers_224 : decode cX12_gathers 224 = .ok (.dup2, 1) := by decide +kernel
theorem dX12_gathers_225 : decode cX12_gathers 225 = .ok (.iaload, 1) := by decide +kernel
theorem dX12_gathers_226 : decode cX12_gathers 226 = .ok (.iconst 1, 1) := by decide +kernel
theorem dX12_gathers_227 : decode cX12_gathers 227 = .ok (.aload_n 0, 1) := by decide +kernel
theorem dX12_gathers_228 : decode cX12_gathers 228 = .ok (.getfield 37, 3) := by decide +kernel
theorem dX12_gathers_231 : decode cX12_gathers 231 = .ok (.iload_n 2, 1) := by decide +kernel
theorem dX12_gathers_232 : decode cX12_gathers 232 = .ok (.iaload, 1) := by decide +kernel
theorem dX12_gathers_233 : decode cX12_gathers 233 = .ok (.ishl, 1) := by decide +kernel
theorem dX12_gathers_234 : decode cX12_gathers 234 = .ok (.ior, 1) := by decide +kernel
theorem dX12_gathers_235 : decode cX12_gathers 235 = .ok (.iastore, 1) := by decide +kernel
theorem dX12_gathers_236 : decode cX12_gathers 236 = .ok (.aload_n 0, 1) := by decide +kernel
theorem dX12_gathers_237 : decode cX12_gathers 237 = .ok (.getfield 111, 3) := by decide +kernel
theorem dX12_gathers_240 : decode cX12_gathers 240 = .ok (.iload_n 3, 1) := by decide +kernel
theorem dX12_gathers_241 : decode cX12_gathers 241 = .ok (.dup2, 1) := by decide +kernel
theorem dX12_gathers_242 : decode cX12_gathers 242 = .ok (.laload, 1) := by decide +kernel
theorem dX12_gathers_243 : decode cX12_gathers 243 = .ok (.lload 4, 2) := by decide +kernel
theorem dX12_gathers_245 : decode cX12_gathers 245 = .ok (.ladd, 1) := by decide +kernel
theorem dX12_gathers_246 : decode cX12_gathers 246 = .ok (.lastore, 1) := by decide +kernel
theorem dX12_gathers_247 : decode cX12_gathers 247 = .ok (.aload_n 0, 1) := by decide +kernel
theorem dX12_gathers_248 : decode cX12_gathers 248 = .ok (.getfield 114, 3) := by decide +kernel
theorem dX12_gathers_251 : decode cX12_gathers 251 = .ok (.iload_n 3, 1) := by decide +kernel
theorem dX12_gathers_252 : decode cX12_gathers 252 = .ok (.dup2, 1) := by decide +kernel
theorem dX12_gathers_253 : decode cX12_gathers 253 = .ok (.laload, 1) := by decide +kernel
theorem dX12_gathers_254 : decode cX12_gathers 254 = .ok (.lload 4, 2) := by decide +kernel
theorem dX12_gathers_256 : decode cX12_gathers 256 = .ok (.lload 4, 2) := by decide +kernel
theorem dX12_gathers_258 : decode cX12_gathers 258 = .ok (.lmul, 1) := by decide +kernel
theorem dX12_gathers_259 : decode cX12_gathers 259 = .ok (.ladd, 1) := by decide +kernel
theorem dX12_gathers_260 : decode cX12_gathers 260 = .ok (.lastore, 1) := by decide +kernel
theorem dX12_gathers_261 : decode cX12_gathers 261 = .ok (.aload_n 0, 1) := by decide +kernel
theorem dX12_gathers_262 : decode cX12_gathers 262 = .ok (.getfield 108, 3) := by decide +kernel
theorem dX12_gathers_265 : decode cX12_gathers 265 = .ok (.iload_n 2, 1) := by decide +kernel
theorem dX12_gathers_266 : decode cX12_gathers 266 = .ok (.iload_n 3, 1) := by decide +kernel
theorem dX12_gathers_267 : decode cX12_gathers 267 = .ok (.iastore, 1) := by decide +kernel
theorem dX12_gathers_268 : decode cX12_gathers 268 = .ok (.iinc 2 1, 3) := by decide +kernel
theorem dX12_gathers_271 : decode cX12_gathers 271 = .ok (.goto (-264), 3) := by decide +kernel
theorem dX12_gathers_274 : decode cX12_gathers 274 = .ok (.return_, 1) := by decide +kernel
set_option maxRecDepth 100000 in
set_option maxHeartbeats 4000000 in
theorem t_X12_gathers {h : ai_H} {S : Md} {B : Bk} {lm : Nat} {wk : Int32} (hok : bk_ok B lm) (hRB : RB B S) {i q c : Nat} {g : ai_H} {T : Md} {u4 : Value} {Q : Option Value → ai_H → Prop} (hi : i < nR B) (hi4 : i < 400) (hq : q ≤ 400) (hc : c < q) (kx : ∀ (g : ai_H) (u4 : Value) (T : Md), md_ext h g → md_at g T → T.1 40 = nI q → sg S T → SI B wk T (i + 1) (i + 1) q → ai_W MX12_gathers 7 [.ref 307, .int wk, .int (nI (i + 1)), .int (nI c), u4, .float 0] [] g Q) (E0 : md_ext h g) (hmd : md_at g T) (ec : T.1 40 = nI q) (hsg : sg S T) (hkn : ¬ bk_known B (nI i) wk = 0) (hm : sk B i (T.2.2.1 41 c) (T.2.2.1 42 c) (T.2.2.1 43 c) (T.2.2.1 44 c)) (hSI : SI B wk T i (i + 1) q) : ai_W MX12_gathers 201 [.ref 307, .int wk, .int (nI i), .int (nI c), u4, .float 0] [] g Q := by
  refine wq (fun _ _ kk => rs_aload_n (pc := 201) dX12_gathers_201 rfl kk) ?_
  refine wq (fun _ _ kk => rs_iload_n (pc := 202) dX12_gathers_202 rfl kk) ?_
  refine wq (fun _ _ kk => rs_callV (as := [_]) (pc := 203) dX12_gathers_203 mk_X12_reduced mlX12_238 in_X12_reduced se_X12_reduced rfl (md_lt hmd (by decide)) hmd.2.1 rfl rfl (Nat.le_of_ble_eq_true rfl) (c_X12_reduced hmd (show i < 400 by omega) (rb_red hok (hRB.of hsg.sb) hi).2) kk) ?_
  rw [(rb_red hok (hRB.of hsg.sb) hi).1]
  refine wq (fun _ _ kk => rs_i2l (pc := 206) dX12_gathers_206 kk) ?_
  refine wq (fun _ _ kk => wk_lst4 (pc := 207) dX12_gathers_207 (by decide) rfl kk) ?_
  refine wq (fun _ _ kk => rs_aload_n (pc := 209) dX12_gathers_209 rfl kk) ?_
  refine wq (fun _ _ kk => rs_getf (pc := 210) dX12_gathers_210 fX12_102 (md_lt hmd (by decide)) hmd.2.1 rfl kk) ?_
  refine wq (fun _ _ kk => rs_iload_n (pc := 213) dX12_gathers_213 rfl kk) ?_
  refine wq (fun _ _ kk => rs_dup2 (pc := 214) dX12_gathers_214 rfl rfl kk) ?_
  refine wq (fun _ _ kk => rs_iald (pc := 215) dX12_gathers_215 (md_lt hmd (by decide)) (md_geti (d := 30) (k := 45) (kd := 0) (n := 400) rfl (by decide) hmd) (vp_in_nI (n := c) (N := 400) (by omega) (by decide)) kk) ?_
  rw [nI_clamp (show c < 2 ^ 31 by omega)]
  refine wq (fun _ _ kk => rs_iconst (v := 1) (pc := 216) dX12_gathers_216 rfl kk) ?_
  refine wq (fun _ _ kk => rs_iadd (pc := 217) dX12_gathers_217 kk) ?_
  refine wq (fun _ _ kk => rs_iast (pc := 218) dX12_gathers_218 (md_lt hmd (by decide)) (md_geti (d := 30) (k := 45) (kd := 0) (n := 400) rfl (by decide) hmd) (vp_in_nI (n := c) (N := 400) (by omega) (by decide)) kk) ?_
  refine wq_gen (fun h_1 e_1 => ?_)
  obtain ⟨m_1, s_1, g_1, o_1⟩ := ai_e1 e_1
  replace hmd := md_at_ai (d := 30) rfl (by decide) hmd m_1 g_1 o_1
  have E_1 := (E0).trans (md_ext_of m_1 s_1 o_1 (by decide))
  refine wq (fun _ _ kk => rs_aload_n (pc := 219) dX12_gathers_219 rfl kk) ?_
  refine wq (fun _ _ kk => rs_getf (pc := 220) dX12_gathers_220 fX12_105 (md_lt hmd (by decide)) hmd.2.1 rfl kk) ?_
  refine wq (fun _ _ kk => rs_iload_n (pc := 223) dX12_gathers_223 rfl kk) ?_
  refine wq (fun _ _ kk => rs_dup2 (pc := 224) dX12_gathers_224 rfl rfl kk) ?_
  refine wq (fun _ _ kk => rs_iald (pc := 225) dX12_gathers_225 (md_lt hmd (by decide)) (md_geti (d := 31) (k := 46) (kd := 0) (n := 400) rfl (by decide) hmd) (vp_in_nI (n := c) (N := 400) (by omega) (by decide)) kk) ?_
  rw [nI_clamp (show c < 2 ^ 31 by omega)]
  refine wq (fun _ _ kk => rs_iconst (v := 1) (pc := 226) dX12_gathers_226 rfl kk) ?_
  refine wq (fun _ _ kk => rs_aload_n (pc := 227) dX12_gathers_227 rfl kk) ?_
  refine wq (fun _ _ kk => rs_getf (pc := 228) dX12_gathers_228 fX12_37 (md_lt hmd (by decide)) hmd.2.1 rfl kk) ?_
  refine wq (fun _ _ kk => rs_iload_n (pc := 231) dX12_gathers_231 rfl kk) ?_
  refine wq (fun _ _ kk => rs_iald (pc := 232) dX12_gathers_232 (md_lt hmd (by decide)) (md_geti (d := 9) (k := 15) (kd := 0) (n := 400) rfl (by decide) hmd) (vp_in_nI (n := i) (N := 400) (by omega) (by decide)) kk) ?_
  rw [nI_clamp (show i < 2 ^ 31 by omega)]
  refine wq (fun _ _ kk => rs_ishl (pc := 233) dX12_gathers_233 kk) ?_
  refine wq (fun _ _ kk => rs_ior (pc := 234) dX12_gathers_234 kk) ?_
  refine wq (fun _ _ kk => rs_iast (pc := 235) dX12_gathers_235 (md_lt hmd (by decide)) (md_geti (d := 31) (k := 46) (kd := 0) (n := 400) rfl (by decide) hmd) (vp_in_nI (n := c) (N := 400) (by omega) (by decide)) kk) ?_
  refine wq_gen (fun h_2 e_2 => ?_)
  obtain ⟨m_2, s_2, g_2, o_2⟩ := ai_e1 e_2
  replace hmd := md_at_ai (d := 31) rfl (by decide) hmd m_2 g_2 o_2
  have E_2 := (E_1).trans (md_ext_of m_2 s_2 o_2 (by decide))
  refine wq (fun _ _ kk => rs_aload_n (pc := 236) dX12_gathers_236 rfl kk) ?_
  refine wq (fun _ _ kk => rs_getf (pc := 237) dX12_gathers_237 fX12_111 (md_lt hmd (by decide)) hmd.2.1 rfl kk) ?_
  refine wq (fun _ _ kk => rs_iload_n (pc := 240) dX12_gathers_240 rfl kk) ?_
  refine wq (fun _ _ kk => rs_dup2 (pc := 241) dX12_gathers_241 rfl rfl kk) ?_
  refine wq (fun _ _ kk => rs_lald (pc := 242) dX12_gathers_242 (md_lt hmd (by decide)) (md_getl (d := 33) (k := 48) (kd := 1) (n := 400) rfl (by decide) hmd) (vp_in_nI (n := c) (N := 400) (by omega) (by decide)) kk) ?_
  rw [nI_clamp (show c < 2 ^ 31 by omega)]
  refine wq (fun _ _ kk => rs_lload (pc := 243) dX12_gathers_243 rfl kk) ?_
  refine wq (fun _ _ kk => rs_ladd (pc := 245) dX12_gathers_245 kk) ?_
  refine wq (fun _ _ kk => rs_last (pc := 246) dX12_gathers_246 (md_lt hmd (by decide)) (md_getl (d := 33) (k := 48) (kd := 1) (n := 400) rfl (by decide) hmd) (vp_in_nI (n := c) (N := 400) (by omega) (by decide)) kk) ?_
  refine wq_gen (fun h_3 e_3 => ?_)
  obtain ⟨m_3, s_3, g_3, o_3⟩ := ai_e1 e_3
  replace hmd := md_at_al (d := 33) rfl (by decide) hmd m_3 g_3 o_3
  have E_3 := (E_2).trans (md_ext_of m_3 s_3 o_3 (by decide))
  refine wq (fun _ _ kk => rs_aload_n (pc := 247) dX12_gathers_247 rfl kk) ?_
  refine wq (fun _ _ kk => rs_getf (pc := 248) dX12_gathers_248 fX12_114 (md_lt hmd (by decide)) hmd.2.1 rfl kk) ?_
  refine wq (fun _ _ kk => rs_iload_n (pc := 251) dX12_gathers_251 rfl kk) ?_
  refine wq (fun _ _ kk => rs_dup2 (pc := 252) dX12_gathers_252 rfl rfl kk) ?_
  refine wq (fun _ _ kk => rs_lald (pc := 253) dX12_gathers_253 (md_lt hmd (by decide)) (md_getl (d := 34) (k := 49) (kd := 1) (n := 400) rfl (by decide) hmd) (vp_in_nI (n := c) (N := 400) (by omega) (by decide)) kk) ?_
  rw [nI_clamp (show c < 2 ^ 31 by omega)]
  refine wq (fun _ _ kk => rs_lload (pc := 254) dX12_gathers_254 rfl kk) ?_
  refine wq (fun _ _ kk => rs_lload (pc := 256) dX12_gathers_256 rfl kk) ?_
  refine wq (fun _ _ kk => rs_lmul (pc := 258) dX12_gathers_258 kk) ?_
  refine wq (fun _ _ kk => rs_ladd (pc := 259) dX12_gathers_259 kk) ?_
  refine wq (fun _ _ kk => rs_last (pc := 260) dX12_gathers_260 (md_lt hmd (by decide)) (md_getl (d := 34) (k := 49) (kd := 1) (n := 400) rfl (by decide) hmd) (vp_in_nI (n := c) (N := 400) (by omega) (by decide)) kk) ?_
  refine wq_gen (fun h_4 e_4 => ?_)
  obtain ⟨m_4, s_4, g_4, o_4⟩ := ai_e1 e_4
  replace hmd := md_at_al (d := 34) rfl (by decide) hmd m_4 g_4 o_4
  have E_4 := (E_3).trans (md_ext_of m_4 s_4 o_4 (by decide))
  refine wq (fun _ _ kk => rs_aload_n (pc := 261) dX12_gathers_261 rfl kk) ?_
  refine wq (fun _ _ kk => rs_getf (pc := 262) dX12_gathers_262 fX12_108 (md_lt hmd (by decide)) hmd.2.1 rfl kk) ?_
  refine wq (fun _ _ kk => rs_iload_n (pc := 265) dX12_gathers_265 rfl kk) ?_
  refine wq (fun _ _ kk => rs_iload_n (pc := 266) dX12_gathers_266 rfl kk) ?_
  refine wq (fun _ _ kk => rs_iast (pc := 267) dX12_gathers_267 (md_lt hmd (by decide)) (md_geti (d := 32) (k := 47) (kd := 0) (n := 400) rfl (by decide) hmd) (vp_in_nI (n := i) (N := 400) (by omega) (by decide)) kk) ?_
  refine wq_gen (fun h_5 e_5 => ?_)
  obtain ⟨m_5, s_5, g_5, o_5⟩ := ai_e1 e_5
  replace hmd := md_at_ai (d := 32) rfl (by decide) hmd m_5 g_5 o_5
  have E_5 := (E_4).trans (md_ext_of m_5 s_5 o_5 (by decide))
  refine wq (fun _ _ kk => wk_iinc2 (v := nI (i + 1)) (pc := 268) dX12_gathers_268 (by decide) rfl (nI_1 i) kk) ?_
  refine wq (fun _ _ kk => rs_goto (tgt := 7) (pc := 271) dX12_gathers_271 rfl kk) ?_
  refine kx _ _ _ E_5 hmd ?_ ?_ ?_
  · rw [← ec]; rfl
  · exact (((((hsg.ai (by decide)).ai (by decide)).al (by decide)).al (by decide)).ai (by decide))
  · refine SI_add (c := c) hSI hkn hc hm (fun k a b d => ?_) ?_ ?_ ?_ ?_ ?_
    · show va_up (va_up (va_up T.2.2.1 45 _) 46 _) 47 _ k = _
      rw [va_up, if_neg d, va_up, if_neg b, va_up, if_neg a]
    · rw [nI_clamp (show c < 2 ^ 31 by omega)]; rfl
    · rw [nI_clamp (show c < 2 ^ 31 by omega)]
      show upd (T.2.2.1 46) c (T.2.2.1 46 c ||| 1 <<< (T.2.2.1 15 i &&& 31)) = _
      rw [((hRB.of hsg.sb).2.2.2.2.1 i hi).2.2.1]
    · rw [nI_clamp (show i < 2 ^ 31 by omega)]; rfl
    · rw [nI_clamp (show c < 2 ^ 31 by omega)]; rfl
    · rw [nI_clamp (show c < 2 ^ 31 by omega)]; rfl
set_option maxRecDepth 100000 in
set_option maxHeartbeats 4000000 in
theorem u_X12_gathers {h : ai_H} {S : Md} {B : Bk} {lm : Nat} {wk : Int32} (hok : bk_ok B lm) (hRB : RB B S) {i q c : Nat} {g : ai_H} {T : Md} {u4 : Value} {Q : Option Value → ai_H → Prop} (hi : i < nR B) (hi4 : i < 400) (hqi : q ≤ i) (kx : ∀ (g : ai_H) (q' : Nat) (c : Nat) (u4 : Value) (T : Md), q' ≤ i + 1 → md_ext h g → md_at g T → T.1 40 = nI q' → sg S T → SI B wk T (i + 1) (i + 1) q' → ai_W MX12_gathers 7 [.ref 307, .int wk, .int (nI (i + 1)), .int (nI c), u4, .float 0] [] g Q) (E0 : md_ext h g) (hmd : md_at g T) (ec : T.1 40 = nI q) (hsg : sg S T) (hkn : ¬ bk_known B (nI i) wk = 0) (hSI : SI B wk T i i q) (hfd : (c < q ∧ sk B i (T.2.2.1 41 c) (T.2.2.1 42 c) (T.2.2.1 43 c) (T.2.2.1 44 c)) ∨ (c = q ∧ ∀ d, d < q → ¬ sk B i (T.2.2.1 41 d) (T.2.2.1 42 d) (T.2.2.1 43 d) (T.2.2.1 44 d))) : ai_W MX12_gathers 107 [.ref 307, .int wk, .int (nI i), .int (nI c), u4, .float 0] [] g Q := by
  have hq : q ≤ 400 := by omega
  have hq2 : q ≤ i + 1 := by omega
  refine wq (fun _ _ kk => rs_iload_n (pc := 107) dX12_gathers_107 rfl kk) ?_
  refine wq (fun _ _ kk => rs_aload_n (pc := 108) dX12_gathers_108 rfl kk) ?_
  refine wq (fun _ _ kk => rs_getf (pc := 109) dX12_gathers_109 fX12_398 (md_lt hmd (by decide)) hmd.2.1 rfl kk) ?_
  refine wq_bn (fun _ _ kt kf => rs_icmp_ne (tgt := 201) (pc := 112) dX12_gathers_112 rfl kt kf) (fun c_112 => ?_) (fun c_112 => ?_)
  · have hc : c < q := by
      cases hfd with
      | inl z => exact z.1
      | inr z => exact absurd (by rw [z.1, ec]) c_112
    have hm : sk B i (T.2.2.1 41 c) (T.2.2.1 42 c) (T.2.2.1 43 c) (T.2.2.1 44 c) := by
      cases hfd with
      | inl z => exact z.2
      | inr z => omega
    exact t_X12_gathers (q := q) (c := c) hok hRB hi hi4 hq hc (fun g u4 T a b c d e => kx g q _ u4 T hq2 a b c d e) E0 hmd ec hsg hkn hm (SI_more hSI)
  · have hcq : c = q := by
      cases hfd with
      | inl z => exact nI_inj (a := c) (b := q) (by omega) (by omega) (c_112.trans ec)
      | inr z => exact z.1
    subst hcq
    refine wq (fun _ _ kk => rs_aload_n (pc := 115) dX12_gathers_115 rfl kk) ?_
    refine wq (fun _ _ kk => rs_getf (pc := 116) dX12_gathers_116 fX12_90 (md_lt hmd (by decide)) hmd.2.1 rfl kk) ?_
    refine wq (fun _ _ kk => rs_iload_n (pc := 119) dX12_gathers_119 rfl kk) ?_
    refine wq (fun _ _ kk => rs_aload_n (pc := 120) dX12_gathers_120 rfl kk) ?_
    refine wq (fun _ _ kk => rs_getf (pc := 121) dX12_gathers_121 fX12_40 (md_lt hmd (by decide)) hmd.2.1 rfl kk) ?_
    refine wq (fun _ _ kk => rs_iload_n (pc := 124) dX12_gathers_124 rfl kk) ?_
    refine wq (fun _ _ kk => rs_iald (pc := 125) dX12_gathers_125 (md_lt hmd (by decide)) (md_geti (d := 10) (k := 16) (kd := 0) (n := 400) rfl (by decide) hmd) (vp_in_nI (n := i) (N := 400) (by omega) (by decide)) kk) ?_
    rw [nI_clamp (show i < 2 ^ 31 by omega)]
    refine wq (fun _ _ kk => rs_iast (pc := 126) dX12_gathers_126 (md_lt hmd (by decide)) (md_geti (d := 26) (k := 41) (kd := 0) (n := 400) rfl (by decide) hmd) (vp_in_nI (n := c) (N := 400) (by omega) (by decide)) kk) ?_
    refine wq_gen (fun h_1 e_1 => ?_)
    obtain ⟨m_1, s_1, g_1, o_1⟩ := ai_e1 e_1
    replace hmd := md_at_ai (d := 26) rfl (by decide) hmd m_1 g_1 o_1
    have E_1 := (E0).trans (md_ext_of m_1 s_1 o_1 (by decide))
    refine wq (fun _ _ kk => rs_aload_n (pc := 127) dX12_gathers_127 rfl kk) ?_
    refine wq (fun _ _ kk => rs_getf (pc := 128) dX12_gathers_128 fX12_93 (md_lt hmd (by decide)) hmd.2.1 rfl kk) ?_
    refine wq (fun _ _ kk => rs_iload_n (pc := 131) dX12_gathers_131 rfl kk) ?_
    refine wq (fun _ _ kk => rs_aload_n (pc := 132) dX12_gathers_132 rfl kk) ?_
    refine wq (fun _ _ kk => rs_getf (pc := 133) dX12_gathers_133 fX12_31 (md_lt hmd (by decide)) hmd.2.1 rfl kk) ?_
    refine wq (fun _ _ kk => rs_iload_n (pc := 136) dX12_gathers_136 rfl kk) ?_
    refine wq (fun _ _ kk => rs_iald (pc := 137) dX12_gathers_137 (md_lt hmd (by decide)) (md_geti (d := 7) (k := 13) (kd := 0) (n := 400) rfl (by decide) hmd) (vp_in_nI (n := i) (N := 400) (by omega) (by decide)) kk) ?_
    rw [nI_clamp (show i < 2 ^ 31 by omega)]
    refine wq (fun _ _ kk => rs_iast (pc := 138) dX12_gathers_138 (md_lt hmd (by decide)) (md_geti (d := 27) (k := 42) (kd := 0) (n := 400) rfl (by decide) hmd) (vp_in_nI (n := c) (N := 400) (by omega) (by decide)) kk) ?_
    refine wq_gen (fun h_2 e_2 => ?_)
    obtain ⟨m_2, s_2, g_2, o_2⟩ := ai_e1 e_2
    replace hmd := md_at_ai (d := 27) rfl (by decide) hmd m_2 g_2 o_2
    have E_2 := (E_1).trans (md_ext_of m_2 s_2 o_2 (by decide))
    refine wq (fun _ _ kk => rs_aload_n (pc := 139) dX12_gathers_139 rfl kk) ?_
    refine wq (fun _ _ kk => rs_getf (pc := 140) dX12_gathers_140 fX12_96 (md_lt hmd (by decide)) hmd.2.1 rfl kk) ?_
    refine wq (fun _ _ kk => rs_iload_n (pc := 143) dX12_gathers_143 rfl kk) ?_
    refine wq (fun _ _ kk => rs_aload_n (pc := 144) dX12_gathers_144 rfl kk) ?_
    refine wq (fun _ _ kk => rs_getf (pc := 145) dX12_gathers_145 fX12_34 (md_lt hmd (by decide)) hmd.2.1 rfl kk) ?_
    refine wq (fun _ _ kk => rs_iload_n (pc := 148) dX12_gathers_148 rfl kk) ?_
    refine wq (fun _ _ kk => rs_iald (pc := 149) dX12_gathers_149 (md_lt hmd (by decide)) (md_geti (d := 8) (k := 14) (kd := 0) (n := 400) rfl (by decide) hmd) (vp_in_nI (n := i) (N := 400) (by omega) (by decide)) kk) ?_
    rw [nI_clamp (show i < 2 ^ 31 by omega)]
    refine wq (fun _ _ kk => rs_iast (pc := 150) dX12_gathers_150 (md_lt hmd (by decide)) (md_geti (d := 28) (k := 43) (kd := 0) (n := 400) rfl (by decide) hmd) (vp_in_nI (n := c) (N := 400) (by omega) (by decide)) kk) ?_
    refine wq_gen (fun h_3 e_3 => ?_)
    obtain ⟨m_3, s_3, g_3, o_3⟩ := ai_e1 e_3
    replace hmd := md_at_ai (d := 28) rfl (by decide) hmd m_3 g_3 o_3
    have E_3 := (E_2).trans (md_ext_of m_3 s_3 o_3 (by decide))
    refine wq (fun _ _ kk => rs_aload_n (pc := 151) dX12_gathers_151 rfl kk) ?_
    refine wq (fun _ _ kk => rs_getf (pc := 152) dX12_gathers_152 fX12_99 (md_lt hmd (by decide)) hmd.2.1 rfl kk) ?_
    refine wq (fun _ _ kk => rs_iload_n (pc := 155) dX12_gathers_155 rfl kk) ?_
    refine wq (fun _ _ kk => rs_aload_n (pc := 156) dX12_gathers_156 rfl kk) ?_
    refine wq (fun _ _ kk => rs_getf (pc := 157) dX12_gathers_157 fX12_43 (md_lt hmd (by decide)) hmd.2.1 rfl kk) ?_
    refine wq (fun _ _ kk => rs_iload_n (pc := 160) dX12_gathers_160 rfl kk) ?_
    refine wq (fun _ _ kk => rs_iald (pc := 161) dX12_gathers_161 (md_lt hmd (by decide)) (md_geti (d := 11) (k := 17) (kd := 0) (n := 400) rfl (by decide) hmd) (vp_in_nI (n := i) (N := 400) (by omega) (by decide)) kk) ?_
    rw [nI_clamp (show i < 2 ^ 31 by omega)]
    refine wq (fun _ _ kk => rs_iast (pc := 162) dX12_gathers_162 (md_lt hmd (by decide)) (md_geti (d := 29) (k := 44) (kd := 0) (n := 400) rfl (by decide) hmd) (vp_in_nI (n := c) (N := 400) (by omega) (by decide)) kk) ?_
    refine wq_gen (fun h_4 e_4 => ?_)
    obtain ⟨m_4, s_4, g_4, o_4⟩ := ai_e1 e_4
    replace hmd := md_at_ai (d := 29) rfl (by decide) hmd m_4 g_4 o_4
    have E_4 := (E_3).trans (md_ext_of m_4 s_4 o_4 (by decide))
    refine wq (fun _ _ kk => rs_aload_n (pc := 163) dX12_gathers_163 rfl kk) ?_
    refine wq (fun _ _ kk => rs_getf (pc := 164) dX12_gathers_164 fX12_102 (md_lt hmd (by decide)) hmd.2.1 rfl kk) ?_
    refine wq (fun _ _ kk => rs_iload_n (pc := 167) dX12_gathers_167 rfl kk) ?_
    refine wq (fun _ _ kk => rs_iconst (v := 0) (pc := 168) dX12_gathers_168 rfl kk) ?_
    refine wq (fun _ _ kk => rs_iast (pc := 169) dX12_gathers_169 (md_lt hmd (by decide)) (md_geti (d := 30) (k := 45) (kd := 0) (n := 400) rfl (by decide) hmd) (vp_in_nI (n := c) (N := 400) (by omega) (by decide)) kk) ?_
    refine wq_gen (fun h_5 e_5 => ?_)
    obtain ⟨m_5, s_5, g_5, o_5⟩ := ai_e1 e_5
    replace hmd := md_at_ai (d := 30) rfl (by decide) hmd m_5 g_5 o_5
    have E_5 := (E_4).trans (md_ext_of m_5 s_5 o_5 (by decide))
    refine wq (fun _ _ kk => rs_aload_n (pc := 170) dX12_gathers_170 rfl kk) ?_
    refine wq (fun _ _ kk => rs_getf (pc := 171) dX12_gathers_171 fX12_105 (md_lt hmd (by decide)) hmd.2.1 rfl kk) ?_
    refine wq (fun _ _ kk => rs_iload_n (pc := 174) dX12_gathers_174 rfl kk) ?_
    refine wq (fun _ _ kk => rs_iconst (v := 0) (pc := 175) dX12_gathers_175 rfl kk) ?_
    refine wq (fun _ _ kk => rs_iast (pc := 176) dX12_gathers_176 (md_lt hmd (by decide)) (md_geti (d := 31) (k := 46) (kd := 0) (n := 400) rfl (by decide) hmd) (vp_in_nI (n := c) (N := 400) (by omega) (by decide)) kk) ?_
    refine wq_gen (fun h_6 e_6 => ?_)
    obtain ⟨m_6, s_6, g_6, o_6⟩ := ai_e1 e_6
    replace hmd := md_at_ai (d := 31) rfl (by decide) hmd m_6 g_6 o_6
    have E_6 := (E_5).trans (md_ext_of m_6 s_6 o_6 (by decide))
    refine wq (fun _ _ kk => rs_aload_n (pc := 177) dX12_gathers_177 rfl kk) ?_
    refine wq (fun _ _ kk => rs_getf (pc := 178) dX12_gathers_178 fX12_111 (md_lt hmd (by decide)) hmd.2.1 rfl kk) ?_
    refine wq (fun _ _ kk => rs_iload_n (pc := 181) dX12_gathers_181 rfl kk) ?_
    refine wq (fun _ _ kk => rs_lconst (v := 0) (pc := 182) dX12_gathers_182 rfl kk) ?_
    refine wq (fun _ _ kk => rs_last (pc := 183) dX12_gathers_183 (md_lt hmd (by decide)) (md_getl (d := 33) (k := 48) (kd := 1) (n := 400) rfl (by decide) hmd) (vp_in_nI (n := c) (N := 400) (by omega) (by decide)) kk) ?_
    refine wq_gen (fun h_7 e_7 => ?_)
    obtain ⟨m_7, s_7, g_7, o_7⟩ := ai_e1 e_7
    replace hmd := md_at_al (d := 33) rfl (by decide) hmd m_7 g_7 o_7
    have E_7 := (E_6).trans (md_ext_of m_7 s_7 o_7 (by decide))
    refine wq (fun _ _ kk => rs_aload_n (pc := 184) dX12_gathers_184 rfl kk) ?_
    refine wq (fun _ _ kk => rs_getf (pc := 185) dX12_gathers_185 fX12_114 (md_lt hmd (by decide)) hmd.2.1 rfl kk) ?_
    refine wq (fun _ _ kk => rs_iload_n (pc := 188) dX12_gathers_188 rfl kk) ?_
    refine wq (fun _ _ kk => rs_lconst (v := 0) (pc := 189) dX12_gathers_189 rfl kk) ?_
    refine wq (fun _ _ kk => rs_last (pc := 190) dX12_gathers_190 (md_lt hmd (by decide)) (md_getl (d := 34) (k := 49) (kd := 1) (n := 400) rfl (by decide) hmd) (vp_in_nI (n := c) (N := 400) (by omega) (by decide)) kk) ?_
    refine wq_gen (fun h_8 e_8 => ?_)
    obtain ⟨m_8, s_8, g_8, o_8⟩ := ai_e1 e_8
    replace hmd := md_at_al (d := 34) rfl (by decide) hmd m_8 g_8 o_8
    have E_8 := (E_7).trans (md_ext_of m_8 s_8 o_8 (by decide))
    refine wq (fun _ _ kk => rs_aload_n (pc := 191) dX12_gathers_191 rfl kk) ?_
    refine wq (fun _ _ kk => rs_dup (pc := 192) dX12_gathers_192 rfl kk) ?_
    refine wq (fun _ _ kk => rs_getf (pc := 193) dX12_gathers_193 fX12_398 (md_lt hmd (by decide)) hmd.2.1 rfl kk) ?_
    refine wq (fun _ _ kk => rs_iconst (v := 1) (pc := 196) dX12_gathers_196 rfl kk) ?_
    refine wq (fun _ _ kk => rs_iadd (pc := 197) dX12_gathers_197 kk) ?_
    refine wq (fun _ _ kk => rs_putf (pc := 198) dX12_gathers_198 fX12_398 (md_lt hmd (by decide)) hmd.2.1 rfl (Nat.le_of_ble_eq_true rfl) kk) ?_
    refine wq_gen (fun h_9 e_9 => ?_)
    obtain ⟨m_9, s_9, g_9, o_9⟩ := ai_e1 e_9
    replace hmd := md_at_si (k := 40) hmd m_9 g_9 o_9 rfl
    have E_9 := (E_8).trans (md_ext_of m_9 s_9 o_9 (by decide))
    have hno : ∀ d, d < c → ¬ sk B i (T.2.2.1 41 d) (T.2.2.1 42 d) (T.2.2.1 43 d) (T.2.2.1 44 d) := by
      cases hfd with
      | inl z => omega
      | inr z => exact z.2
    obtain ⟨r1, r2, r3, r4, r5, r6, r7, r8, r9⟩ := (hRB.of hsg.sb).2.2.2.2.1 i hi
    have e1 : T.1 40 + 1 = nI (c + 1) := by rw [ec, nI_1]
    refine t_X12_gathers (q := c + 1) (c := c) hok hRB hi hi4 (by omega) (by omega) (fun g u4 T a b c d e => kx g _ _ u4 T (by omega) a b c d e) E_9 hmd e1 ?_ hkn ?_ ?_
    · exact ((((((((hsg.ai (by decide)).ai (by decide)).ai (by decide)).ai (by decide)).ai (by decide)).ai (by decide)).al (by decide)).al (by decide)).si
    · refine ⟨?_, ?_, ?_, ?_⟩
      · show _ = upd (T.2.2.1 41) (nI c).toNatClampNeg (T.2.2.1 16 i) c
        rw [nI_clamp (show c < 2 ^ 31 by omega), pk_us, r4]
      · show _ = upd (T.2.2.1 42) (nI c).toNatClampNeg (T.2.2.1 13 i) c
        rw [nI_clamp (show c < 2 ^ 31 by omega), pk_us, r1]
      · show _ = upd (T.2.2.1 43) (nI c).toNatClampNeg (T.2.2.1 14 i) c
        rw [nI_clamp (show c < 2 ^ 31 by omega), pk_us, r2]
      · show _ = upd (T.2.2.1 44) (nI c).toNatClampNeg (T.2.2.1 17 i) c
        rw [nI_clamp (show c < 2 ^ 31 by omega), pk_us, r5]
    · refine SI_new hSI hkn hno ?_ ?_ ?_ ?_ ?_ ?_ ?_ ?_ ?_
      · show upd (T.2.2.1 41) (nI c).toNatClampNeg (T.2.2.1 16 i) = _
        rw [nI_clamp (show c < 2 ^ 31 by omega), r4]
      · show upd (T.2.2.1 42) (nI c).toNatClampNeg (T.2.2.1 13 i) = _
        rw [nI_clamp (show c < 2 ^ 31 by omega), r1]
      · show upd (T.2.2.1 43) (nI c).toNatClampNeg (T.2.2.1 14 i) = _
        rw [nI_clamp (show c < 2 ^ 31 by omega), r2]
      · show upd (T.2.2.1 44) (nI c).toNatClampNeg (T.2.2.1 17 i) = _
        rw [nI_clamp (show c < 2 ^ 31 by omega), r5]
      · rw [nI_clamp (show c < 2 ^ 31 by omega)]; rfl
      · rw [nI_clamp (show c < 2 ^ 31 by omega)]; rfl
      · rfl
      · rw [nI_clamp (show c < 2 ^ 31 by omega)]; rfl
      · rw [nI_clamp (show c < 2 ^ 31 by omega)]; rfl
set_option maxRecDepth 100000 in
set_option maxHeartbeats 4000000 in
theorem l1_X12_gathers {h : ai_H} {S : Md} {B : Bk} {lm : Nat} {wk : Int32} (hok : bk_ok B lm) (hRB : RB B S) {i q : Nat} {g : ai_H} {T : Md} {u4 : Value} {Q : Option Value → ai_H → Prop} (hi : i < nR B) (hi4 : i < 400) (hqi : q ≤ i) (E0 : md_ext h g) (hmd : md_at g T) (ec : T.1 40 = nI q) (hsg : sg S T) (kf : ∀ c, (c < q ∧ sk B i (T.2.2.1 41 c) (T.2.2.1 42 c) (T.2.2.1 43 c) (T.2.2.1 44 c)) ∨ (c = q ∧ ∀ d, d < q → ¬ sk B i (T.2.2.1 41 d) (T.2.2.1 42 d) (T.2.2.1 43 d) (T.2.2.1 44 d)) → ai_W MX12_gathers 107 [.ref 307, .int wk, .int (nI i), .int (nI c), u4, .float 0] [] g Q) : ∀ (m c : Nat), c ≤ q → q + 1 ≤ c + m → (∀ d, d < c → ¬ sk B i (T.2.2.1 41 d) (T.2.2.1 42 d) (T.2.2.1 43 d) (T.2.2.1 44 d)) → ai_W MX12_gathers 33 [.ref 307, .int wk, .int (nI i), .int (nI c), u4, .float 0] [] g Q := by
  intro m
  induction m with
  | zero => intro c h1 h2; exact absurd h2 (by omega)
  | succ m ih =>
    intro c hc0 him hno
    refine wq (fun _ _ kk => rs_iload_n (pc := 33) dX12_gathers_33 rfl kk) ?_
    refine wq (fun _ _ kk => rs_aload_n (pc := 34) dX12_gathers_34 rfl kk) ?_
    refine wq (fun _ _ kk => rs_getf (pc := 35) dX12_gathers_35 fX12_398 (md_lt hmd (by decide)) hmd.2.1 rfl kk) ?_
    refine wq_br (fun _ _ kt kf => rs_icmp_ge (tgt := 107) (pc := 38) dX12_gathers_38 rfl kt kf) (fun c_38 => ?_) (fun c_38 => ?_)
    · have hce : c = q := lp_exit ec (by omega) hc0 c_38
      subst hce
      first
      | exact kf c (Or.inr ⟨rfl, hno⟩)
      | (obtain ⟨r1, r2, r3, r4, r5, r6, r7, r8, r9⟩ := (hRB.of hsg.sb).2.2.2.2.1 i hi
         exact kf c (Or.inl ⟨hc, by rw [← r4, c_53], by rw [← r1, c_68], by rw [← r2, c_83], by rw [← r5, c_98]⟩))
    · have hc : c < q := lp_go ec (by omega) c_38
      refine wq (fun _ _ kk => rs_aload_n (pc := 41) dX12_gathers_41 rfl kk) ?_
      refine wq (fun _ _ kk => rs_getf (pc := 42) dX12_gathers_42 fX12_90 (md_lt hmd (by decide)) hmd.2.1 rfl kk) ?_
      refine wq (fun _ _ kk => rs_iload_n (pc := 45) dX12_gathers_45 rfl kk) ?_
      refine wq (fun _ _ kk => rs_iald (pc := 46) dX12_gathers_46 (md_lt hmd (by decide)) (md_geti (d := 26) (k := 41) (kd := 0) (n := 400) rfl (by decide) hmd) (vp_in_nI (n := c) (N := 400) (by omega) (by decide)) kk) ?_
      rw [nI_clamp (show c < 2 ^ 31 by omega)]
      refine wq (fun _ _ kk => rs_aload_n (pc := 47) dX12_gathers_47 rfl kk) ?_
      refine wq (fun _ _ kk => rs_getf (pc := 48) dX12_gathers_48 fX12_40 (md_lt hmd (by decide)) hmd.2.1 rfl kk) ?_
      refine wq (fun _ _ kk => rs_iload_n (pc := 51) dX12_gathers_51 rfl kk) ?_
      refine wq (fun _ _ kk => rs_iald (pc := 52) dX12_gathers_52 (md_lt hmd (by decide)) (md_geti (d := 10) (k := 16) (kd := 0) (n := 400) rfl (by decide) hmd) (vp_in_nI (n := i) (N := 400) (by omega) (by decide)) kk) ?_
      rw [nI_clamp (show i < 2 ^ 31 by omega)]
      refine wq_bn (fun _ _ kt kf => rs_icmp_ne (tgt := 101) (pc := 53) dX12_gathers_53 rfl kt kf) (fun c_53 => ?_) (fun c_53 => ?_)
      · refine wq (fun _ _ kk => wk_iinc3 (v := nI (c + 1)) (pc := 101) dX12_gathers_101 (by decide) rfl (nI_1 c) kk) ?_
        refine wq (fun _ _ kk => rs_goto (tgt := 33) (pc := 104) dX12_gathers_104 rfl kk) ?_
        exact ih (c + 1) (by omega) (by omega) (fun d hd => by
          by_cases e : d = c
          · subst e
            obtain ⟨r1, r2, r3, r4, r5, r6, r7, r8, r9⟩ := (hRB.of hsg.sb).2.2.2.2.1 i hi
            intro z
            first
            | exact c_53 (by rw [r4]; exact z.1.symm)
            | exact c_68 (by rw [r1]; exact z.2.1.symm)
            | exact c_83 (by rw [r2]; exact z.2.2.1.symm)
            | exact c_98 (by rw [r5]; exact z.2.2.2.symm)
          · exact hno d (by omega))
      · refine wq (fun _ _ kk => rs_aload_n (pc := 56) dX12_gathers_56 rfl kk) ?_
        refine wq (fun _ _ kk => rs_getf (pc := 57) dX12_gathers_57 fX12_93 (md_lt hmd (by decide)) hmd.2.1 rfl kk) ?_
        refine wq (fun _ _ kk => rs_iload_n (pc := 60) dX12_gathers_60 rfl kk) ?_
        refine wq (fun _ _ kk => rs_iald (pc := 61) dX12_gathers_61 (md_lt hmd (by decide)) (md_geti (d := 27) (k := 42) (kd := 0) (n := 400) rfl (by decide) hmd) (vp_in_nI (n := c) (N := 400) (by omega) (by decide)) kk) ?_
        rw [nI_clamp (show c < 2 ^ 31 by omega)]
        refine wq (fun _ _ kk => rs_aload_n (pc := 62) dX12_gathers_62 rfl kk) ?_
        refine wq (fun _ _ kk => rs_getf (pc := 63) dX12_gathers_63 fX12_31 (md_lt hmd (by decide)) hmd.2.1 rfl kk) ?_
        refine wq (fun _ _ kk => rs_iload_n (pc := 66) dX12_gathers_66 rfl kk) ?_
        refine wq (fun _ _ kk => rs_iald (pc := 67) dX12_gathers_67 (md_lt hmd (by decide)) (md_geti (d := 7) (k := 13) (kd := 0) (n := 400) rfl (by decide) hmd) (vp_in_nI (n := i) (N := 400) (by omega) (by decide)) kk) ?_
        rw [nI_clamp (show i < 2 ^ 31 by omega)]
        refine wq_bn (fun _ _ kt kf => rs_icmp_ne (tgt := 101) (pc := 68) dX12_gathers_68 rfl kt kf) (fun c_68 => ?_) (fun c_68 => ?_)
        · refine wq (fun _ _ kk => wk_iinc3 (v := nI (c + 1)) (pc := 101) dX12_gathers_101 (by decide) rfl (nI_1 c) kk) ?_
          refine wq (fun _ _ kk => rs_goto (tgt := 33) (pc := 104) dX12_gathers_104 rfl kk) ?_
          exact ih (c + 1) (by omega) (by omega) (fun d hd => by
            by_cases e : d = c
            · subst e
              obtain ⟨r1, r2, r3, r4, r5, r6, r7, r8, r9⟩ := (hRB.of hsg.sb).2.2.2.2.1 i hi
              intro z
              first
              | exact c_53 (by rw [r4]; exact z.1.symm)
              | exact c_68 (by rw [r1]; exact z.2.1.symm)
              | exact c_83 (by rw [r2]; exact z.2.2.1.symm)
              | exact c_98 (by rw [r5]; exact z.2.2.2.symm)
            · exact hno d (by omega))
        · refine wq (fun _ _ kk => rs_aload_n (pc := 71) dX12_gathers_71 rfl kk) ?_
          refine wq (fun _ _ kk => rs_getf (pc := 72) dX12_gathers_72 fX12_96 (md_lt hmd (by decide)) hmd.2.1 rfl kk) ?_
          refine wq (fun _ _ kk => rs_iload_n (pc := 75) dX12_gathers_75 rfl kk) ?_
          refine wq (fun _ _ kk => rs_iald (pc := 76) dX12_gathers_76 (md_lt hmd (by decide)) (md_geti (d := 28) (k := 43) (kd := 0) (n := 400) rfl (by decide) hmd) (vp_in_nI (n := c) (N := 400) (by omega) (by decide)) kk) ?_
          rw [nI_clamp (show c < 2 ^ 31 by omega)]
          refine wq (fun _ _ kk => rs_aload_n (pc := 77) dX12_gathers_77 rfl kk) ?_
          refine wq (fun _ _ kk => rs_getf (pc := 78) dX12_gathers_78 fX12_34 (md_lt hmd (by decide)) hmd.2.1 rfl kk) ?_
          refine wq (fun _ _ kk => rs_iload_n (pc := 81) dX12_gathers_81 rfl kk) ?_
          refine wq (fun _ _ kk => rs_iald (pc := 82) dX12_gathers_82 (md_lt hmd (by decide)) (md_geti (d := 8) (k := 14) (kd := 0) (n := 400) rfl (by decide) hmd) (vp_in_nI (n := i) (N := 400) (by omega) (by decide)) kk) ?_
          rw [nI_clamp (show i < 2 ^ 31 by omega)]
          refine wq_bn (fun _ _ kt kf => rs_icmp_ne (tgt := 101) (pc := 83) dX12_gathers_83 rfl kt kf) (fun c_83 => ?_) (fun c_83 => ?_)
          · refine wq (fun _ _ kk => wk_iinc3 (v := nI (c + 1)) (pc := 101) dX12_gathers_101 (by decide) rfl (nI_1 c) kk) ?_
            refine wq (fun _ _ kk => rs_goto (tgt := 33) (pc := 104) dX12_gathers_104 rfl kk) ?_
            exact ih (c + 1) (by omega) (by omega) (fun d hd => by
              by_cases e : d = c
              · subst e
                obtain ⟨r1, r2, r3, r4, r5, r6, r7, r8, r9⟩ := (hRB.of hsg.sb).2.2.2.2.1 i hi
                intro z
                first
                | exact c_53 (by rw [r4]; exact z.1.symm)
                | exact c_68 (by rw [r1]; exact z.2.1.symm)
                | exact c_83 (by rw [r2]; exact z.2.2.1.symm)
                | exact c_98 (by rw [r5]; exact z.2.2.2.symm)
              · exact hno d (by omega))
          · refine wq (fun _ _ kk => rs_aload_n (pc := 86) dX12_gathers_86 rfl kk) ?_
            refine wq (fun _ _ kk => rs_getf (pc := 87) dX12_gathers_87 fX12_99 (md_lt hmd (by decide)) hmd.2.1 rfl kk) ?_
            refine wq (fun _ _ kk => rs_iload_n (pc := 90) dX12_gathers_90 rfl kk) ?_
            refine wq (fun _ _ kk => rs_iald (pc := 91) dX12_gathers_91 (md_lt hmd (by decide)) (md_geti (d := 29) (k := 44) (kd := 0) (n := 400) rfl (by decide) hmd) (vp_in_nI (n := c) (N := 400) (by omega) (by decide)) kk) ?_
            rw [nI_clamp (show c < 2 ^ 31 by omega)]
            refine wq (fun _ _ kk => rs_aload_n (pc := 92) dX12_gathers_92 rfl kk) ?_
            refine wq (fun _ _ kk => rs_getf (pc := 93) dX12_gathers_93 fX12_43 (md_lt hmd (by decide)) hmd.2.1 rfl kk) ?_
            refine wq (fun _ _ kk => rs_iload_n (pc := 96) dX12_gathers_96 rfl kk) ?_
            refine wq (fun _ _ kk => rs_iald (pc := 97) dX12_gathers_97 (md_lt hmd (by decide)) (md_geti (d := 11) (k := 17) (kd := 0) (n := 400) rfl (by decide) hmd) (vp_in_nI (n := i) (N := 400) (by omega) (by decide)) kk) ?_
            rw [nI_clamp (show i < 2 ^ 31 by omega)]
            refine wq_br (fun _ _ kt kf => rs_icmp_eq (tgt := 107) (pc := 98) dX12_gathers_98 rfl kt kf) (fun c_98 => ?_) (fun c_98 => ?_)
            · first
              | exact kf c (Or.inr ⟨rfl, hno⟩)
              | (obtain ⟨r1, r2, r3, r4, r5, r6, r7, r8, r9⟩ := (hRB.of hsg.sb).2.2.2.2.1 i hi
                 exact kf c (Or.inl ⟨hc, by rw [← r4, c_53], by rw [← r1, c_68], by rw [← r2, c_83], by rw [← r5, c_98]⟩))
            · refine wq (fun _ _ kk => wk_iinc3 (v := nI (c + 1)) (pc := 101) dX12_gathers_101 (by decide) rfl (nI_1 c) kk) ?_
              refine wq (fun _ _ kk => rs_goto (tgt := 33) (pc := 104) dX12_gathers_104 rfl kk) ?_
              exact ih (c + 1) (by omega) (by omega) (fun d hd => by
                by_cases e : d = c
                · subst e
                  obtain ⟨r1, r2, r3, r4, r5, r6, r7, r8, r9⟩ := (hRB.of hsg.sb).2.2.2.2.1 i hi
                  intro z
                  first
                  | exact c_53 (by rw [r4]; exact z.1.symm)
                  | exact c_68 (by rw [r1]; exact z.2.1.symm)
                  | exact c_83 (by rw [r2]; exact z.2.2.1.symm)
                  | exact c_98 (by rw [r5]; exact z.2.2.2.symm)
                · exact hno d (by omega))
set_option maxRecDepth 100000 in
set_option maxHeartbeats 4000000 in
theorem l2_X12_gathers {h : ai_H} {S : Md} {B : Bk} {lm : Nat} {wk : Int32} (hok : bk_ok B lm) (hRB : RB B S) (hwk : wk.toInt ≤ 9999) : ∀ (m i q : Nat) (u3 u4 : Value) (g : ai_H) (T : Md), i ≤ nR B → nR B + 1 ≤ i + m → q ≤ i → md_ext h g → md_at g T → T.1 40 = nI q → sg S T → SI B wk T i i q → ai_W MX12_gathers 7 [.ref 307, .int wk, .int (nI i), u3, u4, .float 0] [] g (fun r g => r = none ∧ md_ext h g ∧ ∃ T q, q ≤ nR B ∧ md_at g T ∧ T.1 40 = nI q ∧ sg S T ∧ SI B wk T (nR B) (nR B) q) := by
  intro m
  induction m with
  | zero => intro i q u3 u4 g T h1 h2; exact absurd h2 (by omega)
  | succ m ih =>
    intro i q u3 u4 g T hi0 him hqi E0 hmd ec hsg hSI
    have hr4 : nR B ≤ 400 := hok.2.2.2.2.1.2.1
    refine wq (fun _ _ kk => rs_iload_n (pc := 7) dX12_gathers_7 rfl kk) ?_
    refine wq (fun _ _ kk => rs_aload_n (pc := 8) dX12_gathers_8 rfl kk) ?_
    refine wq (fun _ _ kk => rs_getf (pc := 9) dX12_gathers_9 fX12_197 (md_lt hmd (by decide)) hmd.2.1 rfl kk) ?_
    have esz : T.1 5 = nI (nR B) := (hRB.of hsg.sb).1.2.2.2.2.1.trans hok.2.2.2.2.1.1
    refine wq_br (fun _ _ kt kf => rs_icmp_ge (tgt := 274) (pc := 12) dX12_gathers_12 rfl kt kf) (fun c_12 => ?_) (fun c_12 => ?_)
    · have hie : i = nR B := lp_exit (x := T.1 5) esz (by omega) hi0 c_12
      subst hie
      refine wq_ret ?_ (rs_vret (pc := 274) dX12_gathers_274 rfl)
      exact ⟨rfl, E0, T, q, hqi, hmd, ec, hsg, hSI⟩
    · have hi : i < nR B := lp_go (x := T.1 5) esz (by omega) c_12
      refine wq (fun _ _ kk => rs_aload_n (pc := 15) dX12_gathers_15 rfl kk) ?_
      refine wq (fun _ _ kk => rs_getf (pc := 16) dX12_gathers_16 fX12_108 (md_lt hmd (by decide)) hmd.2.1 rfl kk) ?_
      refine wq (fun _ _ kk => rs_iload_n (pc := 19) dX12_gathers_19 rfl kk) ?_
      refine wq (fun _ _ kk => rs_iconst (v := -1) (pc := 20) dX12_gathers_20 rfl kk) ?_
      refine wq (fun _ _ kk => rs_iast (pc := 21) dX12_gathers_21 (md_lt hmd (by decide)) (md_geti (d := 32) (k := 47) (kd := 0) (n := 400) rfl (by decide) hmd) (vp_in_nI (n := i) (N := 400) (by omega) (by decide)) kk) ?_
      refine wq_gen (fun h_1 e_1 => ?_)
      obtain ⟨m_1, s_1, g_1, o_1⟩ := ai_e1 e_1
      replace hmd := md_at_ai (d := 32) rfl (by decide) hmd m_1 g_1 o_1
      have E_1 := (E0).trans (md_ext_of m_1 s_1 o_1 (by decide))
      refine wq (fun _ _ kk => rs_aload_n (pc := 22) dX12_gathers_22 rfl kk) ?_
      refine wq (fun _ _ kk => rs_iload_n (pc := 23) dX12_gathers_23 rfl kk) ?_
      refine wq (fun _ _ kk => rs_iload_n (pc := 24) dX12_gathers_24 rfl kk) ?_
      refine wq (fun _ _ kk => rs_callV (as := [_, _]) (pc := 25) dX12_gathers_25 mk_X12_counts mlX12_234 in_X12_counts se_X12_counts rfl (md_lt hmd (by decide)) hmd.2.1 rfl rfl (Nat.le_of_ble_eq_true rfl) (c_X12_counts hmd (show i < 400 by omega) wk) kk) ?_
      rw [show ms_counts _ i wk = bk_known B (nI i) wk from rb_counts (hRB.of (hsg.ai (by decide)).sb) hok hi hwk]
      refine wq_br (fun _ _ kt kf => rs_if_eq (tgt := 268) (pc := 28) dX12_gathers_28 rfl kt kf) (fun c_28 => ?_) (fun c_28 => ?_)
      · refine wq (fun _ _ kk => wk_iinc2 (v := nI (i + 1)) (pc := 268) dX12_gathers_268 (by decide) rfl (nI_1 i) kk) ?_
        refine wq (fun _ _ kk => rs_goto (tgt := 7) (pc := 271) dX12_gathers_271 rfl kk) ?_
        exact ih (i + 1) q _ _ _ _ (by omega) (by omega) (by omega) E_1 hmd (by exact ec) (hsg.ai (by decide)) (SI_skip hSI c_28 (fun k hk => by show va_up _ _ _ k = _; rw [va_up, if_neg hk]) rfl (by show upd _ _ _ = _; rw [nI_clamp (show i < 2 ^ 31 by omega)]))
      · refine wq (fun _ _ kk => rs_iconst (v := 0) (pc := 31) dX12_gathers_31 rfl kk) ?_
        refine wq (fun _ _ kk => wk_istn3 (pc := 32) dX12_gathers_32 (by decide) rfl kk) ?_
        refine l1_X12_gathers (h := h) (q := q) hok hRB hi (by omega) hqi E_1 hmd (by exact ec) (hsg.ai (by decide)) (fun c hfd => ?_) (q + 1) 0 (by omega) (by omega) (fun d hd => absurd hd (Nat.not_lt_zero d))
        refine u_X12_gathers (h := h) (q := q) hok hRB hi (by omega) hqi (fun g q' c u4 T hq' E0 hmd ec hsg hSI => ih (i + 1) q' _ u4 g T (by omega) (by omega) hq' E0 hmd ec hsg hSI) E_1 hmd (by exact ec) (hsg.ai (by decide)) c_28 ?_ hfd
        obtain ⟨s1, s2, s3, s4⟩ := hSI
        refine ⟨s1, s2, fun k hk => ?_, s4⟩
        show (_ → ∃ c, c < q ∧ upd (T.2.2.1 47) (nI i).toNatClampNeg (-1) k = nI c ∧ _) ∧ (_ → upd (T.2.2.1 47) (nI i).toNatClampNeg (-1) k = -1)
        rw [nI_clamp (show i < 2 ^ 31 by omega), pk_un (show k ≠ i by omega)]
        exact s3 k hk
set_option maxRecDepth 100000 in
set_option maxHeartbeats 4000000 in
theorem c_X12_gathers {h : ai_H} {S : Md} {B : Bk} {lm : Nat} {wk : Int32} (hok : bk_ok B lm) (hRB : RB B S) (hwk : wk.toInt ≤ 9999) (hmd : md_at h S) : ai_QM MX12_gathers [.ref 307, .int wk] h (fun r g => r = none ∧ md_ext h g ∧ ∃ T q, q ≤ nR B ∧ md_at g T ∧ T.1 40 = nI q ∧ sg S T ∧ SI B wk T (nR B) (nR B) q) := by
  refine qm_of (ls := [.ref 307, .int wk, .float 0, .float 0, .float 0, .float 0]) (by decide) (by simp [ai_en, Value.category]) (by rfl) ?_
  refine wq (fun _ _ kk => rs_aload_n (pc := 0) dX12_gathers_0 rfl kk) ?_
  refine wq (fun _ _ kk => rs_iconst (v := 0) (pc := 1) dX12_gathers_1 rfl kk) ?_
  refine wq (fun _ _ kk => rs_putf (pc := 2) dX12_gathers_2 fX12_398 (md_lt hmd (by decide)) hmd.2.1 rfl (Nat.le_of_ble_eq_true rfl) kk) ?_
  refine wq_gen (fun h_1 e_1 => ?_)
  obtain ⟨m_1, s_1, g_1, o_1⟩ := ai_e1 e_1
  replace hmd := md_at_si (k := 40) hmd m_1 g_1 o_1 rfl
  have E_1 := (md_ext.rf).trans (md_ext_of m_1 s_1 o_1 (by decide))
  refine wq (fun _ _ kk => rs_iconst (v := 0) (pc := 5) dX12_gathers_5 rfl kk) ?_
  refine wq (fun _ _ kk => wk_istn2 (pc := 6) dX12_gathers_6 (by decide) rfl kk) ?_
  exact l2_X12_gathers (h := h) hok hRB hwk (nR B + 1) 0 0 _ _ _ _ (by omega) (by omega) (by omega) (E_1) hmd rfl (sg.rf.si) (SI_0 B wk _)
