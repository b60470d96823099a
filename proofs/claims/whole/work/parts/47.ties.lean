/-! 47: ties: what is bound together by pairs, as masks and as labels -/
noncomputable def cd (p : Prop) : Bool := @decide p (Classical.propDecidable p)
theorem cd_iff {p : Prop} : cd p = true ↔ p := by unfold cd; exact @decide_eq_true_iff p (Classical.propDecidable p)
/-- i and j are bound together by the pairs X -/
def clo (X : Nat → Nat → Prop) (i j : Nat) : Prop := ∀ E : Nat → Nat → Prop, (∀ a, E a a) → (∀ a b, E a b → E b a) → (∀ a b c, E a b → E b c → E a c) → (∀ a b, X a b → E a b) → E i j
theorem clo_rf (X : Nat → Nat → Prop) (i : Nat) : clo X i i := fun _ h1 _ _ _ => h1 i
theorem clo_sy {X : Nat → Nat → Prop} {i j : Nat} (h : clo X i j) : clo X j i := fun E h1 h2 h3 h4 => h2 _ _ (h E h1 h2 h3 h4)
theorem clo_tr {X : Nat → Nat → Prop} {i j k : Nat} (h : clo X i j) (h' : clo X j k) : clo X i k := fun E h1 h2 h3 h4 => h3 _ _ _ (h E h1 h2 h3 h4) (h' E h1 h2 h3 h4)
theorem clo_in {X : Nat → Nat → Prop} {i j : Nat} (h : X i j) : clo X i j := fun _ _ _ _ h4 => h4 _ _ h
theorem clo_mono {X Y : Nat → Nat → Prop} (h : ∀ a b, X a b → clo Y a b) {i j : Nat} (hx : clo X i j) : clo Y i j := hx (clo Y) (clo_rf Y) (fun _ _ => clo_sy) (fun _ _ _ => clo_tr) h
theorem clo_cong {X Y : Nat → Nat → Prop} (h : ∀ a b, X a b → clo Y a b) (h' : ∀ a b, Y a b → clo X a b) : clo X = clo Y := funext (fun _ => funext (fun _ => propext ⟨clo_mono h, clo_mono h'⟩))
def adE (X : Nat → Nat → Prop) (a b : Nat) : Nat → Nat → Prop := fun i j => X i j ∨ (i = a ∧ j = b)
theorem clo_add {X : Nat → Nat → Prop} {a b i j : Nat} : clo (adE X a b) i j ↔ clo X i j ∨ (clo X i a ∧ clo X b j) ∨ (clo X i b ∧ clo X a j) := by
  constructor
  · intro h
    refine h (fun i j => clo X i j ∨ (clo X i a ∧ clo X b j) ∨ (clo X i b ∧ clo X a j)) (fun a => Or.inl (clo_rf X a)) ?_ ?_ ?_
    · rintro x y (q | ⟨q1, q2⟩ | ⟨q1, q2⟩)
      · exact Or.inl (clo_sy q)
      · exact Or.inr (Or.inr ⟨clo_sy q2, clo_sy q1⟩)
      · exact Or.inr (Or.inl ⟨clo_sy q2, clo_sy q1⟩)
    · rintro x y z (q | ⟨q1, q2⟩ | ⟨q1, q2⟩) (p | ⟨p1, p2⟩ | ⟨p1, p2⟩)
      · exact Or.inl (clo_tr q p)
      · exact Or.inr (Or.inl ⟨clo_tr q p1, p2⟩)
      · exact Or.inr (Or.inr ⟨clo_tr q p1, p2⟩)
      · exact Or.inr (Or.inl ⟨q1, clo_tr q2 p⟩)
      · exact Or.inr (Or.inl ⟨q1, p2⟩)
      · exact Or.inl (clo_tr q1 p2)
      · exact Or.inr (Or.inr ⟨q1, clo_tr q2 p⟩)
      · exact Or.inl (clo_tr q1 p2)
      · exact Or.inr (Or.inr ⟨q1, p2⟩)
    · rintro x y (q | ⟨q1, q2⟩)
      · exact Or.inl (clo_in q)
      · subst q1; subst q2; exact Or.inr (Or.inl ⟨clo_rf X _, clo_rf X _⟩)
  · have m : ∀ {x y}, clo X x y → clo (adE X a b) x y := clo_mono (fun _ _ q => clo_in (Or.inl q))
    have e : clo (adE X a b) a b := clo_in (Or.inr ⟨rfl, rfl⟩)
    rintro (q | ⟨q1, q2⟩ | ⟨q1, q2⟩)
    · exact m q
    · exact clo_tr (m q1) (clo_tr e (m q2))
    · exact clo_tr (m q1) (clo_tr (clo_sy e) (m q2))
theorem clo_old {X : Nat → Nat → Prop} {a b : Nat} (h : clo X a b) : clo (adE X a b) = clo X := clo_cong (fun x y q => by rcases q with q | ⟨q1, q2⟩; exact clo_in q; subst q1; subst q2; exact h) (fun _ _ q => clo_in (Or.inl q))
/-- masks: bit j of number i -/
def FE (n : Nat) (f : Nat → Int32) (R : Nat → Nat → Prop) : Prop := ∀ i, i < n → ∃ m, m < 2 ^ 16 ∧ f i = nI m ∧ ∀ j, m.testBit j = true ↔ j < n ∧ R i j
/-- labels -/
def HE (n : Nat) (l : Nat → Int32) (R : Nat → Nat → Prop) : Prop := ∀ i j, i < n → j < n → (l i = l j ↔ R i j)
theorem FE_eq {n : Nat} {f : Nat → Int32} {X : Nat → Nat → Prop} (h : FE n f (clo X)) {a b : Nat} (ha : a < n) (hb : b < n) : f a = f b ↔ clo X a b := by
  obtain ⟨m1, h1, e1, b1⟩ := h a ha
  obtain ⟨m2, h2, e2, b2⟩ := h b hb
  rw [e1, e2]
  constructor
  · intro e
    have e := nI_inj (by omega) (by omega) e
    have := (b2 a).1 (by rw [← e]; exact (b1 a).2 ⟨ha, clo_rf X a⟩)
    exact clo_sy this.2
  · intro e
    have : m1 = m2 := by
      apply Nat.eq_of_testBit_eq
      intro j
      rw [Bool.eq_iff_iff, b1, b2]
      exact ⟨fun q => ⟨q.1, clo_tr (clo_sy e) q.2⟩, fun q => ⟨q.1, clo_tr e q.2⟩⟩
    rw [this]
theorem FE_bind {n : Nat} {f g : Nat → Int32} {X : Nat → Nat → Prop} (h : FE n f (clo X)) {a b : Nat} (ha : a < n) (hb : b < n) {m : Nat} (hm : m < 2 ^ 16) (em : f a ||| f b = nI m) (hg : ∀ i, i < n → g i = if m.testBit i = true then nI m else f i) : FE n g (clo (adE X a b)) := by
  obtain ⟨m1, h1, e1, b1⟩ := h a ha
  obtain ⟨m2, h2, e2, b2⟩ := h b hb
  rw [e1, e2, or_nI] at em
  have em := nI_inj (by have := Nat.or_lt_two_pow h1 h2; omega) (by omega) em
  have bm : ∀ j, m.testBit j = true ↔ j < n ∧ (clo X a j ∨ clo X b j) := by
    intro j
    rw [← em, Nat.testBit_or, Bool.or_eq_true, b1, b2]
    constructor
    · rintro (⟨q1, q2⟩ | ⟨q1, q2⟩)
      · exact ⟨q1, Or.inl q2⟩
      · exact ⟨q1, Or.inr q2⟩
    · rintro ⟨q1, q2 | q2⟩
      · exact Or.inl ⟨q1, q2⟩
      · exact Or.inr ⟨q1, q2⟩
  intro i hi
  rw [hg i hi]
  by_cases c : m.testBit i = true
  · rw [if_pos c]
    refine ⟨m, hm, rfl, fun j => ?_⟩
    have c' := ((bm i).1 c).2
    rw [bm, clo_add]
    constructor
    · rintro ⟨q1, q2⟩
      refine ⟨q1, ?_⟩
      rcases c' with c' | c' <;> rcases q2 with q2 | q2
      · exact Or.inl (clo_tr (clo_sy c') q2)
      · exact Or.inr (Or.inl ⟨clo_sy c', q2⟩)
      · exact Or.inr (Or.inr ⟨clo_sy c', q2⟩)
      · exact Or.inl (clo_tr (clo_sy c') q2)
    · rintro ⟨q1, q2 | ⟨q2, q3⟩ | ⟨q2, q3⟩⟩
      · refine ⟨q1, ?_⟩
        rcases c' with c' | c'
        · exact Or.inl (clo_tr c' q2)
        · exact Or.inr (clo_tr c' q2)
      · exact ⟨q1, Or.inr q3⟩
      · exact ⟨q1, Or.inl q3⟩
  · rw [if_neg c]
    obtain ⟨m3, h3, e3, b3⟩ := h i hi
    refine ⟨m3, h3, e3, fun j => ?_⟩
    rw [b3, clo_add]
    constructor
    · rintro ⟨q1, q2⟩
      exact ⟨q1, Or.inl q2⟩
    · rintro ⟨q1, q2 | ⟨q2, -⟩ | ⟨q2, -⟩⟩
      · exact ⟨q1, q2⟩
      · exact absurd ((bm i).2 ⟨hi, Or.inl (clo_sy q2)⟩) c
      · exact absurd ((bm i).2 ⟨hi, Or.inr (clo_sy q2)⟩) c
theorem HE_join {n : Nat} {l g : Nat → Int32} {X : Nat → Nat → Prop} (h : HE n l (clo X)) {a b : Nat} (ha : a < n) (hb : b < n) (hg : ∀ i, i < n → g i = if l i = l b then l a else l i) : HE n g (clo (adE X a b)) := by
  intro i j hi hj
  rw [hg i hi, hg j hj, clo_add]
  have k1 := h i b hi hb
  have k2 := h j b hj hb
  have k3 := h i a hi ha
  have k4 := h a j ha hj
  have k5 := h i j hi hj
  have k6 := h b j hb hj
  by_cases c1 : l i = l b
  · rw [if_pos c1]
    by_cases c2 : l j = l b
    · rw [if_pos c2]
      exact ⟨fun _ => Or.inl (k5.1 (c1.trans c2.symm)), fun _ => rfl⟩
    · rw [if_neg c2]
      constructor
      · intro e; exact Or.inr (Or.inr ⟨k1.1 c1, k4.1 e⟩)
      · rintro (q | ⟨-, q⟩ | ⟨-, q⟩)
        · exact absurd ((k5.2 q).symm.trans c1) c2
        · exact absurd (k6.2 q).symm c2
        · exact k4.2 q
  · rw [if_neg c1]
    by_cases c2 : l j = l b
    · rw [if_pos c2]
      constructor
      · intro e; exact Or.inr (Or.inl ⟨k3.1 e, k6.1 c2.symm⟩)
      · rintro (q | ⟨q, -⟩ | ⟨q, -⟩)
        · exact absurd ((k5.2 q).trans c2) c1
        · exact k3.2 q
        · exact absurd (k1.2 q) c1
    · rw [if_neg c2]
      constructor
      · intro e; exact Or.inl (k5.1 e)
      · rintro (q | ⟨-, q⟩ | ⟨q, -⟩)
        · exact k5.2 q
        · exact absurd (k6.2 q).symm c2
        · exact absurd (k1.2 q) c1
theorem FE_0 {n : Nat} (hn : n ≤ 16) {f : Nat → Int32} (h : ∀ i, i < n → f i = nI (2 ^ i)) : FE n f (clo (fun _ _ => False)) := by
  intro i hi
  refine ⟨2 ^ i, Nat.pow_lt_pow_right (by decide) (by omega), h i hi, fun j => ?_⟩
  rw [Nat.testBit_two_pow, decide_eq_true_iff]
  constructor
  · intro e; subst e; exact ⟨hi, clo_rf _ _⟩
  · rintro ⟨-, q⟩; exact q (fun a b => a = b) (fun _ => rfl) (fun _ _ e => e.symm) (fun _ _ _ e e' => e.trans e') (fun _ _ e => e.elim)
theorem HE_0 {n : Nat} (hn : n ≤ 16) {l : Nat → Int32} (h : ∀ i, i < n → l i = nI i) : HE n l (clo (fun _ _ => False)) := by
  intro i j hi hj
  rw [h i hi, h j hj]
  constructor
  · intro e; rw [nI_inj (by omega) (by omega) e]; exact clo_rf _ _
  · intro q
    have : i = j := q (fun a b => a = b) (fun _ => rfl) (fun _ _ e => e.symm) (fun _ _ _ e e' => e.trans e') (fun _ _ e => e.elim)
    rw [this]
theorem cN_cong {p q : Nat → Bool} : ∀ n, (∀ c, c < n → p c = q c) → cN p n = cN q n
  | 0, _ => rfl
  | n + 1, h => by rw [cN, cN, cN_cong n (fun c hc => h c (by omega)), h n (by omega)]
theorem cN_top {p : Nat → Bool} {n : Nat} (k : Nat) (h : ∀ c, n ≤ c → p c = false) : cN p (n + k) = cN p n := by
  induction k with
  | zero => rfl
  | succ k ih => rw [← Nat.add_assoc, cN, h (n + k) (by omega), if_neg (by decide), ih]
theorem cN_split (p : Nat → Bool) (i : Nat) : ∀ k, cN p (i + k) = cN p i + cN (fun t => p (i + t)) k
  | 0 => rfl
  | k + 1 => by
    rw [← Nat.add_assoc, cN, cN, cN_split p i k]
    split <;> omega
/-- bits of a number below 65536 -/
def pcN (m : Nat) : Nat := m % 2 + m / 2 % 2 + m / 4 % 2 + m / 8 % 2 + m / 16 % 2 + m / 32 % 2 + m / 64 % 2 + m / 128 % 2 + m / 256 % 2 + m / 512 % 2 + m / 1024 % 2 + m / 2048 % 2 + m / 4096 % 2 + m / 8192 % 2 + m / 16384 % 2 + m / 32768 % 2
theorem tb_mod (m i : Nat) : (if m.testBit i = true then 1 else 0) = m / 2 ^ i % 2 := by
  rw [Nat.testBit_eq_decide_div_mod_eq]
  have := Nat.mod_lt (m / 2 ^ i) (show 0 < 2 by decide)
  by_cases h : m / 2 ^ i % 2 = 1
  · simp [h]
  · simp [h]; omega
theorem cN_pc (m : Nat) : cN m.testBit 16 = pcN m := by
  have e : ∀ n, cN m.testBit (n + 1) = cN m.testBit n + m / 2 ^ n % 2 := by
    intro n
    rw [cN, ← tb_mod]
    split <;> rfl
  rw [e 15, e 14, e 13, e 12, e 11, e 10, e 9, e 8, e 7, e 6, e 5, e 4, e 3, e 2, e 1, e 0]
  unfold pcN cN
  simp only [Nat.reducePow, Nat.div_one, Nat.zero_add]
/-- the count as whole numbers -/
def bcN (x : Nat) : Nat :=
  (fun a => (fun b => (fun c => (fun d => (fun e => e &&& 63) (d + (d >>> 16))) (c + (c >>> 8))) ((b + (b >>> 4)) &&& 252645135)) ((a &&& 858993459) + ((a >>> 2) &&& 858993459))) (x - ((x >>> 1) &&& 1431655765))
def bcK : Nat → Bool
  | 0 => true
  | n + 1 => Nat.beq (bcN n) (pcN n) && bcK n
theorem bcK_is : ∀ N, bcK N = true → ∀ m, m < N → bcN m = pcN m
  | 0, _ => fun m h => absurd h (Nat.not_lt_zero m)
  | N + 1, h => fun m hm => by
    rw [bcK, Bool.and_eq_true] at h
    by_cases e : m = N
    · subst e; exact Nat.eq_of_beq_eq_true h.1
    · exact bcK_is N h.2 m (by omega)
theorem and_nI (a b : Nat) : nI a &&& nI b = nI (a &&& b) := by
  unfold nI
  apply Int32.toBitVec_inj.mp
  show BitVec.ofNat 32 a &&& BitVec.ofNat 32 b = BitVec.ofNat 32 (a &&& b)
  rw [BitVec.ofNat_and]
theorem ush_nI {x k : Nat} (hx : x < 2 ^ 32) (hk : k < 32) : bi_ush (nI x) (nI k) = nI (x >>> k) := by
  apply Int32.toBitVec_inj.mp
  apply BitVec.eq_of_toNat_eq
  have e1 : (k % 2 ^ 32 &&& 31) = k := by
    rw [Nat.mod_eq_of_lt (by omega), show (31 : Nat) = 2 ^ 5 - 1 from rfl, Nat.and_two_pow_sub_one_eq_mod, Nat.mod_eq_of_lt (by omega)]
  show ((nI x).toUInt32 >>> ((nI k).toUInt32 &&& Int32.toUInt32 31)).toNat = _
  rw [UInt32.toNat_shiftRight, UInt32.toNat_and]
  show (x % 2 ^ 32) >>> ((k % 2 ^ 32 &&& 31) % 32) = (x >>> k) % 2 ^ 32
  rw [e1, Nat.mod_eq_of_lt hx, Nat.mod_eq_of_lt hk, Nat.mod_eq_of_lt (Nat.lt_of_le_of_lt (Nat.shiftRight_le x k) hx)]
theorem nI_sb {a b : Nat} (h : b ≤ a) : nI a - nI b = nI (a - b) := by
  show aI (a : Int) - aI (b : Int) = aI ((a - b : Nat) : Int)
  rw [show aI (a : Int) - aI (b : Int) = aI ((a : Int) - (b : Int)) from (Int32.ofInt_sub _ _).symm, Int.ofNat_sub h]
theorem nI_ad (a b : Nat) : nI a + nI b = nI (a + b) := by
  show aI (a : Int) + aI (b : Int) = aI ((a + b : Nat) : Int)
  rw [show aI (a : Int) + aI (b : Int) = aI ((a : Int) + (b : Int)) from (Int32.ofInt_add _ _).symm, Int.natCast_add]
theorem bc_nI {m : Nat} (hm : m < 2 ^ 16) : bi_bc (nI m) = nI (bcN m) := by
  have c1 : (1431655765 : Int32) = nI 1431655765 := rfl
  have c2 : (858993459 : Int32) = nI 858993459 := rfl
  have c3 : (252645135 : Int32) = nI 252645135 := rfl
  have c4 : (63 : Int32) = nI 63 := rfl
  have h1 : (m >>> 1) &&& 1431655765 ≤ m := Nat.le_trans Nat.and_le_left (Nat.shiftRight_le _ _)
  unfold bi_bc bcN
  rw [c1, c2, c3, c4]
  simp only []
  rw [show (1 : Int32) = nI 1 from rfl, show (2 : Int32) = nI 2 from rfl, show (4 : Int32) = nI 4 from rfl, show (8 : Int32) = nI 8 from rfl, show (16 : Int32) = nI 16 from rfl, ush_nI (x := m) (by omega) (by decide), and_nI, nI_sb h1]
  generalize ha : m - (m >>> 1 &&& 1431655765) = a
  have ha' : a < 2 ^ 16 := by omega
  rw [ush_nI (x := a) (by omega) (by decide), and_nI, and_nI, nI_ad]
  have hb1 : a &&& 858993459 ≤ a := Nat.and_le_left
  have hb2 : a >>> 2 &&& 858993459 ≤ a := Nat.le_trans Nat.and_le_left (Nat.shiftRight_le _ _)
  generalize hb : (a &&& 858993459) + (a >>> 2 &&& 858993459) = b
  have hb' : b < 2 ^ 17 := by omega
  have hc1 := Nat.shiftRight_le b 4
  rw [ush_nI (x := b) (by omega) (by decide), nI_ad, and_nI]
  have hc2 : (b + b >>> 4) &&& 252645135 ≤ b + b >>> 4 := Nat.and_le_left
  generalize hc : (b + b >>> 4) &&& 252645135 = c
  have hc' : c < 2 ^ 18 := by omega
  have hd1 := Nat.shiftRight_le c 8
  rw [ush_nI (x := c) (by omega) (by decide), nI_ad, ush_nI (x := c + c >>> 8) (by omega) (by decide), nI_ad, and_nI]
set_option maxRecDepth 1000000 in
theorem bcK_all : bcK 65536 = true := by decide +kernel
theorem bc_is {n m : Nat} (hn : n ≤ 16) (hm : m < 2 ^ 16) {p : Nat → Bool} (h : ∀ j, m.testBit j = true ↔ j < n ∧ p j = true) : bi_bc (nI m) = nI (cN p n) := by
  rw [bc_nI hm, bcK_is 65536 bcK_all m hm, ← cN_pc, show 16 = n + (16 - n) by omega, cN_top]
  · exact congrArg nI (cN_cong n (fun c hc => by rw [Bool.eq_iff_iff, h]; exact ⟨fun q => q.2, fun q => ⟨hc, q⟩⟩))
  · intro c hc
    rw [← Bool.not_eq_true, h]
    omega
/-- pairs bound together -/
def pI (c : Nat → Nat → Bool) (a k : Nat) : Nat := cN (fun t => c a (a + 1 + t)) k
def pS (c : Nat → Nat → Bool) (n : Nat) : Nat → Nat
  | 0 => 0
  | a + 1 => pS c n a + pI c a (n - a - 1)
def eS (c : Nat → Nat → Bool) (n : Nat) : Nat → Nat
  | 0 => 0
  | i + 1 => eS c n i + (cN (c i) n - 1)
def lS (c : Nat → Nat → Bool) : Nat → Nat
  | 0 => 0
  | i + 1 => lS c i + cN (c i) i
theorem pS_up (c : Nat → Nat → Bool) (n : Nat) : ∀ a, a ≤ n → pS c (n + 1) a = pS c n a + cN (fun i => c i n) a
  | 0, _ => rfl
  | a + 1, h => by
    rw [pS, pS, pS_up c n a (by omega), cN]
    have e : n + 1 - a - 1 = n - a - 1 + 1 := by omega
    have e2 : pI c a (n + 1 - a - 1) = if c a n = true then pI c a (n - a - 1) + 1 else pI c a (n - a - 1) := by
      unfold pI
      rw [e, cN, show a + 1 + (n - a - 1) = n by omega]
    rw [e2]
    split <;> omega
theorem pS_l {c : Nat → Nat → Bool} (hs : ∀ i j, c i j = c j i) : ∀ n, pS c n n = lS c n
  | 0 => rfl
  | n + 1 => by
    rw [pS, pS_up c n n (by omega), lS, pS_l hs n, cN_cong n (q := c n) (fun i _ => hs i n)]
    unfold pI
    rw [show n + 1 - n - 1 = 0 by omega, cN]
    omega
theorem eS_is {c : Nat → Nat → Bool} (hr : ∀ i, c i i = true) (n : Nat) : ∀ i, i ≤ n → eS c n i = lS c i + pS c n i
  | 0, _ => rfl
  | i + 1, h => by
    rw [eS, lS, pS, eS_is hr n i (by omega)]
    have e := cN_split (c i) i (n - i)
    rw [show i + (n - i) = n by omega] at e
    have e2 := cN_split (fun t => c i (i + t)) 1 (n - i - 1)
    rw [show 1 + (n - i - 1) = n - i by omega, show cN (fun t => c i (i + t)) 1 = 1 by rw [cN, cN, Nat.add_zero, if_pos (hr i)]] at e2
    have e3 : cN (fun t => c i (i + (1 + t))) (n - i - 1) = pI c i (n - i - 1) := by unfold pI; exact cN_cong _ (fun t _ => by rw [Nat.add_assoc])
    omega
theorem eS_2 {c : Nat → Nat → Bool} (hr : ∀ i, c i i = true) (hs : ∀ i j, c i j = c j i) (n : Nat) : eS c n n = 2 * pS c n n := by
  rw [eS_is hr n n (by omega), ← pS_l hs]
  omega
theorem lS_b (c : Nat → Nat → Bool) : ∀ n, n ≤ 16 → lS c n ≤ 16 * n
  | 0, _ => Nat.le_refl 0
  | n + 1, h => by
    have := lS_b c n (by omega)
    have h2 := cN_le (c n) n
    rw [lS]
    omega
noncomputable def cR (X : Nat → Nat → Prop) (i j : Nat) : Bool := cd (clo X i j)
theorem cR_r (X : Nat → Nat → Prop) (i : Nat) : cR X i i = true := cd_iff.2 (clo_rf X i)
theorem cR_s (X : Nat → Nat → Prop) (i j : Nat) : cR X i j = cR X j i := by
  unfold cR
  rw [Bool.eq_iff_iff, cd_iff, cd_iff]
  exact ⟨clo_sy, clo_sy⟩
theorem FE_bc {n : Nat} (hn : n ≤ 16) {f : Nat → Int32} {X : Nat → Nat → Prop} (h : FE n f (clo X)) {i : Nat} (hi : i < n) : bi_bc (f i) = nI (cN (cR X i) n) := by
  obtain ⟨m, h1, h2, h3⟩ := h i hi
  rw [h2]
  refine bc_is hn h1 (fun j => ?_)
  rw [h3]
  unfold cR
  rw [cd_iff]
theorem sh1_nI : ∀ t : Nat, t < 16 → (1 : Int32) <<< (nI t &&& 31) = nI (2 ^ t) := by decide
theorem sr_nI {m i : Nat} (hm : m < 2 ^ 31) (hi : i < 32) : nI m >>> (nI i &&& 31) = nI (m >>> i) := by
  rw [show (31 : Int32) = nI 31 from rfl, and_nI, show (31 : Nat) = 2 ^ 5 - 1 from rfl, Nat.and_two_pow_sub_one_eq_mod, Nat.mod_eq_of_lt (by omega)]
  apply Int32.toBitVec_inj.mp
  have hb : (BitVec.ofNat 32 m).msb = false := by
    rw [BitVec.msb_eq_decide, BitVec.toNat_ofNat, Nat.mod_eq_of_lt (by omega)]
    exact decide_eq_false (by omega)
  show (BitVec.ofNat 32 m).sshiftRight' ((BitVec.ofNat 32 i).smod (32 : Int32).toBitVec) = BitVec.ofNat 32 (m >>> i)
  have e : (BitVec.ofNat 32 i).smod (32 : Int32).toBitVec = BitVec.ofNat 32 i := by
    revert hi; revert i; decide
  rw [e]
  unfold BitVec.sshiftRight'
  rw [BitVec.sshiftRight_eq_of_msb_false hb]
  apply BitVec.eq_of_toNat_eq
  rw [BitVec.toNat_ushiftRight, BitVec.toNat_ofNat, BitVec.toNat_ofNat, BitVec.toNat_ofNat, Nat.mod_eq_of_lt (show m < 2 ^ 32 by omega), Nat.mod_eq_of_lt (show i < 2 ^ 32 by omega), Nat.mod_eq_of_lt (Nat.lt_of_le_of_lt (Nat.shiftRight_le m i) (by omega))]
theorem sb_nI {m i : Nat} (hm : m < 2 ^ 31) (hi : i < 32) : (nI m >>> (nI i &&& 31)) &&& 1 = 1 ↔ m.testBit i = true := by
  rw [sr_nI hm hi, show (1 : Int32) = nI 1 from rfl, and_nI]
  constructor
  · intro e
    have e := nI_inj (Nat.lt_of_le_of_lt Nat.and_le_right (by decide)) (by decide) e
    rw [Nat.and_one_is_mod, Nat.shiftRight_eq_div_pow] at e
    rw [Nat.testBit_eq_decide_div_mod_eq]
    exact decide_eq_true e
  · intro e
    rw [Nat.testBit_eq_decide_div_mod_eq] at e
    rw [Nat.and_one_is_mod, Nat.shiftRight_eq_div_pow, of_decide_eq_true e]
/-- who met -/
def eX (U : Nat → List Int) (n i j : Nat) : Prop := i < n ∧ j < n ∧ ¬ U (i * 16 + j) = []
def ji (B : Bk) (t : Nat) (c : Int32) : Nat := (bk_jat B (nI t) c).toNatClampNeg
def tX (U : Nat → List Int) (B : Bk) (n s k : Nat) : Nat → Nat → Prop := fun i j => eX U n i j ∨ ∃ t, t < k ∧ s.testBit t = true ∧ i = ji B t 0 ∧ j = ji B t 1
theorem tX_0 (U : Nat → List Int) (B : Bk) (n s : Nat) : tX U B n s 0 = eX U n := funext (fun i => funext (fun j => propext ⟨fun h => by rcases h with h | ⟨t, h, -⟩; exact h; exact absurd h (Nat.not_lt_zero t), Or.inl⟩))
theorem tX_y {U : Nat → List Int} {B : Bk} {n s k : Nat} (h : s.testBit k = true) : tX U B n s (k + 1) = adE (tX U B n s k) (ji B k 0) (ji B k 1) := funext (fun i => funext (fun j => propext ⟨fun q => by
  rcases q with q | ⟨t, q1, q2, q3, q4⟩
  · exact Or.inl (Or.inl q)
  · by_cases e : t = k
    · subst e; exact Or.inr ⟨q3, q4⟩
    · exact Or.inl (Or.inr ⟨t, by omega, q2, q3, q4⟩), fun q => by
  rcases q with (q | ⟨t, q1, q2⟩) | ⟨q1, q2⟩
  · exact Or.inl q
  · exact Or.inr ⟨t, by omega, q2⟩
  · exact Or.inr ⟨k, by omega, h, q1, q2⟩⟩))
theorem tX_n {U : Nat → List Int} {B : Bk} {n s k : Nat} (h : ¬ s.testBit k = true) : tX U B n s (k + 1) = tX U B n s k := funext (fun i => funext (fun j => propext ⟨fun q => by
  rcases q with q | ⟨t, q1, q2, q3⟩
  · exact Or.inl q
  · by_cases e : t = k
    · subst e; exact absurd q2 h
    · exact Or.inr ⟨t, by omega, q2, q3⟩, fun q => by
  rcases q with q | ⟨t, q1, q2⟩
  · exact Or.inl q
  · exact Or.inr ⟨t, by omega, q2⟩⟩))
/-- what the class has bound before it comes to a and b -/
def bX (U : Nat → List Int) (n a b : Nat) : Nat → Nat → Prop := fun i j => (i < j ∧ j < n ∧ ¬ U (i * 16 + j) = []) ∧ (i < a ∨ (i = a ∧ j < b))
/-- and the model -/
def mX (U : Nat → List Int) (n a b : Nat) : Nat → Nat → Prop := fun i j => eX U n i j ∧ (i < a ∨ (i = a ∧ j < b))
theorem bX_0 (U : Nat → List Int) (n : Nat) : bX U n 0 1 = fun _ _ => False := funext (fun i => funext (fun j => propext ⟨fun h => by have := h.1.1; have := h.2; omega, fun h => h.elim⟩))
theorem mX_0 (U : Nat → List Int) (n : Nat) : mX U n 0 0 = fun _ _ => False := funext (fun i => funext (fun j => propext ⟨fun h => by have := h.2; omega, fun h => h.elim⟩))
theorem bX_a (U : Nat → List Int) (n a : Nat) : bX U n (a + 1) (a + 1 + 1) = bX U n a n := funext (fun i => funext (fun j => propext ⟨fun h => ⟨h.1, by have := h.1.1; have := h.1.2.1; have := h.2; omega⟩, fun h => ⟨h.1, by have := h.2; omega⟩⟩))
theorem mX_a (U : Nat → List Int) (n a : Nat) : mX U n (a + 1) 0 = mX U n a n := funext (fun i => funext (fun j => propext ⟨fun h => ⟨h.1, by have := h.1.2.1; have := h.2; omega⟩, fun h => ⟨h.1, by have := h.2; omega⟩⟩))
theorem bX_y {U : Nat → List Int} {n a b : Nat} (ha : a < b) (hb : b < n) (h : ¬ U (a * 16 + b) = []) : bX U n a (b + 1) = adE (bX U n a b) a b := funext (fun i => funext (fun j => propext ⟨fun q => by
  by_cases e : i = a ∧ j = b
  · exact Or.inr e
  · exact Or.inl ⟨q.1, by have := q.2; omega⟩, fun q => by
  rcases q with q | ⟨q1, q2⟩
  · exact ⟨q.1, by have := q.2; omega⟩
  · subst q1; subst q2; exact ⟨⟨ha, hb, h⟩, by omega⟩⟩))
theorem mX_y {U : Nat → List Int} {n a b : Nat} (ha : a < n) (hb : b < n) (h : ¬ U (a * 16 + b) = []) : mX U n a (b + 1) = adE (mX U n a b) a b := funext (fun i => funext (fun j => propext ⟨fun q => by
  by_cases e : i = a ∧ j = b
  · exact Or.inr e
  · exact Or.inl ⟨q.1, by have := q.2; omega⟩, fun q => by
  rcases q with q | ⟨q1, q2⟩
  · exact ⟨q.1, by have := q.2; omega⟩
  · subst q1; subst q2; exact ⟨⟨ha, hb, h⟩, by omega⟩⟩))
theorem bX_n {U : Nat → List Int} {n a b : Nat} (h : U (a * 16 + b) = []) : bX U n a (b + 1) = bX U n a b := funext (fun i => funext (fun j => propext ⟨fun q => by
  by_cases e : i = a ∧ j = b
  · obtain ⟨rfl, rfl⟩ := e; exact absurd h q.1.2.2
  · exact ⟨q.1, by have := q.2; omega⟩, fun q => ⟨q.1, by have := q.2; omega⟩⟩))
theorem mX_n {U : Nat → List Int} {n a b : Nat} (h : U (a * 16 + b) = []) : mX U n a (b + 1) = mX U n a b := funext (fun i => funext (fun j => propext ⟨fun q => by
  by_cases e : i = a ∧ j = b
  · obtain ⟨rfl, rfl⟩ := e; exact absurd h q.1.2.2
  · exact ⟨q.1, by have := q.2; omega⟩, fun q => ⟨q.1, by have := q.2; omega⟩⟩))
theorem mX_all (U : Nat → List Int) (n : Nat) : mX U n n 0 = eX U n := funext (fun i => funext (fun j => propext ⟨fun q => q.1, fun q => ⟨q, Or.inl q.1⟩⟩))
theorem bX_all {U : Nat → List Int} {n : Nat} (hs : ∀ i j, i < n → j < n → U (i * 16 + j) = [] → U (j * 16 + i) = []) : clo (bX U n n (n + 1)) = clo (eX U n) := by
  refine clo_cong (fun i j q => clo_in ⟨by have := q.1.1; have := q.1.2.1; omega, q.1.2.1, q.1.2.2⟩) (fun i j q => ?_)
  rcases Nat.lt_trichotomy i j with e | e | e
  · exact clo_in ⟨⟨e, q.2.1, q.2.2⟩, Or.inl q.1⟩
  · subst e; exact clo_rf _ _
  · exact clo_sy (clo_in ⟨⟨e, q.1, fun z => q.2.2 (hs j i q.2.1 q.1 z)⟩, Or.inl q.2.1⟩)
/-- how many pairs are tied -/
noncomputable def prs (U : Nat → List Int) (B : Bk) (s : Nat) : Int32 := nI (pS (cR (tX U B (nO B) s (nJ B))) (nO B) (nO B))
def wkS (B : Bk) (s : Nat) : Nat → Int32
  | 0 => 0
  | k + 1 => if s.testBit k = true then wkS B s k + bk_jat B (nI k) 2 else wkS B s k
/-- the best set among those up to s -/
def pst (P W : Nat → Int32) (w : Int32) : Nat → Nat × Int32 × Int32
  | 0 => (0, P 0, 0)
  | s + 1 => if W (s + 1) ≤ w ∧ ((pst P W w s).2.1 < P (s + 1) ∨ (P (s + 1) = (pst P W w s).2.1 ∧ W (s + 1) < (pst P W w s).2.2)) then (s + 1, P (s + 1), W (s + 1)) else pst P W w s
theorem pst_is {P W : Nat → Int32} {w : Int32} (h0 : W 0 = 0) : ∀ s, (pst P W w s).2.1 = P (pst P W w s).1 ∧ (pst P W w s).2.2 = W (pst P W w s).1 ∧ (pst P W w s).1 ≤ s
  | 0 => ⟨rfl, h0.symm, Nat.le_refl 0⟩
  | s + 1 => by
    obtain ⟨h1, h2, h3⟩ := pst_is (P := P) (w := w) h0 s
    rw [pst]
    split
    · exact ⟨rfl, rfl, Nat.le_refl _⟩
    · exact ⟨h1, h2, by omega⟩
theorem wkS_0 (B : Bk) : ∀ k, wkS B 0 k = 0
  | 0 => rfl
  | k + 1 => by rw [wkS, Nat.zero_testBit, if_neg (by decide), wkS_0]
/-- whom to bring together next -/
def nxI (c : Nat → Nat → Bool) (n a : Nat) (st : Int32 × Int32) : Nat → Int32 × Int32
  | 0 => st
  | k + 1 => if ¬ c a (a + 1 + k) = true ∧ (nxI c n a st k).2 < nI (cN (c a) n) * nI (cN (c (a + 1 + k)) n) then (nI (16 * a + (a + 1 + k)), nI (cN (c a) n) * nI (cN (c (a + 1 + k)) n)) else nxI c n a st k
def nxS (c : Nat → Nat → Bool) (n : Nat) : Nat → Int32 × Int32
  | 0 => (-2, 0)
  | a + 1 => nxI c n a (nxS c n a) (n - a - 1)
theorem nxI_nn {c : Nat → Nat → Bool} {n a : Nat} {st : Int32 × Int32} (h : 0 ≤ st.2.toInt) : ∀ k, 0 ≤ (nxI c n a st k).2.toInt
  | 0 => h
  | k + 1 => by
    have := nxI_nn (c := c) (n := n) (a := a) h k
    rw [nxI]
    split
    · next q => have q := q.2; rw [i32_lt] at q; show 0 ≤ (nI (cN (c a) n) * nI (cN (c (a + 1 + k)) n)).toInt; omega
    · exact this
theorem nxS_nn (c : Nat → Nat → Bool) (n : Nat) : ∀ a, 0 ≤ (nxS c n a).2.toInt
  | 0 => show 0 ≤ (0 : Int32).toInt by decide
  | a + 1 => nxI_nn (nxS_nn c n a) _
