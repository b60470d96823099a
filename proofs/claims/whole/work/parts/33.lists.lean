/-! 33: lists of numbers told by their places; tallies of them -/
def lst {α : Type} (p : Nat → Bool) (f : Nat → α) : Nat → List α
  | 0 => []
  | n + 1 => if p n = true then f n :: lst p f n else lst p f n
theorem mem_lst {α : Type} {p : Nat → Bool} {f : Nat → α} {x : α} : ∀ n, x ∈ lst p f n ↔ ∃ c, c < n ∧ p c = true ∧ f c = x := by
  intro n
  induction n with
  | zero => simp [lst]
  | succ n ih =>
    rw [lst]
    by_cases h : p n = true
    · rw [if_pos h, List.mem_cons, ih]
      constructor
      · rintro (e | ⟨c, h1, h2, h3⟩)
        · exact ⟨n, by omega, h, e.symm⟩
        · exact ⟨c, by omega, h2, h3⟩
      · rintro ⟨c, h1, h2, h3⟩
        by_cases e : c = n
        · subst e; exact Or.inl h3.symm
        · exact Or.inr ⟨c, by omega, h2, h3⟩
    · rw [if_neg h, ih]
      constructor
      · rintro ⟨c, h1, h2, h3⟩; exact ⟨c, by omega, h2, h3⟩
      · rintro ⟨c, h1, h2, h3⟩
        have : c ≠ n := fun e => h (e ▸ h2)
        exact ⟨c, by omega, h2, h3⟩
theorem lst_map {α β : Type} {p : Nat → Bool} {f : Nat → α} {h : Nat → β} {g : α → β} : ∀ n, (∀ c, c < n → p c = true → h c = g (f c)) → lst p h n = (lst p f n).map g := by
  intro n
  induction n with
  | zero => intro _; rfl
  | succ n ih =>
    intro hc
    rw [lst, lst, ih (fun c h1 h2 => hc c (by omega) h2)]
    split
    · next q => rw [List.map_cons, hc n (by omega) q]
    · rfl
theorem lst_cong {α : Type} {p q : Nat → Bool} {f g : Nat → α} : ∀ n, (∀ c, c < n → p c = q c) → (∀ c, c < n → p c = true → f c = g c) → lst p f n = lst q g n := by
  intro n
  induction n with
  | zero => intro _ _; rfl
  | succ n ih =>
    intro h1 h2
    rw [lst, lst, ih (fun c hc => h1 c (by omega)) (fun c hc => h2 c (by omega)), ← h1 n (by omega)]
    split
    · next q => rw [h2 n (by omega) q]
    · rfl
theorem lst_nodup {α : Type} {p : Nat → Bool} {f : Nat → α} : ∀ n, (∀ c d, c < n → d < n → p c = true → p d = true → f c = f d → c = d) → (lst p f n).Nodup := by
  intro n
  induction n with
  | zero => intro _; exact List.nodup_nil
  | succ n ih =>
    intro h
    have ih := ih (fun c d h1 h2 => h c d (by omega) (by omega))
    rw [lst]
    split
    · next q =>
      refine List.nodup_cons.2 ⟨fun hm => ?_, ih⟩
      obtain ⟨c, h1, h2, h3⟩ := (mem_lst n).1 hm
      have := h c n (by omega) (by omega) h2 q h3
      omega
    · exact ih
theorem lst_len {α : Type} {p : Nat → Bool} {f : Nat → α} : ∀ n, (lst p f n).length = cN p n := by
  intro n
  induction n with
  | zero => rfl
  | succ n ih =>
    rw [lst, cN]
    split
    · rw [List.length_cons, ih]
    · exact ih
theorem lst_filter {α : Type} {p q : Nat → Bool} {f : Nat → α} {g : α → Bool} : ∀ n, (∀ c, c < n → q c = (p c && g (f c))) → lst q f n = (lst p f n).filter g := by
  intro n
  induction n with
  | zero => intro _; rfl
  | succ n ih =>
    intro h
    have h1 := h n (by omega)
    rw [lst, lst, ih (fun c hc => h c (by omega)), h1]
    by_cases hp : p n = true
    · by_cases hg : g (f n) = true
      · rw [if_pos (by simp [hp, hg]), if_pos hp, List.filter_cons_of_pos hg]
      · rw [if_neg (by simp [hg]), if_pos hp, List.filter_cons_of_neg hg]
    · rw [if_neg (by simp [hp]), if_neg hp]
def zsum (l : List Int) : Int := l.foldr (fun x y => x + y) 0
theorem zsum_perm {l m : List Int} (h : l.Perm m) : zsum l = zsum m := h.foldr_eq' (fun x _ y _ z => by omega) 0
def lmin : List Int → Int
  | [] => 0
  | x :: l => if l.length = 0 then x else if x < lmin l then x else lmin l
def lmax : List Int → Int
  | [] => 0
  | x :: l => if l.length = 0 then x else if lmax l < x then x else lmax l
theorem lmin_is : ∀ l : List Int, l ≠ [] → lmin l ∈ l ∧ ∀ x, x ∈ l → lmin l ≤ x := by
  intro l
  induction l with
  | nil => intro h; exact absurd rfl h
  | cons a l ih =>
    intro _
    rw [lmin]
    by_cases h : l.length = 0
    · rw [if_pos h]
      have := List.eq_nil_of_length_eq_zero h
      subst this
      exact ⟨List.mem_cons_self, fun x hx => by simp at hx; omega⟩
    · rw [if_neg h]
      obtain ⟨h1, h2⟩ := ih (fun e => h (by rw [e]; rfl))
      split
      · next q =>
        refine ⟨List.mem_cons_self, fun x hx => ?_⟩
        cases List.mem_cons.1 hx with
        | inl e => omega
        | inr e => have := h2 x e; omega
      · next q =>
        refine ⟨List.mem_cons_of_mem _ h1, fun x hx => ?_⟩
        cases List.mem_cons.1 hx with
        | inl e => omega
        | inr e => exact h2 x e
theorem lmax_is : ∀ l : List Int, l ≠ [] → lmax l ∈ l ∧ ∀ x, x ∈ l → x ≤ lmax l := by
  intro l
  induction l with
  | nil => intro h; exact absurd rfl h
  | cons a l ih =>
    intro _
    rw [lmax]
    by_cases h : l.length = 0
    · rw [if_pos h]
      have := List.eq_nil_of_length_eq_zero h
      subst this
      exact ⟨List.mem_cons_self, fun x hx => by simp at hx; omega⟩
    · rw [if_neg h]
      obtain ⟨h1, h2⟩ := ih (fun e => h (by rw [e]; rfl))
      split
      · next q =>
        refine ⟨List.mem_cons_self, fun x hx => ?_⟩
        cases List.mem_cons.1 hx with
        | inl e => omega
        | inr e => have := h2 x e; omega
      · next q =>
        refine ⟨List.mem_cons_of_mem _ h1, fun x hx => ?_⟩
        cases List.mem_cons.1 hx with
        | inl e => omega
        | inr e => exact h2 x e
theorem lmin_perm {l m : List Int} (h : l.Perm m) : lmin l = lmin m := by
  by_cases hl : l = []
  · subst hl; rw [h.nil_eq]
  · have hm : m ≠ [] := fun e => hl (by subst e; exact h.eq_nil)
    obtain ⟨a1, a2⟩ := lmin_is l hl
    obtain ⟨b1, b2⟩ := lmin_is m hm
    have := a2 _ (h.mem_iff.2 b1)
    have := b2 _ (h.mem_iff.1 a1)
    omega
theorem lmax_perm {l m : List Int} (h : l.Perm m) : lmax l = lmax m := by
  by_cases hl : l = []
  · subst hl; rw [h.nil_eq]
  · have hm : m ≠ [] := fun e => hl (by subst e; exact h.eq_nil)
    obtain ⟨a1, a2⟩ := lmax_is l hl
    obtain ⟨b1, b2⟩ := lmax_is m hm
    have := a2 _ (h.mem_iff.2 b1)
    have := b2 _ (h.mem_iff.1 a1)
    omega
/-- the tally of a list -/
def tyl (l : List Int) : Ty := (nI l.length, aL (zsum l), aL (lmin l), aL (lmax l))
theorem tyl_perm {l m : List Int} (h : l.Perm m) : tyl l = tyl m := by unfold tyl; rw [h.length_eq, zsum_perm h, lmin_perm h, lmax_perm h]
theorem lmin_b {M : Int} (hM : 0 ≤ M) {l : List Int} (h : ∀ x, x ∈ l → -M ≤ x ∧ x ≤ M) : -M ≤ lmin l ∧ lmin l ≤ M ∧ -M ≤ lmax l ∧ lmax l ≤ M ∧ lmin l ≤ lmax l := by
  by_cases hl : l = []
  · subst hl; simp [lmin, lmax]; omega
  · obtain ⟨a1, a2⟩ := lmin_is l hl
    obtain ⟨b1, b2⟩ := lmax_is l hl
    have := h _ a1
    have := h _ b1
    have := a2 _ b1
    omega
theorem zsum_b {M : Int} {l : List Int} (h : ∀ x, x ∈ l → -M ≤ x ∧ x ≤ M) : -(M * l.length) ≤ zsum l ∧ zsum l ≤ M * l.length := by
  induction l with
  | nil => simp [zsum]
  | cons a l ih =>
    have ih := ih (fun x hx => h x (List.mem_cons_of_mem _ hx))
    have := h a List.mem_cons_self
    have e : zsum (a :: l) = a + zsum l := rfl
    have e2 : M * ((a :: l).length : Int) = M * l.length + M := by rw [List.length_cons, Int.natCast_add, Int.mul_add]; simp
    omega
theorem if_aL {p q : Prop} [Decidable p] [Decidable q] {a b : Int} (h : p ↔ q) : (if p then aL a else aL b) = aL (if q then a else b) := by
  by_cases hp : p
  · rw [if_pos hp, if_pos (h.1 hp)]
  · rw [if_neg hp, if_neg (fun z => hp (h.2 z))]
theorem tyl_cons {M : Int} (hM : 0 ≤ M) (hM2 : M ≤ 4611686018427387904) {l : List Int} (hl : l.length < 2 ^ 31) (h : ∀ x, x ∈ l → -M ≤ x ∧ x ≤ M) {a : Int} (ha : -M ≤ a ∧ a ≤ M) : ty_add (tyl l) (aL a) = tyl (a :: l) := by
  obtain ⟨b1, b2, b3, b4, -⟩ := lmin_b hM h
  unfold ty_add tyl
  refine Prod.ext ?_ (Prod.ext ?_ (Prod.ext ?_ ?_))
  · exact nI_1 _
  · show aL (zsum l) + aL a = aL (a + zsum l)
    rw [aL_add, Int.add_comm]
  · show ty_lo (nI l.length) (aL (lmin l)) (aL a) = aL (lmin (a :: l))
    unfold ty_lo bi_minL
    rw [lmin]
    by_cases h0 : l.length = 0
    · rw [if_pos h0, h0, if_pos (show nI 0 = 0 from rfl)]
    · rw [if_neg h0, if_neg (show ¬ nI l.length = 0 from fun z => h0 (nI_inj (b := 0) hl (by decide) z))]
      exact if_aL (aL_lt (by omega) (by omega) (by omega) (by omega))
  · show ty_hi (nI l.length) (aL (lmax l)) (aL a) = aL (lmax (a :: l))
    unfold ty_hi bi_maxL
    rw [lmax]
    by_cases h0 : l.length = 0
    · rw [if_pos h0, h0, if_pos (show nI 0 = 0 from rfl)]
    · rw [if_neg h0, if_neg (show ¬ nI l.length = 0 from fun z => h0 (nI_inj (b := 0) hl (by decide) z))]
      exact if_aL (aL_lt (by omega) (by omega) (by omega) (by omega))
theorem ty_fold_l {p : Nat → Bool} {v : Nat → Int64} {d : Nat → Int} {M : Int} (hM : 0 ≤ M) (hM2 : M ≤ 4611686018427387904) : ∀ n, n < 2 ^ 31 → (∀ c, c < n → p c = true → v c = aL (d c) ∧ -M ≤ d c ∧ d c ≤ M) → ty_fold p v n = tyl (lst p d n) := by
  intro n
  induction n with
  | zero => intro _ _; rfl
  | succ n ih =>
    intro hn h
    rw [ty_fold, lst, ih (by omega) (fun c hc => h c (by omega))]
    by_cases hp : p n = true
    · rw [if_pos hp, if_pos hp, (h n (by omega) hp).1]
      refine tyl_cons hM hM2 ?_ ?_ (h n (by omega) hp).2
      · rw [lst_len]; exact Nat.lt_of_le_of_lt (cN_le p n) (by omega)
      · intro x hx
        obtain ⟨c, h1, h2, h3⟩ := (mem_lst n).1 hx
        rw [← h3]
        exact (h c (by omega) h2).2
    · rw [if_neg hp, if_neg hp]
/-- sums of whole numbers -/
def zS (p : Nat → Bool) (v : Nat → Int) : Nat → Int
  | 0 => 0
  | n + 1 => if p n = true then zS p v n + v n else zS p v n
theorem zS_b {p : Nat → Bool} {v : Nat → Int} {M : Int} : ∀ n, (∀ k, k < n → -M ≤ v k ∧ v k ≤ M) → -(M * cN p n) ≤ zS p v n ∧ zS p v n ≤ M * cN p n := by
  intro n
  induction n with
  | zero => intro _; simp [zS, cN]
  | succ n ih =>
    intro h
    have ih := ih (fun k hk => h k (by omega))
    have := h n (by omega)
    rw [zS, cN]
    split
    · have e2 : M * ((cN p n + 1 : Nat) : Int) = M * cN p n + M := by rw [Int.natCast_add, Int.mul_add]; simp
      omega
    · exact ih
theorem fI_zS {p : Nat → Bool} {v : Nat → Int32} : ∀ n, fI p v n = aI (zS p (fun k => (v k).toInt) n)
  | 0 => rfl
  | n + 1 => by
    rw [fI, zS, fI_zS n]
    split
    · rw [← aI_add, aI_to]
    · rfl
theorem fL_zS {p : Nat → Bool} {v : Nat → Int64} : ∀ n, fL p v n = aL (zS p (fun k => (v k).toInt) n)
  | 0 => rfl
  | n + 1 => by
    rw [fL, zS, fL_zS n]
    split
    · rw [← aL_add, aL_to]
    · rfl
theorem zS_cong {p q : Nat → Bool} {v w : Nat → Int} : ∀ n, (∀ k, k < n → p k = q k) → (∀ k, k < n → p k = true → v k = w k) → zS p v n = zS q w n := by
  intro n
  induction n with
  | zero => intro _ _; rfl
  | succ n ih =>
    intro h1 h2
    rw [zS, zS, ih (fun k hk => h1 k (by omega)) (fun k hk => h2 k (by omega)), ← h1 n (by omega)]
    split
    · next q => rw [h2 n (by omega) q]
    · rfl
/-- mean less mean, downwards -/
def zdif (sa na sb nb : Int) : Int := 1000 * (sa * nb - sb * na) / (na * nb)
theorem zdif_b {sa na sb nb M : Int} (hn1 : 1 ≤ na) (hn2 : 1 ≤ nb) (hM : 0 ≤ M) (h1 : -(M * na) ≤ sa) (h2 : sa ≤ M * na) (h3 : -(M * nb) ≤ sb) (h4 : sb ≤ M * nb) : -(2000 * M) ≤ zdif sa na sb nb ∧ zdif sa na sb nb ≤ 2000 * M ∧ -(2000 * M * (na * nb)) ≤ 1000 * (sa * nb - sb * na) ∧ 1000 * (sa * nb - sb * na) ≤ 2000 * M * (na * nb) ∧ 0 < na * nb := by
  have hp : 0 < na * nb := Int.mul_pos (by omega) (by omega)
  have e1 : M * na * nb = M * (na * nb) := Int.mul_assoc ..
  have e2 : M * nb * na = M * (na * nb) := by rw [Int.mul_assoc, Int.mul_comm nb na]
  have a1 : sa * nb ≤ M * (na * nb) := by rw [← e1]; exact Int.mul_le_mul_of_nonneg_right h2 (by omega)
  have a2 : -(M * (na * nb)) ≤ sa * nb := by
    have := Int.mul_le_mul_of_nonneg_right h1 (show 0 ≤ nb by omega)
    rw [Int.neg_mul, e1] at this; exact this
  have a3 : sb * na ≤ M * (na * nb) := by rw [← e2]; exact Int.mul_le_mul_of_nonneg_right h4 (by omega)
  have a4 : -(M * (na * nb)) ≤ sb * na := by
    have := Int.mul_le_mul_of_nonneg_right h3 (show 0 ≤ na by omega)
    rw [Int.neg_mul, e2] at this; exact this
  have e3 : 2000 * M * (na * nb) = 2000 * (M * (na * nb)) := Int.mul_assoc ..
  refine ⟨?_, ?_, by omega, by omega, hp⟩
  · apply Int.le_ediv_of_mul_le hp
    rw [Int.neg_mul, e3]
    omega
  · apply Int.le_of_lt_add_one
    apply Int.ediv_lt_of_lt_mul hp
    rw [Int.add_mul, e3]
    omega
