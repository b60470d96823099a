/-! 27: ropes, the pure part: tolls are made shorter until none is -/
abbrev Tl := Nat → Option Nat
def ro_by (e : Nat → Nat → Option Nat) (d : Tl) (a b : Nat) : Option Nat := match e a b, d b with
  | some x, some y => some (x + y)
  | _, _ => none
theorem ro_by_some {e : Nat → Nat → Option Nat} {d : Tl} {a b v : Nat} : ro_by e d a b = some v ↔ ∃ x y, e a b = some x ∧ d b = some y ∧ v = x + y := by
  unfold ro_by
  cases e a b with
  | none => simp
  | some x => cases d b with
    | none => simp
    | some y => simp [eq_comm]
def ro_bt (p q : Option Nat) : Bool := match p, q with
  | some u, some v => decide (u < v)
  | some _, none => true
  | none, _ => false
theorem ro_bt_yes {p q : Option Nat} : ro_bt p q = true ↔ ∃ u, p = some u ∧ ∀ v, q = some v → u < v := by
  cases p with
  | none => simp [ro_bt]
  | some u => cases q with
    | none => simp [ro_bt]
    | some v => simp [ro_bt]
def ro_le (d' d : Tl) : Prop := ∀ a v, d a = some v → ∃ u, u ≤ v ∧ d' a = some u
theorem ro_le_rf (d : Tl) : ro_le d d := fun _ v h => ⟨v, Nat.le_refl v, h⟩
theorem ro_le.trans {d c b : Tl} (h : ro_le d c) (h' : ro_le c b) : ro_le d b := by
  intro a v hv
  obtain ⟨u, hu, eu⟩ := h' a v hv
  obtain ⟨w, hw, ew⟩ := h a u eu
  exact ⟨w, Nat.le_trans hw hu, ew⟩
theorem ro_le_up {d : Tl} {a : Nat} {p : Option Nat} (h : ro_bt p (d a) = true) : ro_le (va_up d a p) d := by
  intro c v hv
  obtain ⟨u, eu, hu⟩ := ro_bt_yes.1 h
  by_cases hc : c = a
  · subst hc
    exact ⟨u, Nat.le_of_lt (hu v hv), by simp [va_up, eu]⟩
  · exact ⟨v, Nat.le_refl v, by simp [va_up, hc, hv]⟩
/-- a way from the head to g: its toll, and each next one's own is no more than what is left of it -/
def ro_w (e : Nat → Nat → Option Nat) (g : Nat) (d : Tl) : List Nat → Nat → Prop
  | [], _ => False
  | a :: l, v => match l with
    | [] => a = g ∧ v = 0
    | b :: _ => ∃ x y u, e a b = some x ∧ v = x + y ∧ d b = some u ∧ u ≤ y ∧ ro_w e g d l y
theorem ro_w_mono {e : Nat → Nat → Option Nat} {g : Nat} {d d' : Tl} (hd : ro_le d' d) : ∀ (l : List Nat) (v : Nat), ro_w e g d l v → ro_w e g d' l v := by
  intro l
  induction l with
  | nil => intro v h; exact h
  | cons a l ih =>
    intro v h
    cases l with
    | nil => exact h
    | cons b l =>
      obtain ⟨x, y, u, h1, h2, h3, h4, h5⟩ := h
      obtain ⟨w, hw, ew⟩ := hd b u h3
      exact ⟨x, y, w, h1, h2, ew, Nat.le_trans hw h4, ih y h5⟩
theorem ro_w_mem {e : Nat → Nat → Option Nat} {g : Nat} {d : Tl} : ∀ (l : List Nat) (b v : Nat), ro_w e g d (b :: l) v → ∀ a, a ∈ l → ∃ u, u ≤ v ∧ d a = some u := by
  intro l
  induction l with
  | nil => intro b v _ a ha; cases ha
  | cons c l ih =>
    intro b v h a ha
    obtain ⟨x, y, u, h1, h2, h3, h4, h5⟩ := h
    cases List.mem_cons.1 ha with
    | inl q => subst q; exact ⟨u, by omega, h3⟩
    | inr q =>
      obtain ⟨w, hw, ew⟩ := ih c y h5 a q
      exact ⟨w, by omega, ew⟩
def ro_good (e : Nat → Nat → Option Nat) (n g : Nat) (d : Tl) : Prop :=
  ∀ a v, d a = some v → ∃ l, ro_w e g d (a :: l) v ∧ (a :: l).Nodup ∧ ∀ c, c ∈ a :: l → c < n
def ro_pos (e : Nat → Nat → Option Nat) : Prop := ∀ a b x, e a b = some x → 0 < x
theorem ro_good_st {e : Nat → Nat → Option Nat} {n g : Nat} {d : Tl} (he : ro_pos e) (hg : ro_good e n g d) {a b : Nat} (ha : a < n) (hb : ro_bt (ro_by e d a b) (d a) = true) : ro_good e n g (va_up d a (ro_by e d a b)) := by
  have hle := ro_le_up hb
  obtain ⟨u, eu, hu⟩ := ro_bt_yes.1 hb
  obtain ⟨x, y, ex, ey, exy⟩ := ro_by_some.1 eu
  obtain ⟨l, hl, hn, hc⟩ := hg b y ey
  have hx := he a b x ex
  have hna : a ∉ b :: l := by
    intro hm
    cases List.mem_cons.1 hm with
    | inl q => subst q; have := hu y ey; omega
    | inr q =>
      obtain ⟨w, hw, ew⟩ := ro_w_mem l b y hl a q
      have := hu w ew
      omega
  intro c v hv
  by_cases hca : c = a
  · subst hca
    have hv2 : v = x + y := by
      have : va_up d c (ro_by e d c b) c = some v := hv
      simp [va_up, eu] at this
      omega
    refine ⟨b :: l, ?_, List.nodup_cons.2 ⟨hna, hn⟩, ?_⟩
    · obtain ⟨w, hw, ew⟩ := hle b y ey
      exact ⟨x, y, w, ex, hv2, ew, hw, ro_w_mono hle _ _ hl⟩
    · intro z hz
      cases List.mem_cons.1 hz with
      | inl q => subst q; exact ha
      | inr q => exact hc z q
  · have hv2 : d c = some v := by simpa [va_up, hca] using hv
    obtain ⟨l', hl', hn', hc'⟩ := hg c v hv2
    exact ⟨l', ro_w_mono hle _ _ hl', hn', hc'⟩
/-- one try: a by b -/
def ro_s (e : Nat → Nat → Option Nat) (a : Nat) (p : Tl × Bool) (b : Nat) : Tl × Bool := if ro_bt (ro_by e p.1 a b) (p.1 a) = true then (va_up p.1 a (ro_by e p.1 a b), true) else p
def ro_r (e : Nat → Nat → Option Nat) (a : Nat) (p : Tl × Bool) : Nat → Tl × Bool
  | 0 => p
  | m + 1 => ro_s e a (ro_r e a p m) m
def ro_p (e : Nat → Nat → Option Nat) (n : Nat) (p : Tl × Bool) : Nat → Tl × Bool
  | 0 => p
  | m + 1 => ro_r e m (ro_p e n p m) n
def ro_bet (d' d : Tl) : Prop := ∃ a, ro_bt (d' a) (d a) = true
theorem ro_bet_up {d : Tl} {a : Nat} {p : Option Nat} (h : ro_bt p (d a) = true) : ro_bet (va_up d a p) d := ⟨a, by simpa [va_up] using h⟩
theorem ro_bet_le {d c b : Tl} (h : ro_le d c) (h' : ro_bet c b) : ro_bet d b := by
  obtain ⟨a, ha⟩ := h'
  obtain ⟨u, eu, hu⟩ := ro_bt_yes.1 ha
  obtain ⟨w, hw, ew⟩ := h a u eu
  exact ⟨a, ro_bt_yes.2 ⟨w, ew, fun v hv => Nat.lt_of_le_of_lt hw (hu v hv)⟩⟩
theorem ro_le_bet {d c b : Tl} (h : ro_bet d c) (h' : ro_le c b) : ro_bet d b := by
  obtain ⟨a, ha⟩ := h
  obtain ⟨u, eu, hu⟩ := ro_bt_yes.1 ha
  refine ⟨a, ro_bt_yes.2 ⟨u, eu, fun v hv => ?_⟩⟩
  obtain ⟨w, hw, ew⟩ := h' a v hv
  exact Nat.lt_of_lt_of_le (hu w ew) hw
/-- what all tries keep: from p to q -/
def ro_to (e : Nat → Nat → Option Nat) (n g : Nat) (p q : Tl × Bool) : Prop :=
  ro_le q.1 p.1 ∧ (ro_good e n g p.1 → ro_good e n g q.1) ∧ (q = p ∨ q.2 = true ∧ ro_bet q.1 p.1)
theorem ro_to_rf (e : Nat → Nat → Option Nat) (n g : Nat) (p : Tl × Bool) : ro_to e n g p p := ⟨ro_le_rf _, id, Or.inl rfl⟩
theorem ro_to.trans {e : Nat → Nat → Option Nat} {n g : Nat} {p q r : Tl × Bool} (h : ro_to e n g p q) (h' : ro_to e n g q r) : ro_to e n g p r := by
  refine ⟨h'.1.trans h.1, fun z => h'.2.1 (h.2.1 z), ?_⟩
  cases h'.2.2 with
  | inl z => subst z; exact h.2.2
  | inr z => exact Or.inr ⟨z.1, ro_le_bet z.2 h.1⟩
theorem ro_to_s {e : Nat → Nat → Option Nat} {n g : Nat} (he : ro_pos e) {a : Nat} (ha : a < n) (p : Tl × Bool) (b : Nat) : ro_to e n g p (ro_s e a p b) := by
  unfold ro_s
  split
  · next h => exact ⟨ro_le_up h, fun z => ro_good_st he z ha h, Or.inr ⟨rfl, ro_bet_up h⟩⟩
  · exact ro_to_rf _ _ _ _
theorem ro_to_r {e : Nat → Nat → Option Nat} {n g : Nat} (he : ro_pos e) {a : Nat} (ha : a < n) (p : Tl × Bool) : ∀ m, ro_to e n g p (ro_r e a p m) := by
  intro m
  induction m with
  | zero => exact ro_to_rf _ _ _ _
  | succ m ih => exact ih.trans (ro_to_s he ha _ m)
theorem ro_to_r2 {e : Nat → Nat → Option Nat} {n g : Nat} (he : ro_pos e) {a : Nat} (ha : a < n) (p : Tl × Bool) {k m : Nat} (h : k ≤ m) : ro_to e n g (ro_r e a p k) (ro_r e a p m) := by
  induction h with
  | refl => exact ro_to_rf _ _ _ _
  | step _ ih => exact ih.trans (ro_to_s he ha _ _)
theorem ro_to_p2 {e : Nat → Nat → Option Nat} {n g : Nat} (he : ro_pos e) (p : Tl × Bool) {k m : Nat} (h : k ≤ m) (hm : m ≤ n) : ro_to e n g (ro_p e n p k) (ro_p e n p m) := by
  induction h with
  | refl => exact ro_to_rf _ _ _ _
  | step q ih => exact (ih (by omega)).trans (ro_to_r he (by omega) _ n)
theorem ro_s_by {e : Nat → Nat → Option Nat} {a : Nat} (p : Tl × Bool) (b : Nat) {v : Nat} (h : ro_by e p.1 a b = some v) : ∃ u, u ≤ v ∧ (ro_s e a p b).1 a = some u := by
  unfold ro_s
  split
  · exact ⟨v, Nat.le_refl v, by simp [va_up, h]⟩
  · next q =>
    cases hd : p.1 a with
    | none => exact absurd (ro_bt_yes.2 ⟨v, h, fun w hw => by rw [hd] at hw; cases hw⟩) q
    | some w =>
      refine ⟨w, ?_, rfl⟩
      apply Nat.le_of_not_lt
      intro hl
      exact q (ro_bt_yes.2 ⟨v, h, fun w' hw' => by rw [hd] at hw'; cases hw'; exact hl⟩)
theorem ro_by_le {e : Nat → Nat → Option Nat} {d' d : Tl} (h : ro_le d' d) {a b v : Nat} (hv : ro_by e d a b = some v) : ∃ u, u ≤ v ∧ ro_by e d' a b = some u := by
  obtain ⟨x, y, ex, ey, exy⟩ := ro_by_some.1 hv
  obtain ⟨u, hu, eu⟩ := h b y ey
  exact ⟨x + u, by omega, ro_by_some.2 ⟨x, u, ex, eu, rfl⟩⟩
theorem ro_p_by {e : Nat → Nat → Option Nat} {n : Nat} (he : ro_pos e) (p : Tl × Bool) {a b v : Nat} (ha : a < n) (hb : b < n) (h : ro_by e p.1 a b = some v) : ∃ u, u ≤ v ∧ (ro_p e n p n).1 a = some u := by
  have h1 := ro_to_p2 (g := 0) he p (Nat.zero_le a) (Nat.le_of_lt ha)
  have h2 := ro_to_r2 (g := 0) he ha (ro_p e n p a) (Nat.zero_le b)
  have h3 := ro_to_r2 (g := 0) he ha (ro_p e n p a) (show b + 1 ≤ n from hb)
  have h4 := ro_to_p2 (g := 0) he p (show a + 1 ≤ n from ha) (Nat.le_refl n)
  obtain ⟨u, hu, eu⟩ := ro_by_le (h2.1.trans h1.1) h
  obtain ⟨w, hw, ew⟩ := ro_s_by _ b eu
  obtain ⟨z, hz, ez⟩ := (h4.1.trans h3.1) a w ew
  exact ⟨z, by omega, ez⟩
/-- a walk of k links -/
def ro_k (e : Nat → Nat → Option Nat) (n g : Nat) : Nat → Nat → Nat → Prop
  | 0, a, v => a = g ∧ v = 0
  | k + 1, a, v => ∃ b x y, b < n ∧ e a b = some x ∧ v = x + y ∧ ro_k e n g k b y
theorem ro_k_w {e : Nat → Nat → Option Nat} {n g : Nat} {d : Tl} : ∀ (l : List Nat) (a v : Nat), ro_w e g d (a :: l) v → (∀ c, c ∈ a :: l → c < n) → ro_k e n g l.length a v := by
  intro l
  induction l with
  | nil => intro a v h _; exact h
  | cons b l ih =>
    intro a v h hc
    obtain ⟨x, y, u, h1, h2, h3, h4, h5⟩ := h
    exact ⟨b, x, y, hc b (by simp), h1, h2, ih b y h5 (fun c q => hc c (List.mem_cons_of_mem _ q))⟩
theorem ro_nodup : ∀ (n : Nat) (l : List Nat), l.Nodup → (∀ c, c ∈ l → c < n) → l.length ≤ n := by
  intro n
  induction n with
  | zero =>
    intro l _ h
    cases l with
    | nil => exact Nat.le_refl 0
    | cons a l => exact absurd (h a (by simp)) (by omega)
  | succ n ih =>
    intro l hn h
    by_cases hm : n ∈ l
    · have := ih (l.erase n) (hn.erase n) (fun c hc => by
        have h1 := (hn.mem_erase_iff).1 hc
        have := h c h1.2
        have := h1.1
        omega)
      rw [List.length_erase_of_mem hm] at this
      omega
    · have := ih l hn (fun c hc => by
        have := h c hc
        have : c ≠ n := fun q => hm (q ▸ hc)
        omega)
      omega
def ro_it (e : Nat → Nat → Option Nat) (n : Nat) (d : Tl) : Nat → Tl
  | 0 => d
  | k + 1 => (ro_p e n (ro_it e n d k, false) n).1
def ro_0 (g : Nat) : Tl := fun a => if a = g then some 0 else none
theorem ro_good_0 {e : Nat → Nat → Option Nat} {n g : Nat} (hg : g < n) : ro_good e n g (ro_0 g) := by
  intro a v h
  unfold ro_0 at h
  split at h
  · next q =>
    subst q
    cases h
    exact ⟨[], ⟨rfl, rfl⟩, by simp, by simpa using hg⟩
  · cases h
theorem ro_good_it {e : Nat → Nat → Option Nat} {n g : Nat} (he : ro_pos e) (hg : g < n) : ∀ k, ro_good e n g (ro_it e n (ro_0 g) k) := by
  intro k
  induction k with
  | zero => exact ro_good_0 hg
  | succ k ih => exact (ro_to_p2 he (ro_it e n (ro_0 g) k, false) (Nat.zero_le n) (Nat.le_refl n)).2.1 ih
theorem ro_it_le {e : Nat → Nat → Option Nat} {n g : Nat} (he : ro_pos e) (k : Nat) : ro_le (ro_it e n (ro_0 g) (k + 1)) (ro_it e n (ro_0 g) k) := (ro_to_p2 (g := g) he (ro_it e n (ro_0 g) k, false) (Nat.zero_le n) (Nat.le_refl n)).1
theorem ro_it_k {e : Nat → Nat → Option Nat} {n g : Nat} (he : ro_pos e) (_ : g < n) : ∀ k j a v, j ≤ k → a < n → ro_k e n g j a v → ∃ u, u ≤ v ∧ ro_it e n (ro_0 g) k a = some u := by
  intro k
  induction k with
  | zero =>
    intro j a v hj _ h
    have : j = 0 := by omega
    subst this
    obtain ⟨h1, h2⟩ := h
    subst h1
    exact ⟨0, by omega, by simp [ro_it, ro_0]⟩
  | succ k ih =>
    intro j a v hj ha h
    cases j with
    | zero =>
      obtain ⟨u, hu, eu⟩ := ih 0 a v (by omega) ha h
      obtain ⟨w, hw, ew⟩ := ro_it_le he k a u eu
      exact ⟨w, by omega, ew⟩
    | succ j =>
      obtain ⟨b, x, y, hb, h1, h2, h3⟩ := h
      obtain ⟨u, hu, eu⟩ := ih j b y (by omega) hb h3
      obtain ⟨w, hw, ew⟩ := ro_p_by he (ro_it e n (ro_0 g) k, false) ha hb (ro_by_some.2 ⟨x, u, h1, eu, rfl⟩)
      exact ⟨w, by omega, ew⟩
/-- the pass number k + 1 found nothing, if n - 1 were before it -/
theorem ro_still {e : Nat → Nat → Option Nat} {n g : Nat} (he : ro_pos e) (hg : g < n) {k : Nat} (hk : n ≤ k + 1) : ro_p e n (ro_it e n (ro_0 g) k, false) n = (ro_it e n (ro_0 g) k, false) := by
  have ht := ro_to_p2 (g := g) he (ro_it e n (ro_0 g) k, false) (Nat.zero_le n) (Nat.le_refl n)
  cases ht.2.2 with
  | inl h => exact h
  | inr h =>
    exfalso
    obtain ⟨a, ha⟩ := h.2
    obtain ⟨u, eu, hu⟩ := ro_bt_yes.1 ha
    obtain ⟨l, hl, hn, hc⟩ := ht.2.1 (ro_good_it he hg k) a u eu
    have hlen := ro_nodup n (a :: l) hn hc
    rw [List.length_cons] at hlen
    obtain ⟨w, hw, ew⟩ := ro_it_k he hg k l.length a u (by omega) (hc a (by simp)) (ro_k_w l a u hl hc)
    have := hu w ew
    omega
theorem ro_stay {e : Nat → Nat → Option Nat} {n : Nat} {d : Tl} {k : Nat} (h : ro_p e n (ro_it e n d k, false) n = (ro_it e n d k, false)) : ∀ j, ro_it e n d (k + j) = ro_it e n d k := by
  intro j
  induction j with
  | zero => rfl
  | succ j ih =>
    show (ro_p e n (ro_it e n d (k + j), false) n).1 = _
    rw [ih, h]
def ro_end (e : Nat → Nat → Option Nat) (n g : Nat) : Tl := ro_it e n (ro_0 g) n
theorem ro_end_of {e : Nat → Nat → Option Nat} {n g k : Nat} (h : ro_p e n (ro_it e n (ro_0 g) k, false) n = (ro_it e n (ro_0 g) k, false)) (hk : k ≤ n) : ro_it e n (ro_0 g) k = ro_end e n g := by
  have := ro_stay h (n - k)
  rw [show k + (n - k) = n by omega] at this
  exact this.symm
theorem ro_end_p {e : Nat → Nat → Option Nat} {n g : Nat} (he : ro_pos e) (hg : g < n) : ro_p e n (ro_end e n g, false) n = (ro_end e n g, false) := ro_still he hg (by omega)
theorem ro_end_good {e : Nat → Nat → Option Nat} {n g : Nat} (he : ro_pos e) (hg : g < n) : ro_good e n g (ro_end e n g) := ro_good_it he hg n
theorem ro_end_by {e : Nat → Nat → Option Nat} {n g : Nat} (he : ro_pos e) (hg : g < n) {a b v : Nat} (ha : a < n) (hb : b < n) (h : ro_by e (ro_end e n g) a b = some v) : ∃ u, u ≤ v ∧ ro_end e n g a = some u := by
  have := ro_p_by he (ro_end e n g, false) ha hb h
  rw [ro_end_p he hg] at this
  exact this
theorem ro_end_g {e : Nat → Nat → Option Nat} {n g : Nat} (he : ro_pos e) (hg : g < n) : ro_end e n g g = some 0 := by
  obtain ⟨u, hu, eu⟩ := ro_it_k he hg n 0 g 0 (Nat.zero_le n) hg ⟨rfl, rfl⟩
  have : u = 0 := by omega
  subst this
  exact eu
/-- whoever is reached and isn't the goal has a next one -/
theorem ro_end_nx {e : Nat → Nat → Option Nat} {n g : Nat} (he : ro_pos e) (hg : g < n) {a v : Nat} (hv : ro_end e n g a = some v) (hag : a ≠ g) : ∃ b, b < n ∧ ro_by e (ro_end e n g) a b = some v := by
  obtain ⟨l, hl, hn, hc⟩ := ro_end_good he hg a v hv
  cases l with
  | nil => exact absurd hl.1 hag
  | cons b l =>
    obtain ⟨x, y, u, h1, h2, h3, h4, h5⟩ := hl
    have hb : b < n := hc b (by simp)
    have hby : ro_by e (ro_end e n g) a b = some (x + u) := ro_by_some.2 ⟨x, u, h1, h3, rfl⟩
    obtain ⟨w, hw, ew⟩ := ro_end_by he hg (hc a (by simp)) hb hby
    rw [hv] at ew
    cases ew
    refine ⟨b, hb, ?_⟩
    rw [hby]
    congr 1
    omega
/-- the weights are 32 times a width, and one -/
def ro_32 (e : Nat → Nat → Option Nat) : Prop := ∀ a b x, e a b = some x → x % 32 = 1
theorem ro_32_pos {e : Nat → Nat → Option Nat} (h : ro_32 e) : ro_pos e := fun a b x q => by have := h a b x q; omega
theorem ro_w_len {e : Nat → Nat → Option Nat} {g : Nat} {d : Tl} (h32 : ro_32 e) : ∀ (l : List Nat) (a v : Nat), ro_w e g d (a :: l) v → l.length < 32 → v % 32 = l.length := by
  intro l
  induction l with
  | nil => intro a v h _; have := h.2; subst this; rfl
  | cons b l ih =>
    intro a v h hl
    obtain ⟨x, y, u, h1, h2, h3, h4, h5⟩ := h
    have h6 := ih b y h5 (by simp at hl; omega)
    have h7 := h32 a b x h1
    simp at hl ⊢
    omega
theorem ro_w_max {e : Nat → Nat → Option Nat} {g : Nat} {d : Tl} {M : Nat} (hM : ∀ a b x, e a b = some x → x ≤ M) : ∀ (l : List Nat) (a v : Nat), ro_w e g d (a :: l) v → v ≤ l.length * M := by
  intro l
  induction l with
  | nil => intro a v h; have := h.2; omega
  | cons b l ih =>
    intro a v h
    obtain ⟨x, y, u, h1, h2, h3, h4, h5⟩ := h
    have h6 := ih b y h5
    have h7 := hM a b x h1
    rw [List.length_cons, Nat.add_mul]
    omega
theorem ro_good_max {e : Nat → Nat → Option Nat} {n g M : Nat} {d : Tl} (hM : ∀ a b x, e a b = some x → x ≤ M) (h : ro_good e n g d) {a v : Nat} (hv : d a = some v) : v ≤ (n - 1) * M ∧ a < n := by
  obtain ⟨l, hl, hn, hc⟩ := h a v hv
  have h1 := ro_w_max hM l a v hl
  have h2 := ro_nodup n (a :: l) hn hc
  rw [List.length_cons] at h2
  exact ⟨Nat.le_trans h1 (Nat.mul_le_mul_right M (by omega)), hc a (by simp)⟩
theorem ro_good_li {e : Nat → Nat → Option Nat} {n g : Nat} {d : Tl} (h32 : ro_32 e) (hn : n ≤ 16) (h : ro_good e n g d) {a v : Nat} (hv : d a = some v) : v % 32 < 16 ∧ (v % 32 = 0 → a = g) := by
  obtain ⟨l, hl, hd, hc⟩ := h a v hv
  have h2 := ro_nodup n (a :: l) hd hc
  rw [List.length_cons] at h2
  have h3 := ro_w_len h32 l a v hl (by omega)
  refine ⟨by omega, fun h0 => ?_⟩
  cases l with
  | nil => exact hl.1
  | cons b l => rw [h3] at h0; simp at h0
/-- the first b from k on, below n, that a goes by -/
def ro_fst (e : Nat → Nat → Option Nat) (d : Tl) (a : Nat) : Nat → Nat → Nat
  | 0, k => k
  | m + 1, k => if ro_by e d a k = d a then k else ro_fst e d a m (k + 1)
def ro_nx (e : Nat → Nat → Option Nat) (n : Nat) (d : Tl) (a : Nat) : Nat := ro_fst e d a n 0
theorem ro_fst_is {e : Nat → Nat → Option Nat} {d : Tl} {a : Nat} : ∀ (m k b : Nat), k ≤ b → b < k + m → ro_by e d a b = d a → ro_fst e d a m k ≤ b ∧ k ≤ ro_fst e d a m k ∧ ro_by e d a (ro_fst e d a m k) = d a ∧ ∀ c, k ≤ c → c < ro_fst e d a m k → ¬ ro_by e d a c = d a := by
  intro m
  induction m with
  | zero => intro k b h1 h2; omega
  | succ m ih =>
    intro k b h1 h2 h
    rw [ro_fst]
    split
    · next q => exact ⟨h1, Nat.le_refl k, q, fun c h3 h4 => by omega⟩
    · next q =>
      have hk : k ≠ b := fun z => q (z ▸ h)
      obtain ⟨a1, a2, a3, a4⟩ := ih (k + 1) b (by omega) (by omega) h
      refine ⟨a1, by omega, a3, fun c h3 h4 => ?_⟩
      by_cases hc : c = k
      · subst hc; exact q
      · exact a4 c (by omega) h4
theorem ro_nx_is {e : Nat → Nat → Option Nat} {n g : Nat} (he : ro_pos e) (hg : g < n) {a v : Nat} (hv : ro_end e n g a = some v) (hag : a ≠ g) : ro_nx e n (ro_end e n g) a < n ∧ ro_by e (ro_end e n g) a (ro_nx e n (ro_end e n g) a) = some v ∧ ∀ c, c < ro_nx e n (ro_end e n g) a → ¬ ro_by e (ro_end e n g) a c = some v := by
  obtain ⟨b, hb, h⟩ := ro_end_nx he hg hv hag
  obtain ⟨h1, _, h3, h4⟩ := ro_fst_is n 0 b (Nat.zero_le b) (by omega) (h.trans hv.symm)
  exact ⟨Nat.lt_of_le_of_lt h1 hb, h3.trans hv, fun c hc q => h4 c (Nat.zero_le c) hc (q.trans hv.symm)⟩
/-- the knots from a to the goal -/
def ro_pt (e : Nat → Nat → Option Nat) (n g : Nat) (a : Nat) : Nat → Nat
  | 0 => a
  | i + 1 => ro_nx e n (ro_end e n g) (ro_pt e n g a i)
theorem ro_pt_is {e : Nat → Nat → Option Nat} {n g : Nat} (h32 : ro_32 e) (hn : n ≤ 16) (hg : g < n) {a v : Nat} (hv : ro_end e n g a = some v) : ∀ i, i ≤ v % 32 → ∃ u, ro_end e n g (ro_pt e n g a i) = some u ∧ u % 32 + i = v % 32 ∧ ro_pt e n g a i < n := by
  have he := ro_32_pos h32
  have hgd := ro_end_good he hg
  intro i
  induction i with
  | zero => intro _; obtain ⟨l, _, _, hc⟩ := hgd a v hv; exact ⟨v, hv, rfl, hc a (by simp)⟩
  | succ i ih =>
    intro hi
    obtain ⟨u, hu, h1, h2⟩ := ih (by omega)
    have hne : ro_pt e n g a i ≠ g := by
      intro q
      rw [q, ro_end_g he hg] at hu
      cases hu
      omega
    obtain ⟨h3, h4, _⟩ := ro_nx_is he hg hu hne
    obtain ⟨x, y, ex, ey, exy⟩ := ro_by_some.1 h4
    have := (ro_good_li h32 hn hgd ey).1
    have := h32 _ _ _ ex
    exact ⟨y, ey, by omega, h3⟩
theorem ro_pt_end {e : Nat → Nat → Option Nat} {n g : Nat} (h32 : ro_32 e) (hn : n ≤ 16) (hg : g < n) {a v : Nat} (hv : ro_end e n g a = some v) : ro_pt e n g a (v % 32) = g := by
  obtain ⟨u, hu, h1, _⟩ := ro_pt_is h32 hn hg hv (v % 32) (Nat.le_refl _)
  exact (ro_good_li h32 hn (ro_end_good (ro_32_pos h32) hg) hu).2 (by omega)
