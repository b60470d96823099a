/-! 52: laws: what their steps come to -/
abbrev Tk := Nat × Nat
def opc (k : Nat) : Nat := if k = 2 then 200008 else if k = 3 then 200009 else if k = 13 then 200010 else if k ≤ 8 then k + 199999 else 200011 - k
/-- the class's number of a step -/
def tkN (t : Tk) : Nat := if t.1 = 0 then t.2 else if t.1 = 1 then 100000 + t.2 else opc t.1
def bop (k : Nat) (a b : Int64) : Int64 := if k = 2 then a + b else if k = 3 then a - b else if k = 13 then a * b else if k = 4 then (if a < b then 1 else 0) else if k = 5 then (if a ≤ b then 1 else 0) else if k = 6 then (if a = b then 1 else 0) else if k = 7 then (if b ≤ a then 1 else 0) else if k = 8 then (if b < a then 1 else 0) else if k = 10 then a &&& b else a ||| b
def ar (k : Nat) : Bool := decide (k = 2 ∨ k = 3 ∨ k = 13)
def cm (k : Nat) : Bool := decide (4 ≤ k ∧ k ≤ 8)
def lg (k : Nat) : Bool := decide (k = 10 ∨ k = 11)
/-- kinds on the stack: true for a fact -/
def tyT (t : Tk) (s : List Bool) : Option (List Bool) :=
  if t.1 = 0 then (if t.2 ≤ 99999 then some (false :: s) else none)
  else if t.1 = 1 then (if t.2 < 10 then some (false :: s) else none)
  else if t.1 = 9 then (match s with
    | true :: s => some (true :: s)
    | _ => none)
  else if ar t.1 = true then (match s with
    | false :: false :: s => some (false :: s)
    | _ => none)
  else if cm t.1 = true then (match s with
    | false :: false :: s => some (true :: s)
    | _ => none)
  else if lg t.1 = true then (match s with
    | true :: true :: s => some (true :: s)
    | _ => none)
  else none
def tyL : List Tk → List Bool → Option (List Bool)
  | [], s => some s
  | t :: L, s => match tyT t s with
    | none => none
    | some b => tyL L b
def evT (w : Nat → Int64) (t : Tk) (s : List Int64) : List Int64 :=
  if t.1 = 0 then aL t.2 :: s else if t.1 = 1 then w t.2 :: s else if t.1 = 9 then (match s with
    | a :: s => (if a = 0 then 1 else 0) :: s
    | [] => [])
  else (match s with
    | b :: a :: s => bop t.1 a b :: s
    | _ => [])
def evL (w : Nat → Int64) : List Tk → List Int64 → List Int64
  | [], s => s
  | t :: L, s => evL w L (evT w t s)
def pcL : List Tk → Nat
  | [] => 0
  | t :: L => (if t.1 ≤ 1 then 1 else 0) + pcL L
def vt : List Bool → List Int64 → Prop
  | [], [] => True
  | b :: a, v :: x => (b = true → v = 0 ∨ v = 1) ∧ vt a x
  | _, _ => False
theorem vt_len : ∀ {a : List Bool} {x : List Int64}, vt a x → x.length = a.length
  | [], [], _ => rfl
  | _ :: _, _ :: _, h => by rw [List.length_cons, List.length_cons, vt_len h.2]
  | [], _ :: _, h => h.elim
  | _ :: _, [], h => h.elim
/-- what a step may be -/
theorem tk_cases {t : Tk} {a b : List Bool} (h : tyT t a = some b) : (t.1 = 0 ∧ t.2 ≤ 99999 ∧ b = false :: a) ∨ (t.1 = 1 ∧ t.2 < 10 ∧ b = false :: a) ∨ (t.1 = 9 ∧ ∃ s, a = true :: s ∧ b = true :: s) ∨ (ar t.1 = true ∧ ∃ s, a = false :: false :: s ∧ b = false :: s) ∨ (cm t.1 = true ∧ ∃ s, a = false :: false :: s ∧ b = true :: s) ∨ (lg t.1 = true ∧ ∃ s, a = true :: true :: s ∧ b = true :: s) := by
  unfold tyT at h
  split at h
  · next h0 =>
    split at h
    · next h1 => cases h; exact Or.inl ⟨h0, h1, rfl⟩
    · cases h
  · split at h
    · next h0 =>
      split at h
      · next h1 => cases h; exact Or.inr (Or.inl ⟨h0, h1, rfl⟩)
      · cases h
    · split at h
      · next h0 =>
        split at h
        · next s => cases h; exact Or.inr (Or.inr (Or.inl ⟨h0, _, rfl, rfl⟩))
        · cases h
      · split at h
        · next h0 =>
          split at h
          · next s => cases h; exact Or.inr (Or.inr (Or.inr (Or.inl ⟨h0, _, rfl, rfl⟩)))
          · cases h
        · split at h
          · next h0 =>
            split at h
            · next s => cases h; exact Or.inr (Or.inr (Or.inr (Or.inr (Or.inl ⟨h0, _, rfl, rfl⟩))))
            · cases h
          · split at h
            · next h0 =>
              split at h
              · next s => cases h; exact Or.inr (Or.inr (Or.inr (Or.inr (Or.inr ⟨h0, _, rfl, rfl⟩))))
              · cases h
            · cases h
theorem ar_k {k : Nat} (h : ar k = true) : k = 2 ∨ k = 3 ∨ k = 13 := of_decide_eq_true h
theorem cm_k {k : Nat} (h : cm k = true) : 4 ≤ k ∧ k ≤ 8 := of_decide_eq_true h
theorem lg_k {k : Nat} (h : lg k = true) : k = 10 ∨ k = 11 := of_decide_eq_true h
theorem if01 {p : Prop} [Decidable p] : (if p then (1 : Int64) else 0) = 0 ∨ (if p then (1 : Int64) else 0) = 1 := by
  by_cases h : p
  · rw [if_pos h]; exact Or.inr rfl
  · rw [if_neg h]; exact Or.inl rfl
theorem bop_cm {k : Nat} (h : cm k = true) (a b : Int64) : bop k a b = 0 ∨ bop k a b = 1 := by
  obtain ⟨h1, h2⟩ := cm_k h
  have : k = 4 ∨ k = 5 ∨ k = 6 ∨ k = 7 ∨ k = 8 := by omega
  rcases this with rfl | rfl | rfl | rfl | rfl
  · exact if01 (p := a < b)
  · exact if01 (p := a ≤ b)
  · exact if01 (p := a = b)
  · exact if01 (p := b ≤ a)
  · exact if01 (p := b < a)
theorem bop_lg {k : Nat} (h : lg k = true) {a b : Int64} (ha : a = 0 ∨ a = 1) (hb : b = 0 ∨ b = 1) : bop k a b = 0 ∨ bop k a b = 1 := by
  rcases lg_k h with rfl | rfl <;> rcases ha with rfl | rfl <;> rcases hb with rfl | rfl <;> decide
theorem evT_num {w : Nat → Int64} {t : Tk} {s : List Int64} (h : t.1 = 0) : evT w t s = aL t.2 :: s := by unfold evT; rw [if_pos h]
theorem evT_word {w : Nat → Int64} {t : Tk} {s : List Int64} (h : t.1 = 1) : evT w t s = w t.2 :: s := by unfold evT; rw [if_neg (by omega), if_pos h]
theorem evT_not {w : Nat → Int64} {t : Tk} {a : Int64} {s : List Int64} (h : t.1 = 9) : evT w t (a :: s) = (if a = 0 then 1 else 0) :: s := by unfold evT; rw [if_neg (by omega), if_neg (by omega), if_pos h]
theorem evT_bin {w : Nat → Int64} {t : Tk} {a b : Int64} {s : List Int64} (h : t.1 ≠ 0 ∧ t.1 ≠ 1 ∧ t.1 ≠ 9) : evT w t (b :: a :: s) = bop t.1 a b :: s := by unfold evT; rw [if_neg h.1, if_neg h.2.1, if_neg h.2.2]
theorem bin_k {k : Nat} (h : ar k = true ∨ cm k = true ∨ lg k = true) : k ≠ 0 ∧ k ≠ 1 ∧ k ≠ 9 ∧ 2 ≤ k ∧ k ≤ 13 ∧ k ≠ 12 := by
  rcases h with h | h | h
  · have := ar_k h; omega
  · have := cm_k h; omega
  · have := lg_k h; omega
theorem evT_vt {w : Nat → Int64} {t : Tk} {a b : List Bool} {x : List Int64} (h : tyT t a = some b) (hv : vt a x) : vt b (evT w t x) := by
  rcases tk_cases h with ⟨h1, h2, rfl⟩ | ⟨h1, h2, rfl⟩ | ⟨h1, s, rfl, rfl⟩ | ⟨h1, s, rfl, rfl⟩ | ⟨h1, s, rfl, rfl⟩ | ⟨h1, s, rfl, rfl⟩
  · rw [evT_num h1]; exact ⟨fun z => absurd z (by decide), hv⟩
  · rw [evT_word h1]; exact ⟨fun z => absurd z (by decide), hv⟩
  · match x, hv with
    | v :: x, hv =>
      rw [evT_not h1]
      refine ⟨fun _ => ?_, hv.2⟩
      split
      · exact Or.inr rfl
      · exact Or.inl rfl
  · match x, hv with
    | v :: u :: x, hv =>
      have k := bin_k (Or.inl h1)
      rw [evT_bin ⟨k.1, k.2.1, k.2.2.1⟩]
      exact ⟨fun z => absurd z (by decide), hv.2.2⟩
  · match x, hv with
    | v :: u :: x, hv =>
      have k := bin_k (Or.inr (Or.inl h1))
      rw [evT_bin ⟨k.1, k.2.1, k.2.2.1⟩]
      exact ⟨fun _ => bop_cm h1 _ _, hv.2.2⟩
  · match x, hv with
    | v :: u :: x, hv =>
      have k := bin_k (Or.inr (Or.inr h1))
      rw [evT_bin ⟨k.1, k.2.1, k.2.2.1⟩]
      exact ⟨fun _ => bop_lg h1 (hv.2.1 rfl) (hv.1 rfl), hv.2.2⟩
theorem evT_app {w : Nat → Int64} {t : Tk} {a b : List Bool} {x : List Int64} (h : tyT t a = some b) (hv : vt a x) (s : List Int64) : evT w t (x ++ s) = evT w t x ++ s := by
  rcases tk_cases h with ⟨h1, h2, rfl⟩ | ⟨h1, h2, rfl⟩ | ⟨h1, s, rfl, rfl⟩ | ⟨h1, s, rfl, rfl⟩ | ⟨h1, s, rfl, rfl⟩ | ⟨h1, s, rfl, rfl⟩
  · rw [evT_num h1, evT_num h1]; rfl
  · rw [evT_word h1, evT_word h1]; rfl
  · match x, hv with
    | v :: x, hv => rw [evT_not h1, List.cons_append, evT_not h1]; rfl
  all_goals
    match x, hv with
    | v :: u :: x, hv =>
      have k := bin_k (k := t.1) (by first | exact Or.inl h1 | exact Or.inr (Or.inl h1) | exact Or.inr (Or.inr h1))
      rw [evT_bin ⟨k.1, k.2.1, k.2.2.1⟩, List.cons_append, List.cons_append, evT_bin ⟨k.1, k.2.1, k.2.2.1⟩]
      rfl
theorem evL_vt {w : Nat → Int64} : ∀ {L : List Tk} {a b : List Bool} {x : List Int64}, tyL L a = some b → vt a x → vt b (evL w L x)
  | [], a, b, x, h, hv => by cases h; exact hv
  | t :: L, a, b, x, h, hv => by
    rw [tyL] at h
    cases e : tyT t a with
    | none => rw [e] at h; cases h
    | some c => rw [e] at h; exact evL_vt (L := L) h (evT_vt e hv)
theorem evL_app {w : Nat → Int64} : ∀ {L : List Tk} {a b : List Bool} {x : List Int64}, tyL L a = some b → vt a x → ∀ s, evL w L (x ++ s) = evL w L x ++ s
  | [], a, b, x, h, hv, s => rfl
  | t :: L, a, b, x, h, hv, s => by
    rw [tyL] at h
    cases e : tyT t a with
    | none => rw [e] at h; cases h
    | some c =>
      rw [e] at h
      show evL w L (evT w t (x ++ s)) = evL w L (evT w t x) ++ s
      rw [evT_app e hv, evL_app (L := L) h (evT_vt e hv)]
theorem tyL_app : ∀ (L M : List Tk) (a : List Bool), tyL (L ++ M) a = match tyL L a with
    | none => none
    | some b => tyL M b
  | [], M, a => rfl
  | t :: L, M, a => by
    rw [List.cons_append, tyL, tyL]
    cases tyT t a with
    | none => rfl
    | some b => exact tyL_app L M b
/-- a clause: its sum, its test (none: []) -/
abbrev Cl := List Tk × List Tk
def cl_w (c : Cl) : Prop := tyL c.1 [] = some [false] ∧ (c.2 = [] ∨ tyL c.2 [] = some [true])
def top1 (x : List Int64) : Int64 := match x with
  | a :: _ => a
  | [] => 0
/-- what the first clause that speaks comes to -/
def lwv (w : Nat → Int64) : List Cl → Int64
  | [] => 0
  | c :: C => if c.2 = [] then top1 (evL w c.1 []) else if top1 (evL w c.2 []) = 1 then top1 (evL w c.1 []) else lwv w C
def hld (v : Int64) : Int64 := if v < -999999 then -999999 else if 999999 < v then 999999 else v
def mkc (c : Cl) : Nat := if c.2 = [] then 200011 else 200012
/-- the class's steps -/
def stp : List Cl → List Nat
  | [] => []
  | c :: C => (c.1 ++ c.2).map tkN ++ mkc c :: stp C
/-- the model's entries -/
def ent : List Cl → List Tk
  | [] => []
  | c :: C => c.1 ++ c.2 ++ ent C
def lwOK (C : List Cl) : Prop := (∀ c, c ∈ C → cl_w c) ∧ pcL (ent C) ≤ 60 ∧ C.length ≤ 12 ∧ (ent C).length ≤ 300
theorem pcL_app : ∀ L M : List Tk, pcL (L ++ M) = pcL L + pcL M
  | [], M => by show pcL M = 0 + pcL M; omega
  | t :: L, M => by rw [List.cons_append, pcL, pcL, pcL_app L M]; omega
theorem one_t {b : Bool} {x : List Int64} (h : vt [b] x) : ∃ v, x = [v] ∧ (b = true → v = 0 ∨ v = 1) := by
  match x, h with
  | [v], h => exact ⟨v, rfl, h.1⟩
/-- a stack in a row of longs -/
def stk (s : List Int64) (g : Nat → Int64) : Prop := match s with
  | [] => True
  | a :: s => g s.length = a ∧ stk s g
theorem stk_cong : ∀ {s : List Int64} {f g : Nat → Int64}, (∀ i, i < s.length → g i = f i) → stk s f → stk s g
  | [], _, _, _, _ => trivial
  | a :: s, f, g, h, hs => ⟨(h s.length (by rw [List.length_cons]; omega)).trans hs.1, stk_cong (fun i hi => h i (by rw [List.length_cons]; omega)) hs.2⟩
