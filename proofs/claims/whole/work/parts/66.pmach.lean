/-! 66: the reader as a machine without a heap: one token a step -/
def py_rk (k : Nat) : Nat := if k = 11 then 1 else if k = 10 then 2 else if k = 9 then 3 else if k = 2 ∨ k = 3 then 5 else if k = 13 then 6 else if k = 12 then 0 else 4
def py_tw (r : Nat) (l : List Nat) : List Nat := l.takeWhile (fun k => decide (r ≤ py_rk k))
def py_dw (r : Nat) (l : List Nat) : List Nat := l.dropWhile (fun k => decide (r ≤ py_rk k))
/-- what is on the pile, as steps -/
def py_tk (l : List Nat) : List Tk := l.map (fun k => (k, 0))
def py_nt (l : List Nat) : Nat := l.countP (fun k => decide (k = 9))
def py_dp (l : List Nat) : Nat := l.countP (fun k => decide (k = 9 ∨ k = 12))
def py_br (l : List Nat) : Nat := l.countP (fun k => decide (k = 12))
def py_op (l : List Nat) : Nat := l.countP (fun k => decide (k ≠ 12))
theorem py_app (r : Nat) (l : List Nat) : py_tw r l ++ py_dw r l = l := List.takeWhile_append_dropWhile
theorem py_tw_y {r x : Nat} {l : List Nat} (h : r ≤ py_rk x) : py_tw r (x :: l) = x :: py_tw r l := List.takeWhile_cons_of_pos (decide_eq_true h)
theorem py_tw_n {r x : Nat} {l : List Nat} (h : ¬ r ≤ py_rk x) : py_tw r (x :: l) = [] := List.takeWhile_cons_of_neg (fun z => h (of_decide_eq_true z))
theorem py_dw_y {r x : Nat} {l : List Nat} (h : r ≤ py_rk x) : py_dw r (x :: l) = py_dw r l := List.dropWhile_cons_of_pos (decide_eq_true h)
theorem py_dw_n {r x : Nat} {l : List Nat} (h : ¬ r ≤ py_rk x) : py_dw r (x :: l) = x :: l := List.dropWhile_cons_of_neg (fun z => h (of_decide_eq_true z))
theorem py_tw_0 (r : Nat) : py_tw r [] = [] := rfl
theorem py_dw_0 (r : Nat) : py_dw r [] = [] := rfl
/-- the top's rank is below r (or nothing is there) -/
def py_lo (r : Nat) : List Nat → Prop
  | [] => True
  | x :: _ => py_rk x < r
theorem py_lo_dw (r : Nat) : ∀ l : List Nat, py_lo r (py_dw r l)
  | [] => trivial
  | x :: l => by
    by_cases h : r ≤ py_rk x
    · rw [py_dw_y h]; exact py_lo_dw r l
    · rw [py_dw_n h]; exact Nat.lt_of_not_le h
theorem py_lo_tw {r : Nat} {l : List Nat} (h : py_lo r l) : py_tw r l = [] ∧ py_dw r l = l := by
  cases l with
  | nil => exact ⟨rfl, rfl⟩
  | cons x l => exact ⟨py_tw_n (Nat.not_le_of_lt h), py_dw_n (Nat.not_le_of_lt h)⟩
theorem py_lo.le {r s : Nat} {l : List Nat} (h : py_lo r l) (hs : r ≤ s) : py_lo s l := by
  cases l with
  | nil => trivial
  | cons x l => exact Nat.lt_of_lt_of_le h hs
/-- first as far as r, then as far as s -/
theorem py_two {r s : Nat} (h : s ≤ r) : ∀ l : List Nat, py_tw s l = py_tw r l ++ py_tw s (py_dw r l) ∧ py_dw s l = py_dw s (py_dw r l)
  | [] => ⟨rfl, rfl⟩
  | x :: l => by
    obtain ⟨h1, h2⟩ := py_two h l
    by_cases hr : r ≤ py_rk x
    · rw [py_tw_y hr, py_dw_y hr, py_tw_y (Nat.le_trans h hr), py_dw_y (Nat.le_trans h hr)]
      exact ⟨by rw [h1]; rfl, h2⟩
    · rw [py_tw_n hr, py_dw_n hr]
      exact ⟨rfl, rfl⟩
/-- a state: what is wanted, the place, the fault, parts, depth, brackets, the clauses done, the sum and the test so far, the pile (its top first) -/
abbrev PS := Nat × Nat × Nat × Nat × Nat × Nat × List Cl × List Tk × List Tk × List Nat
def py_fail (c a : Nat) (x : PS) : PS := match x with
  | (st, p, _, pa, de, br, D, A, B, pl) => (st, p, 1 + 8 * a + c, pa, de, br, D, A, B, pl)
def py_put (s k v a e : Nat) (x : PS) : PS := match x with
  | (st, p, fl, pa, de, br, D, A, B, pl) => if k ≠ 0 ∧ k ≠ 1 then py_fail 0 a (st, p, fl, pa, de, br, D, A, B, pl) else if k = 0 ∧ 5 < e - a then py_fail 1 a (st, p, fl, pa, de, br, D, A, B, pl) else if pa = 60 then py_fail 3 a (st, p, fl, pa, de, br, D, A, B, pl) else if s = 2 then (s, e, 0, pa + 1, de, br, D, A ++ [(k, v)], B, pl) else (s, e, 0, pa + 1, de, br, D, A, B ++ [(k, v)], pl)
def py_join (s k e : Nat) (x : PS) : PS := match x with
  | (_, _, _, pa, de, br, D, A, B, pl) => if s = 1 then (s, e, 0, pa, de - py_nt (py_tw (py_rk k) pl), br, D, A ++ py_tk (py_tw (py_rk k) pl), B, k :: py_dw (py_rk k) pl) else (s, e, 0, pa, de - py_nt (py_tw (py_rk k) pl), br, D, A, B ++ py_tk (py_tw (py_rk k) pl), k :: py_dw (py_rk k) pl)
def py_close (k a e : Nat) (x : PS) : PS := match x with
  | (st, p, fl, pa, de, br, D, A, B, pl) => if k ≠ 17 ∧ k ≠ 18 then py_fail 0 a (st, p, fl, pa, de, br, D, A, B, pl) else (if k = 18 then 9 else 0, e, 0, pa, de - py_nt (py_tw 1 pl), br, D ++ [if st = 2 then (A ++ py_tk (py_tw 1 pl), B) else (A, B ++ py_tk (py_tw 1 pl))], [], [], py_dw 1 pl)
def py_fact (k a e : Nat) (x : PS) : PS := match x with
  | (st, p, fl, pa, de, br, D, A, B, pl) => if k = 10 ∨ k = 11 then py_join 3 k e (st, p, fl, pa, de, br, D, A, B, pl) else if br = 0 then py_close k a e (st, p, fl, pa, de, br, D, A, B, pl) else if k = 16 then (8, e, 0, pa, de - py_nt (py_tw 1 pl) - 1, br - 1, D, A, B ++ py_tk (py_tw 1 pl), (py_dw 1 pl).tail) else py_fail 0 a (st, p, fl, pa, de, br, D, A, B, pl)
def py_ar (k : Nat) : Prop := k = 2 ∨ k = 3 ∨ k = 13
def py_step1 (k v a e : Nat) (x : PS) : PS := match x with
  | (0, p, fl, pa, de, br, D, A, B, pl) => if k ≠ 14 then py_fail 0 a (0, p, fl, pa, de, br, D, A, B, pl) else if D.length = 12 then py_fail 4 a (0, p, fl, pa, de, br, D, A, B, pl) else (1, e, 0, pa, de, br, D, A, B, pl)
  | (1, p, fl, pa, de, br, D, A, B, pl) => py_put 2 k v a e (1, p, fl, pa, de, br, D, A, B, pl)
  | (2, p, fl, pa, de, br, D, A, B, pl) => if k = 2 ∨ k = 3 ∨ k = 13 then py_join 1 k e (2, p, fl, pa, de, br, D, A, B, pl) else if k = 15 then (3, e, 0, pa, de - py_nt (py_tw 1 pl), br, D, A ++ py_tk (py_tw 1 pl), B, py_dw 1 pl) else py_close k a e (2, p, fl, pa, de, br, D, A, B, pl)
  | (3, p, fl, pa, de, br, D, A, B, pl) => if k ≠ 9 ∧ k ≠ 12 then py_put 5 k v a e (3, p, fl, pa, de, br, D, A, B, pl) else if de = 10 then py_fail 2 a (3, p, fl, pa, de, br, D, A, B, pl) else (3, e, 0, pa, de + 1, (if k = 12 then br + 1 else br), D, A, B, k :: pl)
  | (4, p, fl, pa, de, br, D, A, B, pl) => py_put 5 k v a e (4, p, fl, pa, de, br, D, A, B, pl)
  | (5, p, fl, pa, de, br, D, A, B, pl) => if k = 2 ∨ k = 3 ∨ k = 13 then py_join 4 k e (5, p, fl, pa, de, br, D, A, B, pl) else if ¬ (4 ≤ k ∧ k ≤ 8) then py_fail 0 a (5, p, fl, pa, de, br, D, A, B, pl) else if pa = 60 then py_fail 3 a (5, p, fl, pa, de, br, D, A, B, pl) else py_join 6 k e (5, p, fl, pa + 1, de, br, D, A, B, pl)
  | (6, p, fl, pa, de, br, D, A, B, pl) => py_put 7 k v a e (6, p, fl, pa, de, br, D, A, B, pl)
  | (7, p, fl, pa, de, br, D, A, B, pl) => if k = 2 ∨ k = 3 ∨ k = 13 then py_join 6 k e (7, p, fl, pa, de, br, D, A, B, pl) else py_fact k a e (7, p, fl, pa, de, br, D, A, B, pl)
  | x => py_fact k a e x
def py_at (t : Nat → Nat) (n p : Nat) (x : PS) : PS := py_step1 (tx_k t n (tx_fr t n p)) (tx_v t n (tx_fr t n p)) (tx_fr t n p) (tx_e t n (tx_fr t n p)) x
/-- it stands: a fault, or the text is over -/
def py_stop (x : PS) : Prop := x.2.2.1 ≠ 0 ∨ x.1 = 9
def py_step (t : Nat → Nat) (n : Nat) (x : PS) : PS := if x.2.2.1 ≠ 0 ∨ x.1 = 9 then x else py_at t n x.2.1 x
def py_it (t : Nat → Nat) (n : Nat) : Nat → PS → PS
  | 0, x => x
  | k + 1, x => py_it t n k (py_step t n x)
/-- y comes of x -/
def py_rch (t : Nat → Nat) (n : Nat) (x y : PS) : Prop := ∃ k, py_it t n k x = y
theorem py_rch.rf {t : Nat → Nat} {n : Nat} {x : PS} : py_rch t n x x := ⟨0, rfl⟩
theorem py_it_add (t : Nat → Nat) (n : Nat) : ∀ (j k : Nat) (x : PS), py_it t n (j + k) x = py_it t n k (py_it t n j x)
  | 0, k, x => by rw [Nat.zero_add]; rfl
  | j + 1, k, x => by rw [Nat.succ_add]; exact py_it_add t n j k _
theorem py_rch.trans {t : Nat → Nat} {n : Nat} {x y z : PS} (a : py_rch t n x y) (b : py_rch t n y z) : py_rch t n x z := by
  obtain ⟨j, rfl⟩ := a
  obtain ⟨k, rfl⟩ := b
  exact ⟨j + k, py_it_add t n j k x⟩
theorem py_rch.one {t : Nat → Nat} {n : Nat} {x : PS} (h : x.2.2.1 = 0) (h9 : x.1 ≠ 9) : py_rch t n x (py_at t n x.2.1 x) := by
  refine ⟨1, ?_⟩
  show py_step t n x = _
  unfold py_step
  rw [if_neg (fun z => z.elim (fun w => w h) h9)]
theorem py_it_stop {t : Nat → Nat} {n : Nat} {x : PS} (h : py_stop x) : ∀ k, py_it t n k x = x
  | 0 => rfl
  | k + 1 => by
    have : py_step t n x = x := by unfold py_step; exact if_pos h
    show py_it t n k (py_step t n x) = x
    rw [this]
    exact py_it_stop h k
/-- there is one end -/
theorem py_rch.uniq {t : Nat → Nat} {n : Nat} {x y z : PS} (a : py_rch t n x y) (b : py_rch t n x z) (hy : py_stop y) (hz : py_stop z) : y = z := by
  obtain ⟨j, rfl⟩ := a
  obtain ⟨k, rfl⟩ := b
  rcases Nat.le_total j k with h | h
  · obtain ⟨d, rfl⟩ := Nat.exists_eq_add_of_le h
    rw [py_it_add, py_it_stop hy]
  · obtain ⟨d, rfl⟩ := Nat.exists_eq_add_of_le h
    rw [py_it_add, py_it_stop hz]
/-- whatever is kept by every step that finds no fault is kept -/
theorem py_rch.inv {t : Nat → Nat} {n : Nat} {I : PS → Prop} (hI : ∀ x : PS, I x → x.2.2.1 = 0 → x.1 ≠ 9 → I (py_at t n x.2.1 x)) {x y : PS} (h : py_rch t n x y) (hx : I x) : I y := by
  obtain ⟨k, rfl⟩ := h
  induction k generalizing x with
  | zero => exact hx
  | succ k ih =>
    refine ih ?_
    unfold py_step
    by_cases h : x.2.2.1 ≠ 0 ∨ x.1 = 9
    · rw [if_pos h]; exact hx
    · rw [if_neg h]
      exact hI x hx (Classical.byContradiction fun z => h (Or.inl z)) (fun z => h (Or.inr z))
def py_x0 : PS := (0, 0, 0, 0, 0, 0, [], [], [], [])
