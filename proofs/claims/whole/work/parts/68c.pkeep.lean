/-! 68c: the step -/
theorem py_ar_i {k : Nat} (h : k = 2 ∨ k = 3 ∨ k = 13) : ar k = true := decide_eq_true h
theorem py_step1I {n k v a e : Nat} (hv0 : k = 0 → v ≤ 99999) (hv1 : k = 1 → v < 10) (hae : a + 1 ≤ e) (hle : k ≠ 18 → e ≤ n) (hle1 : e ≤ n + 1) (hno : k = 9 → a + 3 ≤ e) {x : PS} (hpa : x.2.1 ≤ a) (h : py_inv n x) (h0 : x.2.2.1 = 0) (h9 : x.1 ≠ 9) : py_inv n (py_step1 k v a e x) := by
  obtain ⟨st, p, fl, pa, de, br, D, A, B, pl⟩ := x
  have hI : py_I n st p pa de br D A B pl := h h0
  have h8 : st ≤ 9 := hI.2.2.2.2.2.2.2
  have hpa' : p ≤ a := hpa
  have h9' : st ≠ 9 := h9
  have : st = 0 ∨ st = 1 ∨ st = 2 ∨ st = 3 ∨ st = 4 ∨ st = 5 ∨ st = 6 ∨ st = 7 ∨ st = 8 := by clear hno hle; omega
  rcases this with rfl | rfl | rfl | rfl | rfl | rfl | rfl | rfl | rfl
  · show py_inv n (if k ≠ 14 then _ else _)
    by_cases h1 : k ≠ 14
    · rw [if_pos h1]; exact py_failI
    rw [if_neg h1]
    by_cases h2 : D.length = 12
    · rw [if_pos h2]; exact py_failI
    rw [if_neg h2]
    obtain ⟨i1, ⟨N, i3, i4⟩, i5, i6, ⟨i7, i8⟩, i9⟩ := hI
    obtain ⟨rfl, rfl, rfl⟩ := i6.1 (Or.inl rfl)
    have i8' : D.length + 0 ≤ 12 := i8
    refine py_inv_i ?_
    exact py_I.mk0 i1 ⟨N, by omega, i4⟩ i5 ⟨fun z => absurd z (by decide), fun _ => ⟨rfl, rfl, rfl⟩, fun z => absurd z (by decide), fun z => absurd z (by decide), fun z => absurd z (by decide), fun z => absurd z (by decide), fun z => absurd z (by decide), fun z => absurd z (by decide), fun z => absurd z (by decide), fun z => absurd z (by decide)⟩ ⟨i7, by show D.length + 1 ≤ 12; omega⟩ ⟨hle1, fun _ => hle (by omega), by decide⟩
  · exact py_putI (Or.inl ⟨rfl, rfl⟩) hv0 hv1 hpa' hae hle hI
  · show py_inv n (if k = 2 ∨ k = 3 ∨ k = 13 then _ else _)
    by_cases h1 : k = 2 ∨ k = 3 ∨ k = 13
    · rw [if_pos h1]
      exact py_joinI (Or.inl ⟨py_ar_i h1, Or.inl ⟨rfl, rfl⟩⟩) hpa' hae (hle (by omega)) hI
    rw [if_neg h1]
    by_cases h2 : k = 15
    · rw [if_pos h2]
      have h' := hI
      obtain ⟨⟨i1, i2⟩, ⟨N, i3, i4⟩, i5, i6, ⟨i7, i8⟩, i9⟩ := hI
      obtain ⟨rfl, u2, u3⟩ := i6.2.2.1 rfl
      obtain ⟨c', a1, a2, -⟩ := py_set (r := 1) (Nat.le_refl _) pl false A u2 u3
      obtain ⟨c1, c2, c3, c4, c5, c6⟩ := py_setc (r := 1) (Nat.le_refl _) (py_okt_va u2) h'
      have hd := py_dw1 pl (py_okt_br u2)
      rw [hd] at a1 a2 c2 c3 c5
      obtain rfl : c' = false := a1
      have i4' : (ent D ++ A ++ []).length + py_op pl + 1 ≤ 2 * pcL (ent D ++ A ++ []) + N := i4
      rw [List.append_nil] at c1 c2 i2 i4'
      have hA : ent D ++ (A ++ py_tk (py_tw 1 pl)) ++ [] = ent D ++ A ++ py_tk (py_tw 1 pl) := by simp
      refine py_inv_i ?_
      rw [hd]
      refine py_I.mk0 ⟨i1, by rw [hA, c1]; exact i2⟩ ⟨N, by omega, ?_⟩ ⟨c3, by rw [c3]; decide, c5, trivial⟩ ⟨fun z => absurd z (by decide), fun z => absurd z (by decide), fun z => absurd z (by decide), fun _ => a2, fun _ => ⟨rfl, rfl⟩, fun z => absurd z (by decide), fun z => absurd z (by decide), fun z => absurd z (by decide), fun z => absurd z (by decide), fun z => absurd z (by decide)⟩ ⟨i7, i8⟩ ⟨hle1, fun _ => hle (by omega), by decide⟩
      rw [hA, c1]
      show _ + _ + 0 ≤ _
      omega
    · rw [if_neg h2]
      exact py_closeI (Or.inl rfl) hpa' hae hle hle1 hI
  · show py_inv n (if k ≠ 9 ∧ k ≠ 12 then _ else _)
    by_cases h1 : k ≠ 9 ∧ k ≠ 12
    · rw [if_pos h1]
      exact py_putI (Or.inr (Or.inl ⟨rfl, rfl⟩)) hv0 hv1 hpa' hae hle hI
    rw [if_neg h1]
    by_cases h2 : de = 10
    · rw [if_pos h2]; exact py_failI
    rw [if_neg h2]
    obtain ⟨i1, ⟨N, i3, i4⟩, ⟨i5, i5b, i5c, i5d⟩, i6, ⟨i7, i8⟩, i9⟩ := hI
    obtain ⟨t0, t1, t2, t3, t4, t5, t6, t7, t8, t9⟩ := i6
    obtain ⟨u1, u2⟩ := t4 rfl
    have hlo : py_lo 4 pl := by
      cases pl with
      | nil => trivial
      | cons y l =>
        show py_rk y < 4
        rw [py_okt] at u1
        by_cases z1 : ar y = true
        · rw [if_pos z1] at u1; cases u1.1
        · rw [if_neg z1] at u1
          by_cases z2 : cm y = true
          · rw [if_pos z2] at u1; cases u1.1
          · rw [if_neg z2] at u1; have := py_rk_lo u1.1; omega
    have i4' : (ent D ++ A ++ B).length + py_op pl + 0 ≤ 2 * pcL (ent D ++ A ++ B) + N := i4
    refine py_inv_i ?_
    have hk : k = 9 ∨ k = 12 := by omega
    rcases hk with rfl | rfl
    · have e1 : py_dp (9 :: pl) = py_dp pl + 1 := by unfold py_dp; rw [List.countP_cons]; rfl
      have e2 : py_br (9 :: pl) = py_br pl := py_br_cons (by decide)
      have e3 : py_op (9 :: pl) = py_op pl + 1 := py_op_cons (by decide)
      have e4 := hno rfl
      refine py_I.mk0 i1 ⟨N + 1, ?_, ?_⟩ ⟨?_, ?_, ?_, ?_, i5d⟩ ⟨fun z => absurd z (by decide), fun z => absurd z (by decide), fun z => absurd z (by decide), fun _ => t3 (by decide), fun _ => ⟨⟨by decide, rfl, u1⟩, u2⟩, fun z => absurd z (by decide), fun z => absurd z (by decide), fun z => absurd z (by decide), fun z => absurd z (by decide), fun z => absurd z (by decide)⟩ ⟨i7, i8⟩ ⟨hle1, fun _ => hle (by decide), by decide⟩
      · show 3 * (N + 1) ≤ e
        omega
      · show _ + py_op (9 :: pl) + 0 ≤ _
        rw [e3]; omega
      · show de + 1 = py_dp (9 :: pl)
        omega
      · show de + 1 ≤ 10
        omega
      · show br = py_br (9 :: pl)
        omega
      · exact hlo
    · have e1 : py_dp (12 :: pl) = py_dp pl + 1 := by unfold py_dp; rw [List.countP_cons]; rfl
      have e2 : py_br (12 :: pl) = py_br pl + 1 := by unfold py_br; rw [List.countP_cons]; rfl
      have e3 : py_op (12 :: pl) = py_op pl := by unfold py_op; rw [List.countP_cons]; rfl
      refine py_I.mk0 i1 ⟨N, ?_, ?_⟩ ⟨?_, ?_, ?_, ?_, i5d⟩ ⟨fun z => absurd z (by decide), fun z => absurd z (by decide), fun z => absurd z (by decide), fun _ => t3 (by decide), fun _ => ⟨⟨by decide, rfl, u1⟩, u2⟩, fun z => absurd z (by decide), fun z => absurd z (by decide), fun z => absurd z (by decide), fun z => absurd z (by decide), fun z => absurd z (by decide)⟩ ⟨i7, i8⟩ ⟨hle1, fun _ => hle (by decide), by decide⟩
      · show 3 * N ≤ e
        omega
      · show _ + py_op (12 :: pl) + 0 ≤ _
        rw [e3]; omega
      · show de + 1 = py_dp (12 :: pl)
        omega
      · show de + 1 ≤ 10
        omega
      · show br + 1 = py_br (12 :: pl)
        omega
      · exact hlo
  · exact py_putI (Or.inr (Or.inr (Or.inl ⟨rfl, rfl⟩))) hv0 hv1 hpa' hae hle hI
  · show py_inv n (if k = 2 ∨ k = 3 ∨ k = 13 then _ else _)
    by_cases h1 : k = 2 ∨ k = 3 ∨ k = 13
    · rw [if_pos h1]
      exact py_joinI (Or.inl ⟨py_ar_i h1, Or.inr (Or.inl ⟨rfl, rfl⟩)⟩) hpa' hae (hle (by omega)) hI
    rw [if_neg h1]
    by_cases h2 : ¬ (4 ≤ k ∧ k ≤ 8)
    · rw [if_pos h2]; exact py_failI
    rw [if_neg h2]
    by_cases h3 : pa = 60
    · rw [if_pos h3]; exact py_failI
    rw [if_neg h3]
    have h4 : 4 ≤ k ∧ k ≤ 8 := Classical.byContradiction h2
    refine py_joinI (Or.inr (Or.inl ⟨decide_eq_true h4, rfl, rfl⟩)) hpa' hae (hle (by omega)) ?_
    obtain ⟨⟨i1, i2⟩, i3⟩ := hI
    exact ⟨⟨by omega, by omega⟩, i3⟩
  · exact py_putI (Or.inr (Or.inr (Or.inr ⟨rfl, rfl⟩))) hv0 hv1 hpa' hae hle hI
  · show py_inv n (if k = 2 ∨ k = 3 ∨ k = 13 then _ else _)
    by_cases h1 : k = 2 ∨ k = 3 ∨ k = 13
    · rw [if_pos h1]
      exact py_joinI (Or.inl ⟨py_ar_i h1, Or.inr (Or.inr ⟨rfl, rfl⟩)⟩) hpa' hae (hle (by omega)) hI
    rw [if_neg h1]
    exact py_factI (Or.inl rfl) hpa' hae hle hle1 hI
  · exact py_factI (Or.inr rfl) hpa' hae hle hle1 hI
theorem tx_wk_1 {j : Nat} (h : tx_wk j = 1) : 5 ≤ j ∧ j < 15 := by
  unfold tx_wk at h
  revert h
  repeat' split
  all_goals intro h
  all_goals first | omega | cases h
theorem tx_wk_9 {j : Nat} (h : tx_wk j = 9) : j = 4 := by
  unfold tx_wk at h
  revert h
  repeat' split
  all_goals intro h
  all_goals first | omega | cases h
theorem tx_sk_no {c d k : Nat} (h : tx_sk c d = k) : k ≠ 0 ∧ k ≠ 1 ∧ k ≠ 9 ∧ k ≠ 10 ∧ k ≠ 11 ∧ k ≠ 14 ∧ k ≠ 15 ∧ k ≠ 18 := by
  subst h
  unfold tx_sk
  repeat' split
  all_goals decide
theorem tx_wk_no {j k : Nat} (h : tx_wk j = k) : k ≠ 0 ∧ k ≠ 18 := by
  subst h
  unfold tx_wk
  repeat' split
  all_goals decide
/-- of every token -/
theorem tx_tok {t : Nat → Nat} {n p : Nat} (hp : p ≤ n) : (tx_k t n (tx_fr t n p) = 0 → tx_v t n (tx_fr t n p) ≤ 99999) ∧ (tx_k t n (tx_fr t n p) = 1 → tx_v t n (tx_fr t n p) < 10) ∧ (tx_k t n (tx_fr t n p) ≠ 18 → tx_e t n (tx_fr t n p) ≤ n) ∧ tx_e t n (tx_fr t n p) ≤ n + 1 ∧ (tx_k t n (tx_fr t n p) = 9 → tx_fr t n p + 3 ≤ tx_e t n (tx_fr t n p)) := by
  have ha := tx_fr_le (t := t) hp
  generalize tx_fr t n p = a at ha ⊢
  by_cases hn : n ≤ a
  · have e1 : tx_k t n a = 18 := by unfold tx_k; rw [if_pos hn]
    have e2 : tx_e t n a = a + 1 := by unfold tx_e; rw [if_pos hn]
    rw [e1, e2]
    exact ⟨fun z => absurd z (by decide), fun z => absurd z (by decide), fun z => absurd rfl z, by omega, fun z => absurd z (by decide)⟩
  · have hle := tx_e_le (t := t) (n := n) (a := a) (by omega)
    refine ⟨fun h => ?_, fun h => ?_, fun _ => hle, by omega, fun h => ?_⟩
    · unfold tx_k at h
      rw [if_neg hn] at h
      by_cases hd : tx_dg t a = true
      · unfold tx_v
        rw [if_pos hd]
        obtain ⟨g1, -, -, g4, -⟩ := tx_ge (P := tx_dg t) (n := n) _ (a + 1) rfl
        refine (tx_nv_b _ (fun i hi => ?_)).1
        by_cases hi0 : i = 0
        · subst hi0; exact hd
        · exact g4 (a + i) (by omega) (by omega)
      · rw [if_neg hd] at h
        by_cases hl : tx_lt t a = true
        · rw [if_pos hl] at h; exact absurd rfl (tx_wk_no h).1
        · rw [if_neg hl] at h; exact absurd rfl (tx_sk_no h).1
    · unfold tx_k at h
      rw [if_neg hn] at h
      by_cases hd : tx_dg t a = true
      · rw [if_pos hd] at h; cases h
      · rw [if_neg hd] at h
        unfold tx_v
        rw [if_neg hd]
        by_cases hl : tx_lt t a = true
        · rw [if_pos hl] at h; have := tx_wk_1 h; omega
        · rw [if_neg hl] at h; exact absurd rfl (tx_sk_no h).2.1
    · unfold tx_k at h
      rw [if_neg hn] at h
      by_cases hd : tx_dg t a = true
      · rw [if_pos hd] at h; cases h
      · rw [if_neg hd] at h
        unfold tx_e
        rw [if_neg hn, if_neg hd]
        by_cases hl : tx_lt t a = true
        · rw [if_pos hl] at h ⊢
          have h4 := ((tx_spell (j := 4) (by decide)).mp (tx_wk_9 h)).1
          have : ai_sl.getD 4 0 = 3 := rfl
          omega
        · rw [if_neg hl] at h; exact absurd rfl (tx_sk_no h).2.2.1
theorem py_inv_at {t : Nat → Nat} {n : Nat} {x : PS} (h : py_inv n x) (h0 : x.2.2.1 = 0) (h9 : x.1 ≠ 9) : py_inv n (py_at t n x.2.1 x) := by
  have hp : x.2.1 ≤ n := (h h0).2.2.2.2.2.2.1 h9
  obtain ⟨a1, a2, a3, a4, a5⟩ := tx_tok (t := t) hp
  exact py_step1I a1 a2 tx_e_gt a3 a4 a5 tx_fr_ge h h0 h9
theorem py_inv_rch {t : Nat → Nat} {n : Nat} {x y : PS} (h : py_rch t n x y) (hx : py_inv n x) : py_inv n y := h.inv (fun _ a b c => py_inv_at a b c) hx
theorem py_inv_0 (n : Nat) : py_inv n py_x0 := by
  refine py_inv_i ?_
  exact py_I.mk0 ⟨by decide, by decide⟩ ⟨0, by decide, by decide⟩ ⟨rfl, by decide, rfl, trivial⟩ ⟨fun _ => ⟨rfl, rfl, rfl⟩, fun z => absurd z (by decide), fun z => absurd z (by decide), fun z => absurd z (by decide), fun z => absurd z (by decide), fun z => absurd z (by decide), fun z => absurd z (by decide), fun z => absurd z (by decide), fun z => absurd z (by decide), fun z => absurd z (by decide)⟩ ⟨(fun c hc => by cases hc), by decide⟩ ⟨Nat.zero_le _, fun _ => Nat.zero_le _, by decide⟩
/-- the pile has room, the entries have room -/
theorem py_room {n st p pa de br : Nat} {D : List Cl} {A B : List Tk} {pl : List Nat} (hn : n ≤ 400) (h : py_I n st p pa de br D A B pl) : pl.length ≤ 35 ∧ (ent D ++ A ++ B).length + py_op pl + py_bh st ≤ 253 ∧ D.length ≤ 12 := by
  obtain ⟨⟨i1, i2⟩, ⟨N, i3, i4⟩, ⟨i5, i5b, i5c, i5d⟩, -, ⟨-, i8⟩, i9⟩ := h
  have := py_len pl i5d
  refine ⟨by omega, by omega, ?_⟩
  revert i8
  split
  · intro z; omega
  · intro z; omega
