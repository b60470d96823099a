/-! 68b: closing a clause, a bracket -/
theorem py_closeI {n st k a e p fl pa de br : Nat} {D : List Cl} {A B : List Tk} {pl : List Nat} (hst : st = 2 ∨ ((st = 7 ∨ st = 8) ∧ br = 0)) (hpa : p ≤ a) (hae : a + 1 ≤ e) (hle : k ≠ 18 → e ≤ n) (hle1 : e ≤ n + 1) (h : py_I n st p pa de br D A B pl) : py_inv n (py_close k a e (st, p, fl, pa, de, br, D, A, B, pl)) := by
  have h' := h
  obtain ⟨⟨i1, i2⟩, ⟨N, i3, i4⟩, i5, i6, ⟨i7, i8⟩, i9⟩ := h
  have hbr := i5.2.2.1
  unfold py_close
  show py_inv n (if k ≠ 17 ∧ k ≠ 18 then _ else _)
  by_cases h1 : k ≠ 17 ∧ k ≠ 18
  · rw [if_pos h1]; exact py_failI
  rw [if_neg h1]
  have f1 : 3 * N ≤ e := by omega
  have hb1 : py_bh st = 1 := by rcases hst with rfl | ⟨rfl | rfl, hb⟩ <;> rfl
  have hs0 : ¬ (st = 0 ∨ st = 9) := by omega
  have hs2 : st ≠ 2 → 3 ≤ st ∧ st ≤ 8 := by omega
  have hs3 : st ≠ 2 → py_br pl = 0 := by omega
  have hs4 : st ≠ 2 → st = 7 ∨ st = 8 := by omega
  rw [if_neg hs0] at i8
  rw [hb1] at i4
  have hu : ∃ c, (st = 2 → py_okt false pl c ∧ B = [] ∧ c = false ∧ tyL A [] = some (c :: py_sty pl)) ∧ (st ≠ 2 → py_okt true pl c ∧ tyL B [] = some (c :: py_sty pl) ∧ tyL A [] = some [false]) := by
    obtain ⟨t0, t1, t2, t3, t4, t5, t6, t7, t8, t9⟩ := i6
    by_cases h2 : st = 2
    · exact ⟨false, fun _ => ⟨(t2 h2).2.1, (t2 h2).1, rfl, (t2 h2).2.2⟩, fun z => absurd h2 z⟩
    · rcases hs4 h2 with h7 | h8
      · exact ⟨false, fun z => absurd z h2, fun _ => ⟨(t8 h7).1, (t8 h7).2, t3 (hs2 h2)⟩⟩
      · exact ⟨true, fun z => absurd z h2, fun _ => ⟨(t9 h8).1, (t9 h8).2, t3 (hs2 h2)⟩⟩
  obtain ⟨c, u1, u2⟩ := hu
  clear i6
  have hd : py_dw 1 pl = [] := by
    apply py_dw1
    by_cases h2 : st = 2
    · obtain ⟨v1, v2, v3, v4⟩ := u1 h2
      rw [v3] at v1
      exact py_okt_br v1
    · exact hs3 h2
  have hva : ∀ x, x ∈ pl → 2 ≤ x ∧ x ≤ 13 := by
    by_cases h2 : st = 2
    · exact py_okt_va (u1 h2).1
    · exact py_okt_va (u2 h2).1
  obtain ⟨c1, c2, c3, c4, c5, c6⟩ := py_setc (r := 1) (Nat.le_refl _) hva h'
  have hw : cl_w (if st = 2 then (A ++ py_tk (py_tw 1 pl), B) else (A, B ++ py_tk (py_tw 1 pl))) ∧ ent (D ++ [if st = 2 then (A ++ py_tk (py_tw 1 pl), B) else (A, B ++ py_tk (py_tw 1 pl))]) = ent D ++ A ++ B ++ py_tk (py_tw 1 pl) := by
    rw [ent_app]
    by_cases h2 : st = 2
    · rw [if_pos h2]
      obtain ⟨v1, rfl, rfl, v4⟩ := u1 h2
      obtain ⟨c', a1, a2, -⟩ := py_set (r := 1) (Nat.le_refl _) pl false A v1 v4
      rw [hd] at a1 a2
      obtain rfl : c' = false := a1
      exact ⟨⟨a2, Or.inl rfl⟩, by simp⟩
    · rw [if_neg h2]
      obtain ⟨v1, v2, v3⟩ := u2 h2
      obtain ⟨c', a1, a2, -⟩ := py_set (r := 1) (Nat.le_refl _) pl c B v1 v2
      rw [hd] at a1 a2
      obtain rfl : c' = true := a1
      exact ⟨⟨v3, Or.inr a2⟩, by simp⟩
  rw [hd] at c2 c3 c5
  have hst' : (if k = 18 then 9 else 0) = 9 ∨ (if k = 18 then 9 else 0) = 0 := by
    by_cases h18 : k = 18
    · rw [if_pos h18]; exact Or.inl rfl
    · rw [if_neg h18]; exact Or.inr rfl
  have hlast : (if k = 18 then 9 else 0) ≠ 9 → e ≤ n := fun z => hle (fun w => z (if_pos w))
  have f4 : (ent D ++ A ++ B ++ py_tk (py_tw 1 pl)).length + py_op [] + 0 ≤ 2 * pcL (ent D ++ A ++ B) + N := by
    have : py_op [] = 0 := rfl
    omega
  refine py_inv_i ?_
  rw [hd]
  clear u1 u2 hle hst hs0 hs2 hs3 hs4 h1
  generalize (if k = 18 then 9 else 0) = st' at hst' hlast ⊢
  have hb2 : py_bh st' = 0 := by rcases hst' with rfl | rfl <;> rfl
  refine py_I.mk0 ⟨i1, ?_⟩ ⟨N, f1, ?_⟩ ⟨c3, by rw [c3]; decide, c5, trivial⟩ ?_ ⟨?_, ?_⟩ ⟨hle1, hlast, ?_⟩
  · rw [hw.2, List.append_nil, List.append_nil, c1]; exact i2
  · rw [hw.2, List.append_nil, List.append_nil, c1, hb2]; exact f4
  · rcases hst' with rfl | rfl <;> exact ⟨fun _ => ⟨rfl, rfl, rfl⟩, fun z => absurd z (by decide), fun z => absurd z (by decide), fun z => absurd z (by decide), fun z => absurd z (by decide), fun z => absurd z (by decide), fun z => absurd z (by decide), fun z => absurd z (by decide), fun z => absurd z (by decide), fun z => absurd z (by decide)⟩
  · intro c hc
    rcases List.mem_append.mp hc with hc | hc
    · exact i7 c hc
    · rw [List.mem_singleton.mp hc]; exact hw.1
  · rw [List.length_append]
    rcases hst' with rfl | rfl <;> exact i8
  · rcases hst' with rfl | rfl <;> decide
theorem py_factI {n st k a e p fl pa de br : Nat} {D : List Cl} {A B : List Tk} {pl : List Nat} (hst : st = 7 ∨ st = 8) (hpa : p ≤ a) (hae : a + 1 ≤ e) (hle : k ≠ 18 → e ≤ n) (hle1 : e ≤ n + 1) (h : py_I n st p pa de br D A B pl) : py_inv n (py_fact k a e (st, p, fl, pa, de, br, D, A, B, pl)) := by
  unfold py_fact
  show py_inv n (if k = 10 ∨ k = 11 then _ else _)
  by_cases h1 : k = 10 ∨ k = 11
  · rw [if_pos h1]
    exact py_joinI (Or.inr (Or.inr ⟨h1, hst, rfl⟩)) hpa hae (hle (by omega)) h
  rw [if_neg h1]
  by_cases h2 : br = 0
  · rw [if_pos h2]
    exact py_closeI (Or.inr ⟨hst, h2⟩) hpa hae hle hle1 h
  rw [if_neg h2]
  by_cases h3 : k = 16
  · rw [if_pos h3]
    have h' := h
    obtain ⟨⟨i1, i2⟩, ⟨N, i3, i4⟩, ⟨i5, i5b, i5c, i5d⟩, i6, ⟨i7, i8⟩, i9⟩ := h
    have hs3 : 3 ≤ st ∧ st ≤ 8 := by omega
    have hb1 : py_bh st = 1 := by rcases hst with rfl | rfl <;> rfl
    have hs0 : ¬ (st = 0 ∨ st = 9) := by omega
    have f1 : 3 * N ≤ e := by omega
    have f2 : e ≤ n := hle (by omega)
    rw [if_neg hs0] at i8
    rw [hb1] at i4
    have hu : ∃ c, py_okt true pl c ∧ tyL B [] = some (c :: py_sty pl) ∧ tyL A [] = some [false] := by
      obtain ⟨t0, t1, t2, t3, t4, t5, t6, t7, t8, t9⟩ := i6
      rcases hst with h7 | h8
      · exact ⟨false, (t8 h7).1, (t8 h7).2, t3 hs3⟩
      · exact ⟨true, (t9 h8).1, (t9 h8).2, t3 hs3⟩
    obtain ⟨c, u1, u2, u3⟩ := hu
    clear i6
    obtain ⟨c', a1, a2, -⟩ := py_set (r := 1) (Nat.le_refl _) pl c B u1 u2
    obtain ⟨c1, c2, c3, c4, c5, c6⟩ := py_setc (r := 1) (Nat.le_refl _) (py_okt_va u1) h'
    obtain ⟨m, hm⟩ := py_dw1b pl (by omega)
    rw [hm] at a1 a2 c2 c3 c4 c5 c6
    have a1' : (9 ≤ 12 ∧ 12 ≤ 12) ∧ c' = true ∧ py_okt true m true := a1
    obtain ⟨-, rfl, a3⟩ := a1'
    have e1 : py_dp (12 :: m) = py_dp m + 1 := by unfold py_dp; rw [List.countP_cons]; rfl
    have e2 : py_br (12 :: m) = py_br m + 1 := by unfold py_br; rw [List.countP_cons]; rfl
    have e3 : py_op (12 :: m) = py_op m := by unfold py_op; rw [List.countP_cons]; rfl
    have f4 : (ent D ++ A ++ B ++ py_tk (py_tw 1 pl)).length + py_op m + 1 ≤ 2 * pcL (ent D ++ A ++ B) + N := by omega
    have g1 : de - py_nt (py_tw 1 pl) - 1 = py_dp m := by omega
    have g2 : de - py_nt (py_tw 1 pl) - 1 ≤ 10 := by omega
    have g3 : br - 1 = py_br m := by omega
    refine py_inv_i ?_
    rw [hm]
    have hA : ent D ++ A ++ (B ++ py_tk (py_tw 1 pl)) = ent D ++ A ++ B ++ py_tk (py_tw 1 pl) := by simp
    refine py_I.mk0 ⟨i1, ?_⟩ ⟨N, f1, ?_⟩ ⟨g1, g2, g3, c6.2⟩ ?_ ⟨i7, i8⟩ ⟨hle1, fun _ => f2, by decide⟩
    · rw [hA, c1]; exact i2
    · rw [hA, c1]; exact f4
    · exact ⟨fun z => absurd z (by decide), fun z => absurd z (by decide), fun z => absurd z (by decide), fun _ => u3, fun z => absurd z (by decide), fun z => absurd z (by decide), fun z => absurd z (by decide), fun z => absurd z (by decide), fun z => absurd z (by decide), fun _ => ⟨a3, a2⟩⟩
  · rw [if_neg h3]; exact py_failI
