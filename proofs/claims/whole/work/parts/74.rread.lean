/-! 74: the class's read, lawRead (walks laid by wip/whole/p74.py) -/
theorem py_fail_z {c a : Nat} {x : PS} (h : (py_fail c a x).2.2.1 = 0) : False := by
  obtain ⟨st, p, fl, pa, de, br, D, A, B, pl⟩ := x
  have : 1 + 8 * a + c = 0 := h
  omega
theorem py_put_p {s k v a e : Nat} {x : PS} (h : (py_put s k v a e x).2.2.1 = 0) : (py_put s k v a e x).2.1 = e := by
  obtain ⟨st, p, fl, pa, de, br, D, A, B, pl⟩ := x
  unfold py_put at h ⊢
  revert h
  show (if k ≠ 0 ∧ k ≠ 1 then _ else _ : PS).2.2.1 = 0 → (if k ≠ 0 ∧ k ≠ 1 then _ else _ : PS).2.1 = e
  repeat' split
  all_goals intro h
  all_goals first | rfl | exact (py_fail_z h).elim
theorem py_join_p {s k e : Nat} {x : PS} : (py_join s k e x).2.1 = e := by
  obtain ⟨st, p, fl, pa, de, br, D, A, B, pl⟩ := x
  unfold py_join
  show (if s = 1 then _ else _ : PS).2.1 = e
  split <;> rfl
theorem py_close_p {k a e : Nat} {x : PS} (h : (py_close k a e x).2.2.1 = 0) : (py_close k a e x).2.1 = e := by
  obtain ⟨st, p, fl, pa, de, br, D, A, B, pl⟩ := x
  unfold py_close at h ⊢
  revert h
  show (if k ≠ 17 ∧ k ≠ 18 then _ else _ : PS).2.2.1 = 0 → (if k ≠ 17 ∧ k ≠ 18 then _ else _ : PS).2.1 = e
  by_cases c : k ≠ 17 ∧ k ≠ 18
  · rw [if_pos c]; intro h; exact (py_fail_z h).elim
  · rw [if_neg c]; intro _; rfl
theorem py_fact_p {k a e : Nat} {x : PS} (h : (py_fact k a e x).2.2.1 = 0) : (py_fact k a e x).2.1 = e := by
  obtain ⟨st, p, fl, pa, de, br, D, A, B, pl⟩ := x
  unfold py_fact at h ⊢
  revert h
  show (if k = 10 ∨ k = 11 then _ else _ : PS).2.2.1 = 0 → (if k = 10 ∨ k = 11 then _ else _ : PS).2.1 = e
  by_cases c : k = 10 ∨ k = 11
  · rw [if_pos c]; intro _; exact py_join_p
  rw [if_neg c]
  by_cases c2 : br = 0
  · rw [if_pos c2]; exact py_close_p
  rw [if_neg c2]
  by_cases c3 : k = 16
  · rw [if_pos c3]; intro _; rfl
  · rw [if_neg c3]; intro h; exact (py_fail_z h).elim
theorem py_step_p {k v a e : Nat} {x : PS} (h8 : x.1 ≤ 8) (h : (py_step1 k v a e x).2.2.1 = 0) : (py_step1 k v a e x).2.1 = e := by
  obtain ⟨st, p, fl, pa, de, br, D, A, B, pl⟩ := x
  have h8' : st ≤ 8 := h8
  have : st = 0 ∨ st = 1 ∨ st = 2 ∨ st = 3 ∨ st = 4 ∨ st = 5 ∨ st = 6 ∨ st = 7 ∨ st = 8 := by omega
  rcases this with rfl | rfl | rfl | rfl | rfl | rfl | rfl | rfl | rfl
  · revert h
    show (if k ≠ 14 then _ else _ : PS).2.2.1 = 0 → (if k ≠ 14 then _ else _ : PS).2.1 = e
    by_cases c : k ≠ 14
    · rw [if_pos c]; intro h; exact (py_fail_z h).elim
    rw [if_neg c]
    by_cases c2 : D.length = 12
    · rw [if_pos c2]; intro h; exact (py_fail_z h).elim
    rw [if_neg c2]; intro _; rfl
  · exact py_put_p h
  · revert h
    show (if k = 2 ∨ k = 3 ∨ k = 13 then _ else _ : PS).2.2.1 = 0 → (if k = 2 ∨ k = 3 ∨ k = 13 then _ else _ : PS).2.1 = e
    by_cases c : k = 2 ∨ k = 3 ∨ k = 13
    · rw [if_pos c]; intro _; exact py_join_p
    rw [if_neg c]
    by_cases c2 : k = 15
    · rw [if_pos c2]; intro _; rfl
    rw [if_neg c2]; exact py_close_p
  · revert h
    show (if k ≠ 9 ∧ k ≠ 12 then _ else _ : PS).2.2.1 = 0 → (if k ≠ 9 ∧ k ≠ 12 then _ else _ : PS).2.1 = e
    by_cases c : k ≠ 9 ∧ k ≠ 12
    · rw [if_pos c]; exact py_put_p
    rw [if_neg c]
    by_cases c2 : de = 10
    · rw [if_pos c2]; intro h; exact (py_fail_z h).elim
    rw [if_neg c2]; intro _; rfl
  · exact py_put_p h
  · revert h
    show (if k = 2 ∨ k = 3 ∨ k = 13 then _ else _ : PS).2.2.1 = 0 → (if k = 2 ∨ k = 3 ∨ k = 13 then _ else _ : PS).2.1 = e
    by_cases c : k = 2 ∨ k = 3 ∨ k = 13
    · rw [if_pos c]; intro _; exact py_join_p
    rw [if_neg c]
    by_cases c2 : ¬ (4 ≤ k ∧ k ≤ 8)
    · rw [if_pos c2]; intro h; exact (py_fail_z h).elim
    rw [if_neg c2]
    by_cases c3 : pa = 60
    · rw [if_pos c3]; intro h; exact (py_fail_z h).elim
    rw [if_neg c3]; intro _; exact py_join_p
  · exact py_put_p h
  · revert h
    show (if k = 2 ∨ k = 3 ∨ k = 13 then _ else _ : PS).2.2.1 = 0 → (if k = 2 ∨ k = 3 ∨ k = 13 then _ else _ : PS).2.1 = e
    by_cases c : k = 2 ∨ k = 3 ∨ k = 13
    · rw [if_pos c]; intro _; exact py_join_p
    rw [if_neg c]; exact py_fact_p
  · exact py_fact_p h
theorem rd_x_b {S : Md} {x : PS} (h : rd_x S x) (h0 : x.2.2.1 = 0) : rd_m S x.1 x.2.2.2.1 x.2.2.2.2.1 x.2.2.2.2.2.1 x.2.2.2.2.2.2.1 x.2.2.2.2.2.2.2.1 x.2.2.2.2.2.2.2.2.1 x.2.2.2.2.2.2.2.2.2 := (h.2 h0).2
def py_fb (x : PS) : Prop := x.2.2.1 ≤ 5000
theorem bi_mm {n : Nat} (h : n ≤ 400) : bi_maxI 0 (bi_minI (nI n) 400) = nI n := by
  unfold bi_maxI bi_minI
  by_cases c : (400 : Int32) < nI n
  · exact absurd (tx_gt1 (b := 400) (by omega) (by decide) rfl c) (by omega)
  · rw [if_neg c]
    by_cases c2 : (0 : Int32) < nI n
    · rw [if_pos c2]
    · rw [if_neg c2]
      have : n = 0 := by have := tx_gt2 (b := 0) (by omega) (by decide) rfl c2; omega
      rw [this]; rfl
/-- a fault is a small number -/
theorem py_fail_b {c a : Nat} {x : PS} (ha : a ≤ 401) (hc : c ≤ 9) : py_fb (py_fail c a x) := by
  obtain ⟨st, p, fl, pa, de, br, D, A, B, pl⟩ := x
  show 1 + 8 * a + c ≤ 5000
  omega
theorem py_put_b {s k v a e : Nat} {x : PS} (ha : a ≤ 401) : py_fb (py_put s k v a e x) := by
  obtain ⟨st, p, fl, pa, de, br, D, A, B, pl⟩ := x
  unfold py_put
  show py_fb (if k ≠ 0 ∧ k ≠ 1 then _ else _)
  repeat' split
  all_goals first | exact py_fail_b ha (by decide) | exact Nat.zero_le _
theorem py_join_b {s k e : Nat} {x : PS} : py_fb (py_join s k e x) := by
  obtain ⟨st, p, fl, pa, de, br, D, A, B, pl⟩ := x
  unfold py_join
  show py_fb (if s = 1 then _ else _)
  split <;> exact Nat.zero_le _
theorem py_close_b {k a e : Nat} {x : PS} (ha : a ≤ 401) : py_fb (py_close k a e x) := by
  obtain ⟨st, p, fl, pa, de, br, D, A, B, pl⟩ := x
  unfold py_close
  show py_fb (if k ≠ 17 ∧ k ≠ 18 then _ else _)
  by_cases c : k ≠ 17 ∧ k ≠ 18
  · rw [if_pos c]; exact py_fail_b ha (by decide)
  · rw [if_neg c]; exact Nat.zero_le _
theorem py_fact_b {k a e : Nat} {x : PS} (ha : a ≤ 401) : py_fb (py_fact k a e x) := by
  obtain ⟨st, p, fl, pa, de, br, D, A, B, pl⟩ := x
  unfold py_fact
  show py_fb (if k = 10 ∨ k = 11 then _ else _)
  by_cases c : k = 10 ∨ k = 11
  · rw [if_pos c]; exact py_join_b
  rw [if_neg c]
  by_cases c2 : br = 0
  · rw [if_pos c2]; exact py_close_b ha
  rw [if_neg c2]
  by_cases c3 : k = 16
  · rw [if_pos c3]; exact Nat.zero_le _
  · rw [if_neg c3]; exact py_fail_b ha (by decide)
theorem py_step_b {k v a e : Nat} {x : PS} (ha : a ≤ 401) (h8 : x.1 ≤ 8) : py_fb (py_step1 k v a e x) := by
  obtain ⟨st, p, fl, pa, de, br, D, A, B, pl⟩ := x
  have h8' : st ≤ 8 := h8
  have : st = 0 ∨ st = 1 ∨ st = 2 ∨ st = 3 ∨ st = 4 ∨ st = 5 ∨ st = 6 ∨ st = 7 ∨ st = 8 := by omega
  rcases this with rfl | rfl | rfl | rfl | rfl | rfl | rfl | rfl | rfl
  · show py_fb (if k ≠ 14 then _ else _)
    by_cases c : k ≠ 14
    · rw [if_pos c]; exact py_fail_b ha (by decide)
    rw [if_neg c]
    by_cases c2 : D.length = 12
    · rw [if_pos c2]; exact py_fail_b ha (by decide)
    rw [if_neg c2]; exact Nat.zero_le _
  · exact py_put_b ha
  · show py_fb (if k = 2 ∨ k = 3 ∨ k = 13 then _ else _)
    by_cases c : k = 2 ∨ k = 3 ∨ k = 13
    · rw [if_pos c]; exact py_join_b
    rw [if_neg c]
    by_cases c2 : k = 15
    · rw [if_pos c2]; exact Nat.zero_le _
    rw [if_neg c2]; exact py_close_b ha
  · show py_fb (if k ≠ 9 ∧ k ≠ 12 then _ else _)
    by_cases c : k ≠ 9 ∧ k ≠ 12
    · rw [if_pos c]; exact py_put_b ha
    rw [if_neg c]
    by_cases c2 : de = 10
    · rw [if_pos c2]; exact py_fail_b ha (by decide)
    rw [if_neg c2]; exact Nat.zero_le _
  · exact py_put_b ha
  · show py_fb (if k = 2 ∨ k = 3 ∨ k = 13 then _ else _)
    by_cases c : k = 2 ∨ k = 3 ∨ k = 13
    · rw [if_pos c]; exact py_join_b
    rw [if_neg c]
    by_cases c2 : ¬ (4 ≤ k ∧ k ≤ 8)
    · rw [if_pos c2]; exact py_fail_b ha (by decide)
    rw [if_neg c2]
    by_cases c3 : pa = 60
    · rw [if_pos c3]; exact py_fail_b ha (by decide)
    rw [if_neg c3]; exact py_join_b
  · exact py_put_b ha
  · show py_fb (if k = 2 ∨ k = 3 ∨ k = 13 then _ else _)
    by_cases c : k = 2 ∨ k = 3 ∨ k = 13
    · rw [if_pos c]; exact py_join_b
    rw [if_neg c]; exact py_fact_b ha
  · exact py_fact_b ha
theorem dX5_read_0 : decode cX5_read 0 = .ok (.aload_n 0, 1) := by decide +kernel
theorem dX5_read_1 : decode cX5_read 1 = .ok (.aload_n 1, 1) := by decide +kernel
theorem dX5_read_2 : decode cX5_read 2 = .ok (.putfield 9, 3) := by decide +kernel
theorem dX5_read_5 : decode cX5_read 5 = .ok (.aload_n 0, 1) := by decide +kernel
theorem dX5_read_6 : decode cX5_read 6 = .ok (.iconst 0, 1) := by decide +kernel
theorem dX5_read_7 : decode cX5_read 7 = .ok (.iload_n 2, 1) := by decide +kernel
theorem dX5_read_8 : decode cX5_read 8 = .ok (.aload_n 1, 1) := by decide +kernel
theorem dX5_read_9 : decode cX5_read 9 = .ok (.arraylength, 1) := by decide +kernel
theorem dX5_read_10 : decode cX5_read 10 = .ok (.invokestatic 66, 3) := by decide +kernel
theorem dX5_read_13 : decode cX5_read 13 = .ok (.invokestatic 72, 3) := by decide +kernel
theorem dX5_read_16 : decode cX5_read 16 = .ok (.putfield 15, 3) := by decide +kernel
theorem dX5_read_19 : decode cX5_read 19 = .ok (.aload_n 0, 1) := by decide +kernel
theorem dX5_read_20 : decode cX5_read 20 = .ok (.iconst 0, 1) := by decide +kernel
theorem dX5_read_21 : decode cX5_read 21 = .ok (.putfield 22, 3) := by decide +kernel
theorem dX5_read_24 : decode cX5_read 24 = .ok (.aload_n 0, 1) := by decide +kernel
theorem dX5_read_25 : decode cX5_read 25 = .ok (.iconst 0, 1) := by decide +kernel
theorem dX5_read_26 : decode cX5_read 26 = .ok (.putfield 32, 3) := by decide +kernel
theorem dX5_read_29 : decode cX5_read 29 = .ok (.aload_n 0, 1) := by decide +kernel
theorem dX5_read_30 : decode cX5_read 30 = .ok (.iconst 0, 1) := by decide +kernel
theorem dX5_read_31 : decode cX5_read 31 = .ok (.putfield 35, 3) := by decide +kernel
theorem dX5_read_34 : decode cX5_read 34 = .ok (.aload_n 0, 1) := by decide +kernel
theorem dX5_read_35 : decode cX5_read 35 = .ok (.iconst 0, 1) := by decide +kernel
theorem dX5_read_36 : decode cX5_read 36 = .ok (.putfield 38, 3) := by decide +kernel
theorem dX5_read_39 : decode cX5_read 39 = .ok (.aload_n 0, 1) := by decide +kernel
theorem dX5_read_40 : decode cX5_read 40 = .ok (.iconst 0, 1) := by decide +kernel
theorem dX5_read_41 : decode cX5_read 41 = .ok (.putfield 45, 3) := by decide +kernel
theorem dX5_read_44 : decode cX5_read 44 = .ok (.aload_n 0, 1) := by decide +kernel
theorem dX5_read_45 : decode cX5_read 45 = .ok (.iconst 0, 1) := by decide +kernel
theorem dX5_read_46 : decode cX5_read 46 = .ok (.putfield 48, 3) := by decide +kernel
theorem dX5_read_49 : decode cX5_read 49 = .ok (.aload_n 0, 1) := by decide +kernel
theorem dX5_read_50 : decode cX5_read 50 = .ok (.iconst 0, 1) := by decide +kernel
theorem dX5_read_51 : decode cX5_read 51 = .ok (.putfield 51, 3) := by decide +kernel
theorem dX5_read_54 : decode cX5_read 54 = .ok (.aload_n 0, 1) := by decide +kernel
theorem dX5_read_55 : decode cX5_read 55 = .ok (.iconst 0, 1) := by decide +kernel
theorem dX5_read_56 : decode cX5_read 56 = .ok (.putfield 57, 3) := by decide +kernel
theorem dX5_read_59 : decode cX5_read 59 = .ok (.aload_n 0, 1) := by decide +kernel
theorem dX5_read_60 : decode cX5_read 60 = .ok (.iconst 0, 1) := by decide +kernel
theorem dX5_read_61 : decode cX5_read 61 = .ok (.putfield 63, 3) := by decide +kernel
theorem dX5_read_64 : decode cX5_read 64 = .ok (.iconst 0, 1) := by decide +kernel
theorem dX5_read_65 : decode cX5_read 65 = .ok (.istore_n 3, 1) := by decide +kernel
theorem dX5_read_66 : decode cX5_read 66 = .ok (.iload_n 3, 1) := by decide +kernel
theorem dX5_read_67 : decode cX5_read 67 = .ok (.aload_n 0, 1) := by decide +kernel
theorem dX5_read_68 : decode cX5_read 68 = .ok (.getfield 15, 3) := by decide +kernel
theorem dX5_read_71 : decode cX5_read 71 = .ok (.if_icmp .gt 33, 3) := by decide +kernel
theorem dX5_read_74 : decode cX5_read 74 = .ok (.aload_n 0, 1) := by decide +kernel
theorem dX5_read_75 : decode cX5_read 75 = .ok (.getfield 35, 3) := by decide +kernel
theorem dX5_read_78 : decode cX5_read 78 = .ok (.ifCond .ne 26, 3) := by decide +kernel
theorem dX5_read_81 : decode cX5_read 81 = .ok (.aload_n 0, 1) := by decide +kernel
theorem dX5_read_82 : decode cX5_read 82 = .ok (.getfield 32, 3) := by decide +kernel
theorem dX5_read_85 : decode cX5_read 85 = .ok (.bipush 9, 2) := by decide +kernel
theorem dX5_read_87 : decode cX5_read 87 = .ok (.if_icmp .eq 17, 3) := by decide +kernel
theorem dX5_read_90 : decode cX5_read 90 = .ok (.aload_n 0, 1) := by decide +kernel
theorem dX5_read_91 : decode cX5_read 91 = .ok (.invokevirtual 75, 3) := by decide +kernel
theorem dX5_read_94 : decode cX5_read 94 = .ok (.aload_n 0, 1) := by decide +kernel
theorem dX5_read_95 : decode cX5_read 95 = .ok (.invokevirtual 78, 3) := by decide +kernel
theorem dX5_read_98 : decode cX5_read 98 = .ok (.iinc 3 1, 3) := by decide +kernel
theorem dX5_read_101 : decode cX5_read 101 = .ok (.goto (-35), 3) := by decide +kernel
theorem dX5_read_104 : decode cX5_read 104 = .ok (.aload_n 0, 1) := by decide +kernel
theorem dX5_read_105 : decode cX5_read 105 = .ok (.getfield 35, 3) := by decide +kernel
theorem dX5_read_108 : decode cX5_read 108 = .ok (.ireturn, 1) := by decide +kernel
set_option maxRecDepth 100000 in
set_option maxHeartbeats 4000000 in
theorem l_X5_read {h : ai_H} {t : Nat → Nat} {n : Nat} (hn4 : n ≤ 400) : ∀ (m i : Nat) (g : ai_H) (S : Md) (x : PS), i ≤ n + 1 → n + 2 ≤ i + m → rd_at 13 g S → rd_tx t n g → xd h g → S.1 1 = nI n → rd_x S x → py_inv n x → py_fb x → py_rch t n py_x0 x → (i ≤ x.2.1 ∨ py_stop x) → ai_W MX5_read 66 [.ref 16, .ref 13, .int (nI n), .int (nI i)] [] g (fun r g' => xd h g' ∧ ∃ (y : PS) (T : Md), py_rch t n py_x0 y ∧ py_stop y ∧ py_fb y ∧ py_inv n y ∧ r = some (.int (nI y.2.2.1)) ∧ rd_at 13 g' T ∧ rd_x T y) := by
  intro m
  induction m with
  | zero => intro i g S x h1 h2; exact absurd h2 (by omega)
  | succ m ih =>
    intro i g S x hi0 him hrd htx hE hn hx hin hfb hre hpi
    refine wq (fun _ _ kk => rs_iload_n (pc := 66) dX5_read_66 rfl kk) ?_
    refine wq (fun _ _ kk => rs_aload_n (pc := 67) dX5_read_67 rfl kk) ?_
    refine wq (fun _ _ kk => rs_getf (pc := 68) dX5_read_68 fX5_15 (mo_lt hrd (by decide)) hrd.2.1 rfl kk) ?_
    rw [hn]
    refine wq_br (fun _ _ kt kf => rs_icmp_gt (tgt := 104) (pc := 71) dX5_read_71 rfl kt kf) (fun c_71 => ?_) (fun c_71 => ?_)
    · have hs : py_stop x := by
        have gi := tx_gt1 (a := i) (b := n) (by omega) (by omega) rfl c_71
        rcases hpi with hp | hp
        · exact Classical.byContradiction fun z => absurd ((hin (Classical.byContradiction fun w => z (Or.inl w))).2.2.2.2.2.2.1 (fun w => z (Or.inr w))) (by omega)
        · exact hp
      refine wq (fun _ _ kk => rs_aload_n (pc := 104) dX5_read_104 rfl kk) ?_
      refine wq (fun _ _ kk => rs_getf (pc := 105) dX5_read_105 fX5_35 (mo_lt hrd (by decide)) hrd.2.1 rfl kk) ?_
      rw [hx.1]
      refine wq_ret ?_ (rs_iret (pc := 108) dX5_read_108 rfl)
      exact ⟨hE, x, _, hre, hs, hfb, hin, rfl, hrd, hx⟩
    · have gi := tx_gt2 (a := i) (b := n) (by omega) (by omega) rfl c_71
      refine wq (fun _ _ kk => rs_aload_n (pc := 74) dX5_read_74 rfl kk) ?_
      refine wq (fun _ _ kk => rs_getf (pc := 75) dX5_read_75 fX5_35 (mo_lt hrd (by decide)) hrd.2.1 rfl kk) ?_
      rw [hx.1]
      refine wq_bn (fun _ _ kt kf => rs_if_ne (tgt := 104) (pc := 78) dX5_read_78 rfl kt kf) (fun c_78 => ?_) (fun c_78 => ?_)
      · have hs : py_stop x := Or.inl (fun z => c_78 (by rw [z]; rfl))
        refine wq (fun _ _ kk => rs_aload_n (pc := 104) dX5_read_104 rfl kk) ?_
        refine wq (fun _ _ kk => rs_getf (pc := 105) dX5_read_105 fX5_35 (mo_lt hrd (by decide)) hrd.2.1 rfl kk) ?_
        rw [hx.1]
        refine wq_ret ?_ (rs_iret (pc := 108) dX5_read_108 rfl)
        exact ⟨hE, x, _, hre, hs, hfb, hin, rfl, hrd, hx⟩
      · have g0 : x.2.2.1 = 0 := tx_eq1 (b := 0) (Nat.lt_of_le_of_lt hfb (by decide)) (by decide) rfl c_78
        obtain ⟨x3, hm⟩ := hx.2 g0
        have hI := hin g0
        refine wq (fun _ _ kk => rs_aload_n (pc := 81) dX5_read_81 rfl kk) ?_
        refine wq (fun _ _ kk => rs_getf (pc := 82) dX5_read_82 fX5_32 (mo_lt hrd (by decide)) hrd.2.1 rfl kk) ?_
        rw [hm.1.1]
        refine wq (fun _ _ kk => rs_bipush (v := 9) (pc := 85) dX5_read_85 rfl kk) ?_
        refine wq_br (fun _ _ kt kf => rs_icmp_eq (tgt := 104) (pc := 87) dX5_read_87 rfl kt kf) (fun c_87 => ?_) (fun c_87 => ?_)
        · have hs : py_stop x := Or.inr (tx_eq1 (b := 9) (by have := hI.2.2.2.2.2.2.2; omega) (by decide) rfl c_87)
          refine wq (fun _ _ kk => rs_aload_n (pc := 104) dX5_read_104 rfl kk) ?_
          refine wq (fun _ _ kk => rs_getf (pc := 105) dX5_read_105 fX5_35 (mo_lt hrd (by decide)) hrd.2.1 rfl kk) ?_
          rw [hx.1]
          refine wq_ret ?_ (rs_iret (pc := 108) dX5_read_108 rfl)
          exact ⟨hE, x, _, hre, hs, hfb, hin, rfl, hrd, hx⟩
        · have g9 : x.1 ≠ 9 := tx_eq2 (b := 9) rfl c_87
          have hpn : x.2.1 ≤ n := hI.2.2.2.2.2.2.1 g9
          have h8 : x.1 ≤ 8 := by have := hI.2.2.2.2.2.2.2; omega
          obtain ⟨k1, k2, k3, k4, k5⟩ := tx_tok (t := t) hpn
          refine wq (fun _ _ kk => rs_aload_n (pc := 90) dX5_read_90 rfl kk) ?_
          obtain ⟨rv_91, hc_91, ⟨rfl, ee_91, T_91, hrd_91, lx, f2, f3, f4, f5⟩, hm_91⟩ := c_X5_take hrd htx hn x3 hpn
          refine wq (fun _ _ kk => rs_callV (as := []) (pc := 91) dX5_read_91 mk_X5_take mlX5_75 in_X5_take se_X5_take rfl (mo_lt hrd (by decide)) hrd.2.1 rfl rfl (Nat.le_of_ble_eq_true rfl) (hm_91) kk) ?_
          replace hrd := hrd_91
          replace htx := htx.keep ee_91
          replace hm := hm.of (T := T_91) (fun j a b => lx.1 j (by omega) (by omega) (by omega) (by omega)) lx.2
          replace hn := (lx.1 1 (by decide) (by decide) (by decide) (by decide)).trans hn
          have ht : rd_tk T_91 n (tx_k t n (tx_fr t n x.2.1)) (tx_v t n (tx_fr t n x.2.1)) (tx_fr t n x.2.1) (tx_e t n (tx_fr t n x.2.1)) := ⟨f2, f3, f4, f5, tx_k_le _ _ _, tx_fr_le hpn, tx_e_gt, k4, k1, k2, hn4⟩
          have E_91 := (xd.rf).trans ee_91
          refine wq (fun _ _ kk => rs_aload_n (pc := 94) dX5_read_94 rfl kk) ?_
          obtain ⟨rv_95, hc_95, ⟨rfl, ee_95, T_95, hrd_95, hb, hres⟩, hm_95⟩ := c_X5_follow hrd hm ht hI tx_fr_ge h8
          refine wq (fun _ _ kk => rs_callV (as := []) (pc := 95) dX5_read_95 mk_X5_follow mlX5_78 in_X5_follow se_X5_follow rfl (mo_lt hrd (by decide)) hrd.2.1 rfl rfl (Nat.le_of_ble_eq_true rfl) (hm_95) kk) ?_
          replace hrd := hrd_95
          replace htx := htx.keep ee_95
          replace hn := hb.trans hn
          replace hx : rd_x T_95 (py_at t n x.2.1 x) := by
            have e0 : (x.1, x.2.1, 0, x.2.2.2.1, x.2.2.2.2.1, x.2.2.2.2.2.1, x.2.2.2.2.2.2.1, x.2.2.2.2.2.2.2.1, x.2.2.2.2.2.2.2.2.1, x.2.2.2.2.2.2.2.2.2) = x := by
              rw [← g0]
            rw [e0] at hres
            exact hres
          have E_95 := (E_91).trans ee_95
          refine wq (fun _ _ kk => wk_iinc3 (v := nI (i + 1)) (pc := 98) dX5_read_98 (by decide) rfl (nI_1 i) kk) ?_
          refine wq (fun _ _ kk => rs_goto (tgt := 66) (pc := 101) dX5_read_101 rfl kk) ?_
          refine ih (i + 1) _ _ _ (by omega) (by omega) hrd htx (hE.trans (E_95)) hn hx (py_inv_at hin g0 g9) (py_step_b (by have := tx_fr_le (t := t) hpn; omega) h8) (hre.trans (py_rch.one g0 g9)) ?_
          by_cases hz : (py_at t n x.2.1 x).2.2.1 = 0
          · have e1 := py_step_p (x := x) h8 hz
            have e2 := tx_fr_ge (t := t) (n := n) (p := x.2.1)
            have e3 := tx_e_gt (t := t) (n := n) (a := tx_fr t n x.2.1)
            have e4 : (py_at t n x.2.1 x).2.1 = tx_e t n (tx_fr t n x.2.1) := e1
            rcases hpi with hp | hp
            · exact Or.inl (by omega)
            · exact absurd hp (fun w => w.elim (fun u => u g0) g9)
          · exact Or.inr (Or.inl hz)
set_option maxRecDepth 100000 in
set_option maxHeartbeats 4000000 in
theorem c_X5_read {h : ai_H} {t : Nat → Nat} {n tc : Nat} {S : Md} (hrd : rd_at tc h S) (htx : rd_tx t n h) : ai_QM MX5_read [.ref 16, .ref 13, .int (nI n)] h (fun r g' => xd h g' ∧ ∃ (y : PS) (T : Md), py_rch t n py_x0 y ∧ py_stop y ∧ py_fb y ∧ py_inv n y ∧ r = some (.int (nI y.2.2.1)) ∧ rd_at 13 g' T ∧ rd_x T y) := by
  have hn4 := htx.1
  refine qm_of (ls := [.ref 16, .ref 13, .int (nI n), .float 0]) (by decide) (by simp [ai_en, Value.category]) (by rfl) ?_
  refine wq (fun _ _ kk => rs_aload_n (pc := 0) dX5_read_0 rfl kk) ?_
  refine wq (fun _ _ kk => rs_aload_n (pc := 1) dX5_read_1 rfl kk) ?_
  refine wq (fun _ _ kk => rs_putf (pc := 2) dX5_read_2 fX5_9 (mo_lt hrd (by decide)) hrd.2.1 rfl (Nat.le_of_ble_eq_true rfl) kk) ?_
  refine wq_gen (fun h_0 e_0 => ?_)
  obtain ⟨m_0, s_0, g_0, o_0⟩ := ai_e1 e_0
  have hE0 : xd h h_0 := xd_of m_0 s_0 o_0 (by decide)
  replace hrd : rd_at 13 h_0 S := ⟨by rw [m_0]; exact hrd.1, g_0, fun d q hq => (o_0 _ (by omega)).trans (hrd.2.2 d q hq)⟩
  replace htx := htx.keep hE0
  obtain ⟨-, hq_t, f, he_t, hf⟩ := id htx
  refine wq (fun _ _ kk => rs_aload_n (pc := 5) dX5_read_5 rfl kk) ?_
  refine wq (fun _ _ kk => rs_iconst (v := 0) (pc := 6) dX5_read_6 rfl kk) ?_
  refine wq (fun _ _ kk => rs_iload_n (pc := 7) dX5_read_7 rfl kk) ?_
  refine wq (fun _ _ kk => rs_aload_n (pc := 8) dX5_read_8 rfl kk) ?_
  refine wq (fun _ _ kk => rs_alen (pc := 9) dX5_read_9 (fun _ => rfl) hq_t he_t rfl kk) ?_
  refine wq (fun _ _ kk => rs_callS (as := [_, _]) (pc := 10) dX5_read_10 mk_J9_min_7cf53 mlX5_66 st_J9_min_7cf53 rfl rfl (Nat.le_of_ble_eq_true rfl) (c_minI) kk) ?_
  refine wq (fun _ _ kk => rs_callS (as := [_, _]) (pc := 13) dX5_read_13 mk_J9_max_7cf53 mlX5_72 st_J9_max_7cf53 rfl rfl (Nat.le_of_ble_eq_true rfl) (c_maxI) kk) ?_
  show ai_W _ _ _ (.int (bi_maxI 0 (bi_minI (nI n) 400)) :: _) _ _
  rw [bi_mm hn4]
  refine wq (fun _ _ kk => rs_putf (pc := 16) dX5_read_16 fX5_15 (mo_lt hrd (by decide)) hrd.2.1 rfl (Nat.le_of_ble_eq_true rfl) kk) ?_
  refine wq_gen (fun h_1 e_1 => ?_)
  obtain ⟨m_1, s_1, g_1, o_1⟩ := ai_e1 e_1
  replace hrd := mo_si (k := 1) hrd m_1 g_1 o_1 rfl
  replace htx := htx.keep (xd_of m_1 s_1 o_1 (by decide))
  replace he_t := (o_1 _ (by decide)).trans he_t
  replace hq_t : 13 < h_1.1 := by rw [m_1]; exact hq_t
  have E_1 := (xd.rf).trans (xd_of m_1 s_1 o_1 (by decide))
  obtain ⟨S_16, hrd, k_16, r_16, s_16⟩ := rd_new hrd
  refine wq (fun _ _ kk => rs_aload_n (pc := 19) dX5_read_19 rfl kk) ?_
  refine wq (fun _ _ kk => rs_iconst (v := 0) (pc := 20) dX5_read_20 rfl kk) ?_
  refine wq (fun _ _ kk => rs_putf (pc := 21) dX5_read_21 fX5_22 (mo_lt hrd (by decide)) hrd.2.1 rfl (Nat.le_of_ble_eq_true rfl) kk) ?_
  refine wq_gen (fun h_2 e_2 => ?_)
  obtain ⟨m_2, s_2, g_2, o_2⟩ := ai_e1 e_2
  replace hrd := mo_si (k := 3) hrd m_2 g_2 o_2 rfl
  replace htx := htx.keep (xd_of m_2 s_2 o_2 (by decide))
  replace he_t := (o_2 _ (by decide)).trans he_t
  replace hq_t : 13 < h_2.1 := by rw [m_2]; exact hq_t
  have E_2 := (E_1).trans (xd_of m_2 s_2 o_2 (by decide))
  obtain ⟨S_21, hrd, k_21, r_21, s_21⟩ := rd_new hrd
  refine wq (fun _ _ kk => rs_aload_n (pc := 24) dX5_read_24 rfl kk) ?_
  refine wq (fun _ _ kk => rs_iconst (v := 0) (pc := 25) dX5_read_25 rfl kk) ?_
  refine wq (fun _ _ kk => rs_putf (pc := 26) dX5_read_26 fX5_32 (mo_lt hrd (by decide)) hrd.2.1 rfl (Nat.le_of_ble_eq_true rfl) kk) ?_
  refine wq_gen (fun h_3 e_3 => ?_)
  obtain ⟨m_3, s_3, g_3, o_3⟩ := ai_e1 e_3
  replace hrd := mo_si (k := 6) hrd m_3 g_3 o_3 rfl
  replace htx := htx.keep (xd_of m_3 s_3 o_3 (by decide))
  replace he_t := (o_3 _ (by decide)).trans he_t
  replace hq_t : 13 < h_3.1 := by rw [m_3]; exact hq_t
  have E_3 := (E_2).trans (xd_of m_3 s_3 o_3 (by decide))
  obtain ⟨S_26, hrd, k_26, r_26, s_26⟩ := rd_new hrd
  refine wq (fun _ _ kk => rs_aload_n (pc := 29) dX5_read_29 rfl kk) ?_
  refine wq (fun _ _ kk => rs_iconst (v := 0) (pc := 30) dX5_read_30 rfl kk) ?_
  refine wq (fun _ _ kk => rs_putf (pc := 31) dX5_read_31 fX5_35 (mo_lt hrd (by decide)) hrd.2.1 rfl (Nat.le_of_ble_eq_true rfl) kk) ?_
  refine wq_gen (fun h_4 e_4 => ?_)
  obtain ⟨m_4, s_4, g_4, o_4⟩ := ai_e1 e_4
  replace hrd := mo_si (k := 7) hrd m_4 g_4 o_4 rfl
  replace htx := htx.keep (xd_of m_4 s_4 o_4 (by decide))
  replace he_t := (o_4 _ (by decide)).trans he_t
  replace hq_t : 13 < h_4.1 := by rw [m_4]; exact hq_t
  have E_4 := (E_3).trans (xd_of m_4 s_4 o_4 (by decide))
  obtain ⟨S_31, hrd, k_31, r_31, s_31⟩ := rd_new hrd
  refine wq (fun _ _ kk => rs_aload_n (pc := 34) dX5_read_34 rfl kk) ?_
  refine wq (fun _ _ kk => rs_iconst (v := 0) (pc := 35) dX5_read_35 rfl kk) ?_
  refine wq (fun _ _ kk => rs_putf (pc := 36) dX5_read_36 fX5_38 (mo_lt hrd (by decide)) hrd.2.1 rfl (Nat.le_of_ble_eq_true rfl) kk) ?_
  refine wq_gen (fun h_5 e_5 => ?_)
  obtain ⟨m_5, s_5, g_5, o_5⟩ := ai_e1 e_5
  replace hrd := mo_si (k := 8) hrd m_5 g_5 o_5 rfl
  replace htx := htx.keep (xd_of m_5 s_5 o_5 (by decide))
  replace he_t := (o_5 _ (by decide)).trans he_t
  replace hq_t : 13 < h_5.1 := by rw [m_5]; exact hq_t
  have E_5 := (E_4).trans (xd_of m_5 s_5 o_5 (by decide))
  obtain ⟨S_36, hrd, k_36, r_36, s_36⟩ := rd_new hrd
  refine wq (fun _ _ kk => rs_aload_n (pc := 39) dX5_read_39 rfl kk) ?_
  refine wq (fun _ _ kk => rs_iconst (v := 0) (pc := 40) dX5_read_40 rfl kk) ?_
  refine wq (fun _ _ kk => rs_putf (pc := 41) dX5_read_41 fX5_45 (mo_lt hrd (by decide)) hrd.2.1 rfl (Nat.le_of_ble_eq_true rfl) kk) ?_
  refine wq_gen (fun h_6 e_6 => ?_)
  obtain ⟨m_6, s_6, g_6, o_6⟩ := ai_e1 e_6
  replace hrd := mo_si (k := 10) hrd m_6 g_6 o_6 rfl
  replace htx := htx.keep (xd_of m_6 s_6 o_6 (by decide))
  replace he_t := (o_6 _ (by decide)).trans he_t
  replace hq_t : 13 < h_6.1 := by rw [m_6]; exact hq_t
  have E_6 := (E_5).trans (xd_of m_6 s_6 o_6 (by decide))
  obtain ⟨S_41, hrd, k_41, r_41, s_41⟩ := rd_new hrd
  refine wq (fun _ _ kk => rs_aload_n (pc := 44) dX5_read_44 rfl kk) ?_
  refine wq (fun _ _ kk => rs_iconst (v := 0) (pc := 45) dX5_read_45 rfl kk) ?_
  refine wq (fun _ _ kk => rs_putf (pc := 46) dX5_read_46 fX5_48 (mo_lt hrd (by decide)) hrd.2.1 rfl (Nat.le_of_ble_eq_true rfl) kk) ?_
  refine wq_gen (fun h_7 e_7 => ?_)
  obtain ⟨m_7, s_7, g_7, o_7⟩ := ai_e1 e_7
  replace hrd := mo_si (k := 11) hrd m_7 g_7 o_7 rfl
  replace htx := htx.keep (xd_of m_7 s_7 o_7 (by decide))
  replace he_t := (o_7 _ (by decide)).trans he_t
  replace hq_t : 13 < h_7.1 := by rw [m_7]; exact hq_t
  have E_7 := (E_6).trans (xd_of m_7 s_7 o_7 (by decide))
  obtain ⟨S_46, hrd, k_46, r_46, s_46⟩ := rd_new hrd
  refine wq (fun _ _ kk => rs_aload_n (pc := 49) dX5_read_49 rfl kk) ?_
  refine wq (fun _ _ kk => rs_iconst (v := 0) (pc := 50) dX5_read_50 rfl kk) ?_
  refine wq (fun _ _ kk => rs_putf (pc := 51) dX5_read_51 fX5_51 (mo_lt hrd (by decide)) hrd.2.1 rfl (Nat.le_of_ble_eq_true rfl) kk) ?_
  refine wq_gen (fun h_8 e_8 => ?_)
  obtain ⟨m_8, s_8, g_8, o_8⟩ := ai_e1 e_8
  replace hrd := mo_si (k := 12) hrd m_8 g_8 o_8 rfl
  replace htx := htx.keep (xd_of m_8 s_8 o_8 (by decide))
  replace he_t := (o_8 _ (by decide)).trans he_t
  replace hq_t : 13 < h_8.1 := by rw [m_8]; exact hq_t
  have E_8 := (E_7).trans (xd_of m_8 s_8 o_8 (by decide))
  obtain ⟨S_51, hrd, k_51, r_51, s_51⟩ := rd_new hrd
  refine wq (fun _ _ kk => rs_aload_n (pc := 54) dX5_read_54 rfl kk) ?_
  refine wq (fun _ _ kk => rs_iconst (v := 0) (pc := 55) dX5_read_55 rfl kk) ?_
  refine wq (fun _ _ kk => rs_putf (pc := 56) dX5_read_56 fX5_57 (mo_lt hrd (by decide)) hrd.2.1 rfl (Nat.le_of_ble_eq_true rfl) kk) ?_
  refine wq_gen (fun h_9 e_9 => ?_)
  obtain ⟨m_9, s_9, g_9, o_9⟩ := ai_e1 e_9
  replace hrd := mo_si (k := 14) hrd m_9 g_9 o_9 rfl
  replace htx := htx.keep (xd_of m_9 s_9 o_9 (by decide))
  replace he_t := (o_9 _ (by decide)).trans he_t
  replace hq_t : 13 < h_9.1 := by rw [m_9]; exact hq_t
  have E_9 := (E_8).trans (xd_of m_9 s_9 o_9 (by decide))
  obtain ⟨S_56, hrd, k_56, r_56, s_56⟩ := rd_new hrd
  refine wq (fun _ _ kk => rs_aload_n (pc := 59) dX5_read_59 rfl kk) ?_
  refine wq (fun _ _ kk => rs_iconst (v := 0) (pc := 60) dX5_read_60 rfl kk) ?_
  refine wq (fun _ _ kk => rs_putf (pc := 61) dX5_read_61 fX5_63 (mo_lt hrd (by decide)) hrd.2.1 rfl (Nat.le_of_ble_eq_true rfl) kk) ?_
  refine wq_gen (fun h_10 e_10 => ?_)
  obtain ⟨m_10, s_10, g_10, o_10⟩ := ai_e1 e_10
  replace hrd := mo_si (k := 16) hrd m_10 g_10 o_10 rfl
  replace htx := htx.keep (xd_of m_10 s_10 o_10 (by decide))
  replace he_t := (o_10 _ (by decide)).trans he_t
  replace hq_t : 13 < h_10.1 := by rw [m_10]; exact hq_t
  have E_10 := (E_9).trans (xd_of m_10 s_10 o_10 (by decide))
  obtain ⟨S_61, hrd, k_61, r_61, s_61⟩ := rd_new hrd
  refine wq (fun _ _ kk => rs_iconst (v := 0) (pc := 64) dX5_read_64 rfl kk) ?_
  refine wq (fun _ _ kk => wk_istn3 (pc := 65) dX5_read_65 (by decide) rfl kk) ?_
  have e1 : S_61.1 1 = nI n := by rw [r_61 1 (by decide), r_56 1 (by decide), r_51 1 (by decide), r_46 1 (by decide), r_41 1 (by decide), r_36 1 (by decide), r_31 1 (by decide), r_26 1 (by decide), r_21 1 (by decide), k_16]
  have e3 : S_61.1 3 = 0 := by rw [r_61 3 (by decide), r_56 3 (by decide), r_51 3 (by decide), r_46 3 (by decide), r_41 3 (by decide), r_36 3 (by decide), r_31 3 (by decide), r_26 3 (by decide), k_21]
  have e6 : S_61.1 6 = 0 := by rw [r_61 6 (by decide), r_56 6 (by decide), r_51 6 (by decide), r_46 6 (by decide), r_41 6 (by decide), r_36 6 (by decide), r_31 6 (by decide), k_26]
  have e7 : S_61.1 7 = 0 := by rw [r_61 7 (by decide), r_56 7 (by decide), r_51 7 (by decide), r_46 7 (by decide), r_41 7 (by decide), r_36 7 (by decide), k_31]
  have e8 : S_61.1 8 = 0 := by rw [r_61 8 (by decide), r_56 8 (by decide), r_51 8 (by decide), r_46 8 (by decide), r_41 8 (by decide), k_36]
  have e10 : S_61.1 10 = 0 := by rw [r_61 10 (by decide), r_56 10 (by decide), r_51 10 (by decide), r_46 10 (by decide), k_41]
  have e11 : S_61.1 11 = 0 := by rw [r_61 11 (by decide), r_56 11 (by decide), r_51 11 (by decide), k_46]
  have e12 : S_61.1 12 = 0 := by rw [r_61 12 (by decide), r_56 12 (by decide), k_51]
  have e14 : S_61.1 14 = 0 := by rw [r_61 14 (by decide), k_56]
  have e16 : S_61.1 16 = 0 := k_61
  exact l_X5_read hn4 (n + 2) 0 _ S_61 py_x0 (by omega) (by omega) hrd htx (hE0.trans (E_10)) e1 ⟨e7, fun _ => ⟨e3, ⟨e6, e7, e8⟩, ⟨fun z => absurd z (by decide), fun z => absurd z (by decide)⟩, ⟨e10, e11, e12⟩, ⟨e14, fun i m hi => by cases hi⟩, e16, trivial⟩⟩ (py_inv_0 n) (Nat.zero_le _) py_rch.rf (Or.inl (Nat.zero_le _))
