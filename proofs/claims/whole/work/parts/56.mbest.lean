/-! 56: gives, left, best of the model (walks laid by wip/whole/p56.py) -/
/-- the model's laws -/
def MLS (S : Md) (nl : Nat) (Ls : Nat → List Cl) : Prop := S.1 25 = nI nl ∧ nl ≤ 10 ∧ ∀ r, r < nl → ML S r (Ls r) ∧ lwOK (Ls r)
theorem MLS.gv {S W : Md} {nl : Nat} {Ls : Nat → List Cl} (a : MLS S nl Ls) (q : gvq S W) : MLS W nl Ls := by
  refine ⟨by rw [q.1]; exact a.1, a.2.1, fun r hr => ?_⟩
  obtain ⟨⟨b1, b2⟩, b3⟩ := a.2.2 r hr
  exact ⟨⟨by rw [q.2.2.1]; exact b1, MC_of q.2.2.1 b2⟩, b3⟩
theorem b_own_k {B : Bk} {S : Md} {ln i : Nat} (hok : bk_ok B ln) (hRB : RB B S) (hi : i < nR B) {o w : Int32} (hw : w.toInt ≤ 9999) : (if ¬ S.2.2.1 16 i = o then (0 : Int32) else if ¬ S.2.2.1 17 i = 3 then 0 else if ms_counts S i w = 0 then 0 else 1) = bk_own B (nI i) o w := by
  obtain ⟨-, -, -, q4, q5, -⟩ := hRB.2.2.2.2.1 i hi
  rw [q4, q5, rb_counts hRB hok hi hw]
  unfold bk_own
  rcases bk_known_b B (nI i) w with e | e
  · rw [e, if_pos rfl]
    by_cases c1 : bk_rat B (nI i) 3 = o <;> by_cases c2 : bk_rat B (nI i) 4 = 3 <;> simp [c1, c2]
  · rw [e, if_neg (show ¬ (1 : Int32) = 0 by decide)]
    by_cases c1 : bk_rat B (nI i) 3 = o <;> by_cases c2 : bk_rat B (nI i) 4 = 3 <;> simp [c1, c2]
theorem dX12_isOwn_0 : decode cX12_isOwn 0 = .ok (.aload_n 0, 1) := by decide +kernel
theorem dX12_isOwn_1 : decode cX12_isOwn 1 = .ok (.getfield 40, 3) := by decide +kernel
theorem dX12_isOwn_4 : decode cX12_isOwn 4 = .ok (.iload_n 1, 1) := by decide +kernel
theorem dX12_isOwn_5 : decode cX12_isOwn 5 = .ok (.iaload, 1) := by decide +kernel
theorem dX12_isOwn_6 : decode cX12_isOwn 6 = .ok (.iload_n 2, 1) := by decide +kernel
theorem dX12_isOwn_7 : decode cX12_isOwn 7 = .ok (.if_icmp .ne 26, 3) := by decide +kernel
theorem dX12_isOwn_10 : decode cX12_isOwn 10 = .ok (.aload_n 0, 1) := by decide +kernel
theorem dX12_isOwn_11 : decode cX12_isOwn 11 = .ok (.getfield 43, 3) := by decide +kernel
theorem dX12_isOwn_14 : decode cX12_isOwn 14 = .ok (.iload_n 1, 1) := by decide +kernel
theorem dX12_isOwn_15 : decode cX12_isOwn 15 = .ok (.iaload, 1) := by decide +kernel
theorem dX12_isOwn_16 : decode cX12_isOwn 16 = .ok (.iconst 3, 1) := by decide +kernel
theorem dX12_isOwn_17 : decode cX12_isOwn 17 = .ok (.if_icmp .ne 16, 3) := by decide +kernel
theorem dX12_isOwn_20 : decode cX12_isOwn 20 = .ok (.aload_n 0, 1) := by decide +kernel
theorem dX12_isOwn_21 : decode cX12_isOwn 21 = .ok (.iload_n 1, 1) := by decide +kernel
theorem dX12_isOwn_22 : decode cX12_isOwn 22 = .ok (.iload_n 3, 1) := by decide +kernel
theorem dX12_isOwn_23 : decode cX12_isOwn 23 = .ok (.invokevirtual 234, 3) := by decide +kernel
theorem dX12_isOwn_26 : decode cX12_isOwn 26 = .ok (.ifCond .eq 7, 3) := by decide +kernel
theorem dX12_isOwn_29 : decode cX12_isOwn 29 = .ok (.iconst 1, 1) := by decide +kernel
theorem dX12_isOwn_30 : decode cX12_isOwn 30 = .ok (.goto 4, 3) := by decide +kernel
theorem dX12_isOwn_33 : decode cX12_isOwn 33 = .ok (.iconst 0, 1) := by decide +kernel
theorem dX12_isOwn_34 : decode cX12_isOwn 34 = .ok (.ireturn, 1) := by decide +kernel
set_option maxRecDepth 100000 in
set_option maxHeartbeats 4000000 in
theorem c_X12_isOwn {h : ai_H} {S : Md} {B : Bk} {ln i : Nat} (hok : bk_ok B ln) (hRB : RB B S) (hi : i < nR B) {o k : Int32} (hw : k.toInt ≤ 9999) (hmd : md_at h S) : ai_Met MX12_isOwn [.ref 307, .int (nI i), .int o, .int k] h (some (.int (bk_own B (nI i) o k))) h := by
  have hr4 := hok.2.2.2.2.1.2.1
  refine ai_met (ls := [.ref 307, .int (nI i), .int o, .int k]) (by decide) (by simp [ai_en, Value.category]) (by rfl) ?_
  refine rs_aload_n (pc := 0) dX12_isOwn_0 rfl ?_
  refine rs_getf (pc := 1) dX12_isOwn_1 fX12_40 (md_lt hmd (by decide)) hmd.2.1 rfl ?_
  refine rs_iload_n (pc := 4) dX12_isOwn_4 rfl ?_
  refine rs_iald (pc := 5) dX12_isOwn_5 (md_lt hmd (by decide)) (md_geti (d := 10) (k := 16) (kd := 0) (n := 400) rfl (by decide) hmd) (vp_in_nI (n := i) (N := 400) (by omega) (by decide)) ?_
  rw [nI_clamp (show i < 2 ^ 31 by omega)]
  refine rs_iload_n (pc := 6) dX12_isOwn_6 rfl ?_
  refine rs_icmp_ne (tgt := 33) (pc := 7) dX12_isOwn_7 rfl (fun c_7 => ?_) (fun c_7 => ?_)
  · refine rs_iconst (v := 0) (pc := 33) dX12_isOwn_33 rfl ?_
    exact wk_zret (pc := 34) dX12_isOwn_34 rfl (Or.inl rfl) (by rw [← b_own_k hok hRB hi hw]; simp [c_7]) (rfl)
  · refine rs_aload_n (pc := 10) dX12_isOwn_10 rfl ?_
    refine rs_getf (pc := 11) dX12_isOwn_11 fX12_43 (md_lt hmd (by decide)) hmd.2.1 rfl ?_
    refine rs_iload_n (pc := 14) dX12_isOwn_14 rfl ?_
    refine rs_iald (pc := 15) dX12_isOwn_15 (md_lt hmd (by decide)) (md_geti (d := 11) (k := 17) (kd := 0) (n := 400) rfl (by decide) hmd) (vp_in_nI (n := i) (N := 400) (by omega) (by decide)) ?_
    rw [nI_clamp (show i < 2 ^ 31 by omega)]
    refine rs_iconst (v := 3) (pc := 16) dX12_isOwn_16 rfl ?_
    refine rs_icmp_ne (tgt := 33) (pc := 17) dX12_isOwn_17 rfl (fun c_17 => ?_) (fun c_17 => ?_)
    · refine rs_iconst (v := 0) (pc := 33) dX12_isOwn_33 rfl ?_
      exact wk_zret (pc := 34) dX12_isOwn_34 rfl (Or.inl rfl) (by rw [← b_own_k hok hRB hi hw]; simp [c_7, c_17]) (rfl)
    · refine rs_aload_n (pc := 20) dX12_isOwn_20 rfl ?_
      refine rs_iload_n (pc := 21) dX12_isOwn_21 rfl ?_
      refine rs_iload_n (pc := 22) dX12_isOwn_22 rfl ?_
      refine rs_callV (as := [_, _]) (pc := 23) dX12_isOwn_23 mk_X12_counts mlX12_234 in_X12_counts se_X12_counts rfl (md_lt hmd (by decide)) hmd.2.1 rfl rfl (Nat.le_of_ble_eq_true rfl) (c_X12_counts hmd (show i < 400 by omega) _) ?_
      refine rs_if_eq (tgt := 33) (pc := 26) dX12_isOwn_26 rfl (fun c_26 => ?_) (fun c_26 => ?_)
      · refine rs_iconst (v := 0) (pc := 33) dX12_isOwn_33 rfl ?_
        exact wk_zret (pc := 34) dX12_isOwn_34 rfl (Or.inl rfl) (by rw [← b_own_k hok hRB hi hw]; simp [c_7, c_17, c_26]) (rfl)
      · refine rs_iconst (v := 1) (pc := 29) dX12_isOwn_29 rfl ?_
        refine rs_goto (tgt := 34) (pc := 30) dX12_isOwn_30 rfl ?_
        exact wk_zret (pc := 34) dX12_isOwn_34 rfl (Or.inr rfl) (by rw [← b_own_k hok hRB hi hw]; simp [c_7, c_17, c_26]) (rfl)
theorem dX12_gives_0 : decode cX12_gives 0 = .ok (.aload_n 0, 1) := by decide +kernel
theorem dX12_gives_1 : decode cX12_gives 1 = .ok (.iload_n 1, 1) := by decide +kernel
theorem dX12_gives_2 : decode cX12_gives 2 = .ok (.invokevirtual 390, 3) := by decide +kernel
theorem dX12_gives_5 : decode cX12_gives 5 = .ok (.ifCond .eq 21, 3) := by decide +kernel
theorem dX12_gives_8 : decode cX12_gives 8 = .ok (.aload_n 0, 1) := by decide +kernel
theorem dX12_gives_9 : decode cX12_gives 9 = .ok (.iload_n 2, 1) := by decide +kernel
theorem dX12_gives_10 : decode cX12_gives 10 = .ok (.invokevirtual 223, 3) := by decide +kernel
theorem dX12_gives_13 : decode cX12_gives 13 = .ok (.ifCond .eq 13, 3) := by decide +kernel
theorem dX12_gives_16 : decode cX12_gives 16 = .ok (.aload_n 0, 1) := by decide +kernel
theorem dX12_gives_17 : decode cX12_gives 17 = .ok (.iload_n 1, 1) := by decide +kernel
theorem dX12_gives_18 : decode cX12_gives 18 = .ok (.iload_n 2, 1) := by decide +kernel
theorem dX12_gives_19 : decode cX12_gives 19 = .ok (.invokevirtual 393, 3) := by decide +kernel
theorem dX12_gives_22 : decode cX12_gives 22 = .ok (.l2i, 1) := by decide +kernel
theorem dX12_gives_23 : decode cX12_gives 23 = .ok (.goto 6, 3) := by decide +kernel
theorem dX12_gives_26 : decode cX12_gives 26 = .ok (.ldc_w 397, 3) := by decide +kernel
theorem dX12_gives_29 : decode cX12_gives 29 = .ok (.ireturn, 1) := by decide +kernel
set_option maxRecDepth 100000 in
set_option maxHeartbeats 4000000 in
theorem c_X12_gives {h : ai_H} {S : Md} {B : Bk} {ln nl : Nat} {Ls : Nat → List Cl} (hok : bk_ok B ln) (hRB : RB B S) (hML : MLS S nl Ls) (hmd : md_at h S) (n k : Int32) : ai_QM MX12_gives [.ref 307, .int n, .int k] h (fun res g => md_ext h g ∧ (∃ V, md_at g V ∧ gvq S V) ∧ (((bi_in n 0 (nI nl - 1) = 0 ∨ tb_has (bk_r B).1 k = 0) ∧ res = some (.int (-1000000))) ∨ (¬ (bi_in n 0 (nI nl - 1) = 0 ∨ tb_has (bk_r B).1 k = 0) ∧ ∃ r, r < nl ∧ n = nI r ∧ res = some (.int (hld (lwv (bkw B k) (Ls r))).toInt32)))) := by
  refine qm_of (ls := [.ref 307, .int n, .int k]) (by decide) (by simp [ai_en, Value.category]) (by rfl) ?_
  refine wq (fun _ _ kk => rs_aload_n (pc := 0) dX12_gives_0 rfl kk) ?_
  refine wq (fun _ _ kk => rs_iload_n (pc := 1) dX12_gives_1 rfl kk) ?_
  refine wq (fun _ _ kk => rs_callV (as := [_]) (pc := 2) dX12_gives_2 mk_X12_isLaw mlX12_390 in_X12_isLaw se_X12_isLaw rfl (md_lt hmd (by decide)) hmd.2.1 rfl rfl (Nat.le_of_ble_eq_true rfl) (c_X12_isLaw hmd _) kk) ?_
  rw [hML.1]
  refine wq_br (fun _ _ kt kf => rs_if_eq (tgt := 26) (pc := 5) dX12_gives_5 rfl kt kf) (fun c_5 => ?_) (fun c_5 => ?_)
  · refine wq (fun _ _ kk => rs_ldcw (pc := 26) dX12_gives_26 cnX12_397 kk) ?_
    refine wq_ret ?_ (rs_iret (pc := 29) dX12_gives_29 rfl)
    first
    | exact ⟨md_ext.rf, ⟨S, hmd, gvq.rf⟩, Or.inl ⟨by first | exact Or.inl c_5 | exact Or.inr c_13, rfl⟩⟩
    | exact ⟨md_ext.rf, ⟨W, hmd, hq⟩, Or.inr ⟨by rintro (z | z); exact c_5 z; exact c_13 z, r, hr, rfl, rfl⟩⟩
  · refine wq (fun _ _ kk => rs_aload_n (pc := 8) dX12_gives_8 rfl kk) ?_
    refine wq (fun _ _ kk => rs_iload_n (pc := 9) dX12_gives_9 rfl kk) ?_
    refine wq (fun _ _ kk => rs_callV (as := [_]) (pc := 10) dX12_gives_10 mk_X12_isRecord mlX12_223 in_X12_isRecord se_X12_isRecord rfl (md_lt hmd (by decide)) hmd.2.1 rfl rfl (Nat.le_of_ble_eq_true rfl) (c_X12_isRecord hmd _) kk) ?_
    rw [rb_rec hok hRB]
    refine wq_br (fun _ _ kt kf => rs_if_eq (tgt := 26) (pc := 13) dX12_gives_13 rfl kt kf) (fun c_13 => ?_) (fun c_13 => ?_)
    · refine wq (fun _ _ kk => rs_ldcw (pc := 26) dX12_gives_26 cnX12_397 kk) ?_
      refine wq_ret ?_ (rs_iret (pc := 29) dX12_gives_29 rfl)
      first
      | exact ⟨md_ext.rf, ⟨S, hmd, gvq.rf⟩, Or.inl ⟨by first | exact Or.inl c_5 | exact Or.inr c_13, rfl⟩⟩
      | exact ⟨md_ext.rf, ⟨W, hmd, hq⟩, Or.inr ⟨by rintro (z | z); exact c_5 z; exact c_13 z, r, hr, rfl, rfl⟩⟩
    · refine wq (fun _ _ kk => rs_aload_n (pc := 16) dX12_gives_16 rfl kk) ?_
      refine wq (fun _ _ kk => rs_iload_n (pc := 17) dX12_gives_17 rfl kk) ?_
      refine wq (fun _ _ kk => rs_iload_n (pc := 18) dX12_gives_18 rfl kk) ?_
      have hr4 := hok.2.2.2.2.1.2.1
      have hn10 := hML.2.1
      have c5 := c_5
      rw [tbh_in (by omega)] at c5
      obtain ⟨r, hr, rfl⟩ := has_ex (by omega) c5
      have c13 := c_13
      rw [hok.2.2.2.2.1.1] at c13
      obtain ⟨i, hi, rfl⟩ := has_ex (by omega) c13
      obtain ⟨rv_19, hc_19, ⟨ee_19, ⟨W, hmd_19, hq⟩, rfl⟩, hm_19⟩ := c_X12_given hok hRB (show r < 10 by omega) hi (hML.2.2 r hr).2 (hML.2.2 r hr).1 hmd
      refine wq (fun _ _ kk => rs_callV (as := [_, _]) (pc := 19) dX12_gives_19 mk_X12_given mlX12_393 in_X12_given se_X12_given rfl (md_lt hmd (by decide)) hmd.2.1 rfl rfl (Nat.le_of_ble_eq_true rfl) (hm_19) kk) ?_
      replace hmd := hmd_19
      have E_19 := (md_ext.rf).trans ee_19
      refine wq (fun _ _ kk => rs_l2i (pc := 22) dX12_gives_22 kk) ?_
      refine wq (fun _ _ kk => rs_goto (tgt := 29) (pc := 23) dX12_gives_23 rfl kk) ?_
      refine wq_ret ?_ (rs_iret (pc := 29) dX12_gives_29 rfl)
      first
      | exact ⟨E_19, ⟨S, hmd, gvq.rf⟩, Or.inl ⟨by first | exact Or.inl c_5 | exact Or.inr c_13, rfl⟩⟩
      | exact ⟨E_19, ⟨W, hmd, hq⟩, Or.inr ⟨by rintro (z | z); exact c_5 z; exact c_13 z, r, hr, rfl, rfl⟩⟩
theorem dX12_leaves_0 : decode cX12_leaves 0 = .ok (.lconst 0, 1) := by decide +kernel
theorem dX12_leaves_1 : decode cX12_leaves 1 = .ok (.lstore 4, 2) := by decide +kernel
theorem dX12_leaves_3 : decode cX12_leaves 3 = .ok (.iconst 0, 1) := by decide +kernel
theorem dX12_leaves_4 : decode cX12_leaves 4 = .ok (.istore 6, 2) := by decide +kernel
theorem dX12_leaves_6 : decode cX12_leaves 6 = .ok (.iload 6, 2) := by decide +kernel
theorem dX12_leaves_8 : decode cX12_leaves 8 = .ok (.aload_n 0, 1) := by decide +kernel
theorem dX12_leaves_9 : decode cX12_leaves 9 = .ok (.getfield 197, 3) := by decide +kernel
theorem dX12_leaves_12 : decode cX12_leaves 12 = .ok (.if_icmp .ge 60, 3) := by decide +kernel
theorem dX12_leaves_15 : decode cX12_leaves 15 = .ok (.aload_n 0, 1) := by decide +kernel
theorem dX12_leaves_16 : decode cX12_leaves 16 = .ok (.iload 6, 2) := by decide +kernel
theorem dX12_leaves_18 : decode cX12_leaves 18 = .ok (.iload_n 1, 1) := by decide +kernel
theorem dX12_leaves_19 : decode cX12_leaves 19 = .ok (.iload_n 3, 1) := by decide +kernel
theorem dX12_leaves_20 : decode cX12_leaves 20 = .ok (.invokevirtual 450, 3) := by decide +kernel
theorem dX12_leaves_23 : decode cX12_leaves 23 = .ok (.ifCond .eq 43, 3) := by decide +kernel
theorem dX12_leaves_26 : decode cX12_leaves 26 = .ok (.ldc2_w 401, 3) := by decide +kernel
theorem dX12_leaves_29 : decode cX12_leaves 29 = .ok (.aload_n 0, 1) := by decide +kernel
theorem dX12_leaves_30 : decode cX12_leaves 30 = .ok (.getfield 46, 3) := by decide +kernel
theorem dX12_leaves_33 : decode cX12_leaves 33 = .ok (.iload 6, 2) := by decide +kernel
theorem dX12_leaves_35 : decode cX12_leaves 35 = .ok (.iaload, 1) := by decide +kernel
theorem dX12_leaves_36 : decode cX12_leaves 36 = .ok (.aload_n 0, 1) := by decide +kernel
theorem dX12_leaves_37 : decode cX12_leaves 37 = .ok (.getfield 49, 3) := by decide +kernel
theorem dX12_leaves_40 : decode cX12_leaves 40 = .ok (.iload 6, 2) := by decide +kernel
theorem dX12_leaves_42 : decode cX12_leaves 42 = .ok (.iaload, 1) := by decide +kernel
theorem dX12_leaves_43 : decode cX12_leaves 43 = .ok (.isub, 1) := by decide +kernel
theorem dX12_leaves_44 : decode cX12_leaves 44 = .ok (.i2l, 1) := by decide +kernel
theorem dX12_leaves_45 : decode cX12_leaves 45 = .ok (.lmul, 1) := by decide +kernel
theorem dX12_leaves_46 : decode cX12_leaves 46 = .ok (.aload_n 0, 1) := by decide +kernel
theorem dX12_leaves_47 : decode cX12_leaves 47 = .ok (.iload_n 2, 1) := by decide +kernel
theorem dX12_leaves_48 : decode cX12_leaves 48 = .ok (.iload 6, 2) := by decide +kernel
theorem dX12_leaves_50 : decode cX12_leaves 50 = .ok (.invokevirtual 393, 3) := by decide +kernel
theorem dX12_leaves_53 : decode cX12_leaves 53 = .ok (.lsub, 1) := by decide +kernel
theorem dX12_leaves_54 : decode cX12_leaves 54 = .ok (.lstore 7, 2) := by decide +kernel
theorem dX12_leaves_56 : decode cX12_leaves 56 = .ok (.lload 4, 2) := by decide +kernel
theorem dX12_leaves_58 : decode cX12_leaves 58 = .ok (.lload 7, 2) := by decide +kernel
theorem dX12_leaves_60 : decode cX12_leaves 60 = .ok (.lload 7, 2) := by decide +kernel
theorem dX12_leaves_62 : decode cX12_leaves 62 = .ok (.lmul, 1) := by decide +kernel
theorem dX12_leaves_63 : decode cX12_leaves 63 = .ok (.ladd, 1) := by decide +kernel
theorem dX12_leaves_64 : decode cX12_leaves 64 = .ok (.lstore 4, 2) := by decide +kernel
theorem dX12_leaves_66 : decode cX12_leaves 66 = .ok (.iinc 6 1, 3) := by decide +kernel
theorem dX12_leaves_69 : decode cX12_leaves 69 = .ok (.goto (-63), 3) := by decide +kernel
theorem dX12_leaves_72 : decode cX12_leaves 72 = .ok (.lload 4, 2) := by decide +kernel
theorem dX12_leaves_74 : decode cX12_leaves 74 = .ok (.lreturn, 1) := by decide +kernel
set_option maxRecDepth 100000 in
set_option maxHeartbeats 4000000 in
theorem l_X12_leaves {h : ai_H} {S : Md} {B : Bk} {ln r : Nat} {C : List Cl} {o k : Int32} (hok : bk_ok B ln) (hRB : RB B S) (hr : r < 10) (hw : k.toInt ≤ 9999) (hC : lwOK C) (hML : ML S r C) : ∀ (m i : Nat) (u7 u8 : Value) (W : Md) (g : ai_H), i ≤ nR B → nR B + 1 ≤ i + m → md_ext h g → md_at g W → gvq S W → ai_W MX12_leaves 6 [.ref 307, .int o, .int (nI r), .int k, .long (lvS B C o k i), .float 0, .int (nI i), u7, u8] [] g (fun res g => md_ext h g ∧ (∃ W, md_at g W ∧ gvq S W) ∧ res = some (.long (lvS B C o k (nR B)))) := by
  have hr4 := hok.2.2.2.2.1.2.1
  intro m
  induction m with
  | zero => intro i u7 u8 W g h1 h2; exact absurd h2 (by omega)
  | succ m ih =>
    intro i u7 u8 W g hi0 him E0 hmd hq
    refine wq (fun _ _ kk => rs_iload (pc := 6) dX12_leaves_6 rfl kk) ?_
    refine wq (fun _ _ kk => rs_aload_n (pc := 8) dX12_leaves_8 rfl kk) ?_
    refine wq (fun _ _ kk => rs_getf (pc := 9) dX12_leaves_9 fX12_197 (md_lt hmd (by decide)) hmd.2.1 rfl kk) ?_
    rw [hq.1, hRB.1.2.2.2.2.1, hok.2.2.2.2.1.1]
    refine wq_br (fun _ _ kt kf => rs_icmp_ge (tgt := 72) (pc := 12) dX12_leaves_12 rfl kt kf) (fun c_12 => ?_) (fun c_12 => ?_)
    · have hie : i = nR B := lp_exit rfl (by omega) hi0 c_12
      subst hie
      refine wq (fun _ _ kk => rs_lload (pc := 72) dX12_leaves_72 rfl kk) ?_
      refine wq_ret ?_ (rs_lret (pc := 74) dX12_leaves_74 rfl)
      exact ⟨E0, ⟨W, hmd, hq⟩, rfl⟩
    · have hi : i < nR B := lp_go rfl (by omega) c_12
      have hRV := hRB.of hq.sb
      obtain ⟨-, -, -, -, -, q6, q7, -⟩ := hRV.2.2.2.2.1 i hi
      refine wq (fun _ _ kk => rs_aload_n (pc := 15) dX12_leaves_15 rfl kk) ?_
      refine wq (fun _ _ kk => rs_iload (pc := 16) dX12_leaves_16 rfl kk) ?_
      refine wq (fun _ _ kk => rs_iload_n (pc := 18) dX12_leaves_18 rfl kk) ?_
      refine wq (fun _ _ kk => rs_iload_n (pc := 19) dX12_leaves_19 rfl kk) ?_
      refine wq (fun _ _ kk => rs_callV (as := [_, _, _]) (pc := 20) dX12_leaves_20 mk_X12_isOwn mlX12_450 in_X12_isOwn se_X12_isOwn rfl (md_lt hmd (by decide)) hmd.2.1 rfl rfl (Nat.le_of_ble_eq_true rfl) (c_X12_isOwn hok hRV hi hw hmd) kk) ?_
      refine wq_br (fun _ _ kt kf => rs_if_eq (tgt := 66) (pc := 23) dX12_leaves_23 rfl kt kf) (fun c_23 => ?_) (fun c_23 => ?_)
      · refine wq (fun _ _ kk => wk_iinc6 (v := nI (i + 1)) (pc := 66) dX12_leaves_66 (by decide) rfl (nI_1 i) kk) ?_
        refine wq (fun _ _ kk => rs_goto (tgt := 6) (pc := 69) dX12_leaves_69 rfl kk) ?_
        have e := ih (i + 1) u7 u8 W g (by omega) (by omega) E0 hmd hq
        rw [lvS, if_pos c_23] at e
        exact e
      · refine wq (fun _ _ kk => rs_ldc2 (pc := 26) dX12_leaves_26 cnX12_401 kk) ?_
        refine wq (fun _ _ kk => rs_aload_n (pc := 29) dX12_leaves_29 rfl kk) ?_
        refine wq (fun _ _ kk => rs_getf (pc := 30) dX12_leaves_30 fX12_46 (md_lt hmd (by decide)) hmd.2.1 rfl kk) ?_
        refine wq (fun _ _ kk => rs_iload (pc := 33) dX12_leaves_33 rfl kk) ?_
        refine wq (fun _ _ kk => rs_iald (pc := 35) dX12_leaves_35 (md_lt hmd (by decide)) (md_geti (d := 12) (k := 18) (kd := 0) (n := 400) rfl (by decide) hmd) (vp_in_nI (n := i) (N := 400) (by omega) (by decide)) kk) ?_
        rw [nI_clamp (show i < 2 ^ 31 by omega), q6]
        refine wq (fun _ _ kk => rs_aload_n (pc := 36) dX12_leaves_36 rfl kk) ?_
        refine wq (fun _ _ kk => rs_getf (pc := 37) dX12_leaves_37 fX12_49 (md_lt hmd (by decide)) hmd.2.1 rfl kk) ?_
        refine wq (fun _ _ kk => rs_iload (pc := 40) dX12_leaves_40 rfl kk) ?_
        refine wq (fun _ _ kk => rs_iald (pc := 42) dX12_leaves_42 (md_lt hmd (by decide)) (md_geti (d := 13) (k := 19) (kd := 0) (n := 400) rfl (by decide) hmd) (vp_in_nI (n := i) (N := 400) (by omega) (by decide)) kk) ?_
        rw [nI_clamp (show i < 2 ^ 31 by omega), q7]
        refine wq (fun _ _ kk => rs_isub (pc := 43) dX12_leaves_43 kk) ?_
        rw [show bk_rat B (nI i) 5 - bk_rat B (nI i) 6 = bk_late B (nI i) from rfl]
        refine wq (fun _ _ kk => rs_i2l (pc := 44) dX12_leaves_44 kk) ?_
        refine wq (fun _ _ kk => rs_lmul (pc := 45) dX12_leaves_45 kk) ?_
        refine wq (fun _ _ kk => rs_aload_n (pc := 46) dX12_leaves_46 rfl kk) ?_
        refine wq (fun _ _ kk => rs_iload_n (pc := 47) dX12_leaves_47 rfl kk) ?_
        refine wq (fun _ _ kk => rs_iload (pc := 48) dX12_leaves_48 rfl kk) ?_
        obtain ⟨rv_50, hc_50, ⟨ee_50, ⟨W2, hmd_50, hq2⟩, rfl⟩, hm_50⟩ := c_X12_given hok hRV hr hi hC ⟨by rw [hq.2.2.1]; exact hML.1, MC_of hq.2.2.1 hML.2⟩ hmd
        refine wq (fun _ _ kk => rs_callV (as := [_, _]) (pc := 50) dX12_leaves_50 mk_X12_given mlX12_393 in_X12_given se_X12_given rfl (md_lt hmd (by decide)) hmd.2.1 rfl rfl (Nat.le_of_ble_eq_true rfl) (hm_50) kk) ?_
        replace hmd := hmd_50
        have E_50 := (E0).trans ee_50
        refine wq (fun _ _ kk => rs_lsub (pc := 53) dX12_leaves_53 kk) ?_
        refine wq (fun _ _ kk => wk_lst7 (pc := 54) dX12_leaves_54 (by decide) rfl kk) ?_
        refine wq (fun _ _ kk => rs_lload (pc := 56) dX12_leaves_56 rfl kk) ?_
        refine wq (fun _ _ kk => rs_lload (pc := 58) dX12_leaves_58 rfl kk) ?_
        refine wq (fun _ _ kk => rs_lload (pc := 60) dX12_leaves_60 rfl kk) ?_
        refine wq (fun _ _ kk => rs_lmul (pc := 62) dX12_leaves_62 kk) ?_
        refine wq (fun _ _ kk => rs_ladd (pc := 63) dX12_leaves_63 kk) ?_
        refine wq (fun _ _ kk => wk_lst4 (pc := 64) dX12_leaves_64 (by decide) rfl kk) ?_
        refine wq (fun _ _ kk => wk_iinc6 (v := nI (i + 1)) (pc := 66) dX12_leaves_66 (by decide) rfl (nI_1 i) kk) ?_
        refine wq (fun _ _ kk => rs_goto (tgt := 6) (pc := 69) dX12_leaves_69 rfl kk) ?_
        have e := fun u7 u8 => ih (i + 1) u7 u8 W2 _ (by omega) (by omega) (E_50) hmd (hq.trans hq2)
        rw [lvS, if_neg c_23] at e
        exact e _ _
set_option maxRecDepth 100000 in
set_option maxHeartbeats 4000000 in
theorem c_X12_leaves {h : ai_H} {S : Md} {B : Bk} {ln r : Nat} {C : List Cl} {o k : Int32} (hok : bk_ok B ln) (hRB : RB B S) (hr : r < 10) (hw : k.toInt ≤ 9999) (hC : lwOK C) (hML : ML S r C) (hmd : md_at h S) : ai_QM MX12_leaves [.ref 307, .int o, .int (nI r), .int k] h (fun res g => md_ext h g ∧ (∃ W, md_at g W ∧ gvq S W) ∧ res = some (.long (lvS B C o k (nR B)))) := by
  refine qm_of (ls := [.ref 307, .int o, .int (nI r), .int k, .float 0, .float 0, .float 0, .float 0, .float 0]) (by decide) (by simp [ai_en, Value.category]) (by rfl) ?_
  refine wq (fun _ _ kk => rs_lconst (v := 0) (pc := 0) dX12_leaves_0 rfl kk) ?_
  refine wq (fun _ _ kk => wk_lst4 (pc := 1) dX12_leaves_1 (by decide) rfl kk) ?_
  refine wq (fun _ _ kk => rs_iconst (v := 0) (pc := 3) dX12_leaves_3 rfl kk) ?_
  refine wq (fun _ _ kk => wk_ist6 (pc := 4) dX12_leaves_4 (by decide) rfl kk) ?_
  exact l_X12_leaves (h := h) hok hRB hr hw hC hML (nR B + 1) 0 _ _ S h (by omega) (by omega) md_ext.rf hmd gvq.rf
theorem dX12_left_0 : decode cX12_left 0 = .ok (.aload_n 0, 1) := by decide +kernel
theorem dX12_left_1 : decode cX12_left 1 = .ok (.iload_n 1, 1) := by decide +kernel
theorem dX12_left_2 : decode cX12_left 2 = .ok (.invokevirtual 217, 3) := by decide +kernel
theorem dX12_left_5 : decode cX12_left 5 = .ok (.ifCond .eq 28, 3) := by decide +kernel
theorem dX12_left_8 : decode cX12_left 8 = .ok (.aload_n 0, 1) := by decide +kernel
theorem dX12_left_9 : decode cX12_left 9 = .ok (.iload_n 2, 1) := by decide +kernel
theorem dX12_left_10 : decode cX12_left 10 = .ok (.invokevirtual 390, 3) := by decide +kernel
theorem dX12_left_13 : decode cX12_left 13 = .ok (.ifCond .eq 20, 3) := by decide +kernel
theorem dX12_left_16 : decode cX12_left 16 = .ok (.iload_n 3, 1) := by decide +kernel
theorem dX12_left_17 : decode cX12_left 17 = .ok (.invokestatic 230, 3) := by decide +kernel
theorem dX12_left_20 : decode cX12_left 20 = .ok (.ifCond .eq 13, 3) := by decide +kernel
theorem dX12_left_23 : decode cX12_left 23 = .ok (.aload_n 0, 1) := by decide +kernel
theorem dX12_left_24 : decode cX12_left 24 = .ok (.iload_n 1, 1) := by decide +kernel
theorem dX12_left_25 : decode cX12_left 25 = .ok (.iload_n 2, 1) := by decide +kernel
theorem dX12_left_26 : decode cX12_left 26 = .ok (.iload_n 3, 1) := by decide +kernel
theorem dX12_left_27 : decode cX12_left 27 = .ok (.invokevirtual 453, 3) := by decide +kernel
theorem dX12_left_30 : decode cX12_left 30 = .ok (.goto 6, 3) := by decide +kernel
theorem dX12_left_33 : decode cX12_left 33 = .ok (.ldc2_w 446, 3) := by decide +kernel
theorem dX12_left_36 : decode cX12_left 36 = .ok (.lreturn, 1) := by decide +kernel
set_option maxRecDepth 100000 in
set_option maxHeartbeats 4000000 in
theorem c_X12_left {h : ai_H} {S : Md} {B : Bk} {ln nl : Nat} {Ls : Nat → List Cl} (hok : bk_ok B ln) (hRB : RB B S) (hML : MLS S nl Ls) (hmd : md_at h S) (o n k : Int32) : ai_QM MX12_left [.ref 307, .int o, .int n, .int k] h (fun res g => md_ext h g ∧ (∃ V, md_at g V ∧ gvq S V) ∧ (((tb_has (bk_o B).1 o = 0 ∨ bi_in n 0 (nI nl - 1) = 0 ∨ bi_in k 0 9999 = 0) ∧ res = some (.long (-1))) ∨ (¬ (tb_has (bk_o B).1 o = 0 ∨ bi_in n 0 (nI nl - 1) = 0 ∨ bi_in k 0 9999 = 0) ∧ ∃ r, r < nl ∧ n = nI r ∧ res = some (.long (lvS B (Ls r) o k (nR B)))))) := by
  refine qm_of (ls := [.ref 307, .int o, .int n, .int k]) (by decide) (by simp [ai_en, Value.category]) (by rfl) ?_
  refine wq (fun _ _ kk => rs_aload_n (pc := 0) dX12_left_0 rfl kk) ?_
  refine wq (fun _ _ kk => rs_iload_n (pc := 1) dX12_left_1 rfl kk) ?_
  refine wq (fun _ _ kk => rs_callV (as := [_]) (pc := 2) dX12_left_2 mk_X12_isObserver mlX12_217 in_X12_isObserver se_X12_isObserver rfl (md_lt hmd (by decide)) hmd.2.1 rfl rfl (Nat.le_of_ble_eq_true rfl) (c_X12_isObserver hmd _) kk) ?_
  rw [rb_obs hok hRB]
  refine wq_br (fun _ _ kt kf => rs_if_eq (tgt := 33) (pc := 5) dX12_left_5 rfl kt kf) (fun c_5 => ?_) (fun c_5 => ?_)
  · refine wq (fun _ _ kk => rs_ldc2 (pc := 33) dX12_left_33 cnX12_446 kk) ?_
    refine wq_ret ?_ (rs_lret (pc := 36) dX12_left_36 rfl)
    first
    | exact ⟨md_ext.rf, ⟨S, hmd, gvq.rf⟩, Or.inl ⟨by first | exact Or.inl c_5 | exact Or.inr (Or.inl c_13) | exact Or.inr (Or.inr c_20), rfl⟩⟩
    | exact ⟨md_ext.rf, ⟨W, hmd, hq⟩, Or.inr ⟨by rintro (z | z | z); exact c_5 z; exact c_13 z; exact c_20 z, r, hr, rfl, rfl⟩⟩
  · refine wq (fun _ _ kk => rs_aload_n (pc := 8) dX12_left_8 rfl kk) ?_
    refine wq (fun _ _ kk => rs_iload_n (pc := 9) dX12_left_9 rfl kk) ?_
    refine wq (fun _ _ kk => rs_callV (as := [_]) (pc := 10) dX12_left_10 mk_X12_isLaw mlX12_390 in_X12_isLaw se_X12_isLaw rfl (md_lt hmd (by decide)) hmd.2.1 rfl rfl (Nat.le_of_ble_eq_true rfl) (c_X12_isLaw hmd _) kk) ?_
    rw [hML.1]
    refine wq_br (fun _ _ kt kf => rs_if_eq (tgt := 33) (pc := 13) dX12_left_13 rfl kt kf) (fun c_13 => ?_) (fun c_13 => ?_)
    · refine wq (fun _ _ kk => rs_ldc2 (pc := 33) dX12_left_33 cnX12_446 kk) ?_
      refine wq_ret ?_ (rs_lret (pc := 36) dX12_left_36 rfl)
      first
      | exact ⟨md_ext.rf, ⟨S, hmd, gvq.rf⟩, Or.inl ⟨by first | exact Or.inl c_5 | exact Or.inr (Or.inl c_13) | exact Or.inr (Or.inr c_20), rfl⟩⟩
      | exact ⟨md_ext.rf, ⟨W, hmd, hq⟩, Or.inr ⟨by rintro (z | z | z); exact c_5 z; exact c_13 z; exact c_20 z, r, hr, rfl, rfl⟩⟩
    · refine wq (fun _ _ kk => rs_iload_n (pc := 16) dX12_left_16 rfl kk) ?_
      refine wq (fun _ _ kk => rs_callS (as := [_]) (pc := 17) dX12_left_17 mk_X12_isWeek mlX12_230 st_X12_isWeek rfl rfl (Nat.le_of_ble_eq_true rfl) (c_X12_isWeek _) kk) ?_
      refine wq_br (fun _ _ kt kf => rs_if_eq (tgt := 33) (pc := 20) dX12_left_20 rfl kt kf) (fun c_20 => ?_) (fun c_20 => ?_)
      · refine wq (fun _ _ kk => rs_ldc2 (pc := 33) dX12_left_33 cnX12_446 kk) ?_
        refine wq_ret ?_ (rs_lret (pc := 36) dX12_left_36 rfl)
        first
        | exact ⟨md_ext.rf, ⟨S, hmd, gvq.rf⟩, Or.inl ⟨by first | exact Or.inl c_5 | exact Or.inr (Or.inl c_13) | exact Or.inr (Or.inr c_20), rfl⟩⟩
        | exact ⟨md_ext.rf, ⟨W, hmd, hq⟩, Or.inr ⟨by rintro (z | z | z); exact c_5 z; exact c_13 z; exact c_20 z, r, hr, rfl, rfl⟩⟩
      · refine wq (fun _ _ kk => rs_aload_n (pc := 23) dX12_left_23 rfl kk) ?_
        refine wq (fun _ _ kk => rs_iload_n (pc := 24) dX12_left_24 rfl kk) ?_
        refine wq (fun _ _ kk => rs_iload_n (pc := 25) dX12_left_25 rfl kk) ?_
        refine wq (fun _ _ kk => rs_iload_n (pc := 26) dX12_left_26 rfl kk) ?_
        have hn10 := hML.2.1
        have c13 := c_13
        rw [tbh_in (by omega)] at c13
        obtain ⟨r, hr, rfl⟩ := has_ex (by omega) c13
        obtain ⟨rv_27, hc_27, ⟨ee_27, ⟨W, hmd_27, hq⟩, rfl⟩, hm_27⟩ := c_X12_leaves (o := o) hok hRB (show r < 10 by omega) (bi_in_9 c_20).2 (hML.2.2 r hr).2 (hML.2.2 r hr).1 hmd
        refine wq (fun _ _ kk => rs_callV (as := [_, _, _]) (pc := 27) dX12_left_27 mk_X12_leaves mlX12_453 in_X12_leaves se_X12_leaves rfl (md_lt hmd (by decide)) hmd.2.1 rfl rfl (Nat.le_of_ble_eq_true rfl) (hm_27) kk) ?_
        replace hmd := hmd_27
        have E_27 := (md_ext.rf).trans ee_27
        refine wq (fun _ _ kk => rs_goto (tgt := 36) (pc := 30) dX12_left_30 rfl kk) ?_
        refine wq_ret ?_ (rs_lret (pc := 36) dX12_left_36 rfl)
        first
        | exact ⟨E_27, ⟨S, hmd, gvq.rf⟩, Or.inl ⟨by first | exact Or.inl c_5 | exact Or.inr (Or.inl c_13) | exact Or.inr (Or.inr c_20), rfl⟩⟩
        | exact ⟨E_27, ⟨W, hmd, hq⟩, Or.inr ⟨by rintro (z | z | z); exact c_5 z; exact c_13 z; exact c_20 z, r, hr, rfl, rfl⟩⟩
/-- the least so far -/
def bsL (v : Nat → Int64) (r : Nat) : Int64 := if r = 0 then 0 else v (bsI v r).toNatClampNeg
theorem bsL_s (v : Nat → Int64) {r : Nat} (h : ¬ r = 0) : bsL v r = v (bsI v r).toNatClampNeg := if_neg h
theorem bsI_1 (v : Nat → Int64) (r : Nat) : bsI v (r + 1) = if bsI v r = -1 ∨ v r < bsL v r then nI r else bsI v r := by
  by_cases e : r = 0
  · subst e
    have z : bsI v 0 = -1 := rfl
    rw [if_pos (Or.inl z), bsI, if_pos (Or.inl z)]
  · rw [bsL_s v e, bsI]
theorem bsL_1 (v : Nat → Int64) (r : Nat) (hr : r < 10) : bsL v (r + 1) = if bsI v r = -1 ∨ v r < bsL v r then v r else bsL v r := by
  rw [bsL_s v (by omega), bsI_1]
  by_cases c : bsI v r = -1 ∨ v r < bsL v r
  · rw [if_pos c, if_pos c, nI_clamp (by omega)]
  · rw [if_neg c, if_neg c]
    by_cases e : r = 0
    · subst e; exact absurd (Or.inl rfl) c
    · rw [bsL_s v e]
theorem p100 {p : Int32} (h : ¬ bi_in p 0 900 = 0) : (100 + p).toInt64 = 100 + p.toInt64 := by
  unfold bi_in at h
  split at h
  · exact absurd rfl h
  · split at h
    · exact absurd rfl h
    · next h1 h2 =>
      rw [i32_lt, i32_0] at h1
      rw [i32_lt, show (900 : Int32).toInt = 900 from rfl] at h2
      rw [← aI_to p, show (100 : Int32) = aI 100 from rfl, aI_add, aI_i2l (by omega) (by omega), aI_i2l (by omega) (by omega), show (100 : Int64) = aL 100 from rfl, aL_add]
theorem dX12_best_0 : decode cX12_best 0 = .ok (.aload_n 0, 1) := by decide +kernel
theorem dX12_best_1 : decode cX12_best 1 = .ok (.iload_n 1, 1) := by decide +kernel
theorem dX12_best_2 : decode cX12_best 2 = .ok (.invokevirtual 217, 3) := by decide +kernel
theorem dX12_best_5 : decode cX12_best 5 = .ok (.ifCond .eq 33, 3) := by decide +kernel
theorem dX12_best_8 : decode cX12_best 8 = .ok (.iload_n 2, 1) := by decide +kernel
theorem dX12_best_9 : decode cX12_best 9 = .ok (.invokestatic 230, 3) := by decide +kernel
theorem dX12_best_12 : decode cX12_best 12 = .ok (.ifCond .eq 26, 3) := by decide +kernel
theorem dX12_best_15 : decode cX12_best 15 = .ok (.iload_n 3, 1) := by decide +kernel
theorem dX12_best_16 : decode cX12_best 16 = .ok (.i2l, 1) := by decide +kernel
theorem dX12_best_17 : decode cX12_best 17 = .ok (.lconst 0, 1) := by decide +kernel
theorem dX12_best_18 : decode cX12_best 18 = .ok (.ldc2_w 456, 3) := by decide +kernel
theorem dX12_best_21 : decode cX12_best 21 = .ok (.invokestatic 181, 3) := by decide +kernel
theorem dX12_best_24 : decode cX12_best 24 = .ok (.ifCond .eq 14, 3) := by decide +kernel
theorem dX12_best_27 : decode cX12_best 27 = .ok (.iload 4, 2) := by decide +kernel
theorem dX12_best_29 : decode cX12_best 29 = .ok (.i2l, 1) := by decide +kernel
theorem dX12_best_30 : decode cX12_best 30 = .ok (.lconst 0, 1) := by decide +kernel
theorem dX12_best_31 : decode cX12_best 31 = .ok (.lconst 1, 1) := by decide +kernel
theorem dX12_best_32 : decode cX12_best 32 = .ok (.invokestatic 181, 3) := by decide +kernel
theorem dX12_best_35 : decode cX12_best 35 = .ok (.ifCond .ne 6, 3) := by decide +kernel
theorem dX12_best_38 : decode cX12_best 38 = .ok (.bipush (-2), 2) := by decide +kernel
theorem dX12_best_40 : decode cX12_best 40 = .ok (.ireturn, 1) := by decide +kernel
theorem dX12_best_41 : decode cX12_best 41 = .ok (.iconst (-1), 1) := by decide +kernel
theorem dX12_best_42 : decode cX12_best 42 = .ok (.istore 5, 2) := by decide +kernel
theorem dX12_best_44 : decode cX12_best 44 = .ok (.lconst 0, 1) := by decide +kernel
theorem dX12_best_45 : decode cX12_best 45 = .ok (.lstore 6, 2) := by decide +kernel
theorem dX12_best_47 : decode cX12_best 47 = .ok (.iconst 0, 1) := by decide +kernel
theorem dX12_best_48 : decode cX12_best 48 = .ok (.istore 8, 2) := by decide +kernel
theorem dX12_best_50 : decode cX12_best 50 = .ok (.iload 8, 2) := by decide +kernel
theorem dX12_best_52 : decode cX12_best 52 = .ok (.aload_n 0, 1) := by decide +kernel
theorem dX12_best_53 : decode cX12_best 53 = .ok (.getfield 294, 3) := by decide +kernel
theorem dX12_best_56 : decode cX12_best 56 = .ok (.if_icmp .ge 68, 3) := by decide +kernel
theorem dX12_best_59 : decode cX12_best 59 = .ok (.aload_n 0, 1) := by decide +kernel
theorem dX12_best_60 : decode cX12_best 60 = .ok (.iload_n 1, 1) := by decide +kernel
theorem dX12_best_61 : decode cX12_best 61 = .ok (.iload 8, 2) := by decide +kernel
theorem dX12_best_63 : decode cX12_best 63 = .ok (.iload_n 2, 1) := by decide +kernel
theorem dX12_best_64 : decode cX12_best 64 = .ok (.invokevirtual 453, 3) := by decide +kernel
theorem dX12_best_67 : decode cX12_best 67 = .ok (.lstore 9, 2) := by decide +kernel
theorem dX12_best_69 : decode cX12_best 69 = .ok (.iload 5, 2) := by decide +kernel
theorem dX12_best_71 : decode cX12_best 71 = .ok (.iconst (-1), 1) := by decide +kernel
theorem dX12_best_72 : decode cX12_best 72 = .ok (.if_icmp .eq 11, 3) := by decide +kernel
theorem dX12_best_75 : decode cX12_best 75 = .ok (.lload 9, 2) := by decide +kernel
theorem dX12_best_77 : decode cX12_best 77 = .ok (.lload 6, 2) := by decide +kernel
theorem dX12_best_79 : decode cX12_best 79 = .ok (.lcmp, 1) := by decide +kernel
theorem dX12_best_80 : decode cX12_best 80 = .ok (.ifCond .ge 7, 3) := by decide +kernel
theorem dX12_best_83 : decode cX12_best 83 = .ok (.iconst 1, 1) := by decide +kernel
theorem dX12_best_84 : decode cX12_best 84 = .ok (.goto 4, 3) := by decide +kernel
theorem dX12_best_87 : decode cX12_best 87 = .ok (.iconst 0, 1) := by decide +kernel
theorem dX12_best_88 : decode cX12_best 88 = .ok (.istore 11, 2) := by decide +kernel
theorem dX12_best_90 : decode cX12_best 90 = .ok (.iload 11, 2) := by decide +kernel
theorem dX12_best_92 : decode cX12_best 92 = .ok (.ifCond .eq 8, 3) := by decide +kernel
theorem dX12_best_95 : decode cX12_best 95 = .ok (.iload 8, 2) := by decide +kernel
theorem dX12_best_97 : decode cX12_best 97 = .ok (.goto 5, 3) := by decide +kernel
theorem dX12_best_100 : decode cX12_best 100 = .ok (.iload 5, 2) := by decide +kernel
theorem dX12_best_102 : decode cX12_best 102 = .ok (.istore 5, 2) := by decide +kernel
theorem dX12_best_104 : decode cX12_best 104 = .ok (.iload 11, 2) := by decide +kernel
theorem dX12_best_106 : decode cX12_best 106 = .ok (.ifCond .eq 8, 3) := by decide +kernel
theorem dX12_best_109 : decode cX12_best 109 = .ok (.lload 9, 2) := by decide +kernel
theorem dX12_best_111 : decode cX12_best 111 = .ok (.goto 5, 3) := by decide +kernel
theorem dX12_best_114 : decode cX12_best 114 = .ok (.lload 6, 2) := by decide +kernel
theorem dX12_best_116 : decode cX12_best 116 = .ok (.lstore 6, 2) := by decide +kernel
theorem dX12_best_118 : decode cX12_best 118 = .ok (.iinc 8 1, 3) := by decide +kernel
theorem dX12_best_121 : decode cX12_best 121 = .ok (.goto (-71), 3) := by decide +kernel
theorem dX12_best_124 : decode cX12_best 124 = .ok (.iconst 0, 1) := by decide +kernel
theorem dX12_best_125 : decode cX12_best 125 = .ok (.istore 8, 2) := by decide +kernel
theorem dX12_best_127 : decode cX12_best 127 = .ok (.iconst 0, 1) := by decide +kernel
theorem dX12_best_128 : decode cX12_best 128 = .ok (.istore 9, 2) := by decide +kernel
theorem dX12_best_130 : decode cX12_best 130 = .ok (.iload 9, 2) := by decide +kernel
theorem dX12_best_132 : decode cX12_best 132 = .ok (.aload_n 0, 1) := by decide +kernel
theorem dX12_best_133 : decode cX12_best 133 = .ok (.getfield 294, 3) := by decide +kernel
theorem dX12_best_136 : decode cX12_best 136 = .ok (.if_icmp .ge 47, 3) := by decide +kernel
theorem dX12_best_139 : decode cX12_best 139 = .ok (.iload 8, 2) := by decide +kernel
theorem dX12_best_141 : decode cX12_best 141 = .ok (.aload_n 0, 1) := by decide +kernel
theorem dX12_best_142 : decode cX12_best 142 = .ok (.iload_n 1, 1) := by decide +kernel
theorem dX12_best_143 : decode cX12_best 143 = .ok (.iload 9, 2) := by decide +kernel
theorem dX12_best_145 : decode cX12_best 145 = .ok (.iload_n 2, 1) := by decide +kernel
theorem dX12_best_146 : decode cX12_best 146 = .ok (.invokevirtual 453, 3) := by decide +kernel
theorem dX12_best_149 : decode cX12_best 149 = .ok (.lload 6, 2) := by decide +kernel
theorem dX12_best_151 : decode cX12_best 151 = .ok (.ldc2_w 458, 3) := by decide +kernel
theorem dX12_best_154 : decode cX12_best 154 = .ok (.ldiv, 1) := by decide +kernel
theorem dX12_best_155 : decode cX12_best 155 = .ok (.ldc2_w 458, 3) := by decide +kernel
theorem dX12_best_158 : decode cX12_best 158 = .ok (.iload_n 3, 1) := by decide +kernel
theorem dX12_best_159 : decode cX12_best 159 = .ok (.i2l, 1) := by decide +kernel
theorem dX12_best_160 : decode cX12_best 160 = .ok (.ladd, 1) := by decide +kernel
theorem dX12_best_161 : decode cX12_best 161 = .ok (.lmul, 1) := by decide +kernel
theorem dX12_best_162 : decode cX12_best 162 = .ok (.lcmp, 1) := by decide +kernel
theorem dX12_best_163 : decode cX12_best 163 = .ok (.ifCond .gt 10, 3) := by decide +kernel
theorem dX12_best_166 : decode cX12_best 166 = .ok (.iconst 1, 1) := by decide +kernel
theorem dX12_best_167 : decode cX12_best 167 = .ok (.iload 9, 2) := by decide +kernel
theorem dX12_best_169 : decode cX12_best 169 = .ok (.ishl, 1) := by decide +kernel
theorem dX12_best_170 : decode cX12_best 170 = .ok (.goto 4, 3) := by decide +kernel
theorem dX12_best_173 : decode cX12_best 173 = .ok (.iconst 0, 1) := by decide +kernel
theorem dX12_best_174 : decode cX12_best 174 = .ok (.ior, 1) := by decide +kernel
theorem dX12_best_175 : decode cX12_best 175 = .ok (.istore 8, 2) := by decide +kernel
theorem dX12_best_177 : decode cX12_best 177 = .ok (.iinc 9 1, 3) := by decide +kernel
theorem dX12_best_180 : decode cX12_best 180 = .ok (.goto (-50), 3) := by decide +kernel
theorem dX12_best_183 : decode cX12_best 183 = .ok (.iload 4, 2) := by decide +kernel
theorem dX12_best_185 : decode cX12_best 185 = .ok (.ifCond .ne 8, 3) := by decide +kernel
theorem dX12_best_188 : decode cX12_best 188 = .ok (.iload 5, 2) := by decide +kernel
theorem dX12_best_190 : decode cX12_best 190 = .ok (.goto 5, 3) := by decide +kernel
theorem dX12_best_193 : decode cX12_best 193 = .ok (.iload 8, 2) := by decide +kernel
theorem dX12_best_195 : decode cX12_best 195 = .ok (.ireturn, 1) := by decide +kernel
set_option maxRecDepth 100000 in
set_option maxHeartbeats 4000000 in
theorem l1_X12_best {h : ai_H} {S : Md} {B : Bk} {ln nl : Nat} {Ls : Nat → List Cl} {o k p x : Int32} (hok : bk_ok B ln) (hRB : RB B S) (hML : MLS S nl Ls) (hw : k.toInt ≤ 9999) {Q : Option Value → ai_H → Prop} (kx : ∀ (u9 u10 u11 : Value) (W : Md) (g : ai_H), md_ext h g → md_at g W → gvq S W → ai_W MX12_best 124 [.ref 307, .int o, .int k, .int p, .int x, .int (bsI (fun r => lvS B (Ls r) o k (nR B)) nl), .long (bsL (fun r => lvS B (Ls r) o k (nR B)) nl), .float 0, .int (nI nl), u9, u10, u11] [] g Q) : ∀ (m r : Nat) (u9 u10 u11 : Value) (W : Md) (g : ai_H), r ≤ nl → nl + 1 ≤ r + m → md_ext h g → md_at g W → gvq S W → ai_W MX12_best 50 [.ref 307, .int o, .int k, .int p, .int x, .int (bsI (fun r => lvS B (Ls r) o k (nR B)) r), .long (bsL (fun r => lvS B (Ls r) o k (nR B)) r), .float 0, .int (nI r), u9, u10, u11] [] g Q := by
  have hn10 := hML.2.1
  intro m
  induction m with
  | zero => intro r u9 u10 u11 W g h1 h2; exact absurd h2 (by omega)
  | succ m ih =>
    intro r u9 u10 u11 W g hr0 him E0 hmd hq
    refine wq (fun _ _ kk => rs_iload (pc := 50) dX12_best_50 rfl kk) ?_
    refine wq (fun _ _ kk => rs_aload_n (pc := 52) dX12_best_52 rfl kk) ?_
    refine wq (fun _ _ kk => rs_getf (pc := 53) dX12_best_53 fX12_294 (md_lt hmd (by decide)) hmd.2.1 rfl kk) ?_
    rw [hq.1, hML.1]
    refine wq_br (fun _ _ kt kf => rs_icmp_ge (tgt := 124) (pc := 56) dX12_best_56 rfl kt kf) (fun c_56 => ?_) (fun c_56 => ?_)
    · have hre : nl = r := (lp_exit rfl (by omega) hr0 c_56).symm
      subst hre
      exact kx _ _ _ W g E0 hmd hq
    · have hr : r < nl := lp_go rfl (by omega) c_56
      refine wq (fun _ _ kk => rs_aload_n (pc := 59) dX12_best_59 rfl kk) ?_
      refine wq (fun _ _ kk => rs_iload_n (pc := 60) dX12_best_60 rfl kk) ?_
      refine wq (fun _ _ kk => rs_iload (pc := 61) dX12_best_61 rfl kk) ?_
      refine wq (fun _ _ kk => rs_iload_n (pc := 63) dX12_best_63 rfl kk) ?_
      obtain ⟨rv_64, hc_64, ⟨ee_64, ⟨W2, hmd_64, hq2⟩, rfl⟩, hm_64⟩ := c_X12_leaves (o := o) hok (hRB.of hq.sb) (show r < 10 by omega) hw (hML.2.2 r hr).2 (((hML.gv hq).2.2 r hr).1) hmd
      refine wq (fun _ _ kk => rs_callV (as := [_, _, _]) (pc := 64) dX12_best_64 mk_X12_leaves mlX12_453 in_X12_leaves se_X12_leaves rfl (md_lt hmd (by decide)) hmd.2.1 rfl rfl (Nat.le_of_ble_eq_true rfl) (hm_64) kk) ?_
      replace hmd := hmd_64
      have E_64 := (E0).trans ee_64
      have EQ := hq.trans hq2
      refine wq (fun _ _ kk => wk_lst9 (pc := 67) dX12_best_67 (by decide) rfl kk) ?_
      refine wq (fun _ _ kk => rs_iload (pc := 69) dX12_best_69 rfl kk) ?_
      refine wq (fun _ _ kk => rs_iconst (v := -1) (pc := 71) dX12_best_71 rfl kk) ?_
      refine wq_br (fun _ _ kt kf => rs_icmp_eq (tgt := 83) (pc := 72) dX12_best_72 rfl kt kf) (fun c_72 => ?_) (fun c_72 => ?_)
      · refine wq (fun _ _ kk => rs_iconst (v := 1) (pc := 83) dX12_best_83 rfl kk) ?_
        refine wq (fun _ _ kk => rs_goto (tgt := 88) (pc := 84) dX12_best_84 rfl kk) ?_
        refine wq (fun _ _ kk => wk_ist11 (pc := 88) dX12_best_88 (by decide) rfl kk) ?_
        refine wq (fun _ _ kk => rs_iload (pc := 90) dX12_best_90 rfl kk) ?_
        refine wq_br (fun _ _ kt kf => rs_if_eq (tgt := 100) (pc := 92) dX12_best_92 rfl kt kf) (fun c_92 => absurd c_92 (by decide)) (fun c_92 => ?_)
        refine wq (fun _ _ kk => rs_iload (pc := 95) dX12_best_95 rfl kk) ?_
        refine wq (fun _ _ kk => rs_goto (tgt := 102) (pc := 97) dX12_best_97 rfl kk) ?_
        refine wq (fun _ _ kk => wk_ist5 (pc := 102) dX12_best_102 (by decide) rfl kk) ?_
        refine wq (fun _ _ kk => rs_iload (pc := 104) dX12_best_104 rfl kk) ?_
        refine wq_br (fun _ _ kt kf => rs_if_eq (tgt := 114) (pc := 106) dX12_best_106 rfl kt kf) (fun c_106 => absurd c_106 (by decide)) (fun c_106 => ?_)
        refine wq (fun _ _ kk => rs_lload (pc := 109) dX12_best_109 rfl kk) ?_
        refine wq (fun _ _ kk => rs_goto (tgt := 116) (pc := 111) dX12_best_111 rfl kk) ?_
        refine wq (fun _ _ kk => wk_lst6 (pc := 116) dX12_best_116 (by decide) rfl kk) ?_
        refine wq (fun _ _ kk => wk_iinc8 (v := nI (r + 1)) (pc := 118) dX12_best_118 (by decide) rfl (nI_1 r) kk) ?_
        refine wq (fun _ _ kk => rs_goto (tgt := 50) (pc := 121) dX12_best_121 rfl kk) ?_
        have e := fun u9 u10 u11 => ih (r + 1) u9 u10 u11 W2 _ (by omega) (by omega) (E_64) hmd EQ
        rw [bsI_1, bsL_1 _ _ (by omega)] at e
        first
        | (rw [if_pos (Or.inl c_72), if_pos (Or.inl c_72)] at e; exact e _ _ _)
        | (have cc : ¬ (bsI (fun r => lvS B (Ls r) o k (nR B)) r = -1 ∨ (fun r => lvS B (Ls r) o k (nR B)) r < bsL (fun r => lvS B (Ls r) o k (nR B)) r) := by rintro (z | z); exact c_72 z; exact i64_le_n c_79 z
           rw [if_neg cc, if_neg cc] at e; exact e _ _ _)
        | (have cc : bsI (fun r => lvS B (Ls r) o k (nR B)) r = -1 ∨ (fun r => lvS B (Ls r) o k (nR B)) r < bsL (fun r => lvS B (Ls r) o k (nR B)) r := Or.inr (i64_nle c_79)
           rw [if_pos cc, if_pos cc] at e; exact e _ _ _)
      · refine wq (fun _ _ kk => rs_lload (pc := 75) dX12_best_75 rfl kk) ?_
        refine wq (fun _ _ kk => rs_lload (pc := 77) dX12_best_77 rfl kk) ?_
        refine wq_br (fun _ _ kt kf => wk_lcmp_ge (tgt := 87) (pc := 79) dX12_best_79 dX12_best_80 rfl kt kf) (fun c_79 => ?_) (fun c_79 => ?_)
        · refine wq (fun _ _ kk => rs_iconst (v := 0) (pc := 87) dX12_best_87 rfl kk) ?_
          refine wq (fun _ _ kk => wk_ist11 (pc := 88) dX12_best_88 (by decide) rfl kk) ?_
          refine wq (fun _ _ kk => rs_iload (pc := 90) dX12_best_90 rfl kk) ?_
          refine wq_br (fun _ _ kt kf => rs_if_eq (tgt := 100) (pc := 92) dX12_best_92 rfl kt kf) (fun c_92 => ?_) (fun c_92 => absurd c_92 (by decide))
          refine wq (fun _ _ kk => rs_iload (pc := 100) dX12_best_100 rfl kk) ?_
          refine wq (fun _ _ kk => wk_ist5 (pc := 102) dX12_best_102 (by decide) rfl kk) ?_
          refine wq (fun _ _ kk => rs_iload (pc := 104) dX12_best_104 rfl kk) ?_
          refine wq_br (fun _ _ kt kf => rs_if_eq (tgt := 114) (pc := 106) dX12_best_106 rfl kt kf) (fun c_106 => ?_) (fun c_106 => absurd c_106 (by decide))
          refine wq (fun _ _ kk => rs_lload (pc := 114) dX12_best_114 rfl kk) ?_
          refine wq (fun _ _ kk => wk_lst6 (pc := 116) dX12_best_116 (by decide) rfl kk) ?_
          refine wq (fun _ _ kk => wk_iinc8 (v := nI (r + 1)) (pc := 118) dX12_best_118 (by decide) rfl (nI_1 r) kk) ?_
          refine wq (fun _ _ kk => rs_goto (tgt := 50) (pc := 121) dX12_best_121 rfl kk) ?_
          have e := fun u9 u10 u11 => ih (r + 1) u9 u10 u11 W2 _ (by omega) (by omega) (E_64) hmd EQ
          rw [bsI_1, bsL_1 _ _ (by omega)] at e
          first
          | (rw [if_pos (Or.inl c_72), if_pos (Or.inl c_72)] at e; exact e _ _ _)
          | (have cc : ¬ (bsI (fun r => lvS B (Ls r) o k (nR B)) r = -1 ∨ (fun r => lvS B (Ls r) o k (nR B)) r < bsL (fun r => lvS B (Ls r) o k (nR B)) r) := by rintro (z | z); exact c_72 z; exact i64_le_n c_79 z
             rw [if_neg cc, if_neg cc] at e; exact e _ _ _)
          | (have cc : bsI (fun r => lvS B (Ls r) o k (nR B)) r = -1 ∨ (fun r => lvS B (Ls r) o k (nR B)) r < bsL (fun r => lvS B (Ls r) o k (nR B)) r := Or.inr (i64_nle c_79)
             rw [if_pos cc, if_pos cc] at e; exact e _ _ _)
        · refine wq (fun _ _ kk => rs_iconst (v := 1) (pc := 83) dX12_best_83 rfl kk) ?_
          refine wq (fun _ _ kk => rs_goto (tgt := 88) (pc := 84) dX12_best_84 rfl kk) ?_
          refine wq (fun _ _ kk => wk_ist11 (pc := 88) dX12_best_88 (by decide) rfl kk) ?_
          refine wq (fun _ _ kk => rs_iload (pc := 90) dX12_best_90 rfl kk) ?_
          refine wq_br (fun _ _ kt kf => rs_if_eq (tgt := 100) (pc := 92) dX12_best_92 rfl kt kf) (fun c_92 => absurd c_92 (by decide)) (fun c_92 => ?_)
          refine wq (fun _ _ kk => rs_iload (pc := 95) dX12_best_95 rfl kk) ?_
          refine wq (fun _ _ kk => rs_goto (tgt := 102) (pc := 97) dX12_best_97 rfl kk) ?_
          refine wq (fun _ _ kk => wk_ist5 (pc := 102) dX12_best_102 (by decide) rfl kk) ?_
          refine wq (fun _ _ kk => rs_iload (pc := 104) dX12_best_104 rfl kk) ?_
          refine wq_br (fun _ _ kt kf => rs_if_eq (tgt := 114) (pc := 106) dX12_best_106 rfl kt kf) (fun c_106 => absurd c_106 (by decide)) (fun c_106 => ?_)
          refine wq (fun _ _ kk => rs_lload (pc := 109) dX12_best_109 rfl kk) ?_
          refine wq (fun _ _ kk => rs_goto (tgt := 116) (pc := 111) dX12_best_111 rfl kk) ?_
          refine wq (fun _ _ kk => wk_lst6 (pc := 116) dX12_best_116 (by decide) rfl kk) ?_
          refine wq (fun _ _ kk => wk_iinc8 (v := nI (r + 1)) (pc := 118) dX12_best_118 (by decide) rfl (nI_1 r) kk) ?_
          refine wq (fun _ _ kk => rs_goto (tgt := 50) (pc := 121) dX12_best_121 rfl kk) ?_
          have e := fun u9 u10 u11 => ih (r + 1) u9 u10 u11 W2 _ (by omega) (by omega) (E_64) hmd EQ
          rw [bsI_1, bsL_1 _ _ (by omega)] at e
          first
          | (rw [if_pos (Or.inl c_72), if_pos (Or.inl c_72)] at e; exact e _ _ _)
          | (have cc : ¬ (bsI (fun r => lvS B (Ls r) o k (nR B)) r = -1 ∨ (fun r => lvS B (Ls r) o k (nR B)) r < bsL (fun r => lvS B (Ls r) o k (nR B)) r) := by rintro (z | z); exact c_72 z; exact i64_le_n c_79 z
             rw [if_neg cc, if_neg cc] at e; exact e _ _ _)
          | (have cc : bsI (fun r => lvS B (Ls r) o k (nR B)) r = -1 ∨ (fun r => lvS B (Ls r) o k (nR B)) r < bsL (fun r => lvS B (Ls r) o k (nR B)) r := Or.inr (i64_nle c_79)
             rw [if_pos cc, if_pos cc] at e; exact e _ _ _)
set_option maxRecDepth 100000 in
set_option maxHeartbeats 4000000 in
theorem l2_X12_best {h : ai_H} {S : Md} {B : Bk} {ln nl : Nat} {Ls : Nat → List Cl} {o k p x : Int32} (hok : bk_ok B ln) (hRB : RB B S) (hML : MLS S nl Ls) (hw : k.toInt ≤ 9999) {u10 : Value} (hp : ¬ bi_in p 0 900 = 0) : ∀ (m r : Nat) (u11 : Value) (W : Md) (g : ai_H), r ≤ nl → nl + 1 ≤ r + m → md_ext h g → md_at g W → gvq S W → ai_W MX12_best 130 [.ref 307, .int o, .int k, .int p, .int x, .int (bsI (fun r => lvS B (Ls r) o k (nR B)) nl), .long (bsL (fun r => lvS B (Ls r) o k (nR B)) nl), .float 0, .int (bsB (fun r => lvS B (Ls r) o k (nR B)) (bsL (fun r => lvS B (Ls r) o k (nR B)) nl / 100 * (100 + p.toInt64)) r), .int (nI r), u10, u11] [] g (fun res g => md_ext h g ∧ (∃ W, md_at g W ∧ gvq S W) ∧ res = some (.int (uu_best (fun r => lvS B (Ls r) o k (nR B)) nl p x))) := by
  have hn10 := hML.2.1
  intro m
  induction m with
  | zero => intro r u11 W g h1 h2; exact absurd h2 (by omega)
  | succ m ih =>
    intro r u11 W g hr0 him E0 hmd hq
    refine wq (fun _ _ kk => rs_iload (pc := 130) dX12_best_130 rfl kk) ?_
    refine wq (fun _ _ kk => rs_aload_n (pc := 132) dX12_best_132 rfl kk) ?_
    refine wq (fun _ _ kk => rs_getf (pc := 133) dX12_best_133 fX12_294 (md_lt hmd (by decide)) hmd.2.1 rfl kk) ?_
    rw [hq.1, hML.1]
    refine wq_br (fun _ _ kt kf => rs_icmp_ge (tgt := 183) (pc := 136) dX12_best_136 rfl kt kf) (fun c_136 => ?_) (fun c_136 => ?_)
    · have hre : nl = r := (lp_exit rfl (by omega) hr0 c_136).symm
      subst hre
      refine wq (fun _ _ kk => rs_iload (pc := 183) dX12_best_183 rfl kk) ?_
      refine wq_bn (fun _ _ kt kf => rs_if_ne (tgt := 193) (pc := 185) dX12_best_185 rfl kt kf) (fun c_185 => ?_) (fun c_185 => ?_)
      · refine wq (fun _ _ kk => rs_iload (pc := 193) dX12_best_193 rfl kk) ?_
        refine wq_ret ?_ (rs_iret (pc := 195) dX12_best_195 rfl)
        refine ⟨E0, ⟨W, hmd, hq⟩, ?_⟩
        unfold uu_best
        first
        | (rw [if_pos c_185]; done)
        | (rw [if_neg c_185, p100 hp]
           by_cases z : nl = 0
           · rw [if_pos z, z]; rfl
           · rw [if_neg z, show bsL (fun r => lvS B (Ls r) o k (nR B)) nl = (fun r => lvS B (Ls r) o k (nR B)) (bsI (fun r => lvS B (Ls r) o k (nR B)) nl).toNatClampNeg from if_neg z])
      · refine wq (fun _ _ kk => rs_iload (pc := 188) dX12_best_188 rfl kk) ?_
        refine wq (fun _ _ kk => rs_goto (tgt := 195) (pc := 190) dX12_best_190 rfl kk) ?_
        refine wq_ret ?_ (rs_iret (pc := 195) dX12_best_195 rfl)
        refine ⟨E0, ⟨W, hmd, hq⟩, ?_⟩
        unfold uu_best
        first
        | (rw [if_pos c_185]; done)
        | (rw [if_neg c_185, p100 hp]
           by_cases z : nl = 0
           · rw [if_pos z, z]; rfl
           · rw [if_neg z, show bsL (fun r => lvS B (Ls r) o k (nR B)) nl = (fun r => lvS B (Ls r) o k (nR B)) (bsI (fun r => lvS B (Ls r) o k (nR B)) nl).toNatClampNeg from if_neg z])
    · have hr : r < nl := lp_go rfl (by omega) c_136
      refine wq (fun _ _ kk => rs_iload (pc := 139) dX12_best_139 rfl kk) ?_
      refine wq (fun _ _ kk => rs_aload_n (pc := 141) dX12_best_141 rfl kk) ?_
      refine wq (fun _ _ kk => rs_iload_n (pc := 142) dX12_best_142 rfl kk) ?_
      refine wq (fun _ _ kk => rs_iload (pc := 143) dX12_best_143 rfl kk) ?_
      refine wq (fun _ _ kk => rs_iload_n (pc := 145) dX12_best_145 rfl kk) ?_
      obtain ⟨rv_146, hc_146, ⟨ee_146, ⟨W2, hmd_146, hq2⟩, rfl⟩, hm_146⟩ := c_X12_leaves (o := o) hok (hRB.of hq.sb) (show r < 10 by omega) hw (hML.2.2 r hr).2 (((hML.gv hq).2.2 r hr).1) hmd
      refine wq (fun _ _ kk => rs_callV (as := [_, _, _]) (pc := 146) dX12_best_146 mk_X12_leaves mlX12_453 in_X12_leaves se_X12_leaves rfl (md_lt hmd (by decide)) hmd.2.1 rfl rfl (Nat.le_of_ble_eq_true rfl) (hm_146) kk) ?_
      replace hmd := hmd_146
      have E_146 := (E0).trans ee_146
      have EQ := hq.trans hq2
      refine wq (fun _ _ kk => rs_lload (pc := 149) dX12_best_149 rfl kk) ?_
      refine wq (fun _ _ kk => rs_ldc2 (pc := 151) dX12_best_151 cnX12_458 kk) ?_
      refine wq (fun _ _ kk => rs_ldiv (pc := 154) dX12_best_154 (by decide) kk) ?_
      refine wq (fun _ _ kk => rs_ldc2 (pc := 155) dX12_best_155 cnX12_458 kk) ?_
      refine wq (fun _ _ kk => rs_iload_n (pc := 158) dX12_best_158 rfl kk) ?_
      refine wq (fun _ _ kk => rs_i2l (pc := 159) dX12_best_159 kk) ?_
      refine wq (fun _ _ kk => rs_ladd (pc := 160) dX12_best_160 kk) ?_
      refine wq (fun _ _ kk => rs_lmul (pc := 161) dX12_best_161 kk) ?_
      refine wq_br (fun _ _ kt kf => wk_lcmp_gt (tgt := 173) (pc := 162) dX12_best_162 dX12_best_163 rfl kt kf) (fun c_162 => ?_) (fun c_162 => ?_)
      · refine wq (fun _ _ kk => rs_iconst (v := 0) (pc := 173) dX12_best_173 rfl kk) ?_
        refine wq (fun _ _ kk => rs_ior (pc := 174) dX12_best_174 kk) ?_
        try rw [Int32.or_zero]
        refine wq (fun _ _ kk => wk_ist8 (pc := 175) dX12_best_175 (by decide) rfl kk) ?_
        refine wq (fun _ _ kk => wk_iinc9 (v := nI (r + 1)) (pc := 177) dX12_best_177 (by decide) rfl (nI_1 r) kk) ?_
        refine wq (fun _ _ kk => rs_goto (tgt := 130) (pc := 180) dX12_best_180 rfl kk) ?_
        have e := fun u11 => ih (r + 1) u11 W2 _ (by omega) (by omega) (E_146) hmd EQ
        rw [bsB] at e
        first
        | (rw [if_pos (by first | exact c_162 | exact i64_nlt c_162)] at e; exact e _)
        | (rw [if_neg (i64_lt_n c_162)] at e; exact e _)
      · refine wq (fun _ _ kk => rs_iconst (v := 1) (pc := 166) dX12_best_166 rfl kk) ?_
        refine wq (fun _ _ kk => rs_iload (pc := 167) dX12_best_167 rfl kk) ?_
        refine wq (fun _ _ kk => rs_ishl (pc := 169) dX12_best_169 kk) ?_
        refine wq (fun _ _ kk => rs_goto (tgt := 174) (pc := 170) dX12_best_170 rfl kk) ?_
        refine wq (fun _ _ kk => rs_ior (pc := 174) dX12_best_174 kk) ?_
        try rw [Int32.or_zero]
        refine wq (fun _ _ kk => wk_ist8 (pc := 175) dX12_best_175 (by decide) rfl kk) ?_
        refine wq (fun _ _ kk => wk_iinc9 (v := nI (r + 1)) (pc := 177) dX12_best_177 (by decide) rfl (nI_1 r) kk) ?_
        refine wq (fun _ _ kk => rs_goto (tgt := 130) (pc := 180) dX12_best_180 rfl kk) ?_
        have e := fun u11 => ih (r + 1) u11 W2 _ (by omega) (by omega) (E_146) hmd EQ
        rw [bsB] at e
        first
        | (rw [if_pos (by first | exact c_162 | exact i64_nlt c_162)] at e; exact e _)
        | (rw [if_neg (i64_lt_n c_162)] at e; exact e _)
set_option maxRecDepth 100000 in
set_option maxHeartbeats 4000000 in
theorem c_X12_best {h : ai_H} {S : Md} {B : Bk} {ln nl : Nat} {Ls : Nat → List Cl} (hok : bk_ok B ln) (hRB : RB B S) (hML : MLS S nl Ls) (hmd : md_at h S) (o k p x : Int32) : ai_QM MX12_best [.ref 307, .int o, .int k, .int p, .int x] h (fun res g => md_ext h g ∧ (∃ V, md_at g V ∧ gvq S V) ∧ (((tb_has (bk_o B).1 o = 0 ∨ bi_in k 0 9999 = 0 ∨ bi_in p 0 900 = 0 ∨ bi_in x 0 1 = 0) ∧ res = some (.int (-2))) ∨ (¬ (tb_has (bk_o B).1 o = 0 ∨ bi_in k 0 9999 = 0 ∨ bi_in p 0 900 = 0 ∨ bi_in x 0 1 = 0) ∧ res = some (.int (uu_best (fun r => lvS B (Ls r) o k (nR B)) nl p x))))) := by
  refine qm_of (ls := [.ref 307, .int o, .int k, .int p, .int x, .float 0, .float 0, .float 0, .float 0, .float 0, .float 0, .float 0]) (by decide) (by simp [ai_en, Value.category]) (by rfl) ?_
  refine wq (fun _ _ kk => rs_aload_n (pc := 0) dX12_best_0 rfl kk) ?_
  refine wq (fun _ _ kk => rs_iload_n (pc := 1) dX12_best_1 rfl kk) ?_
  refine wq (fun _ _ kk => rs_callV (as := [_]) (pc := 2) dX12_best_2 mk_X12_isObserver mlX12_217 in_X12_isObserver se_X12_isObserver rfl (md_lt hmd (by decide)) hmd.2.1 rfl rfl (Nat.le_of_ble_eq_true rfl) (c_X12_isObserver hmd _) kk) ?_
  rw [rb_obs hok hRB]
  refine wq_br (fun _ _ kt kf => rs_if_eq (tgt := 38) (pc := 5) dX12_best_5 rfl kt kf) (fun c_5 => ?_) (fun c_5 => ?_)
  · refine wq (fun _ _ kk => rs_bipush (v := -2) (pc := 38) dX12_best_38 rfl kk) ?_
    refine wq_ret ?_ (rs_iret (pc := 40) dX12_best_40 rfl)
    exact ⟨md_ext.rf, ⟨S, hmd, gvq.rf⟩, Or.inl ⟨by first | exact Or.inl c_5 | exact Or.inr (Or.inl c_12) | exact Or.inr (Or.inr (Or.inl c_24)) | exact Or.inr (Or.inr (Or.inr c_35)), rfl⟩⟩
  · refine wq (fun _ _ kk => rs_iload_n (pc := 8) dX12_best_8 rfl kk) ?_
    refine wq (fun _ _ kk => rs_callS (as := [_]) (pc := 9) dX12_best_9 mk_X12_isWeek mlX12_230 st_X12_isWeek rfl rfl (Nat.le_of_ble_eq_true rfl) (c_X12_isWeek _) kk) ?_
    refine wq_br (fun _ _ kt kf => rs_if_eq (tgt := 38) (pc := 12) dX12_best_12 rfl kt kf) (fun c_12 => ?_) (fun c_12 => ?_)
    · refine wq (fun _ _ kk => rs_bipush (v := -2) (pc := 38) dX12_best_38 rfl kk) ?_
      refine wq_ret ?_ (rs_iret (pc := 40) dX12_best_40 rfl)
      exact ⟨md_ext.rf, ⟨S, hmd, gvq.rf⟩, Or.inl ⟨by first | exact Or.inl c_5 | exact Or.inr (Or.inl c_12) | exact Or.inr (Or.inr (Or.inl c_24)) | exact Or.inr (Or.inr (Or.inr c_35)), rfl⟩⟩
    · refine wq (fun _ _ kk => rs_iload_n (pc := 15) dX12_best_15 rfl kk) ?_
      refine wq (fun _ _ kk => rs_i2l (pc := 16) dX12_best_16 kk) ?_
      refine wq (fun _ _ kk => rs_lconst (v := 0) (pc := 17) dX12_best_17 rfl kk) ?_
      refine wq (fun _ _ kk => rs_ldc2 (pc := 18) dX12_best_18 cnX12_456 kk) ?_
      refine wq (fun _ _ kk => rs_callS (as := [_, _, _]) (pc := 21) dX12_best_21 mk_X12_in mlX12_181 st_X12_in rfl rfl (Nat.le_of_ble_eq_true rfl) (c_X12_inI p 0 900) kk) ?_
      refine wq_br (fun _ _ kt kf => rs_if_eq (tgt := 38) (pc := 24) dX12_best_24 rfl kt kf) (fun c_24 => ?_) (fun c_24 => ?_)
      · refine wq (fun _ _ kk => rs_bipush (v := -2) (pc := 38) dX12_best_38 rfl kk) ?_
        refine wq_ret ?_ (rs_iret (pc := 40) dX12_best_40 rfl)
        exact ⟨md_ext.rf, ⟨S, hmd, gvq.rf⟩, Or.inl ⟨by first | exact Or.inl c_5 | exact Or.inr (Or.inl c_12) | exact Or.inr (Or.inr (Or.inl c_24)) | exact Or.inr (Or.inr (Or.inr c_35)), rfl⟩⟩
      · refine wq (fun _ _ kk => rs_iload (pc := 27) dX12_best_27 rfl kk) ?_
        refine wq (fun _ _ kk => rs_i2l (pc := 29) dX12_best_29 kk) ?_
        refine wq (fun _ _ kk => rs_lconst (v := 0) (pc := 30) dX12_best_30 rfl kk) ?_
        refine wq (fun _ _ kk => rs_lconst (v := 1) (pc := 31) dX12_best_31 rfl kk) ?_
        refine wq (fun _ _ kk => rs_callS (as := [_, _, _]) (pc := 32) dX12_best_32 mk_X12_in mlX12_181 st_X12_in rfl rfl (Nat.le_of_ble_eq_true rfl) (c_X12_inI x 0 1) kk) ?_
        refine wq_bn (fun _ _ kt kf => rs_if_ne (tgt := 41) (pc := 35) dX12_best_35 rfl kt kf) (fun c_35 => ?_) (fun c_35 => ?_)
        · refine wq (fun _ _ kk => rs_iconst (v := -1) (pc := 41) dX12_best_41 rfl kk) ?_
          refine wq (fun _ _ kk => wk_ist5 (pc := 42) dX12_best_42 (by decide) rfl kk) ?_
          refine wq (fun _ _ kk => rs_lconst (v := 0) (pc := 44) dX12_best_44 rfl kk) ?_
          refine wq (fun _ _ kk => wk_lst6 (pc := 45) dX12_best_45 (by decide) rfl kk) ?_
          refine wq (fun _ _ kk => rs_iconst (v := 0) (pc := 47) dX12_best_47 rfl kk) ?_
          refine wq (fun _ _ kk => wk_ist8 (pc := 48) dX12_best_48 (by decide) rfl kk) ?_
          refine wq_mono (Q := (fun res g => md_ext h g ∧ (∃ W, md_at g W ∧ gvq S W) ∧ res = some (.int (uu_best (fun r => lvS B (Ls r) o k (nR B)) nl p x)))) ?_ ?_
          · rintro r g ⟨a1, a2, a3⟩
            exact ⟨a1, a2, Or.inr ⟨by rintro (z | z | z | z); exact c_5 z; exact c_12 z; exact c_24 z; exact c_35 z, a3⟩⟩
          refine l1_X12_best (h := h) hok hRB hML (bi_in_9 c_12).2 ?_ (nl + 1) 0 _ _ _ S h (by omega) (by omega) md_ext.rf hmd gvq.rf
          intro u9 u10 u11 W g E0 hmd hq
          refine wq (fun _ _ kk => rs_iconst (v := 0) (pc := 124) dX12_best_124 rfl kk) ?_
          refine wq (fun _ _ kk => wk_ist8 (pc := 125) dX12_best_125 (by decide) rfl kk) ?_
          refine wq (fun _ _ kk => rs_iconst (v := 0) (pc := 127) dX12_best_127 rfl kk) ?_
          refine wq (fun _ _ kk => wk_ist9 (pc := 128) dX12_best_128 (by decide) rfl kk) ?_
          exact l2_X12_best (h := h) hok hRB hML (bi_in_9 c_12).2 c_24 (nl + 1) 0 _ W g (by omega) (by omega) E0 hmd hq
        · refine wq (fun _ _ kk => rs_bipush (v := -2) (pc := 38) dX12_best_38 rfl kk) ?_
          refine wq_ret ?_ (rs_iret (pc := 40) dX12_best_40 rfl)
          exact ⟨md_ext.rf, ⟨S, hmd, gvq.rf⟩, Or.inl ⟨by first | exact Or.inl c_5 | exact Or.inr (Or.inl c_12) | exact Or.inr (Or.inr (Or.inl c_24)) | exact Or.inr (Or.inr (Or.inr c_35)), rfl⟩⟩
