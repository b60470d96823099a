/-! 16: lawOf, the tape, tallySeen, tallyOwn, seen, own (walks laid by wip/whole/p16.py) -/
theorem bk_at.keep {h g : ai_H} {q : Nat} {B : Bk} (hB : bk_at h q B) (h1 : g.1 = h.1) (h2 : ∀ j, q ≤ j → j ≤ q + 10 → g.2.2 j = h.2.2 j) : bk_at g q B := by
  obtain ⟨a, b, ⟨c1, c2, c3⟩, ⟨d1, d2, d3⟩, ⟨e1, e2, e3⟩, ⟨f1, f2, f3⟩, ⟨g1, g2, g3⟩⟩ := hB
  refine ⟨by rw [h1]; exact a, ?_, ⟨?_, ?_, c3⟩, ⟨?_, ?_, d3⟩, ⟨?_, ?_, e3⟩, ⟨?_, ?_, f3⟩, ⟨?_, ?_, g3⟩⟩ <;> (rw [h2 _ (by omega) (by omega)]; assumption)
theorem x_at.keep {h g : ai_H} {tb lm : Int32} (hx : x_at h tb lm) (h1 : g.1 = h.1) (h2 : g.2.2 0 = h.2.2 0) : x_at g tb lm := ⟨by rw [h1]; exact hx.1, by rw [h2]; exact hx.2⟩
/-- a table's size as a number -/
theorem tb_size {lim wid siz : Int32} {n : Nat} (h : tb_ok lim wid siz n) : ∃ k : Nat, (k : Int) ≤ lim.toInt ∧ siz = nI k ∧ k < 2 ^ 31 := by
  obtain ⟨h1, h2, -⟩ := h
  have hm : lim.toInt < 2147483648 := Int32.toInt_lt lim
  refine ⟨siz.toInt.toNat, by omega, ?_, by omega⟩
  apply Int32.toInt_inj.mp
  rw [nI_toInt (by omega)]
  omega
theorem lp_exit {i sz : Nat} {x : Int32} (hx : x = nI sz) (hs : sz < 2 ^ 31) (hi : i ≤ sz) (c : x ≤ nI i) : i = sz := by
  rcases Nat.lt_or_ge i sz with z | z
  · exact absurd c (by rw [hx]; exact nI_ge z hs)
  · omega
theorem lp_go {i sz : Nat} {x : Int32} (hx : x = nI sz) (hi : i < 2 ^ 31) (c : ¬ x ≤ nI i) : i < sz := by
  rcases Nat.lt_or_ge i sz with z | z
  · exact z
  · exact absurd (by rw [hx]; exact nI_le z hi) c
abbrev Ty : Type := Int32 × Int64 × Int64 × Int64
def ty_cell (t : Ty) : va_E := .inr (9, [.int t.1, .long t.2.1, .long t.2.2.1, .long t.2.2.2])
def ty_add (t : Ty) (x : Int64) : Ty := (t.1 + 1, t.2.1 + x, ty_lo t.1 t.2.2.1 x, ty_hi t.1 t.2.2.2 x)
def ty_fold (p : Nat → Bool) (v : Nat → Int64) : Nat → Ty
  | 0 => (0, 0, 0, 0)
  | n + 1 => if p n then ty_add (ty_fold p v n) (v n) else ty_fold p v n
theorem ty_yes {p : Nat → Bool} {v : Nat → Int64} {n : Nat} (h : p n = true) : ty_cell (ty_add (ty_fold p v n) (v n)) = ty_cell (ty_fold p v (n + 1)) := by
  rw [ty_fold, if_pos h]
theorem ty_no {p : Nat → Bool} {v : Nat → Int64} {n : Nat} (h : ¬ p n = true) : ty_cell (ty_fold p v n) = ty_cell (ty_fold p v (n + 1)) := by
  rw [ty_fold, if_neg h]
def xs_seenp (B : Bk) (o n s w k : Int32) (i : Nat) : Bool := decide (bk_rat B (nI i) 3 = o ∧ bk_rat B (nI i) 0 = n ∧ bk_rat B (nI i) 1 = s ∧ bk_rat B (nI i) 4 = w ∧ ¬ bk_known B (nI i) k = 0)
def xs_seenT (B : Bk) (o n s w k : Int32) : Ty := ty_fold (xs_seenp B o n s w k) (fun i => (bk_red B (nI i)).toInt64) (bk_r B).1.toInt.toNat
def xs_ownp (B : Bk) (o y k : Int32) (i : Nat) : Bool := decide (¬ bk_own B (nI i) o k = 0 ∧ (y = -1 ∨ bk_year B (nI i) = y))
def xs_ownT (B : Bk) (o y k : Int32) : Ty := ty_fold (xs_ownp B o y k) (fun i => (bk_late B (nI i)).toInt64) (bk_r B).1.toInt.toNat
def xs_lawOf (lm : Int32) (L : Nat → Option Nat) (n : Int32) : Option Nat := if bi_in n 0 (lm - 1) = 0 then none else if 10 ≤ n then none else L n.toNatClampNeg
theorem bi_in_1 {a b c : Int32} (h : ¬ bi_in a b c = 0) : ¬ a < b ∧ ¬ c < a := by
  unfold bi_in at h
  by_cases h1 : a < b
  · simp [h1] at h
  · by_cases h2 : c < a
    · simp [h1, h2] at h
    · exact ⟨h1, h2⟩
theorem lw_in {n lm : Int32} (h1 : ¬ bi_in n 0 (lm - 1) = 0) (h2 : ¬ 10 ≤ n) : vp_in n 10 := by
  have h3 := (bi_in_1 h1).1
  rw [vp_in_iff]
  simp only [i32_lt, i32_le, i32_0] at h2 h3
  have : (10 : Int32).toInt = 10 := rfl
  exact ⟨by omega, by omega⟩
theorem dX11_lawOf_0 : decode cX11_lawOf 0 = .ok (.iload_n 1, 1) := by decide +kernel
theorem dX11_lawOf_1 : decode cX11_lawOf 1 = .ok (.iconst 0, 1) := by decide +kernel
theorem dX11_lawOf_2 : decode cX11_lawOf 2 = .ok (.aload_n 0, 1) := by decide +kernel
theorem dX11_lawOf_3 : decode cX11_lawOf 3 = .ok (.getfield 34, 3) := by decide +kernel
theorem dX11_lawOf_6 : decode cX11_lawOf 6 = .ok (.iconst 1, 1) := by decide +kernel
theorem dX11_lawOf_7 : decode cX11_lawOf 7 = .ok (.isub, 1) := by decide +kernel
theorem dX11_lawOf_8 : decode cX11_lawOf 8 = .ok (.invokestatic 104, 3) := by decide +kernel
theorem dX11_lawOf_11 : decode cX11_lawOf 11 = .ok (.ifCond .eq 18, 3) := by decide +kernel
theorem dX11_lawOf_14 : decode cX11_lawOf 14 = .ok (.iload_n 1, 1) := by decide +kernel
theorem dX11_lawOf_15 : decode cX11_lawOf 15 = .ok (.bipush 10, 2) := by decide +kernel
theorem dX11_lawOf_17 : decode cX11_lawOf 17 = .ok (.if_icmp .ge 12, 3) := by decide +kernel
theorem dX11_lawOf_20 : decode cX11_lawOf 20 = .ok (.aload_n 0, 1) := by decide +kernel
theorem dX11_lawOf_21 : decode cX11_lawOf 21 = .ok (.getfield 30, 3) := by decide +kernel
theorem dX11_lawOf_24 : decode cX11_lawOf 24 = .ok (.iload_n 1, 1) := by decide +kernel
theorem dX11_lawOf_25 : decode cX11_lawOf 25 = .ok (.aaload, 1) := by decide +kernel
theorem dX11_lawOf_26 : decode cX11_lawOf 26 = .ok (.goto 4, 3) := by decide +kernel
theorem dX11_lawOf_29 : decode cX11_lawOf 29 = .ok (.aconst_null, 1) := by decide +kernel
theorem dX11_lawOf_30 : decode cX11_lawOf 30 = .ok (.areturn, 1) := by decide +kernel
set_option maxRecDepth 100000 in
set_option maxHeartbeats 4000000 in
theorem c_X11_lawOf {h : ai_H} {tb lm : Int32} {L : Nat → Option Nat} (hx : x_at h tb lm) (he_laws : h.2.2 14 = .inl (5, 10, .inr (.inr (.inr (.inr L))))) (n : Int32) : ai_Met MX11_lawOf [.ref 0, .int n] h (some (va_rf (xs_lawOf lm L n))) h := by
  obtain ⟨hqx, he_x⟩ := hx
  have hq_x : 0 < h.1 := by omega
  have hq_laws : 14 < h.1 := by omega
  refine ai_met (ls := [.ref 0, .int n]) (by decide) (by simp [ai_en, Value.category]) (by rfl) ?_
  refine rs_iload_n (pc := 0) dX11_lawOf_0 rfl ?_
  refine rs_iconst (v := 0) (pc := 1) dX11_lawOf_1 rfl ?_
  refine rs_aload_n (pc := 2) dX11_lawOf_2 rfl ?_
  refine rs_getf (pc := 3) dX11_lawOf_3 fX11_34 hq_x he_x rfl ?_
  refine rs_iconst (v := 1) (pc := 6) dX11_lawOf_6 rfl ?_
  refine rs_isub (pc := 7) dX11_lawOf_7 ?_
  refine rs_callS (as := [_, _, _]) (pc := 8) dX11_lawOf_8 mk_X11_isWithin mlX11_104 st_X11_isWithin rfl rfl (Nat.le_of_ble_eq_true rfl) (c_X11_isWithin) ?_
  refine rs_if_eq (tgt := 29) (pc := 11) dX11_lawOf_11 rfl (fun c_11 => ?_) (fun c_11 => ?_)
  · refine rs_null (pc := 29) dX11_lawOf_29 ?_
    exact wk_aret (pc := 30) dX11_lawOf_30 rfl (Or.inl rfl) (by simp [xs_lawOf, va_rf, *]) (rfl)
  · refine rs_iload_n (pc := 14) dX11_lawOf_14 rfl ?_
    refine rs_bipush (v := 10) (pc := 15) dX11_lawOf_15 rfl ?_
    refine rs_icmp_ge (tgt := 29) (pc := 17) dX11_lawOf_17 rfl (fun c_17 => ?_) (fun c_17 => ?_)
    · refine rs_null (pc := 29) dX11_lawOf_29 ?_
      exact wk_aret (pc := 30) dX11_lawOf_30 rfl (Or.inl rfl) (by simp [xs_lawOf, va_rf, *]) (rfl)
    · refine rs_aload_n (pc := 20) dX11_lawOf_20 rfl ?_
      refine rs_getf (pc := 21) dX11_lawOf_21 fX11_30 hq_x he_x rfl ?_
      refine rs_iload_n (pc := 24) dX11_lawOf_24 rfl ?_
      refine rs_aald (pc := 25) dX11_lawOf_25 (fun _ => rfl) hq_laws he_laws (lw_in c_11 c_17) ?_
      refine rs_goto (tgt := 30) (pc := 26) dX11_lawOf_26 rfl ?_
      exact wk_aret (pc := 30) dX11_lawOf_30 rfl (va_rf_v _) (by simp [xs_lawOf, va_rf, *]) (rfl)
def xs_byte (x s : Int32) : Int32 := (x.toUInt32 >>> (s.toUInt32 &&& Int32.toUInt32 31)).toInt32 &&& 255
def tp_put (f : Nat → Int32) (k : Nat) (x : Int32) : Nat → Int32 := upd (upd (upd (upd f k (xs_byte x 24)) (k + 1) (xs_byte x 16)) (k + 2) (xs_byte x 8)) (k + 3) (xs_byte x 0)
def x_cell (tb lm : Int32) : va_E := .inr (11, [.ref 1, .ref 12, .ref 13, .int tb, .ref 14, .int lm, .ref 15, .ref 16, .ref 20, .ref 22, .ref 35, .ref 294, .ref 298, .ref 301, .ref 306])
theorem dX11_feedNumber_0 : decode cX11_feedNumber 0 = .ok (.bipush 24, 2) := by decide +kernel
theorem dX11_feedNumber_2 : decode cX11_feedNumber 2 = .ok (.istore_n 2, 1) := by decide +kernel
theorem dX11_feedNumber_3 : decode cX11_feedNumber 3 = .ok (.iload_n 2, 1) := by decide +kernel
theorem dX11_feedNumber_4 : decode cX11_feedNumber 4 = .ok (.ifCond .lt 45, 3) := by decide +kernel
theorem dX11_feedNumber_7 : decode cX11_feedNumber 7 = .ok (.aload_n 0, 1) := by decide +kernel
theorem dX11_feedNumber_8 : decode cX11_feedNumber 8 = .ok (.getfield 24, 3) := by decide +kernel
theorem dX11_feedNumber_11 : decode cX11_feedNumber 11 = .ok (.sipush 400, 3) := by decide +kernel
theorem dX11_feedNumber_14 : decode cX11_feedNumber 14 = .ok (.if_icmp .ge 29, 3) := by decide +kernel
theorem dX11_feedNumber_17 : decode cX11_feedNumber 17 = .ok (.aload_n 0, 1) := by decide +kernel
theorem dX11_feedNumber_18 : decode cX11_feedNumber 18 = .ok (.getfield 20, 3) := by decide +kernel
theorem dX11_feedNumber_21 : decode cX11_feedNumber 21 = .ok (.aload_n 0, 1) := by decide +kernel
theorem dX11_feedNumber_22 : decode cX11_feedNumber 22 = .ok (.getfield 24, 3) := by decide +kernel
theorem dX11_feedNumber_25 : decode cX11_feedNumber 25 = .ok (.iload_n 1, 1) := by decide +kernel
theorem dX11_feedNumber_26 : decode cX11_feedNumber 26 = .ok (.iload_n 2, 1) := by decide +kernel
theorem dX11_feedNumber_27 : decode cX11_feedNumber 27 = .ok (.iushr, 1) := by decide +kernel
theorem dX11_feedNumber_28 : decode cX11_feedNumber 28 = .ok (.sipush 255, 3) := by decide +kernel
theorem dX11_feedNumber_31 : decode cX11_feedNumber 31 = .ok (.iand, 1) := by decide +kernel
theorem dX11_feedNumber_32 : decode cX11_feedNumber 32 = .ok (.iastore, 1) := by decide +kernel
theorem dX11_feedNumber_33 : decode cX11_feedNumber 33 = .ok (.aload_n 0, 1) := by decide +kernel
theorem dX11_feedNumber_34 : decode cX11_feedNumber 34 = .ok (.dup, 1) := by decide +kernel
theorem dX11_feedNumber_35 : decode cX11_feedNumber 35 = .ok (.getfield 24, 3) := by decide +kernel
theorem dX11_feedNumber_38 : decode cX11_feedNumber 38 = .ok (.iconst 1, 1) := by decide +kernel
theorem dX11_feedNumber_39 : decode cX11_feedNumber 39 = .ok (.iadd, 1) := by decide +kernel
theorem dX11_feedNumber_40 : decode cX11_feedNumber 40 = .ok (.putfield 24, 3) := by decide +kernel
theorem dX11_feedNumber_43 : decode cX11_feedNumber 43 = .ok (.iinc 2 (-8), 3) := by decide +kernel
theorem dX11_feedNumber_46 : decode cX11_feedNumber 46 = .ok (.goto (-43), 3) := by decide +kernel
theorem dX11_feedNumber_49 : decode cX11_feedNumber 49 = .ok (.return_, 1) := by decide +kernel
set_option maxRecDepth 100000 in
set_option maxHeartbeats 4000000 in
theorem c_X11_feedNumber {h : ai_H} {lm : Int32} {f : Nat → Int32} {k : Nat} (hk : k + 4 ≤ 400) (hqx : 306 < h.1) (he_x : h.2.2 0 = x_cell (nI k) lm) (he_tape : h.2.2 13 = .inl (0, 400, .inl f)) (x : Int32) : ai_Met MX11_feedNumber [.ref 0, .int x] h none (ai_set (ai_set h 0 (x_cell (nI (k + 4)) lm)) 13 (.inl (0, 400, .inl (tp_put f k x)))) := by
  have hq_x : 0 < h.1 := by omega
  have hq_tape : 13 < h.1 := by omega
  have he_x : h.2.2 0 = x_cell (nI (k + 0)) lm := he_x
  refine ai_met (ls := [.ref 0, .int x, .float 0]) (by decide) (by simp [ai_en, Value.category]) (by rfl) ?_
  refine rs_bipush (v := 24) (pc := 0) dX11_feedNumber_0 rfl ?_
  refine wk_istn2 (pc := 2) dX11_feedNumber_2 (by decide) rfl ?_
  refine rs_iload_n (pc := 3) dX11_feedNumber_3 rfl ?_
  refine rs_if_lt (tgt := 49) (pc := 4) dX11_feedNumber_4 rfl (fun c_4 => absurd c_4 (by decide)) (fun c_4 => ?_)
  refine rs_aload_n (pc := 7) dX11_feedNumber_7 rfl ?_
  refine rs_getf (pc := 8) dX11_feedNumber_8 fX11_24 hq_x he_x rfl ?_
  refine rs_sipush (v := 400) (pc := 11) dX11_feedNumber_11 rfl ?_
  refine rs_icmp_ge (tgt := 43) (pc := 14) dX11_feedNumber_14 rfl (fun c_14 => absurd c_14 (nI_ge (a := k + 0) (b := 400) (by omega) (by decide))) (fun c_14 => ?_)
  refine rs_aload_n (pc := 17) dX11_feedNumber_17 rfl ?_
  refine rs_getf (pc := 18) dX11_feedNumber_18 fX11_20 hq_x he_x rfl ?_
  refine rs_aload_n (pc := 21) dX11_feedNumber_21 rfl ?_
  refine rs_getf (pc := 22) dX11_feedNumber_22 fX11_24 hq_x he_x rfl ?_
  refine rs_iload_n (pc := 25) dX11_feedNumber_25 rfl ?_
  refine rs_iload_n (pc := 26) dX11_feedNumber_26 rfl ?_
  refine rs_iushr (pc := 27) dX11_feedNumber_27 ?_
  refine rs_sipush (v := 255) (pc := 28) dX11_feedNumber_28 rfl ?_
  refine rs_iand (pc := 31) dX11_feedNumber_31 ?_
  refine wk_iast (pc := 32) dX11_feedNumber_32 hq_tape he_tape (vp_in_nI (n := k + 0) (by omega) (by decide)) (fun h_1 m_1 s_1 g_1 o_1 e_1 => ?_)
  have he_x' := (o_1 _ (by decide)).trans he_x
  have hq_x' : 0 < h_1.1 := by rw [m_1]; exact hq_x
  have hq_tape' : 13 < h_1.1 := by rw [m_1]; exact hq_tape
  replace he_x := he_x'
  replace hq_x := hq_x'
  replace he_tape := g_1
  replace hq_tape := hq_tape'
  have M_1 : h_1.1 = h.1 := m_1
  have S_1 : h_1.2.1 = h.2.1 := s_1
  have O_1 : ∀ j, j ≠ 0 → j ≠ 13 → h_1.2.2 j = h.2.2 j := fun j z0 z1 => o_1 j z1
  refine rs_aload_n (pc := 33) dX11_feedNumber_33 rfl ?_
  refine rs_dup (pc := 34) dX11_feedNumber_34 rfl ?_
  refine rs_getf (pc := 35) dX11_feedNumber_35 fX11_24 hq_x he_x rfl ?_
  refine rs_iconst (v := 1) (pc := 38) dX11_feedNumber_38 rfl ?_
  refine rs_iadd (pc := 39) dX11_feedNumber_39 ?_
  rw [nI_1 (k + 0)]
  refine wk_putf (fs' := [_, _, _, _, _, _, _, _, _, _, _, _, _, _, _]) (pc := 40) dX11_feedNumber_40 fX11_24 hq_x he_x rfl (Nat.le_of_ble_eq_true rfl) rfl (fun h_2 m_2 s_2 g_2 o_2 e_2 => ?_)
  have he_tape' := (o_2 _ (by decide)).trans he_tape
  have hq_x' : 0 < h_2.1 := by rw [m_2]; exact hq_x
  have hq_tape' : 13 < h_2.1 := by rw [m_2]; exact hq_tape
  replace he_x := g_2
  replace hq_x := hq_x'
  replace he_tape := he_tape'
  replace hq_tape := hq_tape'
  have M_2 : h_2.1 = h.1 := m_2.trans M_1
  have S_2 : h_2.2.1 = h.2.1 := s_2.trans S_1
  have O_2 : ∀ j, j ≠ 0 → j ≠ 13 → h_2.2.2 j = h.2.2 j := fun j z0 z1 => (o_2 j z0).trans (O_1 j z0 z1)
  refine wk_iinc2 (v := 16) (pc := 43) dX11_feedNumber_43 (by decide) rfl (by decide) ?_
  refine rs_goto (tgt := 3) (pc := 46) dX11_feedNumber_46 rfl ?_
  refine rs_iload_n (pc := 3) dX11_feedNumber_3 rfl ?_
  refine rs_if_lt (tgt := 49) (pc := 4) dX11_feedNumber_4 rfl (fun c_4 => absurd c_4 (by decide)) (fun c_4 => ?_)
  refine rs_aload_n (pc := 7) dX11_feedNumber_7 rfl ?_
  refine rs_getf (pc := 8) dX11_feedNumber_8 fX11_24 hq_x he_x rfl ?_
  refine rs_sipush (v := 400) (pc := 11) dX11_feedNumber_11 rfl ?_
  refine rs_icmp_ge (tgt := 43) (pc := 14) dX11_feedNumber_14 rfl (fun c_14 => absurd c_14 (nI_ge (a := k + 1) (b := 400) (by omega) (by decide))) (fun c_14 => ?_)
  refine rs_aload_n (pc := 17) dX11_feedNumber_17 rfl ?_
  refine rs_getf (pc := 18) dX11_feedNumber_18 fX11_20 hq_x he_x rfl ?_
  refine rs_aload_n (pc := 21) dX11_feedNumber_21 rfl ?_
  refine rs_getf (pc := 22) dX11_feedNumber_22 fX11_24 hq_x he_x rfl ?_
  refine rs_iload_n (pc := 25) dX11_feedNumber_25 rfl ?_
  refine rs_iload_n (pc := 26) dX11_feedNumber_26 rfl ?_
  refine rs_iushr (pc := 27) dX11_feedNumber_27 ?_
  refine rs_sipush (v := 255) (pc := 28) dX11_feedNumber_28 rfl ?_
  refine rs_iand (pc := 31) dX11_feedNumber_31 ?_
  refine wk_iast (pc := 32) dX11_feedNumber_32 hq_tape he_tape (vp_in_nI (n := k + 1) (by omega) (by decide)) (fun h_3 m_3 s_3 g_3 o_3 e_3 => ?_)
  have he_x' := (o_3 _ (by decide)).trans he_x
  have hq_x' : 0 < h_3.1 := by rw [m_3]; exact hq_x
  have hq_tape' : 13 < h_3.1 := by rw [m_3]; exact hq_tape
  replace he_x := he_x'
  replace hq_x := hq_x'
  replace he_tape := g_3
  replace hq_tape := hq_tape'
  have M_3 : h_3.1 = h.1 := m_3.trans M_2
  have S_3 : h_3.2.1 = h.2.1 := s_3.trans S_2
  have O_3 : ∀ j, j ≠ 0 → j ≠ 13 → h_3.2.2 j = h.2.2 j := fun j z0 z1 => (o_3 j z1).trans (O_2 j z0 z1)
  refine rs_aload_n (pc := 33) dX11_feedNumber_33 rfl ?_
  refine rs_dup (pc := 34) dX11_feedNumber_34 rfl ?_
  refine rs_getf (pc := 35) dX11_feedNumber_35 fX11_24 hq_x he_x rfl ?_
  refine rs_iconst (v := 1) (pc := 38) dX11_feedNumber_38 rfl ?_
  refine rs_iadd (pc := 39) dX11_feedNumber_39 ?_
  rw [nI_1 (k + 1)]
  refine wk_putf (fs' := [_, _, _, _, _, _, _, _, _, _, _, _, _, _, _]) (pc := 40) dX11_feedNumber_40 fX11_24 hq_x he_x rfl (Nat.le_of_ble_eq_true rfl) rfl (fun h_4 m_4 s_4 g_4 o_4 e_4 => ?_)
  have he_tape' := (o_4 _ (by decide)).trans he_tape
  have hq_x' : 0 < h_4.1 := by rw [m_4]; exact hq_x
  have hq_tape' : 13 < h_4.1 := by rw [m_4]; exact hq_tape
  replace he_x := g_4
  replace hq_x := hq_x'
  replace he_tape := he_tape'
  replace hq_tape := hq_tape'
  have M_4 : h_4.1 = h.1 := m_4.trans M_3
  have S_4 : h_4.2.1 = h.2.1 := s_4.trans S_3
  have O_4 : ∀ j, j ≠ 0 → j ≠ 13 → h_4.2.2 j = h.2.2 j := fun j z0 z1 => (o_4 j z0).trans (O_3 j z0 z1)
  refine wk_iinc2 (v := 8) (pc := 43) dX11_feedNumber_43 (by decide) rfl (by decide) ?_
  refine rs_goto (tgt := 3) (pc := 46) dX11_feedNumber_46 rfl ?_
  refine rs_iload_n (pc := 3) dX11_feedNumber_3 rfl ?_
  refine rs_if_lt (tgt := 49) (pc := 4) dX11_feedNumber_4 rfl (fun c_4 => absurd c_4 (by decide)) (fun c_4 => ?_)
  refine rs_aload_n (pc := 7) dX11_feedNumber_7 rfl ?_
  refine rs_getf (pc := 8) dX11_feedNumber_8 fX11_24 hq_x he_x rfl ?_
  refine rs_sipush (v := 400) (pc := 11) dX11_feedNumber_11 rfl ?_
  refine rs_icmp_ge (tgt := 43) (pc := 14) dX11_feedNumber_14 rfl (fun c_14 => absurd c_14 (nI_ge (a := k + 2) (b := 400) (by omega) (by decide))) (fun c_14 => ?_)
  refine rs_aload_n (pc := 17) dX11_feedNumber_17 rfl ?_
  refine rs_getf (pc := 18) dX11_feedNumber_18 fX11_20 hq_x he_x rfl ?_
  refine rs_aload_n (pc := 21) dX11_feedNumber_21 rfl ?_
  refine rs_getf (pc := 22) dX11_feedNumber_22 fX11_24 hq_x he_x rfl ?_
  refine rs_iload_n (pc := 25) dX11_feedNumber_25 rfl ?_
  refine rs_iload_n (pc := 26) dX11_feedNumber_26 rfl ?_
  refine rs_iushr (pc := 27) dX11_feedNumber_27 ?_
  refine rs_sipush (v := 255) (pc := 28) dX11_feedNumber_28 rfl ?_
  refine rs_iand (pc := 31) dX11_feedNumber_31 ?_
  refine wk_iast (pc := 32) dX11_feedNumber_32 hq_tape he_tape (vp_in_nI (n := k + 2) (by omega) (by decide)) (fun h_5 m_5 s_5 g_5 o_5 e_5 => ?_)
  have he_x' := (o_5 _ (by decide)).trans he_x
  have hq_x' : 0 < h_5.1 := by rw [m_5]; exact hq_x
  have hq_tape' : 13 < h_5.1 := by rw [m_5]; exact hq_tape
  replace he_x := he_x'
  replace hq_x := hq_x'
  replace he_tape := g_5
  replace hq_tape := hq_tape'
  have M_5 : h_5.1 = h.1 := m_5.trans M_4
  have S_5 : h_5.2.1 = h.2.1 := s_5.trans S_4
  have O_5 : ∀ j, j ≠ 0 → j ≠ 13 → h_5.2.2 j = h.2.2 j := fun j z0 z1 => (o_5 j z1).trans (O_4 j z0 z1)
  refine rs_aload_n (pc := 33) dX11_feedNumber_33 rfl ?_
  refine rs_dup (pc := 34) dX11_feedNumber_34 rfl ?_
  refine rs_getf (pc := 35) dX11_feedNumber_35 fX11_24 hq_x he_x rfl ?_
  refine rs_iconst (v := 1) (pc := 38) dX11_feedNumber_38 rfl ?_
  refine rs_iadd (pc := 39) dX11_feedNumber_39 ?_
  rw [nI_1 (k + 2)]
  refine wk_putf (fs' := [_, _, _, _, _, _, _, _, _, _, _, _, _, _, _]) (pc := 40) dX11_feedNumber_40 fX11_24 hq_x he_x rfl (Nat.le_of_ble_eq_true rfl) rfl (fun h_6 m_6 s_6 g_6 o_6 e_6 => ?_)
  have he_tape' := (o_6 _ (by decide)).trans he_tape
  have hq_x' : 0 < h_6.1 := by rw [m_6]; exact hq_x
  have hq_tape' : 13 < h_6.1 := by rw [m_6]; exact hq_tape
  replace he_x := g_6
  replace hq_x := hq_x'
  replace he_tape := he_tape'
  replace hq_tape := hq_tape'
  have M_6 : h_6.1 = h.1 := m_6.trans M_5
  have S_6 : h_6.2.1 = h.2.1 := s_6.trans S_5
  have O_6 : ∀ j, j ≠ 0 → j ≠ 13 → h_6.2.2 j = h.2.2 j := fun j z0 z1 => (o_6 j z0).trans (O_5 j z0 z1)
  refine wk_iinc2 (v := 0) (pc := 43) dX11_feedNumber_43 (by decide) rfl (by decide) ?_
  refine rs_goto (tgt := 3) (pc := 46) dX11_feedNumber_46 rfl ?_
  refine rs_iload_n (pc := 3) dX11_feedNumber_3 rfl ?_
  refine rs_if_lt (tgt := 49) (pc := 4) dX11_feedNumber_4 rfl (fun c_4 => absurd c_4 (by decide)) (fun c_4 => ?_)
  refine rs_aload_n (pc := 7) dX11_feedNumber_7 rfl ?_
  refine rs_getf (pc := 8) dX11_feedNumber_8 fX11_24 hq_x he_x rfl ?_
  refine rs_sipush (v := 400) (pc := 11) dX11_feedNumber_11 rfl ?_
  refine rs_icmp_ge (tgt := 43) (pc := 14) dX11_feedNumber_14 rfl (fun c_14 => absurd c_14 (nI_ge (a := k + 3) (b := 400) (by omega) (by decide))) (fun c_14 => ?_)
  refine rs_aload_n (pc := 17) dX11_feedNumber_17 rfl ?_
  refine rs_getf (pc := 18) dX11_feedNumber_18 fX11_20 hq_x he_x rfl ?_
  refine rs_aload_n (pc := 21) dX11_feedNumber_21 rfl ?_
  refine rs_getf (pc := 22) dX11_feedNumber_22 fX11_24 hq_x he_x rfl ?_
  refine rs_iload_n (pc := 25) dX11_feedNumber_25 rfl ?_
  refine rs_iload_n (pc := 26) dX11_feedNumber_26 rfl ?_
  refine rs_iushr (pc := 27) dX11_feedNumber_27 ?_
  refine rs_sipush (v := 255) (pc := 28) dX11_feedNumber_28 rfl ?_
  refine rs_iand (pc := 31) dX11_feedNumber_31 ?_
  refine wk_iast (pc := 32) dX11_feedNumber_32 hq_tape he_tape (vp_in_nI (n := k + 3) (by omega) (by decide)) (fun h_7 m_7 s_7 g_7 o_7 e_7 => ?_)
  have he_x' := (o_7 _ (by decide)).trans he_x
  have hq_x' : 0 < h_7.1 := by rw [m_7]; exact hq_x
  have hq_tape' : 13 < h_7.1 := by rw [m_7]; exact hq_tape
  replace he_x := he_x'
  replace hq_x := hq_x'
  replace he_tape := g_7
  replace hq_tape := hq_tape'
  have M_7 : h_7.1 = h.1 := m_7.trans M_6
  have S_7 : h_7.2.1 = h.2.1 := s_7.trans S_6
  have O_7 : ∀ j, j ≠ 0 → j ≠ 13 → h_7.2.2 j = h.2.2 j := fun j z0 z1 => (o_7 j z1).trans (O_6 j z0 z1)
  refine rs_aload_n (pc := 33) dX11_feedNumber_33 rfl ?_
  refine rs_dup (pc := 34) dX11_feedNumber_34 rfl ?_
  refine rs_getf (pc := 35) dX11_feedNumber_35 fX11_24 hq_x he_x rfl ?_
  refine rs_iconst (v := 1) (pc := 38) dX11_feedNumber_38 rfl ?_
  refine rs_iadd (pc := 39) dX11_feedNumber_39 ?_
  rw [nI_1 (k + 3)]
  refine wk_putf (fs' := [_, _, _, _, _, _, _, _, _, _, _, _, _, _, _]) (pc := 40) dX11_feedNumber_40 fX11_24 hq_x he_x rfl (Nat.le_of_ble_eq_true rfl) rfl (fun h_8 m_8 s_8 g_8 o_8 e_8 => ?_)
  have he_tape' := (o_8 _ (by decide)).trans he_tape
  have hq_x' : 0 < h_8.1 := by rw [m_8]; exact hq_x
  have hq_tape' : 13 < h_8.1 := by rw [m_8]; exact hq_tape
  replace he_x := g_8
  replace hq_x := hq_x'
  replace he_tape := he_tape'
  replace hq_tape := hq_tape'
  have M_8 : h_8.1 = h.1 := m_8.trans M_7
  have S_8 : h_8.2.1 = h.2.1 := s_8.trans S_7
  have O_8 : ∀ j, j ≠ 0 → j ≠ 13 → h_8.2.2 j = h.2.2 j := fun j z0 z1 => (o_8 j z0).trans (O_7 j z0 z1)
  refine wk_iinc2 (v := -8) (pc := 43) dX11_feedNumber_43 (by decide) rfl (by decide) ?_
  refine rs_goto (tgt := 3) (pc := 46) dX11_feedNumber_46 rfl ?_
  refine rs_iload_n (pc := 3) dX11_feedNumber_3 rfl ?_
  refine rs_if_lt (tgt := 49) (pc := 4) dX11_feedNumber_4 rfl (fun c_4 => ?_) (fun c_4 => absurd c_4 (by decide))
  exact wk_vret (pc := 49) dX11_feedNumber_49 rfl (rfl) (ai_is2 M_8 S_8 he_x (he_tape.trans (by simp only [nI_clamp (show k + 0 < 2 ^ 31 by omega), nI_clamp (show k + 1 < 2 ^ 31 by omega), nI_clamp (show k + 2 < 2 ^ 31 by omega), nI_clamp (show k + 3 < 2 ^ 31 by omega)]; rfl)) O_8)
def tp_put5 (f : Nat → Int32) (k : Nat) (a b c d e : Int32) : Nat → Int32 := tp_put (tp_put (tp_put (tp_put (tp_put f k a) (k + 4) b) (k + 8) c) (k + 12) d) (k + 16) e
theorem dX11_feed_0 : decode cX11_feed 0 = .ok (.aload_n 0, 1) := by decide +kernel
theorem dX11_feed_1 : decode cX11_feed 1 = .ok (.getfield 24, 3) := by decide +kernel
theorem dX11_feed_4 : decode cX11_feed 4 = .ok (.bipush 20, 2) := by decide +kernel
theorem dX11_feed_6 : decode cX11_feed 6 = .ok (.iadd, 1) := by decide +kernel
theorem dX11_feed_7 : decode cX11_feed 7 = .ok (.sipush 400, 3) := by decide +kernel
theorem dX11_feed_10 : decode cX11_feed 10 = .ok (.if_icmp .le 5, 3) := by decide +kernel
theorem dX11_feed_13 : decode cX11_feed 13 = .ok (.iconst (-1), 1) := by decide +kernel
theorem dX11_feed_14 : decode cX11_feed 14 = .ok (.ireturn, 1) := by decide +kernel
theorem dX11_feed_15 : decode cX11_feed 15 = .ok (.aload_n 0, 1) := by decide +kernel
theorem dX11_feed_16 : decode cX11_feed 16 = .ok (.iload_n 1, 1) := by decide +kernel
theorem dX11_feed_17 : decode cX11_feed 17 = .ok (.invokevirtual 157, 3) := by decide +kernel
theorem dX11_feed_20 : decode cX11_feed 20 = .ok (.aload_n 0, 1) := by decide +kernel
theorem dX11_feed_21 : decode cX11_feed 21 = .ok (.iload_n 2, 1) := by decide +kernel
theorem dX11_feed_22 : decode cX11_feed 22 = .ok (.invokevirtual 157, 3) := by decide +kernel
theorem dX11_feed_25 : decode cX11_feed 25 = .ok (.aload_n 0, 1) := by decide +kernel
theorem dX11_feed_26 : decode cX11_feed 26 = .ok (.iload_n 3, 1) := by decide +kernel
theorem dX11_feed_27 : decode cX11_feed 27 = .ok (.invokevirtual 157, 3) := by decide +kernel
theorem dX11_feed_30 : decode cX11_feed 30 = .ok (.aload_n 0, 1) := by decide +kernel
theorem dX11_feed_31 : decode cX11_feed 31 = .ok (.iload 4, 2) := by decide +kernel
theorem dX11_feed_33 : decode cX11_feed 33 = .ok (.invokevirtual 157, 3) := by decide +kernel
theorem dX11_feed_36 : decode cX11_feed 36 = .ok (.aload_n 0, 1) := by decide +kernel
theorem dX11_feed_37 : decode cX11_feed 37 = .ok (.iload 5, 2) := by decide +kernel
theorem dX11_feed_39 : decode cX11_feed 39 = .ok (.invokevirtual 157, 3) := by decide +kernel
theorem dX11_feed_42 : decode cX11_feed 42 = .ok (.aload_n 0, 1) := by decide +kernel
theorem dX11_feed_43 : decode cX11_feed 43 = .ok (.getfield 24, 3) := by decide +kernel
theorem dX11_feed_46 : decode cX11_feed 46 = .ok (.ireturn, 1) := by decide +kernel
set_option maxRecDepth 100000 in
set_option maxHeartbeats 4000000 in
theorem c_X11_feed {h : ai_H} {lm : Int32} {f : Nat → Int32} {k : Nat} (hk4 : k ≤ 400) (hqx : 306 < h.1) (he_x : h.2.2 0 = x_cell (nI k) lm) (he_tape : h.2.2 13 = .inl (0, 400, .inl f)) (a b c d e : Int32) : ai_Met MX11_feed [.ref 0, .int a, .int b, .int c, .int d, .int e] h (some (.int (if k + 20 ≤ 400 then nI (k + 20) else -1))) (ai_set (ai_set h 0 (if k + 20 ≤ 400 then x_cell (nI (k + 20)) lm else x_cell (nI k) lm)) 13 (if k + 20 ≤ 400 then .inl (0, 400, .inl (tp_put5 f k a b c d e)) else .inl (0, 400, .inl f))) := by
  have hq_x : 0 < h.1 := by omega
  have hq_tape : 13 < h.1 := by omega
  have he_x : h.2.2 0 = x_cell (nI (k + 0)) lm := he_x
  refine ai_met (ls := [.ref 0, .int a, .int b, .int c, .int d, .int e]) (by decide) (by simp [ai_en, Value.category]) (by rfl) ?_
  refine rs_aload_n (pc := 0) dX11_feed_0 rfl ?_
  refine rs_getf (pc := 1) dX11_feed_1 fX11_24 hq_x he_x rfl ?_
  refine rs_bipush (v := 20) (pc := 4) dX11_feed_4 rfl ?_
  refine rs_iadd (pc := 6) dX11_feed_6 ?_
  refine rs_sipush (v := 400) (pc := 7) dX11_feed_7 rfl ?_
  refine rs_icmp_le (tgt := 15) (pc := 10) dX11_feed_10 rfl (fun c_10 => ?_) (fun c_10 => ?_)
  · have hk : k + 20 ≤ 400 := by
      rcases Nat.lt_or_ge 400 (k + 20) with z | z
      · exact absurd c_10 (by rw [show nI (k + 0) + 20 = nI (k + 20) from nI_add (k + 0) 20]; exact nI_ge z (by omega))
      · exact z
    refine rs_aload_n (pc := 15) dX11_feed_15 rfl ?_
    refine rs_iload_n (pc := 16) dX11_feed_16 rfl ?_
    refine rs_callV (as := [_]) (pc := 17) dX11_feed_17 mk_X11_feedNumber mlX11_157 in_X11_feedNumber se_X11_feedNumber rfl hq_x he_x rfl rfl (Nat.le_of_ble_eq_true rfl) (c_X11_feedNumber (k := k + 0) (by omega) hqx he_x he_tape _) ?_
    refine wk_gen (fun h_1 e_1 => ?_)
    obtain ⟨m_1, s_1, g_1_0, g_1_1, o_1⟩ := ai_e2 (by decide) e_1
    replace he_x := g_1_0
    replace hq_x : 0 < h_1.1 := by rw [m_1]; exact hq_x
    replace he_tape := g_1_1
    replace hq_tape : 13 < h_1.1 := by rw [m_1]; exact hq_tape
    have M_1 : h_1.1 = h.1 := m_1
    have S_1 : h_1.2.1 = h.2.1 := s_1
    have O_1 : ∀ j, j ≠ 0 → j ≠ 13 → h_1.2.2 j = h.2.2 j := fun j z0 z1 => o_1 j z0 z1
    replace hqx : 306 < h_1.1 := by rw [m_1]; exact hqx
    refine rs_aload_n (pc := 20) dX11_feed_20 rfl ?_
    refine rs_iload_n (pc := 21) dX11_feed_21 rfl ?_
    refine rs_callV (as := [_]) (pc := 22) dX11_feed_22 mk_X11_feedNumber mlX11_157 in_X11_feedNumber se_X11_feedNumber rfl hq_x he_x rfl rfl (Nat.le_of_ble_eq_true rfl) (c_X11_feedNumber (k := k + 4) (by omega) hqx he_x he_tape _) ?_
    refine wk_gen (fun h_2 e_2 => ?_)
    obtain ⟨m_2, s_2, g_2_0, g_2_1, o_2⟩ := ai_e2 (by decide) e_2
    replace he_x := g_2_0
    replace hq_x : 0 < h_2.1 := by rw [m_2]; exact hq_x
    replace he_tape := g_2_1
    replace hq_tape : 13 < h_2.1 := by rw [m_2]; exact hq_tape
    have M_2 : h_2.1 = h.1 := m_2.trans M_1
    have S_2 : h_2.2.1 = h.2.1 := s_2.trans S_1
    have O_2 : ∀ j, j ≠ 0 → j ≠ 13 → h_2.2.2 j = h.2.2 j := fun j z0 z1 => (o_2 j z0 z1).trans (O_1 j z0 z1)
    replace hqx : 306 < h_2.1 := by rw [m_2]; exact hqx
    refine rs_aload_n (pc := 25) dX11_feed_25 rfl ?_
    refine rs_iload_n (pc := 26) dX11_feed_26 rfl ?_
    refine rs_callV (as := [_]) (pc := 27) dX11_feed_27 mk_X11_feedNumber mlX11_157 in_X11_feedNumber se_X11_feedNumber rfl hq_x he_x rfl rfl (Nat.le_of_ble_eq_true rfl) (c_X11_feedNumber (k := k + 8) (by omega) hqx he_x he_tape _) ?_
    refine wk_gen (fun h_3 e_3 => ?_)
    obtain ⟨m_3, s_3, g_3_0, g_3_1, o_3⟩ := ai_e2 (by decide) e_3
    replace he_x := g_3_0
    replace hq_x : 0 < h_3.1 := by rw [m_3]; exact hq_x
    replace he_tape := g_3_1
    replace hq_tape : 13 < h_3.1 := by rw [m_3]; exact hq_tape
    have M_3 : h_3.1 = h.1 := m_3.trans M_2
    have S_3 : h_3.2.1 = h.2.1 := s_3.trans S_2
    have O_3 : ∀ j, j ≠ 0 → j ≠ 13 → h_3.2.2 j = h.2.2 j := fun j z0 z1 => (o_3 j z0 z1).trans (O_2 j z0 z1)
    replace hqx : 306 < h_3.1 := by rw [m_3]; exact hqx
    refine rs_aload_n (pc := 30) dX11_feed_30 rfl ?_
    refine rs_iload (pc := 31) dX11_feed_31 rfl ?_
    refine rs_callV (as := [_]) (pc := 33) dX11_feed_33 mk_X11_feedNumber mlX11_157 in_X11_feedNumber se_X11_feedNumber rfl hq_x he_x rfl rfl (Nat.le_of_ble_eq_true rfl) (c_X11_feedNumber (k := k + 12) (by omega) hqx he_x he_tape _) ?_
    refine wk_gen (fun h_4 e_4 => ?_)
    obtain ⟨m_4, s_4, g_4_0, g_4_1, o_4⟩ := ai_e2 (by decide) e_4
    replace he_x := g_4_0
    replace hq_x : 0 < h_4.1 := by rw [m_4]; exact hq_x
    replace he_tape := g_4_1
    replace hq_tape : 13 < h_4.1 := by rw [m_4]; exact hq_tape
    have M_4 : h_4.1 = h.1 := m_4.trans M_3
    have S_4 : h_4.2.1 = h.2.1 := s_4.trans S_3
    have O_4 : ∀ j, j ≠ 0 → j ≠ 13 → h_4.2.2 j = h.2.2 j := fun j z0 z1 => (o_4 j z0 z1).trans (O_3 j z0 z1)
    replace hqx : 306 < h_4.1 := by rw [m_4]; exact hqx
    refine rs_aload_n (pc := 36) dX11_feed_36 rfl ?_
    refine rs_iload (pc := 37) dX11_feed_37 rfl ?_
    refine rs_callV (as := [_]) (pc := 39) dX11_feed_39 mk_X11_feedNumber mlX11_157 in_X11_feedNumber se_X11_feedNumber rfl hq_x he_x rfl rfl (Nat.le_of_ble_eq_true rfl) (c_X11_feedNumber (k := k + 16) (by omega) hqx he_x he_tape _) ?_
    refine wk_gen (fun h_5 e_5 => ?_)
    obtain ⟨m_5, s_5, g_5_0, g_5_1, o_5⟩ := ai_e2 (by decide) e_5
    replace he_x := g_5_0
    replace hq_x : 0 < h_5.1 := by rw [m_5]; exact hq_x
    replace he_tape := g_5_1
    replace hq_tape : 13 < h_5.1 := by rw [m_5]; exact hq_tape
    have M_5 : h_5.1 = h.1 := m_5.trans M_4
    have S_5 : h_5.2.1 = h.2.1 := s_5.trans S_4
    have O_5 : ∀ j, j ≠ 0 → j ≠ 13 → h_5.2.2 j = h.2.2 j := fun j z0 z1 => (o_5 j z0 z1).trans (O_4 j z0 z1)
    replace hqx : 306 < h_5.1 := by rw [m_5]; exact hqx
    refine rs_aload_n (pc := 42) dX11_feed_42 rfl ?_
    refine rs_getf (pc := 43) dX11_feed_43 fX11_24 hq_x he_x rfl ?_
    exact wk_iret (pc := 46) dX11_feed_46 rfl (by simp [hk]) (ai_is2 M_5 S_5 (he_x.trans (by simp [hk] <;> rfl)) (he_tape.trans (by simp [hk] <;> rfl)) O_5)
  · have hk : ¬ k + 20 ≤ 400 := fun z => c_10 (by rw [show nI (k + 0) + 20 = nI (k + 20) from nI_add (k + 0) 20]; exact nI_le z (by decide))
    refine rs_iconst (v := -1) (pc := 13) dX11_feed_13 rfl ?_
    exact wk_iret (pc := 14) dX11_feed_14 rfl (by simp [hk]) (ai_is2 rfl rfl (he_x.trans (by simp [hk] <;> rfl)) (he_tape.trans (by simp [hk] <;> rfl)) (fun _ _ _ => rfl))
theorem dX11_tallySeen_0 : decode cX11_tallySeen 0 = .ok (.aload_n 0, 1) := by decide +kernel
theorem dX11_tallySeen_1 : decode cX11_tallySeen 1 = .ok (.getfield 93, 3) := by decide +kernel
theorem dX11_tallySeen_4 : decode cX11_tallySeen 4 = .ok (.invokevirtual 317, 3) := by decide +kernel
theorem dX11_tallySeen_7 : decode cX11_tallySeen 7 = .ok (.iconst 0, 1) := by decide +kernel
theorem dX11_tallySeen_8 : decode cX11_tallySeen 8 = .ok (.istore 6, 2) := by decide +kernel
theorem dX11_tallySeen_10 : decode cX11_tallySeen 10 = .ok (.iload 6, 2) := by decide +kernel
theorem dX11_tallySeen_12 : decode cX11_tallySeen 12 = .ok (.aload_n 0, 1) := by decide +kernel
theorem dX11_tallySeen_13 : decode cX11_tallySeen 13 = .ok (.getfield 10, 3) := by decide +kernel
theorem dX11_tallySeen_16 : decode cX11_tallySeen 16 = .ok (.getfield 135, 3) := by decide +kernel
theorem dX11_tallySeen_19 : decode cX11_tallySeen 19 = .ok (.getfield 224, 3) := by decide +kernel
theorem dX11_tallySeen_22 : decode cX11_tallySeen 22 = .ok (.if_icmp .ge 121, 3) := by decide +kernel
theorem dX11_tallySeen_25 : decode cX11_tallySeen 25 = .ok (.aload_n 0, 1) := by decide +kernel
theorem dX11_tallySeen_26 : decode cX11_tallySeen 26 = .ok (.getfield 10, 3) := by decide +kernel
theorem dX11_tallySeen_29 : decode cX11_tallySeen 29 = .ok (.getfield 135, 3) := by decide +kernel
theorem dX11_tallySeen_32 : decode cX11_tallySeen 32 = .ok (.iload 6, 2) := by decide +kernel
theorem dX11_tallySeen_34 : decode cX11_tallySeen 34 = .ok (.iconst 3, 1) := by decide +kernel
theorem dX11_tallySeen_35 : decode cX11_tallySeen 35 = .ok (.invokevirtual 141, 3) := by decide +kernel
theorem dX11_tallySeen_38 : decode cX11_tallySeen 38 = .ok (.iload_n 1, 1) := by decide +kernel
theorem dX11_tallySeen_39 : decode cX11_tallySeen 39 = .ok (.if_icmp .ne 59, 3) := by decide +kernel
theorem dX11_tallySeen_42 : decode cX11_tallySeen 42 = .ok (.aload_n 0, 1) := by decide +kernel
theorem dX11_tallySeen_43 : decode cX11_tallySeen 43 = .ok (.getfield 10, 3) := by decide +kernel
theorem dX11_tallySeen_46 : decode cX11_tallySeen 46 = .ok (.getfield 135, 3) := by decide +kernel
theorem dX11_tallySeen_49 : decode cX11_tallySeen 49 = .ok (.iload 6, 2) := by decide +kernel
theorem dX11_tallySeen_51 : decode cX11_tallySeen 51 = .ok (.iconst 0, 1) := by decide +kernel
theorem dX11_tallySeen_52 : decode cX11_tallySeen 52 = .ok (.invokevirtual 141, 3) := by decide +kernel
theorem dX11_tallySeen_55 : decode cX11_tallySeen 55 = .ok (.iload_n 2, 1) := by decide +kernel
theorem dX11_tallySeen_56 : decode cX11_tallySeen 56 = .ok (.if_icmp .ne 42, 3) := by decide +kernel
theorem dX11_tallySeen_59 : decode cX11_tallySeen 59 = .ok (.aload_n 0, 1) := by decide +kernel
theorem dX11_tallySeen_60 : decode cX11_tallySeen 60 = .ok (.getfield 10, 3) := by decide +kernel
theorem dX11_tallySeen_63 : decode cX11_tallySeen 63 = .ok (.getfield 135, 3) := by decide +kernel
theorem dX11_tallySeen_66 : decode cX11_tallySeen 66 = .ok (.iload 6, 2) := by decide +kernel
theorem dX11_tallySeen_68 : decode cX11_tallySeen 68 = .ok (.iconst 1, 1) := by decide +kernel
theorem dX11_tallySeen_69 : decode cX11_tallySeen 69 = .ok (.invokevirtual 141, 3) := by decide +kernel
theorem dX11_tallySeen_72 : decode cX11_tallySeen 72 = .ok (.iload_n 3, 1) := by decide +kernel
theorem dX11_tallySeen_73 : decode cX11_tallySeen 73 = .ok (.if_icmp .ne 25, 3) := by decide +kernel
theorem dX11_tallySeen_76 : decode cX11_tallySeen 76 = .ok (.aload_n 0, 1) := by decide +kernel
theorem dX11_tallySeen_77 : decode cX11_tallySeen 77 = .ok (.getfield 10, 3) := by decide +kernel
theorem dX11_tallySeen_80 : decode cX11_tallySeen 80 = .ok (.getfield 135, 3) := by decide +kernel
theorem dX11_tallySeen_83 : decode cX11_tallySeen 83 = .ok (.iload 6, 2) := by decide +kernel
theorem dX11_tallySeen_85 : decode cX11_tallySeen 85 = .ok (.iconst 4, 1) := by decide +kernel
theorem dX11_tallySeen_86 : decode cX11_tallySeen 86 = .ok (.invokevirtual 141, 3) := by decide +kernel
theorem dX11_tallySeen_89 : decode cX11_tallySeen 89 = .ok (.iload 4, 2) := by decide +kernel
theorem dX11_tallySeen_91 : decode cX11_tallySeen 91 = .ok (.if_icmp .ne 7, 3) := by decide +kernel
theorem dX11_tallySeen_94 : decode cX11_tallySeen 94 = .ok (.iconst 1, 1) := by decide +kernel
theorem dX11_tallySeen_95 : decode cX11_tallySeen 95 = .ok (.goto 4, 3) := by decide +kernel
theorem dX11_tallySeen_98 : decode cX11_tallySeen 98 = .ok (.iconst 0, 1) := by decide +kernel
theorem dX11_tallySeen_99 : decode cX11_tallySeen 99 = .ok (.istore 7, 2) := by decide +kernel
theorem dX11_tallySeen_101 : decode cX11_tallySeen 101 = .ok (.iload 7, 2) := by decide +kernel
theorem dX11_tallySeen_103 : decode cX11_tallySeen 103 = .ok (.ifCond .eq 34, 3) := by decide +kernel
theorem dX11_tallySeen_106 : decode cX11_tallySeen 106 = .ok (.aload_n 0, 1) := by decide +kernel
theorem dX11_tallySeen_107 : decode cX11_tallySeen 107 = .ok (.getfield 10, 3) := by decide +kernel
theorem dX11_tallySeen_110 : decode cX11_tallySeen 110 = .ok (.iload 6, 2) := by decide +kernel
theorem dX11_tallySeen_112 : decode cX11_tallySeen 112 = .ok (.iload 5, 2) := by decide +kernel
theorem dX11_tallySeen_114 : decode cX11_tallySeen 114 = .ok (.invokevirtual 320, 3) := by decide +kernel
theorem dX11_tallySeen_117 : decode cX11_tallySeen 117 = .ok (.ifCond .eq 20, 3) := by decide +kernel
theorem dX11_tallySeen_120 : decode cX11_tallySeen 120 = .ok (.aload_n 0, 1) := by decide +kernel
theorem dX11_tallySeen_121 : decode cX11_tallySeen 121 = .ok (.getfield 93, 3) := by decide +kernel
theorem dX11_tallySeen_124 : decode cX11_tallySeen 124 = .ok (.aload_n 0, 1) := by decide +kernel
theorem dX11_tallySeen_125 : decode cX11_tallySeen 125 = .ok (.getfield 10, 3) := by decide +kernel
theorem dX11_tallySeen_128 : decode cX11_tallySeen 128 = .ok (.iload 6, 2) := by decide +kernel
theorem dX11_tallySeen_130 : decode cX11_tallySeen 130 = .ok (.invokevirtual 323, 3) := by decide +kernel
theorem dX11_tallySeen_133 : decode cX11_tallySeen 133 = .ok (.i2l, 1) := by decide +kernel
theorem dX11_tallySeen_134 : decode cX11_tallySeen 134 = .ok (.invokevirtual 326, 3) := by decide +kernel
theorem dX11_tallySeen_137 : decode cX11_tallySeen 137 = .ok (.iinc 6 1, 3) := by decide +kernel
theorem dX11_tallySeen_140 : decode cX11_tallySeen 140 = .ok (.goto (-130), 3) := by decide +kernel
theorem dX11_tallySeen_143 : decode cX11_tallySeen 143 = .ok (.return_, 1) := by decide +kernel
set_option maxRecDepth 100000 in
set_option maxHeartbeats 4000000 in
theorem l_X11_tallySeen {h : ai_H} {tb lm : Int32} {B : Bk} (hx : x_at h tb lm) (hB : bk_at h 1 B) (o n s w k : Int32) {sz : Nat} (hsz : sz ≤ 400) (esz : (bk_r B).1 = nI sz) : ∀ (m i : Nat) (g : ai_H) (u : Value), i ≤ sz → sz + 1 ≤ i + m → g.1 = h.1 → g.2.1 = h.2.1 → g.2.2 306 = ty_cell (ty_fold (xs_seenp B o n s w k) (fun i => (bk_red B (nI i)).toInt64) i) → (∀ j, j ≠ 306 → g.2.2 j = h.2.2 j) → ai_R MX11_tallySeen 10 [.ref 0, .int o, .int n, .int s, .int w, .int k, .int (nI i), u] [] g none (ai_set h 306 (ty_cell (xs_seenT B o n s w k))) := by
  intro m
  induction m with
  | zero => intro i g u h1 h2; exact absurd h2 (by omega)
  | succ m ih =>
    intro i g u hi him hm hs he_tally ho
    replace hx := hx.keep hm (ho 0 (by decide))
    replace hB := hB.keep hm (fun j a b => ho j (by omega))
    have hB0 := hB
    obtain ⟨hqx, he_x⟩ := hx
    obtain ⟨-, he_b, ⟨he_to, he_ao, ok_o⟩, ⟨he_ts, he_as, ok_s⟩, ⟨he_tn, he_an, ok_n⟩, ⟨he_tr, he_ar, ok_r⟩, ⟨he_tj, he_aj, ok_j⟩⟩ := hB
    have hq_x : 0 < g.1 := by omega
    have hq_b : 1 < g.1 := by omega
    have hq_to : 2 < g.1 := by omega
    have hq_ao : 3 < g.1 := by omega
    have hq_ts : 4 < g.1 := by omega
    have hq_as : 5 < g.1 := by omega
    have hq_tn : 6 < g.1 := by omega
    have hq_an : 7 < g.1 := by omega
    have hq_tr : 8 < g.1 := by omega
    have hq_ar : 9 < g.1 := by omega
    have hq_tj : 10 < g.1 := by omega
    have hq_aj : 11 < g.1 := by omega
    have hq_tally : 306 < g.1 := by omega
    refine rs_iload (pc := 10) dX11_tallySeen_10 rfl ?_
    refine rs_aload_n (pc := 12) dX11_tallySeen_12 rfl ?_
    refine rs_getf (pc := 13) dX11_tallySeen_13 fX11_10 hq_x he_x rfl ?_
    refine rs_getf (pc := 16) dX11_tallySeen_16 fX11_135 hq_b he_b rfl ?_
    refine rs_getf (pc := 19) dX11_tallySeen_19 fX11_224 hq_tr he_tr rfl ?_
    refine rs_icmp_ge (tgt := 143) (pc := 22) dX11_tallySeen_22 rfl (fun c_22 => ?_) (fun c_22 => ?_)
    · have hie : i = sz := lp_exit esz (by omega) hi c_22
      subst hie
      exact wk_vret (pc := 143) dX11_tallySeen_143 rfl (rfl) (ai_is1 hm hs (he_tally.trans (by rw [xs_seenT, esz, nI_toInt (by omega)]; rfl)) ho)
    · have hlt : i < sz := lp_go esz (by omega) c_22
      refine rs_aload_n (pc := 25) dX11_tallySeen_25 rfl ?_
      refine rs_getf (pc := 26) dX11_tallySeen_26 fX11_10 hq_x he_x rfl ?_
      refine rs_getf (pc := 29) dX11_tallySeen_29 fX11_135 hq_b he_b rfl ?_
      refine rs_iload (pc := 32) dX11_tallySeen_32 rfl ?_
      refine rs_iconst (v := 3) (pc := 34) dX11_tallySeen_34 rfl ?_
      refine rs_callV (as := [_, _]) (pc := 35) dX11_tallySeen_35 mk_X8_at mlX11_141 in_X8_at se_X8_at rfl hq_tr he_tr rfl rfl (Nat.le_of_ble_eq_true rfl) (c_X8_at hq_tr he_tr hq_ar he_ar ok_r _ _) ?_
      refine rs_iload_n (pc := 38) dX11_tallySeen_38 rfl ?_
      refine rs_icmp_ne (tgt := 98) (pc := 39) dX11_tallySeen_39 rfl (fun c_39 => ?_) (fun c_39 => ?_)
      · refine rs_iconst (v := 0) (pc := 98) dX11_tallySeen_98 rfl ?_
        refine wk_ist7 (pc := 99) dX11_tallySeen_99 (by decide) rfl ?_
        refine rs_iload (pc := 101) dX11_tallySeen_101 rfl ?_
        refine rs_if_eq (tgt := 137) (pc := 103) dX11_tallySeen_103 rfl (fun c_103 => ?_) (fun c_103 => absurd c_103 (by decide))
        refine wk_iinc6 (v := nI (i + 1)) (pc := 137) dX11_tallySeen_137 (by decide) rfl (nI_1 i) ?_
        refine rs_goto (tgt := 10) (pc := 140) dX11_tallySeen_140 rfl ?_
        exact ih (i + 1) _ _ (by omega) (by omega) hm hs (he_tally.trans (ty_no (by simp [xs_seenp, bk_rat, c_22, c_39]))) ho
      · refine rs_aload_n (pc := 42) dX11_tallySeen_42 rfl ?_
        refine rs_getf (pc := 43) dX11_tallySeen_43 fX11_10 hq_x he_x rfl ?_
        refine rs_getf (pc := 46) dX11_tallySeen_46 fX11_135 hq_b he_b rfl ?_
        refine rs_iload (pc := 49) dX11_tallySeen_49 rfl ?_
        refine rs_iconst (v := 0) (pc := 51) dX11_tallySeen_51 rfl ?_
        refine rs_callV (as := [_, _]) (pc := 52) dX11_tallySeen_52 mk_X8_at mlX11_141 in_X8_at se_X8_at rfl hq_tr he_tr rfl rfl (Nat.le_of_ble_eq_true rfl) (c_X8_at hq_tr he_tr hq_ar he_ar ok_r _ _) ?_
        refine rs_iload_n (pc := 55) dX11_tallySeen_55 rfl ?_
        refine rs_icmp_ne (tgt := 98) (pc := 56) dX11_tallySeen_56 rfl (fun c_56 => ?_) (fun c_56 => ?_)
        · refine rs_iconst (v := 0) (pc := 98) dX11_tallySeen_98 rfl ?_
          refine wk_ist7 (pc := 99) dX11_tallySeen_99 (by decide) rfl ?_
          refine rs_iload (pc := 101) dX11_tallySeen_101 rfl ?_
          refine rs_if_eq (tgt := 137) (pc := 103) dX11_tallySeen_103 rfl (fun c_103 => ?_) (fun c_103 => absurd c_103 (by decide))
          refine wk_iinc6 (v := nI (i + 1)) (pc := 137) dX11_tallySeen_137 (by decide) rfl (nI_1 i) ?_
          refine rs_goto (tgt := 10) (pc := 140) dX11_tallySeen_140 rfl ?_
          exact ih (i + 1) _ _ (by omega) (by omega) hm hs (he_tally.trans (ty_no (by simp [xs_seenp, bk_rat, c_22, c_39, c_56]))) ho
        · refine rs_aload_n (pc := 59) dX11_tallySeen_59 rfl ?_
          refine rs_getf (pc := 60) dX11_tallySeen_60 fX11_10 hq_x he_x rfl ?_
          refine rs_getf (pc := 63) dX11_tallySeen_63 fX11_135 hq_b he_b rfl ?_
          refine rs_iload (pc := 66) dX11_tallySeen_66 rfl ?_
          refine rs_iconst (v := 1) (pc := 68) dX11_tallySeen_68 rfl ?_
          refine rs_callV (as := [_, _]) (pc := 69) dX11_tallySeen_69 mk_X8_at mlX11_141 in_X8_at se_X8_at rfl hq_tr he_tr rfl rfl (Nat.le_of_ble_eq_true rfl) (c_X8_at hq_tr he_tr hq_ar he_ar ok_r _ _) ?_
          refine rs_iload_n (pc := 72) dX11_tallySeen_72 rfl ?_
          refine rs_icmp_ne (tgt := 98) (pc := 73) dX11_tallySeen_73 rfl (fun c_73 => ?_) (fun c_73 => ?_)
          · refine rs_iconst (v := 0) (pc := 98) dX11_tallySeen_98 rfl ?_
            refine wk_ist7 (pc := 99) dX11_tallySeen_99 (by decide) rfl ?_
            refine rs_iload (pc := 101) dX11_tallySeen_101 rfl ?_
            refine rs_if_eq (tgt := 137) (pc := 103) dX11_tallySeen_103 rfl (fun c_103 => ?_) (fun c_103 => absurd c_103 (by decide))
            refine wk_iinc6 (v := nI (i + 1)) (pc := 137) dX11_tallySeen_137 (by decide) rfl (nI_1 i) ?_
            refine rs_goto (tgt := 10) (pc := 140) dX11_tallySeen_140 rfl ?_
            exact ih (i + 1) _ _ (by omega) (by omega) hm hs (he_tally.trans (ty_no (by simp [xs_seenp, bk_rat, c_22, c_39, c_56, c_73]))) ho
          · refine rs_aload_n (pc := 76) dX11_tallySeen_76 rfl ?_
            refine rs_getf (pc := 77) dX11_tallySeen_77 fX11_10 hq_x he_x rfl ?_
            refine rs_getf (pc := 80) dX11_tallySeen_80 fX11_135 hq_b he_b rfl ?_
            refine rs_iload (pc := 83) dX11_tallySeen_83 rfl ?_
            refine rs_iconst (v := 4) (pc := 85) dX11_tallySeen_85 rfl ?_
            refine rs_callV (as := [_, _]) (pc := 86) dX11_tallySeen_86 mk_X8_at mlX11_141 in_X8_at se_X8_at rfl hq_tr he_tr rfl rfl (Nat.le_of_ble_eq_true rfl) (c_X8_at hq_tr he_tr hq_ar he_ar ok_r _ _) ?_
            refine rs_iload (pc := 89) dX11_tallySeen_89 rfl ?_
            refine rs_icmp_ne (tgt := 98) (pc := 91) dX11_tallySeen_91 rfl (fun c_91 => ?_) (fun c_91 => ?_)
            · refine rs_iconst (v := 0) (pc := 98) dX11_tallySeen_98 rfl ?_
              refine wk_ist7 (pc := 99) dX11_tallySeen_99 (by decide) rfl ?_
              refine rs_iload (pc := 101) dX11_tallySeen_101 rfl ?_
              refine rs_if_eq (tgt := 137) (pc := 103) dX11_tallySeen_103 rfl (fun c_103 => ?_) (fun c_103 => absurd c_103 (by decide))
              refine wk_iinc6 (v := nI (i + 1)) (pc := 137) dX11_tallySeen_137 (by decide) rfl (nI_1 i) ?_
              refine rs_goto (tgt := 10) (pc := 140) dX11_tallySeen_140 rfl ?_
              exact ih (i + 1) _ _ (by omega) (by omega) hm hs (he_tally.trans (ty_no (by simp [xs_seenp, bk_rat, c_22, c_39, c_56, c_73, c_91]))) ho
            · refine rs_iconst (v := 1) (pc := 94) dX11_tallySeen_94 rfl ?_
              refine rs_goto (tgt := 99) (pc := 95) dX11_tallySeen_95 rfl ?_
              refine wk_ist7 (pc := 99) dX11_tallySeen_99 (by decide) rfl ?_
              refine rs_iload (pc := 101) dX11_tallySeen_101 rfl ?_
              refine rs_if_eq (tgt := 137) (pc := 103) dX11_tallySeen_103 rfl (fun c_103 => absurd c_103 (by decide)) (fun c_103 => ?_)
              refine rs_aload_n (pc := 106) dX11_tallySeen_106 rfl ?_
              refine rs_getf (pc := 107) dX11_tallySeen_107 fX11_10 hq_x he_x rfl ?_
              refine rs_iload (pc := 110) dX11_tallySeen_110 rfl ?_
              refine rs_iload (pc := 112) dX11_tallySeen_112 rfl ?_
              refine rs_callV (as := [_, _]) (pc := 114) dX11_tallySeen_114 mk_X1_isKnown mlX11_320 in_X1_isKnown se_X1_isKnown rfl hq_b he_b rfl rfl (Nat.le_of_ble_eq_true rfl) (c_X1_isKnown hB0 _ _) ?_
              refine rs_if_eq (tgt := 137) (pc := 117) dX11_tallySeen_117 rfl (fun c_117 => ?_) (fun c_117 => ?_)
              · refine wk_iinc6 (v := nI (i + 1)) (pc := 137) dX11_tallySeen_137 (by decide) rfl (nI_1 i) ?_
                refine rs_goto (tgt := 10) (pc := 140) dX11_tallySeen_140 rfl ?_
                exact ih (i + 1) _ _ (by omega) (by omega) hm hs (he_tally.trans (ty_no (by simp [xs_seenp, bk_rat, c_22, c_39, c_56, c_73, c_91, c_117]))) ho
              · refine rs_aload_n (pc := 120) dX11_tallySeen_120 rfl ?_
                refine rs_getf (pc := 121) dX11_tallySeen_121 fX11_93 hq_x he_x rfl ?_
                refine rs_aload_n (pc := 124) dX11_tallySeen_124 rfl ?_
                refine rs_getf (pc := 125) dX11_tallySeen_125 fX11_10 hq_x he_x rfl ?_
                refine rs_iload (pc := 128) dX11_tallySeen_128 rfl ?_
                refine rs_callV (as := [_]) (pc := 130) dX11_tallySeen_130 mk_X1_reduced mlX11_323 in_X1_reduced se_X1_reduced rfl hq_b he_b rfl rfl (Nat.le_of_ble_eq_true rfl) (c_X1_reduced hB0 _) ?_
                refine rs_i2l (pc := 133) dX11_tallySeen_133 ?_
                refine rs_callV (as := [_]) (pc := 134) dX11_tallySeen_134 mk_X9_add mlX11_326 in_X9_add se_X9_add rfl hq_tally he_tally rfl rfl (Nat.le_of_ble_eq_true rfl) (c_X9_add hq_tally he_tally _) ?_
                refine wk_gen (fun h_1 e_1 => ?_)
                obtain ⟨m_1, s_1, g_1_0, o_1⟩ := ai_e1 e_1
                have he_x' := (o_1 _ (by decide)).trans he_x
                have he_b' := (o_1 _ (by decide)).trans he_b
                have he_to' := (o_1 _ (by decide)).trans he_to
                have he_ao' := (o_1 _ (by decide)).trans he_ao
                have he_ts' := (o_1 _ (by decide)).trans he_ts
                have he_as' := (o_1 _ (by decide)).trans he_as
                have he_tn' := (o_1 _ (by decide)).trans he_tn
                have he_an' := (o_1 _ (by decide)).trans he_an
                have he_tr' := (o_1 _ (by decide)).trans he_tr
                have he_ar' := (o_1 _ (by decide)).trans he_ar
                have he_tj' := (o_1 _ (by decide)).trans he_tj
                have he_aj' := (o_1 _ (by decide)).trans he_aj
                replace he_x := he_x'
                replace hq_x : 0 < h_1.1 := by rw [m_1]; exact hq_x
                replace he_b := he_b'
                replace hq_b : 1 < h_1.1 := by rw [m_1]; exact hq_b
                replace he_to := he_to'
                replace hq_to : 2 < h_1.1 := by rw [m_1]; exact hq_to
                replace he_ao := he_ao'
                replace hq_ao : 3 < h_1.1 := by rw [m_1]; exact hq_ao
                replace he_ts := he_ts'
                replace hq_ts : 4 < h_1.1 := by rw [m_1]; exact hq_ts
                replace he_as := he_as'
                replace hq_as : 5 < h_1.1 := by rw [m_1]; exact hq_as
                replace he_tn := he_tn'
                replace hq_tn : 6 < h_1.1 := by rw [m_1]; exact hq_tn
                replace he_an := he_an'
                replace hq_an : 7 < h_1.1 := by rw [m_1]; exact hq_an
                replace he_tr := he_tr'
                replace hq_tr : 8 < h_1.1 := by rw [m_1]; exact hq_tr
                replace he_ar := he_ar'
                replace hq_ar : 9 < h_1.1 := by rw [m_1]; exact hq_ar
                replace he_tj := he_tj'
                replace hq_tj : 10 < h_1.1 := by rw [m_1]; exact hq_tj
                replace he_aj := he_aj'
                replace hq_aj : 11 < h_1.1 := by rw [m_1]; exact hq_aj
                replace he_tally := g_1_0
                replace hq_tally : 306 < h_1.1 := by rw [m_1]; exact hq_tally
                have M_1 : h_1.1 = g.1 := m_1
                have S_1 : h_1.2.1 = g.2.1 := s_1
                have O_1 : ∀ j, j ≠ 306 → h_1.2.2 j = g.2.2 j := fun j z0 => o_1 j z0
                refine wk_iinc6 (v := nI (i + 1)) (pc := 137) dX11_tallySeen_137 (by decide) rfl (nI_1 i) ?_
                refine rs_goto (tgt := 10) (pc := 140) dX11_tallySeen_140 rfl ?_
                exact ih (i + 1) _ _ (by omega) (by omega) (M_1.trans hm) (S_1.trans hs) (he_tally.trans (ty_yes (by simp [xs_seenp, bk_rat, c_22, c_39, c_56, c_73, c_91, c_117]))) (fun j hj => (O_1 j hj).trans (ho j hj))
set_option maxRecDepth 100000 in
set_option maxHeartbeats 4000000 in
theorem c_X11_tallySeen {h : ai_H} {tb lm : Int32} {B : Bk} {t : Ty} (hx : x_at h tb lm) (hB : bk_at h 1 B) (he_tally : h.2.2 306 = ty_cell t) (o n s w k : Int32) : ai_Met MX11_tallySeen [.ref 0, .int o, .int n, .int s, .int w, .int k] h none (ai_set h 306 (ty_cell (xs_seenT B o n s w k))) := by
  have hx0 := hx
  obtain ⟨sz, hsz0, esz, -⟩ := tb_size hB.2.2.2.2.2.1.2.2
  have hsz : sz ≤ 400 := by rw [show (400 : Int32).toInt = 400 from rfl] at hsz0; omega
  have hB0 := hB
  obtain ⟨hqx, he_x⟩ := hx
  obtain ⟨-, he_b, ⟨he_to, he_ao, ok_o⟩, ⟨he_ts, he_as, ok_s⟩, ⟨he_tn, he_an, ok_n⟩, ⟨he_tr, he_ar, ok_r⟩, ⟨he_tj, he_aj, ok_j⟩⟩ := hB
  have hq_x : 0 < h.1 := by omega
  have hq_b : 1 < h.1 := by omega
  have hq_to : 2 < h.1 := by omega
  have hq_ao : 3 < h.1 := by omega
  have hq_ts : 4 < h.1 := by omega
  have hq_as : 5 < h.1 := by omega
  have hq_tn : 6 < h.1 := by omega
  have hq_an : 7 < h.1 := by omega
  have hq_tr : 8 < h.1 := by omega
  have hq_ar : 9 < h.1 := by omega
  have hq_tj : 10 < h.1 := by omega
  have hq_aj : 11 < h.1 := by omega
  have hq_tally : 306 < h.1 := by omega
  refine ai_met (ls := [.ref 0, .int o, .int n, .int s, .int w, .int k, .float 0, .float 0]) (by decide) (by simp [ai_en, Value.category]) (by rfl) ?_
  refine rs_aload_n (pc := 0) dX11_tallySeen_0 rfl ?_
  refine rs_getf (pc := 1) dX11_tallySeen_1 fX11_93 hq_x he_x rfl ?_
  refine rs_callV (as := []) (pc := 4) dX11_tallySeen_4 mk_X9_clear mlX11_317 in_X9_clear se_X9_clear rfl hq_tally he_tally rfl rfl (Nat.le_of_ble_eq_true rfl) (c_X9_clear hq_tally he_tally) ?_
  refine wk_gen (fun h_1 e_1 => ?_)
  obtain ⟨m_1, s_1, g_1_0, o_1⟩ := ai_e1 e_1
  have he_x' := (o_1 _ (by decide)).trans he_x
  have he_b' := (o_1 _ (by decide)).trans he_b
  have he_to' := (o_1 _ (by decide)).trans he_to
  have he_ao' := (o_1 _ (by decide)).trans he_ao
  have he_ts' := (o_1 _ (by decide)).trans he_ts
  have he_as' := (o_1 _ (by decide)).trans he_as
  have he_tn' := (o_1 _ (by decide)).trans he_tn
  have he_an' := (o_1 _ (by decide)).trans he_an
  have he_tr' := (o_1 _ (by decide)).trans he_tr
  have he_ar' := (o_1 _ (by decide)).trans he_ar
  have he_tj' := (o_1 _ (by decide)).trans he_tj
  have he_aj' := (o_1 _ (by decide)).trans he_aj
  replace he_x := he_x'
  replace hq_x : 0 < h_1.1 := by rw [m_1]; exact hq_x
  replace he_b := he_b'
  replace hq_b : 1 < h_1.1 := by rw [m_1]; exact hq_b
  replace he_to := he_to'
  replace hq_to : 2 < h_1.1 := by rw [m_1]; exact hq_to
  replace he_ao := he_ao'
  replace hq_ao : 3 < h_1.1 := by rw [m_1]; exact hq_ao
  replace he_ts := he_ts'
  replace hq_ts : 4 < h_1.1 := by rw [m_1]; exact hq_ts
  replace he_as := he_as'
  replace hq_as : 5 < h_1.1 := by rw [m_1]; exact hq_as
  replace he_tn := he_tn'
  replace hq_tn : 6 < h_1.1 := by rw [m_1]; exact hq_tn
  replace he_an := he_an'
  replace hq_an : 7 < h_1.1 := by rw [m_1]; exact hq_an
  replace he_tr := he_tr'
  replace hq_tr : 8 < h_1.1 := by rw [m_1]; exact hq_tr
  replace he_ar := he_ar'
  replace hq_ar : 9 < h_1.1 := by rw [m_1]; exact hq_ar
  replace he_tj := he_tj'
  replace hq_tj : 10 < h_1.1 := by rw [m_1]; exact hq_tj
  replace he_aj := he_aj'
  replace hq_aj : 11 < h_1.1 := by rw [m_1]; exact hq_aj
  replace he_tally := g_1_0
  replace hq_tally : 306 < h_1.1 := by rw [m_1]; exact hq_tally
  have M_1 : h_1.1 = h.1 := m_1
  have S_1 : h_1.2.1 = h.2.1 := s_1
  have O_1 : ∀ j, j ≠ 306 → h_1.2.2 j = h.2.2 j := fun j z0 => o_1 j z0
  refine rs_iconst (v := 0) (pc := 7) dX11_tallySeen_7 rfl ?_
  refine wk_ist6 (pc := 8) dX11_tallySeen_8 (by decide) rfl ?_
  exact l_X11_tallySeen hx0 hB0 o n s w k hsz esz (sz + 1) 0 _ _ (by omega) (by omega) m_1 s_1 he_tally o_1
theorem dX11_tallyOwn_0 : decode cX11_tallyOwn 0 = .ok (.aload_n 0, 1) := by decide +kernel
theorem dX11_tallyOwn_1 : decode cX11_tallyOwn 1 = .ok (.getfield 93, 3) := by decide +kernel
theorem dX11_tallyOwn_4 : decode cX11_tallyOwn 4 = .ok (.invokevirtual 317, 3) := by decide +kernel
theorem dX11_tallyOwn_7 : decode cX11_tallyOwn 7 = .ok (.iconst 0, 1) := by decide +kernel
theorem dX11_tallyOwn_8 : decode cX11_tallyOwn 8 = .ok (.istore 4, 2) := by decide +kernel
theorem dX11_tallyOwn_10 : decode cX11_tallyOwn 10 = .ok (.iload 4, 2) := by decide +kernel
theorem dX11_tallyOwn_12 : decode cX11_tallyOwn 12 = .ok (.aload_n 0, 1) := by decide +kernel
theorem dX11_tallyOwn_13 : decode cX11_tallyOwn 13 = .ok (.getfield 10, 3) := by decide +kernel
theorem dX11_tallyOwn_16 : decode cX11_tallyOwn 16 = .ok (.getfield 135, 3) := by decide +kernel
theorem dX11_tallyOwn_19 : decode cX11_tallyOwn 19 = .ok (.getfield 224, 3) := by decide +kernel
theorem dX11_tallyOwn_22 : decode cX11_tallyOwn 22 = .ok (.if_icmp .ge 58, 3) := by decide +kernel
theorem dX11_tallyOwn_25 : decode cX11_tallyOwn 25 = .ok (.aload_n 0, 1) := by decide +kernel
theorem dX11_tallyOwn_26 : decode cX11_tallyOwn 26 = .ok (.getfield 10, 3) := by decide +kernel
theorem dX11_tallyOwn_29 : decode cX11_tallyOwn 29 = .ok (.iload 4, 2) := by decide +kernel
theorem dX11_tallyOwn_31 : decode cX11_tallyOwn 31 = .ok (.iload_n 1, 1) := by decide +kernel
theorem dX11_tallyOwn_32 : decode cX11_tallyOwn 32 = .ok (.iload_n 3, 1) := by decide +kernel
theorem dX11_tallyOwn_33 : decode cX11_tallyOwn 33 = .ok (.invokevirtual 330, 3) := by decide +kernel
theorem dX11_tallyOwn_36 : decode cX11_tallyOwn 36 = .ok (.ifCond .eq 38, 3) := by decide +kernel
theorem dX11_tallyOwn_39 : decode cX11_tallyOwn 39 = .ok (.iload_n 2, 1) := by decide +kernel
theorem dX11_tallyOwn_40 : decode cX11_tallyOwn 40 = .ok (.iconst (-1), 1) := by decide +kernel
theorem dX11_tallyOwn_41 : decode cX11_tallyOwn 41 = .ok (.if_icmp .eq 16, 3) := by decide +kernel
theorem dX11_tallyOwn_44 : decode cX11_tallyOwn 44 = .ok (.aload_n 0, 1) := by decide +kernel
theorem dX11_tallyOwn_45 : decode cX11_tallyOwn 45 = .ok (.getfield 10, 3) := by decide +kernel
theorem dX11_tallyOwn_48 : decode cX11_tallyOwn 48 = .ok (.iload 4, 2) := by decide +kernel
theorem dX11_tallyOwn_50 : decode cX11_tallyOwn 50 = .ok (.invokevirtual 333, 3) := by decide +kernel
theorem dX11_tallyOwn_53 : decode cX11_tallyOwn 53 = .ok (.iload_n 2, 1) := by decide +kernel
theorem dX11_tallyOwn_54 : decode cX11_tallyOwn 54 = .ok (.if_icmp .ne 20, 3) := by decide +kernel
theorem dX11_tallyOwn_57 : decode cX11_tallyOwn 57 = .ok (.aload_n 0, 1) := by decide +kernel
theorem dX11_tallyOwn_58 : decode cX11_tallyOwn 58 = .ok (.getfield 93, 3) := by decide +kernel
theorem dX11_tallyOwn_61 : decode cX11_tallyOwn 61 = .ok (.aload_n 0, 1) := by decide +kernel
theorem dX11_tallyOwn_62 : decode cX11_tallyOwn 62 = .ok (.getfield 10, 3) := by decide +kernel
theorem dX11_tallyOwn_65 : decode cX11_tallyOwn 65 = .ok (.iload 4, 2) := by decide +kernel
theorem dX11_tallyOwn_67 : decode cX11_tallyOwn 67 = .ok (.invokevirtual 336, 3) := by decide +kernel
theorem dX11_tallyOwn_70 : decode cX11_tallyOwn 70 = .ok (.i2l, 1) := by decide +kernel
theorem dX11_tallyOwn_71 : decode cX11_tallyOwn 71 = .ok (.invokevirtual 326, 3) := by decide +kernel
theorem dX11_tallyOwn_74 : decode cX11_tallyOwn 74 = .ok (.iinc 4 1, 3) := by decide +kernel
theorem dX11_tallyOwn_77 : decode cX11_tallyOwn 77 = .ok (.goto (-67), 3) := by decide +kernel
theorem dX11_tallyOwn_80 : decode cX11_tallyOwn 80 = .ok (.return_, 1) := by decide +kernel
set_option maxRecDepth 100000 in
set_option maxHeartbeats 4000000 in
theorem l_X11_tallyOwn {h : ai_H} {tb lm : Int32} {B : Bk} (hx : x_at h tb lm) (hB : bk_at h 1 B) (o y k : Int32) {sz : Nat} (hsz : sz ≤ 400) (esz : (bk_r B).1 = nI sz) : ∀ (m i : Nat) (g : ai_H), i ≤ sz → sz + 1 ≤ i + m → g.1 = h.1 → g.2.1 = h.2.1 → g.2.2 306 = ty_cell (ty_fold (xs_ownp B o y k) (fun i => (bk_late B (nI i)).toInt64) i) → (∀ j, j ≠ 306 → g.2.2 j = h.2.2 j) → ai_R MX11_tallyOwn 10 [.ref 0, .int o, .int y, .int k, .int (nI i)] [] g none (ai_set h 306 (ty_cell (xs_ownT B o y k))) := by
  intro m
  induction m with
  | zero => intro i g h1 h2; exact absurd h2 (by omega)
  | succ m ih =>
    intro i g hi him hm hs he_tally ho
    replace hx := hx.keep hm (ho 0 (by decide))
    replace hB := hB.keep hm (fun j a b => ho j (by omega))
    have hB0 := hB
    obtain ⟨hqx, he_x⟩ := hx
    obtain ⟨-, he_b, ⟨he_to, he_ao, ok_o⟩, ⟨he_ts, he_as, ok_s⟩, ⟨he_tn, he_an, ok_n⟩, ⟨he_tr, he_ar, ok_r⟩, ⟨he_tj, he_aj, ok_j⟩⟩ := hB
    have hq_x : 0 < g.1 := by omega
    have hq_b : 1 < g.1 := by omega
    have hq_to : 2 < g.1 := by omega
    have hq_ao : 3 < g.1 := by omega
    have hq_ts : 4 < g.1 := by omega
    have hq_as : 5 < g.1 := by omega
    have hq_tn : 6 < g.1 := by omega
    have hq_an : 7 < g.1 := by omega
    have hq_tr : 8 < g.1 := by omega
    have hq_ar : 9 < g.1 := by omega
    have hq_tj : 10 < g.1 := by omega
    have hq_aj : 11 < g.1 := by omega
    have hq_tally : 306 < g.1 := by omega
    refine rs_iload (pc := 10) dX11_tallyOwn_10 rfl ?_
    refine rs_aload_n (pc := 12) dX11_tallyOwn_12 rfl ?_
    refine rs_getf (pc := 13) dX11_tallyOwn_13 fX11_10 hq_x he_x rfl ?_
    refine rs_getf (pc := 16) dX11_tallyOwn_16 fX11_135 hq_b he_b rfl ?_
    refine rs_getf (pc := 19) dX11_tallyOwn_19 fX11_224 hq_tr he_tr rfl ?_
    refine rs_icmp_ge (tgt := 80) (pc := 22) dX11_tallyOwn_22 rfl (fun c_22 => ?_) (fun c_22 => ?_)
    · have hie : i = sz := lp_exit esz (by omega) hi c_22
      subst hie
      exact wk_vret (pc := 80) dX11_tallyOwn_80 rfl (rfl) (ai_is1 hm hs (he_tally.trans (by rw [xs_ownT, esz, nI_toInt (by omega)]; rfl)) ho)
    · have hlt : i < sz := lp_go esz (by omega) c_22
      refine rs_aload_n (pc := 25) dX11_tallyOwn_25 rfl ?_
      refine rs_getf (pc := 26) dX11_tallyOwn_26 fX11_10 hq_x he_x rfl ?_
      refine rs_iload (pc := 29) dX11_tallyOwn_29 rfl ?_
      refine rs_iload_n (pc := 31) dX11_tallyOwn_31 rfl ?_
      refine rs_iload_n (pc := 32) dX11_tallyOwn_32 rfl ?_
      refine rs_callV (as := [_, _, _]) (pc := 33) dX11_tallyOwn_33 mk_X1_isOwn mlX11_330 in_X1_isOwn se_X1_isOwn rfl hq_b he_b rfl rfl (Nat.le_of_ble_eq_true rfl) (c_X1_isOwn hB0 _ _ _) ?_
      refine rs_if_eq (tgt := 74) (pc := 36) dX11_tallyOwn_36 rfl (fun c_36 => ?_) (fun c_36 => ?_)
      · refine wk_iinc4 (v := nI (i + 1)) (pc := 74) dX11_tallyOwn_74 (by decide) rfl (nI_1 i) ?_
        refine rs_goto (tgt := 10) (pc := 77) dX11_tallyOwn_77 rfl ?_
        exact ih (i + 1) _ (by omega) (by omega) hm hs (he_tally.trans (ty_no (by simp [xs_ownp, bk_rat, c_22, c_36]))) ho
      · refine rs_iload_n (pc := 39) dX11_tallyOwn_39 rfl ?_
        refine rs_iconst (v := -1) (pc := 40) dX11_tallyOwn_40 rfl ?_
        refine rs_icmp_eq (tgt := 57) (pc := 41) dX11_tallyOwn_41 rfl (fun c_41 => ?_) (fun c_41 => ?_)
        · refine rs_aload_n (pc := 57) dX11_tallyOwn_57 rfl ?_
          refine rs_getf (pc := 58) dX11_tallyOwn_58 fX11_93 hq_x he_x rfl ?_
          refine rs_aload_n (pc := 61) dX11_tallyOwn_61 rfl ?_
          refine rs_getf (pc := 62) dX11_tallyOwn_62 fX11_10 hq_x he_x rfl ?_
          refine rs_iload (pc := 65) dX11_tallyOwn_65 rfl ?_
          refine rs_callV (as := [_]) (pc := 67) dX11_tallyOwn_67 mk_X1_late mlX11_336 in_X1_late se_X1_late rfl hq_b he_b rfl rfl (Nat.le_of_ble_eq_true rfl) (c_X1_late hB0 _) ?_
          refine rs_i2l (pc := 70) dX11_tallyOwn_70 ?_
          refine rs_callV (as := [_]) (pc := 71) dX11_tallyOwn_71 mk_X9_add mlX11_326 in_X9_add se_X9_add rfl hq_tally he_tally rfl rfl (Nat.le_of_ble_eq_true rfl) (c_X9_add hq_tally he_tally _) ?_
          refine wk_gen (fun h_1 e_1 => ?_)
          obtain ⟨m_1, s_1, g_1_0, o_1⟩ := ai_e1 e_1
          have he_x' := (o_1 _ (by decide)).trans he_x
          have he_b' := (o_1 _ (by decide)).trans he_b
          have he_to' := (o_1 _ (by decide)).trans he_to
          have he_ao' := (o_1 _ (by decide)).trans he_ao
          have he_ts' := (o_1 _ (by decide)).trans he_ts
          have he_as' := (o_1 _ (by decide)).trans he_as
          have he_tn' := (o_1 _ (by decide)).trans he_tn
          have he_an' := (o_1 _ (by decide)).trans he_an
          have he_tr' := (o_1 _ (by decide)).trans he_tr
          have he_ar' := (o_1 _ (by decide)).trans he_ar
          have he_tj' := (o_1 _ (by decide)).trans he_tj
          have he_aj' := (o_1 _ (by decide)).trans he_aj
          replace he_x := he_x'
          replace hq_x : 0 < h_1.1 := by rw [m_1]; exact hq_x
          replace he_b := he_b'
          replace hq_b : 1 < h_1.1 := by rw [m_1]; exact hq_b
          replace he_to := he_to'
          replace hq_to : 2 < h_1.1 := by rw [m_1]; exact hq_to
          replace he_ao := he_ao'
          replace hq_ao : 3 < h_1.1 := by rw [m_1]; exact hq_ao
          replace he_ts := he_ts'
          replace hq_ts : 4 < h_1.1 := by rw [m_1]; exact hq_ts
          replace he_as := he_as'
          replace hq_as : 5 < h_1.1 := by rw [m_1]; exact hq_as
          replace he_tn := he_tn'
          replace hq_tn : 6 < h_1.1 := by rw [m_1]; exact hq_tn
          replace he_an := he_an'
          replace hq_an : 7 < h_1.1 := by rw [m_1]; exact hq_an
          replace he_tr := he_tr'
          replace hq_tr : 8 < h_1.1 := by rw [m_1]; exact hq_tr
          replace he_ar := he_ar'
          replace hq_ar : 9 < h_1.1 := by rw [m_1]; exact hq_ar
          replace he_tj := he_tj'
          replace hq_tj : 10 < h_1.1 := by rw [m_1]; exact hq_tj
          replace he_aj := he_aj'
          replace hq_aj : 11 < h_1.1 := by rw [m_1]; exact hq_aj
          replace he_tally := g_1_0
          replace hq_tally : 306 < h_1.1 := by rw [m_1]; exact hq_tally
          have M_1 : h_1.1 = g.1 := m_1
          have S_1 : h_1.2.1 = g.2.1 := s_1
          have O_1 : ∀ j, j ≠ 306 → h_1.2.2 j = g.2.2 j := fun j z0 => o_1 j z0
          refine wk_iinc4 (v := nI (i + 1)) (pc := 74) dX11_tallyOwn_74 (by decide) rfl (nI_1 i) ?_
          refine rs_goto (tgt := 10) (pc := 77) dX11_tallyOwn_77 rfl ?_
          exact ih (i + 1) _ (by omega) (by omega) (M_1.trans hm) (S_1.trans hs) (he_tally.trans (ty_yes (by simp [xs_ownp, bk_rat, c_22, c_36, c_41]))) (fun j hj => (O_1 j hj).trans (ho j hj))
        · refine rs_aload_n (pc := 44) dX11_tallyOwn_44 rfl ?_
          refine rs_getf (pc := 45) dX11_tallyOwn_45 fX11_10 hq_x he_x rfl ?_
          refine rs_iload (pc := 48) dX11_tallyOwn_48 rfl ?_
          refine rs_callV (as := [_]) (pc := 50) dX11_tallyOwn_50 mk_X1_yearOf mlX11_333 in_X1_yearOf se_X1_yearOf rfl hq_b he_b rfl rfl (Nat.le_of_ble_eq_true rfl) (c_X1_yearOf hB0 _) ?_
          refine rs_iload_n (pc := 53) dX11_tallyOwn_53 rfl ?_
          refine rs_icmp_ne (tgt := 74) (pc := 54) dX11_tallyOwn_54 rfl (fun c_54 => ?_) (fun c_54 => ?_)
          · refine wk_iinc4 (v := nI (i + 1)) (pc := 74) dX11_tallyOwn_74 (by decide) rfl (nI_1 i) ?_
            refine rs_goto (tgt := 10) (pc := 77) dX11_tallyOwn_77 rfl ?_
            exact ih (i + 1) _ (by omega) (by omega) hm hs (he_tally.trans (ty_no (by simp [xs_ownp, bk_rat, c_22, c_36, c_41, c_54]))) ho
          · refine rs_aload_n (pc := 57) dX11_tallyOwn_57 rfl ?_
            refine rs_getf (pc := 58) dX11_tallyOwn_58 fX11_93 hq_x he_x rfl ?_
            refine rs_aload_n (pc := 61) dX11_tallyOwn_61 rfl ?_
            refine rs_getf (pc := 62) dX11_tallyOwn_62 fX11_10 hq_x he_x rfl ?_
            refine rs_iload (pc := 65) dX11_tallyOwn_65 rfl ?_
            refine rs_callV (as := [_]) (pc := 67) dX11_tallyOwn_67 mk_X1_late mlX11_336 in_X1_late se_X1_late rfl hq_b he_b rfl rfl (Nat.le_of_ble_eq_true rfl) (c_X1_late hB0 _) ?_
            refine rs_i2l (pc := 70) dX11_tallyOwn_70 ?_
            refine rs_callV (as := [_]) (pc := 71) dX11_tallyOwn_71 mk_X9_add mlX11_326 in_X9_add se_X9_add rfl hq_tally he_tally rfl rfl (Nat.le_of_ble_eq_true rfl) (c_X9_add hq_tally he_tally _) ?_
            refine wk_gen (fun h_2 e_2 => ?_)
            obtain ⟨m_2, s_2, g_2_0, o_2⟩ := ai_e1 e_2
            have he_x' := (o_2 _ (by decide)).trans he_x
            have he_b' := (o_2 _ (by decide)).trans he_b
            have he_to' := (o_2 _ (by decide)).trans he_to
            have he_ao' := (o_2 _ (by decide)).trans he_ao
            have he_ts' := (o_2 _ (by decide)).trans he_ts
            have he_as' := (o_2 _ (by decide)).trans he_as
            have he_tn' := (o_2 _ (by decide)).trans he_tn
            have he_an' := (o_2 _ (by decide)).trans he_an
            have he_tr' := (o_2 _ (by decide)).trans he_tr
            have he_ar' := (o_2 _ (by decide)).trans he_ar
            have he_tj' := (o_2 _ (by decide)).trans he_tj
            have he_aj' := (o_2 _ (by decide)).trans he_aj
            replace he_x := he_x'
            replace hq_x : 0 < h_2.1 := by rw [m_2]; exact hq_x
            replace he_b := he_b'
            replace hq_b : 1 < h_2.1 := by rw [m_2]; exact hq_b
            replace he_to := he_to'
            replace hq_to : 2 < h_2.1 := by rw [m_2]; exact hq_to
            replace he_ao := he_ao'
            replace hq_ao : 3 < h_2.1 := by rw [m_2]; exact hq_ao
            replace he_ts := he_ts'
            replace hq_ts : 4 < h_2.1 := by rw [m_2]; exact hq_ts
            replace he_as := he_as'
            replace hq_as : 5 < h_2.1 := by rw [m_2]; exact hq_as
            replace he_tn := he_tn'
            replace hq_tn : 6 < h_2.1 := by rw [m_2]; exact hq_tn
            replace he_an := he_an'
            replace hq_an : 7 < h_2.1 := by rw [m_2]; exact hq_an
            replace he_tr := he_tr'
            replace hq_tr : 8 < h_2.1 := by rw [m_2]; exact hq_tr
            replace he_ar := he_ar'
            replace hq_ar : 9 < h_2.1 := by rw [m_2]; exact hq_ar
            replace he_tj := he_tj'
            replace hq_tj : 10 < h_2.1 := by rw [m_2]; exact hq_tj
            replace he_aj := he_aj'
            replace hq_aj : 11 < h_2.1 := by rw [m_2]; exact hq_aj
            replace he_tally := g_2_0
            replace hq_tally : 306 < h_2.1 := by rw [m_2]; exact hq_tally
            have M_2 : h_2.1 = g.1 := m_2
            have S_2 : h_2.2.1 = g.2.1 := s_2
            have O_2 : ∀ j, j ≠ 306 → h_2.2.2 j = g.2.2 j := fun j z0 => o_2 j z0
            refine wk_iinc4 (v := nI (i + 1)) (pc := 74) dX11_tallyOwn_74 (by decide) rfl (nI_1 i) ?_
            refine rs_goto (tgt := 10) (pc := 77) dX11_tallyOwn_77 rfl ?_
            exact ih (i + 1) _ (by omega) (by omega) (M_2.trans hm) (S_2.trans hs) (he_tally.trans (ty_yes (by simp [xs_ownp, bk_rat, c_22, c_36, c_41, c_54]))) (fun j hj => (O_2 j hj).trans (ho j hj))
set_option maxRecDepth 100000 in
set_option maxHeartbeats 4000000 in
theorem c_X11_tallyOwn {h : ai_H} {tb lm : Int32} {B : Bk} {t : Ty} (hx : x_at h tb lm) (hB : bk_at h 1 B) (he_tally : h.2.2 306 = ty_cell t) (o y k : Int32) : ai_Met MX11_tallyOwn [.ref 0, .int o, .int y, .int k] h none (ai_set h 306 (ty_cell (xs_ownT B o y k))) := by
  have hx0 := hx
  obtain ⟨sz, hsz0, esz, -⟩ := tb_size hB.2.2.2.2.2.1.2.2
  have hsz : sz ≤ 400 := by rw [show (400 : Int32).toInt = 400 from rfl] at hsz0; omega
  have hB0 := hB
  obtain ⟨hqx, he_x⟩ := hx
  obtain ⟨-, he_b, ⟨he_to, he_ao, ok_o⟩, ⟨he_ts, he_as, ok_s⟩, ⟨he_tn, he_an, ok_n⟩, ⟨he_tr, he_ar, ok_r⟩, ⟨he_tj, he_aj, ok_j⟩⟩ := hB
  have hq_x : 0 < h.1 := by omega
  have hq_b : 1 < h.1 := by omega
  have hq_to : 2 < h.1 := by omega
  have hq_ao : 3 < h.1 := by omega
  have hq_ts : 4 < h.1 := by omega
  have hq_as : 5 < h.1 := by omega
  have hq_tn : 6 < h.1 := by omega
  have hq_an : 7 < h.1 := by omega
  have hq_tr : 8 < h.1 := by omega
  have hq_ar : 9 < h.1 := by omega
  have hq_tj : 10 < h.1 := by omega
  have hq_aj : 11 < h.1 := by omega
  have hq_tally : 306 < h.1 := by omega
  refine ai_met (ls := [.ref 0, .int o, .int y, .int k, .float 0]) (by decide) (by simp [ai_en, Value.category]) (by rfl) ?_
  refine rs_aload_n (pc := 0) dX11_tallyOwn_0 rfl ?_
  refine rs_getf (pc := 1) dX11_tallyOwn_1 fX11_93 hq_x he_x rfl ?_
  refine rs_callV (as := []) (pc := 4) dX11_tallyOwn_4 mk_X9_clear mlX11_317 in_X9_clear se_X9_clear rfl hq_tally he_tally rfl rfl (Nat.le_of_ble_eq_true rfl) (c_X9_clear hq_tally he_tally) ?_
  refine wk_gen (fun h_1 e_1 => ?_)
  obtain ⟨m_1, s_1, g_1_0, o_1⟩ := ai_e1 e_1
  have he_x' := (o_1 _ (by decide)).trans he_x
  have he_b' := (o_1 _ (by decide)).trans he_b
  have he_to' := (o_1 _ (by decide)).trans he_to
  have he_ao' := (o_1 _ (by decide)).trans he_ao
  have he_ts' := (o_1 _ (by decide)).trans he_ts
  have he_as' := (o_1 _ (by decide)).trans he_as
  have he_tn' := (o_1 _ (by decide)).trans he_tn
  have he_an' := (o_1 _ (by decide)).trans he_an
  have he_tr' := (o_1 _ (by decide)).trans he_tr
  have he_ar' := (o_1 _ (by decide)).trans he_ar
  have he_tj' := (o_1 _ (by decide)).trans he_tj
  have he_aj' := (o_1 _ (by decide)).trans he_aj
  replace he_x := he_x'
  replace hq_x : 0 < h_1.1 := by rw [m_1]; exact hq_x
  replace he_b := he_b'
  replace hq_b : 1 < h_1.1 := by rw [m_1]; exact hq_b
  replace he_to := he_to'
  replace hq_to : 2 < h_1.1 := by rw [m_1]; exact hq_to
  replace he_ao := he_ao'
  replace hq_ao : 3 < h_1.1 := by rw [m_1]; exact hq_ao
  replace he_ts := he_ts'
  replace hq_ts : 4 < h_1.1 := by rw [m_1]; exact hq_ts
  replace he_as := he_as'
  replace hq_as : 5 < h_1.1 := by rw [m_1]; exact hq_as
  replace he_tn := he_tn'
  replace hq_tn : 6 < h_1.1 := by rw [m_1]; exact hq_tn
  replace he_an := he_an'
  replace hq_an : 7 < h_1.1 := by rw [m_1]; exact hq_an
  replace he_tr := he_tr'
  replace hq_tr : 8 < h_1.1 := by rw [m_1]; exact hq_tr
  replace he_ar := he_ar'
  replace hq_ar : 9 < h_1.1 := by rw [m_1]; exact hq_ar
  replace he_tj := he_tj'
  replace hq_tj : 10 < h_1.1 := by rw [m_1]; exact hq_tj
  replace he_aj := he_aj'
  replace hq_aj : 11 < h_1.1 := by rw [m_1]; exact hq_aj
  replace he_tally := g_1_0
  replace hq_tally : 306 < h_1.1 := by rw [m_1]; exact hq_tally
  have M_1 : h_1.1 = h.1 := m_1
  have S_1 : h_1.2.1 = h.2.1 := s_1
  have O_1 : ∀ j, j ≠ 306 → h_1.2.2 j = h.2.2 j := fun j z0 => o_1 j z0
  refine rs_iconst (v := 0) (pc := 7) dX11_tallyOwn_7 rfl ?_
  refine wk_ist4 (pc := 8) dX11_tallyOwn_8 (by decide) rfl ?_
  exact l_X11_tallyOwn hx0 hB0 o y k hsz esz (sz + 1) 0 _ (by omega) (by omega) m_1 s_1 he_tally o_1
def xs_seen (B : Bk) (o n s w k x : Int32) : Int32 := if xs_sight B o n s w = 0 ∨ bi_in k 0 9999 = 0 ∨ bi_in x 0 1 = 0 then (if x = 0 then -1 else -1000000000) else if x = 0 then (xs_seenT B o n s w k).1 else (xs_seenT B o n s w k).2.1.toInt32
def xs_own (B : Bk) (o y k x : Int32) : Int32 := if tb_has (bk_o B).1 o = 0 ∨ bi_in y (-1) 192 = 0 ∨ bi_in k 0 9999 = 0 ∨ bi_in x 0 2 = 0 then -2000000000 else if x = 0 then (xs_ownT B o y k).1 else if (xs_ownT B o y k).1 = 0 then -1000000000 else if x = 1 then (ty_thou (xs_ownT B o y k).1 (xs_ownT B o y k).2.1).toInt32 else ((xs_ownT B o y k).2.2.2 - (xs_ownT B o y k).2.2.1).toInt32
theorem dX11_seen_0 : decode cX11_seen 0 = .ok (.aload_n 0, 1) := by decide +kernel
theorem dX11_seen_1 : decode cX11_seen 1 = .ok (.iload_n 1, 1) := by decide +kernel
theorem dX11_seen_2 : decode cX11_seen 2 = .ok (.iload_n 2, 1) := by decide +kernel
theorem dX11_seen_3 : decode cX11_seen 3 = .ok (.iload_n 3, 1) := by decide +kernel
theorem dX11_seen_4 : decode cX11_seen 4 = .ok (.iload 4, 2) := by decide +kernel
theorem dX11_seen_6 : decode cX11_seen 6 = .ok (.invokevirtual 131, 3) := by decide +kernel
theorem dX11_seen_9 : decode cX11_seen 9 = .ok (.ifCond .eq 15, 3) := by decide +kernel
theorem dX11_seen_12 : decode cX11_seen 12 = .ok (.iload 5, 2) := by decide +kernel
theorem dX11_seen_14 : decode cX11_seen 14 = .ok (.invokestatic 97, 3) := by decide +kernel
theorem dX11_seen_17 : decode cX11_seen 17 = .ok (.ifCond .eq 7, 3) := by decide +kernel
theorem dX11_seen_20 : decode cX11_seen 20 = .ok (.iconst 1, 1) := by decide +kernel
theorem dX11_seen_21 : decode cX11_seen 21 = .ok (.goto 4, 3) := by decide +kernel
theorem dX11_seen_24 : decode cX11_seen 24 = .ok (.iconst 0, 1) := by decide +kernel
theorem dX11_seen_25 : decode cX11_seen 25 = .ok (.istore 7, 2) := by decide +kernel
theorem dX11_seen_27 : decode cX11_seen 27 = .ok (.iload 7, 2) := by decide +kernel
theorem dX11_seen_29 : decode cX11_seen 29 = .ok (.ifCond .eq 13, 3) := by decide +kernel
theorem dX11_seen_32 : decode cX11_seen 32 = .ok (.iload 6, 2) := by decide +kernel
theorem dX11_seen_34 : decode cX11_seen 34 = .ok (.iconst 0, 1) := by decide +kernel
theorem dX11_seen_35 : decode cX11_seen 35 = .ok (.iconst 1, 1) := by decide +kernel
theorem dX11_seen_36 : decode cX11_seen 36 = .ok (.invokestatic 104, 3) := by decide +kernel
theorem dX11_seen_39 : decode cX11_seen 39 = .ok (.ifCond .ne 15, 3) := by decide +kernel
theorem dX11_seen_42 : decode cX11_seen 42 = .ok (.iload 6, 2) := by decide +kernel
theorem dX11_seen_44 : decode cX11_seen 44 = .ok (.ifCond .ne 7, 3) := by decide +kernel
theorem dX11_seen_47 : decode cX11_seen 47 = .ok (.iconst (-1), 1) := by decide +kernel
theorem dX11_seen_48 : decode cX11_seen 48 = .ok (.goto 5, 3) := by decide +kernel
theorem dX11_seen_51 : decode cX11_seen 51 = .ok (.ldc 145, 2) := by decide +kernel
theorem dX11_seen_53 : decode cX11_seen 53 = .ok (.ireturn, 1) := by decide +kernel
theorem dX11_seen_54 : decode cX11_seen 54 = .ok (.aload_n 0, 1) := by decide +kernel
theorem dX11_seen_55 : decode cX11_seen 55 = .ok (.iload_n 1, 1) := by decide +kernel
theorem dX11_seen_56 : decode cX11_seen 56 = .ok (.iload_n 2, 1) := by decide +kernel
theorem dX11_seen_57 : decode cX11_seen 57 = .ok (.iload_n 3, 1) := by decide +kernel
theorem dX11_seen_58 : decode cX11_seen 58 = .ok (.iload 4, 2) := by decide +kernel
theorem dX11_seen_60 : decode cX11_seen 60 = .ok (.iload 5, 2) := by decide +kernel
theorem dX11_seen_62 : decode cX11_seen 62 = .ok (.invokevirtual 146, 3) := by decide +kernel
theorem dX11_seen_65 : decode cX11_seen 65 = .ok (.iload 6, 2) := by decide +kernel
theorem dX11_seen_67 : decode cX11_seen 67 = .ok (.ifCond .ne 13, 3) := by decide +kernel
theorem dX11_seen_70 : decode cX11_seen 70 = .ok (.aload_n 0, 1) := by decide +kernel
theorem dX11_seen_71 : decode cX11_seen 71 = .ok (.getfield 93, 3) := by decide +kernel
theorem dX11_seen_74 : decode cX11_seen 74 = .ok (.getfield 150, 3) := by decide +kernel
theorem dX11_seen_77 : decode cX11_seen 77 = .ok (.goto 11, 3) := by decide +kernel
theorem dX11_seen_80 : decode cX11_seen 80 = .ok (.aload_n 0, 1) := by decide +kernel
theorem dX11_seen_81 : decode cX11_seen 81 = .ok (.getfield 93, 3) := by decide +kernel
theorem dX11_seen_84 : decode cX11_seen 84 = .ok (.getfield 153, 3) := by decide +kernel
theorem dX11_seen_87 : decode cX11_seen 87 = .ok (.l2i, 1) := by decide +kernel
theorem dX11_seen_88 : decode cX11_seen 88 = .ok (.ireturn, 1) := by decide +kernel
set_option maxRecDepth 100000 in
set_option maxHeartbeats 4000000 in
theorem c_X11_seen {h : ai_H} {tb lm : Int32} {B : Bk} {t : Ty} (hx : x_at h tb lm) (hB : bk_at h 1 B) (he_tally : h.2.2 306 = ty_cell t) (o n s w k x : Int32) : ai_Met MX11_seen [.ref 0, .int o, .int n, .int s, .int w, .int k, .int x] h (some (.int (xs_seen B o n s w k x))) (ai_set h 306 (if xs_sight B o n s w = 0 ∨ bi_in k 0 9999 = 0 ∨ bi_in x 0 1 = 0 then ty_cell t else ty_cell (xs_seenT B o n s w k))) := by
  have hx0 := hx
  have hB0 := hB
  obtain ⟨hqx, he_x⟩ := hx
  obtain ⟨-, he_b, ⟨he_to, he_ao, ok_o⟩, ⟨he_ts, he_as, ok_s⟩, ⟨he_tn, he_an, ok_n⟩, ⟨he_tr, he_ar, ok_r⟩, ⟨he_tj, he_aj, ok_j⟩⟩ := hB
  have hq_x : 0 < h.1 := by omega
  have hq_b : 1 < h.1 := by omega
  have hq_to : 2 < h.1 := by omega
  have hq_ao : 3 < h.1 := by omega
  have hq_ts : 4 < h.1 := by omega
  have hq_as : 5 < h.1 := by omega
  have hq_tn : 6 < h.1 := by omega
  have hq_an : 7 < h.1 := by omega
  have hq_tr : 8 < h.1 := by omega
  have hq_ar : 9 < h.1 := by omega
  have hq_tj : 10 < h.1 := by omega
  have hq_aj : 11 < h.1 := by omega
  have hq_tally : 306 < h.1 := by omega
  refine ai_met (ls := [.ref 0, .int o, .int n, .int s, .int w, .int k, .int x, .float 0]) (by decide) (by simp [ai_en, Value.category]) (by rfl) ?_
  refine rs_aload_n (pc := 0) dX11_seen_0 rfl ?_
  refine rs_iload_n (pc := 1) dX11_seen_1 rfl ?_
  refine rs_iload_n (pc := 2) dX11_seen_2 rfl ?_
  refine rs_iload_n (pc := 3) dX11_seen_3 rfl ?_
  refine rs_iload (pc := 4) dX11_seen_4 rfl ?_
  refine rs_callV (as := [_, _, _, _]) (pc := 6) dX11_seen_6 mk_X11_isSight mlX11_131 in_X11_isSight se_X11_isSight rfl hq_x he_x rfl rfl (Nat.le_of_ble_eq_true rfl) (c_X11_isSight hx0 hB0 _ _ _ _) ?_
  refine rs_if_eq (tgt := 24) (pc := 9) dX11_seen_9 rfl (fun c_9 => ?_) (fun c_9 => ?_)
  · refine rs_iconst (v := 0) (pc := 24) dX11_seen_24 rfl ?_
    refine wk_ist7 (pc := 25) dX11_seen_25 (by decide) rfl ?_
    refine rs_iload (pc := 27) dX11_seen_27 rfl ?_
    refine rs_if_eq (tgt := 42) (pc := 29) dX11_seen_29 rfl (fun c_29 => ?_) (fun c_29 => absurd c_29 (by decide))
    have ok : xs_sight B o n s w = 0 ∨ bi_in k 0 9999 = 0 ∨ bi_in x 0 1 = 0 := by simp [c_9]
    refine rs_iload (pc := 42) dX11_seen_42 rfl ?_
    refine rs_if_ne (tgt := 51) (pc := 44) dX11_seen_44 rfl (fun c_44 => ?_) (fun c_44 => ?_)
    · refine rs_ldc (pc := 51) dX11_seen_51 cnX11_145 ?_
      exact wk_iret (pc := 53) dX11_seen_53 rfl (by rw [xs_seen, if_pos ok]; simp [c_9, c_44]) (ai_is1 rfl rfl (he_tally.trans (by rw [if_pos ok])) (fun _ _ => rfl))
    · refine rs_iconst (v := -1) (pc := 47) dX11_seen_47 rfl ?_
      refine rs_goto (tgt := 53) (pc := 48) dX11_seen_48 rfl ?_
      exact wk_iret (pc := 53) dX11_seen_53 rfl (by rw [xs_seen, if_pos ok]; simp [c_9, c_44]) (ai_is1 rfl rfl (he_tally.trans (by rw [if_pos ok])) (fun _ _ => rfl))
  · refine rs_iload (pc := 12) dX11_seen_12 rfl ?_
    refine rs_callS (as := [_]) (pc := 14) dX11_seen_14 mk_X11_isWeek mlX11_97 st_X11_isWeek rfl rfl (Nat.le_of_ble_eq_true rfl) (c_X11_isWeek _) ?_
    refine rs_if_eq (tgt := 24) (pc := 17) dX11_seen_17 rfl (fun c_17 => ?_) (fun c_17 => ?_)
    · refine rs_iconst (v := 0) (pc := 24) dX11_seen_24 rfl ?_
      refine wk_ist7 (pc := 25) dX11_seen_25 (by decide) rfl ?_
      refine rs_iload (pc := 27) dX11_seen_27 rfl ?_
      refine rs_if_eq (tgt := 42) (pc := 29) dX11_seen_29 rfl (fun c_29 => ?_) (fun c_29 => absurd c_29 (by decide))
      have ok : xs_sight B o n s w = 0 ∨ bi_in k 0 9999 = 0 ∨ bi_in x 0 1 = 0 := by simp [c_9, c_17]
      refine rs_iload (pc := 42) dX11_seen_42 rfl ?_
      refine rs_if_ne (tgt := 51) (pc := 44) dX11_seen_44 rfl (fun c_44 => ?_) (fun c_44 => ?_)
      · refine rs_ldc (pc := 51) dX11_seen_51 cnX11_145 ?_
        exact wk_iret (pc := 53) dX11_seen_53 rfl (by rw [xs_seen, if_pos ok]; simp [c_9, c_17, c_44]) (ai_is1 rfl rfl (he_tally.trans (by rw [if_pos ok])) (fun _ _ => rfl))
      · refine rs_iconst (v := -1) (pc := 47) dX11_seen_47 rfl ?_
        refine rs_goto (tgt := 53) (pc := 48) dX11_seen_48 rfl ?_
        exact wk_iret (pc := 53) dX11_seen_53 rfl (by rw [xs_seen, if_pos ok]; simp [c_9, c_17, c_44]) (ai_is1 rfl rfl (he_tally.trans (by rw [if_pos ok])) (fun _ _ => rfl))
    · refine rs_iconst (v := 1) (pc := 20) dX11_seen_20 rfl ?_
      refine rs_goto (tgt := 25) (pc := 21) dX11_seen_21 rfl ?_
      refine wk_ist7 (pc := 25) dX11_seen_25 (by decide) rfl ?_
      refine rs_iload (pc := 27) dX11_seen_27 rfl ?_
      refine rs_if_eq (tgt := 42) (pc := 29) dX11_seen_29 rfl (fun c_29 => absurd c_29 (by decide)) (fun c_29 => ?_)
      refine rs_iload (pc := 32) dX11_seen_32 rfl ?_
      refine rs_iconst (v := 0) (pc := 34) dX11_seen_34 rfl ?_
      refine rs_iconst (v := 1) (pc := 35) dX11_seen_35 rfl ?_
      refine rs_callS (as := [_, _, _]) (pc := 36) dX11_seen_36 mk_X11_isWithin mlX11_104 st_X11_isWithin rfl rfl (Nat.le_of_ble_eq_true rfl) (c_X11_isWithin) ?_
      refine rs_if_ne (tgt := 54) (pc := 39) dX11_seen_39 rfl (fun c_39 => ?_) (fun c_39 => ?_)
      · have ok : ¬ (xs_sight B o n s w = 0 ∨ bi_in k 0 9999 = 0 ∨ bi_in x 0 1 = 0) := by simp [c_9, c_17, c_39]
        refine rs_aload_n (pc := 54) dX11_seen_54 rfl ?_
        refine rs_iload_n (pc := 55) dX11_seen_55 rfl ?_
        refine rs_iload_n (pc := 56) dX11_seen_56 rfl ?_
        refine rs_iload_n (pc := 57) dX11_seen_57 rfl ?_
        refine rs_iload (pc := 58) dX11_seen_58 rfl ?_
        refine rs_iload (pc := 60) dX11_seen_60 rfl ?_
        refine rs_callV (as := [_, _, _, _, _]) (pc := 62) dX11_seen_62 mk_X11_tallySeen mlX11_146 in_X11_tallySeen se_X11_tallySeen rfl hq_x he_x rfl rfl (Nat.le_of_ble_eq_true rfl) (c_X11_tallySeen hx0 hB0 he_tally _ _ _ _ _) ?_
        refine wk_gen (fun h_1 e_1 => ?_)
        obtain ⟨m_1, s_1, g_1_0, o_1⟩ := ai_e1 e_1
        have he_x' := (o_1 _ (by decide)).trans he_x
        have he_b' := (o_1 _ (by decide)).trans he_b
        have he_to' := (o_1 _ (by decide)).trans he_to
        have he_ao' := (o_1 _ (by decide)).trans he_ao
        have he_ts' := (o_1 _ (by decide)).trans he_ts
        have he_as' := (o_1 _ (by decide)).trans he_as
        have he_tn' := (o_1 _ (by decide)).trans he_tn
        have he_an' := (o_1 _ (by decide)).trans he_an
        have he_tr' := (o_1 _ (by decide)).trans he_tr
        have he_ar' := (o_1 _ (by decide)).trans he_ar
        have he_tj' := (o_1 _ (by decide)).trans he_tj
        have he_aj' := (o_1 _ (by decide)).trans he_aj
        replace he_x := he_x'
        replace hq_x : 0 < h_1.1 := by rw [m_1]; exact hq_x
        replace he_b := he_b'
        replace hq_b : 1 < h_1.1 := by rw [m_1]; exact hq_b
        replace he_to := he_to'
        replace hq_to : 2 < h_1.1 := by rw [m_1]; exact hq_to
        replace he_ao := he_ao'
        replace hq_ao : 3 < h_1.1 := by rw [m_1]; exact hq_ao
        replace he_ts := he_ts'
        replace hq_ts : 4 < h_1.1 := by rw [m_1]; exact hq_ts
        replace he_as := he_as'
        replace hq_as : 5 < h_1.1 := by rw [m_1]; exact hq_as
        replace he_tn := he_tn'
        replace hq_tn : 6 < h_1.1 := by rw [m_1]; exact hq_tn
        replace he_an := he_an'
        replace hq_an : 7 < h_1.1 := by rw [m_1]; exact hq_an
        replace he_tr := he_tr'
        replace hq_tr : 8 < h_1.1 := by rw [m_1]; exact hq_tr
        replace he_ar := he_ar'
        replace hq_ar : 9 < h_1.1 := by rw [m_1]; exact hq_ar
        replace he_tj := he_tj'
        replace hq_tj : 10 < h_1.1 := by rw [m_1]; exact hq_tj
        replace he_aj := he_aj'
        replace hq_aj : 11 < h_1.1 := by rw [m_1]; exact hq_aj
        replace he_tally := g_1_0
        replace hq_tally : 306 < h_1.1 := by rw [m_1]; exact hq_tally
        have M_1 : h_1.1 = h.1 := m_1
        have S_1 : h_1.2.1 = h.2.1 := s_1
        have O_1 : ∀ j, j ≠ 306 → h_1.2.2 j = h.2.2 j := fun j z0 => o_1 j z0
        refine rs_iload (pc := 65) dX11_seen_65 rfl ?_
        refine rs_if_ne (tgt := 80) (pc := 67) dX11_seen_67 rfl (fun c_67 => ?_) (fun c_67 => ?_)
        · refine rs_aload_n (pc := 80) dX11_seen_80 rfl ?_
          refine rs_getf (pc := 81) dX11_seen_81 fX11_93 hq_x he_x rfl ?_
          refine rs_getf (pc := 84) dX11_seen_84 fX11_153 hq_tally he_tally rfl ?_
          refine rs_l2i (pc := 87) dX11_seen_87 ?_
          exact wk_iret (pc := 88) dX11_seen_88 rfl (by rw [xs_seen, if_neg ok]; simp [c_9, c_17, c_39, c_67]; try rfl) (ai_is1 M_1 S_1 (he_tally.trans (by rw [if_neg ok])) O_1)
        · refine rs_aload_n (pc := 70) dX11_seen_70 rfl ?_
          refine rs_getf (pc := 71) dX11_seen_71 fX11_93 hq_x he_x rfl ?_
          refine rs_getf (pc := 74) dX11_seen_74 fX11_150 hq_tally he_tally rfl ?_
          refine rs_goto (tgt := 88) (pc := 77) dX11_seen_77 rfl ?_
          exact wk_iret (pc := 88) dX11_seen_88 rfl (by rw [xs_seen, if_neg ok]; simp [c_9, c_17, c_39, c_67]; try rfl) (ai_is1 M_1 S_1 (he_tally.trans (by rw [if_neg ok])) O_1)
      · have ok : xs_sight B o n s w = 0 ∨ bi_in k 0 9999 = 0 ∨ bi_in x 0 1 = 0 := by simp [c_9, c_17, c_39]
        refine rs_iload (pc := 42) dX11_seen_42 rfl ?_
        refine rs_if_ne (tgt := 51) (pc := 44) dX11_seen_44 rfl (fun c_44 => ?_) (fun c_44 => ?_)
        · refine rs_ldc (pc := 51) dX11_seen_51 cnX11_145 ?_
          exact wk_iret (pc := 53) dX11_seen_53 rfl (by rw [xs_seen, if_pos ok]; simp [c_9, c_17, c_39, c_44]) (ai_is1 rfl rfl (he_tally.trans (by rw [if_pos ok])) (fun _ _ => rfl))
        · refine rs_iconst (v := -1) (pc := 47) dX11_seen_47 rfl ?_
          refine rs_goto (tgt := 53) (pc := 48) dX11_seen_48 rfl ?_
          exact wk_iret (pc := 53) dX11_seen_53 rfl (by rw [xs_seen, if_pos ok]; simp [c_9, c_17, c_39, c_44]) (ai_is1 rfl rfl (he_tally.trans (by rw [if_pos ok])) (fun _ _ => rfl))
theorem dX11_own_0 : decode cX11_own 0 = .ok (.aload_n 0, 1) := by decide +kernel
theorem dX11_own_1 : decode cX11_own 1 = .ok (.getfield 10, 3) := by decide +kernel
theorem dX11_own_4 : decode cX11_own 4 = .ok (.getfield 108, 3) := by decide +kernel
theorem dX11_own_7 : decode cX11_own 7 = .ok (.iload_n 1, 1) := by decide +kernel
theorem dX11_own_8 : decode cX11_own 8 = .ok (.invokevirtual 138, 3) := by decide +kernel
theorem dX11_own_11 : decode cX11_own 11 = .ok (.ifCond .eq 25, 3) := by decide +kernel
theorem dX11_own_14 : decode cX11_own 14 = .ok (.iload_n 2, 1) := by decide +kernel
theorem dX11_own_15 : decode cX11_own 15 = .ok (.iconst (-1), 1) := by decide +kernel
theorem dX11_own_16 : decode cX11_own 16 = .ok (.sipush 192, 3) := by decide +kernel
theorem dX11_own_19 : decode cX11_own 19 = .ok (.invokestatic 104, 3) := by decide +kernel
theorem dX11_own_22 : decode cX11_own 22 = .ok (.ifCond .eq 14, 3) := by decide +kernel
theorem dX11_own_25 : decode cX11_own 25 = .ok (.iload_n 3, 1) := by decide +kernel
theorem dX11_own_26 : decode cX11_own 26 = .ok (.invokestatic 97, 3) := by decide +kernel
theorem dX11_own_29 : decode cX11_own 29 = .ok (.ifCond .eq 7, 3) := by decide +kernel
theorem dX11_own_32 : decode cX11_own 32 = .ok (.iconst 1, 1) := by decide +kernel
theorem dX11_own_33 : decode cX11_own 33 = .ok (.goto 4, 3) := by decide +kernel
theorem dX11_own_36 : decode cX11_own 36 = .ok (.iconst 0, 1) := by decide +kernel
theorem dX11_own_37 : decode cX11_own 37 = .ok (.istore 5, 2) := by decide +kernel
theorem dX11_own_39 : decode cX11_own 39 = .ok (.iload 5, 2) := by decide +kernel
theorem dX11_own_41 : decode cX11_own 41 = .ok (.ifCond .eq 13, 3) := by decide +kernel
theorem dX11_own_44 : decode cX11_own 44 = .ok (.iload 4, 2) := by decide +kernel
theorem dX11_own_46 : decode cX11_own 46 = .ok (.iconst 0, 1) := by decide +kernel
theorem dX11_own_47 : decode cX11_own 47 = .ok (.iconst 2, 1) := by decide +kernel
theorem dX11_own_48 : decode cX11_own 48 = .ok (.invokestatic 104, 3) := by decide +kernel
theorem dX11_own_51 : decode cX11_own 51 = .ok (.ifCond .ne 6, 3) := by decide +kernel
theorem dX11_own_54 : decode cX11_own 54 = .ok (.ldc 182, 2) := by decide +kernel
theorem dX11_own_56 : decode cX11_own 56 = .ok (.ireturn, 1) := by decide +kernel
theorem dX11_own_57 : decode cX11_own 57 = .ok (.aload_n 0, 1) := by decide +kernel
theorem dX11_own_58 : decode cX11_own 58 = .ok (.iload_n 1, 1) := by decide +kernel
theorem dX11_own_59 : decode cX11_own 59 = .ok (.iload_n 2, 1) := by decide +kernel
theorem dX11_own_60 : decode cX11_own 60 = .ok (.iload_n 3, 1) := by decide +kernel
theorem dX11_own_61 : decode cX11_own 61 = .ok (.invokevirtual 227, 3) := by decide +kernel
theorem dX11_own_64 : decode cX11_own 64 = .ok (.iload 4, 2) := by decide +kernel
theorem dX11_own_66 : decode cX11_own 66 = .ok (.ifCond .ne 11, 3) := by decide +kernel
theorem dX11_own_69 : decode cX11_own 69 = .ok (.aload_n 0, 1) := by decide +kernel
theorem dX11_own_70 : decode cX11_own 70 = .ok (.getfield 93, 3) := by decide +kernel
theorem dX11_own_73 : decode cX11_own 73 = .ok (.getfield 150, 3) := by decide +kernel
theorem dX11_own_76 : decode cX11_own 76 = .ok (.ireturn, 1) := by decide +kernel
theorem dX11_own_77 : decode cX11_own 77 = .ok (.aload_n 0, 1) := by decide +kernel
theorem dX11_own_78 : decode cX11_own 78 = .ok (.getfield 93, 3) := by decide +kernel
theorem dX11_own_81 : decode cX11_own 81 = .ok (.getfield 150, 3) := by decide +kernel
theorem dX11_own_84 : decode cX11_own 84 = .ok (.ifCond .ne 6, 3) := by decide +kernel
theorem dX11_own_87 : decode cX11_own 87 = .ok (.ldc 145, 2) := by decide +kernel
theorem dX11_own_89 : decode cX11_own 89 = .ok (.ireturn, 1) := by decide +kernel
theorem dX11_own_90 : decode cX11_own 90 = .ok (.iload 4, 2) := by decide +kernel
theorem dX11_own_92 : decode cX11_own 92 = .ok (.iconst 1, 1) := by decide +kernel
theorem dX11_own_93 : decode cX11_own 93 = .ok (.if_icmp .ne 14, 3) := by decide +kernel
theorem dX11_own_96 : decode cX11_own 96 = .ok (.aload_n 0, 1) := by decide +kernel
theorem dX11_own_97 : decode cX11_own 97 = .ok (.getfield 93, 3) := by decide +kernel
theorem dX11_own_100 : decode cX11_own 100 = .ok (.invokevirtual 230, 3) := by decide +kernel
theorem dX11_own_103 : decode cX11_own 103 = .ok (.l2i, 1) := by decide +kernel
theorem dX11_own_104 : decode cX11_own 104 = .ok (.goto 11, 3) := by decide +kernel
theorem dX11_own_107 : decode cX11_own 107 = .ok (.aload_n 0, 1) := by decide +kernel
theorem dX11_own_108 : decode cX11_own 108 = .ok (.getfield 93, 3) := by decide +kernel
theorem dX11_own_111 : decode cX11_own 111 = .ok (.invokevirtual 194, 3) := by decide +kernel
theorem dX11_own_114 : decode cX11_own 114 = .ok (.l2i, 1) := by decide +kernel
theorem dX11_own_115 : decode cX11_own 115 = .ok (.ireturn, 1) := by decide +kernel
set_option maxRecDepth 100000 in
set_option maxHeartbeats 4000000 in
theorem c_X11_own {h : ai_H} {tb lm : Int32} {B : Bk} {t : Ty} (hx : x_at h tb lm) (hB : bk_at h 1 B) (he_tally : h.2.2 306 = ty_cell t) (o y k x : Int32) : ai_Met MX11_own [.ref 0, .int o, .int y, .int k, .int x] h (some (.int (xs_own B o y k x))) (ai_set h 306 (if tb_has (bk_o B).1 o = 0 ∨ bi_in y (-1) 192 = 0 ∨ bi_in k 0 9999 = 0 ∨ bi_in x 0 2 = 0 then ty_cell t else ty_cell (xs_ownT B o y k))) := by
  have hx0 := hx
  have hB0 := hB
  obtain ⟨hqx, he_x⟩ := hx
  obtain ⟨-, he_b, ⟨he_to, he_ao, ok_o⟩, ⟨he_ts, he_as, ok_s⟩, ⟨he_tn, he_an, ok_n⟩, ⟨he_tr, he_ar, ok_r⟩, ⟨he_tj, he_aj, ok_j⟩⟩ := hB
  have hq_x : 0 < h.1 := by omega
  have hq_b : 1 < h.1 := by omega
  have hq_to : 2 < h.1 := by omega
  have hq_ao : 3 < h.1 := by omega
  have hq_ts : 4 < h.1 := by omega
  have hq_as : 5 < h.1 := by omega
  have hq_tn : 6 < h.1 := by omega
  have hq_an : 7 < h.1 := by omega
  have hq_tr : 8 < h.1 := by omega
  have hq_ar : 9 < h.1 := by omega
  have hq_tj : 10 < h.1 := by omega
  have hq_aj : 11 < h.1 := by omega
  have hq_tally : 306 < h.1 := by omega
  refine ai_met (ls := [.ref 0, .int o, .int y, .int k, .int x, .float 0]) (by decide) (by simp [ai_en, Value.category]) (by rfl) ?_
  refine rs_aload_n (pc := 0) dX11_own_0 rfl ?_
  refine rs_getf (pc := 1) dX11_own_1 fX11_10 hq_x he_x rfl ?_
  refine rs_getf (pc := 4) dX11_own_4 fX11_108 hq_b he_b rfl ?_
  refine rs_iload_n (pc := 7) dX11_own_7 rfl ?_
  refine rs_callV (as := [_]) (pc := 8) dX11_own_8 mk_X8_has mlX11_138 in_X8_has se_X8_has rfl hq_to he_to rfl rfl (Nat.le_of_ble_eq_true rfl) (c_X8_has hq_to he_to _) ?_
  refine rs_if_eq (tgt := 36) (pc := 11) dX11_own_11 rfl (fun c_11 => ?_) (fun c_11 => ?_)
  · refine rs_iconst (v := 0) (pc := 36) dX11_own_36 rfl ?_
    refine wk_ist5 (pc := 37) dX11_own_37 (by decide) rfl ?_
    refine rs_iload (pc := 39) dX11_own_39 rfl ?_
    refine rs_if_eq (tgt := 54) (pc := 41) dX11_own_41 rfl (fun c_41 => ?_) (fun c_41 => absurd c_41 (by decide))
    have ok : tb_has (bk_o B).1 o = 0 ∨ bi_in y (-1) 192 = 0 ∨ bi_in k 0 9999 = 0 ∨ bi_in x 0 2 = 0 := by simp [c_11]
    refine rs_ldc (pc := 54) dX11_own_54 cnX11_182 ?_
    exact wk_iret (pc := 56) dX11_own_56 rfl (by rw [xs_own, if_pos ok]) (ai_is1 rfl rfl (he_tally.trans (by rw [if_pos ok])) (fun _ _ => rfl))
  · refine rs_iload_n (pc := 14) dX11_own_14 rfl ?_
    refine rs_iconst (v := -1) (pc := 15) dX11_own_15 rfl ?_
    refine rs_sipush (v := 192) (pc := 16) dX11_own_16 rfl ?_
    refine rs_callS (as := [_, _, _]) (pc := 19) dX11_own_19 mk_X11_isWithin mlX11_104 st_X11_isWithin rfl rfl (Nat.le_of_ble_eq_true rfl) (c_X11_isWithin) ?_
    refine rs_if_eq (tgt := 36) (pc := 22) dX11_own_22 rfl (fun c_22 => ?_) (fun c_22 => ?_)
    · refine rs_iconst (v := 0) (pc := 36) dX11_own_36 rfl ?_
      refine wk_ist5 (pc := 37) dX11_own_37 (by decide) rfl ?_
      refine rs_iload (pc := 39) dX11_own_39 rfl ?_
      refine rs_if_eq (tgt := 54) (pc := 41) dX11_own_41 rfl (fun c_41 => ?_) (fun c_41 => absurd c_41 (by decide))
      have ok : tb_has (bk_o B).1 o = 0 ∨ bi_in y (-1) 192 = 0 ∨ bi_in k 0 9999 = 0 ∨ bi_in x 0 2 = 0 := by simp [c_11, c_22]
      refine rs_ldc (pc := 54) dX11_own_54 cnX11_182 ?_
      exact wk_iret (pc := 56) dX11_own_56 rfl (by rw [xs_own, if_pos ok]) (ai_is1 rfl rfl (he_tally.trans (by rw [if_pos ok])) (fun _ _ => rfl))
    · refine rs_iload_n (pc := 25) dX11_own_25 rfl ?_
      refine rs_callS (as := [_]) (pc := 26) dX11_own_26 mk_X11_isWeek mlX11_97 st_X11_isWeek rfl rfl (Nat.le_of_ble_eq_true rfl) (c_X11_isWeek _) ?_
      refine rs_if_eq (tgt := 36) (pc := 29) dX11_own_29 rfl (fun c_29 => ?_) (fun c_29 => ?_)
      · refine rs_iconst (v := 0) (pc := 36) dX11_own_36 rfl ?_
        refine wk_ist5 (pc := 37) dX11_own_37 (by decide) rfl ?_
        refine rs_iload (pc := 39) dX11_own_39 rfl ?_
        refine rs_if_eq (tgt := 54) (pc := 41) dX11_own_41 rfl (fun c_41 => ?_) (fun c_41 => absurd c_41 (by decide))
        have ok : tb_has (bk_o B).1 o = 0 ∨ bi_in y (-1) 192 = 0 ∨ bi_in k 0 9999 = 0 ∨ bi_in x 0 2 = 0 := by simp [c_11, c_22, c_29]
        refine rs_ldc (pc := 54) dX11_own_54 cnX11_182 ?_
        exact wk_iret (pc := 56) dX11_own_56 rfl (by rw [xs_own, if_pos ok]) (ai_is1 rfl rfl (he_tally.trans (by rw [if_pos ok])) (fun _ _ => rfl))
      · refine rs_iconst (v := 1) (pc := 32) dX11_own_32 rfl ?_
        refine rs_goto (tgt := 37) (pc := 33) dX11_own_33 rfl ?_
        refine wk_ist5 (pc := 37) dX11_own_37 (by decide) rfl ?_
        refine rs_iload (pc := 39) dX11_own_39 rfl ?_
        refine rs_if_eq (tgt := 54) (pc := 41) dX11_own_41 rfl (fun c_41 => absurd c_41 (by decide)) (fun c_41 => ?_)
        refine rs_iload (pc := 44) dX11_own_44 rfl ?_
        refine rs_iconst (v := 0) (pc := 46) dX11_own_46 rfl ?_
        refine rs_iconst (v := 2) (pc := 47) dX11_own_47 rfl ?_
        refine rs_callS (as := [_, _, _]) (pc := 48) dX11_own_48 mk_X11_isWithin mlX11_104 st_X11_isWithin rfl rfl (Nat.le_of_ble_eq_true rfl) (c_X11_isWithin) ?_
        refine rs_if_ne (tgt := 57) (pc := 51) dX11_own_51 rfl (fun c_51 => ?_) (fun c_51 => ?_)
        · have ok : ¬ (tb_has (bk_o B).1 o = 0 ∨ bi_in y (-1) 192 = 0 ∨ bi_in k 0 9999 = 0 ∨ bi_in x 0 2 = 0) := by simp [c_11, c_22, c_29, c_51]
          refine rs_aload_n (pc := 57) dX11_own_57 rfl ?_
          refine rs_iload_n (pc := 58) dX11_own_58 rfl ?_
          refine rs_iload_n (pc := 59) dX11_own_59 rfl ?_
          refine rs_iload_n (pc := 60) dX11_own_60 rfl ?_
          refine rs_callV (as := [_, _, _]) (pc := 61) dX11_own_61 mk_X11_tallyOwn mlX11_227 in_X11_tallyOwn se_X11_tallyOwn rfl hq_x he_x rfl rfl (Nat.le_of_ble_eq_true rfl) (c_X11_tallyOwn hx0 hB0 he_tally _ _ _) ?_
          refine wk_gen (fun h_1 e_1 => ?_)
          obtain ⟨m_1, s_1, g_1_0, o_1⟩ := ai_e1 e_1
          have he_x' := (o_1 _ (by decide)).trans he_x
          have he_b' := (o_1 _ (by decide)).trans he_b
          have he_to' := (o_1 _ (by decide)).trans he_to
          have he_ao' := (o_1 _ (by decide)).trans he_ao
          have he_ts' := (o_1 _ (by decide)).trans he_ts
          have he_as' := (o_1 _ (by decide)).trans he_as
          have he_tn' := (o_1 _ (by decide)).trans he_tn
          have he_an' := (o_1 _ (by decide)).trans he_an
          have he_tr' := (o_1 _ (by decide)).trans he_tr
          have he_ar' := (o_1 _ (by decide)).trans he_ar
          have he_tj' := (o_1 _ (by decide)).trans he_tj
          have he_aj' := (o_1 _ (by decide)).trans he_aj
          replace he_x := he_x'
          replace hq_x : 0 < h_1.1 := by rw [m_1]; exact hq_x
          replace he_b := he_b'
          replace hq_b : 1 < h_1.1 := by rw [m_1]; exact hq_b
          replace he_to := he_to'
          replace hq_to : 2 < h_1.1 := by rw [m_1]; exact hq_to
          replace he_ao := he_ao'
          replace hq_ao : 3 < h_1.1 := by rw [m_1]; exact hq_ao
          replace he_ts := he_ts'
          replace hq_ts : 4 < h_1.1 := by rw [m_1]; exact hq_ts
          replace he_as := he_as'
          replace hq_as : 5 < h_1.1 := by rw [m_1]; exact hq_as
          replace he_tn := he_tn'
          replace hq_tn : 6 < h_1.1 := by rw [m_1]; exact hq_tn
          replace he_an := he_an'
          replace hq_an : 7 < h_1.1 := by rw [m_1]; exact hq_an
          replace he_tr := he_tr'
          replace hq_tr : 8 < h_1.1 := by rw [m_1]; exact hq_tr
          replace he_ar := he_ar'
          replace hq_ar : 9 < h_1.1 := by rw [m_1]; exact hq_ar
          replace he_tj := he_tj'
          replace hq_tj : 10 < h_1.1 := by rw [m_1]; exact hq_tj
          replace he_aj := he_aj'
          replace hq_aj : 11 < h_1.1 := by rw [m_1]; exact hq_aj
          replace he_tally := g_1_0
          replace hq_tally : 306 < h_1.1 := by rw [m_1]; exact hq_tally
          have M_1 : h_1.1 = h.1 := m_1
          have S_1 : h_1.2.1 = h.2.1 := s_1
          have O_1 : ∀ j, j ≠ 306 → h_1.2.2 j = h.2.2 j := fun j z0 => o_1 j z0
          refine rs_iload (pc := 64) dX11_own_64 rfl ?_
          refine rs_if_ne (tgt := 77) (pc := 66) dX11_own_66 rfl (fun c_66 => ?_) (fun c_66 => ?_)
          · refine rs_aload_n (pc := 77) dX11_own_77 rfl ?_
            refine rs_getf (pc := 78) dX11_own_78 fX11_93 hq_x he_x rfl ?_
            refine rs_getf (pc := 81) dX11_own_81 fX11_150 hq_tally he_tally rfl ?_
            refine rs_if_ne (tgt := 90) (pc := 84) dX11_own_84 rfl (fun c_84 => ?_) (fun c_84 => ?_)
            · refine rs_iload (pc := 90) dX11_own_90 rfl ?_
              refine rs_iconst (v := 1) (pc := 92) dX11_own_92 rfl ?_
              refine rs_icmp_ne (tgt := 107) (pc := 93) dX11_own_93 rfl (fun c_93 => ?_) (fun c_93 => ?_)
              · refine rs_aload_n (pc := 107) dX11_own_107 rfl ?_
                refine rs_getf (pc := 108) dX11_own_108 fX11_93 hq_x he_x rfl ?_
                refine rs_callV (as := []) (pc := 111) dX11_own_111 mk_X9_span mlX11_194 in_X9_span se_X9_span rfl hq_tally he_tally rfl rfl (Nat.le_of_ble_eq_true rfl) (c_X9_span hq_tally he_tally) ?_
                refine rs_l2i (pc := 114) dX11_own_114 ?_
                exact wk_iret (pc := 115) dX11_own_115 rfl (by rw [xs_own, if_neg ok]; simp [c_11, c_22, c_29, c_51, c_66, c_84, c_93]; try rfl) (ai_is1 M_1 S_1 (he_tally.trans (by rw [if_neg ok])) O_1)
              · refine rs_aload_n (pc := 96) dX11_own_96 rfl ?_
                refine rs_getf (pc := 97) dX11_own_97 fX11_93 hq_x he_x rfl ?_
                refine rs_callV (as := []) (pc := 100) dX11_own_100 mk_X9_thousandths mlX11_230 in_X9_thousandths se_X9_thousandths rfl hq_tally he_tally rfl rfl (Nat.le_of_ble_eq_true rfl) (c_X9_thousandths hq_tally he_tally) ?_
                refine rs_l2i (pc := 103) dX11_own_103 ?_
                refine rs_goto (tgt := 115) (pc := 104) dX11_own_104 rfl ?_
                exact wk_iret (pc := 115) dX11_own_115 rfl (by rw [xs_own, if_neg ok]; simp [c_11, c_22, c_29, c_51, c_66, c_84, c_93]; try rfl) (ai_is1 M_1 S_1 (he_tally.trans (by rw [if_neg ok])) O_1)
            · refine rs_ldc (pc := 87) dX11_own_87 cnX11_145 ?_
              exact wk_iret (pc := 89) dX11_own_89 rfl (by rw [xs_own, if_neg ok]; simp [c_11, c_22, c_29, c_51, c_66, c_84]; try rfl) (ai_is1 M_1 S_1 (he_tally.trans (by rw [if_neg ok])) O_1)
          · refine rs_aload_n (pc := 69) dX11_own_69 rfl ?_
            refine rs_getf (pc := 70) dX11_own_70 fX11_93 hq_x he_x rfl ?_
            refine rs_getf (pc := 73) dX11_own_73 fX11_150 hq_tally he_tally rfl ?_
            exact wk_iret (pc := 76) dX11_own_76 rfl (by rw [xs_own, if_neg ok]; simp [c_11, c_22, c_29, c_51, c_66]; try rfl) (ai_is1 M_1 S_1 (he_tally.trans (by rw [if_neg ok])) O_1)
        · have ok : tb_has (bk_o B).1 o = 0 ∨ bi_in y (-1) 192 = 0 ∨ bi_in k 0 9999 = 0 ∨ bi_in x 0 2 = 0 := by simp [c_11, c_22, c_29, c_51]
          refine rs_ldc (pc := 54) dX11_own_54 cnX11_182 ?_
          exact wk_iret (pc := 56) dX11_own_56 rfl (by rw [xs_own, if_pos ok]) (ai_is1 rfl rfl (he_tally.trans (by rw [if_pos ok])) (fun _ _ => rfl))
