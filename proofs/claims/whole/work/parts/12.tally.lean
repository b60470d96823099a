/-! 12: writes of Table, Tally, reads of Book (walks laid by wip/whole/p12.py) -/
theorem i32_nek {x k : Int32} {n : Int} (h : ¬ x = k) (hk : k.toInt = n) : x.toInt ≠ n := fun z => h (Int32.toInt_inj.mp (z.trans hk.symm))
theorem wk_tab {M : ai_M} {pc : Nat} {ls st : List Value} {h h' : ai_H} {r : Option Value} {dflt lo hi : Int} {offs : Array Int} {len : Nat} {x : Int32} {off : Int} {tgt : Nat} (k : Int32) (hx : x = k) (d : decode M.2.1 pc = .ok (.tableswitch dflt lo hi offs, len)) (h1 : ¬ k.toInt < lo) (h2 : ¬ hi < k.toInt) (ho : offs[(k.toInt - lo).toNat]? = some off) (ht : (pc : Int) + off = (tgt : Int)) (kk : ai_R M tgt ls st h r h') : ai_R M pc ls (.int x :: st) h r h' := by
  subst hx; exact rs_tableIn d h1 h2 ho ht kk
theorem wk_look {M : ai_M} {pc : Nat} {ls st : List Value} {h h' : ai_H} {r : Option Value} {dflt : Int} {ps : Array (Int × Int)} {len : Nat} {x : Int32} {off : Int} {tgt : Nat} (k : Int32) (hx : x = k) (d : decode M.2.1 pc = .ok (.lookupswitch dflt ps, len)) (hp : (ps.toList.zip (ps.toList.drop 1)).all (fun (a, next) => a.1 < next.1) = true) (ho : Op.lookupswitch.offset ps.toList dflt k.toInt = off) (ht : (pc : Int) + off = (tgt : Int)) (kk : ai_R M tgt ls st h r h') : ai_R M pc ls (.int x :: st) h r h' := by
  subst hx; exact rs_lookup d hp ho ht kk
theorem tb_has_eq {siz row : Int32} : (tb_has siz row = 0 ↔ (row < 0 ∨ siz ≤ row)) := by
  unfold tb_has
  by_cases h1 : row < 0
  · simp [h1]
  · by_cases h2 : siz ≤ row
    · simp [h1, h2]
    · simp [h1, h2]
theorem tb_has_ne {siz row : Int32} (h : ¬ tb_has siz row = 0) : ¬ row < 0 ∧ ¬ siz ≤ row := by
  rw [tb_has_eq] at h
  exact ⟨fun z => h (Or.inl z), fun z => h (Or.inr z)⟩
theorem tb_put_0 {wid siz : Int32} {f : Nat → Int32} {row col x : Int32} (h : tb_has siz row = 0) : tb_put wid siz f row col x = f := by
  unfold tb_put
  rcases tb_has_eq.mp h with h | h
  · rw [if_pos h]
  · by_cases h1 : row < 0
    · rw [if_pos h1]
    · rw [if_neg h1, if_pos h]
theorem dX8_put_0 : decode cX8_put 0 = .ok (.aload_n 0, 1) := by decide +kernel
theorem dX8_put_1 : decode cX8_put 1 = .ok (.iload_n 1, 1) := by decide +kernel
theorem dX8_put_2 : decode cX8_put 2 = .ok (.invokevirtual 25, 3) := by decide +kernel
theorem dX8_put_5 : decode cX8_put 5 = .ok (.ifCond .eq 29, 3) := by decide +kernel
theorem dX8_put_8 : decode cX8_put 8 = .ok (.iload_n 2, 1) := by decide +kernel
theorem dX8_put_9 : decode cX8_put 9 = .ok (.ifCond .lt 25, 3) := by decide +kernel
theorem dX8_put_12 : decode cX8_put 12 = .ok (.iload_n 2, 1) := by decide +kernel
theorem dX8_put_13 : decode cX8_put 13 = .ok (.aload_n 0, 1) := by decide +kernel
theorem dX8_put_14 : decode cX8_put 14 = .ok (.getfield 18, 3) := by decide +kernel
theorem dX8_put_17 : decode cX8_put 17 = .ok (.if_icmp .ge 17, 3) := by decide +kernel
theorem dX8_put_20 : decode cX8_put 20 = .ok (.aload_n 0, 1) := by decide +kernel
theorem dX8_put_21 : decode cX8_put 21 = .ok (.getfield 21, 3) := by decide +kernel
theorem dX8_put_24 : decode cX8_put 24 = .ok (.iload_n 1, 1) := by decide +kernel
theorem dX8_put_25 : decode cX8_put 25 = .ok (.aload_n 0, 1) := by decide +kernel
theorem dX8_put_26 : decode cX8_put 26 = .ok (.getfield 18, 3) := by decide +kernel
theorem dX8_put_29 : decode cX8_put 29 = .ok (.imul, 1) := by decide +kernel
theorem dX8_put_30 : decode cX8_put 30 = .ok (.iload_n 2, 1) := by decide +kernel
theorem dX8_put_31 : decode cX8_put 31 = .ok (.iadd, 1) := by decide +kernel
theorem dX8_put_32 : decode cX8_put 32 = .ok (.iload_n 3, 1) := by decide +kernel
theorem dX8_put_33 : decode cX8_put 33 = .ok (.iastore, 1) := by decide +kernel
theorem dX8_put_34 : decode cX8_put 34 = .ok (.return_, 1) := by decide +kernel
set_option maxRecDepth 100000 in
set_option maxHeartbeats 4000000 in
theorem c_X8_put {h : ai_H} {t a : Nat} {lim wid siz : Int32} (hq_t : t < h.1) (he_t : h.2.2 t = .inr (8, [.int lim, .int wid, .ref a, .int siz])) {n : Nat} {f : Nat → Int32} (hq_a : a < h.1) (he_a : h.2.2 a = .inl (0, n, .inl f)) (hok : tb_ok lim wid siz n) (row col x : Int32) : ai_Met MX8_put [.ref t, .int row, .int col, .int x] h none (ai_set h a (.inl (0, n, .inl (tb_put wid siz f row col x)))) := by
  refine ai_met (ls := [.ref t, .int row, .int col, .int x]) (by decide) (by simp [ai_en, Value.category]) (by rfl) ?_
  refine rs_aload_n (pc := 0) dX8_put_0 rfl ?_
  refine rs_iload_n (pc := 1) dX8_put_1 rfl ?_
  refine rs_callV (as := [_]) (pc := 2) dX8_put_2 mk_X8_has mlX8_25 in_X8_has se_X8_has rfl hq_t he_t rfl rfl (Nat.le_of_ble_eq_true rfl) (c_X8_has hq_t he_t row) ?_
  refine rs_if_eq (tgt := 34) (pc := 5) dX8_put_5 rfl (fun c_5 => ?_) (fun c_5 => ?_)
  · have k5 := tb_put_0 (wid := wid) (f := f) (col := col) (x := x) c_5
    exact wk_vret (pc := 34) dX8_put_34 rfl (rfl) (ai_is1 rfl rfl (he_a.trans (by first | (rw [k5]; done) | simp [tb_put, *])) (fun _ _ => rfl))
  · obtain ⟨k5, k6⟩ := tb_has_ne c_5
    refine rs_iload_n (pc := 8) dX8_put_8 rfl ?_
    refine rs_if_lt (tgt := 34) (pc := 9) dX8_put_9 rfl (fun c_9 => ?_) (fun c_9 => ?_)
    · exact wk_vret (pc := 34) dX8_put_34 rfl (rfl) (ai_is1 rfl rfl (he_a.trans (by first | (rw [k5]; done) | simp [tb_put, *])) (fun _ _ => rfl))
    · refine rs_iload_n (pc := 12) dX8_put_12 rfl ?_
      refine rs_aload_n (pc := 13) dX8_put_13 rfl ?_
      refine rs_getf (pc := 14) dX8_put_14 fX8_18 hq_t he_t rfl ?_
      refine rs_icmp_ge (tgt := 34) (pc := 17) dX8_put_17 rfl (fun c_17 => ?_) (fun c_17 => ?_)
      · exact wk_vret (pc := 34) dX8_put_34 rfl (rfl) (ai_is1 rfl rfl (he_a.trans (by first | (rw [k5]; done) | simp [tb_put, *])) (fun _ _ => rfl))
      · refine rs_aload_n (pc := 20) dX8_put_20 rfl ?_
        refine rs_getf (pc := 21) dX8_put_21 fX8_21 hq_t he_t rfl ?_
        refine rs_iload_n (pc := 24) dX8_put_24 rfl ?_
        refine rs_aload_n (pc := 25) dX8_put_25 rfl ?_
        refine rs_getf (pc := 26) dX8_put_26 fX8_18 hq_t he_t rfl ?_
        refine rs_imul (pc := 29) dX8_put_29 ?_
        refine rs_iload_n (pc := 30) dX8_put_30 rfl ?_
        refine rs_iadd (pc := 31) dX8_put_31 ?_
        refine rs_iload_n (pc := 32) dX8_put_32 rfl ?_
        refine wk_iast (pc := 33) dX8_put_33 hq_a he_a (tb_in hok k5 k6 c_9 c_17) (fun h_1 m_1 s_1 g_1 o_1 e_1 => ?_)
        have he_t' := (o_1 _ (ai_ne he_t he_a (by intro z; cases z))).trans he_t
        have hq_t' : t < h_1.1 := by rw [m_1]; exact hq_t
        have hq_a' : a < h_1.1 := by rw [m_1]; exact hq_a
        replace he_t := he_t'
        replace hq_t := hq_t'
        replace he_a := g_1
        replace hq_a := hq_a'
        have M_1 : h_1.1 = h.1 := m_1
        have S_1 : h_1.2.1 = h.2.1 := s_1
        have O_1 : ∀ j, j ≠ a → h_1.2.2 j = h.2.2 j := fun j z0 => o_1 j z0
        exact wk_vret (pc := 34) dX8_put_34 rfl (rfl) (ai_is1 M_1 S_1 (he_a.trans (by first | (rw [k5]; done) | simp [tb_put, *])) O_1)
theorem dX9_clear_0 : decode cX9_clear 0 = .ok (.aload_n 0, 1) := by decide +kernel
theorem dX9_clear_1 : decode cX9_clear 1 = .ok (.iconst 0, 1) := by decide +kernel
theorem dX9_clear_2 : decode cX9_clear 2 = .ok (.putfield 7, 3) := by decide +kernel
theorem dX9_clear_5 : decode cX9_clear 5 = .ok (.aload_n 0, 1) := by decide +kernel
theorem dX9_clear_6 : decode cX9_clear 6 = .ok (.lconst 0, 1) := by decide +kernel
theorem dX9_clear_7 : decode cX9_clear 7 = .ok (.putfield 13, 3) := by decide +kernel
theorem dX9_clear_10 : decode cX9_clear 10 = .ok (.aload_n 0, 1) := by decide +kernel
theorem dX9_clear_11 : decode cX9_clear 11 = .ok (.lconst 0, 1) := by decide +kernel
theorem dX9_clear_12 : decode cX9_clear 12 = .ok (.putfield 17, 3) := by decide +kernel
theorem dX9_clear_15 : decode cX9_clear 15 = .ok (.aload_n 0, 1) := by decide +kernel
theorem dX9_clear_16 : decode cX9_clear 16 = .ok (.lconst 0, 1) := by decide +kernel
theorem dX9_clear_17 : decode cX9_clear 17 = .ok (.putfield 20, 3) := by decide +kernel
theorem dX9_clear_20 : decode cX9_clear 20 = .ok (.return_, 1) := by decide +kernel
set_option maxRecDepth 100000 in
set_option maxHeartbeats 4000000 in
theorem c_X9_clear {h : ai_H} {t : Nat} {m : Int32} {s l g : Int64} (hq_t : t < h.1) (he_t : h.2.2 t = .inr (9, [.int m, .long s, .long l, .long g])) : ai_Met MX9_clear [.ref t] h none (ai_set h t (.inr (9, [.int 0, .long 0, .long 0, .long 0]))) := by
  refine ai_met (ls := [.ref t]) (by decide) (by simp [ai_en, Value.category]) (by rfl) ?_
  refine rs_aload_n (pc := 0) dX9_clear_0 rfl ?_
  refine rs_iconst (v := 0) (pc := 1) dX9_clear_1 rfl ?_
  refine wk_putf (fs' := [_, _, _, _]) (pc := 2) dX9_clear_2 fX9_7 hq_t he_t rfl (Nat.le_of_ble_eq_true rfl) rfl (fun h_1 m_1 s_1 g_1 o_1 e_1 => ?_)
  have hq_t' : t < h_1.1 := by rw [m_1]; exact hq_t
  replace he_t := g_1
  replace hq_t := hq_t'
  have M_1 : h_1.1 = h.1 := m_1
  have S_1 : h_1.2.1 = h.2.1 := s_1
  have O_1 : ∀ j, j ≠ t → h_1.2.2 j = h.2.2 j := fun j z0 => o_1 j z0
  refine rs_aload_n (pc := 5) dX9_clear_5 rfl ?_
  refine rs_lconst (v := 0) (pc := 6) dX9_clear_6 rfl ?_
  refine wk_putf (fs' := [_, _, _, _]) (pc := 7) dX9_clear_7 fX9_13 hq_t he_t rfl (Nat.le_of_ble_eq_true rfl) rfl (fun h_2 m_2 s_2 g_2 o_2 e_2 => ?_)
  have hq_t' : t < h_2.1 := by rw [m_2]; exact hq_t
  replace he_t := g_2
  replace hq_t := hq_t'
  have M_2 : h_2.1 = h.1 := m_2.trans M_1
  have S_2 : h_2.2.1 = h.2.1 := s_2.trans S_1
  have O_2 : ∀ j, j ≠ t → h_2.2.2 j = h.2.2 j := fun j z0 => (o_2 j z0).trans (O_1 j z0)
  refine rs_aload_n (pc := 10) dX9_clear_10 rfl ?_
  refine rs_lconst (v := 0) (pc := 11) dX9_clear_11 rfl ?_
  refine wk_putf (fs' := [_, _, _, _]) (pc := 12) dX9_clear_12 fX9_17 hq_t he_t rfl (Nat.le_of_ble_eq_true rfl) rfl (fun h_3 m_3 s_3 g_3 o_3 e_3 => ?_)
  have hq_t' : t < h_3.1 := by rw [m_3]; exact hq_t
  replace he_t := g_3
  replace hq_t := hq_t'
  have M_3 : h_3.1 = h.1 := m_3.trans M_2
  have S_3 : h_3.2.1 = h.2.1 := s_3.trans S_2
  have O_3 : ∀ j, j ≠ t → h_3.2.2 j = h.2.2 j := fun j z0 => (o_3 j z0).trans (O_2 j z0)
  refine rs_aload_n (pc := 15) dX9_clear_15 rfl ?_
  refine rs_lconst (v := 0) (pc := 16) dX9_clear_16 rfl ?_
  refine wk_putf (fs' := [_, _, _, _]) (pc := 17) dX9_clear_17 fX9_20 hq_t he_t rfl (Nat.le_of_ble_eq_true rfl) rfl (fun h_4 m_4 s_4 g_4 o_4 e_4 => ?_)
  have hq_t' : t < h_4.1 := by rw [m_4]; exact hq_t
  replace he_t := g_4
  replace hq_t := hq_t'
  have M_4 : h_4.1 = h.1 := m_4.trans M_3
  have S_4 : h_4.2.1 = h.2.1 := s_4.trans S_3
  have O_4 : ∀ j, j ≠ t → h_4.2.2 j = h.2.2 j := fun j z0 => (o_4 j z0).trans (O_3 j z0)
  exact wk_vret (pc := 20) dX9_clear_20 rfl (rfl) (ai_is1 M_4 S_4 he_t O_4)
theorem dX9_span_0 : decode cX9_span 0 = .ok (.aload_n 0, 1) := by decide +kernel
theorem dX9_span_1 : decode cX9_span 1 = .ok (.getfield 20, 3) := by decide +kernel
theorem dX9_span_4 : decode cX9_span 4 = .ok (.aload_n 0, 1) := by decide +kernel
theorem dX9_span_5 : decode cX9_span 5 = .ok (.getfield 17, 3) := by decide +kernel
theorem dX9_span_8 : decode cX9_span 8 = .ok (.lsub, 1) := by decide +kernel
theorem dX9_span_9 : decode cX9_span 9 = .ok (.lreturn, 1) := by decide +kernel
set_option maxRecDepth 100000 in
set_option maxHeartbeats 4000000 in
theorem c_X9_span {h : ai_H} {t : Nat} {m : Int32} {s l g : Int64} (hq_t : t < h.1) (he_t : h.2.2 t = .inr (9, [.int m, .long s, .long l, .long g])) : ai_Met MX9_span [.ref t] h (some (.long (g - l))) h := by
  refine ai_met (ls := [.ref t]) (by decide) (by simp [ai_en, Value.category]) (by rfl) ?_
  refine rs_aload_n (pc := 0) dX9_span_0 rfl ?_
  refine rs_getf (pc := 1) dX9_span_1 fX9_20 hq_t he_t rfl ?_
  refine rs_aload_n (pc := 4) dX9_span_4 rfl ?_
  refine rs_getf (pc := 5) dX9_span_5 fX9_17 hq_t he_t rfl ?_
  refine rs_lsub (pc := 8) dX9_span_8 ?_
  exact wk_lret (pc := 9) dX9_span_9 rfl (rfl) (rfl)
def ty_mean (m : Int32) (s : Int64) : Int64 := if m = 0 then 0 else bi_fdL s m.toInt64
def ty_thou (m : Int32) (s : Int64) : Int64 := if m = 0 then 0 else bi_fdL (1000 * s) m.toInt64
def ty_lo (m : Int32) (l x : Int64) : Int64 := if m = 0 then x else bi_minL l x
def ty_hi (m : Int32) (g x : Int64) : Int64 := if m = 0 then x else bi_maxL g x
theorem i64_ne0 {m : Int32} (h : ¬ m = 0) : ¬ m.toInt64 = 0 := fun z => h (by
  have := congrArg Int64.toInt z
  rw [Int32.toInt_toInt64] at this
  exact Int32.toInt_inj.mp (by simpa using this))
theorem dX9_mean_0 : decode cX9_mean 0 = .ok (.aload_n 0, 1) := by decide +kernel
theorem dX9_mean_1 : decode cX9_mean 1 = .ok (.getfield 7, 3) := by decide +kernel
theorem dX9_mean_4 : decode cX9_mean 4 = .ok (.ifCond .ne 7, 3) := by decide +kernel
theorem dX9_mean_7 : decode cX9_mean 7 = .ok (.lconst 0, 1) := by decide +kernel
theorem dX9_mean_8 : decode cX9_mean 8 = .ok (.goto 15, 3) := by decide +kernel
theorem dX9_mean_11 : decode cX9_mean 11 = .ok (.aload_n 0, 1) := by decide +kernel
theorem dX9_mean_12 : decode cX9_mean 12 = .ok (.getfield 13, 3) := by decide +kernel
theorem dX9_mean_15 : decode cX9_mean 15 = .ok (.aload_n 0, 1) := by decide +kernel
theorem dX9_mean_16 : decode cX9_mean 16 = .ok (.getfield 7, 3) := by decide +kernel
theorem dX9_mean_19 : decode cX9_mean 19 = .ok (.i2l, 1) := by decide +kernel
theorem dX9_mean_20 : decode cX9_mean 20 = .ok (.invokestatic 32, 3) := by decide +kernel
theorem dX9_mean_23 : decode cX9_mean 23 = .ok (.lreturn, 1) := by decide +kernel
set_option maxRecDepth 100000 in
set_option maxHeartbeats 4000000 in
theorem c_X9_mean {h : ai_H} {t : Nat} {m : Int32} {s l g : Int64} (hq_t : t < h.1) (he_t : h.2.2 t = .inr (9, [.int m, .long s, .long l, .long g])) : ai_Met MX9_mean [.ref t] h (some (.long (ty_mean m s))) h := by
  refine ai_met (ls := [.ref t]) (by decide) (by simp [ai_en, Value.category]) (by rfl) ?_
  refine rs_aload_n (pc := 0) dX9_mean_0 rfl ?_
  refine rs_getf (pc := 1) dX9_mean_1 fX9_7 hq_t he_t rfl ?_
  refine rs_if_ne (tgt := 11) (pc := 4) dX9_mean_4 rfl (fun c_4 => ?_) (fun c_4 => ?_)
  · refine rs_aload_n (pc := 11) dX9_mean_11 rfl ?_
    refine rs_getf (pc := 12) dX9_mean_12 fX9_13 hq_t he_t rfl ?_
    refine rs_aload_n (pc := 15) dX9_mean_15 rfl ?_
    refine rs_getf (pc := 16) dX9_mean_16 fX9_7 hq_t he_t rfl ?_
    refine rs_i2l (pc := 19) dX9_mean_19 ?_
    refine rs_callS (as := [_, _]) (pc := 20) dX9_mean_20 mk_J9_floorDiv_f86c9 mlX9_32 st_J9_floorDiv_f86c9 rfl rfl (Nat.le_of_ble_eq_true rfl) (c_fdL (i64_ne0 c_4)) ?_
    exact wk_lret (pc := 23) dX9_mean_23 rfl (by simp [ty_mean, *]) (rfl)
  · refine rs_lconst (v := 0) (pc := 7) dX9_mean_7 rfl ?_
    refine rs_goto (tgt := 23) (pc := 8) dX9_mean_8 rfl ?_
    exact wk_lret (pc := 23) dX9_mean_23 rfl (by simp [ty_mean, *]) (rfl)
theorem dX9_thousandths_0 : decode cX9_thousandths 0 = .ok (.aload_n 0, 1) := by decide +kernel
theorem dX9_thousandths_1 : decode cX9_thousandths 1 = .ok (.getfield 7, 3) := by decide +kernel
theorem dX9_thousandths_4 : decode cX9_thousandths 4 = .ok (.ifCond .ne 7, 3) := by decide +kernel
theorem dX9_thousandths_7 : decode cX9_thousandths 7 = .ok (.lconst 0, 1) := by decide +kernel
theorem dX9_thousandths_8 : decode cX9_thousandths 8 = .ok (.goto 19, 3) := by decide +kernel
theorem dX9_thousandths_11 : decode cX9_thousandths 11 = .ok (.ldc2_w 35, 3) := by decide +kernel
theorem dX9_thousandths_14 : decode cX9_thousandths 14 = .ok (.aload_n 0, 1) := by decide +kernel
theorem dX9_thousandths_15 : decode cX9_thousandths 15 = .ok (.getfield 13, 3) := by decide +kernel
theorem dX9_thousandths_18 : decode cX9_thousandths 18 = .ok (.lmul, 1) := by decide +kernel
theorem dX9_thousandths_19 : decode cX9_thousandths 19 = .ok (.aload_n 0, 1) := by decide +kernel
theorem dX9_thousandths_20 : decode cX9_thousandths 20 = .ok (.getfield 7, 3) := by decide +kernel
theorem dX9_thousandths_23 : decode cX9_thousandths 23 = .ok (.i2l, 1) := by decide +kernel
theorem dX9_thousandths_24 : decode cX9_thousandths 24 = .ok (.invokestatic 32, 3) := by decide +kernel
theorem dX9_thousandths_27 : decode cX9_thousandths 27 = .ok (.lreturn, 1) := by decide +kernel
set_option maxRecDepth 100000 in
set_option maxHeartbeats 4000000 in
theorem c_X9_thousandths {h : ai_H} {t : Nat} {m : Int32} {s l g : Int64} (hq_t : t < h.1) (he_t : h.2.2 t = .inr (9, [.int m, .long s, .long l, .long g])) : ai_Met MX9_thousandths [.ref t] h (some (.long (ty_thou m s))) h := by
  refine ai_met (ls := [.ref t]) (by decide) (by simp [ai_en, Value.category]) (by rfl) ?_
  refine rs_aload_n (pc := 0) dX9_thousandths_0 rfl ?_
  refine rs_getf (pc := 1) dX9_thousandths_1 fX9_7 hq_t he_t rfl ?_
  refine rs_if_ne (tgt := 11) (pc := 4) dX9_thousandths_4 rfl (fun c_4 => ?_) (fun c_4 => ?_)
  · refine rs_ldc2 (pc := 11) dX9_thousandths_11 cnX9_35 ?_
    refine rs_aload_n (pc := 14) dX9_thousandths_14 rfl ?_
    refine rs_getf (pc := 15) dX9_thousandths_15 fX9_13 hq_t he_t rfl ?_
    refine rs_lmul (pc := 18) dX9_thousandths_18 ?_
    refine rs_aload_n (pc := 19) dX9_thousandths_19 rfl ?_
    refine rs_getf (pc := 20) dX9_thousandths_20 fX9_7 hq_t he_t rfl ?_
    refine rs_i2l (pc := 23) dX9_thousandths_23 ?_
    refine rs_callS (as := [_, _]) (pc := 24) dX9_thousandths_24 mk_J9_floorDiv_f86c9 mlX9_32 st_J9_floorDiv_f86c9 rfl rfl (Nat.le_of_ble_eq_true rfl) (c_fdL (i64_ne0 c_4)) ?_
    exact wk_lret (pc := 27) dX9_thousandths_27 rfl (by simp [ty_thou, *]) (rfl)
  · refine rs_lconst (v := 0) (pc := 7) dX9_thousandths_7 rfl ?_
    refine rs_goto (tgt := 27) (pc := 8) dX9_thousandths_8 rfl ?_
    exact wk_lret (pc := 27) dX9_thousandths_27 rfl (by simp [ty_thou, *]) (rfl)
theorem dX9_add_0 : decode cX9_add 0 = .ok (.aload_n 0, 1) := by decide +kernel
theorem dX9_add_1 : decode cX9_add 1 = .ok (.aload_n 0, 1) := by decide +kernel
theorem dX9_add_2 : decode cX9_add 2 = .ok (.getfield 7, 3) := by decide +kernel
theorem dX9_add_5 : decode cX9_add 5 = .ok (.ifCond .ne 7, 3) := by decide +kernel
theorem dX9_add_8 : decode cX9_add 8 = .ok (.lload_n 1, 1) := by decide +kernel
theorem dX9_add_9 : decode cX9_add 9 = .ok (.goto 11, 3) := by decide +kernel
theorem dX9_add_12 : decode cX9_add 12 = .ok (.aload_n 0, 1) := by decide +kernel
theorem dX9_add_13 : decode cX9_add 13 = .ok (.getfield 17, 3) := by decide +kernel
theorem dX9_add_16 : decode cX9_add 16 = .ok (.lload_n 1, 1) := by decide +kernel
theorem dX9_add_17 : decode cX9_add 17 = .ok (.invokestatic 23, 3) := by decide +kernel
theorem dX9_add_20 : decode cX9_add 20 = .ok (.putfield 17, 3) := by decide +kernel
theorem dX9_add_23 : decode cX9_add 23 = .ok (.aload_n 0, 1) := by decide +kernel
theorem dX9_add_24 : decode cX9_add 24 = .ok (.aload_n 0, 1) := by decide +kernel
theorem dX9_add_25 : decode cX9_add 25 = .ok (.getfield 7, 3) := by decide +kernel
theorem dX9_add_28 : decode cX9_add 28 = .ok (.ifCond .ne 7, 3) := by decide +kernel
theorem dX9_add_31 : decode cX9_add 31 = .ok (.lload_n 1, 1) := by decide +kernel
theorem dX9_add_32 : decode cX9_add 32 = .ok (.goto 11, 3) := by decide +kernel
theorem dX9_add_35 : decode cX9_add 35 = .ok (.aload_n 0, 1) := by decide +kernel
theorem dX9_add_36 : decode cX9_add 36 = .ok (.getfield 20, 3) := by decide +kernel
theorem dX9_add_39 : decode cX9_add 39 = .ok (.lload_n 1, 1) := by decide +kernel
theorem dX9_add_40 : decode cX9_add 40 = .ok (.invokestatic 29, 3) := by decide +kernel
theorem dX9_add_43 : decode cX9_add 43 = .ok (.putfield 20, 3) := by decide +kernel
theorem dX9_add_46 : decode cX9_add 46 = .ok (.aload_n 0, 1) := by decide +kernel
theorem dX9_add_47 : decode cX9_add 47 = .ok (.dup, 1) := by decide +kernel
theorem dX9_add_48 : decode cX9_add 48 = .ok (.getfield 13, 3) := by decide +kernel
theorem dX9_add_51 : decode cX9_add 51 = .ok (.lload_n 1, 1) := by decide +kernel
theorem dX9_add_52 : decode cX9_add 52 = .ok (.ladd, 1) := by decide +kernel
theorem dX9_add_53 : decode cX9_add 53 = .ok (.putfield 13, 3) := by decide +kernel
theorem dX9_add_56 : decode cX9_add 56 = .ok (.aload_n 0, 1) := by decide +kernel
theorem dX9_add_57 : decode cX9_add 57 = .ok (.dup, 1) := by decide +kernel
theorem dX9_add_58 : decode cX9_add 58 = .ok (.getfield 7, 3) := by decide +kernel
theorem dX9_add_61 : decode cX9_add 61 = .ok (.iconst 1, 1) := by decide +kernel
theorem dX9_add_62 : decode cX9_add 62 = .ok (.iadd, 1) := by decide +kernel
theorem dX9_add_63 : decode cX9_add 63 = .ok (.putfield 7, 3) := by decide +kernel
theorem dX9_add_66 : decode cX9_add 66 = .ok (.return_, 1) := by decide +kernel
set_option maxRecDepth 100000 in
set_option maxHeartbeats 4000000 in
theorem c_X9_add {h : ai_H} {t : Nat} {m : Int32} {s l g : Int64} (hq_t : t < h.1) (he_t : h.2.2 t = .inr (9, [.int m, .long s, .long l, .long g])) (x : Int64) : ai_Met MX9_add [.ref t, .long x] h none (ai_set h t (.inr (9, [.int (m + 1), .long (s + x), .long (ty_lo m l x), .long (ty_hi m g x)]))) := by
  refine ai_met (ls := [.ref t, .long x, .float 0]) (by decide) (by simp [ai_en, Value.category]) (by rfl) ?_
  refine rs_aload_n (pc := 0) dX9_add_0 rfl ?_
  refine rs_aload_n (pc := 1) dX9_add_1 rfl ?_
  refine rs_getf (pc := 2) dX9_add_2 fX9_7 hq_t he_t rfl ?_
  refine rs_if_ne (tgt := 12) (pc := 5) dX9_add_5 rfl (fun c_5 => ?_) (fun c_5 => ?_)
  · refine rs_aload_n (pc := 12) dX9_add_12 rfl ?_
    refine rs_getf (pc := 13) dX9_add_13 fX9_17 hq_t he_t rfl ?_
    refine rs_lload_n (pc := 16) dX9_add_16 rfl ?_
    refine rs_callS (as := [_, _]) (pc := 17) dX9_add_17 mk_J9_min_f86c9 mlX9_23 st_J9_min_f86c9 rfl rfl (Nat.le_of_ble_eq_true rfl) (c_minL) ?_
    refine wk_putf (fs' := [_, _, _, _]) (pc := 20) dX9_add_20 fX9_17 hq_t he_t rfl (Nat.le_of_ble_eq_true rfl) rfl (fun h_1 m_1 s_1 g_1 o_1 e_1 => ?_)
    have hq_t' : t < h_1.1 := by rw [m_1]; exact hq_t
    replace he_t := g_1
    replace hq_t := hq_t'
    have M_1 : h_1.1 = h.1 := m_1
    have S_1 : h_1.2.1 = h.2.1 := s_1
    have O_1 : ∀ j, j ≠ t → h_1.2.2 j = h.2.2 j := fun j z0 => o_1 j z0
    refine rs_aload_n (pc := 23) dX9_add_23 rfl ?_
    refine rs_aload_n (pc := 24) dX9_add_24 rfl ?_
    refine rs_getf (pc := 25) dX9_add_25 fX9_7 hq_t he_t rfl ?_
    refine rs_if_ne (tgt := 35) (pc := 28) dX9_add_28 rfl (fun c_28 => ?_) (fun c_28 => ?_)
    · refine rs_aload_n (pc := 35) dX9_add_35 rfl ?_
      refine rs_getf (pc := 36) dX9_add_36 fX9_20 hq_t he_t rfl ?_
      refine rs_lload_n (pc := 39) dX9_add_39 rfl ?_
      refine rs_callS (as := [_, _]) (pc := 40) dX9_add_40 mk_J9_max_f86c9 mlX9_29 st_J9_max_f86c9 rfl rfl (Nat.le_of_ble_eq_true rfl) (c_maxL) ?_
      refine wk_putf (fs' := [_, _, _, _]) (pc := 43) dX9_add_43 fX9_20 hq_t he_t rfl (Nat.le_of_ble_eq_true rfl) rfl (fun h_2 m_2 s_2 g_2 o_2 e_2 => ?_)
      have hq_t' : t < h_2.1 := by rw [m_2]; exact hq_t
      replace he_t := g_2
      replace hq_t := hq_t'
      have M_2 : h_2.1 = h.1 := m_2.trans M_1
      have S_2 : h_2.2.1 = h.2.1 := s_2.trans S_1
      have O_2 : ∀ j, j ≠ t → h_2.2.2 j = h.2.2 j := fun j z0 => (o_2 j z0).trans (O_1 j z0)
      refine rs_aload_n (pc := 46) dX9_add_46 rfl ?_
      refine rs_dup (pc := 47) dX9_add_47 rfl ?_
      refine rs_getf (pc := 48) dX9_add_48 fX9_13 hq_t he_t rfl ?_
      refine rs_lload_n (pc := 51) dX9_add_51 rfl ?_
      refine rs_ladd (pc := 52) dX9_add_52 ?_
      refine wk_putf (fs' := [_, _, _, _]) (pc := 53) dX9_add_53 fX9_13 hq_t he_t rfl (Nat.le_of_ble_eq_true rfl) rfl (fun h_3 m_3 s_3 g_3 o_3 e_3 => ?_)
      have hq_t' : t < h_3.1 := by rw [m_3]; exact hq_t
      replace he_t := g_3
      replace hq_t := hq_t'
      have M_3 : h_3.1 = h.1 := m_3.trans M_2
      have S_3 : h_3.2.1 = h.2.1 := s_3.trans S_2
      have O_3 : ∀ j, j ≠ t → h_3.2.2 j = h.2.2 j := fun j z0 => (o_3 j z0).trans (O_2 j z0)
      refine rs_aload_n (pc := 56) dX9_add_56 rfl ?_
      refine rs_dup (pc := 57) dX9_add_57 rfl ?_
      refine rs_getf (pc := 58) dX9_add_58 fX9_7 hq_t he_t rfl ?_
      refine rs_iconst (v := 1) (pc := 61) dX9_add_61 rfl ?_
      refine rs_iadd (pc := 62) dX9_add_62 ?_
      refine wk_putf (fs' := [_, _, _, _]) (pc := 63) dX9_add_63 fX9_7 hq_t he_t rfl (Nat.le_of_ble_eq_true rfl) rfl (fun h_4 m_4 s_4 g_4 o_4 e_4 => ?_)
      have hq_t' : t < h_4.1 := by rw [m_4]; exact hq_t
      replace he_t := g_4
      replace hq_t := hq_t'
      have M_4 : h_4.1 = h.1 := m_4.trans M_3
      have S_4 : h_4.2.1 = h.2.1 := s_4.trans S_3
      have O_4 : ∀ j, j ≠ t → h_4.2.2 j = h.2.2 j := fun j z0 => (o_4 j z0).trans (O_3 j z0)
      exact wk_vret (pc := 66) dX9_add_66 rfl (rfl) (ai_is1 M_4 S_4 (he_t.trans (by first | contradiction | simp [ty_lo, ty_hi, *])) O_4)
    · refine rs_lload_n (pc := 31) dX9_add_31 rfl ?_
      refine rs_goto (tgt := 43) (pc := 32) dX9_add_32 rfl ?_
      refine wk_putf (fs' := [_, _, _, _]) (pc := 43) dX9_add_43 fX9_20 hq_t he_t rfl (Nat.le_of_ble_eq_true rfl) rfl (fun h_5 m_5 s_5 g_5 o_5 e_5 => ?_)
      have hq_t' : t < h_5.1 := by rw [m_5]; exact hq_t
      replace he_t := g_5
      replace hq_t := hq_t'
      have M_5 : h_5.1 = h.1 := m_5.trans M_1
      have S_5 : h_5.2.1 = h.2.1 := s_5.trans S_1
      have O_5 : ∀ j, j ≠ t → h_5.2.2 j = h.2.2 j := fun j z0 => (o_5 j z0).trans (O_1 j z0)
      refine rs_aload_n (pc := 46) dX9_add_46 rfl ?_
      refine rs_dup (pc := 47) dX9_add_47 rfl ?_
      refine rs_getf (pc := 48) dX9_add_48 fX9_13 hq_t he_t rfl ?_
      refine rs_lload_n (pc := 51) dX9_add_51 rfl ?_
      refine rs_ladd (pc := 52) dX9_add_52 ?_
      refine wk_putf (fs' := [_, _, _, _]) (pc := 53) dX9_add_53 fX9_13 hq_t he_t rfl (Nat.le_of_ble_eq_true rfl) rfl (fun h_6 m_6 s_6 g_6 o_6 e_6 => ?_)
      have hq_t' : t < h_6.1 := by rw [m_6]; exact hq_t
      replace he_t := g_6
      replace hq_t := hq_t'
      have M_6 : h_6.1 = h.1 := m_6.trans M_5
      have S_6 : h_6.2.1 = h.2.1 := s_6.trans S_5
      have O_6 : ∀ j, j ≠ t → h_6.2.2 j = h.2.2 j := fun j z0 => (o_6 j z0).trans (O_5 j z0)
      refine rs_aload_n (pc := 56) dX9_add_56 rfl ?_
      refine rs_dup (pc := 57) dX9_add_57 rfl ?_
      refine rs_getf (pc := 58) dX9_add_58 fX9_7 hq_t he_t rfl ?_
      refine rs_iconst (v := 1) (pc := 61) dX9_add_61 rfl ?_
      refine rs_iadd (pc := 62) dX9_add_62 ?_
      refine wk_putf (fs' := [_, _, _, _]) (pc := 63) dX9_add_63 fX9_7 hq_t he_t rfl (Nat.le_of_ble_eq_true rfl) rfl (fun h_7 m_7 s_7 g_7 o_7 e_7 => ?_)
      have hq_t' : t < h_7.1 := by rw [m_7]; exact hq_t
      replace he_t := g_7
      replace hq_t := hq_t'
      have M_7 : h_7.1 = h.1 := m_7.trans M_6
      have S_7 : h_7.2.1 = h.2.1 := s_7.trans S_6
      have O_7 : ∀ j, j ≠ t → h_7.2.2 j = h.2.2 j := fun j z0 => (o_7 j z0).trans (O_6 j z0)
      exact wk_vret (pc := 66) dX9_add_66 rfl (rfl) (ai_is1 M_7 S_7 (he_t.trans (by first | contradiction | simp [ty_lo, ty_hi, *])) O_7)
  · refine rs_lload_n (pc := 8) dX9_add_8 rfl ?_
    refine rs_goto (tgt := 20) (pc := 9) dX9_add_9 rfl ?_
    refine wk_putf (fs' := [_, _, _, _]) (pc := 20) dX9_add_20 fX9_17 hq_t he_t rfl (Nat.le_of_ble_eq_true rfl) rfl (fun h_8 m_8 s_8 g_8 o_8 e_8 => ?_)
    have hq_t' : t < h_8.1 := by rw [m_8]; exact hq_t
    replace he_t := g_8
    replace hq_t := hq_t'
    have M_8 : h_8.1 = h.1 := m_8
    have S_8 : h_8.2.1 = h.2.1 := s_8
    have O_8 : ∀ j, j ≠ t → h_8.2.2 j = h.2.2 j := fun j z0 => o_8 j z0
    refine rs_aload_n (pc := 23) dX9_add_23 rfl ?_
    refine rs_aload_n (pc := 24) dX9_add_24 rfl ?_
    refine rs_getf (pc := 25) dX9_add_25 fX9_7 hq_t he_t rfl ?_
    refine rs_if_ne (tgt := 35) (pc := 28) dX9_add_28 rfl (fun c_28 => ?_) (fun c_28 => ?_)
    · refine rs_aload_n (pc := 35) dX9_add_35 rfl ?_
      refine rs_getf (pc := 36) dX9_add_36 fX9_20 hq_t he_t rfl ?_
      refine rs_lload_n (pc := 39) dX9_add_39 rfl ?_
      refine rs_callS (as := [_, _]) (pc := 40) dX9_add_40 mk_J9_max_f86c9 mlX9_29 st_J9_max_f86c9 rfl rfl (Nat.le_of_ble_eq_true rfl) (c_maxL) ?_
      refine wk_putf (fs' := [_, _, _, _]) (pc := 43) dX9_add_43 fX9_20 hq_t he_t rfl (Nat.le_of_ble_eq_true rfl) rfl (fun h_9 m_9 s_9 g_9 o_9 e_9 => ?_)
      have hq_t' : t < h_9.1 := by rw [m_9]; exact hq_t
      replace he_t := g_9
      replace hq_t := hq_t'
      have M_9 : h_9.1 = h.1 := m_9.trans M_8
      have S_9 : h_9.2.1 = h.2.1 := s_9.trans S_8
      have O_9 : ∀ j, j ≠ t → h_9.2.2 j = h.2.2 j := fun j z0 => (o_9 j z0).trans (O_8 j z0)
      refine rs_aload_n (pc := 46) dX9_add_46 rfl ?_
      refine rs_dup (pc := 47) dX9_add_47 rfl ?_
      refine rs_getf (pc := 48) dX9_add_48 fX9_13 hq_t he_t rfl ?_
      refine rs_lload_n (pc := 51) dX9_add_51 rfl ?_
      refine rs_ladd (pc := 52) dX9_add_52 ?_
      refine wk_putf (fs' := [_, _, _, _]) (pc := 53) dX9_add_53 fX9_13 hq_t he_t rfl (Nat.le_of_ble_eq_true rfl) rfl (fun h_10 m_10 s_10 g_10 o_10 e_10 => ?_)
      have hq_t' : t < h_10.1 := by rw [m_10]; exact hq_t
      replace he_t := g_10
      replace hq_t := hq_t'
      have M_10 : h_10.1 = h.1 := m_10.trans M_9
      have S_10 : h_10.2.1 = h.2.1 := s_10.trans S_9
      have O_10 : ∀ j, j ≠ t → h_10.2.2 j = h.2.2 j := fun j z0 => (o_10 j z0).trans (O_9 j z0)
      refine rs_aload_n (pc := 56) dX9_add_56 rfl ?_
      refine rs_dup (pc := 57) dX9_add_57 rfl ?_
      refine rs_getf (pc := 58) dX9_add_58 fX9_7 hq_t he_t rfl ?_
      refine rs_iconst (v := 1) (pc := 61) dX9_add_61 rfl ?_
      refine rs_iadd (pc := 62) dX9_add_62 ?_
      refine wk_putf (fs' := [_, _, _, _]) (pc := 63) dX9_add_63 fX9_7 hq_t he_t rfl (Nat.le_of_ble_eq_true rfl) rfl (fun h_11 m_11 s_11 g_11 o_11 e_11 => ?_)
      have hq_t' : t < h_11.1 := by rw [m_11]; exact hq_t
      replace he_t := g_11
      replace hq_t := hq_t'
      have M_11 : h_11.1 = h.1 := m_11.trans M_10
      have S_11 : h_11.2.1 = h.2.1 := s_11.trans S_10
      have O_11 : ∀ j, j ≠ t → h_11.2.2 j = h.2.2 j := fun j z0 => (o_11 j z0).trans (O_10 j z0)
      exact wk_vret (pc := 66) dX9_add_66 rfl (rfl) (ai_is1 M_11 S_11 (he_t.trans (by first | contradiction | simp [ty_lo, ty_hi, *])) O_11)
    · refine rs_lload_n (pc := 31) dX9_add_31 rfl ?_
      refine rs_goto (tgt := 43) (pc := 32) dX9_add_32 rfl ?_
      refine wk_putf (fs' := [_, _, _, _]) (pc := 43) dX9_add_43 fX9_20 hq_t he_t rfl (Nat.le_of_ble_eq_true rfl) rfl (fun h_12 m_12 s_12 g_12 o_12 e_12 => ?_)
      have hq_t' : t < h_12.1 := by rw [m_12]; exact hq_t
      replace he_t := g_12
      replace hq_t := hq_t'
      have M_12 : h_12.1 = h.1 := m_12.trans M_8
      have S_12 : h_12.2.1 = h.2.1 := s_12.trans S_8
      have O_12 : ∀ j, j ≠ t → h_12.2.2 j = h.2.2 j := fun j z0 => (o_12 j z0).trans (O_8 j z0)
      refine rs_aload_n (pc := 46) dX9_add_46 rfl ?_
      refine rs_dup (pc := 47) dX9_add_47 rfl ?_
      refine rs_getf (pc := 48) dX9_add_48 fX9_13 hq_t he_t rfl ?_
      refine rs_lload_n (pc := 51) dX9_add_51 rfl ?_
      refine rs_ladd (pc := 52) dX9_add_52 ?_
      refine wk_putf (fs' := [_, _, _, _]) (pc := 53) dX9_add_53 fX9_13 hq_t he_t rfl (Nat.le_of_ble_eq_true rfl) rfl (fun h_13 m_13 s_13 g_13 o_13 e_13 => ?_)
      have hq_t' : t < h_13.1 := by rw [m_13]; exact hq_t
      replace he_t := g_13
      replace hq_t := hq_t'
      have M_13 : h_13.1 = h.1 := m_13.trans M_12
      have S_13 : h_13.2.1 = h.2.1 := s_13.trans S_12
      have O_13 : ∀ j, j ≠ t → h_13.2.2 j = h.2.2 j := fun j z0 => (o_13 j z0).trans (O_12 j z0)
      refine rs_aload_n (pc := 56) dX9_add_56 rfl ?_
      refine rs_dup (pc := 57) dX9_add_57 rfl ?_
      refine rs_getf (pc := 58) dX9_add_58 fX9_7 hq_t he_t rfl ?_
      refine rs_iconst (v := 1) (pc := 61) dX9_add_61 rfl ?_
      refine rs_iadd (pc := 62) dX9_add_62 ?_
      refine wk_putf (fs' := [_, _, _, _]) (pc := 63) dX9_add_63 fX9_7 hq_t he_t rfl (Nat.le_of_ble_eq_true rfl) rfl (fun h_14 m_14 s_14 g_14 o_14 e_14 => ?_)
      have hq_t' : t < h_14.1 := by rw [m_14]; exact hq_t
      replace he_t := g_14
      replace hq_t := hq_t'
      have M_14 : h_14.1 = h.1 := m_14.trans M_13
      have S_14 : h_14.2.1 = h.2.1 := s_14.trans S_13
      have O_14 : ∀ j, j ≠ t → h_14.2.2 j = h.2.2 j := fun j z0 => (o_14 j z0).trans (O_13 j z0)
      exact wk_vret (pc := 66) dX9_add_66 rfl (rfl) (ai_is1 M_14 S_14 (he_t.trans (by first | contradiction | simp [ty_lo, ty_hi, *])) O_14)
