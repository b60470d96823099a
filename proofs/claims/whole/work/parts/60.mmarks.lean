/-! 60: mark, back of the model (walks laid by wip/whole/p60.py) -/
/-- a row is carried into the marks, from place m on -/
def cro (S : Md) (k m i : Nat) (W : Md) : Prop := W.1 71 = nI (m + i) ∧ (∀ j, j ≠ 71 → W.1 j = S.1 j) ∧ W.2.1 = S.2.1 ∧ W.2.2.2 = S.2.2.2 ∧ (∀ j, j ≠ 68 → W.2.2.1 j = S.2.2.1 j) ∧ ∀ t, W.2.2.1 68 t = if m ≤ t ∧ t < m + i then S.2.2.1 k (t - m) else S.2.2.1 68 t
theorem cro_1 {S W : Md} {k m i : Nat} {x : Int32} (h : cro S k m i W) (hx : x = S.2.2.1 k i) : cro S k m (i + 1) (md_si (md_ai W 68 (upd (W.2.2.1 68) (m + i) x)) 71 (nI (m + i + 1))) := by
  obtain ⟨h1, h2, h3, h4, h5, h6⟩ := h
  refine ⟨rfl, fun j hj => ?_, h3, h4, fun j hj => ?_, fun t => ?_⟩
  · exact (pk_un hj).trans (h2 j hj)
  · show va_up W.2.2.1 68 _ j = _
    rw [show va_up W.2.2.1 68 (upd (W.2.2.1 68) (m + i) x) j = W.2.2.1 j from if_neg hj]
    exact h5 j hj
  · show upd (W.2.2.1 68) (m + i) x t = _
    by_cases e : t = m + i
    · subst e
      rw [show upd (W.2.2.1 68) (m + i) x (m + i) = x from if_pos rfl, if_pos ⟨by omega, by omega⟩, hx, Nat.add_sub_cancel_left]
    · rw [show upd (W.2.2.1 68) (m + i) x t = W.2.2.1 68 t from if_neg e, h6 t]
      by_cases c : m ≤ t ∧ t < m + i
      · rw [if_pos c, if_pos ⟨c.1, by omega⟩]
      · rw [if_neg c, if_neg (fun z => c ⟨z.1, by omega⟩)]
/-- a row is carried back from the marks -/
def cri (S : Md) (k m i : Nat) (W : Md) : Prop := W.1 71 = nI (m + i) ∧ (∀ j, j ≠ 71 → W.1 j = S.1 j) ∧ W.2.1 = S.2.1 ∧ W.2.2.2 = S.2.2.2 ∧ (∀ j, j ≠ k → W.2.2.1 j = S.2.2.1 j) ∧ ∀ t, t < i → W.2.2.1 k t = S.2.2.1 68 (m + t)
theorem cri_1 {S W : Md} {k m i : Nat} {x : Int32} (h : cri S k m i W) (hx : x = S.2.2.1 68 (m + i)) : cri S k m (i + 1) (md_si (md_ai W k (upd (W.2.2.1 k) i x)) 71 (nI (m + i + 1))) := by
  obtain ⟨h1, h2, h3, h4, h5, h6⟩ := h
  refine ⟨rfl, fun j hj => ?_, h3, h4, fun j hj => ?_, fun t ht => ?_⟩
  · exact (pk_un hj).trans (h2 j hj)
  · show va_up W.2.2.1 k _ j = _
    rw [show va_up W.2.2.1 k (upd (W.2.2.1 k) i x) j = W.2.2.1 j from if_neg hj]
    exact h5 j hj
  · show va_up W.2.2.1 k (upd (W.2.2.1 k) i x) k t = _
    rw [show va_up W.2.2.1 k (upd (W.2.2.1 k) i x) k = upd (W.2.2.1 k) i x from if_pos rfl]
    by_cases e : t = i
    · subst e; rw [show upd (W.2.2.1 k) t x t = x from if_pos rfl, hx]
    · rw [show upd (W.2.2.1 k) i x t = W.2.2.1 k t from if_neg e]; exact h6 t (by omega)
theorem md_si_1 (S : Md) (k : Nat) (v : Int32) : (md_si S k v).2 = S.2 := rfl
theorem md_ai_1 (S : Md) (k : Nat) (f : Nat → Int32) : (md_ai S k f).1 = S.1 := rfl
theorem dX12_carry_0 : decode cX12_carry 0 = .ok (.iconst 0, 1) := by decide +kernel
theorem dX12_carry_1 : decode cX12_carry 1 = .ok (.istore_n 2, 1) := by decide +kernel
theorem dX12_carry_2 : decode cX12_carry 2 = .ok (.iload_n 2, 1) := by decide +kernel
theorem dX12_carry_3 : decode cX12_carry 3 = .ok (.aload_n 1, 1) := by decide +kernel
theorem dX12_carry_4 : decode cX12_carry 4 = .ok (.arraylength, 1) := by decide +kernel
theorem dX12_carry_5 : decode cX12_carry 5 = .ok (.if_icmp .ge 53, 3) := by decide +kernel
theorem dX12_carry_8 : decode cX12_carry 8 = .ok (.aload_n 0, 1) := by decide +kernel
theorem dX12_carry_9 : decode cX12_carry 9 = .ok (.getfield 496, 3) := by decide +kernel
theorem dX12_carry_12 : decode cX12_carry 12 = .ok (.ifCond .eq 18, 3) := by decide +kernel
theorem dX12_carry_15 : decode cX12_carry 15 = .ok (.aload_n 1, 1) := by decide +kernel
theorem dX12_carry_16 : decode cX12_carry 16 = .ok (.iload_n 2, 1) := by decide +kernel
theorem dX12_carry_17 : decode cX12_carry 17 = .ok (.aload_n 0, 1) := by decide +kernel
theorem dX12_carry_18 : decode cX12_carry 18 = .ok (.getfield 166, 3) := by decide +kernel
theorem dX12_carry_21 : decode cX12_carry 21 = .ok (.aload_n 0, 1) := by decide +kernel
theorem dX12_carry_22 : decode cX12_carry 22 = .ok (.getfield 500, 3) := by decide +kernel
theorem dX12_carry_25 : decode cX12_carry 25 = .ok (.iaload, 1) := by decide +kernel
theorem dX12_carry_26 : decode cX12_carry 26 = .ok (.iastore, 1) := by decide +kernel
theorem dX12_carry_27 : decode cX12_carry 27 = .ok (.goto 15, 3) := by decide +kernel
theorem dX12_carry_30 : decode cX12_carry 30 = .ok (.aload_n 0, 1) := by decide +kernel
theorem dX12_carry_31 : decode cX12_carry 31 = .ok (.getfield 166, 3) := by decide +kernel
theorem dX12_carry_34 : decode cX12_carry 34 = .ok (.aload_n 0, 1) := by decide +kernel
theorem dX12_carry_35 : decode cX12_carry 35 = .ok (.getfield 500, 3) := by decide +kernel
theorem dX12_carry_38 : decode cX12_carry 38 = .ok (.aload_n 1, 1) := by decide +kernel
theorem dX12_carry_39 : decode cX12_carry 39 = .ok (.iload_n 2, 1) := by decide +kernel
theorem dX12_carry_40 : decode cX12_carry 40 = .ok (.iaload, 1) := by decide +kernel
theorem dX12_carry_41 : decode cX12_carry 41 = .ok (.iastore, 1) := by decide +kernel
theorem dX12_carry_42 : decode cX12_carry 42 = .ok (.aload_n 0, 1) := by decide +kernel
theorem dX12_carry_43 : decode cX12_carry 43 = .ok (.dup, 1) := by decide +kernel
theorem dX12_carry_44 : decode cX12_carry 44 = .ok (.getfield 500, 3) := by decide +kernel
theorem dX12_carry_47 : decode cX12_carry 47 = .ok (.iconst 1, 1) := by decide +kernel
theorem dX12_carry_48 : decode cX12_carry 48 = .ok (.iadd, 1) := by decide +kernel
theorem dX12_carry_49 : decode cX12_carry 49 = .ok (.putfield 500, 3) := by decide +kernel
theorem dX12_carry_52 : decode cX12_carry 52 = .ok (.iinc 2 1, 3) := by decide +kernel
theorem dX12_carry_55 : decode cX12_carry 55 = .ok (.goto (-53), 3) := by decide +kernel
theorem dX12_carry_58 : decode cX12_carry 58 = .ok (.return_, 1) := by decide +kernel
set_option maxRecDepth 100000 in
set_option maxHeartbeats 4000000 in
theorem lo_X12_carry {h : ai_H} {S : Md} {d k n m : Nat} (hq0 : md_tab[d]? = some (k, 0, n)) (hd : 308 + d ≤ 361) (hk : k ≠ 68) (hn : n ≤ 400) (hm : m + n ≤ 15600) (eb : S.1 72 = 0) : ∀ (j i : Nat) (W : Md) (g : ai_H), i ≤ n → n + 1 ≤ i + j → md_ext h g → md_at g W → cro S k m i W → ai_W MX12_carry 2 [.ref 307, .ref (308 + d), .int (nI i)] [] g (fun r g => r = none ∧ md_ext h g ∧ ∃ W, md_at g W ∧ cro S k m n W) := by
  intro j
  induction j with
  | zero => intro i W g h1 h2; exact absurd h2 (by omega)
  | succ j ih =>
    intro i W g hi0 him E0 hmd hv
    refine wq (fun _ _ kk => rs_iload_n (pc := 2) dX12_carry_2 rfl kk) ?_
    refine wq (fun _ _ kk => rs_aload_n (pc := 3) dX12_carry_3 rfl kk) ?_
    refine wq (fun _ _ kk => rs_alen (pc := 4) dX12_carry_4 (fun _ => rfl) (md_lt hmd hd) (md_geti (d := d) (k := k) (kd := 0) (n := n) hq0 (by decide) hmd) rfl kk) ?_
    refine wq_br (fun _ _ kt kf => rs_icmp_ge (tgt := 58) (pc := 5) dX12_carry_5 rfl kt kf) (fun c_5 => ?_) (fun c_5 => ?_)
    · have hie : n = i := by have z : nI n ≤ nI i := c_5; exact (lp_exit rfl (by omega) hi0 z).symm
      subst hie
      refine wq_ret ?_ (rs_vret (pc := 58) dX12_carry_58 rfl)
      exact ⟨rfl, E0, W, hmd, hv⟩
    · have hi : i < n := by have z : ¬ nI n ≤ nI i := c_5; exact lp_go rfl (by omega) z
      refine wq (fun _ _ kk => rs_aload_n (pc := 8) dX12_carry_8 rfl kk) ?_
      refine wq (fun _ _ kk => rs_getf (pc := 9) dX12_carry_9 fX12_496 (md_lt hmd (by decide)) hmd.2.1 rfl kk) ?_
      rw [hv.2.1 72 (by decide), eb]
      refine wq_br (fun _ _ kt kf => rs_if_eq (tgt := 30) (pc := 12) dX12_carry_12 rfl kt kf) (fun c_12 => ?_) (fun c_12 => absurd c_12 (fun z => z rfl))
      refine wq (fun _ _ kk => rs_aload_n (pc := 30) dX12_carry_30 rfl kk) ?_
      refine wq (fun _ _ kk => rs_getf (pc := 31) dX12_carry_31 fX12_166 (md_lt hmd (by decide)) hmd.2.1 rfl kk) ?_
      refine wq (fun _ _ kk => rs_aload_n (pc := 34) dX12_carry_34 rfl kk) ?_
      refine wq (fun _ _ kk => rs_getf (pc := 35) dX12_carry_35 fX12_500 (md_lt hmd (by decide)) hmd.2.1 rfl kk) ?_
      rw [hv.1]
      refine wq (fun _ _ kk => rs_aload_n (pc := 38) dX12_carry_38 rfl kk) ?_
      refine wq (fun _ _ kk => rs_iload_n (pc := 39) dX12_carry_39 rfl kk) ?_
      refine wq (fun _ _ kk => rs_iald (pc := 40) dX12_carry_40 (md_lt hmd hd) (md_geti (d := d) (k := k) (kd := 0) (n := n) hq0 (by decide) hmd) (vp_in_nI (n := i) (N := n) hi (by omega)) kk) ?_
      rw [nI_clamp (show i < 2 ^ 31 by omega), hv.2.2.2.2.1 k hk]
      refine wq (fun _ _ kk => rs_iast (pc := 41) dX12_carry_41 (md_lt hmd (by decide)) (md_geti (d := 51) (k := 68) (kd := 0) (n := 15600) rfl (by decide) hmd) (vp_in_nI (n := m + i) (N := 15600) (by omega) (by decide)) kk) ?_
      refine wq_gen (fun h_1 e_1 => ?_)
      obtain ⟨m_1, s_1, g_1, o_1⟩ := ai_e1 e_1
      replace hmd := md_at_ai (d := 51) rfl (by decide) hmd m_1 g_1 o_1
      have E_1 := (E0).trans (md_ext_of m_1 s_1 o_1 (by decide))
      refine wq (fun _ _ kk => rs_aload_n (pc := 42) dX12_carry_42 rfl kk) ?_
      refine wq (fun _ _ kk => rs_dup (pc := 43) dX12_carry_43 rfl kk) ?_
      refine wq (fun _ _ kk => rs_getf (pc := 44) dX12_carry_44 fX12_500 (md_lt hmd (by decide)) hmd.2.1 rfl kk) ?_
      rw [md_ai_1, hv.1]
      refine wq (fun _ _ kk => rs_iconst (v := 1) (pc := 47) dX12_carry_47 rfl kk) ?_
      refine wq (fun _ _ kk => rs_iadd (pc := 48) dX12_carry_48 kk) ?_
      rw [nI_1]
      refine wq (fun _ _ kk => rs_putf (pc := 49) dX12_carry_49 fX12_500 (md_lt hmd (by decide)) hmd.2.1 rfl (Nat.le_of_ble_eq_true rfl) kk) ?_
      refine wq_gen (fun h_2 e_2 => ?_)
      obtain ⟨m_2, s_2, g_2, o_2⟩ := ai_e1 e_2
      replace hmd := md_at_si (k := 71) hmd m_2 g_2 o_2 rfl
      have E_2 := (E_1).trans (md_ext_of m_2 s_2 o_2 (by decide))
      refine wq (fun _ _ kk => wk_iinc2 (v := nI (i + 1)) (pc := 52) dX12_carry_52 (by decide) rfl (nI_1 i) kk) ?_
      refine wq (fun _ _ kk => rs_goto (tgt := 2) (pc := 55) dX12_carry_55 rfl kk) ?_
      rw [nI_clamp (show m + i < 2 ^ 31 by omega)] at hmd
      exact ih (i + 1) _ _ (by omega) (by omega) (E_2) hmd (cro_1 hv rfl)
set_option maxRecDepth 100000 in
set_option maxHeartbeats 4000000 in
theorem li_X12_carry {h : ai_H} {S : Md} {d k n m : Nat} (hq0 : md_tab[d]? = some (k, 0, n)) (hd : 308 + d ≤ 361) (hk : k ≠ 68) (hn : n ≤ 400) (hm : m + n ≤ 15600) (eb : S.1 72 = 1) : ∀ (j i : Nat) (W : Md) (g : ai_H), i ≤ n → n + 1 ≤ i + j → md_ext h g → md_at g W → cri S k m i W → ai_W MX12_carry 2 [.ref 307, .ref (308 + d), .int (nI i)] [] g (fun r g => r = none ∧ md_ext h g ∧ ∃ W, md_at g W ∧ cri S k m n W) := by
  intro j
  induction j with
  | zero => intro i W g h1 h2; exact absurd h2 (by omega)
  | succ j ih =>
    intro i W g hi0 him E0 hmd hv
    refine wq (fun _ _ kk => rs_iload_n (pc := 2) dX12_carry_2 rfl kk) ?_
    refine wq (fun _ _ kk => rs_aload_n (pc := 3) dX12_carry_3 rfl kk) ?_
    refine wq (fun _ _ kk => rs_alen (pc := 4) dX12_carry_4 (fun _ => rfl) (md_lt hmd hd) (md_geti (d := d) (k := k) (kd := 0) (n := n) hq0 (by decide) hmd) rfl kk) ?_
    refine wq_br (fun _ _ kt kf => rs_icmp_ge (tgt := 58) (pc := 5) dX12_carry_5 rfl kt kf) (fun c_5 => ?_) (fun c_5 => ?_)
    · have hie : n = i := by have z : nI n ≤ nI i := c_5; exact (lp_exit rfl (by omega) hi0 z).symm
      subst hie
      refine wq_ret ?_ (rs_vret (pc := 58) dX12_carry_58 rfl)
      exact ⟨rfl, E0, W, hmd, hv⟩
    · have hi : i < n := by have z : ¬ nI n ≤ nI i := c_5; exact lp_go rfl (by omega) z
      refine wq (fun _ _ kk => rs_aload_n (pc := 8) dX12_carry_8 rfl kk) ?_
      refine wq (fun _ _ kk => rs_getf (pc := 9) dX12_carry_9 fX12_496 (md_lt hmd (by decide)) hmd.2.1 rfl kk) ?_
      rw [hv.2.1 72 (by decide), eb]
      refine wq_br (fun _ _ kt kf => rs_if_eq (tgt := 30) (pc := 12) dX12_carry_12 rfl kt kf) (fun c_12 => absurd c_12 (by decide)) (fun c_12 => ?_)
      refine wq (fun _ _ kk => rs_aload_n (pc := 15) dX12_carry_15 rfl kk) ?_
      refine wq (fun _ _ kk => rs_iload_n (pc := 16) dX12_carry_16 rfl kk) ?_
      refine wq (fun _ _ kk => rs_aload_n (pc := 17) dX12_carry_17 rfl kk) ?_
      refine wq (fun _ _ kk => rs_getf (pc := 18) dX12_carry_18 fX12_166 (md_lt hmd (by decide)) hmd.2.1 rfl kk) ?_
      refine wq (fun _ _ kk => rs_aload_n (pc := 21) dX12_carry_21 rfl kk) ?_
      refine wq (fun _ _ kk => rs_getf (pc := 22) dX12_carry_22 fX12_500 (md_lt hmd (by decide)) hmd.2.1 rfl kk) ?_
      rw [hv.1]
      refine wq (fun _ _ kk => rs_iald (pc := 25) dX12_carry_25 (md_lt hmd (by decide)) (md_geti (d := 51) (k := 68) (kd := 0) (n := 15600) rfl (by decide) hmd) (vp_in_nI (n := m + i) (N := 15600) (by omega) (by decide)) kk) ?_
      rw [nI_clamp (show m + i < 2 ^ 31 by omega), hv.2.2.2.2.1 68 (Ne.symm hk)]
      refine wq (fun _ _ kk => rs_iast (pc := 26) dX12_carry_26 (md_lt hmd hd) (md_geti (d := d) (k := k) (kd := 0) (n := n) hq0 (by decide) hmd) (vp_in_nI (n := i) (N := n) hi (by omega)) kk) ?_
      refine wq_gen (fun h_1 e_1 => ?_)
      obtain ⟨m_1, s_1, g_1, o_1⟩ := ai_e1 e_1
      replace hmd := md_at_ai (d := d) hq0 (by decide) hmd m_1 g_1 o_1
      have E_1 := (E0).trans (md_ext_of m_1 s_1 o_1 (by omega))
      refine wq (fun _ _ kk => rs_goto (tgt := 42) (pc := 27) dX12_carry_27 rfl kk) ?_
      refine wq (fun _ _ kk => rs_aload_n (pc := 42) dX12_carry_42 rfl kk) ?_
      refine wq (fun _ _ kk => rs_dup (pc := 43) dX12_carry_43 rfl kk) ?_
      refine wq (fun _ _ kk => rs_getf (pc := 44) dX12_carry_44 fX12_500 (md_lt hmd (by decide)) hmd.2.1 rfl kk) ?_
      rw [md_ai_1, hv.1]
      refine wq (fun _ _ kk => rs_iconst (v := 1) (pc := 47) dX12_carry_47 rfl kk) ?_
      refine wq (fun _ _ kk => rs_iadd (pc := 48) dX12_carry_48 kk) ?_
      rw [nI_1]
      refine wq (fun _ _ kk => rs_putf (pc := 49) dX12_carry_49 fX12_500 (md_lt hmd (by decide)) hmd.2.1 rfl (Nat.le_of_ble_eq_true rfl) kk) ?_
      refine wq_gen (fun h_2 e_2 => ?_)
      obtain ⟨m_2, s_2, g_2, o_2⟩ := ai_e1 e_2
      replace hmd := md_at_si (k := 71) hmd m_2 g_2 o_2 rfl
      have E_2 := (E_1).trans (md_ext_of m_2 s_2 o_2 (by decide))
      refine wq (fun _ _ kk => wk_iinc2 (v := nI (i + 1)) (pc := 52) dX12_carry_52 (by decide) rfl (nI_1 i) kk) ?_
      refine wq (fun _ _ kk => rs_goto (tgt := 2) (pc := 55) dX12_carry_55 rfl kk) ?_
      rw [nI_clamp (show i < 2 ^ 31 by omega)] at hmd
      exact ih (i + 1) _ _ (by omega) (by omega) (E_2) hmd (cri_1 hv rfl)
set_option maxRecDepth 100000 in
set_option maxHeartbeats 4000000 in
theorem co_X12_carry {h : ai_H} {S : Md} {d k n m : Nat} (hq0 : md_tab[d]? = some (k, 0, n)) (hd : 308 + d ≤ 361) (hk : k ≠ 68) (hn : n ≤ 400) (hm : m + n ≤ 15600) (eb : S.1 72 = 0) (em : S.1 71 = nI m) (hmd : md_at h S) : ai_QM MX12_carry [.ref 307, .ref (308 + d)] h (fun r g => r = none ∧ md_ext h g ∧ ∃ W, md_at g W ∧ cro S k m n W) := by
  refine qm_of (ls := [.ref 307, .ref (308 + d), .float 0]) (by decide) (by simp [ai_en, Value.category]) (by rfl) ?_
  refine wq (fun _ _ kk => rs_iconst (v := 0) (pc := 0) dX12_carry_0 rfl kk) ?_
  refine wq (fun _ _ kk => wk_istn2 (pc := 1) dX12_carry_1 (by decide) rfl kk) ?_
  exact lo_X12_carry (h := h) (S := S) hq0 hd hk hn hm eb (n + 1) 0 S h (by omega) (by omega) md_ext.rf hmd ⟨em, fun _ _ => rfl, rfl, rfl, fun _ _ => rfl, (fun t => by rw [if_neg (fun z => by omega)])⟩
set_option maxRecDepth 100000 in
set_option maxHeartbeats 4000000 in
theorem ci_X12_carry {h : ai_H} {S : Md} {d k n m : Nat} (hq0 : md_tab[d]? = some (k, 0, n)) (hd : 308 + d ≤ 361) (hk : k ≠ 68) (hn : n ≤ 400) (hm : m + n ≤ 15600) (eb : S.1 72 = 1) (em : S.1 71 = nI m) (hmd : md_at h S) : ai_QM MX12_carry [.ref 307, .ref (308 + d)] h (fun r g => r = none ∧ md_ext h g ∧ ∃ W, md_at g W ∧ cri S k m n W) := by
  refine qm_of (ls := [.ref 307, .ref (308 + d), .float 0]) (by decide) (by simp [ai_en, Value.category]) (by rfl) ?_
  refine wq (fun _ _ kk => rs_iconst (v := 0) (pc := 0) dX12_carry_0 rfl kk) ?_
  refine wq (fun _ _ kk => wk_istn2 (pc := 1) dX12_carry_1 (by decide) rfl kk) ?_
  exact li_X12_carry (h := h) (S := S) hq0 hd hk hn hm eb (n + 1) 0 S h (by omega) (by omega) md_ext.rf hmd ⟨em, fun _ _ => rfl, rfl, rfl, fun _ _ => rfl, (fun t ht => absurd ht (Nat.not_lt_zero t))⟩
def mkl : List (Nat × Nat × Nat) := [(69, 0, 6), (6, 6, 16), (7, 22, 16), (8, 38, 24), (9, 62, 24), (10, 86, 24), (11, 110, 80), (12, 190, 80), (13, 270, 400), (14, 670, 400), (15, 1070, 400), (16, 1470, 400), (17, 1870, 400), (18, 2270, 400), (19, 2670, 400), (20, 3070, 400), (21, 3470, 400), (61, 3870, 9), (62, 3879, 9), (63, 3888, 9)]
/-- these rows stand in the marks of r, up to place m -/
def mko (S : Md) (r m : Nat) (L : List (Nat × Nat × Nat)) (W : Md) : Prop := W.1 71 = nI (3900 * r + m) ∧ (∀ j, j ≠ 71 → W.1 j = S.1 j) ∧ W.2.1 = S.2.1 ∧ W.2.2.2 = S.2.2.2 ∧ (∀ j, j ≠ 68 → W.2.2.1 j = S.2.2.1 j) ∧ (∀ t, (t < 3900 * r ∨ 3900 * r + m ≤ t) → W.2.2.1 68 t = S.2.2.1 68 t) ∧ ∀ e, e ∈ L → e.2.1 + e.2.2 ≤ m ∧ ∀ i, i < e.2.2 → W.2.2.1 68 (3900 * r + (e.2.1 + i)) = S.2.2.1 e.1 i
theorem mko_1 {S V W : Md} {r m k n : Nat} {L : List (Nat × Nat × Nat)} (h : mko S r m L V) (c : cro V k (3900 * r + m) n W) (hk : k ≠ 68) : mko S r (m + n) ((k, m, n) :: L) W := by
  obtain ⟨h1, h2, h3, h4, h5, h6, h7⟩ := h
  obtain ⟨c1, c2, c3, c4, c5, c6⟩ := c
  refine ⟨by rw [c1, Nat.add_assoc], fun j hj => (c2 j hj).trans (h2 j hj), c3.trans h3, c4.trans h4, fun j hj => (c5 j hj).trans (h5 j hj), fun t ht => ?_, fun e he => ?_⟩
  · rw [c6 t, if_neg (fun z => by omega)]
    exact h6 t (by omega)
  · rcases List.mem_cons.1 he with rfl | he
    · refine ⟨Nat.le_refl _, fun i hi => ?_⟩
      have hi : i < n := hi
      show W.2.2.1 68 (3900 * r + (m + i)) = S.2.2.1 k i
      rw [c6, if_pos ⟨by omega, by omega⟩, show 3900 * r + (m + i) - (3900 * r + m) = i by omega, h5 k hk]
    · obtain ⟨e1, e2⟩ := h7 e he
      refine ⟨by omega, fun i hi => ?_⟩
      rw [c6, if_neg (fun z => by omega)]
      exact e2 i hi
/-- these rows are taken back out of the marks of r -/
def mki (S : Md) (r m : Nat) (L : List (Nat × Nat × Nat)) (W : Md) : Prop := W.1 71 = nI (3900 * r + m) ∧ (∀ j, j ≠ 71 → W.1 j = S.1 j) ∧ W.2.1 = S.2.1 ∧ W.2.2.2 = S.2.2.2 ∧ (∀ j, (∀ e, e ∈ L → e.1 ≠ j) → W.2.2.1 j = S.2.2.1 j) ∧ ∀ e, e ∈ L → ∀ i, i < e.2.2 → W.2.2.1 e.1 i = S.2.2.1 68 (3900 * r + (e.2.1 + i))
theorem mki_1 {S V W : Md} {r m k n : Nat} {L : List (Nat × Nat × Nat)} (h : mki S r m L V) (c : cri V k (3900 * r + m) n W) (hL : ∀ e, e ∈ L → e.1 ≠ k ∧ e.1 ≠ 68) : mki S r (m + n) ((k, m, n) :: L) W := by
  obtain ⟨h1, h2, h3, h4, h5, h6⟩ := h
  obtain ⟨c1, c2, c3, c4, c5, c6⟩ := c
  refine ⟨by rw [c1, Nat.add_assoc], fun j hj => (c2 j hj).trans (h2 j hj), c3.trans h3, c4.trans h4, fun j hj => ?_, fun e he => ?_⟩
  · rw [c5 j (Ne.symm (hj (k, m, n) List.mem_cons_self))]
    exact h5 j (fun e he => hj e (List.mem_cons_of_mem _ he))
  · rcases List.mem_cons.1 he with rfl | he
    · intro i hi
      show W.2.2.1 k i = _
      rw [c6 i hi, h5 68 (fun e he => (hL e he).2), Nat.add_assoc]
    · intro i hi
      rw [c5 e.1 (hL e he).1]
      exact h6 e he i hi
theorem dX12_carries_0 : decode cX12_carries 0 = .ok (.aload_n 0, 1) := by decide +kernel
theorem dX12_carries_1 : decode cX12_carries 1 = .ok (.sipush 3900, 3) := by decide +kernel
theorem dX12_carries_4 : decode cX12_carries 4 = .ok (.iload_n 1, 1) := by decide +kernel
theorem dX12_carries_5 : decode cX12_carries 5 = .ok (.imul, 1) := by decide +kernel
theorem dX12_carries_6 : decode cX12_carries 6 = .ok (.putfield 500, 3) := by decide +kernel
theorem dX12_carries_9 : decode cX12_carries 9 = .ok (.aload_n 0, 1) := by decide +kernel
theorem dX12_carries_10 : decode cX12_carries 10 = .ok (.aload_n 0, 1) := by decide +kernel
theorem dX12_carries_11 : decode cX12_carries 11 = .ok (.getfield 169, 3) := by decide +kernel
theorem dX12_carries_14 : decode cX12_carries 14 = .ok (.invokevirtual 503, 3) := by decide +kernel
theorem dX12_carries_17 : decode cX12_carries 17 = .ok (.aload_n 0, 1) := by decide +kernel
theorem dX12_carries_18 : decode cX12_carries 18 = .ok (.aload_n 0, 1) := by decide +kernel
theorem dX12_carries_19 : decode cX12_carries 19 = .ok (.getfield 9, 3) := by decide +kernel
theorem dX12_carries_22 : decode cX12_carries 22 = .ok (.invokevirtual 503, 3) := by decide +kernel
theorem dX12_carries_25 : decode cX12_carries 25 = .ok (.aload_n 0, 1) := by decide +kernel
theorem dX12_carries_26 : decode cX12_carries 26 = .ok (.aload_n 0, 1) := by decide +kernel
theorem dX12_carries_27 : decode cX12_carries 27 = .ok (.getfield 13, 3) := by decide +kernel
theorem dX12_carries_30 : decode cX12_carries 30 = .ok (.invokevirtual 503, 3) := by decide +kernel
theorem dX12_carries_33 : decode cX12_carries 33 = .ok (.aload_n 0, 1) := by decide +kernel
theorem dX12_carries_34 : decode cX12_carries 34 = .ok (.aload_n 0, 1) := by decide +kernel
theorem dX12_carries_35 : decode cX12_carries 35 = .ok (.getfield 16, 3) := by decide +kernel
theorem dX12_carries_38 : decode cX12_carries 38 = .ok (.invokevirtual 503, 3) := by decide +kernel
theorem dX12_carries_41 : decode cX12_carries 41 = .ok (.aload_n 0, 1) := by decide +kernel
theorem dX12_carries_42 : decode cX12_carries 42 = .ok (.aload_n 0, 1) := by decide +kernel
theorem dX12_carries_43 : decode cX12_carries 43 = .ok (.getfield 19, 3) := by decide +kernel
theorem dX12_carries_46 : decode cX12_carries 46 = .ok (.invokevirtual 503, 3) := by decide +kernel
theorem dX12_carries_49 : decode cX12_carries 49 = .ok (.aload_n 0, 1) := by decide +kernel
theorem dX12_carries_50 : decode cX12_carries 50 = .ok (.aload_n 0, 1) := by decide +kernel
theorem dX12_carries_51 : decode cX12_carries 51 = .ok (.getfield 22, 3) := by decide +kernel
theorem dX12_carries_54 : decode cX12_carries 54 = .ok (.invokevirtual 503, 3) := by decide +kernel
theorem dX12_carries_57 : decode cX12_carries 57 = .ok (.aload_n 0, 1) := by decide +kernel
theorem dX12_carries_58 : decode cX12_carries 58 = .ok (.aload_n 0, 1) := by decide +kernel
theorem dX12_carries_59 : decode cX12_carries 59 = .ok (.getfield 25, 3) := by decide +kernel
theorem dX12_carries_62 : decode cX12_carries 62 = .ok (.invokevirtual 503, 3) := by decide +kernel
theorem dX12_carries_65 : decode cX12_carries 65 = .ok (.aload_n 0, 1) := by decide +kernel
theorem dX12_carries_66 : decode cX12_carries 66 = .ok (.aload_n 0, 1) := by decide +kernel
theorem dX12_carries_67 : decode cX12_carries 67 = .ok (.getfield 28, 3) := by decide +kernel
theorem dX12_carries_70 : decode cX12_carries 70 = .ok (.invokevirtual 503, 3) := by decide +kernel
theorem dX12_carries_73 : decode cX12_carries 73 = .ok (.aload_n 0, 1) := by decide +kernel
theorem dX12_carries_74 : decode cX12_carries 74 = .ok (.aload_n 0, 1) := by decide +kernel
theorem dX12_carries_75 : decode cX12_carries 75 = .ok (.getfield 31, 3) := by decide +kernel
theorem dX12_carries_78 : decode cX12_carries 78 = .ok (.invokevirtual 503, 3) := by decide +kernel
theorem dX12_carries_81 : decode cX12_carries 81 = .ok (.aload_n 0, 1) := by decide +kernel
theorem dX12_carries_82 : decode cX12_carries 82 = .ok (.aload_n 0, 1) := by decide +kernel
theorem dX12_carries_83 : decode cX12_carries 83 = .ok (.getfield 34, 3) := by decide +kernel
theorem dX12_carries_86 : decode cX12_carries 86 = .ok (.invokevirtual 503, 3) := by decide +kernel
theorem dX12_carries_89 : decode cX12_carries 89 = .ok (.aload_n 0, 1) := by decide +kernel
theorem dX12_carries_90 : decode cX12_carries 90 = .ok (.aload_n 0, 1) := by decide +kernel
theorem dX12_carries_91 : decode cX12_carries 91 = .ok (.getfield 37, 3) := by decide +kernel
theorem dX12_carries_94 : decode cX12_carries 94 = .ok (.invokevirtual 503, 3) := by decide +kernel
theorem dX12_carries_97 : decode cX12_carries 97 = .ok (.aload_n 0, 1) := by decide +kernel
theorem dX12_carries_98 : decode cX12_carries 98 = .ok (.aload_n 0, 1) := by decide +kernel
theorem dX12_carries_99 : decode cX12_carries 99 = .ok (.getfield 40, 3) := by decide +kernel
theorem dX12_carries_102 : decode cX12_carries 102 = .ok (.invokevirtual 503, 3) := by decide +kernel
theorem dX12_carries_105 : decode cX12_carries 105 = .ok (.aload_n 0, 1) := by decide +kernel
theorem dX12_carries_106 : decode cX12_carries 106 = .ok (.aload_n 0, 1) := by decide +kernel
theorem dX12_carries_107 : decode cX12_carries 107 = .ok (.getfield 43, 3) := by decide +kernel
theorem dX12_carries_110 : decode cX12_carries 110 = .ok (.invokevirtual 503, 3) := by decide +kernel
theorem dX12_carries_113 : decode cX12_carries 113 = .ok (.aload_n 0, 1) := by decide +kernel
theorem dX12_carries_114 : decode cX12_carries 114 = .ok (.aload_n 0, 1) := by decide +kernel
theorem dX12_carries_115 : decode cX12_carries 115 = .ok (.getfield 46, 3) := by decide +kernel
theorem dX12_carries_118 : decode cX12_carries 118 = .ok (.invokevirtual 503, 3) := by decide +kernel
theorem dX12_carries_121 : decode cX12_carries 121 = .ok (.aload_n 0, 1) := by decide +kernel
theorem dX12_carries_122 : decode cX12_carries 122 = .ok (.aload_n 0, 1) := by decide +kernel
theorem dX12_carries_123 : decode cX12_carries 123 = .ok (.getfield 49, 3) := by decide +kernel
theorem dX12_carries_126 : decode cX12_carries 126 = .ok (.invokevirtual 503, 3) := by decide +kernel
theorem dX12_carries_129 : decode cX12_carries 129 = .ok (.aload_n 0, 1) := by decide +kernel
theorem dX12_carries_130 : decode cX12_carries 130 = .ok (.aload_n 0, 1) := by decide +kernel
theorem dX12_carries_131 : decode cX12_carries 131 = .ok (.getfield 52, 3) := by decide +kernel
theorem dX12_carries_134 : decode cX12_carries 134 = .ok (.invokevirtual 503, 3) := by decide +kernel
theorem dX12_carries_137 : decode cX12_carries 137 = .ok (.aload_n 0, 1) := by decide +kernel
theorem dX12_carries_138 : decode cX12_carries 138 = .ok (.aload_n 0, 1) := by decide +kernel
theorem dX12_carries_139 : decode cX12_carries 139 = .ok (.getfield 55, 3) := by decide +kernel
theorem dX12_carries_142 : decode cX12_carries 142 = .ok (.invokevirtual 503, 3) := by decide +kernel
theorem dX12_carries_145 : decode cX12_carries 145 = .ok (.aload_n 0, 1) := by decide +kernel
theorem dX12_carries_146 : decode cX12_carries 146 = .ok (.aload_n 0, 1) := by decide +kernel
theorem dX12_carries_147 : decode cX12_carries 147 = .ok (.getfield 147, 3) := by decide +kernel
theorem dX12_carries_150 : decode cX12_carries 150 = .ok (.invokevirtual 503, 3) := by decide +kernel
theorem dX12_carries_153 : decode cX12_carries 153 = .ok (.aload_n 0, 1) := by decide +kernel
theorem dX12_carries_154 : decode cX12_carries 154 = .ok (.aload_n 0, 1) := by decide +kernel
theorem dX12_carries_155 : decode cX12_carries 155 = .ok (.getfield 150, 3) := by decide +kernel
theorem dX12_carries_158 : decode cX12_carries 158 = .ok (.invokevirtual 503, 3) := by decide +kernel
theorem dX12_carries_161 : decode cX12_carries 161 = .ok (.aload_n 0, 1) := by decide +kernel
theorem dX12_carries_162 : decode cX12_carries 162 = .ok (.aload_n 0, 1) := by decide +kernel
theorem dX12_carries_163 : decode cX12_carries 163 = .ok (.getfield 153, 3) := by decide +kernel
theorem dX12_carries_166 : decode cX12_carries 166 = .ok (.invokevirtual 503, 3) := by decide +kernel
theorem dX12_carries_169 : decode cX12_carries 169 = .ok (.return_, 1) := by decide +kernel
set_option maxRecDepth 100000 in
set_option maxHeartbeats 4000000 in
theorem co_X12_carries {h : ai_H} {S : Md} {r : Nat} (hr : r < 4) (eb : S.1 72 = 0) (hmd : md_at h S) : ai_QM MX12_carries [.ref 307, .int (nI r)] h (fun rr g => rr = none ∧ md_ext h g ∧ ∃ W, md_at g W ∧ mko S r 3897 [(63, 3888, 9), (62, 3879, 9), (61, 3870, 9), (21, 3470, 400), (20, 3070, 400), (19, 2670, 400), (18, 2270, 400), (17, 1870, 400), (16, 1470, 400), (15, 1070, 400), (14, 670, 400), (13, 270, 400), (12, 190, 80), (11, 110, 80), (10, 86, 24), (9, 62, 24), (8, 38, 24), (7, 22, 16), (6, 6, 16), (69, 0, 6)] W) := by
  refine qm_of (ls := [.ref 307, .int (nI r)]) (by decide) (by simp [ai_en, Value.category]) (by rfl) ?_
  refine wq (fun _ _ kk => rs_aload_n (pc := 0) dX12_carries_0 rfl kk) ?_
  refine wq (fun _ _ kk => rs_sipush (v := 3900) (pc := 1) dX12_carries_1 rfl kk) ?_
  refine wq (fun _ _ kk => rs_iload_n (pc := 4) dX12_carries_4 rfl kk) ?_
  refine wq (fun _ _ kk => rs_imul (pc := 5) dX12_carries_5 kk) ?_
  rw [show (3900 : Int32) * nI r = nI (3900 * r) from pk_mul 3900 r]
  refine wq (fun _ _ kk => rs_putf (pc := 6) dX12_carries_6 fX12_500 (md_lt hmd (by decide)) hmd.2.1 rfl (Nat.le_of_ble_eq_true rfl) kk) ?_
  refine wq_gen (fun h_1 e_1 => ?_)
  obtain ⟨m_1, s_1, g_1, o_1⟩ := ai_e1 e_1
  replace hmd := md_at_si (k := 71) hmd m_1 g_1 o_1 rfl
  have E_1 := (md_ext.rf).trans (md_ext_of m_1 s_1 o_1 (by decide))
  refine wq (fun _ _ kk => rs_aload_n (pc := 9) dX12_carries_9 rfl kk) ?_
  refine wq (fun _ _ kk => rs_aload_n (pc := 10) dX12_carries_10 rfl kk) ?_
  refine wq (fun _ _ kk => rs_getf (pc := 11) dX12_carries_11 fX12_169 (md_lt hmd (by decide)) hmd.2.1 rfl kk) ?_
  obtain ⟨W0, eW0⟩ : ∃ W0, W0 = md_si S 71 (nI (3900 * r)) := ⟨_, rfl⟩
  rw [← eW0] at hmd
  have hV0 : mko S r 0 [] W0 := by rw [eW0]; exact ⟨rfl, fun j hj => pk_un hj, rfl, rfl, fun _ _ => rfl, fun _ _ => rfl, fun e he => absurd he (by simp)⟩
  obtain ⟨rv_14, hc_14, ⟨rfl, ee_14, W1, hmd_14, hc0⟩, hm_14⟩ := co_X12_carry (d := 52) (k := 69) (n := 6) (m := 3900 * r + 0) rfl (by decide) (by decide) (by decide) (by omega) (by rw [hV0.2.1 72 (by decide)]; exact eb) hV0.1 hmd
  refine wq (fun _ _ kk => rs_callV (as := [_]) (pc := 14) dX12_carries_14 mk_X12_carry mlX12_503 in_X12_carry se_X12_carry rfl (md_lt hmd (by decide)) hmd.2.1 rfl rfl (Nat.le_of_ble_eq_true rfl) (hm_14) kk) ?_
  replace hmd := hmd_14
  have E_14 := (E_1).trans ee_14
  have hV1 : mko S r 6 _ W1 := mko_1 hV0 hc0 (by decide)
  refine wq (fun _ _ kk => rs_aload_n (pc := 17) dX12_carries_17 rfl kk) ?_
  refine wq (fun _ _ kk => rs_aload_n (pc := 18) dX12_carries_18 rfl kk) ?_
  refine wq (fun _ _ kk => rs_getf (pc := 19) dX12_carries_19 fX12_9 (md_lt hmd (by decide)) hmd.2.1 rfl kk) ?_
  obtain ⟨rv_22, hc_22, ⟨rfl, ee_22, W2, hmd_22, hc1⟩, hm_22⟩ := co_X12_carry (d := 0) (k := 6) (n := 16) (m := 3900 * r + 6) rfl (by decide) (by decide) (by decide) (by omega) (by rw [hV1.2.1 72 (by decide)]; exact eb) hV1.1 hmd
  refine wq (fun _ _ kk => rs_callV (as := [_]) (pc := 22) dX12_carries_22 mk_X12_carry mlX12_503 in_X12_carry se_X12_carry rfl (md_lt hmd (by decide)) hmd.2.1 rfl rfl (Nat.le_of_ble_eq_true rfl) (hm_22) kk) ?_
  replace hmd := hmd_22
  have E_22 := (E_14).trans ee_22
  have hV2 : mko S r 22 _ W2 := mko_1 hV1 hc1 (by decide)
  refine wq (fun _ _ kk => rs_aload_n (pc := 25) dX12_carries_25 rfl kk) ?_
  refine wq (fun _ _ kk => rs_aload_n (pc := 26) dX12_carries_26 rfl kk) ?_
  refine wq (fun _ _ kk => rs_getf (pc := 27) dX12_carries_27 fX12_13 (md_lt hmd (by decide)) hmd.2.1 rfl kk) ?_
  obtain ⟨rv_30, hc_30, ⟨rfl, ee_30, W3, hmd_30, hc2⟩, hm_30⟩ := co_X12_carry (d := 1) (k := 7) (n := 16) (m := 3900 * r + 22) rfl (by decide) (by decide) (by decide) (by omega) (by rw [hV2.2.1 72 (by decide)]; exact eb) hV2.1 hmd
  refine wq (fun _ _ kk => rs_callV (as := [_]) (pc := 30) dX12_carries_30 mk_X12_carry mlX12_503 in_X12_carry se_X12_carry rfl (md_lt hmd (by decide)) hmd.2.1 rfl rfl (Nat.le_of_ble_eq_true rfl) (hm_30) kk) ?_
  replace hmd := hmd_30
  have E_30 := (E_22).trans ee_30
  have hV3 : mko S r 38 _ W3 := mko_1 hV2 hc2 (by decide)
  refine wq (fun _ _ kk => rs_aload_n (pc := 33) dX12_carries_33 rfl kk) ?_
  refine wq (fun _ _ kk => rs_aload_n (pc := 34) dX12_carries_34 rfl kk) ?_
  refine wq (fun _ _ kk => rs_getf (pc := 35) dX12_carries_35 fX12_16 (md_lt hmd (by decide)) hmd.2.1 rfl kk) ?_
  obtain ⟨rv_38, hc_38, ⟨rfl, ee_38, W4, hmd_38, hc3⟩, hm_38⟩ := co_X12_carry (d := 2) (k := 8) (n := 24) (m := 3900 * r + 38) rfl (by decide) (by decide) (by decide) (by omega) (by rw [hV3.2.1 72 (by decide)]; exact eb) hV3.1 hmd
  refine wq (fun _ _ kk => rs_callV (as := [_]) (pc := 38) dX12_carries_38 mk_X12_carry mlX12_503 in_X12_carry se_X12_carry rfl (md_lt hmd (by decide)) hmd.2.1 rfl rfl (Nat.le_of_ble_eq_true rfl) (hm_38) kk) ?_
  replace hmd := hmd_38
  have E_38 := (E_30).trans ee_38
  have hV4 : mko S r 62 _ W4 := mko_1 hV3 hc3 (by decide)
  refine wq (fun _ _ kk => rs_aload_n (pc := 41) dX12_carries_41 rfl kk) ?_
  refine wq (fun _ _ kk => rs_aload_n (pc := 42) dX12_carries_42 rfl kk) ?_
  refine wq (fun _ _ kk => rs_getf (pc := 43) dX12_carries_43 fX12_19 (md_lt hmd (by decide)) hmd.2.1 rfl kk) ?_
  obtain ⟨rv_46, hc_46, ⟨rfl, ee_46, W5, hmd_46, hc4⟩, hm_46⟩ := co_X12_carry (d := 3) (k := 9) (n := 24) (m := 3900 * r + 62) rfl (by decide) (by decide) (by decide) (by omega) (by rw [hV4.2.1 72 (by decide)]; exact eb) hV4.1 hmd
  refine wq (fun _ _ kk => rs_callV (as := [_]) (pc := 46) dX12_carries_46 mk_X12_carry mlX12_503 in_X12_carry se_X12_carry rfl (md_lt hmd (by decide)) hmd.2.1 rfl rfl (Nat.le_of_ble_eq_true rfl) (hm_46) kk) ?_
  replace hmd := hmd_46
  have E_46 := (E_38).trans ee_46
  have hV5 : mko S r 86 _ W5 := mko_1 hV4 hc4 (by decide)
  refine wq (fun _ _ kk => rs_aload_n (pc := 49) dX12_carries_49 rfl kk) ?_
  refine wq (fun _ _ kk => rs_aload_n (pc := 50) dX12_carries_50 rfl kk) ?_
  refine wq (fun _ _ kk => rs_getf (pc := 51) dX12_carries_51 fX12_22 (md_lt hmd (by decide)) hmd.2.1 rfl kk) ?_
  obtain ⟨rv_54, hc_54, ⟨rfl, ee_54, W6, hmd_54, hc5⟩, hm_54⟩ := co_X12_carry (d := 4) (k := 10) (n := 24) (m := 3900 * r + 86) rfl (by decide) (by decide) (by decide) (by omega) (by rw [hV5.2.1 72 (by decide)]; exact eb) hV5.1 hmd
  refine wq (fun _ _ kk => rs_callV (as := [_]) (pc := 54) dX12_carries_54 mk_X12_carry mlX12_503 in_X12_carry se_X12_carry rfl (md_lt hmd (by decide)) hmd.2.1 rfl rfl (Nat.le_of_ble_eq_true rfl) (hm_54) kk) ?_
  replace hmd := hmd_54
  have E_54 := (E_46).trans ee_54
  have hV6 : mko S r 110 _ W6 := mko_1 hV5 hc5 (by decide)
  refine wq (fun _ _ kk => rs_aload_n (pc := 57) dX12_carries_57 rfl kk) ?_
  refine wq (fun _ _ kk => rs_aload_n (pc := 58) dX12_carries_58 rfl kk) ?_
  refine wq (fun _ _ kk => rs_getf (pc := 59) dX12_carries_59 fX12_25 (md_lt hmd (by decide)) hmd.2.1 rfl kk) ?_
  obtain ⟨rv_62, hc_62, ⟨rfl, ee_62, W7, hmd_62, hc6⟩, hm_62⟩ := co_X12_carry (d := 5) (k := 11) (n := 80) (m := 3900 * r + 110) rfl (by decide) (by decide) (by decide) (by omega) (by rw [hV6.2.1 72 (by decide)]; exact eb) hV6.1 hmd
  refine wq (fun _ _ kk => rs_callV (as := [_]) (pc := 62) dX12_carries_62 mk_X12_carry mlX12_503 in_X12_carry se_X12_carry rfl (md_lt hmd (by decide)) hmd.2.1 rfl rfl (Nat.le_of_ble_eq_true rfl) (hm_62) kk) ?_
  replace hmd := hmd_62
  have E_62 := (E_54).trans ee_62
  have hV7 : mko S r 190 _ W7 := mko_1 hV6 hc6 (by decide)
  refine wq (fun _ _ kk => rs_aload_n (pc := 65) dX12_carries_65 rfl kk) ?_
  refine wq (fun _ _ kk => rs_aload_n (pc := 66) dX12_carries_66 rfl kk) ?_
  refine wq (fun _ _ kk => rs_getf (pc := 67) dX12_carries_67 fX12_28 (md_lt hmd (by decide)) hmd.2.1 rfl kk) ?_
  obtain ⟨rv_70, hc_70, ⟨rfl, ee_70, W8, hmd_70, hc7⟩, hm_70⟩ := co_X12_carry (d := 6) (k := 12) (n := 80) (m := 3900 * r + 190) rfl (by decide) (by decide) (by decide) (by omega) (by rw [hV7.2.1 72 (by decide)]; exact eb) hV7.1 hmd
  refine wq (fun _ _ kk => rs_callV (as := [_]) (pc := 70) dX12_carries_70 mk_X12_carry mlX12_503 in_X12_carry se_X12_carry rfl (md_lt hmd (by decide)) hmd.2.1 rfl rfl (Nat.le_of_ble_eq_true rfl) (hm_70) kk) ?_
  replace hmd := hmd_70
  have E_70 := (E_62).trans ee_70
  have hV8 : mko S r 270 _ W8 := mko_1 hV7 hc7 (by decide)
  refine wq (fun _ _ kk => rs_aload_n (pc := 73) dX12_carries_73 rfl kk) ?_
  refine wq (fun _ _ kk => rs_aload_n (pc := 74) dX12_carries_74 rfl kk) ?_
  refine wq (fun _ _ kk => rs_getf (pc := 75) dX12_carries_75 fX12_31 (md_lt hmd (by decide)) hmd.2.1 rfl kk) ?_
  obtain ⟨rv_78, hc_78, ⟨rfl, ee_78, W9, hmd_78, hc8⟩, hm_78⟩ := co_X12_carry (d := 7) (k := 13) (n := 400) (m := 3900 * r + 270) rfl (by decide) (by decide) (by decide) (by omega) (by rw [hV8.2.1 72 (by decide)]; exact eb) hV8.1 hmd
  refine wq (fun _ _ kk => rs_callV (as := [_]) (pc := 78) dX12_carries_78 mk_X12_carry mlX12_503 in_X12_carry se_X12_carry rfl (md_lt hmd (by decide)) hmd.2.1 rfl rfl (Nat.le_of_ble_eq_true rfl) (hm_78) kk) ?_
  replace hmd := hmd_78
  have E_78 := (E_70).trans ee_78
  have hV9 : mko S r 670 _ W9 := mko_1 hV8 hc8 (by decide)
  refine wq (fun _ _ kk => rs_aload_n (pc := 81) dX12_carries_81 rfl kk) ?_
  refine wq (fun _ _ kk => rs_aload_n (pc := 82) dX12_carries_82 rfl kk) ?_
  refine wq (fun _ _ kk => rs_getf (pc := 83) dX12_carries_83 fX12_34 (md_lt hmd (by decide)) hmd.2.1 rfl kk) ?_
  obtain ⟨rv_86, hc_86, ⟨rfl, ee_86, W10, hmd_86, hc9⟩, hm_86⟩ := co_X12_carry (d := 8) (k := 14) (n := 400) (m := 3900 * r + 670) rfl (by decide) (by decide) (by decide) (by omega) (by rw [hV9.2.1 72 (by decide)]; exact eb) hV9.1 hmd
  refine wq (fun _ _ kk => rs_callV (as := [_]) (pc := 86) dX12_carries_86 mk_X12_carry mlX12_503 in_X12_carry se_X12_carry rfl (md_lt hmd (by decide)) hmd.2.1 rfl rfl (Nat.le_of_ble_eq_true rfl) (hm_86) kk) ?_
  replace hmd := hmd_86
  have E_86 := (E_78).trans ee_86
  have hV10 : mko S r 1070 _ W10 := mko_1 hV9 hc9 (by decide)
  refine wq (fun _ _ kk => rs_aload_n (pc := 89) dX12_carries_89 rfl kk) ?_
  refine wq (fun _ _ kk => rs_aload_n (pc := 90) dX12_carries_90 rfl kk) ?_
  refine wq (fun _ _ kk => rs_getf (pc := 91) dX12_carries_91 fX12_37 (md_lt hmd (by decide)) hmd.2.1 rfl kk) ?_
  obtain ⟨rv_94, hc_94, ⟨rfl, ee_94, W11, hmd_94, hc10⟩, hm_94⟩ := co_X12_carry (d := 9) (k := 15) (n := 400) (m := 3900 * r + 1070) rfl (by decide) (by decide) (by decide) (by omega) (by rw [hV10.2.1 72 (by decide)]; exact eb) hV10.1 hmd
  refine wq (fun _ _ kk => rs_callV (as := [_]) (pc := 94) dX12_carries_94 mk_X12_carry mlX12_503 in_X12_carry se_X12_carry rfl (md_lt hmd (by decide)) hmd.2.1 rfl rfl (Nat.le_of_ble_eq_true rfl) (hm_94) kk) ?_
  replace hmd := hmd_94
  have E_94 := (E_86).trans ee_94
  have hV11 : mko S r 1470 _ W11 := mko_1 hV10 hc10 (by decide)
  refine wq (fun _ _ kk => rs_aload_n (pc := 97) dX12_carries_97 rfl kk) ?_
  refine wq (fun _ _ kk => rs_aload_n (pc := 98) dX12_carries_98 rfl kk) ?_
  refine wq (fun _ _ kk => rs_getf (pc := 99) dX12_carries_99 fX12_40 (md_lt hmd (by decide)) hmd.2.1 rfl kk) ?_
  obtain ⟨rv_102, hc_102, ⟨rfl, ee_102, W12, hmd_102, hc11⟩, hm_102⟩ := co_X12_carry (d := 10) (k := 16) (n := 400) (m := 3900 * r + 1470) rfl (by decide) (by decide) (by decide) (by omega) (by rw [hV11.2.1 72 (by decide)]; exact eb) hV11.1 hmd
  refine wq (fun _ _ kk => rs_callV (as := [_]) (pc := 102) dX12_carries_102 mk_X12_carry mlX12_503 in_X12_carry se_X12_carry rfl (md_lt hmd (by decide)) hmd.2.1 rfl rfl (Nat.le_of_ble_eq_true rfl) (hm_102) kk) ?_
  replace hmd := hmd_102
  have E_102 := (E_94).trans ee_102
  have hV12 : mko S r 1870 _ W12 := mko_1 hV11 hc11 (by decide)
  refine wq (fun _ _ kk => rs_aload_n (pc := 105) dX12_carries_105 rfl kk) ?_
  refine wq (fun _ _ kk => rs_aload_n (pc := 106) dX12_carries_106 rfl kk) ?_
  refine wq (fun _ _ kk => rs_getf (pc := 107) dX12_carries_107 fX12_43 (md_lt hmd (by decide)) hmd.2.1 rfl kk) ?_
  obtain ⟨rv_110, hc_110, ⟨rfl, ee_110, W13, hmd_110, hc12⟩, hm_110⟩ := co_X12_carry (d := 11) (k := 17) (n := 400) (m := 3900 * r + 1870) rfl (by decide) (by decide) (by decide) (by omega) (by rw [hV12.2.1 72 (by decide)]; exact eb) hV12.1 hmd
  refine wq (fun _ _ kk => rs_callV (as := [_]) (pc := 110) dX12_carries_110 mk_X12_carry mlX12_503 in_X12_carry se_X12_carry rfl (md_lt hmd (by decide)) hmd.2.1 rfl rfl (Nat.le_of_ble_eq_true rfl) (hm_110) kk) ?_
  replace hmd := hmd_110
  have E_110 := (E_102).trans ee_110
  have hV13 : mko S r 2270 _ W13 := mko_1 hV12 hc12 (by decide)
  refine wq (fun _ _ kk => rs_aload_n (pc := 113) dX12_carries_113 rfl kk) ?_
  refine wq (fun _ _ kk => rs_aload_n (pc := 114) dX12_carries_114 rfl kk) ?_
  refine wq (fun _ _ kk => rs_getf (pc := 115) dX12_carries_115 fX12_46 (md_lt hmd (by decide)) hmd.2.1 rfl kk) ?_
  obtain ⟨rv_118, hc_118, ⟨rfl, ee_118, W14, hmd_118, hc13⟩, hm_118⟩ := co_X12_carry (d := 12) (k := 18) (n := 400) (m := 3900 * r + 2270) rfl (by decide) (by decide) (by decide) (by omega) (by rw [hV13.2.1 72 (by decide)]; exact eb) hV13.1 hmd
  refine wq (fun _ _ kk => rs_callV (as := [_]) (pc := 118) dX12_carries_118 mk_X12_carry mlX12_503 in_X12_carry se_X12_carry rfl (md_lt hmd (by decide)) hmd.2.1 rfl rfl (Nat.le_of_ble_eq_true rfl) (hm_118) kk) ?_
  replace hmd := hmd_118
  have E_118 := (E_110).trans ee_118
  have hV14 : mko S r 2670 _ W14 := mko_1 hV13 hc13 (by decide)
  refine wq (fun _ _ kk => rs_aload_n (pc := 121) dX12_carries_121 rfl kk) ?_
  refine wq (fun _ _ kk => rs_aload_n (pc := 122) dX12_carries_122 rfl kk) ?_
  refine wq (fun _ _ kk => rs_getf (pc := 123) dX12_carries_123 fX12_49 (md_lt hmd (by decide)) hmd.2.1 rfl kk) ?_
  obtain ⟨rv_126, hc_126, ⟨rfl, ee_126, W15, hmd_126, hc14⟩, hm_126⟩ := co_X12_carry (d := 13) (k := 19) (n := 400) (m := 3900 * r + 2670) rfl (by decide) (by decide) (by decide) (by omega) (by rw [hV14.2.1 72 (by decide)]; exact eb) hV14.1 hmd
  refine wq (fun _ _ kk => rs_callV (as := [_]) (pc := 126) dX12_carries_126 mk_X12_carry mlX12_503 in_X12_carry se_X12_carry rfl (md_lt hmd (by decide)) hmd.2.1 rfl rfl (Nat.le_of_ble_eq_true rfl) (hm_126) kk) ?_
  replace hmd := hmd_126
  have E_126 := (E_118).trans ee_126
  have hV15 : mko S r 3070 _ W15 := mko_1 hV14 hc14 (by decide)
  refine wq (fun _ _ kk => rs_aload_n (pc := 129) dX12_carries_129 rfl kk) ?_
  refine wq (fun _ _ kk => rs_aload_n (pc := 130) dX12_carries_130 rfl kk) ?_
  refine wq (fun _ _ kk => rs_getf (pc := 131) dX12_carries_131 fX12_52 (md_lt hmd (by decide)) hmd.2.1 rfl kk) ?_
  obtain ⟨rv_134, hc_134, ⟨rfl, ee_134, W16, hmd_134, hc15⟩, hm_134⟩ := co_X12_carry (d := 14) (k := 20) (n := 400) (m := 3900 * r + 3070) rfl (by decide) (by decide) (by decide) (by omega) (by rw [hV15.2.1 72 (by decide)]; exact eb) hV15.1 hmd
  refine wq (fun _ _ kk => rs_callV (as := [_]) (pc := 134) dX12_carries_134 mk_X12_carry mlX12_503 in_X12_carry se_X12_carry rfl (md_lt hmd (by decide)) hmd.2.1 rfl rfl (Nat.le_of_ble_eq_true rfl) (hm_134) kk) ?_
  replace hmd := hmd_134
  have E_134 := (E_126).trans ee_134
  have hV16 : mko S r 3470 _ W16 := mko_1 hV15 hc15 (by decide)
  refine wq (fun _ _ kk => rs_aload_n (pc := 137) dX12_carries_137 rfl kk) ?_
  refine wq (fun _ _ kk => rs_aload_n (pc := 138) dX12_carries_138 rfl kk) ?_
  refine wq (fun _ _ kk => rs_getf (pc := 139) dX12_carries_139 fX12_55 (md_lt hmd (by decide)) hmd.2.1 rfl kk) ?_
  obtain ⟨rv_142, hc_142, ⟨rfl, ee_142, W17, hmd_142, hc16⟩, hm_142⟩ := co_X12_carry (d := 15) (k := 21) (n := 400) (m := 3900 * r + 3470) rfl (by decide) (by decide) (by decide) (by omega) (by rw [hV16.2.1 72 (by decide)]; exact eb) hV16.1 hmd
  refine wq (fun _ _ kk => rs_callV (as := [_]) (pc := 142) dX12_carries_142 mk_X12_carry mlX12_503 in_X12_carry se_X12_carry rfl (md_lt hmd (by decide)) hmd.2.1 rfl rfl (Nat.le_of_ble_eq_true rfl) (hm_142) kk) ?_
  replace hmd := hmd_142
  have E_142 := (E_134).trans ee_142
  have hV17 : mko S r 3870 _ W17 := mko_1 hV16 hc16 (by decide)
  refine wq (fun _ _ kk => rs_aload_n (pc := 145) dX12_carries_145 rfl kk) ?_
  refine wq (fun _ _ kk => rs_aload_n (pc := 146) dX12_carries_146 rfl kk) ?_
  refine wq (fun _ _ kk => rs_getf (pc := 147) dX12_carries_147 fX12_147 (md_lt hmd (by decide)) hmd.2.1 rfl kk) ?_
  obtain ⟨rv_150, hc_150, ⟨rfl, ee_150, W18, hmd_150, hc17⟩, hm_150⟩ := co_X12_carry (d := 45) (k := 61) (n := 9) (m := 3900 * r + 3870) rfl (by decide) (by decide) (by decide) (by omega) (by rw [hV17.2.1 72 (by decide)]; exact eb) hV17.1 hmd
  refine wq (fun _ _ kk => rs_callV (as := [_]) (pc := 150) dX12_carries_150 mk_X12_carry mlX12_503 in_X12_carry se_X12_carry rfl (md_lt hmd (by decide)) hmd.2.1 rfl rfl (Nat.le_of_ble_eq_true rfl) (hm_150) kk) ?_
  replace hmd := hmd_150
  have E_150 := (E_142).trans ee_150
  have hV18 : mko S r 3879 _ W18 := mko_1 hV17 hc17 (by decide)
  refine wq (fun _ _ kk => rs_aload_n (pc := 153) dX12_carries_153 rfl kk) ?_
  refine wq (fun _ _ kk => rs_aload_n (pc := 154) dX12_carries_154 rfl kk) ?_
  refine wq (fun _ _ kk => rs_getf (pc := 155) dX12_carries_155 fX12_150 (md_lt hmd (by decide)) hmd.2.1 rfl kk) ?_
  obtain ⟨rv_158, hc_158, ⟨rfl, ee_158, W19, hmd_158, hc18⟩, hm_158⟩ := co_X12_carry (d := 46) (k := 62) (n := 9) (m := 3900 * r + 3879) rfl (by decide) (by decide) (by decide) (by omega) (by rw [hV18.2.1 72 (by decide)]; exact eb) hV18.1 hmd
  refine wq (fun _ _ kk => rs_callV (as := [_]) (pc := 158) dX12_carries_158 mk_X12_carry mlX12_503 in_X12_carry se_X12_carry rfl (md_lt hmd (by decide)) hmd.2.1 rfl rfl (Nat.le_of_ble_eq_true rfl) (hm_158) kk) ?_
  replace hmd := hmd_158
  have E_158 := (E_150).trans ee_158
  have hV19 : mko S r 3888 _ W19 := mko_1 hV18 hc18 (by decide)
  refine wq (fun _ _ kk => rs_aload_n (pc := 161) dX12_carries_161 rfl kk) ?_
  refine wq (fun _ _ kk => rs_aload_n (pc := 162) dX12_carries_162 rfl kk) ?_
  refine wq (fun _ _ kk => rs_getf (pc := 163) dX12_carries_163 fX12_153 (md_lt hmd (by decide)) hmd.2.1 rfl kk) ?_
  obtain ⟨rv_166, hc_166, ⟨rfl, ee_166, W20, hmd_166, hc19⟩, hm_166⟩ := co_X12_carry (d := 47) (k := 63) (n := 9) (m := 3900 * r + 3888) rfl (by decide) (by decide) (by decide) (by omega) (by rw [hV19.2.1 72 (by decide)]; exact eb) hV19.1 hmd
  refine wq (fun _ _ kk => rs_callV (as := [_]) (pc := 166) dX12_carries_166 mk_X12_carry mlX12_503 in_X12_carry se_X12_carry rfl (md_lt hmd (by decide)) hmd.2.1 rfl rfl (Nat.le_of_ble_eq_true rfl) (hm_166) kk) ?_
  replace hmd := hmd_166
  have E_166 := (E_158).trans ee_166
  have hV20 : mko S r 3897 _ W20 := mko_1 hV19 hc19 (by decide)
  refine wq_ret ?_ (rs_vret (pc := 169) dX12_carries_169 rfl)
  exact ⟨rfl, E_166, W20, hmd, hV20⟩
set_option maxRecDepth 100000 in
set_option maxHeartbeats 4000000 in
theorem ci_X12_carries {h : ai_H} {S : Md} {r : Nat} (hr : r < 4) (eb : S.1 72 = 1) (hmd : md_at h S) : ai_QM MX12_carries [.ref 307, .int (nI r)] h (fun rr g => rr = none ∧ md_ext h g ∧ ∃ W, md_at g W ∧ mki S r 3897 [(63, 3888, 9), (62, 3879, 9), (61, 3870, 9), (21, 3470, 400), (20, 3070, 400), (19, 2670, 400), (18, 2270, 400), (17, 1870, 400), (16, 1470, 400), (15, 1070, 400), (14, 670, 400), (13, 270, 400), (12, 190, 80), (11, 110, 80), (10, 86, 24), (9, 62, 24), (8, 38, 24), (7, 22, 16), (6, 6, 16), (69, 0, 6)] W) := by
  refine qm_of (ls := [.ref 307, .int (nI r)]) (by decide) (by simp [ai_en, Value.category]) (by rfl) ?_
  refine wq (fun _ _ kk => rs_aload_n (pc := 0) dX12_carries_0 rfl kk) ?_
  refine wq (fun _ _ kk => rs_sipush (v := 3900) (pc := 1) dX12_carries_1 rfl kk) ?_
  refine wq (fun _ _ kk => rs_iload_n (pc := 4) dX12_carries_4 rfl kk) ?_
  refine wq (fun _ _ kk => rs_imul (pc := 5) dX12_carries_5 kk) ?_
  rw [show (3900 : Int32) * nI r = nI (3900 * r) from pk_mul 3900 r]
  refine wq (fun _ _ kk => rs_putf (pc := 6) dX12_carries_6 fX12_500 (md_lt hmd (by decide)) hmd.2.1 rfl (Nat.le_of_ble_eq_true rfl) kk) ?_
  refine wq_gen (fun h_1 e_1 => ?_)
  obtain ⟨m_1, s_1, g_1, o_1⟩ := ai_e1 e_1
  replace hmd := md_at_si (k := 71) hmd m_1 g_1 o_1 rfl
  have E_1 := (md_ext.rf).trans (md_ext_of m_1 s_1 o_1 (by decide))
  refine wq (fun _ _ kk => rs_aload_n (pc := 9) dX12_carries_9 rfl kk) ?_
  refine wq (fun _ _ kk => rs_aload_n (pc := 10) dX12_carries_10 rfl kk) ?_
  refine wq (fun _ _ kk => rs_getf (pc := 11) dX12_carries_11 fX12_169 (md_lt hmd (by decide)) hmd.2.1 rfl kk) ?_
  obtain ⟨W0, eW0⟩ : ∃ W0, W0 = md_si S 71 (nI (3900 * r)) := ⟨_, rfl⟩
  rw [← eW0] at hmd
  have hV0 : mki S r 0 [] W0 := by rw [eW0]; exact ⟨rfl, fun j hj => pk_un hj, rfl, rfl, fun _ _ => rfl, fun e he => absurd he (by simp)⟩
  obtain ⟨rv_14, hc_14, ⟨rfl, ee_14, W1, hmd_14, hc0⟩, hm_14⟩ := ci_X12_carry (d := 52) (k := 69) (n := 6) (m := 3900 * r + 0) rfl (by decide) (by decide) (by decide) (by omega) (by rw [hV0.2.1 72 (by decide)]; exact eb) hV0.1 hmd
  refine wq (fun _ _ kk => rs_callV (as := [_]) (pc := 14) dX12_carries_14 mk_X12_carry mlX12_503 in_X12_carry se_X12_carry rfl (md_lt hmd (by decide)) hmd.2.1 rfl rfl (Nat.le_of_ble_eq_true rfl) (hm_14) kk) ?_
  replace hmd := hmd_14
  have E_14 := (E_1).trans ee_14
  have hV1 : mki S r 6 _ W1 := mki_1 hV0 hc0 (by decide)
  refine wq (fun _ _ kk => rs_aload_n (pc := 17) dX12_carries_17 rfl kk) ?_
  refine wq (fun _ _ kk => rs_aload_n (pc := 18) dX12_carries_18 rfl kk) ?_
  refine wq (fun _ _ kk => rs_getf (pc := 19) dX12_carries_19 fX12_9 (md_lt hmd (by decide)) hmd.2.1 rfl kk) ?_
  obtain ⟨rv_22, hc_22, ⟨rfl, ee_22, W2, hmd_22, hc1⟩, hm_22⟩ := ci_X12_carry (d := 0) (k := 6) (n := 16) (m := 3900 * r + 6) rfl (by decide) (by decide) (by decide) (by omega) (by rw [hV1.2.1 72 (by decide)]; exact eb) hV1.1 hmd
  refine wq (fun _ _ kk => rs_callV (as := [_]) (pc := 22) dX12_carries_22 mk_X12_carry mlX12_503 in_X12_carry se_X12_carry rfl (md_lt hmd (by decide)) hmd.2.1 rfl rfl (Nat.le_of_ble_eq_true rfl) (hm_22) kk) ?_
  replace hmd := hmd_22
  have E_22 := (E_14).trans ee_22
  have hV2 : mki S r 22 _ W2 := mki_1 hV1 hc1 (by decide)
  refine wq (fun _ _ kk => rs_aload_n (pc := 25) dX12_carries_25 rfl kk) ?_
  refine wq (fun _ _ kk => rs_aload_n (pc := 26) dX12_carries_26 rfl kk) ?_
  refine wq (fun _ _ kk => rs_getf (pc := 27) dX12_carries_27 fX12_13 (md_lt hmd (by decide)) hmd.2.1 rfl kk) ?_
  obtain ⟨rv_30, hc_30, ⟨rfl, ee_30, W3, hmd_30, hc2⟩, hm_30⟩ := ci_X12_carry (d := 1) (k := 7) (n := 16) (m := 3900 * r + 22) rfl (by decide) (by decide) (by decide) (by omega) (by rw [hV2.2.1 72 (by decide)]; exact eb) hV2.1 hmd
  refine wq (fun _ _ kk => rs_callV (as := [_]) (pc := 30) dX12_carries_30 mk_X12_carry mlX12_503 in_X12_carry se_X12_carry rfl (md_lt hmd (by decide)) hmd.2.1 rfl rfl (Nat.le_of_ble_eq_true rfl) (hm_30) kk) ?_
  replace hmd := hmd_30
  have E_30 := (E_22).trans ee_30
  have hV3 : mki S r 38 _ W3 := mki_1 hV2 hc2 (by decide)
  refine wq (fun _ _ kk => rs_aload_n (pc := 33) dX12_carries_33 rfl kk) ?_
  refine wq (fun _ _ kk => rs_aload_n (pc := 34) dX12_carries_34 rfl kk) ?_
  refine wq (fun _ _ kk => rs_getf (pc := 35) dX12_carries_35 fX12_16 (md_lt hmd (by decide)) hmd.2.1 rfl kk) ?_
  obtain ⟨rv_38, hc_38, ⟨rfl, ee_38, W4, hmd_38, hc3⟩, hm_38⟩ := ci_X12_carry (d := 2) (k := 8) (n := 24) (m := 3900 * r + 38) rfl (by decide) (by decide) (by decide) (by omega) (by rw [hV3.2.1 72 (by decide)]; exact eb) hV3.1 hmd
  refine wq (fun _ _ kk => rs_callV (as := [_]) (pc := 38) dX12_carries_38 mk_X12_carry mlX12_503 in_X12_carry se_X12_carry rfl (md_lt hmd (by decide)) hmd.2.1 rfl rfl (Nat.le_of_ble_eq_true rfl) (hm_38) kk) ?_
  replace hmd := hmd_38
  have E_38 := (E_30).trans ee_38
  have hV4 : mki S r 62 _ W4 := mki_1 hV3 hc3 (by decide)
  refine wq (fun _ _ kk => rs_aload_n (pc := 41) dX12_carries_41 rfl kk) ?_
  refine wq (fun _ _ kk => rs_aload_n (pc := 42) dX12_carries_42 rfl kk) ?_
  refine wq (fun _ _ kk => rs_getf (pc := 43) dX12_carries_43 fX12_19 (md_lt hmd (by decide)) hmd.2.1 rfl kk) ?_
  obtain ⟨rv_46, hc_46, ⟨rfl, ee_46, W5, hmd_46, hc4⟩, hm_46⟩ := ci_X12_carry (d := 3) (k := 9) (n := 24) (m := 3900 * r + 62) rfl (by decide) (by decide) (by decide) (by omega) (by rw [hV4.2.1 72 (by decide)]; exact eb) hV4.1 hmd
  refine wq (fun _ _ kk => rs_callV (as := [_]) (pc := 46) dX12_carries_46 mk_X12_carry mlX12_503 in_X12_carry se_X12_carry rfl (md_lt hmd (by decide)) hmd.2.1 rfl rfl (Nat.le_of_ble_eq_true rfl) (hm_46) kk) ?_
  replace hmd := hmd_46
  have E_46 := (E_38).trans ee_46
  have hV5 : mki S r 86 _ W5 := mki_1 hV4 hc4 (by decide)
  refine wq (fun _ _ kk => rs_aload_n (pc := 49) dX12_carries_49 rfl kk) ?_
  refine wq (fun _ _ kk => rs_aload_n (pc := 50) dX12_carries_50 rfl kk) ?_
  refine wq (fun _ _ kk => rs_getf (pc := 51) dX12_carries_51 fX12_22 (md_lt hmd (by decide)) hmd.2.1 rfl kk) ?_
  obtain ⟨rv_54, hc_54, ⟨rfl, ee_54, W6, hmd_54, hc5⟩, hm_54⟩ := ci_X12_carry (d := 4) (k := 10) (n := 24) (m := 3900 * r + 86) rfl (by decide) (by decide) (by decide) (by omega) (by rw [hV5.2.1 72 (by decide)]; exact eb) hV5.1 hmd
  refine wq (fun _ _ kk => rs_callV (as := [_]) (pc := 54) dX12_carries_54 mk_X12_carry mlX12_503 in_X12_carry se_X12_carry rfl (md_lt hmd (by decide)) hmd.2.1 rfl rfl (Nat.le_of_ble_eq_true rfl) (hm_54) kk) ?_
  replace hmd := hmd_54
  have E_54 := (E_46).trans ee_54
  have hV6 : mki S r 110 _ W6 := mki_1 hV5 hc5 (by decide)
  refine wq (fun _ _ kk => rs_aload_n (pc := 57) dX12_carries_57 rfl kk) ?_
  refine wq (fun _ _ kk => rs_aload_n (pc := 58) dX12_carries_58 rfl kk) ?_
  refine wq (fun _ _ kk => rs_getf (pc := 59) dX12_carries_59 fX12_25 (md_lt hmd (by decide)) hmd.2.1 rfl kk) ?_
  obtain ⟨rv_62, hc_62, ⟨rfl, ee_62, W7, hmd_62, hc6⟩, hm_62⟩ := ci_X12_carry (d := 5) (k := 11) (n := 80) (m := 3900 * r + 110) rfl (by decide) (by decide) (by decide) (by omega) (by rw [hV6.2.1 72 (by decide)]; exact eb) hV6.1 hmd
  refine wq (fun _ _ kk => rs_callV (as := [_]) (pc := 62) dX12_carries_62 mk_X12_carry mlX12_503 in_X12_carry se_X12_carry rfl (md_lt hmd (by decide)) hmd.2.1 rfl rfl (Nat.le_of_ble_eq_true rfl) (hm_62) kk) ?_
  replace hmd := hmd_62
  have E_62 := (E_54).trans ee_62
  have hV7 : mki S r 190 _ W7 := mki_1 hV6 hc6 (by decide)
  refine wq (fun _ _ kk => rs_aload_n (pc := 65) dX12_carries_65 rfl kk) ?_
  refine wq (fun _ _ kk => rs_aload_n (pc := 66) dX12_carries_66 rfl kk) ?_
  refine wq (fun _ _ kk => rs_getf (pc := 67) dX12_carries_67 fX12_28 (md_lt hmd (by decide)) hmd.2.1 rfl kk) ?_
  obtain ⟨rv_70, hc_70, ⟨rfl, ee_70, W8, hmd_70, hc7⟩, hm_70⟩ := ci_X12_carry (d := 6) (k := 12) (n := 80) (m := 3900 * r + 190) rfl (by decide) (by decide) (by decide) (by omega) (by rw [hV7.2.1 72 (by decide)]; exact eb) hV7.1 hmd
  refine wq (fun _ _ kk => rs_callV (as := [_]) (pc := 70) dX12_carries_70 mk_X12_carry mlX12_503 in_X12_carry se_X12_carry rfl (md_lt hmd (by decide)) hmd.2.1 rfl rfl (Nat.le_of_ble_eq_true rfl) (hm_70) kk) ?_
  replace hmd := hmd_70
  have E_70 := (E_62).trans ee_70
  have hV8 : mki S r 270 _ W8 := mki_1 hV7 hc7 (by decide)
  refine wq (fun _ _ kk => rs_aload_n (pc := 73) dX12_carries_73 rfl kk) ?_
  refine wq (fun _ _ kk => rs_aload_n (pc := 74) dX12_carries_74 rfl kk) ?_
  refine wq (fun _ _ kk => rs_getf (pc := 75) dX12_carries_75 fX12_31 (md_lt hmd (by decide)) hmd.2.1 rfl kk) ?_
  obtain ⟨rv_78, hc_78, ⟨rfl, ee_78, W9, hmd_78, hc8⟩, hm_78⟩ := ci_X12_carry (d := 7) (k := 13) (n := 400) (m := 3900 * r + 270) rfl (by decide) (by decide) (by decide) (by omega) (by rw [hV8.2.1 72 (by decide)]; exact eb) hV8.1 hmd
  refine wq (fun _ _ kk => rs_callV (as := [_]) (pc := 78) dX12_carries_78 mk_X12_carry mlX12_503 in_X12_carry se_X12_carry rfl (md_lt hmd (by decide)) hmd.2.1 rfl rfl (Nat.le_of_ble_eq_true rfl) (hm_78) kk) ?_
  replace hmd := hmd_78
  have E_78 := (E_70).trans ee_78
  have hV9 : mki S r 670 _ W9 := mki_1 hV8 hc8 (by decide)
  refine wq (fun _ _ kk => rs_aload_n (pc := 81) dX12_carries_81 rfl kk) ?_
  refine wq (fun _ _ kk => rs_aload_n (pc := 82) dX12_carries_82 rfl kk) ?_
  refine wq (fun _ _ kk => rs_getf (pc := 83) dX12_carries_83 fX12_34 (md_lt hmd (by decide)) hmd.2.1 rfl kk) ?_
  obtain ⟨rv_86, hc_86, ⟨rfl, ee_86, W10, hmd_86, hc9⟩, hm_86⟩ := ci_X12_carry (d := 8) (k := 14) (n := 400) (m := 3900 * r + 670) rfl (by decide) (by decide) (by decide) (by omega) (by rw [hV9.2.1 72 (by decide)]; exact eb) hV9.1 hmd
  refine wq (fun _ _ kk => rs_callV (as := [_]) (pc := 86) dX12_carries_86 mk_X12_carry mlX12_503 in_X12_carry se_X12_carry rfl (md_lt hmd (by decide)) hmd.2.1 rfl rfl (Nat.le_of_ble_eq_true rfl) (hm_86) kk) ?_
  replace hmd := hmd_86
  have E_86 := (E_78).trans ee_86
  have hV10 : mki S r 1070 _ W10 := mki_1 hV9 hc9 (by decide)
  refine wq (fun _ _ kk => rs_aload_n (pc := 89) dX12_carries_89 rfl kk) ?_
  refine wq (fun _ _ kk => rs_aload_n (pc := 90) dX12_carries_90 rfl kk) ?_
  refine wq (fun _ _ kk => rs_getf (pc := 91) dX12_carries_91 fX12_37 (md_lt hmd (by decide)) hmd.2.1 rfl kk) ?_
  obtain ⟨rv_94, hc_94, ⟨rfl, ee_94, W11, hmd_94, hc10⟩, hm_94⟩ := ci_X12_carry (d := 9) (k := 15) (n := 400) (m := 3900 * r + 1070) rfl (by decide) (by decide) (by decide) (by omega) (by rw [hV10.2.1 72 (by decide)]; exact eb) hV10.1 hmd
  refine wq (fun _ _ kk => rs_callV (as := [_]) (pc := 94) dX12_carries_94 mk_X12_carry mlX12_503 in_X12_carry se_X12_carry rfl (md_lt hmd (by decide)) hmd.2.1 rfl rfl (Nat.le_of_ble_eq_true rfl) (hm_94) kk) ?_
  replace hmd := hmd_94
  have E_94 := (E_86).trans ee_94
  have hV11 : mki S r 1470 _ W11 := mki_1 hV10 hc10 (by decide)
  refine wq (fun _ _ kk => rs_aload_n (pc := 97) dX12_carries_97 rfl kk) ?_
  refine wq (fun _ _ kk => rs_aload_n (pc := 98) dX12_carries_98 rfl kk) ?_
  refine wq (fun _ _ kk => rs_getf (pc := 99) dX12_carries_99 fX12_40 (md_lt hmd (by decide)) hmd.2.1 rfl kk) ?_
  obtain ⟨rv_102, hc_102, ⟨rfl, ee_102, W12, hmd_102, hc11⟩, hm_102⟩ := ci_X12_carry (d := 10) (k := 16) (n := 400) (m := 3900 * r + 1470) rfl (by decide) (by decide) (by decide) (by omega) (by rw [hV11.2.1 72 (by decide)]; exact eb) hV11.1 hmd
  refine wq (fun _ _ kk => rs_callV (as := [_]) (pc := 102) dX12_carries_102 mk_X12_carry mlX12_503 in_X12_carry se_X12_carry rfl (md_lt hmd (by decide)) hmd.2.1 rfl rfl (Nat.le_of_ble_eq_true rfl) (hm_102) kk) ?_
  replace hmd := hmd_102
  have E_102 := (E_94).trans ee_102
  have hV12 : mki S r 1870 _ W12 := mki_1 hV11 hc11 (by decide)
  refine wq (fun _ _ kk => rs_aload_n (pc := 105) dX12_carries_105 rfl kk) ?_
  refine wq (fun _ _ kk => rs_aload_n (pc := 106) dX12_carries_106 rfl kk) ?_
  refine wq (fun _ _ kk => rs_getf (pc := 107) dX12_carries_107 fX12_43 (md_lt hmd (by decide)) hmd.2.1 rfl kk) ?_
  obtain ⟨rv_110, hc_110, ⟨rfl, ee_110, W13, hmd_110, hc12⟩, hm_110⟩ := ci_X12_carry (d := 11) (k := 17) (n := 400) (m := 3900 * r + 1870) rfl (by decide) (by decide) (by decide) (by omega) (by rw [hV12.2.1 72 (by decide)]; exact eb) hV12.1 hmd
  refine wq (fun _ _ kk => rs_callV (as := [_]) (pc := 110) dX12_carries_110 mk_X12_carry mlX12_503 in_X12_carry se_X12_carry rfl (md_lt hmd (by decide)) hmd.2.1 rfl rfl (Nat.le_of_ble_eq_true rfl) (hm_110) kk) ?_
  replace hmd := hmd_110
  have E_110 := (E_102).trans ee_110
  have hV13 : mki S r 2270 _ W13 := mki_1 hV12 hc12 (by decide)
  refine wq (fun _ _ kk => rs_aload_n (pc := 113) dX12_carries_113 rfl kk) ?_
  refine wq (fun _ _ kk => rs_aload_n (pc := 114) dX12_carries_114 rfl kk) ?_
  refine wq (fun _ _ kk => rs_getf (pc := 115) dX12_carries_115 fX12_46 (md_lt hmd (by decide)) hmd.2.1 rfl kk) ?_
  obtain ⟨rv_118, hc_118, ⟨rfl, ee_118, W14, hmd_118, hc13⟩, hm_118⟩ := ci_X12_carry (d := 12) (k := 18) (n := 400) (m := 3900 * r + 2270) rfl (by decide) (by decide) (by decide) (by omega) (by rw [hV13.2.1 72 (by decide)]; exact eb) hV13.1 hmd
  refine wq (fun _ _ kk => rs_callV (as := [_]) (pc := 118) dX12_carries_118 mk_X12_carry mlX12_503 in_X12_carry se_X12_carry rfl (md_lt hmd (by decide)) hmd.2.1 rfl rfl (Nat.le_of_ble_eq_true rfl) (hm_118) kk) ?_
  replace hmd := hmd_118
  have E_118 := (E_110).trans ee_118
  have hV14 : mki S r 2670 _ W14 := mki_1 hV13 hc13 (by decide)
  refine wq (fun _ _ kk => rs_aload_n (pc := 121) dX12_carries_121 rfl kk) ?_
  refine wq (fun _ _ kk => rs_aload_n (pc := 122) dX12_carries_122 rfl kk) ?_
  refine wq (fun _ _ kk => rs_getf (pc := 123) dX12_carries_123 fX12_49 (md_lt hmd (by decide)) hmd.2.1 rfl kk) ?_
  obtain ⟨rv_126, hc_126, ⟨rfl, ee_126, W15, hmd_126, hc14⟩, hm_126⟩ := ci_X12_carry (d := 13) (k := 19) (n := 400) (m := 3900 * r + 2670) rfl (by decide) (by decide) (by decide) (by omega) (by rw [hV14.2.1 72 (by decide)]; exact eb) hV14.1 hmd
  refine wq (fun _ _ kk => rs_callV (as := [_]) (pc := 126) dX12_carries_126 mk_X12_carry mlX12_503 in_X12_carry se_X12_carry rfl (md_lt hmd (by decide)) hmd.2.1 rfl rfl (Nat.le_of_ble_eq_true rfl) (hm_126) kk) ?_
  replace hmd := hmd_126
  have E_126 := (E_118).trans ee_126
  have hV15 : mki S r 3070 _ W15 := mki_1 hV14 hc14 (by decide)
  refine wq (fun _ _ kk => rs_aload_n (pc := 129) dX12_carries_129 rfl kk) ?_
  refine wq (fun _ _ kk => rs_aload_n (pc := 130) dX12_carries_130 rfl kk) ?_
  refine wq (fun _ _ kk => rs_getf (pc := 131) dX12_carries_131 fX12_52 (md_lt hmd (by decide)) hmd.2.1 rfl kk) ?_
  obtain ⟨rv_134, hc_134, ⟨rfl, ee_134, W16, hmd_134, hc15⟩, hm_134⟩ := ci_X12_carry (d := 14) (k := 20) (n := 400) (m := 3900 * r + 3070) rfl (by decide) (by decide) (by decide) (by omega) (by rw [hV15.2.1 72 (by decide)]; exact eb) hV15.1 hmd
  refine wq (fun _ _ kk => rs_callV (as := [_]) (pc := 134) dX12_carries_134 mk_X12_carry mlX12_503 in_X12_carry se_X12_carry rfl (md_lt hmd (by decide)) hmd.2.1 rfl rfl (Nat.le_of_ble_eq_true rfl) (hm_134) kk) ?_
  replace hmd := hmd_134
  have E_134 := (E_126).trans ee_134
  have hV16 : mki S r 3470 _ W16 := mki_1 hV15 hc15 (by decide)
  refine wq (fun _ _ kk => rs_aload_n (pc := 137) dX12_carries_137 rfl kk) ?_
  refine wq (fun _ _ kk => rs_aload_n (pc := 138) dX12_carries_138 rfl kk) ?_
  refine wq (fun _ _ kk => rs_getf (pc := 139) dX12_carries_139 fX12_55 (md_lt hmd (by decide)) hmd.2.1 rfl kk) ?_
  obtain ⟨rv_142, hc_142, ⟨rfl, ee_142, W17, hmd_142, hc16⟩, hm_142⟩ := ci_X12_carry (d := 15) (k := 21) (n := 400) (m := 3900 * r + 3470) rfl (by decide) (by decide) (by decide) (by omega) (by rw [hV16.2.1 72 (by decide)]; exact eb) hV16.1 hmd
  refine wq (fun _ _ kk => rs_callV (as := [_]) (pc := 142) dX12_carries_142 mk_X12_carry mlX12_503 in_X12_carry se_X12_carry rfl (md_lt hmd (by decide)) hmd.2.1 rfl rfl (Nat.le_of_ble_eq_true rfl) (hm_142) kk) ?_
  replace hmd := hmd_142
  have E_142 := (E_134).trans ee_142
  have hV17 : mki S r 3870 _ W17 := mki_1 hV16 hc16 (by decide)
  refine wq (fun _ _ kk => rs_aload_n (pc := 145) dX12_carries_145 rfl kk) ?_
  refine wq (fun _ _ kk => rs_aload_n (pc := 146) dX12_carries_146 rfl kk) ?_
  refine wq (fun _ _ kk => rs_getf (pc := 147) dX12_carries_147 fX12_147 (md_lt hmd (by decide)) hmd.2.1 rfl kk) ?_
  obtain ⟨rv_150, hc_150, ⟨rfl, ee_150, W18, hmd_150, hc17⟩, hm_150⟩ := ci_X12_carry (d := 45) (k := 61) (n := 9) (m := 3900 * r + 3870) rfl (by decide) (by decide) (by decide) (by omega) (by rw [hV17.2.1 72 (by decide)]; exact eb) hV17.1 hmd
  refine wq (fun _ _ kk => rs_callV (as := [_]) (pc := 150) dX12_carries_150 mk_X12_carry mlX12_503 in_X12_carry se_X12_carry rfl (md_lt hmd (by decide)) hmd.2.1 rfl rfl (Nat.le_of_ble_eq_true rfl) (hm_150) kk) ?_
  replace hmd := hmd_150
  have E_150 := (E_142).trans ee_150
  have hV18 : mki S r 3879 _ W18 := mki_1 hV17 hc17 (by decide)
  refine wq (fun _ _ kk => rs_aload_n (pc := 153) dX12_carries_153 rfl kk) ?_
  refine wq (fun _ _ kk => rs_aload_n (pc := 154) dX12_carries_154 rfl kk) ?_
  refine wq (fun _ _ kk => rs_getf (pc := 155) dX12_carries_155 fX12_150 (md_lt hmd (by decide)) hmd.2.1 rfl kk) ?_
  obtain ⟨rv_158, hc_158, ⟨rfl, ee_158, W19, hmd_158, hc18⟩, hm_158⟩ := ci_X12_carry (d := 46) (k := 62) (n := 9) (m := 3900 * r + 3879) rfl (by decide) (by decide) (by decide) (by omega) (by rw [hV18.2.1 72 (by decide)]; exact eb) hV18.1 hmd
  refine wq (fun _ _ kk => rs_callV (as := [_]) (pc := 158) dX12_carries_158 mk_X12_carry mlX12_503 in_X12_carry se_X12_carry rfl (md_lt hmd (by decide)) hmd.2.1 rfl rfl (Nat.le_of_ble_eq_true rfl) (hm_158) kk) ?_
  replace hmd := hmd_158
  have E_158 := (E_150).trans ee_158
  have hV19 : mki S r 3888 _ W19 := mki_1 hV18 hc18 (by decide)
  refine wq (fun _ _ kk => rs_aload_n (pc := 161) dX12_carries_161 rfl kk) ?_
  refine wq (fun _ _ kk => rs_aload_n (pc := 162) dX12_carries_162 rfl kk) ?_
  refine wq (fun _ _ kk => rs_getf (pc := 163) dX12_carries_163 fX12_153 (md_lt hmd (by decide)) hmd.2.1 rfl kk) ?_
  obtain ⟨rv_166, hc_166, ⟨rfl, ee_166, W20, hmd_166, hc19⟩, hm_166⟩ := ci_X12_carry (d := 47) (k := 63) (n := 9) (m := 3900 * r + 3888) rfl (by decide) (by decide) (by decide) (by omega) (by rw [hV19.2.1 72 (by decide)]; exact eb) hV19.1 hmd
  refine wq (fun _ _ kk => rs_callV (as := [_]) (pc := 166) dX12_carries_166 mk_X12_carry mlX12_503 in_X12_carry se_X12_carry rfl (md_lt hmd (by decide)) hmd.2.1 rfl rfl (Nat.le_of_ble_eq_true rfl) (hm_166) kk) ?_
  replace hmd := hmd_166
  have E_166 := (E_158).trans ee_166
  have hV20 : mki S r 3897 _ W20 := mki_1 hV19 hc19 (by decide)
  refine wq_ret ?_ (rs_vret (pc := 169) dX12_carries_169 rfl)
  exact ⟨rfl, E_166, W20, hmd, hV20⟩
def mkf (k : Nat) : Nat := if k = 69 then 0 else if k = 6 then 6 else if k = 7 then 22 else if k = 8 then 38 else if k = 9 then 62 else if k = 10 then 86 else if k = 11 then 110 else if k = 12 then 190 else if k = 13 then 270 else if k = 14 then 670 else if k = 15 then 1070 else if k = 16 then 1470 else if k = 17 then 1870 else if k = 18 then 2270 else if k = 19 then 2670 else if k = 20 then 3070 else if k = 21 then 3470 else if k = 61 then 3870 else if k = 62 then 3879 else if k = 63 then 3888 else 0
/-- what stands in the marks of r, as rows -/
def blk (S : Md) (r : Nat) : Md := (fun k => S.2.2.1 68 (3900 * r + (if k = 60 then 5 else k - 1)), 0, fun k i => S.2.2.1 68 (3900 * r + (mkf k + i)), fun _ _ => 0)
def mkb : List (Nat × Nat) := [(6, 16), (7, 16), (8, 24), (9, 24), (10, 24), (11, 80), (12, 80), (13, 400), (14, 400), (15, 400), (16, 400), (17, 400), (18, 400), (19, 400), (20, 400), (21, 400), (61, 9), (62, 9), (63, 9)]
/-- a book is held by rows that are the same as far as the book goes -/
theorem RB.lim {B : Bk} {ln : Nat} {S T : Md} (hok : bk_ok B ln) (h : RB B S) (s1 : ∀ k, k = 1 ∨ k = 2 ∨ k = 3 ∨ k = 4 ∨ k = 5 ∨ k = 60 → T.1 k = S.1 k) (s2 : ∀ e, e ∈ mkb → ∀ i, i < e.2 → T.2.2.1 e.1 i = S.2.2.1 e.1 i) : RB B T := by
  obtain ⟨-, ⟨-, l1, -⟩, ⟨-, l2, -⟩, ⟨-, l3, -⟩, ⟨-, l4, -⟩, ⟨-, l5, -⟩⟩ := hok
  obtain ⟨⟨a1, a2, a3, a4, a5, a6⟩, b1, b2, b3, b4, b5⟩ := h
  refine ⟨⟨(s1 1 (by omega)).trans a1, (s1 2 (by omega)).trans a2, (s1 3 (by omega)).trans a3, (s1 4 (by omega)).trans a4, (s1 5 (by omega)).trans a5, (s1 60 (by omega)).trans a6⟩, fun k hk => ?_, fun k hk => ?_, fun k hk => ?_, fun k hk => ?_, fun k hk => ?_⟩
  · obtain ⟨c1, c2⟩ := b1 k hk
    exact ⟨(s2 (6, 16) (by decide) k (by show k < 16; omega)).trans c1, (s2 (7, 16) (by decide) k (by show k < 16; omega)).trans c2⟩
  · obtain ⟨c1, c2, c3⟩ := b2 k hk
    exact ⟨(s2 (8, 24) (by decide) k (by show k < 24; omega)).trans c1, (s2 (9, 24) (by decide) k (by show k < 24; omega)).trans c2, (s2 (10, 24) (by decide) k (by show k < 24; omega)).trans c3⟩
  · obtain ⟨c1, c2⟩ := b3 k hk
    exact ⟨(s2 (11, 80) (by decide) k (by show k < 80; omega)).trans c1, (s2 (12, 80) (by decide) k (by show k < 80; omega)).trans c2⟩
  · obtain ⟨c1, c2, c3, c4, c5, c6, c7, c8, c9⟩ := b4 k hk
    have hk4 : k < 400 := by omega
    exact ⟨(s2 (13, 400) (by decide) k hk4).trans c1, (s2 (14, 400) (by decide) k hk4).trans c2, (s2 (15, 400) (by decide) k hk4).trans c3, (s2 (16, 400) (by decide) k hk4).trans c4, (s2 (17, 400) (by decide) k hk4).trans c5, (s2 (18, 400) (by decide) k hk4).trans c6, (s2 (19, 400) (by decide) k hk4).trans c7, (s2 (20, 400) (by decide) k hk4).trans c8, (s2 (21, 400) (by decide) k hk4).trans c9⟩
  · obtain ⟨c1, c2, c3⟩ := b5 k hk
    exact ⟨(s2 (61, 9) (by decide) k (by show k < 9; omega)).trans c1, (s2 (62, 9) (by decide) k (by show k < 9; omega)).trans c2, (s2 (63, 9) (by decide) k (by show k < 9; omega)).trans c3⟩
def mkL : List (Nat × Nat × Nat) := [(63, 3888, 9), (62, 3879, 9), (61, 3870, 9), (21, 3470, 400), (20, 3070, 400), (19, 2670, 400), (18, 2270, 400), (17, 1870, 400), (16, 1470, 400), (15, 1070, 400), (14, 670, 400), (13, 270, 400), (12, 190, 80), (11, 110, 80), (10, 86, 24), (9, 62, 24), (8, 38, 24), (7, 22, 16), (6, 6, 16), (69, 0, 6)]
theorem mkL_at : ∀ e, e ∈ mkb → (e.1, mkf e.1, e.2) ∈ mkL := by decide
theorem mkL_b : ∀ e, e ∈ mkL → e.2.1 + e.2.2 ≤ 3900 := by decide
/-- what mark leaves -/
def mkd (S : Md) (r : Nat) (W : Md) : Prop := (∀ j, j ≠ 71 → j ≠ 72 → W.1 j = S.1 j) ∧ W.2.1 = S.2.1 ∧ W.2.2.2 = S.2.2.2 ∧ (∀ j, j ≠ 68 → j ≠ 69 → j ≠ 70 → W.2.2.1 j = S.2.2.1 j) ∧ (∀ t, W.2.2.1 70 t = if t = r then 1 else S.2.2.1 70 t) ∧ (∀ t, (t < 3900 * r ∨ 3900 * r + 3900 ≤ t) → W.2.2.1 68 t = S.2.2.1 68 t) ∧ (∀ k, k = 1 ∨ k = 2 ∨ k = 3 ∨ k = 4 ∨ k = 5 ∨ k = 60 → (blk W r).1 k = S.1 k) ∧ ∀ e, e ∈ mkb → ∀ i, i < e.2 → (blk W r).2.2.1 e.1 i = S.2.2.1 e.1 i
/-- what back leaves -/
def bkd (S : Md) (r : Nat) (W : Md) : Prop := (∀ j, j ≠ 71 → j ≠ 72 → j ≠ 1 → j ≠ 2 → j ≠ 3 → j ≠ 4 → j ≠ 5 → j ≠ 60 → W.1 j = S.1 j) ∧ W.2.1 = S.2.1 ∧ W.2.2.2 = S.2.2.2 ∧ (∀ j, (21 < j ∧ j < 61) ∨ 63 < j → j ≠ 69 → W.2.2.1 j = S.2.2.1 j) ∧ (∀ k, k = 1 ∨ k = 2 ∨ k = 3 ∨ k = 4 ∨ k = 5 ∨ k = 60 → W.1 k = (blk S r).1 k) ∧ ∀ e, e ∈ mkb → ∀ i, i < e.2 → W.2.2.1 e.1 i = (blk S r).2.2.1 e.1 i
theorem mkb_ne : ∀ e, e ∈ mkb → e.1 ≠ 69 ∧ e.1 ≠ 70 := by decide
theorem dX12_mark_0 : decode cX12_mark 0 = .ok (.iload_n 1, 1) := by decide +kernel
theorem dX12_mark_1 : decode cX12_mark 1 = .ok (.i2l, 1) := by decide +kernel
theorem dX12_mark_2 : decode cX12_mark 2 = .ok (.lconst 0, 1) := by decide +kernel
theorem dX12_mark_3 : decode cX12_mark 3 = .ok (.ldc2_w 208, 3) := by decide +kernel
theorem dX12_mark_6 : decode cX12_mark 6 = .ok (.invokestatic 181, 3) := by decide +kernel
theorem dX12_mark_9 : decode cX12_mark 9 = .ok (.ifCond .ne 5, 3) := by decide +kernel
theorem dX12_mark_12 : decode cX12_mark 12 = .ok (.iconst (-1), 1) := by decide +kernel
theorem dX12_mark_13 : decode cX12_mark 13 = .ok (.ireturn, 1) := by decide +kernel
theorem dX12_mark_14 : decode cX12_mark 14 = .ok (.aload_n 0, 1) := by decide +kernel
theorem dX12_mark_15 : decode cX12_mark 15 = .ok (.getfield 169, 3) := by decide +kernel
theorem dX12_mark_18 : decode cX12_mark 18 = .ok (.iconst 0, 1) := by decide +kernel
theorem dX12_mark_19 : decode cX12_mark 19 = .ok (.aload_n 0, 1) := by decide +kernel
theorem dX12_mark_20 : decode cX12_mark 20 = .ok (.getfield 185, 3) := by decide +kernel
theorem dX12_mark_23 : decode cX12_mark 23 = .ok (.iastore, 1) := by decide +kernel
theorem dX12_mark_24 : decode cX12_mark 24 = .ok (.aload_n 0, 1) := by decide +kernel
theorem dX12_mark_25 : decode cX12_mark 25 = .ok (.getfield 169, 3) := by decide +kernel
theorem dX12_mark_28 : decode cX12_mark 28 = .ok (.iconst 1, 1) := by decide +kernel
theorem dX12_mark_29 : decode cX12_mark 29 = .ok (.aload_n 0, 1) := by decide +kernel
theorem dX12_mark_30 : decode cX12_mark 30 = .ok (.getfield 188, 3) := by decide +kernel
theorem dX12_mark_33 : decode cX12_mark 33 = .ok (.iastore, 1) := by decide +kernel
theorem dX12_mark_34 : decode cX12_mark 34 = .ok (.aload_n 0, 1) := by decide +kernel
theorem dX12_mark_35 : decode cX12_mark 35 = .ok (.getfield 169, 3) := by decide +kernel
theorem dX12_mark_38 : decode cX12_mark 38 = .ok (.iconst 2, 1) := by decide +kernel
theorem dX12_mark_39 : decode cX12_mark 39 = .ok (.aload_n 0, 1) := by decide +kernel
theorem dX12_mark_40 : decode cX12_mark 40 = .ok (.getfield 191, 3) := by decide +kernel
theorem dX12_mark_43 : decode cX12_mark 43 = .ok (.iastore, 1) := by decide +kernel
theorem dX12_mark_44 : decode cX12_mark 44 = .ok (.aload_n 0, 1) := by decide +kernel
theorem dX12_mark_45 : decode cX12_mark 45 = .ok (.getfield 169, 3) := by decide +kernel
theorem dX12_mark_48 : decode cX12_mark 48 = .ok (.iconst 3, 1) := by decide +kernel
theorem dX12_mark_49 : decode cX12_mark 49 = .ok (.aload_n 0, 1) := by decide +kernel
theorem dX12_mark_50 : decode cX12_mark 50 = .ok (.getfield 194, 3) := by decide +kernel
theorem dX12_mark_53 : decode cX12_mark 53 = .ok (.iastore, 1) := by decide +kernel
theorem dX12_mark_54 : decode cX12_mark 54 = .ok (.aload_n 0, 1) := by decide +kernel
theorem dX12_mark_55 : decode cX12_mark 55 = .ok (.getfield 169, 3) := by decide +kernel
theorem dX12_mark_58 : decode cX12_mark 58 = .ok (.iconst 4, 1) := by decide +kernel
theorem dX12_mark_59 : decode cX12_mark 59 = .ok (.aload_n 0, 1) := by decide +kernel
theorem dX12_mark_60 : decode cX12_mark 60 = .ok (.getfield 197, 3) := by decide +kernel
theorem dX12_mark_63 : decode cX12_mark 63 = .ok (.iastore, 1) := by decide +kernel
theorem dX12_mark_64 : decode cX12_mark 64 = .ok (.aload_n 0, 1) := by decide +kernel
theorem dX12_mark_65 : decode cX12_mark 65 = .ok (.getfield 169, 3) := by decide +kernel
theorem dX12_mark_68 : decode cX12_mark 68 = .ok (.iconst 5, 1) := by decide +kernel
theorem dX12_mark_69 : decode cX12_mark 69 = .ok (.aload_n 0, 1) := by decide +kernel
theorem dX12_mark_70 : decode cX12_mark 70 = .ok (.getfield 468, 3) := by decide +kernel
theorem dX12_mark_73 : decode cX12_mark 73 = .ok (.iastore, 1) := by decide +kernel
theorem dX12_mark_74 : decode cX12_mark 74 = .ok (.aload_n 0, 1) := by decide +kernel
theorem dX12_mark_75 : decode cX12_mark 75 = .ok (.getfield 172, 3) := by decide +kernel
theorem dX12_mark_78 : decode cX12_mark 78 = .ok (.iload_n 1, 1) := by decide +kernel
theorem dX12_mark_79 : decode cX12_mark 79 = .ok (.iconst 1, 1) := by decide +kernel
theorem dX12_mark_80 : decode cX12_mark 80 = .ok (.bastore, 1) := by decide +kernel
theorem dX12_mark_81 : decode cX12_mark 81 = .ok (.aload_n 0, 1) := by decide +kernel
theorem dX12_mark_82 : decode cX12_mark 82 = .ok (.iconst 0, 1) := by decide +kernel
theorem dX12_mark_83 : decode cX12_mark 83 = .ok (.putfield 496, 3) := by decide +kernel
theorem dX12_mark_86 : decode cX12_mark 86 = .ok (.aload_n 0, 1) := by decide +kernel
theorem dX12_mark_87 : decode cX12_mark 87 = .ok (.iload_n 1, 1) := by decide +kernel
theorem dX12_mark_88 : decode cX12_mark 88 = .ok (.invokevirtual 507, 3) := by decide +kernel
theorem dX12_mark_91 : decode cX12_mark 91 = .ok (.aload_n 0, 1) := by decide +kernel
theorem dX12_mark_92 : decode cX12_mark 92 = .ok (.getfield 185, 3) := by decide +kernel
theorem dX12_mark_95 : decode cX12_mark 95 = .ok (.ireturn, 1) := by decide +kernel
set_option maxRecDepth 100000 in
set_option maxHeartbeats 4000000 in
theorem c_X12_mark {h : ai_H} {S : Md} (hmd : md_at h S) (k : Int32) : ai_QM MX12_mark [.ref 307, .int k] h (fun res g => md_ext h g ∧ (((bi_in k 0 3 = 0) ∧ res = some (.int (-1)) ∧ ∃ V, md_at g V ∧ mq S V) ∨ ∃ r, r ≤ 3 ∧ k = nI r ∧ res = some (.int (S.1 1)) ∧ ∃ W, md_at g W ∧ mkd S r W)) := by
  refine qm_of (ls := [.ref 307, .int k]) (by decide) (by simp [ai_en, Value.category]) (by rfl) ?_
  refine wq (fun _ _ kk => rs_iload_n (pc := 0) dX12_mark_0 rfl kk) ?_
  refine wq (fun _ _ kk => rs_i2l (pc := 1) dX12_mark_1 kk) ?_
  refine wq (fun _ _ kk => rs_lconst (v := 0) (pc := 2) dX12_mark_2 rfl kk) ?_
  refine wq (fun _ _ kk => rs_ldc2 (pc := 3) dX12_mark_3 cnX12_208 kk) ?_
  refine wq (fun _ _ kk => rs_callS (as := [_, _, _]) (pc := 6) dX12_mark_6 mk_X12_in mlX12_181 st_X12_in rfl rfl (Nat.le_of_ble_eq_true rfl) (c_X12_inI k 0 3) kk) ?_
  refine wq_bn (fun _ _ kt kf => rs_if_ne (tgt := 14) (pc := 9) dX12_mark_9 rfl kt kf) (fun c_9 => ?_) (fun c_9 => ?_)
  · refine wq (fun _ _ kk => rs_aload_n (pc := 14) dX12_mark_14 rfl kk) ?_
    refine wq (fun _ _ kk => rs_getf (pc := 15) dX12_mark_15 fX12_169 (md_lt hmd (by decide)) hmd.2.1 rfl kk) ?_
    refine wq (fun _ _ kk => rs_iconst (v := 0) (pc := 18) dX12_mark_18 rfl kk) ?_
    refine wq (fun _ _ kk => rs_aload_n (pc := 19) dX12_mark_19 rfl kk) ?_
    refine wq (fun _ _ kk => rs_getf (pc := 20) dX12_mark_20 fX12_185 (md_lt hmd (by decide)) hmd.2.1 rfl kk) ?_
    obtain ⟨r, -, hr3, rfl⟩ := bi_in_rng (lo := 0) (hi := 3) (by decide) (by decide) c_9
    refine wq (fun _ _ kk => rs_iast (pc := 23) dX12_mark_23 (md_lt hmd (by decide)) (md_geti (d := 52) (k := 69) (kd := 0) (n := 6) rfl (by decide) hmd) (vp_in_nI (n := 0) (N := 6) (by decide) (by decide)) kk) ?_
    refine wq_gen (fun h_1 e_1 => ?_)
    obtain ⟨m_1, s_1, g_1, o_1⟩ := ai_e1 e_1
    replace hmd := md_at_ai (d := 52) rfl (by decide) hmd m_1 g_1 o_1
    have E_1 := (md_ext.rf).trans (md_ext_of m_1 s_1 o_1 (by decide))
    refine wq (fun _ _ kk => rs_aload_n (pc := 24) dX12_mark_24 rfl kk) ?_
    refine wq (fun _ _ kk => rs_getf (pc := 25) dX12_mark_25 fX12_169 (md_lt hmd (by decide)) hmd.2.1 rfl kk) ?_
    refine wq (fun _ _ kk => rs_iconst (v := 1) (pc := 28) dX12_mark_28 rfl kk) ?_
    refine wq (fun _ _ kk => rs_aload_n (pc := 29) dX12_mark_29 rfl kk) ?_
    refine wq (fun _ _ kk => rs_getf (pc := 30) dX12_mark_30 fX12_188 (md_lt hmd (by decide)) hmd.2.1 rfl kk) ?_
    refine wq (fun _ _ kk => rs_iast (pc := 33) dX12_mark_33 (md_lt hmd (by decide)) (md_geti (d := 52) (k := 69) (kd := 0) (n := 6) rfl (by decide) hmd) (vp_in_nI (n := 1) (N := 6) (by decide) (by decide)) kk) ?_
    refine wq_gen (fun h_2 e_2 => ?_)
    obtain ⟨m_2, s_2, g_2, o_2⟩ := ai_e1 e_2
    replace hmd := md_at_ai (d := 52) rfl (by decide) hmd m_2 g_2 o_2
    have E_2 := (E_1).trans (md_ext_of m_2 s_2 o_2 (by decide))
    refine wq (fun _ _ kk => rs_aload_n (pc := 34) dX12_mark_34 rfl kk) ?_
    refine wq (fun _ _ kk => rs_getf (pc := 35) dX12_mark_35 fX12_169 (md_lt hmd (by decide)) hmd.2.1 rfl kk) ?_
    refine wq (fun _ _ kk => rs_iconst (v := 2) (pc := 38) dX12_mark_38 rfl kk) ?_
    refine wq (fun _ _ kk => rs_aload_n (pc := 39) dX12_mark_39 rfl kk) ?_
    refine wq (fun _ _ kk => rs_getf (pc := 40) dX12_mark_40 fX12_191 (md_lt hmd (by decide)) hmd.2.1 rfl kk) ?_
    refine wq (fun _ _ kk => rs_iast (pc := 43) dX12_mark_43 (md_lt hmd (by decide)) (md_geti (d := 52) (k := 69) (kd := 0) (n := 6) rfl (by decide) hmd) (vp_in_nI (n := 2) (N := 6) (by decide) (by decide)) kk) ?_
    refine wq_gen (fun h_3 e_3 => ?_)
    obtain ⟨m_3, s_3, g_3, o_3⟩ := ai_e1 e_3
    replace hmd := md_at_ai (d := 52) rfl (by decide) hmd m_3 g_3 o_3
    have E_3 := (E_2).trans (md_ext_of m_3 s_3 o_3 (by decide))
    refine wq (fun _ _ kk => rs_aload_n (pc := 44) dX12_mark_44 rfl kk) ?_
    refine wq (fun _ _ kk => rs_getf (pc := 45) dX12_mark_45 fX12_169 (md_lt hmd (by decide)) hmd.2.1 rfl kk) ?_
    refine wq (fun _ _ kk => rs_iconst (v := 3) (pc := 48) dX12_mark_48 rfl kk) ?_
    refine wq (fun _ _ kk => rs_aload_n (pc := 49) dX12_mark_49 rfl kk) ?_
    refine wq (fun _ _ kk => rs_getf (pc := 50) dX12_mark_50 fX12_194 (md_lt hmd (by decide)) hmd.2.1 rfl kk) ?_
    refine wq (fun _ _ kk => rs_iast (pc := 53) dX12_mark_53 (md_lt hmd (by decide)) (md_geti (d := 52) (k := 69) (kd := 0) (n := 6) rfl (by decide) hmd) (vp_in_nI (n := 3) (N := 6) (by decide) (by decide)) kk) ?_
    refine wq_gen (fun h_4 e_4 => ?_)
    obtain ⟨m_4, s_4, g_4, o_4⟩ := ai_e1 e_4
    replace hmd := md_at_ai (d := 52) rfl (by decide) hmd m_4 g_4 o_4
    have E_4 := (E_3).trans (md_ext_of m_4 s_4 o_4 (by decide))
    refine wq (fun _ _ kk => rs_aload_n (pc := 54) dX12_mark_54 rfl kk) ?_
    refine wq (fun _ _ kk => rs_getf (pc := 55) dX12_mark_55 fX12_169 (md_lt hmd (by decide)) hmd.2.1 rfl kk) ?_
    refine wq (fun _ _ kk => rs_iconst (v := 4) (pc := 58) dX12_mark_58 rfl kk) ?_
    refine wq (fun _ _ kk => rs_aload_n (pc := 59) dX12_mark_59 rfl kk) ?_
    refine wq (fun _ _ kk => rs_getf (pc := 60) dX12_mark_60 fX12_197 (md_lt hmd (by decide)) hmd.2.1 rfl kk) ?_
    refine wq (fun _ _ kk => rs_iast (pc := 63) dX12_mark_63 (md_lt hmd (by decide)) (md_geti (d := 52) (k := 69) (kd := 0) (n := 6) rfl (by decide) hmd) (vp_in_nI (n := 4) (N := 6) (by decide) (by decide)) kk) ?_
    refine wq_gen (fun h_5 e_5 => ?_)
    obtain ⟨m_5, s_5, g_5, o_5⟩ := ai_e1 e_5
    replace hmd := md_at_ai (d := 52) rfl (by decide) hmd m_5 g_5 o_5
    have E_5 := (E_4).trans (md_ext_of m_5 s_5 o_5 (by decide))
    refine wq (fun _ _ kk => rs_aload_n (pc := 64) dX12_mark_64 rfl kk) ?_
    refine wq (fun _ _ kk => rs_getf (pc := 65) dX12_mark_65 fX12_169 (md_lt hmd (by decide)) hmd.2.1 rfl kk) ?_
    refine wq (fun _ _ kk => rs_iconst (v := 5) (pc := 68) dX12_mark_68 rfl kk) ?_
    refine wq (fun _ _ kk => rs_aload_n (pc := 69) dX12_mark_69 rfl kk) ?_
    refine wq (fun _ _ kk => rs_getf (pc := 70) dX12_mark_70 fX12_468 (md_lt hmd (by decide)) hmd.2.1 rfl kk) ?_
    refine wq (fun _ _ kk => rs_iast (pc := 73) dX12_mark_73 (md_lt hmd (by decide)) (md_geti (d := 52) (k := 69) (kd := 0) (n := 6) rfl (by decide) hmd) (vp_in_nI (n := 5) (N := 6) (by decide) (by decide)) kk) ?_
    refine wq_gen (fun h_6 e_6 => ?_)
    obtain ⟨m_6, s_6, g_6, o_6⟩ := ai_e1 e_6
    replace hmd := md_at_ai (d := 52) rfl (by decide) hmd m_6 g_6 o_6
    have E_6 := (E_5).trans (md_ext_of m_6 s_6 o_6 (by decide))
    refine wq (fun _ _ kk => rs_aload_n (pc := 74) dX12_mark_74 rfl kk) ?_
    refine wq (fun _ _ kk => rs_getf (pc := 75) dX12_mark_75 fX12_172 (md_lt hmd (by decide)) hmd.2.1 rfl kk) ?_
    refine wq (fun _ _ kk => rs_iload_n (pc := 78) dX12_mark_78 rfl kk) ?_
    refine wq (fun _ _ kk => rs_iconst (v := 1) (pc := 79) dX12_mark_79 rfl kk) ?_
    refine wq (fun _ _ kk => rs_zast (pc := 80) dX12_mark_80 (md_lt hmd (by decide)) (md_geti (d := 53) (k := 70) (kd := 2) (n := 4) rfl (by decide) hmd) (vp_in_nI (n := r) (N := 4) (by omega) (by decide)) kk) ?_
    refine wq_gen (fun h_7 e_7 => ?_)
    obtain ⟨m_7, s_7, g_7, o_7⟩ := ai_e1 e_7
    replace hmd := md_at_ai (d := 53) rfl (by decide) hmd m_7 g_7 o_7
    have E_7 := (E_6).trans (md_ext_of m_7 s_7 o_7 (by decide))
    refine wq (fun _ _ kk => rs_aload_n (pc := 81) dX12_mark_81 rfl kk) ?_
    refine wq (fun _ _ kk => rs_iconst (v := 0) (pc := 82) dX12_mark_82 rfl kk) ?_
    refine wq (fun _ _ kk => rs_putf (pc := 83) dX12_mark_83 fX12_496 (md_lt hmd (by decide)) hmd.2.1 rfl (Nat.le_of_ble_eq_true rfl) kk) ?_
    refine wq_gen (fun h_8 e_8 => ?_)
    obtain ⟨m_8, s_8, g_8, o_8⟩ := ai_e1 e_8
    replace hmd := md_at_si (k := 72) hmd m_8 g_8 o_8 rfl
    have E_8 := (E_7).trans (md_ext_of m_8 s_8 o_8 (by decide))
    refine wq (fun _ _ kk => rs_aload_n (pc := 86) dX12_mark_86 rfl kk) ?_
    refine wq (fun _ _ kk => rs_iload_n (pc := 87) dX12_mark_87 rfl kk) ?_
    obtain ⟨V, eV⟩ : ∃ V, md_at h_8 V ∧ (∀ j, j ≠ 72 → V.1 j = S.1 j) ∧ V.1 72 = 0 ∧ V.2.1 = S.2.1 ∧ V.2.2.2 = S.2.2.2 ∧ (∀ j, j ≠ 69 → j ≠ 70 → V.2.2.1 j = S.2.2.1 j) ∧ (∀ t, V.2.2.1 70 t = if t = r then 1 else S.2.2.1 70 t) ∧ V.2.2.1 69 0 = S.1 1 ∧ V.2.2.1 69 1 = S.1 2 ∧ V.2.2.1 69 2 = S.1 3 ∧ V.2.2.1 69 3 = S.1 4 ∧ V.2.2.1 69 4 = S.1 5 ∧ V.2.2.1 69 5 = S.1 60 := by
      refine ⟨_, hmd, fun j hj => pk_un hj, rfl, rfl, rfl, fun j h1 h2 => ?_, fun t => ?_, rfl, rfl, rfl, rfl, rfl, rfl⟩
      · simp only [md_si, md_ai, va_up, if_neg h1, if_neg h2]
      · show upd _ (nI r).toNatClampNeg _ t = _
        rw [nI_clamp (by omega)]
        rfl
    clear hmd
    obtain ⟨hmd, v1, v2, v3, v4, v5, v6, w0, w1, w2, w3, w4, w5⟩ := eV
    obtain ⟨rv_88, hc_88, ⟨rfl, ee_88, W, hmd_88, hko⟩, hm_88⟩ := co_X12_carries (S := V) (show r < 4 by omega) v2 hmd
    refine wq (fun _ _ kk => rs_callV (as := [_]) (pc := 88) dX12_mark_88 mk_X12_carries mlX12_507 in_X12_carries se_X12_carries rfl (md_lt hmd (by decide)) hmd.2.1 rfl rfl (Nat.le_of_ble_eq_true rfl) (hm_88) kk) ?_
    replace hmd := hmd_88
    have E_88 := (E_8).trans ee_88
    refine wq (fun _ _ kk => rs_aload_n (pc := 91) dX12_mark_91 rfl kk) ?_
    refine wq (fun _ _ kk => rs_getf (pc := 92) dX12_mark_92 fX12_185 (md_lt hmd (by decide)) hmd.2.1 rfl kk) ?_
    rw [show W.1 1 = S.1 1 from (hko.2.1 1 (by decide)).trans (v1 1 (by decide))]
    refine wq_ret ?_ (rs_iret (pc := 95) dX12_mark_95 rfl)
    refine ⟨E_88, Or.inr ⟨r, hr3, rfl, rfl, W, hmd, ?_⟩⟩
    obtain ⟨k1, k2, k3, k4, k5, k6, k7⟩ := hko
    have sc : ∀ i, i < 6 → W.2.2.1 68 (3900 * r + i) = V.2.2.1 69 i := fun i hi => by
      have := (k7 (69, 0, 6) (by decide)).2 i hi
      rw [show 3900 * r + (0 + i) = 3900 * r + i by omega] at this
      exact this
    refine ⟨fun j h1 h2 => (k2 j h1).trans (v1 j h2), k3.trans v3, k4.trans v4, fun j h1 h2 h3 => (k5 j h1).trans (v5 j h2 h3), fun t => by rw [k5 70 (by decide)]; exact v6 t, fun t ht => by rw [k6 t (by omega)]; rw [v5 68 (by decide) (by decide)], fun k hk => ?_, fun e he i hi => ?_⟩
    · show W.2.2.1 68 (3900 * r + (if k = 60 then 5 else k - 1)) = _
      rcases hk with rfl | rfl | rfl | rfl | rfl | rfl
      · exact (sc 0 (by decide)).trans w0
      · exact (sc 1 (by decide)).trans w1
      · exact (sc 2 (by decide)).trans w2
      · exact (sc 3 (by decide)).trans w3
      · exact (sc 4 (by decide)).trans w4
      · exact (sc 5 (by decide)).trans w5
    · have := (k7 _ (mkL_at e he)).2 i hi
      exact this.trans (by rw [v5 e.1 (mkb_ne e he).1 (mkb_ne e he).2])
  · refine wq (fun _ _ kk => rs_iconst (v := -1) (pc := 12) dX12_mark_12 rfl kk) ?_
    refine wq_ret ?_ (rs_iret (pc := 13) dX12_mark_13 rfl)
    exact ⟨md_ext.rf, Or.inl ⟨c_9, rfl, S, hmd, mq.rf⟩⟩
theorem mkL_s : ∀ e, e ∈ mkL → e.1 = 69 ∨ e.1 ≤ 21 ∨ (61 ≤ e.1 ∧ e.1 ≤ 63) := by decide
theorem dX12_back_0 : decode cX12_back 0 = .ok (.iload_n 1, 1) := by decide +kernel
theorem dX12_back_1 : decode cX12_back 1 = .ok (.i2l, 1) := by decide +kernel
theorem dX12_back_2 : decode cX12_back 2 = .ok (.lconst 0, 1) := by decide +kernel
theorem dX12_back_3 : decode cX12_back 3 = .ok (.ldc2_w 208, 3) := by decide +kernel
theorem dX12_back_6 : decode cX12_back 6 = .ok (.invokestatic 181, 3) := by decide +kernel
theorem dX12_back_9 : decode cX12_back 9 = .ok (.ifCond .eq 12, 3) := by decide +kernel
theorem dX12_back_12 : decode cX12_back 12 = .ok (.aload_n 0, 1) := by decide +kernel
theorem dX12_back_13 : decode cX12_back 13 = .ok (.getfield 172, 3) := by decide +kernel
theorem dX12_back_16 : decode cX12_back 16 = .ok (.iload_n 1, 1) := by decide +kernel
theorem dX12_back_17 : decode cX12_back 17 = .ok (.baload, 1) := by decide +kernel
theorem dX12_back_18 : decode cX12_back 18 = .ok (.ifCond .ne 5, 3) := by decide +kernel
theorem dX12_back_21 : decode cX12_back 21 = .ok (.iconst (-1), 1) := by decide +kernel
theorem dX12_back_22 : decode cX12_back 22 = .ok (.ireturn, 1) := by decide +kernel
theorem dX12_back_23 : decode cX12_back 23 = .ok (.aload_n 0, 1) := by decide +kernel
theorem dX12_back_24 : decode cX12_back 24 = .ok (.iconst 1, 1) := by decide +kernel
theorem dX12_back_25 : decode cX12_back 25 = .ok (.putfield 496, 3) := by decide +kernel
theorem dX12_back_28 : decode cX12_back 28 = .ok (.aload_n 0, 1) := by decide +kernel
theorem dX12_back_29 : decode cX12_back 29 = .ok (.iload_n 1, 1) := by decide +kernel
theorem dX12_back_30 : decode cX12_back 30 = .ok (.invokevirtual 507, 3) := by decide +kernel
theorem dX12_back_33 : decode cX12_back 33 = .ok (.aload_n 0, 1) := by decide +kernel
theorem dX12_back_34 : decode cX12_back 34 = .ok (.aload_n 0, 1) := by decide +kernel
theorem dX12_back_35 : decode cX12_back 35 = .ok (.getfield 169, 3) := by decide +kernel
theorem dX12_back_38 : decode cX12_back 38 = .ok (.iconst 0, 1) := by decide +kernel
theorem dX12_back_39 : decode cX12_back 39 = .ok (.iaload, 1) := by decide +kernel
theorem dX12_back_40 : decode cX12_back 40 = .ok (.putfield 185, 3) := by decide +kernel
theorem dX12_back_43 : decode cX12_back 43 = .ok (.aload_n 0, 1) := by decide +kernel
theorem dX12_back_44 : decode cX12_back 44 = .ok (.aload_n 0, 1) := by decide +kernel
theorem dX12_back_45 : decode cX12_back 45 = .ok (.getfield 169, 3) := by decide +kernel
theorem dX12_back_48 : decode cX12_back 48 = .ok (.iconst 1, 1) := by decide +kernel
theorem dX12_back_49 : decode cX12_back 49 = .ok (.iaload, 1) := by decide +kernel
theorem dX12_back_50 : decode cX12_back 50 = .ok (.putfield 188, 3) := by decide +kernel
theorem dX12_back_53 : decode cX12_back 53 = .ok (.aload_n 0, 1) := by decide +kernel
theorem dX12_back_54 : decode cX12_back 54 = .ok (.aload_n 0, 1) := by decide +kernel
theorem dX12_back_55 : decode cX12_back 55 = .ok (.getfield 169, 3) := by decide +kernel
theorem dX12_back_58 : decode cX12_back 58 = .ok (.iconst 2, 1) := by decide +kernel
theorem dX12_back_59 : decode cX12_back 59 = .ok (.iaload, 1) := by decide +kernel
theorem dX12_back_60 : decode cX12_back 60 = .ok (.putfield 191, 3) := by decide +kernel
theorem dX12_back_63 : decode cX12_back 63 = .ok (.aload_n 0, 1) := by decide +kernel
theorem dX12_back_64 : decode cX12_back 64 = .ok (.aload_n 0, 1) := by decide +kernel
theorem dX12_back_65 : decode cX12_back 65 = .ok (.getfield 169, 3) := by decide +kernel
theorem dX12_back_68 : decode cX12_back 68 = .ok (.iconst 3, 1) := by decide +kernel
theorem dX12_back_69 : decode cX12_back 69 = .ok (.iaload, 1) := by decide +kernel
theorem dX12_back_70 : decode cX12_back 70 = .ok (.putfield 194, 3) := by decide +kernel
theorem dX12_back_73 : decode cX12_back 73 = .ok (.aload_n 0, 1) := by decide +kernel
theorem dX12_back_74 : decode cX12_back 74 = .ok (.aload_n 0, 1) := by decide +kernel
theorem dX12_back_75 : decode cX12_back 75 = .ok (.getfield 169, 3) := by decide +kernel
theorem dX12_back_78 : decode cX12_back 78 = .ok (.iconst 4, 1) := by decide +kernel
theorem dX12_back_79 : decode cX12_back 79 = .ok (.iaload, 1) := by decide +kernel
theorem dX12_back_80 : decode cX12_back 80 = .ok (.putfield 197, 3) := by decide +kernel
theorem dX12_back_83 : decode cX12_back 83 = .ok (.aload_n 0, 1) := by decide +kernel
theorem dX12_back_84 : decode cX12_back 84 = .ok (.aload_n 0, 1) := by decide +kernel
theorem dX12_back_85 : decode cX12_back 85 = .ok (.getfield 169, 3) := by decide +kernel
theorem dX12_back_88 : decode cX12_back 88 = .ok (.iconst 5, 1) := by decide +kernel
theorem dX12_back_89 : decode cX12_back 89 = .ok (.iaload, 1) := by decide +kernel
theorem dX12_back_90 : decode cX12_back 90 = .ok (.putfield 468, 3) := by decide +kernel
theorem dX12_back_93 : decode cX12_back 93 = .ok (.aload_n 0, 1) := by decide +kernel
theorem dX12_back_94 : decode cX12_back 94 = .ok (.getfield 185, 3) := by decide +kernel
theorem dX12_back_97 : decode cX12_back 97 = .ok (.ireturn, 1) := by decide +kernel
set_option maxRecDepth 100000 in
set_option maxHeartbeats 4000000 in
theorem c_X12_back {h : ai_H} {S : Md} (hmd : md_at h S) (k : Int32) : ai_QM MX12_back [.ref 307, .int k] h (fun res g => md_ext h g ∧ (((bi_in k 0 3 = 0 ∨ S.2.2.1 70 k.toNatClampNeg = 0) ∧ res = some (.int (-1)) ∧ ∃ V, md_at g V ∧ mq S V) ∨ ∃ r, r ≤ 3 ∧ k = nI r ∧ res = some (.int ((blk S r).1 1)) ∧ ¬ S.2.2.1 70 r = 0 ∧ ∃ W, md_at g W ∧ bkd S r W)) := by
  refine qm_of (ls := [.ref 307, .int k]) (by decide) (by simp [ai_en, Value.category]) (by rfl) ?_
  refine wq (fun _ _ kk => rs_iload_n (pc := 0) dX12_back_0 rfl kk) ?_
  refine wq (fun _ _ kk => rs_i2l (pc := 1) dX12_back_1 kk) ?_
  refine wq (fun _ _ kk => rs_lconst (v := 0) (pc := 2) dX12_back_2 rfl kk) ?_
  refine wq (fun _ _ kk => rs_ldc2 (pc := 3) dX12_back_3 cnX12_208 kk) ?_
  refine wq (fun _ _ kk => rs_callS (as := [_, _, _]) (pc := 6) dX12_back_6 mk_X12_in mlX12_181 st_X12_in rfl rfl (Nat.le_of_ble_eq_true rfl) (c_X12_inI k 0 3) kk) ?_
  refine wq_br (fun _ _ kt kf => rs_if_eq (tgt := 21) (pc := 9) dX12_back_9 rfl kt kf) (fun c_9 => ?_) (fun c_9 => ?_)
  · refine wq (fun _ _ kk => rs_iconst (v := -1) (pc := 21) dX12_back_21 rfl kk) ?_
    refine wq_ret ?_ (rs_iret (pc := 22) dX12_back_22 rfl)
    exact ⟨md_ext.rf, Or.inl ⟨by first | exact Or.inl c_9 | exact Or.inr c_18, rfl, S, hmd, mq.rf⟩⟩
  · refine wq (fun _ _ kk => rs_aload_n (pc := 12) dX12_back_12 rfl kk) ?_
    refine wq (fun _ _ kk => rs_getf (pc := 13) dX12_back_13 fX12_172 (md_lt hmd (by decide)) hmd.2.1 rfl kk) ?_
    refine wq (fun _ _ kk => rs_iload_n (pc := 16) dX12_back_16 rfl kk) ?_
    obtain ⟨r, -, hr3, ek⟩ := bi_in_rng (lo := 0) (hi := 3) (by decide) (by decide) c_9
    refine wq (fun _ _ kk => rs_zald (pc := 17) dX12_back_17 (md_lt hmd (by decide)) (md_geti (d := 53) (k := 70) (kd := 2) (n := 4) rfl (by decide) hmd) (by rw [ek]; exact vp_in_nI (n := r) (N := 4) (by omega) (by decide)) kk) ?_
    refine wq_bn (fun _ _ kt kf => rs_if_ne (tgt := 23) (pc := 18) dX12_back_18 rfl kt kf) (fun c_18 => ?_) (fun c_18 => ?_)
    · refine wq (fun _ _ kk => rs_aload_n (pc := 23) dX12_back_23 rfl kk) ?_
      refine wq (fun _ _ kk => rs_iconst (v := 1) (pc := 24) dX12_back_24 rfl kk) ?_
      refine wq (fun _ _ kk => rs_putf (pc := 25) dX12_back_25 fX12_496 (md_lt hmd (by decide)) hmd.2.1 rfl (Nat.le_of_ble_eq_true rfl) kk) ?_
      refine wq_gen (fun h_1 e_1 => ?_)
      obtain ⟨m_1, s_1, g_1, o_1⟩ := ai_e1 e_1
      replace hmd := md_at_si (k := 72) hmd m_1 g_1 o_1 rfl
      have E_1 := (md_ext.rf).trans (md_ext_of m_1 s_1 o_1 (by decide))
      refine wq (fun _ _ kk => rs_aload_n (pc := 28) dX12_back_28 rfl kk) ?_
      refine wq (fun _ _ kk => rs_iload_n (pc := 29) dX12_back_29 rfl kk) ?_
      rw [ek]
      obtain ⟨rv_30, hc_30, ⟨rfl, ee_30, W, hmd_30, hki⟩, hm_30⟩ := ci_X12_carries (show r < 4 by omega) rfl hmd
      refine wq (fun _ _ kk => rs_callV (as := [_]) (pc := 30) dX12_back_30 mk_X12_carries mlX12_507 in_X12_carries se_X12_carries rfl (md_lt hmd (by decide)) hmd.2.1 rfl rfl (Nat.le_of_ble_eq_true rfl) (hm_30) kk) ?_
      replace hmd := hmd_30
      have E_30 := (E_1).trans ee_30
      refine wq (fun _ _ kk => rs_aload_n (pc := 33) dX12_back_33 rfl kk) ?_
      refine wq (fun _ _ kk => rs_aload_n (pc := 34) dX12_back_34 rfl kk) ?_
      refine wq (fun _ _ kk => rs_getf (pc := 35) dX12_back_35 fX12_169 (md_lt hmd (by decide)) hmd.2.1 rfl kk) ?_
      refine wq (fun _ _ kk => rs_iconst (v := 0) (pc := 38) dX12_back_38 rfl kk) ?_
      refine wq (fun _ _ kk => rs_iald (pc := 39) dX12_back_39 (md_lt hmd (by decide)) (md_geti (d := 52) (k := 69) (kd := 0) (n := 6) rfl (by decide) hmd) (vp_in_nI (n := 0) (N := 6) (by decide) (by decide)) kk) ?_
      refine wq (fun _ _ kk => rs_putf (pc := 40) dX12_back_40 fX12_185 (md_lt hmd (by decide)) hmd.2.1 rfl (Nat.le_of_ble_eq_true rfl) kk) ?_
      refine wq_gen (fun h_2 e_2 => ?_)
      obtain ⟨m_2, s_2, g_2, o_2⟩ := ai_e1 e_2
      replace hmd := md_at_si (k := 1) hmd m_2 g_2 o_2 rfl
      have E_2 := (E_30).trans (md_ext_of m_2 s_2 o_2 (by decide))
      refine wq (fun _ _ kk => rs_aload_n (pc := 43) dX12_back_43 rfl kk) ?_
      refine wq (fun _ _ kk => rs_aload_n (pc := 44) dX12_back_44 rfl kk) ?_
      refine wq (fun _ _ kk => rs_getf (pc := 45) dX12_back_45 fX12_169 (md_lt hmd (by decide)) hmd.2.1 rfl kk) ?_
      refine wq (fun _ _ kk => rs_iconst (v := 1) (pc := 48) dX12_back_48 rfl kk) ?_
      refine wq (fun _ _ kk => rs_iald (pc := 49) dX12_back_49 (md_lt hmd (by decide)) (md_geti (d := 52) (k := 69) (kd := 0) (n := 6) rfl (by decide) hmd) (vp_in_nI (n := 1) (N := 6) (by decide) (by decide)) kk) ?_
      refine wq (fun _ _ kk => rs_putf (pc := 50) dX12_back_50 fX12_188 (md_lt hmd (by decide)) hmd.2.1 rfl (Nat.le_of_ble_eq_true rfl) kk) ?_
      refine wq_gen (fun h_3 e_3 => ?_)
      obtain ⟨m_3, s_3, g_3, o_3⟩ := ai_e1 e_3
      replace hmd := md_at_si (k := 2) hmd m_3 g_3 o_3 rfl
      have E_3 := (E_2).trans (md_ext_of m_3 s_3 o_3 (by decide))
      refine wq (fun _ _ kk => rs_aload_n (pc := 53) dX12_back_53 rfl kk) ?_
      refine wq (fun _ _ kk => rs_aload_n (pc := 54) dX12_back_54 rfl kk) ?_
      refine wq (fun _ _ kk => rs_getf (pc := 55) dX12_back_55 fX12_169 (md_lt hmd (by decide)) hmd.2.1 rfl kk) ?_
      refine wq (fun _ _ kk => rs_iconst (v := 2) (pc := 58) dX12_back_58 rfl kk) ?_
      refine wq (fun _ _ kk => rs_iald (pc := 59) dX12_back_59 (md_lt hmd (by decide)) (md_geti (d := 52) (k := 69) (kd := 0) (n := 6) rfl (by decide) hmd) (vp_in_nI (n := 2) (N := 6) (by decide) (by decide)) kk) ?_
      refine wq (fun _ _ kk => rs_putf (pc := 60) dX12_back_60 fX12_191 (md_lt hmd (by decide)) hmd.2.1 rfl (Nat.le_of_ble_eq_true rfl) kk) ?_
      refine wq_gen (fun h_4 e_4 => ?_)
      obtain ⟨m_4, s_4, g_4, o_4⟩ := ai_e1 e_4
      replace hmd := md_at_si (k := 3) hmd m_4 g_4 o_4 rfl
      have E_4 := (E_3).trans (md_ext_of m_4 s_4 o_4 (by decide))
      refine wq (fun _ _ kk => rs_aload_n (pc := 63) dX12_back_63 rfl kk) ?_
      refine wq (fun _ _ kk => rs_aload_n (pc := 64) dX12_back_64 rfl kk) ?_
      refine wq (fun _ _ kk => rs_getf (pc := 65) dX12_back_65 fX12_169 (md_lt hmd (by decide)) hmd.2.1 rfl kk) ?_
      refine wq (fun _ _ kk => rs_iconst (v := 3) (pc := 68) dX12_back_68 rfl kk) ?_
      refine wq (fun _ _ kk => rs_iald (pc := 69) dX12_back_69 (md_lt hmd (by decide)) (md_geti (d := 52) (k := 69) (kd := 0) (n := 6) rfl (by decide) hmd) (vp_in_nI (n := 3) (N := 6) (by decide) (by decide)) kk) ?_
      refine wq (fun _ _ kk => rs_putf (pc := 70) dX12_back_70 fX12_194 (md_lt hmd (by decide)) hmd.2.1 rfl (Nat.le_of_ble_eq_true rfl) kk) ?_
      refine wq_gen (fun h_5 e_5 => ?_)
      obtain ⟨m_5, s_5, g_5, o_5⟩ := ai_e1 e_5
      replace hmd := md_at_si (k := 4) hmd m_5 g_5 o_5 rfl
      have E_5 := (E_4).trans (md_ext_of m_5 s_5 o_5 (by decide))
      refine wq (fun _ _ kk => rs_aload_n (pc := 73) dX12_back_73 rfl kk) ?_
      refine wq (fun _ _ kk => rs_aload_n (pc := 74) dX12_back_74 rfl kk) ?_
      refine wq (fun _ _ kk => rs_getf (pc := 75) dX12_back_75 fX12_169 (md_lt hmd (by decide)) hmd.2.1 rfl kk) ?_
      refine wq (fun _ _ kk => rs_iconst (v := 4) (pc := 78) dX12_back_78 rfl kk) ?_
      refine wq (fun _ _ kk => rs_iald (pc := 79) dX12_back_79 (md_lt hmd (by decide)) (md_geti (d := 52) (k := 69) (kd := 0) (n := 6) rfl (by decide) hmd) (vp_in_nI (n := 4) (N := 6) (by decide) (by decide)) kk) ?_
      refine wq (fun _ _ kk => rs_putf (pc := 80) dX12_back_80 fX12_197 (md_lt hmd (by decide)) hmd.2.1 rfl (Nat.le_of_ble_eq_true rfl) kk) ?_
      refine wq_gen (fun h_6 e_6 => ?_)
      obtain ⟨m_6, s_6, g_6, o_6⟩ := ai_e1 e_6
      replace hmd := md_at_si (k := 5) hmd m_6 g_6 o_6 rfl
      have E_6 := (E_5).trans (md_ext_of m_6 s_6 o_6 (by decide))
      refine wq (fun _ _ kk => rs_aload_n (pc := 83) dX12_back_83 rfl kk) ?_
      refine wq (fun _ _ kk => rs_aload_n (pc := 84) dX12_back_84 rfl kk) ?_
      refine wq (fun _ _ kk => rs_getf (pc := 85) dX12_back_85 fX12_169 (md_lt hmd (by decide)) hmd.2.1 rfl kk) ?_
      refine wq (fun _ _ kk => rs_iconst (v := 5) (pc := 88) dX12_back_88 rfl kk) ?_
      refine wq (fun _ _ kk => rs_iald (pc := 89) dX12_back_89 (md_lt hmd (by decide)) (md_geti (d := 52) (k := 69) (kd := 0) (n := 6) rfl (by decide) hmd) (vp_in_nI (n := 5) (N := 6) (by decide) (by decide)) kk) ?_
      refine wq (fun _ _ kk => rs_putf (pc := 90) dX12_back_90 fX12_468 (md_lt hmd (by decide)) hmd.2.1 rfl (Nat.le_of_ble_eq_true rfl) kk) ?_
      refine wq_gen (fun h_7 e_7 => ?_)
      obtain ⟨m_7, s_7, g_7, o_7⟩ := ai_e1 e_7
      replace hmd := md_at_si (k := 60) hmd m_7 g_7 o_7 rfl
      have E_7 := (E_6).trans (md_ext_of m_7 s_7 o_7 (by decide))
      refine wq (fun _ _ kk => rs_aload_n (pc := 93) dX12_back_93 rfl kk) ?_
      refine wq (fun _ _ kk => rs_getf (pc := 94) dX12_back_94 fX12_185 (md_lt hmd (by decide)) hmd.2.1 rfl kk) ?_
      refine wq_ret ?_ (rs_iret (pc := 97) dX12_back_97 rfl)
      obtain ⟨k1, k2, k3, k4, k5, k6⟩ := hki
      have sc : ∀ i, i < 6 → W.2.2.1 69 i = S.2.2.1 68 (3900 * r + i) := fun i hi => by
        have := k6 (69, 0, 6) (by decide) i hi
        rw [show 3900 * r + (0 + i) = 3900 * r + i by omega] at this
        exact this
      refine ⟨E_7, Or.inr ⟨r, hr3, rfl, ?_, by rw [ek, nI_clamp (by omega)] at c_18; exact c_18, _, hmd, ?_⟩⟩
      · show some (Value.int (W.2.2.1 69 0)) = _
        rw [sc 0 (by decide)]
        rfl
      · refine ⟨fun j h1 h2 h3 h4 h5 h6 h7 h8 => ?_, k3, k4, fun j h1 h2 => k5 j ?_, fun k hk => ?_, fun e he i hi => k6 _ (mkL_at e he) i hi⟩
        · simp only [md_si, upd, if_neg h3, if_neg h4, if_neg h5, if_neg h6, if_neg h7, if_neg h8]
          rw [k2 j h1]
          exact pk_un h2
        · intro e he z
          have := mkL_s e he
          omega
        · show _ = S.2.2.1 68 (3900 * r + (if k = 60 then 5 else k - 1))
          rcases hk with rfl | rfl | rfl | rfl | rfl | rfl
          · exact sc 0 (by decide)
          · exact sc 1 (by decide)
          · exact sc 2 (by decide)
          · exact sc 3 (by decide)
          · exact sc 4 (by decide)
          · exact sc 5 (by decide)
    · refine wq (fun _ _ kk => rs_iconst (v := -1) (pc := 21) dX12_back_21 rfl kk) ?_
      refine wq_ret ?_ (rs_iret (pc := 22) dX12_back_22 rfl)
      exact ⟨md_ext.rf, Or.inl ⟨by first | exact Or.inl c_9 | exact Or.inr c_18, rfl, S, hmd, mq.rf⟩⟩
