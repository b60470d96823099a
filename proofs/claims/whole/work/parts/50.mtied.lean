/-! 50: tied, plan, next of the model (walks laid by wip/whole/p50.py) -/
/-- the labels alone have changed -/
def hpp (V W : Md) : Prop := W.1 = V.1 ∧ W.2.1 = V.2.1 ∧ (∀ k, k ≠ 64 → W.2.2.1 k = V.2.2.1 k) ∧ W.2.2.2 = V.2.2.2
theorem hpp.rf {V : Md} : hpp V V := ⟨rfl, rfl, fun _ _ => rfl, rfl⟩
theorem hpp.trans {V W X : Md} (a : hpp V W) (b : hpp W X) : hpp V X := ⟨b.1.trans a.1, b.2.1.trans a.2.1, fun k hk => (b.2.2.1 k hk).trans (a.2.2.1 k hk), b.2.2.2.trans a.2.2.2⟩
theorem hpp.ai {V W : Md} {f : Nat → Int32} (a : hpp V W) : hpp V (md_ai W 64 f) := ⟨a.1, a.2.1, fun k hk => by
  show va_up W.2.2.1 64 f k = _
  rw [show va_up W.2.2.1 64 f k = W.2.2.1 k from if_neg hk]
  exact a.2.2.1 k hk, a.2.2.2⟩
theorem hpp.mq {V W : Md} (a : hpp V W) : mq V W := ⟨fun k _ => by rw [a.1], fun k hk => a.2.2.1 k (by omega)⟩
theorem hpp.mrow {V W : Md} {U : Nat → List Int} (a : hpp V W) (h : mrow V U) : mrow W U := fun k hk => by rw [a.2.2.1 50 (by decide), a.2.2.2]; exact h k hk
/-- labels, some of them joined -/
def jnd (n : Nat) (l : Nat → Int32) (was is : Int32) (i : Nat) (V : Md) : Prop := ∀ t, t < n → V.2.2.1 64 t = if t < i ∧ l t = was then is else l t
theorem jnd_1 {n : Nat} {l : Nat → Int32} {was is x : Int32} {i : Nat} {V : Md} (h : jnd n l was is i V) (hx : x = if l i = was then is else l i) : jnd n l was is (i + 1) (md_ai V 64 (upd (V.2.2.1 64) i x)) := by
  intro t ht
  show upd (V.2.2.1 64) i x t = _
  by_cases e : t = i
  · subst e
    rw [show upd (V.2.2.1 64) t x t = x from if_pos rfl, hx]
    by_cases c : l t = was
    · rw [if_pos c, if_pos ⟨by omega, c⟩]
    · rw [if_neg c, if_neg (fun z => c z.2)]
  · rw [show upd (V.2.2.1 64) i x t = V.2.2.1 64 t from if_neg e, h t ht]
    by_cases c : t < i ∧ l t = was
    · rw [if_pos c, if_pos ⟨by omega, c.2⟩]
    · rw [if_neg c, if_neg (fun z => c ⟨by omega, z.2⟩)]
theorem jnd_at {n : Nat} {l : Nat → Int32} {was is : Int32} {i : Nat} {V : Md} (h : jnd n l was is i V) (hi : i < n) : V.2.2.1 64 i = l i := by
  rw [h i hi, if_neg (fun z => by omega)]
def lbl (i : Nat) (V : Md) : Prop := ∀ t, t < i → V.2.2.1 64 t = nI t
theorem lbl_1 {i : Nat} {V : Md} (h : lbl i V) : lbl (i + 1) (md_ai V 64 (upd (V.2.2.1 64) i (nI i))) := by
  intro t ht
  show upd (V.2.2.1 64) i (nI i) t = _
  by_cases e : t = i
  · subst e; exact if_pos rfl
  · rw [show upd (V.2.2.1 64) i (nI i) t = V.2.2.1 64 t from if_neg e]
    exact h t (by omega)
theorem dX12_joins_0 : decode cX12_joins 0 = .ok (.aload_n 0, 1) := by decide +kernel
theorem dX12_joins_1 : decode cX12_joins 1 = .ok (.getfield 156, 3) := by decide +kernel
theorem dX12_joins_4 : decode cX12_joins 4 = .ok (.iload_n 2, 1) := by decide +kernel
theorem dX12_joins_5 : decode cX12_joins 5 = .ok (.iaload, 1) := by decide +kernel
theorem dX12_joins_6 : decode cX12_joins 6 = .ok (.istore_n 3, 1) := by decide +kernel
theorem dX12_joins_7 : decode cX12_joins 7 = .ok (.aload_n 0, 1) := by decide +kernel
theorem dX12_joins_8 : decode cX12_joins 8 = .ok (.getfield 156, 3) := by decide +kernel
theorem dX12_joins_11 : decode cX12_joins 11 = .ok (.iload_n 1, 1) := by decide +kernel
theorem dX12_joins_12 : decode cX12_joins 12 = .ok (.iaload, 1) := by decide +kernel
theorem dX12_joins_13 : decode cX12_joins 13 = .ok (.istore 4, 2) := by decide +kernel
theorem dX12_joins_15 : decode cX12_joins 15 = .ok (.iconst 0, 1) := by decide +kernel
theorem dX12_joins_16 : decode cX12_joins 16 = .ok (.istore 5, 2) := by decide +kernel
theorem dX12_joins_18 : decode cX12_joins 18 = .ok (.iload 5, 2) := by decide +kernel
theorem dX12_joins_20 : decode cX12_joins 20 = .ok (.aload_n 0, 1) := by decide +kernel
theorem dX12_joins_21 : decode cX12_joins 21 = .ok (.getfield 188, 3) := by decide +kernel
theorem dX12_joins_24 : decode cX12_joins 24 = .ok (.if_icmp .ge 39, 3) := by decide +kernel
theorem dX12_joins_27 : decode cX12_joins 27 = .ok (.aload_n 0, 1) := by decide +kernel
theorem dX12_joins_28 : decode cX12_joins 28 = .ok (.getfield 156, 3) := by decide +kernel
theorem dX12_joins_31 : decode cX12_joins 31 = .ok (.iload 5, 2) := by decide +kernel
theorem dX12_joins_33 : decode cX12_joins 33 = .ok (.aload_n 0, 1) := by decide +kernel
theorem dX12_joins_34 : decode cX12_joins 34 = .ok (.getfield 156, 3) := by decide +kernel
theorem dX12_joins_37 : decode cX12_joins 37 = .ok (.iload 5, 2) := by decide +kernel
theorem dX12_joins_39 : decode cX12_joins 39 = .ok (.iaload, 1) := by decide +kernel
theorem dX12_joins_40 : decode cX12_joins 40 = .ok (.iload_n 3, 1) := by decide +kernel
theorem dX12_joins_41 : decode cX12_joins 41 = .ok (.if_icmp .ne 8, 3) := by decide +kernel
theorem dX12_joins_44 : decode cX12_joins 44 = .ok (.iload 4, 2) := by decide +kernel
theorem dX12_joins_46 : decode cX12_joins 46 = .ok (.goto 10, 3) := by decide +kernel
theorem dX12_joins_49 : decode cX12_joins 49 = .ok (.aload_n 0, 1) := by decide +kernel
theorem dX12_joins_50 : decode cX12_joins 50 = .ok (.getfield 156, 3) := by decide +kernel
theorem dX12_joins_53 : decode cX12_joins 53 = .ok (.iload 5, 2) := by decide +kernel
theorem dX12_joins_55 : decode cX12_joins 55 = .ok (.iaload, 1) := by decide +kernel
theorem dX12_joins_56 : decode cX12_joins 56 = .ok (.iastore, 1) := by decide +kernel
theorem dX12_joins_57 : decode cX12_joins 57 = .ok (.iinc 5 1, 3) := by decide +kernel
theorem dX12_joins_60 : decode cX12_joins 60 = .ok (.goto (-42), 3) := by decide +kernel
theorem dX12_joins_63 : decode cX12_joins 63 = .ok (.return_, 1) := by decide +kernel
set_option maxRecDepth 100000 in
set_option maxHeartbeats 4000000 in
theorem l_X12_joins {h : ai_H} {V : Md} {n a b : Nat} {was is : Int32} {l : Nat → Int32} (hn : n ≤ 16) (eN : V.1 2 = nI n) : ∀ (k i : Nat) (V1 : Md) (g : ai_H), i ≤ n → n + 1 ≤ i + k → md_ext h g → md_at g V1 → hpp V V1 → jnd n l was is i V1 → ai_W MX12_joins 18 [.ref 307, .int (nI a), .int (nI b), .int was, .int is, .int (nI i)] [] g (fun r g => r = none ∧ md_ext h g ∧ ∃ W, md_at g W ∧ hpp V W ∧ jnd n l was is n W) := by
  intro k
  induction k with
  | zero => intro i V1 g h1 h2; exact absurd h2 (by omega)
  | succ k ih =>
    intro i V1 g hi0 him E0 hmd hpV hv
    refine wq (fun _ _ kk => rs_iload (pc := 18) dX12_joins_18 rfl kk) ?_
    refine wq (fun _ _ kk => rs_aload_n (pc := 20) dX12_joins_20 rfl kk) ?_
    refine wq (fun _ _ kk => rs_getf (pc := 21) dX12_joins_21 fX12_188 (md_lt hmd (by decide)) hmd.2.1 rfl kk) ?_
    rw [hpV.1, eN]
    refine wq_br (fun _ _ kt kf => rs_icmp_ge (tgt := 63) (pc := 24) dX12_joins_24 rfl kt kf) (fun c_24 => ?_) (fun c_24 => ?_)
    · have hie : n = i := (lp_exit rfl (by omega) hi0 c_24).symm
      subst hie
      refine wq_ret ?_ (rs_vret (pc := 63) dX12_joins_63 rfl)
      exact ⟨rfl, E0, V1, hmd, hpV, hv⟩
    · have hi : i < n := lp_go rfl (by omega) c_24
      have hat := jnd_at hv hi
      refine wq (fun _ _ kk => rs_aload_n (pc := 27) dX12_joins_27 rfl kk) ?_
      refine wq (fun _ _ kk => rs_getf (pc := 28) dX12_joins_28 fX12_156 (md_lt hmd (by decide)) hmd.2.1 rfl kk) ?_
      refine wq (fun _ _ kk => rs_iload (pc := 31) dX12_joins_31 rfl kk) ?_
      refine wq (fun _ _ kk => rs_aload_n (pc := 33) dX12_joins_33 rfl kk) ?_
      refine wq (fun _ _ kk => rs_getf (pc := 34) dX12_joins_34 fX12_156 (md_lt hmd (by decide)) hmd.2.1 rfl kk) ?_
      refine wq (fun _ _ kk => rs_iload (pc := 37) dX12_joins_37 rfl kk) ?_
      refine wq (fun _ _ kk => rs_iald (pc := 39) dX12_joins_39 (md_lt hmd (by decide)) (md_geti (d := 48) (k := 64) (kd := 0) (n := 16) rfl (by decide) hmd) (vp_in_nI (n := i) (N := 16) (by omega) (by decide)) kk) ?_
      rw [nI_clamp (show i < 2 ^ 31 by omega), hat]
      refine wq (fun _ _ kk => rs_iload_n (pc := 40) dX12_joins_40 rfl kk) ?_
      refine wq_bn (fun _ _ kt kf => rs_icmp_ne (tgt := 49) (pc := 41) dX12_joins_41 rfl kt kf) (fun c_41 => ?_) (fun c_41 => ?_)
      · refine wq (fun _ _ kk => rs_aload_n (pc := 49) dX12_joins_49 rfl kk) ?_
        refine wq (fun _ _ kk => rs_getf (pc := 50) dX12_joins_50 fX12_156 (md_lt hmd (by decide)) hmd.2.1 rfl kk) ?_
        refine wq (fun _ _ kk => rs_iload (pc := 53) dX12_joins_53 rfl kk) ?_
        refine wq (fun _ _ kk => rs_iald (pc := 55) dX12_joins_55 (md_lt hmd (by decide)) (md_geti (d := 48) (k := 64) (kd := 0) (n := 16) rfl (by decide) hmd) (vp_in_nI (n := i) (N := 16) (by omega) (by decide)) kk) ?_
        rw [nI_clamp (show i < 2 ^ 31 by omega), hat]
        refine wq (fun _ _ kk => rs_iast (pc := 56) dX12_joins_56 (md_lt hmd (by decide)) (md_geti (d := 48) (k := 64) (kd := 0) (n := 16) rfl (by decide) hmd) (vp_in_nI (n := i) (N := 16) (by omega) (by decide)) kk) ?_
        refine wq_gen (fun h_1 e_1 => ?_)
        obtain ⟨m_1, s_1, g_1, o_1⟩ := ai_e1 e_1
        replace hmd := md_at_ai (d := 48) rfl (by decide) hmd m_1 g_1 o_1
        have E_1 := (E0).trans (md_ext_of m_1 s_1 o_1 (by decide))
        refine wq (fun _ _ kk => wk_iinc5 (v := nI (i + 1)) (pc := 57) dX12_joins_57 (by decide) rfl (nI_1 i) kk) ?_
        refine wq (fun _ _ kk => rs_goto (tgt := 18) (pc := 60) dX12_joins_60 rfl kk) ?_
        rw [nI_clamp (show i < 2 ^ 31 by omega)] at hmd
        exact ih (i + 1) _ _ (by omega) (by omega) (E_1) hmd hpV.ai (jnd_1 hv (by first | rw [if_pos c_41] | rw [if_neg c_41]))
      · refine wq (fun _ _ kk => rs_iload (pc := 44) dX12_joins_44 rfl kk) ?_
        refine wq (fun _ _ kk => rs_goto (tgt := 56) (pc := 46) dX12_joins_46 rfl kk) ?_
        refine wq (fun _ _ kk => rs_iast (pc := 56) dX12_joins_56 (md_lt hmd (by decide)) (md_geti (d := 48) (k := 64) (kd := 0) (n := 16) rfl (by decide) hmd) (vp_in_nI (n := i) (N := 16) (by omega) (by decide)) kk) ?_
        refine wq_gen (fun h_2 e_2 => ?_)
        obtain ⟨m_2, s_2, g_2, o_2⟩ := ai_e1 e_2
        replace hmd := md_at_ai (d := 48) rfl (by decide) hmd m_2 g_2 o_2
        have E_2 := (E0).trans (md_ext_of m_2 s_2 o_2 (by decide))
        refine wq (fun _ _ kk => wk_iinc5 (v := nI (i + 1)) (pc := 57) dX12_joins_57 (by decide) rfl (nI_1 i) kk) ?_
        refine wq (fun _ _ kk => rs_goto (tgt := 18) (pc := 60) dX12_joins_60 rfl kk) ?_
        rw [nI_clamp (show i < 2 ^ 31 by omega)] at hmd
        exact ih (i + 1) _ _ (by omega) (by omega) (E_2) hmd hpV.ai (jnd_1 hv (by first | rw [if_pos c_41] | rw [if_neg c_41]))
set_option maxRecDepth 100000 in
set_option maxHeartbeats 4000000 in
theorem c_X12_joins {h : ai_H} {V : Md} {n a b : Nat} {X : Nat → Nat → Prop} (hn : n ≤ 16) (eN : V.1 2 = nI n) (ha : a < n) (hb : b < n) (hH : HE n (V.2.2.1 64) (clo X)) (hmd : md_at h V) : ai_QM MX12_joins [.ref 307, .int (nI a), .int (nI b)] h (fun r g => r = none ∧ md_ext h g ∧ ∃ W, md_at g W ∧ hpp V W ∧ HE n (W.2.2.1 64) (clo (adE X a b))) := by
  refine qm_of (ls := [.ref 307, .int (nI a), .int (nI b), .float 0, .float 0, .float 0]) (by decide) (by simp [ai_en, Value.category]) (by rfl) ?_
  refine wq (fun _ _ kk => rs_aload_n (pc := 0) dX12_joins_0 rfl kk) ?_
  refine wq (fun _ _ kk => rs_getf (pc := 1) dX12_joins_1 fX12_156 (md_lt hmd (by decide)) hmd.2.1 rfl kk) ?_
  refine wq (fun _ _ kk => rs_iload_n (pc := 4) dX12_joins_4 rfl kk) ?_
  refine wq (fun _ _ kk => rs_iald (pc := 5) dX12_joins_5 (md_lt hmd (by decide)) (md_geti (d := 48) (k := 64) (kd := 0) (n := 16) rfl (by decide) hmd) (vp_in_nI (n := b) (N := 16) (by omega) (by decide)) kk) ?_
  rw [nI_clamp (show b < 2 ^ 31 by omega)]
  refine wq (fun _ _ kk => wk_istn3 (pc := 6) dX12_joins_6 (by decide) rfl kk) ?_
  refine wq (fun _ _ kk => rs_aload_n (pc := 7) dX12_joins_7 rfl kk) ?_
  refine wq (fun _ _ kk => rs_getf (pc := 8) dX12_joins_8 fX12_156 (md_lt hmd (by decide)) hmd.2.1 rfl kk) ?_
  refine wq (fun _ _ kk => rs_iload_n (pc := 11) dX12_joins_11 rfl kk) ?_
  refine wq (fun _ _ kk => rs_iald (pc := 12) dX12_joins_12 (md_lt hmd (by decide)) (md_geti (d := 48) (k := 64) (kd := 0) (n := 16) rfl (by decide) hmd) (vp_in_nI (n := a) (N := 16) (by omega) (by decide)) kk) ?_
  rw [nI_clamp (show a < 2 ^ 31 by omega)]
  refine wq (fun _ _ kk => wk_ist4 (pc := 13) dX12_joins_13 (by decide) rfl kk) ?_
  refine wq (fun _ _ kk => rs_iconst (v := 0) (pc := 15) dX12_joins_15 rfl kk) ?_
  refine wq (fun _ _ kk => wk_ist5 (pc := 16) dX12_joins_16 (by decide) rfl kk) ?_
  refine wq_mono ?_ (l_X12_joins (h := h) (V := V) (l := V.2.2.1 64) hn eN (n + 1) 0 V h (by omega) (by omega) md_ext.rf hmd hpp.rf (fun t _ => by rw [if_neg (fun z => by omega)]))
  rintro r g ⟨a1, a2, W, a3, a4, a5⟩
  exact ⟨a1, a2, W, a3, a4, HE_join hH ha hb (fun i hi => by
    rw [a5 i hi]
    by_cases c : V.2.2.1 64 i = V.2.2.1 64 b
    · rw [if_pos c, if_pos ⟨hi, c⟩]
    · rw [if_neg c, if_neg (fun z => c z.2)])⟩
theorem dX12_ties_0 : decode cX12_ties 0 = .ok (.iconst 0, 1) := by decide +kernel
theorem dX12_ties_1 : decode cX12_ties 1 = .ok (.istore_n 2, 1) := by decide +kernel
theorem dX12_ties_2 : decode cX12_ties 2 = .ok (.iload_n 2, 1) := by decide +kernel
theorem dX12_ties_3 : decode cX12_ties 3 = .ok (.aload_n 0, 1) := by decide +kernel
theorem dX12_ties_4 : decode cX12_ties 4 = .ok (.getfield 188, 3) := by decide +kernel
theorem dX12_ties_7 : decode cX12_ties 7 = .ok (.if_icmp .ge 16, 3) := by decide +kernel
theorem dX12_ties_10 : decode cX12_ties 10 = .ok (.aload_n 0, 1) := by decide +kernel
theorem dX12_ties_11 : decode cX12_ties 11 = .ok (.getfield 156, 3) := by decide +kernel
theorem dX12_ties_14 : decode cX12_ties 14 = .ok (.iload_n 2, 1) := by decide +kernel
theorem dX12_ties_15 : decode cX12_ties 15 = .ok (.iload_n 2, 1) := by decide +kernel
theorem dX12_ties_16 : decode cX12_ties 16 = .ok (.iastore, 1) := by decide +kernel
theorem dX12_ties_17 : decode cX12_ties 17 = .ok (.iinc 2 1, 3) := by decide +kernel
theorem dX12_ties_20 : decode cX12_ties 20 = .ok (.goto (-18), 3) := by decide +kernel
theorem dX12_ties_23 : decode cX12_ties 23 = .ok (.iconst 0, 1) := by decide +kernel
theorem dX12_ties_24 : decode cX12_ties 24 = .ok (.istore_n 2, 1) := by decide +kernel
theorem dX12_ties_25 : decode cX12_ties 25 = .ok (.iload_n 2, 1) := by decide +kernel
theorem dX12_ties_26 : decode cX12_ties 26 = .ok (.aload_n 0, 1) := by decide +kernel
theorem dX12_ties_27 : decode cX12_ties 27 = .ok (.getfield 188, 3) := by decide +kernel
theorem dX12_ties_30 : decode cX12_ties 30 = .ok (.if_icmp .ge 45, 3) := by decide +kernel
theorem dX12_ties_33 : decode cX12_ties 33 = .ok (.iconst 0, 1) := by decide +kernel
theorem dX12_ties_34 : decode cX12_ties 34 = .ok (.istore_n 3, 1) := by decide +kernel
theorem dX12_ties_35 : decode cX12_ties 35 = .ok (.iload_n 3, 1) := by decide +kernel
theorem dX12_ties_36 : decode cX12_ties 36 = .ok (.aload_n 0, 1) := by decide +kernel
theorem dX12_ties_37 : decode cX12_ties 37 = .ok (.getfield 188, 3) := by decide +kernel
theorem dX12_ties_40 : decode cX12_ties 40 = .ok (.if_icmp .ge 29, 3) := by decide +kernel
theorem dX12_ties_43 : decode cX12_ties 43 = .ok (.aload_n 0, 1) := by decide +kernel
theorem dX12_ties_44 : decode cX12_ties 44 = .ok (.getfield 117, 3) := by decide +kernel
theorem dX12_ties_47 : decode cX12_ties 47 = .ok (.bipush 16, 2) := by decide +kernel
theorem dX12_ties_49 : decode cX12_ties 49 = .ok (.iload_n 2, 1) := by decide +kernel
theorem dX12_ties_50 : decode cX12_ties 50 = .ok (.imul, 1) := by decide +kernel
theorem dX12_ties_51 : decode cX12_ties 51 = .ok (.iload_n 3, 1) := by decide +kernel
theorem dX12_ties_52 : decode cX12_ties 52 = .ok (.iadd, 1) := by decide +kernel
theorem dX12_ties_53 : decode cX12_ties 53 = .ok (.iaload, 1) := by decide +kernel
theorem dX12_ties_54 : decode cX12_ties 54 = .ok (.ifCond .le 9, 3) := by decide +kernel
theorem dX12_ties_57 : decode cX12_ties 57 = .ok (.aload_n 0, 1) := by decide +kernel
theorem dX12_ties_58 : decode cX12_ties 58 = .ok (.iload_n 2, 1) := by decide +kernel
theorem dX12_ties_59 : decode cX12_ties 59 = .ok (.iload_n 3, 1) := by decide +kernel
theorem dX12_ties_60 : decode cX12_ties 60 = .ok (.invokevirtual 471, 3) := by decide +kernel
theorem dX12_ties_63 : decode cX12_ties 63 = .ok (.iinc 3 1, 3) := by decide +kernel
theorem dX12_ties_66 : decode cX12_ties 66 = .ok (.goto (-31), 3) := by decide +kernel
theorem dX12_ties_69 : decode cX12_ties 69 = .ok (.iinc 2 1, 3) := by decide +kernel
theorem dX12_ties_72 : decode cX12_ties 72 = .ok (.goto (-47), 3) := by decide +kernel
theorem dX12_ties_75 : decode cX12_ties 75 = .ok (.iconst 0, 1) := by decide +kernel
theorem dX12_ties_76 : decode cX12_ties 76 = .ok (.istore_n 2, 1) := by decide +kernel
theorem dX12_ties_77 : decode cX12_ties 77 = .ok (.iload_n 2, 1) := by decide +kernel
theorem dX12_ties_78 : decode cX12_ties 78 = .ok (.aload_n 0, 1) := by decide +kernel
theorem dX12_ties_79 : decode cX12_ties 79 = .ok (.getfield 468, 3) := by decide +kernel
theorem dX12_ties_82 : decode cX12_ties 82 = .ok (.if_icmp .ge 34, 3) := by decide +kernel
theorem dX12_ties_85 : decode cX12_ties 85 = .ok (.iload_n 1, 1) := by decide +kernel
theorem dX12_ties_86 : decode cX12_ties 86 = .ok (.iload_n 2, 1) := by decide +kernel
theorem dX12_ties_87 : decode cX12_ties 87 = .ok (.ishr, 1) := by decide +kernel
theorem dX12_ties_88 : decode cX12_ties 88 = .ok (.iconst 1, 1) := by decide +kernel
theorem dX12_ties_89 : decode cX12_ties 89 = .ok (.iand, 1) := by decide +kernel
theorem dX12_ties_90 : decode cX12_ties 90 = .ok (.iconst 1, 1) := by decide +kernel
theorem dX12_ties_91 : decode cX12_ties 91 = .ok (.if_icmp .ne 19, 3) := by decide +kernel
theorem dX12_ties_94 : decode cX12_ties 94 = .ok (.aload_n 0, 1) := by decide +kernel
theorem dX12_ties_95 : decode cX12_ties 95 = .ok (.aload_n 0, 1) := by decide +kernel
theorem dX12_ties_96 : decode cX12_ties 96 = .ok (.getfield 147, 3) := by decide +kernel
theorem dX12_ties_99 : decode cX12_ties 99 = .ok (.iload_n 2, 1) := by decide +kernel
theorem dX12_ties_100 : decode cX12_ties 100 = .ok (.iaload, 1) := by decide +kernel
theorem dX12_ties_101 : decode cX12_ties 101 = .ok (.aload_n 0, 1) := by decide +kernel
theorem dX12_ties_102 : decode cX12_ties 102 = .ok (.getfield 150, 3) := by decide +kernel
theorem dX12_ties_105 : decode cX12_ties 105 = .ok (.iload_n 2, 1) := by decide +kernel
theorem dX12_ties_106 : decode cX12_ties 106 = .ok (.iaload, 1) := by decide +kernel
theorem dX12_ties_107 : decode cX12_ties 107 = .ok (.invokevirtual 471, 3) := by decide +kernel
theorem dX12_ties_110 : decode cX12_ties 110 = .ok (.iinc 2 1, 3) := by decide +kernel
theorem dX12_ties_113 : decode cX12_ties 113 = .ok (.goto (-36), 3) := by decide +kernel
theorem dX12_ties_116 : decode cX12_ties 116 = .ok (.iconst 0, 1) := by decide +kernel
theorem dX12_ties_117 : decode cX12_ties 117 = .ok (.istore_n 2, 1) := by decide +kernel
theorem dX12_ties_118 : decode cX12_ties 118 = .ok (.iconst 0, 1) := by decide +kernel
theorem dX12_ties_119 : decode cX12_ties 119 = .ok (.istore_n 3, 1) := by decide +kernel
theorem dX12_ties_120 : decode cX12_ties 120 = .ok (.iload_n 3, 1) := by decide +kernel
theorem dX12_ties_121 : decode cX12_ties 121 = .ok (.aload_n 0, 1) := by decide +kernel
theorem dX12_ties_122 : decode cX12_ties 122 = .ok (.getfield 188, 3) := by decide +kernel
theorem dX12_ties_125 : decode cX12_ties 125 = .ok (.if_icmp .ge 53, 3) := by decide +kernel
theorem dX12_ties_128 : decode cX12_ties 128 = .ok (.iload_n 3, 1) := by decide +kernel
theorem dX12_ties_129 : decode cX12_ties 129 = .ok (.iconst 1, 1) := by decide +kernel
theorem dX12_ties_130 : decode cX12_ties 130 = .ok (.iadd, 1) := by decide +kernel
theorem dX12_ties_131 : decode cX12_ties 131 = .ok (.istore 4, 2) := by decide +kernel
theorem dX12_ties_133 : decode cX12_ties 133 = .ok (.iload 4, 2) := by decide +kernel
theorem dX12_ties_135 : decode cX12_ties 135 = .ok (.aload_n 0, 1) := by decide +kernel
theorem dX12_ties_136 : decode cX12_ties 136 = .ok (.getfield 188, 3) := by decide +kernel
theorem dX12_ties_139 : decode cX12_ties 139 = .ok (.if_icmp .ge 33, 3) := by decide +kernel
theorem dX12_ties_142 : decode cX12_ties 142 = .ok (.iload_n 2, 1) := by decide +kernel
theorem dX12_ties_143 : decode cX12_ties 143 = .ok (.aload_n 0, 1) := by decide +kernel
theorem dX12_ties_144 : decode cX12_ties 144 = .ok (.getfield 156, 3) := by decide +kernel
theorem dX12_ties_147 : decode cX12_ties 147 = .ok (.iload_n 3, 1) := by decide +kernel
theorem dX12_ties_148 : decode cX12_ties 148 = .ok (.iaload, 1) := by decide +kernel
theorem dX12_ties_149 : decode cX12_ties 149 = .ok (.aload_n 0, 1) := by decide +kernel
theorem dX12_ties_150 : decode cX12_ties 150 = .ok (.getfield 156, 3) := by decide +kernel
theorem dX12_ties_153 : decode cX12_ties 153 = .ok (.iload 4, 2) := by decide +kernel
theorem dX12_ties_155 : decode cX12_ties 155 = .ok (.iaload, 1) := by decide +kernel
theorem dX12_ties_156 : decode cX12_ties 156 = .ok (.if_icmp .ne 7, 3) := by decide +kernel
theorem dX12_ties_159 : decode cX12_ties 159 = .ok (.iconst 1, 1) := by decide +kernel
theorem dX12_ties_160 : decode cX12_ties 160 = .ok (.goto 4, 3) := by decide +kernel
theorem dX12_ties_163 : decode cX12_ties 163 = .ok (.iconst 0, 1) := by decide +kernel
theorem dX12_ties_164 : decode cX12_ties 164 = .ok (.iadd, 1) := by decide +kernel
theorem dX12_ties_165 : decode cX12_ties 165 = .ok (.istore_n 2, 1) := by decide +kernel
theorem dX12_ties_166 : decode cX12_ties 166 = .ok (.iinc 4 1, 3) := by decide +kernel
theorem dX12_ties_169 : decode cX12_ties 169 = .ok (.goto (-36), 3) := by decide +kernel
theorem dX12_ties_172 : decode cX12_ties 172 = .ok (.iinc 3 1, 3) := by decide +kernel
theorem dX12_ties_175 : decode cX12_ties 175 = .ok (.goto (-55), 3) := by decide +kernel
theorem dX12_ties_178 : decode cX12_ties 178 = .ok (.iload_n 2, 1) := by decide +kernel
theorem dX12_ties_179 : decode cX12_ties 179 = .ok (.ireturn, 1) := by decide +kernel
set_option maxRecDepth 100000 in
set_option maxHeartbeats 4000000 in
theorem l1_X12_ties {h : ai_H} {V : Md} {B : Bk} {ln s : Nat} {U : Nat → List Int} (hok : bk_ok B ln) (hRV : RB B V) {u3 u4 : Value} {Q : Option Value → ai_H → Prop} (kx : ∀ (V1 : Md) (g : ai_H), md_ext h g → md_at g V1 → hpp V V1 → lbl (nO B) V1 → ai_W MX12_ties 23 [.ref 307, .int (nI s), .int (nI (nO B)), u3, u4] [] g Q) : ∀ (k i : Nat) (V1 : Md) (g : ai_H), i ≤ nO B → nO B + 1 ≤ i + k → md_ext h g → md_at g V1 → hpp V V1 → lbl i V1 → ai_W MX12_ties 2 [.ref 307, .int (nI s), .int (nI i), u3, u4] [] g Q := by
  have hn16 := hok.2.1.2.1
  intro k
  induction k with
  | zero => intro i V1 g h1 h2; exact absurd h2 (by omega)
  | succ k ih =>
    intro i V1 g hi0 him E0 hmd hpV hv
    refine wq (fun _ _ kk => rs_iload_n (pc := 2) dX12_ties_2 rfl kk) ?_
    refine wq (fun _ _ kk => rs_aload_n (pc := 3) dX12_ties_3 rfl kk) ?_
    refine wq (fun _ _ kk => rs_getf (pc := 4) dX12_ties_4 fX12_188 (md_lt hmd (by decide)) hmd.2.1 rfl kk) ?_
    rw [hpV.1, (hRV.1.2.1.trans hok.2.1.1)]
    refine wq_br (fun _ _ kt kf => rs_icmp_ge (tgt := 23) (pc := 7) dX12_ties_7 rfl kt kf) (fun c_7 => ?_) (fun c_7 => ?_)
    · have hie : i = nO B := lp_exit rfl (by omega) hi0 c_7
      subst hie
      exact kx V1 g E0 hmd hpV hv
    · have hi : i < nO B := lp_go rfl (by omega) c_7
      refine wq (fun _ _ kk => rs_aload_n (pc := 10) dX12_ties_10 rfl kk) ?_
      refine wq (fun _ _ kk => rs_getf (pc := 11) dX12_ties_11 fX12_156 (md_lt hmd (by decide)) hmd.2.1 rfl kk) ?_
      refine wq (fun _ _ kk => rs_iload_n (pc := 14) dX12_ties_14 rfl kk) ?_
      refine wq (fun _ _ kk => rs_iload_n (pc := 15) dX12_ties_15 rfl kk) ?_
      refine wq (fun _ _ kk => rs_iast (pc := 16) dX12_ties_16 (md_lt hmd (by decide)) (md_geti (d := 48) (k := 64) (kd := 0) (n := 16) rfl (by decide) hmd) (vp_in_nI (n := i) (N := 16) (by omega) (by decide)) kk) ?_
      refine wq_gen (fun h_1 e_1 => ?_)
      obtain ⟨m_1, s_1, g_1, o_1⟩ := ai_e1 e_1
      replace hmd := md_at_ai (d := 48) rfl (by decide) hmd m_1 g_1 o_1
      have E_1 := (E0).trans (md_ext_of m_1 s_1 o_1 (by decide))
      refine wq (fun _ _ kk => wk_iinc2 (v := nI (i + 1)) (pc := 17) dX12_ties_17 (by decide) rfl (nI_1 i) kk) ?_
      refine wq (fun _ _ kk => rs_goto (tgt := 2) (pc := 20) dX12_ties_20 rfl kk) ?_
      rw [nI_clamp (show i < 2 ^ 31 by omega)] at hmd
      exact ih (i + 1) _ _ (by omega) (by omega) (E_1) hmd hpV.ai (lbl_1 hv)
set_option maxRecDepth 100000 in
set_option maxHeartbeats 4000000 in
theorem l2_X12_ties {h : ai_H} {V : Md} {B : Bk} {ln s : Nat} {U : Nat → List Int} (hok : bk_ok B ln) (hRV : RB B V) (hl : lrow U) (hmr : mrow V U) {a : Nat} (ha : a < nO B) {u4 : Value} {Q : Option Value → ai_H → Prop} (kx : ∀ (V1 : Md) (g : ai_H), md_ext h g → md_at g V1 → hpp V V1 → HE (nO B) (V1.2.2.1 64) (clo (mX U (nO B) a (nO B))) → ai_W MX12_ties 69 [.ref 307, .int (nI s), .int (nI a), .int (nI (nO B)), u4] [] g Q) : ∀ (k b : Nat) (V1 : Md) (g : ai_H), b ≤ nO B → nO B + 1 ≤ b + k → md_ext h g → md_at g V1 → hpp V V1 → HE (nO B) (V1.2.2.1 64) (clo (mX U (nO B) a b)) → ai_W MX12_ties 35 [.ref 307, .int (nI s), .int (nI a), .int (nI b), u4] [] g Q := by
  have hn16 := hok.2.1.2.1
  intro k
  induction k with
  | zero => intro b V1 g h1 h2; exact absurd h2 (by omega)
  | succ k ih =>
    intro b V1 g hb0 him E0 hmd hpV hH
    refine wq (fun _ _ kk => rs_iload_n (pc := 35) dX12_ties_35 rfl kk) ?_
    refine wq (fun _ _ kk => rs_aload_n (pc := 36) dX12_ties_36 rfl kk) ?_
    refine wq (fun _ _ kk => rs_getf (pc := 37) dX12_ties_37 fX12_188 (md_lt hmd (by decide)) hmd.2.1 rfl kk) ?_
    rw [hpV.1, (hRV.1.2.1.trans hok.2.1.1)]
    refine wq_br (fun _ _ kt kf => rs_icmp_ge (tgt := 69) (pc := 40) dX12_ties_40 rfl kt kf) (fun c_40 => ?_) (fun c_40 => ?_)
    · have hbe : b = nO B := lp_exit rfl (by omega) hb0 c_40
      subst hbe
      exact kx V1 g E0 hmd hpV hH
    · have hb : b < nO B := lp_go rfl (by omega) c_40
      have hm1 := (hpV.mrow hmr (a * 16 + b) (by omega)).1
      have hll := (hl (a * 16 + b) (by omega)).1
      refine wq (fun _ _ kk => rs_aload_n (pc := 43) dX12_ties_43 rfl kk) ?_
      refine wq (fun _ _ kk => rs_getf (pc := 44) dX12_ties_44 fX12_117 (md_lt hmd (by decide)) hmd.2.1 rfl kk) ?_
      refine wq (fun _ _ kk => rs_bipush (v := 16) (pc := 47) dX12_ties_47 rfl kk) ?_
      refine wq (fun _ _ kk => rs_iload_n (pc := 49) dX12_ties_49 rfl kk) ?_
      refine wq (fun _ _ kk => rs_imul (pc := 50) dX12_ties_50 kk) ?_
      rw [show (16 : Int32) * nI a = nI (a * 16) from by rw [Nat.mul_comm]; exact pk_mul 16 a]
      refine wq (fun _ _ kk => rs_iload_n (pc := 51) dX12_ties_51 rfl kk) ?_
      refine wq (fun _ _ kk => rs_iadd (pc := 52) dX12_ties_52 kk) ?_
      rw [nI_add]
      refine wq (fun _ _ kk => rs_iald (pc := 53) dX12_ties_53 (md_lt hmd (by decide)) (md_geti (d := 35) (k := 50) (kd := 0) (n := 256) rfl (by decide) hmd) (vp_in_nI (n := a * 16 + b) (N := 256) (by omega) (by decide)) kk) ?_
      rw [nI_clamp (show a * 16 + b < 2 ^ 31 by omega), hm1]
      refine wq_br (fun _ _ kt kf => rs_if_le (tgt := 63) (pc := 54) dX12_ties_54 rfl kt kf) (fun c_54 => ?_) (fun c_54 => ?_)
      · rw [i32_le0 (by omega), len_0] at c_54
        refine wq (fun _ _ kk => wk_iinc3 (v := nI (b + 1)) (pc := 63) dX12_ties_63 (by decide) rfl (nI_1 b) kk) ?_
        refine wq (fun _ _ kk => rs_goto (tgt := 35) (pc := 66) dX12_ties_66 rfl kk) ?_
        exact ih (b + 1) V1 g (by omega) (by omega) E0 hmd hpV (by rw [mX_n c_54]; exact hH)
      · rw [i32_le0 (by omega), len_0] at c_54
        refine wq (fun _ _ kk => rs_aload_n (pc := 57) dX12_ties_57 rfl kk) ?_
        refine wq (fun _ _ kk => rs_iload_n (pc := 58) dX12_ties_58 rfl kk) ?_
        refine wq (fun _ _ kk => rs_iload_n (pc := 59) dX12_ties_59 rfl kk) ?_
        obtain ⟨rv_60, hc_60, ⟨rfl, ee_60, W, hmd_60, hpW, hH2⟩, hm_60⟩ := c_X12_joins hn16 (show V1.1 2 = nI (nO B) from by rw [hpV.1]; exact (hRV.1.2.1.trans hok.2.1.1)) ha hb hH hmd
        refine wq (fun _ _ kk => rs_callV (as := [_, _]) (pc := 60) dX12_ties_60 mk_X12_joins mlX12_471 in_X12_joins se_X12_joins rfl (md_lt hmd (by decide)) hmd.2.1 rfl rfl (Nat.le_of_ble_eq_true rfl) (hm_60) kk) ?_
        replace hmd := hmd_60
        have E_60 := (E0).trans ee_60
        refine wq (fun _ _ kk => wk_iinc3 (v := nI (b + 1)) (pc := 63) dX12_ties_63 (by decide) rfl (nI_1 b) kk) ?_
        refine wq (fun _ _ kk => rs_goto (tgt := 35) (pc := 66) dX12_ties_66 rfl kk) ?_
        exact ih (b + 1) W _ (by omega) (by omega) (E_60) hmd (hpV.trans hpW) (by rw [mX_y ha hb c_54]; exact hH2)
set_option maxRecDepth 100000 in
set_option maxHeartbeats 4000000 in
theorem l3_X12_ties {h : ai_H} {V : Md} {B : Bk} {ln s : Nat} {U : Nat → List Int} (hok : bk_ok B ln) (hRV : RB B V) (hl : lrow U) (hmr : mrow V U) {u4 : Value} {Q : Option Value → ai_H → Prop} (kx : ∀ (u3 : Value) (V1 : Md) (g : ai_H), md_ext h g → md_at g V1 → hpp V V1 → HE (nO B) (V1.2.2.1 64) (clo (eX U (nO B))) → ai_W MX12_ties 75 [.ref 307, .int (nI s), .int (nI (nO B)), u3, u4] [] g Q) : ∀ (k a : Nat) (u3 : Value) (V1 : Md) (g : ai_H), a ≤ nO B → nO B + 1 ≤ a + k → md_ext h g → md_at g V1 → hpp V V1 → HE (nO B) (V1.2.2.1 64) (clo (mX U (nO B) a 0)) → ai_W MX12_ties 25 [.ref 307, .int (nI s), .int (nI a), u3, u4] [] g Q := by
  have hn16 := hok.2.1.2.1
  intro k
  induction k with
  | zero => intro a u3 V1 g h1 h2; exact absurd h2 (by omega)
  | succ k ih =>
    intro a u3 V1 g ha0 him E0 hmd hpV hH
    refine wq (fun _ _ kk => rs_iload_n (pc := 25) dX12_ties_25 rfl kk) ?_
    refine wq (fun _ _ kk => rs_aload_n (pc := 26) dX12_ties_26 rfl kk) ?_
    refine wq (fun _ _ kk => rs_getf (pc := 27) dX12_ties_27 fX12_188 (md_lt hmd (by decide)) hmd.2.1 rfl kk) ?_
    rw [hpV.1, (hRV.1.2.1.trans hok.2.1.1)]
    refine wq_br (fun _ _ kt kf => rs_icmp_ge (tgt := 75) (pc := 30) dX12_ties_30 rfl kt kf) (fun c_30 => ?_) (fun c_30 => ?_)
    · have hae : a = nO B := lp_exit rfl (by omega) ha0 c_30
      subst hae
      exact kx _ V1 g E0 hmd hpV (by rw [mX_all] at hH; exact hH)
    · have ha : a < nO B := lp_go rfl (by omega) c_30
      refine wq (fun _ _ kk => rs_iconst (v := 0) (pc := 33) dX12_ties_33 rfl kk) ?_
      refine wq (fun _ _ kk => wk_istn3 (pc := 34) dX12_ties_34 (by decide) rfl kk) ?_
      refine l2_X12_ties (h := h) (V := V) hok hRV hl hmr ha ?_ (nO B + 1) 0 V1 g (by omega) (by omega) E0 hmd hpV hH
      clear E0 hmd hpV hH
      intro V1 g E0 hmd hpV hH
      refine wq (fun _ _ kk => wk_iinc2 (v := nI (a + 1)) (pc := 69) dX12_ties_69 (by decide) rfl (nI_1 a) kk) ?_
      refine wq (fun _ _ kk => rs_goto (tgt := 25) (pc := 72) dX12_ties_72 rfl kk) ?_
      exact ih (a + 1) _ V1 g (by omega) (by omega) E0 hmd hpV (by rw [mX_a]; exact hH)
set_option maxRecDepth 100000 in
set_option maxHeartbeats 4000000 in
theorem l4_X12_ties {h : ai_H} {V : Md} {B : Bk} {ln s : Nat} {U : Nat → List Int} (hok : bk_ok B ln) (hRV : RB B V) (hs : s < 2 ^ 31) {u3 u4 : Value} {Q : Option Value → ai_H → Prop} (kx : ∀ (V1 : Md) (g : ai_H), md_ext h g → md_at g V1 → hpp V V1 → HE (nO B) (V1.2.2.1 64) (clo (tX U B (nO B) s (nJ B))) → ai_W MX12_ties 116 [.ref 307, .int (nI s), .int (nI (nJ B)), u3, u4] [] g Q) : ∀ (k i : Nat) (V1 : Md) (g : ai_H), i ≤ nJ B → nJ B + 1 ≤ i + k → md_ext h g → md_at g V1 → hpp V V1 → HE (nO B) (V1.2.2.1 64) (clo (tX U B (nO B) s i)) → ai_W MX12_ties 77 [.ref 307, .int (nI s), .int (nI i), u3, u4] [] g Q := by
  have hj9 := hok.2.2.2.2.2.2.1
  have hn16 := hok.2.1.2.1
  intro k
  induction k with
  | zero => intro i V1 g h1 h2; exact absurd h2 (by omega)
  | succ k ih =>
    intro i V1 g hi0 him E0 hmd hpV hH
    refine wq (fun _ _ kk => rs_iload_n (pc := 77) dX12_ties_77 rfl kk) ?_
    refine wq (fun _ _ kk => rs_aload_n (pc := 78) dX12_ties_78 rfl kk) ?_
    refine wq (fun _ _ kk => rs_getf (pc := 79) dX12_ties_79 fX12_468 (md_lt hmd (by decide)) hmd.2.1 rfl kk) ?_
    rw [hpV.1, (hRV.1.2.2.2.2.2.trans hok.2.2.2.2.2.1)]
    refine wq_br (fun _ _ kt kf => rs_icmp_ge (tgt := 116) (pc := 82) dX12_ties_82 rfl kt kf) (fun c_82 => ?_) (fun c_82 => ?_)
    · have hie : i = nJ B := lp_exit rfl (by omega) hi0 c_82
      subst hie
      exact kx V1 g E0 hmd hpV hH
    · have hi : i < nJ B := lp_go rfl (by omega) c_82
      obtain ⟨j1, j2, j3, j4, -⟩ := hok.2.2.2.2.2.2.2 i hi
      obtain ⟨a, ha, ea⟩ := i32_ex j1 j2
      obtain ⟨b, hb, eb⟩ := i32_ex j3 j4
      have ja : ji B i 0 = a := by unfold ji; rw [ea, nI_clamp (by omega)]
      have jb : ji B i 1 = b := by unfold ji; rw [eb, nI_clamp (by omega)]
      obtain ⟨r1, r2, r3⟩ := hRV.2.2.2.2.2 i hi
      refine wq (fun _ _ kk => rs_iload_n (pc := 85) dX12_ties_85 rfl kk) ?_
      refine wq (fun _ _ kk => rs_iload_n (pc := 86) dX12_ties_86 rfl kk) ?_
      refine wq (fun _ _ kk => rs_ishr (pc := 87) dX12_ties_87 kk) ?_
      refine wq (fun _ _ kk => rs_iconst (v := 1) (pc := 88) dX12_ties_88 rfl kk) ?_
      refine wq (fun _ _ kk => rs_iand (pc := 89) dX12_ties_89 kk) ?_
      refine wq (fun _ _ kk => rs_iconst (v := 1) (pc := 90) dX12_ties_90 rfl kk) ?_
      refine wq_bn (fun _ _ kt kf => rs_icmp_ne (tgt := 110) (pc := 91) dX12_ties_91 rfl kt kf) (fun c_91 => ?_) (fun c_91 => ?_)
      · rw [sb_nI hs (by omega)] at c_91
        refine wq (fun _ _ kk => wk_iinc2 (v := nI (i + 1)) (pc := 110) dX12_ties_110 (by decide) rfl (nI_1 i) kk) ?_
        refine wq (fun _ _ kk => rs_goto (tgt := 77) (pc := 113) dX12_ties_113 rfl kk) ?_
        exact ih (i + 1) V1 g (by omega) (by omega) E0 hmd hpV (by rw [tX_n c_91]; exact hH)
      · rw [sb_nI hs (by omega)] at c_91
        refine wq (fun _ _ kk => rs_aload_n (pc := 94) dX12_ties_94 rfl kk) ?_
        refine wq (fun _ _ kk => rs_aload_n (pc := 95) dX12_ties_95 rfl kk) ?_
        refine wq (fun _ _ kk => rs_getf (pc := 96) dX12_ties_96 fX12_147 (md_lt hmd (by decide)) hmd.2.1 rfl kk) ?_
        refine wq (fun _ _ kk => rs_iload_n (pc := 99) dX12_ties_99 rfl kk) ?_
        refine wq (fun _ _ kk => rs_iald (pc := 100) dX12_ties_100 (md_lt hmd (by decide)) (md_geti (d := 45) (k := 61) (kd := 0) (n := 9) rfl (by decide) hmd) (vp_in_nI (n := i) (N := 9) (by omega) (by decide)) kk) ?_
        rw [nI_clamp (show i < 2 ^ 31 by omega), hpV.2.2.1 61 (by decide), r1, ea]
        refine wq (fun _ _ kk => rs_aload_n (pc := 101) dX12_ties_101 rfl kk) ?_
        refine wq (fun _ _ kk => rs_getf (pc := 102) dX12_ties_102 fX12_150 (md_lt hmd (by decide)) hmd.2.1 rfl kk) ?_
        refine wq (fun _ _ kk => rs_iload_n (pc := 105) dX12_ties_105 rfl kk) ?_
        refine wq (fun _ _ kk => rs_iald (pc := 106) dX12_ties_106 (md_lt hmd (by decide)) (md_geti (d := 46) (k := 62) (kd := 0) (n := 9) rfl (by decide) hmd) (vp_in_nI (n := i) (N := 9) (by omega) (by decide)) kk) ?_
        rw [nI_clamp (show i < 2 ^ 31 by omega), hpV.2.2.1 62 (by decide), r2, eb]
        obtain ⟨rv_107, hc_107, ⟨rfl, ee_107, W, hmd_107, hpW, hH2⟩, hm_107⟩ := c_X12_joins hn16 (show V1.1 2 = nI (nO B) from by rw [hpV.1]; exact (hRV.1.2.1.trans hok.2.1.1)) ha hb hH hmd
        refine wq (fun _ _ kk => rs_callV (as := [_, _]) (pc := 107) dX12_ties_107 mk_X12_joins mlX12_471 in_X12_joins se_X12_joins rfl (md_lt hmd (by decide)) hmd.2.1 rfl rfl (Nat.le_of_ble_eq_true rfl) (hm_107) kk) ?_
        replace hmd := hmd_107
        have E_107 := (E0).trans ee_107
        refine wq (fun _ _ kk => wk_iinc2 (v := nI (i + 1)) (pc := 110) dX12_ties_110 (by decide) rfl (nI_1 i) kk) ?_
        refine wq (fun _ _ kk => rs_goto (tgt := 77) (pc := 113) dX12_ties_113 rfl kk) ?_
        exact ih (i + 1) W _ (by omega) (by omega) (E_107) hmd (hpV.trans hpW) (by rw [tX_y c_91, ja, jb]; exact hH2)
set_option maxRecDepth 100000 in
set_option maxHeartbeats 4000000 in
theorem l5_X12_ties {h : ai_H} {V : Md} {B : Bk} {s : Nat} {X : Nat → Nat → Prop} (hn16 : nO B ≤ 16) (eN : V.1 2 = nI (nO B)) (hmd : md_at h V) (hH : HE (nO B) (V.2.2.1 64) (clo X)) {a : Nat} (ha : a < nO B) {r : Option Value} (kx : ai_R MX12_ties 172 [.ref 307, .int (nI s), .int (nI (pS (cR X) (nO B) a + pI (cR X) a ((nO B) - a - 1))), .int (nI a), .int (nI (nO B))] [] h r h) : ∀ (k b : Nat), a < b → b ≤ nO B → nO B + 1 ≤ b + k → ai_R MX12_ties 133 [.ref 307, .int (nI s), .int (nI (pS (cR X) (nO B) a + pI (cR X) a (b - a - 1))), .int (nI a), .int (nI b)] [] h r h := by
  intro k
  induction k with
  | zero => intro b h1 h2 h3; exact absurd h3 (by omega)
  | succ k ih =>
    intro b hab hb0 him
    refine rs_iload (pc := 133) dX12_ties_133 rfl ?_
    refine rs_aload_n (pc := 135) dX12_ties_135 rfl ?_
    refine rs_getf (pc := 136) dX12_ties_136 fX12_188 (md_lt hmd (by decide)) hmd.2.1 rfl ?_
    rw [eN]
    refine rs_icmp_ge (tgt := 172) (pc := 139) dX12_ties_139 rfl (fun c_139 => ?_) (fun c_139 => ?_)
    · have hbe : b = nO B := lp_exit rfl (by omega) hb0 c_139
      subst hbe
      exact kx
    · have hb : b < nO B := lp_go rfl (by omega) c_139
      refine rs_iload_n (pc := 142) dX12_ties_142 rfl ?_
      refine rs_aload_n (pc := 143) dX12_ties_143 rfl ?_
      refine rs_getf (pc := 144) dX12_ties_144 fX12_156 (md_lt hmd (by decide)) hmd.2.1 rfl ?_
      refine rs_iload_n (pc := 147) dX12_ties_147 rfl ?_
      refine rs_iald (pc := 148) dX12_ties_148 (md_lt hmd (by decide)) (md_geti (d := 48) (k := 64) (kd := 0) (n := 16) rfl (by decide) hmd) (vp_in_nI (n := a) (N := 16) (by omega) (by decide)) ?_
      rw [nI_clamp (show a < 2 ^ 31 by omega)]
      refine rs_aload_n (pc := 149) dX12_ties_149 rfl ?_
      refine rs_getf (pc := 150) dX12_ties_150 fX12_156 (md_lt hmd (by decide)) hmd.2.1 rfl ?_
      refine rs_iload (pc := 153) dX12_ties_153 rfl ?_
      refine rs_iald (pc := 155) dX12_ties_155 (md_lt hmd (by decide)) (md_geti (d := 48) (k := 64) (kd := 0) (n := 16) rfl (by decide) hmd) (vp_in_nI (n := b) (N := 16) (by omega) (by decide)) ?_
      rw [nI_clamp (show b < 2 ^ 31 by omega)]
      refine rs_icmp_ne (tgt := 163) (pc := 156) dX12_ties_156 rfl (fun c_156 => ?_) (fun c_156 => ?_)
      · rw [hH a b ha hb, ← cR_iff] at c_156
        refine rs_iconst (v := 0) (pc := 163) dX12_ties_163 rfl ?_
        refine rs_iadd (pc := 164) dX12_ties_164 ?_
        refine wk_istn2 (pc := 165) dX12_ties_165 (by decide) rfl ?_
        refine wk_iinc4 (v := nI (b + 1)) (pc := 166) dX12_ties_166 (by decide) rfl (nI_1 b) ?_
        refine rs_goto (tgt := 133) (pc := 169) dX12_ties_169 rfl ?_
        have en : b + 1 - a - 1 = b - a - 1 + 1 := by omega
        have eb : a + 1 + (b - a - 1) = b := by omega
        first
        | (have e := ih (b + 1) (by omega) (by omega) (by omega)
           rw [en, show pI (cR X) a (b - a - 1 + 1) = pI (cR X) a (b - a - 1) + 1 from by unfold pI; rw [cN, eb, if_pos c_156], ← Nat.add_assoc, ← nI_1] at e
           exact e)
        | (have e := ih (b + 1) (by omega) (by omega) (by omega)
           rw [en, show pI (cR X) a (b - a - 1 + 1) = pI (cR X) a (b - a - 1) from by unfold pI; rw [cN, eb, if_neg c_156]] at e
           rw [show nI (pS (cR X) (nO B) a + pI (cR X) a (b - a - 1)) + 0 = nI (pS (cR X) (nO B) a + pI (cR X) a (b - a - 1)) from Int32.add_zero _]
           exact e)
      · rw [hH a b ha hb, ← cR_iff] at c_156
        refine rs_iconst (v := 1) (pc := 159) dX12_ties_159 rfl ?_
        refine rs_goto (tgt := 164) (pc := 160) dX12_ties_160 rfl ?_
        refine rs_iadd (pc := 164) dX12_ties_164 ?_
        refine wk_istn2 (pc := 165) dX12_ties_165 (by decide) rfl ?_
        refine wk_iinc4 (v := nI (b + 1)) (pc := 166) dX12_ties_166 (by decide) rfl (nI_1 b) ?_
        refine rs_goto (tgt := 133) (pc := 169) dX12_ties_169 rfl ?_
        have en : b + 1 - a - 1 = b - a - 1 + 1 := by omega
        have eb : a + 1 + (b - a - 1) = b := by omega
        first
        | (have e := ih (b + 1) (by omega) (by omega) (by omega)
           rw [en, show pI (cR X) a (b - a - 1 + 1) = pI (cR X) a (b - a - 1) + 1 from by unfold pI; rw [cN, eb, if_pos c_156], ← Nat.add_assoc, ← nI_1] at e
           exact e)
        | (have e := ih (b + 1) (by omega) (by omega) (by omega)
           rw [en, show pI (cR X) a (b - a - 1 + 1) = pI (cR X) a (b - a - 1) from by unfold pI; rw [cN, eb, if_neg c_156]] at e
           rw [show nI (pS (cR X) (nO B) a + pI (cR X) a (b - a - 1)) + 0 = nI (pS (cR X) (nO B) a + pI (cR X) a (b - a - 1)) from Int32.add_zero _]
           exact e)
set_option maxRecDepth 100000 in
set_option maxHeartbeats 4000000 in
theorem l6_X12_ties {h : ai_H} {V : Md} {B : Bk} {s : Nat} {X : Nat → Nat → Prop} (hn16 : nO B ≤ 16) (eN : V.1 2 = nI (nO B)) (hmd : md_at h V) (hH : HE (nO B) (V.2.2.1 64) (clo X)) : ∀ (k a : Nat) (u4 : Value), a ≤ nO B → nO B + 1 ≤ a + k → ai_R MX12_ties 120 [.ref 307, .int (nI s), .int (nI (pS (cR X) (nO B) a)), .int (nI a), u4] [] h (some (.int (nI (pS (cR X) (nO B) (nO B))))) h := by
  intro k
  induction k with
  | zero => intro a u4 h1 h2; exact absurd h2 (by omega)
  | succ k ih =>
    intro a u4 ha0 him
    refine rs_iload_n (pc := 120) dX12_ties_120 rfl ?_
    refine rs_aload_n (pc := 121) dX12_ties_121 rfl ?_
    refine rs_getf (pc := 122) dX12_ties_122 fX12_188 (md_lt hmd (by decide)) hmd.2.1 rfl ?_
    rw [eN]
    refine rs_icmp_ge (tgt := 178) (pc := 125) dX12_ties_125 rfl (fun c_125 => ?_) (fun c_125 => ?_)
    · have hae : a = nO B := lp_exit rfl (by omega) ha0 c_125
      subst hae
      refine rs_iload_n (pc := 178) dX12_ties_178 rfl ?_
      exact wk_iret (pc := 179) dX12_ties_179 rfl (rfl) (rfl)
    · have ha : a < nO B := lp_go rfl (by omega) c_125
      refine rs_iload_n (pc := 128) dX12_ties_128 rfl ?_
      refine rs_iconst (v := 1) (pc := 129) dX12_ties_129 rfl ?_
      refine rs_iadd (pc := 130) dX12_ties_130 ?_
      rw [nI_1]
      refine wk_ist4 (pc := 131) dX12_ties_131 (by decide) rfl ?_
      have e0 : pS (cR X) (nO B) a + pI (cR X) a (a + 1 - a - 1) = pS (cR X) (nO B) a := by rw [show a + 1 - a - 1 = 0 by omega]; rfl
      rw [← e0]
      refine l5_X12_ties hn16 eN hmd hH ha ?_ (nO B + 1) (a + 1) (by omega) (by omega) (by omega)
      refine wk_iinc3 (v := nI (a + 1)) (pc := 172) dX12_ties_172 (by decide) rfl (nI_1 a) ?_
      refine rs_goto (tgt := 120) (pc := 175) dX12_ties_175 rfl ?_
      exact ih (a + 1) _ (by omega) (by omega)
set_option maxRecDepth 100000 in
set_option maxHeartbeats 4000000 in
theorem c_X12_ties {h : ai_H} {V : Md} {B : Bk} {ln s : Nat} {U : Nat → List Int} (hok : bk_ok B ln) (hRV : RB B V) (hl : lrow U) (hmr : mrow V U) (hs : s < 2 ^ 31) (hmd : md_at h V) : ai_QM MX12_ties [.ref 307, .int (nI s)] h (fun r g => r = some (.int (prs U B s)) ∧ md_ext h g ∧ ∃ W, md_at g W ∧ hpp V W ∧ HE (nO B) (W.2.2.1 64) (clo (tX U B (nO B) s (nJ B)))) := by
  have hn16 := hok.2.1.2.1
  refine qm_of (ls := [.ref 307, .int (nI s), .float 0, .float 0, .float 0]) (by decide) (by simp [ai_en, Value.category]) (by rfl) ?_
  refine wq (fun _ _ kk => rs_iconst (v := 0) (pc := 0) dX12_ties_0 rfl kk) ?_
  refine wq (fun _ _ kk => wk_istn2 (pc := 1) dX12_ties_1 (by decide) rfl kk) ?_
  refine l1_X12_ties (h := h) (V := V) (U := U) hok hRV ?_ (nO B + 1) 0 V h (by omega) (by omega) md_ext.rf hmd hpp.rf (fun t ht => absurd ht (Nat.not_lt_zero t))
  intro V1 g E0 hmd hpV hv
  refine wq (fun _ _ kk => rs_iconst (v := 0) (pc := 23) dX12_ties_23 rfl kk) ?_
  refine wq (fun _ _ kk => wk_istn2 (pc := 24) dX12_ties_24 (by decide) rfl kk) ?_
  refine l3_X12_ties (h := h) (V := V) hok hRV hl hmr ?_ (nO B + 1) 0 _ V1 g (by omega) (by omega) E0 hmd hpV (by rw [mX_0]; exact HE_0 hn16 hv)
  intro u3 V2 g E0 hmd hpV hH
  refine wq (fun _ _ kk => rs_iconst (v := 0) (pc := 75) dX12_ties_75 rfl kk) ?_
  refine wq (fun _ _ kk => wk_istn2 (pc := 76) dX12_ties_76 (by decide) rfl kk) ?_
  refine l4_X12_ties (h := h) (V := V) hok hRV hs ?_ (nJ B + 1) 0 V2 g (by omega) (by omega) E0 hmd hpV (by rw [tX_0]; exact hH)
  intro V3 g E0 hmd hpV hH
  refine wq (fun _ _ kk => rs_iconst (v := 0) (pc := 116) dX12_ties_116 rfl kk) ?_
  refine wq (fun _ _ kk => wk_istn2 (pc := 117) dX12_ties_117 (by decide) rfl kk) ?_
  refine wq (fun _ _ kk => rs_iconst (v := 0) (pc := 118) dX12_ties_118 rfl kk) ?_
  refine wq (fun _ _ kk => wk_istn3 (pc := 119) dX12_ties_119 (by decide) rfl kk) ?_
  exact ⟨_, _, ⟨rfl, E0, V3, hmd, hpV, hH⟩, l6_X12_ties hn16 (by rw [hpV.1]; exact (hRV.1.2.1.trans hok.2.1.1)) hmd hH (nO B + 1) 0 _ (by omega) (by omega)⟩
theorem shj {k j : Nat} (hk : k < 2 ^ 31) (hj : j ≤ 9) : nI k >>> (nI j &&& 31) = 0 ↔ k < 2 ^ j := by
  have h2 := pow_pos2 j
  rw [sr_nI hk (by omega), nI_z (Nat.lt_of_le_of_lt (Nat.shiftRight_le k j) hk), Nat.shiftRight_eq_div_pow]
  rw [Nat.div_eq_zero_iff]
  omega
theorem tie_g {j : Nat} (hj : j ≤ 9) {s : Int32} : (s < 0 ∨ ¬ s >>> (nI j &&& 31) = 0) ↔ bi_in s 0 (nI (2 ^ j - 1)) = 0 := by
  have hp := pow_J hj
  have h2 := pow_pos2 j
  by_cases c : s < 0
  · exact ⟨fun _ => by unfold bi_in; rw [if_pos c], fun _ => Or.inl c⟩
  · rw [i32_lt, i32_0] at c
    obtain ⟨k, k1, k2⟩ : ∃ k, k < 2 ^ 31 ∧ s = nI k := ⟨s.toNatClampNeg, by have h1 := i32_clamp (show 0 ≤ s.toInt by omega); have h2 : s.toInt < 2147483648 := Int32.toInt_lt s; omega, (i32_nat (by omega)).symm⟩
    subst k2
    rw [shj k1 hj]
    unfold bi_in
    rw [if_neg (by rw [i32_lt, i32_0]; omega)]
    by_cases d : k < 2 ^ j
    · rw [if_neg (by rw [i32_lt, nI_toInt (by omega), nI_toInt k1]; omega)]
      exact ⟨fun z => by rcases z with z | z; rw [i32_lt, i32_0] at z; omega; exact absurd d z, fun z => absurd z (by decide)⟩
    · rw [if_pos (by rw [i32_lt, nI_toInt (by omega), nI_toInt k1]; omega)]
      exact ⟨fun _ => rfl, fun _ => Or.inr d⟩
theorem dX12_tied_0 : decode cX12_tied 0 = .ok (.iload_n 1, 1) := by decide +kernel
theorem dX12_tied_1 : decode cX12_tied 1 = .ok (.ifCond .lt 12, 3) := by decide +kernel
theorem dX12_tied_4 : decode cX12_tied 4 = .ok (.iload_n 1, 1) := by decide +kernel
theorem dX12_tied_5 : decode cX12_tied 5 = .ok (.aload_n 0, 1) := by decide +kernel
theorem dX12_tied_6 : decode cX12_tied 6 = .ok (.getfield 468, 3) := by decide +kernel
theorem dX12_tied_9 : decode cX12_tied 9 = .ok (.ishr, 1) := by decide +kernel
theorem dX12_tied_10 : decode cX12_tied 10 = .ok (.ifCond .eq 5, 3) := by decide +kernel
theorem dX12_tied_13 : decode cX12_tied 13 = .ok (.iconst (-1), 1) := by decide +kernel
theorem dX12_tied_14 : decode cX12_tied 14 = .ok (.ireturn, 1) := by decide +kernel
theorem dX12_tied_15 : decode cX12_tied 15 = .ok (.aload_n 0, 1) := by decide +kernel
theorem dX12_tied_16 : decode cX12_tied 16 = .ok (.aload_n 0, 1) := by decide +kernel
theorem dX12_tied_17 : decode cX12_tied 17 = .ok (.getfield 185, 3) := by decide +kernel
theorem dX12_tied_20 : decode cX12_tied 20 = .ok (.invokevirtual 426, 3) := by decide +kernel
theorem dX12_tied_23 : decode cX12_tied 23 = .ok (.aload_n 0, 1) := by decide +kernel
theorem dX12_tied_24 : decode cX12_tied 24 = .ok (.iload_n 1, 1) := by decide +kernel
theorem dX12_tied_25 : decode cX12_tied 25 = .ok (.invokevirtual 474, 3) := by decide +kernel
theorem dX12_tied_28 : decode cX12_tied 28 = .ok (.ireturn, 1) := by decide +kernel
set_option maxRecDepth 100000 in
set_option maxHeartbeats 4000000 in
theorem c_X12_tied {h : ai_H} {S : Md} {B : Bk} {ln : Nat} {U : Nat → List Int} (hok : bk_ok B ln) (hRB : RB B S) (hl : lrow U) (hU : ∀ T V q, q ≤ 400 → SI B (bk_now B) T (nR B) (nR B) q → MI T q (q * q) V → mrow V U) (hmd : md_at h S) (s : Int32) : ai_QM MX12_tied [.ref 307, .int s] h (fun r g => md_ext h g ∧ (∃ V, md_at g V ∧ mq S V) ∧ (((bi_in s 0 (nI (2 ^ nJ B - 1)) = 0) ∧ r = some (.int (-1))) ∨ (∃ k, k < 2 ^ nJ B ∧ s = nI k ∧ r = some (.int (prs U B k))))) := by
  have hn16 := hok.2.1.2.1
  have hj9 := hok.2.2.2.2.2.2.1
  have hpw := pow_J hj9
  have hpp2 := pow_pos2 (nJ B)
  refine qm_of (ls := [.ref 307, .int s]) (by decide) (by simp [ai_en, Value.category]) (by rfl) ?_
  refine wq (fun _ _ kk => rs_iload_n (pc := 0) dX12_tied_0 rfl kk) ?_
  refine wq_br (fun _ _ kt kf => rs_if_lt (tgt := 13) (pc := 1) dX12_tied_1 rfl kt kf) (fun c_1 => ?_) (fun c_1 => ?_)
  · refine wq (fun _ _ kk => rs_iconst (v := -1) (pc := 13) dX12_tied_13 rfl kk) ?_
    refine wq_ret ?_ (rs_iret (pc := 14) dX12_tied_14 rfl)
    exact ⟨md_ext.rf, ⟨S, hmd, mq.rf⟩, Or.inl ⟨(tie_g hj9).1 (by first | exact Or.inl c_1 | exact Or.inr c_10), rfl⟩⟩
  · refine wq (fun _ _ kk => rs_iload_n (pc := 4) dX12_tied_4 rfl kk) ?_
    refine wq (fun _ _ kk => rs_aload_n (pc := 5) dX12_tied_5 rfl kk) ?_
    refine wq (fun _ _ kk => rs_getf (pc := 6) dX12_tied_6 fX12_468 (md_lt hmd (by decide)) hmd.2.1 rfl kk) ?_
    rw [(hRB.1.2.2.2.2.2.trans hok.2.2.2.2.2.1)]
    refine wq (fun _ _ kk => rs_ishr (pc := 9) dX12_tied_9 kk) ?_
    refine wq_br (fun _ _ kt kf => rs_if_eq (tgt := 15) (pc := 10) dX12_tied_10 rfl kt kf) (fun c_10 => ?_) (fun c_10 => ?_)
    · refine wq (fun _ _ kk => rs_aload_n (pc := 15) dX12_tied_15 rfl kk) ?_
      refine wq (fun _ _ kk => rs_aload_n (pc := 16) dX12_tied_16 rfl kk) ?_
      refine wq (fun _ _ kk => rs_getf (pc := 17) dX12_tied_17 fX12_185 (md_lt hmd (by decide)) hmd.2.1 rfl kk) ?_
      rw [hRB.1.1]
      have hgu : ¬ (bi_in s 0 (nI (2 ^ nJ B - 1)) = 0) := fun z => by rcases (tie_g hj9).2 z with q | q; exact c_1 q; exact q c_10
      obtain ⟨k, hk, rfl⟩ := set_ex (by omega) hgu
      obtain ⟨rv_20, hc_20, ⟨rfl, ee_20, T, V, q, hqR, ec, hsg, hSI, hmd_20, hmg, hMI⟩, hm_20⟩ := c_X12_meets (wk := bk_now B) hok hRB hok.1.2 hmd
      refine wq (fun _ _ kk => rs_callV (as := [_]) (pc := 20) dX12_tied_20 mk_X12_meets mlX12_426 in_X12_meets se_X12_meets rfl (md_lt hmd (by decide)) hmd.2.1 rfl rfl (Nat.le_of_ble_eq_true rfl) (hm_20) kk) ?_
      replace hmd := hmd_20
      have E_20 := (md_ext.rf).trans ee_20
      have hm := hU T V q (Nat.le_trans hqR hok.2.2.2.2.1.2.1) hSI hMI
      have hRV := hRB.of (hsg.sb.trans hmg.sb)
      have hSV := hsg.mq.trans hmg.mq
      refine wq (fun _ _ kk => rs_aload_n (pc := 23) dX12_tied_23 rfl kk) ?_
      refine wq (fun _ _ kk => rs_iload_n (pc := 24) dX12_tied_24 rfl kk) ?_
      obtain ⟨rv_25, hc_25, ⟨rfl, ee_25, W, hmd_25, hpW, hH⟩, hm_25⟩ := c_X12_ties (s := k) (U := U) hok hRV hl hm (by omega) hmd
      refine wq (fun _ _ kk => rs_callV (as := [_]) (pc := 25) dX12_tied_25 mk_X12_ties mlX12_474 in_X12_ties se_X12_ties rfl (md_lt hmd (by decide)) hmd.2.1 rfl rfl (Nat.le_of_ble_eq_true rfl) (hm_25) kk) ?_
      replace hmd := hmd_25
      have E_25 := (E_20).trans ee_25
      refine wq_ret ?_ (rs_iret (pc := 28) dX12_tied_28 rfl)
      exact ⟨E_25, ⟨W, hmd, hSV.trans hpW.mq⟩, Or.inr ⟨k, by omega, rfl, rfl⟩⟩
    · refine wq (fun _ _ kk => rs_iconst (v := -1) (pc := 13) dX12_tied_13 rfl kk) ?_
      refine wq_ret ?_ (rs_iret (pc := 14) dX12_tied_14 rfl)
      exact ⟨md_ext.rf, ⟨S, hmd, mq.rf⟩, Or.inl ⟨(tie_g hj9).1 (by first | exact Or.inl c_1 | exact Or.inr c_10), rfl⟩⟩
/-- the model's own start, then pst -/
def pz (P W : Nat → Int32) (w : Int32) : Nat → Int32 × Int32 × Int32
  | 0 => (0, -1, 0)
  | s + 1 => (nI (pst P W w s).1, (pst P W w s).2)
theorem pz_1 {P W : Nat → Int32} {w : Int32} (h0 : W 0 = 0) (hw : 0 ≤ w.toInt) (hp : 0 ≤ (P 0).toInt) (s : Nat) : pz P W w (s + 1) = if W s ≤ w ∧ ((pz P W w s).2.1 < P s ∨ (P s = (pz P W w s).2.1 ∧ W s < (pz P W w s).2.2)) then (nI s, P s, W s) else pz P W w s := by
  cases s with
  | zero =>
    rw [if_pos]
    · show (nI 0, P 0, (0 : Int32)) = _
      rw [h0]
    · refine ⟨?_, Or.inl ?_⟩
      · rw [h0, i32_le, i32_0]; exact hw
      · show (-1 : Int32) < P 0
        rw [i32_lt, show (-1 : Int32).toInt = -1 from rfl]
        omega
  | succ s =>
    show (nI (pst P W w (s + 1)).1, (pst P W w (s + 1)).2) = _
    rw [pst]
    by_cases c : W (s + 1) ≤ w ∧ ((pst P W w s).2.1 < P (s + 1) ∨ (P (s + 1) = (pst P W w s).2.1 ∧ W (s + 1) < (pst P W w s).2.2))
    · rw [if_pos c]
      exact (if_pos c).symm
    · rw [if_neg c]
      exact (if_neg c).symm
theorem prs_nn (U : Nat → List Int) (B : Bk) (hn : nO B ≤ 16) (s : Nat) : 0 ≤ (prs U B s).toInt := by
  unfold prs
  have := lS_b (cR (tX U B (nO B) s (nJ B))) (nO B) hn
  have := pS_l (cR_s (tX U B (nO B) s (nJ B))) (nO B)
  rw [nI_toInt (by omega)]
  omega
theorem bi_in_nn {w c : Int32} (h : ¬ bi_in w 0 c = 0) : 0 ≤ w.toInt := by
  unfold bi_in at h
  split at h
  · exact absurd rfl h
  · next q => rw [i32_lt, i32_0] at q; omega
theorem one_J : ∀ n : Nat, n < 10 → (1 : Int32) <<< (nI n &&& 31) = nI (2 ^ n) := by decide +kernel
theorem dX12_plan_0 : decode cX12_plan 0 = .ok (.iload_n 1, 1) := by decide +kernel
theorem dX12_plan_1 : decode cX12_plan 1 = .ok (.i2l, 1) := by decide +kernel
theorem dX12_plan_2 : decode cX12_plan 2 = .ok (.lconst 0, 1) := by decide +kernel
theorem dX12_plan_3 : decode cX12_plan 3 = .ok (.ldc2_w 477, 3) := by decide +kernel
theorem dX12_plan_6 : decode cX12_plan 6 = .ok (.invokestatic 181, 3) := by decide +kernel
theorem dX12_plan_9 : decode cX12_plan 9 = .ok (.ifCond .eq 15, 3) := by decide +kernel
theorem dX12_plan_12 : decode cX12_plan 12 = .ok (.iload_n 2, 1) := by decide +kernel
theorem dX12_plan_13 : decode cX12_plan 13 = .ok (.i2l, 1) := by decide +kernel
theorem dX12_plan_14 : decode cX12_plan 14 = .ok (.lconst 0, 1) := by decide +kernel
theorem dX12_plan_15 : decode cX12_plan 15 = .ok (.ldc2_w 441, 3) := by decide +kernel
theorem dX12_plan_18 : decode cX12_plan 18 = .ok (.invokestatic 181, 3) := by decide +kernel
theorem dX12_plan_21 : decode cX12_plan 21 = .ok (.ifCond .ne 5, 3) := by decide +kernel
theorem dX12_plan_24 : decode cX12_plan 24 = .ok (.iconst (-1), 1) := by decide +kernel
theorem dX12_plan_25 : decode cX12_plan 25 = .ok (.ireturn, 1) := by decide +kernel
theorem dX12_plan_26 : decode cX12_plan 26 = .ok (.aload_n 0, 1) := by decide +kernel
theorem dX12_plan_27 : decode cX12_plan 27 = .ok (.aload_n 0, 1) := by decide +kernel
theorem dX12_plan_28 : decode cX12_plan 28 = .ok (.getfield 185, 3) := by decide +kernel
theorem dX12_plan_31 : decode cX12_plan 31 = .ok (.invokevirtual 426, 3) := by decide +kernel
theorem dX12_plan_34 : decode cX12_plan 34 = .ok (.iconst 0, 1) := by decide +kernel
theorem dX12_plan_35 : decode cX12_plan 35 = .ok (.istore_n 3, 1) := by decide +kernel
theorem dX12_plan_36 : decode cX12_plan 36 = .ok (.iconst (-1), 1) := by decide +kernel
theorem dX12_plan_37 : decode cX12_plan 37 = .ok (.istore 4, 2) := by decide +kernel
theorem dX12_plan_39 : decode cX12_plan 39 = .ok (.iconst 0, 1) := by decide +kernel
theorem dX12_plan_40 : decode cX12_plan 40 = .ok (.istore 5, 2) := by decide +kernel
theorem dX12_plan_42 : decode cX12_plan 42 = .ok (.iconst 0, 1) := by decide +kernel
theorem dX12_plan_43 : decode cX12_plan 43 = .ok (.istore 6, 2) := by decide +kernel
theorem dX12_plan_45 : decode cX12_plan 45 = .ok (.iload 6, 2) := by decide +kernel
theorem dX12_plan_47 : decode cX12_plan 47 = .ok (.iconst 1, 1) := by decide +kernel
theorem dX12_plan_48 : decode cX12_plan 48 = .ok (.aload_n 0, 1) := by decide +kernel
theorem dX12_plan_49 : decode cX12_plan 49 = .ok (.getfield 468, 3) := by decide +kernel
theorem dX12_plan_52 : decode cX12_plan 52 = .ok (.ishl, 1) := by decide +kernel
theorem dX12_plan_53 : decode cX12_plan 53 = .ok (.if_icmp .ge 103, 3) := by decide +kernel
theorem dX12_plan_56 : decode cX12_plan 56 = .ok (.iconst 0, 1) := by decide +kernel
theorem dX12_plan_57 : decode cX12_plan 57 = .ok (.istore 7, 2) := by decide +kernel
theorem dX12_plan_59 : decode cX12_plan 59 = .ok (.iconst 0, 1) := by decide +kernel
theorem dX12_plan_60 : decode cX12_plan 60 = .ok (.istore 8, 2) := by decide +kernel
theorem dX12_plan_62 : decode cX12_plan 62 = .ok (.iload 8, 2) := by decide +kernel
theorem dX12_plan_64 : decode cX12_plan 64 = .ok (.aload_n 0, 1) := by decide +kernel
theorem dX12_plan_65 : decode cX12_plan 65 = .ok (.getfield 468, 3) := by decide +kernel
theorem dX12_plan_68 : decode cX12_plan 68 = .ok (.if_icmp .ge 36, 3) := by decide +kernel
theorem dX12_plan_71 : decode cX12_plan 71 = .ok (.iload 7, 2) := by decide +kernel
theorem dX12_plan_73 : decode cX12_plan 73 = .ok (.iload 6, 2) := by decide +kernel
theorem dX12_plan_75 : decode cX12_plan 75 = .ok (.iload 8, 2) := by decide +kernel
theorem dX12_plan_77 : decode cX12_plan 77 = .ok (.ishr, 1) := by decide +kernel
theorem dX12_plan_78 : decode cX12_plan 78 = .ok (.iconst 1, 1) := by decide +kernel
theorem dX12_plan_79 : decode cX12_plan 79 = .ok (.iand, 1) := by decide +kernel
theorem dX12_plan_80 : decode cX12_plan 80 = .ok (.iconst 1, 1) := by decide +kernel
theorem dX12_plan_81 : decode cX12_plan 81 = .ok (.if_icmp .ne 13, 3) := by decide +kernel
theorem dX12_plan_84 : decode cX12_plan 84 = .ok (.aload_n 0, 1) := by decide +kernel
theorem dX12_plan_85 : decode cX12_plan 85 = .ok (.getfield 153, 3) := by decide +kernel
theorem dX12_plan_88 : decode cX12_plan 88 = .ok (.iload 8, 2) := by decide +kernel
theorem dX12_plan_90 : decode cX12_plan 90 = .ok (.iaload, 1) := by decide +kernel
theorem dX12_plan_91 : decode cX12_plan 91 = .ok (.goto 4, 3) := by decide +kernel
theorem dX12_plan_94 : decode cX12_plan 94 = .ok (.iconst 0, 1) := by decide +kernel
theorem dX12_plan_95 : decode cX12_plan 95 = .ok (.iadd, 1) := by decide +kernel
theorem dX12_plan_96 : decode cX12_plan 96 = .ok (.istore 7, 2) := by decide +kernel
theorem dX12_plan_98 : decode cX12_plan 98 = .ok (.iinc 8 1, 3) := by decide +kernel
theorem dX12_plan_101 : decode cX12_plan 101 = .ok (.goto (-39), 3) := by decide +kernel
theorem dX12_plan_104 : decode cX12_plan 104 = .ok (.iload 7, 2) := by decide +kernel
theorem dX12_plan_106 : decode cX12_plan 106 = .ok (.iload_n 1, 1) := by decide +kernel
theorem dX12_plan_107 : decode cX12_plan 107 = .ok (.if_icmp .gt 43, 3) := by decide +kernel
theorem dX12_plan_110 : decode cX12_plan 110 = .ok (.aload_n 0, 1) := by decide +kernel
theorem dX12_plan_111 : decode cX12_plan 111 = .ok (.iload 6, 2) := by decide +kernel
theorem dX12_plan_113 : decode cX12_plan 113 = .ok (.invokevirtual 474, 3) := by decide +kernel
theorem dX12_plan_116 : decode cX12_plan 116 = .ok (.istore 8, 2) := by decide +kernel
theorem dX12_plan_118 : decode cX12_plan 118 = .ok (.iload 8, 2) := by decide +kernel
theorem dX12_plan_120 : decode cX12_plan 120 = .ok (.iload 4, 2) := by decide +kernel
theorem dX12_plan_122 : decode cX12_plan 122 = .ok (.if_icmp .gt 17, 3) := by decide +kernel
theorem dX12_plan_125 : decode cX12_plan 125 = .ok (.iload 8, 2) := by decide +kernel
theorem dX12_plan_127 : decode cX12_plan 127 = .ok (.iload 4, 2) := by decide +kernel
theorem dX12_plan_129 : decode cX12_plan 129 = .ok (.if_icmp .ne 21, 3) := by decide +kernel
theorem dX12_plan_132 : decode cX12_plan 132 = .ok (.iload 7, 2) := by decide +kernel
theorem dX12_plan_134 : decode cX12_plan 134 = .ok (.iload 5, 2) := by decide +kernel
theorem dX12_plan_136 : decode cX12_plan 136 = .ok (.if_icmp .ge 14, 3) := by decide +kernel
theorem dX12_plan_139 : decode cX12_plan 139 = .ok (.iload 6, 2) := by decide +kernel
theorem dX12_plan_141 : decode cX12_plan 141 = .ok (.istore_n 3, 1) := by decide +kernel
theorem dX12_plan_142 : decode cX12_plan 142 = .ok (.iload 8, 2) := by decide +kernel
theorem dX12_plan_144 : decode cX12_plan 144 = .ok (.istore 4, 2) := by decide +kernel
theorem dX12_plan_146 : decode cX12_plan 146 = .ok (.iload 7, 2) := by decide +kernel
theorem dX12_plan_148 : decode cX12_plan 148 = .ok (.istore 5, 2) := by decide +kernel
theorem dX12_plan_150 : decode cX12_plan 150 = .ok (.iinc 6 1, 3) := by decide +kernel
theorem dX12_plan_153 : decode cX12_plan 153 = .ok (.goto (-108), 3) := by decide +kernel
theorem dX12_plan_156 : decode cX12_plan 156 = .ok (.iload_n 2, 1) := by decide +kernel
theorem dX12_plan_157 : decode cX12_plan 157 = .ok (.ifCond .ne 7, 3) := by decide +kernel
theorem dX12_plan_160 : decode cX12_plan 160 = .ok (.iload_n 3, 1) := by decide +kernel
theorem dX12_plan_161 : decode cX12_plan 161 = .ok (.goto 15, 3) := by decide +kernel
theorem dX12_plan_164 : decode cX12_plan 164 = .ok (.iload_n 2, 1) := by decide +kernel
theorem dX12_plan_165 : decode cX12_plan 165 = .ok (.iconst 1, 1) := by decide +kernel
theorem dX12_plan_166 : decode cX12_plan 166 = .ok (.if_icmp .ne 8, 3) := by decide +kernel
theorem dX12_plan_169 : decode cX12_plan 169 = .ok (.iload 4, 2) := by decide +kernel
theorem dX12_plan_171 : decode cX12_plan 171 = .ok (.goto 5, 3) := by decide +kernel
theorem dX12_plan_174 : decode cX12_plan 174 = .ok (.iload 5, 2) := by decide +kernel
theorem dX12_plan_176 : decode cX12_plan 176 = .ok (.ireturn, 1) := by decide +kernel
set_option maxRecDepth 100000 in
set_option maxHeartbeats 4000000 in
theorem l1_X12_plan {h : ai_H} {V : Md} {B : Bk} {ln s : Nat} {w x v3 v4 v5 : Int32} {Q : Option Value → ai_H → Prop} (hok : bk_ok B ln) (hRV : RB B V) (hmd : md_at h V) (hs : s < 2 ^ 31) (kx : ai_W MX12_plan 104 [.ref 307, .int w, .int x, .int v3, .int v4, .int v5, .int (nI s), .int (wkS B s (nJ B)), .int (nI (nJ B))] [] h Q) : ∀ (k i : Nat), i ≤ nJ B → nJ B + 1 ≤ i + k → ai_W MX12_plan 62 [.ref 307, .int w, .int x, .int v3, .int v4, .int v5, .int (nI s), .int (wkS B s i), .int (nI i)] [] h Q := by
  have hj9 := hok.2.2.2.2.2.2.1
  intro k
  induction k with
  | zero => intro i h1 h2; exact absurd h2 (by omega)
  | succ k ih =>
    intro i hi0 him
    refine wq (fun _ _ kk => rs_iload (pc := 62) dX12_plan_62 rfl kk) ?_
    refine wq (fun _ _ kk => rs_aload_n (pc := 64) dX12_plan_64 rfl kk) ?_
    refine wq (fun _ _ kk => rs_getf (pc := 65) dX12_plan_65 fX12_468 (md_lt hmd (by decide)) hmd.2.1 rfl kk) ?_
    rw [(hRV.1.2.2.2.2.2.trans hok.2.2.2.2.2.1)]
    refine wq_br (fun _ _ kt kf => rs_icmp_ge (tgt := 104) (pc := 68) dX12_plan_68 rfl kt kf) (fun c_68 => ?_) (fun c_68 => ?_)
    · have hie : i = nJ B := lp_exit rfl (by omega) hi0 c_68
      subst hie
      exact kx
    · have hi : i < nJ B := lp_go rfl (by omega) c_68
      obtain ⟨r1, r2, r3⟩ := hRV.2.2.2.2.2 i hi
      refine wq (fun _ _ kk => rs_iload (pc := 71) dX12_plan_71 rfl kk) ?_
      refine wq (fun _ _ kk => rs_iload (pc := 73) dX12_plan_73 rfl kk) ?_
      refine wq (fun _ _ kk => rs_iload (pc := 75) dX12_plan_75 rfl kk) ?_
      refine wq (fun _ _ kk => rs_ishr (pc := 77) dX12_plan_77 kk) ?_
      refine wq (fun _ _ kk => rs_iconst (v := 1) (pc := 78) dX12_plan_78 rfl kk) ?_
      refine wq (fun _ _ kk => rs_iand (pc := 79) dX12_plan_79 kk) ?_
      refine wq (fun _ _ kk => rs_iconst (v := 1) (pc := 80) dX12_plan_80 rfl kk) ?_
      refine wq_bn (fun _ _ kt kf => rs_icmp_ne (tgt := 94) (pc := 81) dX12_plan_81 rfl kt kf) (fun c_81 => ?_) (fun c_81 => ?_)
      · rw [sb_nI hs (by omega)] at c_81
        refine wq (fun _ _ kk => rs_iconst (v := 0) (pc := 94) dX12_plan_94 rfl kk) ?_
        refine wq (fun _ _ kk => rs_iadd (pc := 95) dX12_plan_95 kk) ?_
        try rw [Int32.add_zero]
        refine wq (fun _ _ kk => wk_ist7 (pc := 96) dX12_plan_96 (by decide) rfl kk) ?_
        refine wq (fun _ _ kk => wk_iinc8 (v := nI (i + 1)) (pc := 98) dX12_plan_98 (by decide) rfl (nI_1 i) kk) ?_
        refine wq (fun _ _ kk => rs_goto (tgt := 62) (pc := 101) dX12_plan_101 rfl kk) ?_
        first
        | (have e := ih (i + 1) (by omega) (by omega); rw [wkS, if_pos c_81] at e; exact e)
        | (have e := ih (i + 1) (by omega) (by omega); rw [wkS, if_neg c_81] at e; exact e)
      · rw [sb_nI hs (by omega)] at c_81
        refine wq (fun _ _ kk => rs_aload_n (pc := 84) dX12_plan_84 rfl kk) ?_
        refine wq (fun _ _ kk => rs_getf (pc := 85) dX12_plan_85 fX12_153 (md_lt hmd (by decide)) hmd.2.1 rfl kk) ?_
        refine wq (fun _ _ kk => rs_iload (pc := 88) dX12_plan_88 rfl kk) ?_
        refine wq (fun _ _ kk => rs_iald (pc := 90) dX12_plan_90 (md_lt hmd (by decide)) (md_geti (d := 47) (k := 63) (kd := 0) (n := 9) rfl (by decide) hmd) (vp_in_nI (n := i) (N := 9) (by omega) (by decide)) kk) ?_
        rw [nI_clamp (show i < 2 ^ 31 by omega), r3]
        refine wq (fun _ _ kk => rs_goto (tgt := 95) (pc := 91) dX12_plan_91 rfl kk) ?_
        refine wq (fun _ _ kk => rs_iadd (pc := 95) dX12_plan_95 kk) ?_
        try rw [Int32.add_zero]
        refine wq (fun _ _ kk => wk_ist7 (pc := 96) dX12_plan_96 (by decide) rfl kk) ?_
        refine wq (fun _ _ kk => wk_iinc8 (v := nI (i + 1)) (pc := 98) dX12_plan_98 (by decide) rfl (nI_1 i) kk) ?_
        refine wq (fun _ _ kk => rs_goto (tgt := 62) (pc := 101) dX12_plan_101 rfl kk) ?_
        first
        | (have e := ih (i + 1) (by omega) (by omega); rw [wkS, if_pos c_81] at e; exact e)
        | (have e := ih (i + 1) (by omega) (by omega); rw [wkS, if_neg c_81] at e; exact e)
set_option maxRecDepth 100000 in
set_option maxHeartbeats 4000000 in
theorem t_X12_plan {h : ai_H} {S : Md} {B : Bk} {ln : Nat} {U : Nat → List Int} {w x : Int32} (hok : bk_ok B ln) (hRB : RB B S) (hl : lrow U) (hw : 0 ≤ w.toInt) {s : Nat} {v3 v4 v5 : Int32} {V1 : Md} {g : ai_H} {Q : Option Value → ai_H → Prop} (hsl : s < 2 ^ nJ B) (E0 : md_ext h g) (hmd : md_at g V1) (hm : mrow V1 U) (hSV : mq S V1) (q1 : v3 = (pz (prs U B) (fun t => wkS B t (nJ B)) w s).1) (q2 : v4 = (pz (prs U B) (fun t => wkS B t (nJ B)) w s).2.1) (q3 : v5 = (pz (prs U B) (fun t => wkS B t (nJ B)) w s).2.2) (kx : ∀ (v3 v4 v5 : Int32) (u7 u8 : Value) (V1 : Md) (g : ai_H), md_ext h g → md_at g V1 → mrow V1 U → mq S V1 → v3 = (pz (prs U B) (fun t => wkS B t (nJ B)) w (s + 1)).1 → v4 = (pz (prs U B) (fun t => wkS B t (nJ B)) w (s + 1)).2.1 → v5 = (pz (prs U B) (fun t => wkS B t (nJ B)) w (s + 1)).2.2 → ai_W MX12_plan 45 [.ref 307, .int w, .int x, .int v3, .int v4, .int v5, .int (nI (s + 1)), u7, u8] [] g Q) : ai_W MX12_plan 104 [.ref 307, .int w, .int x, .int v3, .int v4, .int v5, .int (nI s), .int (wkS B s (nJ B)), .int (nI (nJ B))] [] g Q := by
  have hn16 := hok.2.1.2.1
  have hj9 := hok.2.2.2.2.2.2.1
  have hpw := pow_J hj9
  have hpp2 := pow_pos2 (nJ B)
  have hRV := hRB.of hSV.sb
  refine wq (fun _ _ kk => rs_iload (pc := 104) dX12_plan_104 rfl kk) ?_
  refine wq (fun _ _ kk => rs_iload_n (pc := 106) dX12_plan_106 rfl kk) ?_
  refine wq_br (fun _ _ kt kf => rs_icmp_gt (tgt := 150) (pc := 107) dX12_plan_107 rfl kt kf) (fun c_107 => ?_) (fun c_107 => ?_)
  · refine wq (fun _ _ kk => wk_iinc6 (v := nI (s + 1)) (pc := 150) dX12_plan_150 (by decide) rfl (nI_1 s) kk) ?_
    refine wq (fun _ _ kk => rs_goto (tgt := 45) (pc := 153) dX12_plan_153 rfl kk) ?_
    have hpz := pz_1 (P := prs U B) (W := fun t => wkS B t (nJ B)) (w := w) (wkS_0 B (nJ B)) hw (prs_nn U B hn16 0) s
    first
    | (have hp : pz (prs U B) (fun t => wkS B t (nJ B)) w (s + 1) = (nI s, prs U B s, wkS B s (nJ B)) := by
         rw [hpz, if_pos]
         exact ⟨by rw [i32_le]; rw [i32_lt] at c_107; omega, by first | exact Or.inl (by rw [← q2]; exact c_122) | exact Or.inr ⟨by rw [← q2]; exact c_129, by rw [← q3]; rw [i32_le] at c_136; rw [i32_lt]; omega⟩⟩
       exact kx _ _ _ _ _ _ _ E0 hmd hm hSV (by rw [hp]) (by rw [hp]) (by rw [hp]))
    | (have hp : pz (prs U B) (fun t => wkS B t (nJ B)) w (s + 1) = pz (prs U B) (fun t => wkS B t (nJ B)) w s := by
         rw [hpz, if_neg]
         rintro ⟨y1, y2⟩
         first
         | (rw [i32_le] at y1; rw [i32_lt] at c_107; omega)
         | (rw [← q2, ← q3] at y2
            rcases y2 with y2 | ⟨y2, y3⟩
            · exact c_122 y2
            · first
              | exact c_129 y2
              | (rw [i32_le] at c_136; rw [i32_lt] at y3; omega))
       exact kx _ _ _ _ _ _ _ E0 hmd hm hSV (by rw [hp]; exact q1) (by rw [hp]; exact q2) (by rw [hp]; exact q3))
  · refine wq (fun _ _ kk => rs_aload_n (pc := 110) dX12_plan_110 rfl kk) ?_
    refine wq (fun _ _ kk => rs_iload (pc := 111) dX12_plan_111 rfl kk) ?_
    obtain ⟨rv_113, hc_113, ⟨rfl, ee_113, W, hmd_113, hpW, hH⟩, hm_113⟩ := c_X12_ties (s := s) (U := U) hok hRV hl hm (by omega) hmd
    refine wq (fun _ _ kk => rs_callV (as := [_]) (pc := 113) dX12_plan_113 mk_X12_ties mlX12_474 in_X12_ties se_X12_ties rfl (md_lt hmd (by decide)) hmd.2.1 rfl rfl (Nat.le_of_ble_eq_true rfl) (hm_113) kk) ?_
    replace hmd := hmd_113
    have E_113 := (E0).trans ee_113
    refine wq (fun _ _ kk => wk_ist8 (pc := 116) dX12_plan_116 (by decide) rfl kk) ?_
    refine wq (fun _ _ kk => rs_iload (pc := 118) dX12_plan_118 rfl kk) ?_
    refine wq (fun _ _ kk => rs_iload (pc := 120) dX12_plan_120 rfl kk) ?_
    refine wq_br (fun _ _ kt kf => rs_icmp_gt (tgt := 139) (pc := 122) dX12_plan_122 rfl kt kf) (fun c_122 => ?_) (fun c_122 => ?_)
    · refine wq (fun _ _ kk => rs_iload (pc := 139) dX12_plan_139 rfl kk) ?_
      refine wq (fun _ _ kk => wk_istn3 (pc := 141) dX12_plan_141 (by decide) rfl kk) ?_
      refine wq (fun _ _ kk => rs_iload (pc := 142) dX12_plan_142 rfl kk) ?_
      refine wq (fun _ _ kk => wk_ist4 (pc := 144) dX12_plan_144 (by decide) rfl kk) ?_
      refine wq (fun _ _ kk => rs_iload (pc := 146) dX12_plan_146 rfl kk) ?_
      refine wq (fun _ _ kk => wk_ist5 (pc := 148) dX12_plan_148 (by decide) rfl kk) ?_
      refine wq (fun _ _ kk => wk_iinc6 (v := nI (s + 1)) (pc := 150) dX12_plan_150 (by decide) rfl (nI_1 s) kk) ?_
      refine wq (fun _ _ kk => rs_goto (tgt := 45) (pc := 153) dX12_plan_153 rfl kk) ?_
      have hpz := pz_1 (P := prs U B) (W := fun t => wkS B t (nJ B)) (w := w) (wkS_0 B (nJ B)) hw (prs_nn U B hn16 0) s
      first
      | (have hp : pz (prs U B) (fun t => wkS B t (nJ B)) w (s + 1) = (nI s, prs U B s, wkS B s (nJ B)) := by
           rw [hpz, if_pos]
           exact ⟨by rw [i32_le]; rw [i32_lt] at c_107; omega, by first | exact Or.inl (by rw [← q2]; exact c_122) | exact Or.inr ⟨by rw [← q2]; exact c_129, by rw [← q3]; rw [i32_le] at c_136; rw [i32_lt]; omega⟩⟩
         exact kx _ _ _ _ _ _ _ (E_113) hmd (hpW.mrow hm) (hSV.trans hpW.mq) (by rw [hp]) (by rw [hp]) (by rw [hp]))
      | (have hp : pz (prs U B) (fun t => wkS B t (nJ B)) w (s + 1) = pz (prs U B) (fun t => wkS B t (nJ B)) w s := by
           rw [hpz, if_neg]
           rintro ⟨y1, y2⟩
           first
           | (rw [i32_le] at y1; rw [i32_lt] at c_107; omega)
           | (rw [← q2, ← q3] at y2
              rcases y2 with y2 | ⟨y2, y3⟩
              · exact c_122 y2
              · first
                | exact c_129 y2
                | (rw [i32_le] at c_136; rw [i32_lt] at y3; omega))
         exact kx _ _ _ _ _ _ _ (E_113) hmd (hpW.mrow hm) (hSV.trans hpW.mq) (by rw [hp]; exact q1) (by rw [hp]; exact q2) (by rw [hp]; exact q3))
    · refine wq (fun _ _ kk => rs_iload (pc := 125) dX12_plan_125 rfl kk) ?_
      refine wq (fun _ _ kk => rs_iload (pc := 127) dX12_plan_127 rfl kk) ?_
      refine wq_bn (fun _ _ kt kf => rs_icmp_ne (tgt := 150) (pc := 129) dX12_plan_129 rfl kt kf) (fun c_129 => ?_) (fun c_129 => ?_)
      · refine wq (fun _ _ kk => wk_iinc6 (v := nI (s + 1)) (pc := 150) dX12_plan_150 (by decide) rfl (nI_1 s) kk) ?_
        refine wq (fun _ _ kk => rs_goto (tgt := 45) (pc := 153) dX12_plan_153 rfl kk) ?_
        have hpz := pz_1 (P := prs U B) (W := fun t => wkS B t (nJ B)) (w := w) (wkS_0 B (nJ B)) hw (prs_nn U B hn16 0) s
        first
        | (have hp : pz (prs U B) (fun t => wkS B t (nJ B)) w (s + 1) = (nI s, prs U B s, wkS B s (nJ B)) := by
             rw [hpz, if_pos]
             exact ⟨by rw [i32_le]; rw [i32_lt] at c_107; omega, by first | exact Or.inl (by rw [← q2]; exact c_122) | exact Or.inr ⟨by rw [← q2]; exact c_129, by rw [← q3]; rw [i32_le] at c_136; rw [i32_lt]; omega⟩⟩
           exact kx _ _ _ _ _ _ _ (E_113) hmd (hpW.mrow hm) (hSV.trans hpW.mq) (by rw [hp]) (by rw [hp]) (by rw [hp]))
        | (have hp : pz (prs U B) (fun t => wkS B t (nJ B)) w (s + 1) = pz (prs U B) (fun t => wkS B t (nJ B)) w s := by
             rw [hpz, if_neg]
             rintro ⟨y1, y2⟩
             first
             | (rw [i32_le] at y1; rw [i32_lt] at c_107; omega)
             | (rw [← q2, ← q3] at y2
                rcases y2 with y2 | ⟨y2, y3⟩
                · exact c_122 y2
                · first
                  | exact c_129 y2
                  | (rw [i32_le] at c_136; rw [i32_lt] at y3; omega))
           exact kx _ _ _ _ _ _ _ (E_113) hmd (hpW.mrow hm) (hSV.trans hpW.mq) (by rw [hp]; exact q1) (by rw [hp]; exact q2) (by rw [hp]; exact q3))
      · refine wq (fun _ _ kk => rs_iload (pc := 132) dX12_plan_132 rfl kk) ?_
        refine wq (fun _ _ kk => rs_iload (pc := 134) dX12_plan_134 rfl kk) ?_
        refine wq_br (fun _ _ kt kf => rs_icmp_ge (tgt := 150) (pc := 136) dX12_plan_136 rfl kt kf) (fun c_136 => ?_) (fun c_136 => ?_)
        · refine wq (fun _ _ kk => wk_iinc6 (v := nI (s + 1)) (pc := 150) dX12_plan_150 (by decide) rfl (nI_1 s) kk) ?_
          refine wq (fun _ _ kk => rs_goto (tgt := 45) (pc := 153) dX12_plan_153 rfl kk) ?_
          have hpz := pz_1 (P := prs U B) (W := fun t => wkS B t (nJ B)) (w := w) (wkS_0 B (nJ B)) hw (prs_nn U B hn16 0) s
          first
          | (have hp : pz (prs U B) (fun t => wkS B t (nJ B)) w (s + 1) = (nI s, prs U B s, wkS B s (nJ B)) := by
               rw [hpz, if_pos]
               exact ⟨by rw [i32_le]; rw [i32_lt] at c_107; omega, by first | exact Or.inl (by rw [← q2]; exact c_122) | exact Or.inr ⟨by rw [← q2]; exact c_129, by rw [← q3]; rw [i32_le] at c_136; rw [i32_lt]; omega⟩⟩
             exact kx _ _ _ _ _ _ _ (E_113) hmd (hpW.mrow hm) (hSV.trans hpW.mq) (by rw [hp]) (by rw [hp]) (by rw [hp]))
          | (have hp : pz (prs U B) (fun t => wkS B t (nJ B)) w (s + 1) = pz (prs U B) (fun t => wkS B t (nJ B)) w s := by
               rw [hpz, if_neg]
               rintro ⟨y1, y2⟩
               first
               | (rw [i32_le] at y1; rw [i32_lt] at c_107; omega)
               | (rw [← q2, ← q3] at y2
                  rcases y2 with y2 | ⟨y2, y3⟩
                  · exact c_122 y2
                  · first
                    | exact c_129 y2
                    | (rw [i32_le] at c_136; rw [i32_lt] at y3; omega))
             exact kx _ _ _ _ _ _ _ (E_113) hmd (hpW.mrow hm) (hSV.trans hpW.mq) (by rw [hp]; exact q1) (by rw [hp]; exact q2) (by rw [hp]; exact q3))
        · refine wq (fun _ _ kk => rs_iload (pc := 139) dX12_plan_139 rfl kk) ?_
          refine wq (fun _ _ kk => wk_istn3 (pc := 141) dX12_plan_141 (by decide) rfl kk) ?_
          refine wq (fun _ _ kk => rs_iload (pc := 142) dX12_plan_142 rfl kk) ?_
          refine wq (fun _ _ kk => wk_ist4 (pc := 144) dX12_plan_144 (by decide) rfl kk) ?_
          refine wq (fun _ _ kk => rs_iload (pc := 146) dX12_plan_146 rfl kk) ?_
          refine wq (fun _ _ kk => wk_ist5 (pc := 148) dX12_plan_148 (by decide) rfl kk) ?_
          refine wq (fun _ _ kk => wk_iinc6 (v := nI (s + 1)) (pc := 150) dX12_plan_150 (by decide) rfl (nI_1 s) kk) ?_
          refine wq (fun _ _ kk => rs_goto (tgt := 45) (pc := 153) dX12_plan_153 rfl kk) ?_
          have hpz := pz_1 (P := prs U B) (W := fun t => wkS B t (nJ B)) (w := w) (wkS_0 B (nJ B)) hw (prs_nn U B hn16 0) s
          first
          | (have hp : pz (prs U B) (fun t => wkS B t (nJ B)) w (s + 1) = (nI s, prs U B s, wkS B s (nJ B)) := by
               rw [hpz, if_pos]
               exact ⟨by rw [i32_le]; rw [i32_lt] at c_107; omega, by first | exact Or.inl (by rw [← q2]; exact c_122) | exact Or.inr ⟨by rw [← q2]; exact c_129, by rw [← q3]; rw [i32_le] at c_136; rw [i32_lt]; omega⟩⟩
             exact kx _ _ _ _ _ _ _ (E_113) hmd (hpW.mrow hm) (hSV.trans hpW.mq) (by rw [hp]) (by rw [hp]) (by rw [hp]))
          | (have hp : pz (prs U B) (fun t => wkS B t (nJ B)) w (s + 1) = pz (prs U B) (fun t => wkS B t (nJ B)) w s := by
               rw [hpz, if_neg]
               rintro ⟨y1, y2⟩
               first
               | (rw [i32_le] at y1; rw [i32_lt] at c_107; omega)
               | (rw [← q2, ← q3] at y2
                  rcases y2 with y2 | ⟨y2, y3⟩
                  · exact c_122 y2
                  · first
                    | exact c_129 y2
                    | (rw [i32_le] at c_136; rw [i32_lt] at y3; omega))
             exact kx _ _ _ _ _ _ _ (E_113) hmd (hpW.mrow hm) (hSV.trans hpW.mq) (by rw [hp]; exact q1) (by rw [hp]; exact q2) (by rw [hp]; exact q3))
set_option maxRecDepth 100000 in
set_option maxHeartbeats 4000000 in
theorem l2_X12_plan {h : ai_H} {S : Md} {B : Bk} {ln : Nat} {U : Nat → List Int} {w x : Int32} (hok : bk_ok B ln) (hRB : RB B S) (hl : lrow U) (hw : 0 ≤ w.toInt) : ∀ (k s : Nat) (v3 v4 v5 : Int32) (u7 u8 : Value) (V1 : Md) (g : ai_H), s ≤ 2 ^ nJ B → 2 ^ nJ B + 1 ≤ s + k → md_ext h g → md_at g V1 → mrow V1 U → mq S V1 → v3 = (pz (prs U B) (fun t => wkS B t (nJ B)) w s).1 → v4 = (pz (prs U B) (fun t => wkS B t (nJ B)) w s).2.1 → v5 = (pz (prs U B) (fun t => wkS B t (nJ B)) w s).2.2 → ai_W MX12_plan 45 [.ref 307, .int w, .int x, .int v3, .int v4, .int v5, .int (nI s), u7, u8] [] g (fun r g => md_ext h g ∧ (∃ V, md_at g V ∧ mq S V) ∧ r = some (.int (uu_plan U B w x))) := by
  have hn16 := hok.2.1.2.1
  have hj9 := hok.2.2.2.2.2.2.1
  have hpw := pow_J hj9
  have hpp2 := pow_pos2 (nJ B)
  intro k
  induction k with
  | zero => intro s v3 v4 v5 u7 u8 V1 g h1 h2; exact absurd h2 (by omega)
  | succ k ih =>
    intro s v3 v4 v5 u7 u8 V1 g hs0 him E0 hmd hm hSV q1 q2 q3
    refine wq (fun _ _ kk => rs_iload (pc := 45) dX12_plan_45 rfl kk) ?_
    refine wq (fun _ _ kk => rs_iconst (v := 1) (pc := 47) dX12_plan_47 rfl kk) ?_
    refine wq (fun _ _ kk => rs_aload_n (pc := 48) dX12_plan_48 rfl kk) ?_
    refine wq (fun _ _ kk => rs_getf (pc := 49) dX12_plan_49 fX12_468 (md_lt hmd (by decide)) hmd.2.1 rfl kk) ?_
    rw [((hRB.of hSV.sb).1.2.2.2.2.2.trans hok.2.2.2.2.2.1)]
    refine wq (fun _ _ kk => rs_ishl (pc := 52) dX12_plan_52 kk) ?_
    rw [one_J (nJ B) (by omega)]
    refine wq_br (fun _ _ kt kf => rs_icmp_ge (tgt := 156) (pc := 53) dX12_plan_53 rfl kt kf) (fun c_53 => ?_) (fun c_53 => ?_)
    · have hse : s = 2 ^ nJ B := lp_exit rfl (by omega) hs0 c_53
      refine wq (fun _ _ kk => rs_iload_n (pc := 156) dX12_plan_156 rfl kk) ?_
      refine wq_bn (fun _ _ kt kf => rs_if_ne (tgt := 164) (pc := 157) dX12_plan_157 rfl kt kf) (fun c_157 => ?_) (fun c_157 => ?_)
      · refine wq (fun _ _ kk => rs_iload_n (pc := 164) dX12_plan_164 rfl kk) ?_
        refine wq (fun _ _ kk => rs_iconst (v := 1) (pc := 165) dX12_plan_165 rfl kk) ?_
        refine wq_bn (fun _ _ kt kf => rs_icmp_ne (tgt := 174) (pc := 166) dX12_plan_166 rfl kt kf) (fun c_166 => ?_) (fun c_166 => ?_)
        · refine wq (fun _ _ kk => rs_iload (pc := 174) dX12_plan_174 rfl kk) ?_
          refine wq_ret ?_ (rs_iret (pc := 176) dX12_plan_176 rfl)
          subst hse
          obtain ⟨n, hn⟩ : ∃ n, 2 ^ nJ B = n + 1 := ⟨2 ^ nJ B - 1, by omega⟩
          rw [hn] at q1 q2 q3
          exact ⟨E0, ⟨V1, hmd, hSV⟩, by unfold uu_plan; rw [show 2 ^ nJ B - 1 = n by omega]; first | (rw [if_pos c_157, q1]; rfl) | (rw [if_neg c_157, if_pos c_166, q2]; rfl) | (rw [if_neg c_157, if_neg c_166, q3]; rfl)⟩
        · refine wq (fun _ _ kk => rs_iload (pc := 169) dX12_plan_169 rfl kk) ?_
          refine wq (fun _ _ kk => rs_goto (tgt := 176) (pc := 171) dX12_plan_171 rfl kk) ?_
          refine wq_ret ?_ (rs_iret (pc := 176) dX12_plan_176 rfl)
          subst hse
          obtain ⟨n, hn⟩ : ∃ n, 2 ^ nJ B = n + 1 := ⟨2 ^ nJ B - 1, by omega⟩
          rw [hn] at q1 q2 q3
          exact ⟨E0, ⟨V1, hmd, hSV⟩, by unfold uu_plan; rw [show 2 ^ nJ B - 1 = n by omega]; first | (rw [if_pos c_157, q1]; rfl) | (rw [if_neg c_157, if_pos c_166, q2]; rfl) | (rw [if_neg c_157, if_neg c_166, q3]; rfl)⟩
      · refine wq (fun _ _ kk => rs_iload_n (pc := 160) dX12_plan_160 rfl kk) ?_
        refine wq (fun _ _ kk => rs_goto (tgt := 176) (pc := 161) dX12_plan_161 rfl kk) ?_
        refine wq_ret ?_ (rs_iret (pc := 176) dX12_plan_176 rfl)
        subst hse
        obtain ⟨n, hn⟩ : ∃ n, 2 ^ nJ B = n + 1 := ⟨2 ^ nJ B - 1, by omega⟩
        rw [hn] at q1 q2 q3
        exact ⟨E0, ⟨V1, hmd, hSV⟩, by unfold uu_plan; rw [show 2 ^ nJ B - 1 = n by omega]; first | (rw [if_pos c_157, q1]; rfl) | (rw [if_neg c_157, if_pos c_166, q2]; rfl) | (rw [if_neg c_157, if_neg c_166, q3]; rfl)⟩
    · have hsl : s < 2 ^ nJ B := lp_go rfl (by omega) c_53
      have hRV := hRB.of hSV.sb
      refine wq (fun _ _ kk => rs_iconst (v := 0) (pc := 56) dX12_plan_56 rfl kk) ?_
      refine wq (fun _ _ kk => wk_ist7 (pc := 57) dX12_plan_57 (by decide) rfl kk) ?_
      refine wq (fun _ _ kk => rs_iconst (v := 0) (pc := 59) dX12_plan_59 rfl kk) ?_
      refine wq (fun _ _ kk => wk_ist8 (pc := 60) dX12_plan_60 (by decide) rfl kk) ?_
      refine l1_X12_plan hok hRV hmd (show s < 2 ^ 31 by omega) ?_ (nJ B + 1) 0 (by omega) (by omega)
      exact t_X12_plan hok hRB hl hw hsl E0 hmd hm hSV q1 q2 q3 (fun v3 v4 v5 u7 u8 V1 g => ih (s + 1) v3 v4 v5 u7 u8 V1 g (by omega) (by omega))
set_option maxRecDepth 100000 in
set_option maxHeartbeats 4000000 in
theorem c_X12_plan {h : ai_H} {S : Md} {B : Bk} {ln : Nat} {U : Nat → List Int} (hok : bk_ok B ln) (hRB : RB B S) (hl : lrow U) (hU : ∀ T V q, q ≤ 400 → SI B (bk_now B) T (nR B) (nR B) q → MI T q (q * q) V → mrow V U) (hmd : md_at h S) (w x : Int32) : ai_QM MX12_plan [.ref 307, .int w, .int x] h (fun r g => md_ext h g ∧ (∃ V, md_at g V ∧ mq S V) ∧ (((bi_in w 0 999 = 0 ∨ bi_in x 0 2 = 0) ∧ r = some (.int (-1))) ∨ (¬ (bi_in w 0 999 = 0 ∨ bi_in x 0 2 = 0) ∧ r = some (.int (uu_plan U B w x))))) := by
  have hn16 := hok.2.1.2.1
  have hj9 := hok.2.2.2.2.2.2.1
  have hpw := pow_J hj9
  have hpp2 := pow_pos2 (nJ B)
  refine qm_of (ls := [.ref 307, .int w, .int x, .float 0, .float 0, .float 0, .float 0, .float 0, .float 0]) (by decide) (by simp [ai_en, Value.category]) (by rfl) ?_
  refine wq (fun _ _ kk => rs_iload_n (pc := 0) dX12_plan_0 rfl kk) ?_
  refine wq (fun _ _ kk => rs_i2l (pc := 1) dX12_plan_1 kk) ?_
  refine wq (fun _ _ kk => rs_lconst (v := 0) (pc := 2) dX12_plan_2 rfl kk) ?_
  refine wq (fun _ _ kk => rs_ldc2 (pc := 3) dX12_plan_3 cnX12_477 kk) ?_
  refine wq (fun _ _ kk => rs_callS (as := [_, _, _]) (pc := 6) dX12_plan_6 mk_X12_in mlX12_181 st_X12_in rfl rfl (Nat.le_of_ble_eq_true rfl) (c_X12_inI w 0 999) kk) ?_
  refine wq_br (fun _ _ kt kf => rs_if_eq (tgt := 24) (pc := 9) dX12_plan_9 rfl kt kf) (fun c_9 => ?_) (fun c_9 => ?_)
  · refine wq (fun _ _ kk => rs_iconst (v := -1) (pc := 24) dX12_plan_24 rfl kk) ?_
    refine wq_ret ?_ (rs_iret (pc := 25) dX12_plan_25 rfl)
    exact ⟨md_ext.rf, ⟨S, hmd, mq.rf⟩, Or.inl ⟨by first | exact Or.inl c_9 | exact Or.inr c_21, rfl⟩⟩
  · refine wq (fun _ _ kk => rs_iload_n (pc := 12) dX12_plan_12 rfl kk) ?_
    refine wq (fun _ _ kk => rs_i2l (pc := 13) dX12_plan_13 kk) ?_
    refine wq (fun _ _ kk => rs_lconst (v := 0) (pc := 14) dX12_plan_14 rfl kk) ?_
    refine wq (fun _ _ kk => rs_ldc2 (pc := 15) dX12_plan_15 cnX12_441 kk) ?_
    refine wq (fun _ _ kk => rs_callS (as := [_, _, _]) (pc := 18) dX12_plan_18 mk_X12_in mlX12_181 st_X12_in rfl rfl (Nat.le_of_ble_eq_true rfl) (c_X12_inI x 0 2) kk) ?_
    refine wq_bn (fun _ _ kt kf => rs_if_ne (tgt := 26) (pc := 21) dX12_plan_21 rfl kt kf) (fun c_21 => ?_) (fun c_21 => ?_)
    · refine wq (fun _ _ kk => rs_aload_n (pc := 26) dX12_plan_26 rfl kk) ?_
      refine wq (fun _ _ kk => rs_aload_n (pc := 27) dX12_plan_27 rfl kk) ?_
      refine wq (fun _ _ kk => rs_getf (pc := 28) dX12_plan_28 fX12_185 (md_lt hmd (by decide)) hmd.2.1 rfl kk) ?_
      rw [hRB.1.1]
      have hgu : ¬ (bi_in w 0 999 = 0 ∨ bi_in x 0 2 = 0) := by rintro (q | q); exact c_9 q; exact c_21 q
      obtain ⟨rv_31, hc_31, ⟨rfl, ee_31, T, V, q, hqR, ec, hsg, hSI, hmd_31, hmg, hMI⟩, hm_31⟩ := c_X12_meets (wk := bk_now B) hok hRB hok.1.2 hmd
      refine wq (fun _ _ kk => rs_callV (as := [_]) (pc := 31) dX12_plan_31 mk_X12_meets mlX12_426 in_X12_meets se_X12_meets rfl (md_lt hmd (by decide)) hmd.2.1 rfl rfl (Nat.le_of_ble_eq_true rfl) (hm_31) kk) ?_
      replace hmd := hmd_31
      have E_31 := (md_ext.rf).trans ee_31
      have hm := hU T V q (Nat.le_trans hqR hok.2.2.2.2.1.2.1) hSI hMI
      have hRV := hRB.of (hsg.sb.trans hmg.sb)
      have hSV := hsg.mq.trans hmg.mq
      refine wq (fun _ _ kk => rs_iconst (v := 0) (pc := 34) dX12_plan_34 rfl kk) ?_
      refine wq (fun _ _ kk => wk_istn3 (pc := 35) dX12_plan_35 (by decide) rfl kk) ?_
      refine wq (fun _ _ kk => rs_iconst (v := -1) (pc := 36) dX12_plan_36 rfl kk) ?_
      refine wq (fun _ _ kk => wk_ist4 (pc := 37) dX12_plan_37 (by decide) rfl kk) ?_
      refine wq (fun _ _ kk => rs_iconst (v := 0) (pc := 39) dX12_plan_39 rfl kk) ?_
      refine wq (fun _ _ kk => wk_ist5 (pc := 40) dX12_plan_40 (by decide) rfl kk) ?_
      refine wq (fun _ _ kk => rs_iconst (v := 0) (pc := 42) dX12_plan_42 rfl kk) ?_
      refine wq (fun _ _ kk => wk_ist6 (pc := 43) dX12_plan_43 (by decide) rfl kk) ?_
      refine wq_mono ?_ (l2_X12_plan (h := h) (S := S) (w := w) (x := x) hok hRB hl (bi_in_nn c_9) (2 ^ nJ B + 1) 0 0 (-1) 0 _ _ V _ (by omega) (by omega) (md_ext.rf.trans ee_31) hmd hm hSV rfl rfl rfl)
      rintro r g ⟨a1, a2, a3⟩
      exact ⟨a1, a2, Or.inr ⟨hgu, a3⟩⟩
    · refine wq (fun _ _ kk => rs_iconst (v := -1) (pc := 24) dX12_plan_24 rfl kk) ?_
      refine wq_ret ?_ (rs_iret (pc := 25) dX12_plan_25 rfl)
      exact ⟨md_ext.rf, ⟨S, hmd, mq.rf⟩, Or.inl ⟨by first | exact Or.inl c_9 | exact Or.inr c_21, rfl⟩⟩
theorem dX12_next_0 : decode cX12_next 0 = .ok (.aload_n 0, 1) := by decide +kernel
theorem dX12_next_1 : decode cX12_next 1 = .ok (.aload_n 0, 1) := by decide +kernel
theorem dX12_next_2 : decode cX12_next 2 = .ok (.getfield 185, 3) := by decide +kernel
theorem dX12_next_5 : decode cX12_next 5 = .ok (.invokevirtual 426, 3) := by decide +kernel
theorem dX12_next_8 : decode cX12_next 8 = .ok (.aload_n 0, 1) := by decide +kernel
theorem dX12_next_9 : decode cX12_next 9 = .ok (.iconst 0, 1) := by decide +kernel
theorem dX12_next_10 : decode cX12_next 10 = .ok (.invokevirtual 474, 3) := by decide +kernel
theorem dX12_next_13 : decode cX12_next 13 = .ok (.pop, 1) := by decide +kernel
theorem dX12_next_14 : decode cX12_next 14 = .ok (.bipush (-2), 2) := by decide +kernel
theorem dX12_next_16 : decode cX12_next 16 = .ok (.istore_n 1, 1) := by decide +kernel
theorem dX12_next_17 : decode cX12_next 17 = .ok (.iconst 0, 1) := by decide +kernel
theorem dX12_next_18 : decode cX12_next 18 = .ok (.istore_n 2, 1) := by decide +kernel
theorem dX12_next_19 : decode cX12_next 19 = .ok (.iconst 0, 1) := by decide +kernel
theorem dX12_next_20 : decode cX12_next 20 = .ok (.istore_n 3, 1) := by decide +kernel
theorem dX12_next_21 : decode cX12_next 21 = .ok (.iload_n 3, 1) := by decide +kernel
theorem dX12_next_22 : decode cX12_next 22 = .ok (.aload_n 0, 1) := by decide +kernel
theorem dX12_next_23 : decode cX12_next 23 = .ok (.getfield 188, 3) := by decide +kernel
theorem dX12_next_26 : decode cX12_next 26 = .ok (.if_icmp .ge 145, 3) := by decide +kernel
theorem dX12_next_29 : decode cX12_next 29 = .ok (.iload_n 3, 1) := by decide +kernel
theorem dX12_next_30 : decode cX12_next 30 = .ok (.iconst 1, 1) := by decide +kernel
theorem dX12_next_31 : decode cX12_next 31 = .ok (.iadd, 1) := by decide +kernel
theorem dX12_next_32 : decode cX12_next 32 = .ok (.istore 4, 2) := by decide +kernel
theorem dX12_next_34 : decode cX12_next 34 = .ok (.iload 4, 2) := by decide +kernel
theorem dX12_next_36 : decode cX12_next 36 = .ok (.aload_n 0, 1) := by decide +kernel
theorem dX12_next_37 : decode cX12_next 37 = .ok (.getfield 188, 3) := by decide +kernel
theorem dX12_next_40 : decode cX12_next 40 = .ok (.if_icmp .ge 125, 3) := by decide +kernel
theorem dX12_next_43 : decode cX12_next 43 = .ok (.iconst 0, 1) := by decide +kernel
theorem dX12_next_44 : decode cX12_next 44 = .ok (.istore 5, 2) := by decide +kernel
theorem dX12_next_46 : decode cX12_next 46 = .ok (.iconst 0, 1) := by decide +kernel
theorem dX12_next_47 : decode cX12_next 47 = .ok (.istore 6, 2) := by decide +kernel
theorem dX12_next_49 : decode cX12_next 49 = .ok (.iconst 0, 1) := by decide +kernel
theorem dX12_next_50 : decode cX12_next 50 = .ok (.istore 7, 2) := by decide +kernel
theorem dX12_next_52 : decode cX12_next 52 = .ok (.iload 7, 2) := by decide +kernel
theorem dX12_next_54 : decode cX12_next 54 = .ok (.aload_n 0, 1) := by decide +kernel
theorem dX12_next_55 : decode cX12_next 55 = .ok (.getfield 188, 3) := by decide +kernel
theorem dX12_next_58 : decode cX12_next 58 = .ok (.if_icmp .ge 62, 3) := by decide +kernel
theorem dX12_next_61 : decode cX12_next 61 = .ok (.iload 5, 2) := by decide +kernel
theorem dX12_next_63 : decode cX12_next 63 = .ok (.aload_n 0, 1) := by decide +kernel
theorem dX12_next_64 : decode cX12_next 64 = .ok (.getfield 156, 3) := by decide +kernel
theorem dX12_next_67 : decode cX12_next 67 = .ok (.iload 7, 2) := by decide +kernel
theorem dX12_next_69 : decode cX12_next 69 = .ok (.iaload, 1) := by decide +kernel
theorem dX12_next_70 : decode cX12_next 70 = .ok (.aload_n 0, 1) := by decide +kernel
theorem dX12_next_71 : decode cX12_next 71 = .ok (.getfield 156, 3) := by decide +kernel
theorem dX12_next_74 : decode cX12_next 74 = .ok (.iload_n 3, 1) := by decide +kernel
theorem dX12_next_75 : decode cX12_next 75 = .ok (.iaload, 1) := by decide +kernel
theorem dX12_next_76 : decode cX12_next 76 = .ok (.if_icmp .ne 7, 3) := by decide +kernel
theorem dX12_next_79 : decode cX12_next 79 = .ok (.iconst 1, 1) := by decide +kernel
theorem dX12_next_80 : decode cX12_next 80 = .ok (.goto 4, 3) := by decide +kernel
theorem dX12_next_83 : decode cX12_next 83 = .ok (.iconst 0, 1) := by decide +kernel
theorem dX12_next_84 : decode cX12_next 84 = .ok (.iadd, 1) := by decide +kernel
theorem dX12_next_85 : decode cX12_next 85 = .ok (.istore 5, 2) := by decide +kernel
theorem dX12_next_87 : decode cX12_next 87 = .ok (.iload 6, 2) := by decide +kernel
theorem dX12_next_89 : decode cX12_next 89 = .ok (.aload_n 0, 1) := by decide +kernel
theorem dX12_next_90 : decode cX12_next 90 = .ok (.getfield 156, 3) := by decide +kernel
theorem dX12_next_93 : decode cX12_next 93 = .ok (.iload 7, 2) := by decide +kernel
theorem dX12_next_95 : decode cX12_next 95 = .ok (.iaload, 1) := by decide +kernel
theorem dX12_next_96 : decode cX12_next 96 = .ok (.aload_n 0, 1) := by decide +kernel
theorem dX12_next_97 : decode cX12_next 97 = .ok (.getfield 156, 3) := by decide +kernel
theorem dX12_next_100 : decode cX12_next 100 = .ok (.iload 4, 2) := by decide +kernel
theorem dX12_next_102 : decode cX12_next 102 = .ok (.iaload, 1) := by decide +kernel
theorem dX12_next_103 : decode cX12_next 103 = .ok (.if_icmp .ne 7, 3) := by decide +kernel
theorem dX12_next_106 : decode cX12_next 106 = .ok (.iconst 1, 1) := by decide +kernel
theorem dX12_next_107 : decode cX12_next 107 = .ok (.goto 4, 3) := by decide +kernel
theorem dX12_next_110 : decode cX12_next 110 = .ok (.iconst 0, 1) := by decide +kernel
theorem dX12_next_111 : decode cX12_next 111 = .ok (.iadd, 1) := by decide +kernel
theorem dX12_next_112 : decode cX12_next 112 = .ok (.istore 6, 2) := by decide +kernel
theorem dX12_next_114 : decode cX12_next 114 = .ok (.iinc 7 1, 3) := by decide +kernel
theorem dX12_next_117 : decode cX12_next 117 = .ok (.goto (-65), 3) := by decide +kernel
theorem dX12_next_120 : decode cX12_next 120 = .ok (.aload_n 0, 1) := by decide +kernel
theorem dX12_next_121 : decode cX12_next 121 = .ok (.getfield 156, 3) := by decide +kernel
theorem dX12_next_124 : decode cX12_next 124 = .ok (.iload_n 3, 1) := by decide +kernel
theorem dX12_next_125 : decode cX12_next 125 = .ok (.iaload, 1) := by decide +kernel
theorem dX12_next_126 : decode cX12_next 126 = .ok (.aload_n 0, 1) := by decide +kernel
theorem dX12_next_127 : decode cX12_next 127 = .ok (.getfield 156, 3) := by decide +kernel
theorem dX12_next_130 : decode cX12_next 130 = .ok (.iload 4, 2) := by decide +kernel
theorem dX12_next_132 : decode cX12_next 132 = .ok (.iaload, 1) := by decide +kernel
theorem dX12_next_133 : decode cX12_next 133 = .ok (.if_icmp .eq 26, 3) := by decide +kernel
theorem dX12_next_136 : decode cX12_next 136 = .ok (.iload 5, 2) := by decide +kernel
theorem dX12_next_138 : decode cX12_next 138 = .ok (.iload 6, 2) := by decide +kernel
theorem dX12_next_140 : decode cX12_next 140 = .ok (.imul, 1) := by decide +kernel
theorem dX12_next_141 : decode cX12_next 141 = .ok (.iload_n 2, 1) := by decide +kernel
theorem dX12_next_142 : decode cX12_next 142 = .ok (.if_icmp .le 17, 3) := by decide +kernel
theorem dX12_next_145 : decode cX12_next 145 = .ok (.bipush 16, 2) := by decide +kernel
theorem dX12_next_147 : decode cX12_next 147 = .ok (.iload_n 3, 1) := by decide +kernel
theorem dX12_next_148 : decode cX12_next 148 = .ok (.imul, 1) := by decide +kernel
theorem dX12_next_149 : decode cX12_next 149 = .ok (.iload 4, 2) := by decide +kernel
theorem dX12_next_151 : decode cX12_next 151 = .ok (.iadd, 1) := by decide +kernel
theorem dX12_next_152 : decode cX12_next 152 = .ok (.istore_n 1, 1) := by decide +kernel
theorem dX12_next_153 : decode cX12_next 153 = .ok (.iload 5, 2) := by decide +kernel
theorem dX12_next_155 : decode cX12_next 155 = .ok (.iload 6, 2) := by decide +kernel
theorem dX12_next_157 : decode cX12_next 157 = .ok (.imul, 1) := by decide +kernel
theorem dX12_next_158 : decode cX12_next 158 = .ok (.istore_n 2, 1) := by decide +kernel
theorem dX12_next_159 : decode cX12_next 159 = .ok (.iinc 4 1, 3) := by decide +kernel
theorem dX12_next_162 : decode cX12_next 162 = .ok (.goto (-128), 3) := by decide +kernel
theorem dX12_next_165 : decode cX12_next 165 = .ok (.iinc 3 1, 3) := by decide +kernel
theorem dX12_next_168 : decode cX12_next 168 = .ok (.goto (-147), 3) := by decide +kernel
theorem dX12_next_171 : decode cX12_next 171 = .ok (.iload_n 1, 1) := by decide +kernel
theorem dX12_next_172 : decode cX12_next 172 = .ok (.ireturn, 1) := by decide +kernel
set_option maxRecDepth 100000 in
set_option maxHeartbeats 4000000 in
theorem l0_X12_next {h : ai_H} {V : Md} {B : Bk} {X : Nat → Nat → Prop} (hn16 : nO B ≤ 16) (eN : V.1 2 = nI (nO B)) (hmd : md_at h V) (hH : HE (nO B) (V.2.2.1 64) (clo X)) {a b : Nat} {v1 v2 : Int32} (ha : a < nO B) (hb : b < nO B) {r : Option Value} (kx : ai_R MX12_next 120 [.ref 307, .int v1, .int v2, .int (nI a), .int (nI b), .int (nI (cN ((cR X) a) (nO B))), .int (nI (cN ((cR X) b) (nO B))), .int (nI (nO B))] [] h r h) : ∀ (m k : Nat), k ≤ nO B → nO B + 1 ≤ k + m → ai_R MX12_next 52 [.ref 307, .int v1, .int v2, .int (nI a), .int (nI b), .int (nI (cN ((cR X) a) k)), .int (nI (cN ((cR X) b) k)), .int (nI k)] [] h r h := by
  intro m
  induction m with
  | zero => intro k h1 h2; exact absurd h2 (by omega)
  | succ m ih =>
    intro k hk0 him
    refine rs_iload (pc := 52) dX12_next_52 rfl ?_
    refine rs_aload_n (pc := 54) dX12_next_54 rfl ?_
    refine rs_getf (pc := 55) dX12_next_55 fX12_188 (md_lt hmd (by decide)) hmd.2.1 rfl ?_
    rw [eN]
    refine rs_icmp_ge (tgt := 120) (pc := 58) dX12_next_58 rfl (fun c_58 => ?_) (fun c_58 => ?_)
    · have hke : k = nO B := lp_exit rfl (by omega) hk0 c_58
      subst hke
      exact kx
    · have hk : k < nO B := lp_go rfl (by omega) c_58
      refine rs_iload (pc := 61) dX12_next_61 rfl ?_
      refine rs_aload_n (pc := 63) dX12_next_63 rfl ?_
      refine rs_getf (pc := 64) dX12_next_64 fX12_156 (md_lt hmd (by decide)) hmd.2.1 rfl ?_
      refine rs_iload (pc := 67) dX12_next_67 rfl ?_
      refine rs_iald (pc := 69) dX12_next_69 (md_lt hmd (by decide)) (md_geti (d := 48) (k := 64) (kd := 0) (n := 16) rfl (by decide) hmd) (vp_in_nI (n := k) (N := 16) (by omega) (by decide)) ?_
      rw [nI_clamp (show k < 2 ^ 31 by omega)]
      refine rs_aload_n (pc := 70) dX12_next_70 rfl ?_
      refine rs_getf (pc := 71) dX12_next_71 fX12_156 (md_lt hmd (by decide)) hmd.2.1 rfl ?_
      refine rs_iload_n (pc := 74) dX12_next_74 rfl ?_
      refine rs_iald (pc := 75) dX12_next_75 (md_lt hmd (by decide)) (md_geti (d := 48) (k := 64) (kd := 0) (n := 16) rfl (by decide) hmd) (vp_in_nI (n := a) (N := 16) (by omega) (by decide)) ?_
      rw [nI_clamp (show a < 2 ^ 31 by omega)]
      refine rs_icmp_ne (tgt := 83) (pc := 76) dX12_next_76 rfl (fun c_76 => ?_) (fun c_76 => ?_)
      · rw [hH k a hk ha, ← cR_iff, cR_s] at c_76
        refine rs_iconst (v := 0) (pc := 83) dX12_next_83 rfl ?_
        refine rs_iadd (pc := 84) dX12_next_84 ?_
        try rw [Int32.add_zero]
        try rw [nI_1]
        refine wk_ist5 (pc := 85) dX12_next_85 (by decide) rfl ?_
        refine rs_iload (pc := 87) dX12_next_87 rfl ?_
        refine rs_aload_n (pc := 89) dX12_next_89 rfl ?_
        refine rs_getf (pc := 90) dX12_next_90 fX12_156 (md_lt hmd (by decide)) hmd.2.1 rfl ?_
        refine rs_iload (pc := 93) dX12_next_93 rfl ?_
        refine rs_iald (pc := 95) dX12_next_95 (md_lt hmd (by decide)) (md_geti (d := 48) (k := 64) (kd := 0) (n := 16) rfl (by decide) hmd) (vp_in_nI (n := k) (N := 16) (by omega) (by decide)) ?_
        rw [nI_clamp (show k < 2 ^ 31 by omega)]
        refine rs_aload_n (pc := 96) dX12_next_96 rfl ?_
        refine rs_getf (pc := 97) dX12_next_97 fX12_156 (md_lt hmd (by decide)) hmd.2.1 rfl ?_
        refine rs_iload (pc := 100) dX12_next_100 rfl ?_
        refine rs_iald (pc := 102) dX12_next_102 (md_lt hmd (by decide)) (md_geti (d := 48) (k := 64) (kd := 0) (n := 16) rfl (by decide) hmd) (vp_in_nI (n := b) (N := 16) (by omega) (by decide)) ?_
        rw [nI_clamp (show b < 2 ^ 31 by omega)]
        refine rs_icmp_ne (tgt := 110) (pc := 103) dX12_next_103 rfl (fun c_103 => ?_) (fun c_103 => ?_)
        · rw [hH k b hk hb, ← cR_iff, cR_s] at c_103
          refine rs_iconst (v := 0) (pc := 110) dX12_next_110 rfl ?_
          refine rs_iadd (pc := 111) dX12_next_111 ?_
          try rw [Int32.add_zero]
          try rw [nI_1]
          refine wk_ist6 (pc := 112) dX12_next_112 (by decide) rfl ?_
          refine wk_iinc7 (v := nI (k + 1)) (pc := 114) dX12_next_114 (by decide) rfl (nI_1 k) ?_
          refine rs_goto (tgt := 52) (pc := 117) dX12_next_117 rfl ?_
          have e := ih (k + 1) (by omega) (by omega)
          rw [cN, cN] at e
          first
          | (rw [if_pos c_76, if_pos c_103] at e; exact e)
          | (rw [if_pos c_76, if_neg c_103] at e; exact e)
          | (rw [if_neg c_76, if_pos c_103] at e; exact e)
          | (rw [if_neg c_76, if_neg c_103] at e; exact e)
        · rw [hH k b hk hb, ← cR_iff, cR_s] at c_103
          refine rs_iconst (v := 1) (pc := 106) dX12_next_106 rfl ?_
          refine rs_goto (tgt := 111) (pc := 107) dX12_next_107 rfl ?_
          refine rs_iadd (pc := 111) dX12_next_111 ?_
          try rw [Int32.add_zero]
          try rw [nI_1]
          refine wk_ist6 (pc := 112) dX12_next_112 (by decide) rfl ?_
          refine wk_iinc7 (v := nI (k + 1)) (pc := 114) dX12_next_114 (by decide) rfl (nI_1 k) ?_
          refine rs_goto (tgt := 52) (pc := 117) dX12_next_117 rfl ?_
          have e := ih (k + 1) (by omega) (by omega)
          rw [cN, cN] at e
          first
          | (rw [if_pos c_76, if_pos c_103] at e; exact e)
          | (rw [if_pos c_76, if_neg c_103] at e; exact e)
          | (rw [if_neg c_76, if_pos c_103] at e; exact e)
          | (rw [if_neg c_76, if_neg c_103] at e; exact e)
      · rw [hH k a hk ha, ← cR_iff, cR_s] at c_76
        refine rs_iconst (v := 1) (pc := 79) dX12_next_79 rfl ?_
        refine rs_goto (tgt := 84) (pc := 80) dX12_next_80 rfl ?_
        refine rs_iadd (pc := 84) dX12_next_84 ?_
        try rw [Int32.add_zero]
        try rw [nI_1]
        refine wk_ist5 (pc := 85) dX12_next_85 (by decide) rfl ?_
        refine rs_iload (pc := 87) dX12_next_87 rfl ?_
        refine rs_aload_n (pc := 89) dX12_next_89 rfl ?_
        refine rs_getf (pc := 90) dX12_next_90 fX12_156 (md_lt hmd (by decide)) hmd.2.1 rfl ?_
        refine rs_iload (pc := 93) dX12_next_93 rfl ?_
        refine rs_iald (pc := 95) dX12_next_95 (md_lt hmd (by decide)) (md_geti (d := 48) (k := 64) (kd := 0) (n := 16) rfl (by decide) hmd) (vp_in_nI (n := k) (N := 16) (by omega) (by decide)) ?_
        rw [nI_clamp (show k < 2 ^ 31 by omega)]
        refine rs_aload_n (pc := 96) dX12_next_96 rfl ?_
        refine rs_getf (pc := 97) dX12_next_97 fX12_156 (md_lt hmd (by decide)) hmd.2.1 rfl ?_
        refine rs_iload (pc := 100) dX12_next_100 rfl ?_
        refine rs_iald (pc := 102) dX12_next_102 (md_lt hmd (by decide)) (md_geti (d := 48) (k := 64) (kd := 0) (n := 16) rfl (by decide) hmd) (vp_in_nI (n := b) (N := 16) (by omega) (by decide)) ?_
        rw [nI_clamp (show b < 2 ^ 31 by omega)]
        refine rs_icmp_ne (tgt := 110) (pc := 103) dX12_next_103 rfl (fun c_103 => ?_) (fun c_103 => ?_)
        · rw [hH k b hk hb, ← cR_iff, cR_s] at c_103
          refine rs_iconst (v := 0) (pc := 110) dX12_next_110 rfl ?_
          refine rs_iadd (pc := 111) dX12_next_111 ?_
          try rw [Int32.add_zero]
          try rw [nI_1]
          refine wk_ist6 (pc := 112) dX12_next_112 (by decide) rfl ?_
          refine wk_iinc7 (v := nI (k + 1)) (pc := 114) dX12_next_114 (by decide) rfl (nI_1 k) ?_
          refine rs_goto (tgt := 52) (pc := 117) dX12_next_117 rfl ?_
          have e := ih (k + 1) (by omega) (by omega)
          rw [cN, cN] at e
          first
          | (rw [if_pos c_76, if_pos c_103] at e; exact e)
          | (rw [if_pos c_76, if_neg c_103] at e; exact e)
          | (rw [if_neg c_76, if_pos c_103] at e; exact e)
          | (rw [if_neg c_76, if_neg c_103] at e; exact e)
        · rw [hH k b hk hb, ← cR_iff, cR_s] at c_103
          refine rs_iconst (v := 1) (pc := 106) dX12_next_106 rfl ?_
          refine rs_goto (tgt := 111) (pc := 107) dX12_next_107 rfl ?_
          refine rs_iadd (pc := 111) dX12_next_111 ?_
          try rw [Int32.add_zero]
          try rw [nI_1]
          refine wk_ist6 (pc := 112) dX12_next_112 (by decide) rfl ?_
          refine wk_iinc7 (v := nI (k + 1)) (pc := 114) dX12_next_114 (by decide) rfl (nI_1 k) ?_
          refine rs_goto (tgt := 52) (pc := 117) dX12_next_117 rfl ?_
          have e := ih (k + 1) (by omega) (by omega)
          rw [cN, cN] at e
          first
          | (rw [if_pos c_76, if_pos c_103] at e; exact e)
          | (rw [if_pos c_76, if_neg c_103] at e; exact e)
          | (rw [if_neg c_76, if_pos c_103] at e; exact e)
          | (rw [if_neg c_76, if_neg c_103] at e; exact e)
set_option maxRecDepth 100000 in
set_option maxHeartbeats 4000000 in
theorem t_X12_next {h : ai_H} {V : Md} {B : Bk} {X : Nat → Nat → Prop} (hn16 : nO B ≤ 16) (eN : V.1 2 = nI (nO B)) (hmd : md_at h V) (hH : HE (nO B) (V.2.2.1 64) (clo X)) {a b : Nat} {v1 v2 : Int32} (ha : a < nO B) (hb : b < nO B) (hab : a < b) {r : Option Value} (q1 : v1 = (nxI (cR X) (nO B) a (nxS (cR X) (nO B) a) (b - a - 1)).1) (q2 : v2 = (nxI (cR X) (nO B) a (nxS (cR X) (nO B) a) (b - a - 1)).2) (kx : ∀ (v1 v2 : Int32) (u5 u6 u7 : Value), v1 = (nxI (cR X) (nO B) a (nxS (cR X) (nO B) a) ((b + 1) - a - 1)).1 → v2 = (nxI (cR X) (nO B) a (nxS (cR X) (nO B) a) ((b + 1) - a - 1)).2 → ai_R MX12_next 34 [.ref 307, .int v1, .int v2, .int (nI a), .int (nI (b + 1)), u5, u6, u7] [] h r h) : ai_R MX12_next 120 [.ref 307, .int v1, .int v2, .int (nI a), .int (nI b), .int (nI (cN ((cR X) a) (nO B))), .int (nI (cN ((cR X) b) (nO B))), .int (nI (nO B))] [] h r h := by
  refine rs_aload_n (pc := 120) dX12_next_120 rfl ?_
  refine rs_getf (pc := 121) dX12_next_121 fX12_156 (md_lt hmd (by decide)) hmd.2.1 rfl ?_
  refine rs_iload_n (pc := 124) dX12_next_124 rfl ?_
  refine rs_iald (pc := 125) dX12_next_125 (md_lt hmd (by decide)) (md_geti (d := 48) (k := 64) (kd := 0) (n := 16) rfl (by decide) hmd) (vp_in_nI (n := a) (N := 16) (by omega) (by decide)) ?_
  rw [nI_clamp (show a < 2 ^ 31 by omega)]
  refine rs_aload_n (pc := 126) dX12_next_126 rfl ?_
  refine rs_getf (pc := 127) dX12_next_127 fX12_156 (md_lt hmd (by decide)) hmd.2.1 rfl ?_
  refine rs_iload (pc := 130) dX12_next_130 rfl ?_
  refine rs_iald (pc := 132) dX12_next_132 (md_lt hmd (by decide)) (md_geti (d := 48) (k := 64) (kd := 0) (n := 16) rfl (by decide) hmd) (vp_in_nI (n := b) (N := 16) (by omega) (by decide)) ?_
  rw [nI_clamp (show b < 2 ^ 31 by omega)]
  refine rs_icmp_eq (tgt := 159) (pc := 133) dX12_next_133 rfl (fun c_133 => ?_) (fun c_133 => ?_)
  · rw [hH a b ha hb, ← cR_iff] at c_133
    refine wk_iinc4 (v := nI (b + 1)) (pc := 159) dX12_next_159 (by decide) rfl (nI_1 b) ?_
    refine rs_goto (tgt := 34) (pc := 162) dX12_next_162 rfl ?_
    have en : b + 1 - a - 1 = b - a - 1 + 1 := by omega
    have eb : a + 1 + (b - a - 1) = b := by omega
    first
    | (have hp : nxI (cR X) (nO B) a (nxS (cR X) (nO B) a) ((b + 1) - a - 1) = nxI (cR X) (nO B) a (nxS (cR X) (nO B) a) (b - a - 1) := by
         rw [en, nxI, eb, if_neg]
         rintro ⟨y1, y2⟩
         first
         | exact y1 c_133
         | (rw [q2, i32_le] at c_142
            rw [i32_lt] at y2
            omega)
       exact kx _ _ _ _ _ (by rw [hp]; exact q1) (by rw [hp]; exact q2))
    | (have hp : nxI (cR X) (nO B) a (nxS (cR X) (nO B) a) ((b + 1) - a - 1) = (nI (16 * a + b), nI (cN ((cR X) a) (nO B)) * nI (cN ((cR X) b) (nO B))) := by
         rw [en, nxI, eb, if_pos]
         refine ⟨c_133, ?_⟩
         rw [← q2]
         rw [i32_le] at c_142
         rw [i32_lt]
         omega
       exact kx _ _ _ _ _ (by rw [hp]) (by rw [hp]))
  · rw [hH a b ha hb, ← cR_iff] at c_133
    refine rs_iload (pc := 136) dX12_next_136 rfl ?_
    refine rs_iload (pc := 138) dX12_next_138 rfl ?_
    refine rs_imul (pc := 140) dX12_next_140 ?_
    refine rs_iload_n (pc := 141) dX12_next_141 rfl ?_
    refine rs_icmp_le (tgt := 159) (pc := 142) dX12_next_142 rfl (fun c_142 => ?_) (fun c_142 => ?_)
    · refine wk_iinc4 (v := nI (b + 1)) (pc := 159) dX12_next_159 (by decide) rfl (nI_1 b) ?_
      refine rs_goto (tgt := 34) (pc := 162) dX12_next_162 rfl ?_
      have en : b + 1 - a - 1 = b - a - 1 + 1 := by omega
      have eb : a + 1 + (b - a - 1) = b := by omega
      first
      | (have hp : nxI (cR X) (nO B) a (nxS (cR X) (nO B) a) ((b + 1) - a - 1) = nxI (cR X) (nO B) a (nxS (cR X) (nO B) a) (b - a - 1) := by
           rw [en, nxI, eb, if_neg]
           rintro ⟨y1, y2⟩
           first
           | exact y1 c_133
           | (rw [q2, i32_le] at c_142
              rw [i32_lt] at y2
              omega)
         exact kx _ _ _ _ _ (by rw [hp]; exact q1) (by rw [hp]; exact q2))
      | (have hp : nxI (cR X) (nO B) a (nxS (cR X) (nO B) a) ((b + 1) - a - 1) = (nI (16 * a + b), nI (cN ((cR X) a) (nO B)) * nI (cN ((cR X) b) (nO B))) := by
           rw [en, nxI, eb, if_pos]
           refine ⟨c_133, ?_⟩
           rw [← q2]
           rw [i32_le] at c_142
           rw [i32_lt]
           omega
         exact kx _ _ _ _ _ (by rw [hp]) (by rw [hp]))
    · refine rs_bipush (v := 16) (pc := 145) dX12_next_145 rfl ?_
      refine rs_iload_n (pc := 147) dX12_next_147 rfl ?_
      refine rs_imul (pc := 148) dX12_next_148 ?_
      rw [show (16 : Int32) * nI a = nI (16 * a) from pk_mul 16 a]
      refine rs_iload (pc := 149) dX12_next_149 rfl ?_
      refine rs_iadd (pc := 151) dX12_next_151 ?_
      rw [nI_add]
      refine wk_istn1 (pc := 152) dX12_next_152 (by decide) rfl ?_
      refine rs_iload (pc := 153) dX12_next_153 rfl ?_
      refine rs_iload (pc := 155) dX12_next_155 rfl ?_
      refine rs_imul (pc := 157) dX12_next_157 ?_
      refine wk_istn2 (pc := 158) dX12_next_158 (by decide) rfl ?_
      refine wk_iinc4 (v := nI (b + 1)) (pc := 159) dX12_next_159 (by decide) rfl (nI_1 b) ?_
      refine rs_goto (tgt := 34) (pc := 162) dX12_next_162 rfl ?_
      have en : b + 1 - a - 1 = b - a - 1 + 1 := by omega
      have eb : a + 1 + (b - a - 1) = b := by omega
      first
      | (have hp : nxI (cR X) (nO B) a (nxS (cR X) (nO B) a) ((b + 1) - a - 1) = nxI (cR X) (nO B) a (nxS (cR X) (nO B) a) (b - a - 1) := by
           rw [en, nxI, eb, if_neg]
           rintro ⟨y1, y2⟩
           first
           | exact y1 c_133
           | (rw [q2, i32_le] at c_142
              rw [i32_lt] at y2
              omega)
         exact kx _ _ _ _ _ (by rw [hp]; exact q1) (by rw [hp]; exact q2))
      | (have hp : nxI (cR X) (nO B) a (nxS (cR X) (nO B) a) ((b + 1) - a - 1) = (nI (16 * a + b), nI (cN ((cR X) a) (nO B)) * nI (cN ((cR X) b) (nO B))) := by
           rw [en, nxI, eb, if_pos]
           refine ⟨c_133, ?_⟩
           rw [← q2]
           rw [i32_le] at c_142
           rw [i32_lt]
           omega
         exact kx _ _ _ _ _ (by rw [hp]) (by rw [hp]))
set_option maxRecDepth 100000 in
set_option maxHeartbeats 4000000 in
theorem l1_X12_next {h : ai_H} {V : Md} {B : Bk} {X : Nat → Nat → Prop} (hn16 : nO B ≤ 16) (eN : V.1 2 = nI (nO B)) (hmd : md_at h V) (hH : HE (nO B) (V.2.2.1 64) (clo X)) {a : Nat} {r : Option Value} (ha : a < nO B) (kx : ∀ (v1 v2 : Int32) (u5 u6 u7 : Value), v1 = (nxI (cR X) (nO B) a (nxS (cR X) (nO B) a) ((nO B) - a - 1)).1 → v2 = (nxI (cR X) (nO B) a (nxS (cR X) (nO B) a) ((nO B) - a - 1)).2 → ai_R MX12_next 165 [.ref 307, .int v1, .int v2, .int (nI a), .int (nI (nO B)), u5, u6, u7] [] h r h) : ∀ (k b : Nat) (v1 v2 : Int32) (u5 u6 u7 : Value), a < b → b ≤ nO B → nO B + 1 ≤ b + k → v1 = (nxI (cR X) (nO B) a (nxS (cR X) (nO B) a) (b - a - 1)).1 → v2 = (nxI (cR X) (nO B) a (nxS (cR X) (nO B) a) (b - a - 1)).2 → ai_R MX12_next 34 [.ref 307, .int v1, .int v2, .int (nI a), .int (nI b), u5, u6, u7] [] h r h := by
  intro k
  induction k with
  | zero => intro b v1 v2 u5 u6 u7 h1 h2 h3; exact absurd h3 (by omega)
  | succ k ih =>
    intro b v1 v2 u5 u6 u7 hab hb0 him q1 q2
    refine rs_iload (pc := 34) dX12_next_34 rfl ?_
    refine rs_aload_n (pc := 36) dX12_next_36 rfl ?_
    refine rs_getf (pc := 37) dX12_next_37 fX12_188 (md_lt hmd (by decide)) hmd.2.1 rfl ?_
    rw [eN]
    refine rs_icmp_ge (tgt := 165) (pc := 40) dX12_next_40 rfl (fun c_40 => ?_) (fun c_40 => ?_)
    · have hbe : b = nO B := lp_exit rfl (by omega) hb0 c_40
      subst hbe
      exact kx _ _ _ _ _ q1 q2
    · have hb : b < nO B := lp_go rfl (by omega) c_40
      refine rs_iconst (v := 0) (pc := 43) dX12_next_43 rfl ?_
      refine wk_ist5 (pc := 44) dX12_next_44 (by decide) rfl ?_
      refine rs_iconst (v := 0) (pc := 46) dX12_next_46 rfl ?_
      refine wk_ist6 (pc := 47) dX12_next_47 (by decide) rfl ?_
      refine rs_iconst (v := 0) (pc := 49) dX12_next_49 rfl ?_
      refine wk_ist7 (pc := 50) dX12_next_50 (by decide) rfl ?_
      exact l0_X12_next hn16 eN hmd hH ha hb (t_X12_next hn16 eN hmd hH ha hb hab q1 q2 (fun v1 v2 u5 u6 u7 => ih (b + 1) v1 v2 u5 u6 u7 (by omega) (by omega) (by omega))) (nO B + 1) 0 (by omega) (by omega)
set_option maxRecDepth 100000 in
set_option maxHeartbeats 4000000 in
theorem l2_X12_next {h : ai_H} {V : Md} {B : Bk} {X : Nat → Nat → Prop} (hn16 : nO B ≤ 16) (eN : V.1 2 = nI (nO B)) (hmd : md_at h V) (hH : HE (nO B) (V.2.2.1 64) (clo X)) : ∀ (k a : Nat) (v1 v2 : Int32) (u4 u5 u6 u7 : Value), a ≤ nO B → nO B + 1 ≤ a + k → v1 = (nxS (cR X) (nO B) a).1 → v2 = (nxS (cR X) (nO B) a).2 → ai_R MX12_next 21 [.ref 307, .int v1, .int v2, .int (nI a), u4, u5, u6, u7] [] h (some (.int (nxS (cR X) (nO B) (nO B)).1)) h := by
  intro k
  induction k with
  | zero => intro a v1 v2 u4 u5 u6 u7 h1 h2; exact absurd h2 (by omega)
  | succ k ih =>
    intro a v1 v2 u4 u5 u6 u7 ha0 him q1 q2
    refine rs_iload_n (pc := 21) dX12_next_21 rfl ?_
    refine rs_aload_n (pc := 22) dX12_next_22 rfl ?_
    refine rs_getf (pc := 23) dX12_next_23 fX12_188 (md_lt hmd (by decide)) hmd.2.1 rfl ?_
    rw [eN]
    refine rs_icmp_ge (tgt := 171) (pc := 26) dX12_next_26 rfl (fun c_26 => ?_) (fun c_26 => ?_)
    · have hae : a = nO B := lp_exit rfl (by omega) ha0 c_26
      subst hae
      refine rs_iload_n (pc := 171) dX12_next_171 rfl ?_
      exact wk_iret (pc := 172) dX12_next_172 rfl (by rw [q1]) (rfl)
    · have ha : a < nO B := lp_go rfl (by omega) c_26
      refine rs_iload_n (pc := 29) dX12_next_29 rfl ?_
      refine rs_iconst (v := 1) (pc := 30) dX12_next_30 rfl ?_
      refine rs_iadd (pc := 31) dX12_next_31 ?_
      rw [nI_1]
      refine wk_ist4 (pc := 32) dX12_next_32 (by decide) rfl ?_
      refine l1_X12_next hn16 eN hmd hH ha ?_ (nO B + 1) (a + 1) _ _ _ _ _ (by omega) (by omega) (by omega) (by rw [show a + 1 - a - 1 = 0 by omega]; exact q1) (by rw [show a + 1 - a - 1 = 0 by omega]; exact q2)
      intro v1 v2 u5 u6 u7 q1 q2
      refine wk_iinc3 (v := nI (a + 1)) (pc := 165) dX12_next_165 (by decide) rfl (nI_1 a) ?_
      refine rs_goto (tgt := 21) (pc := 168) dX12_next_168 rfl ?_
      exact ih (a + 1) _ _ _ _ _ _ (by omega) (by omega) q1 q2
set_option maxRecDepth 100000 in
set_option maxHeartbeats 4000000 in
theorem c_X12_next {h : ai_H} {S : Md} {B : Bk} {ln : Nat} {U : Nat → List Int} (hok : bk_ok B ln) (hRB : RB B S) (hl : lrow U) (hU : ∀ T V q, q ≤ 400 → SI B (bk_now B) T (nR B) (nR B) q → MI T q (q * q) V → mrow V U) (hmd : md_at h S) : ai_QM MX12_next [.ref 307] h (fun r g => md_ext h g ∧ (∃ V, md_at g V ∧ mq S V) ∧ r = some (.int (uu_next U B))) := by
  have hn16 := hok.2.1.2.1
  have hj9 := hok.2.2.2.2.2.2.1
  have hpw := pow_J hj9
  have hpp2 := pow_pos2 (nJ B)
  refine qm_of (ls := [.ref 307, .float 0, .float 0, .float 0, .float 0, .float 0, .float 0, .float 0]) (by decide) (by simp [ai_en, Value.category]) (by rfl) ?_
  refine wq (fun _ _ kk => rs_aload_n (pc := 0) dX12_next_0 rfl kk) ?_
  refine wq (fun _ _ kk => rs_aload_n (pc := 1) dX12_next_1 rfl kk) ?_
  refine wq (fun _ _ kk => rs_getf (pc := 2) dX12_next_2 fX12_185 (md_lt hmd (by decide)) hmd.2.1 rfl kk) ?_
  rw [hRB.1.1]
  obtain ⟨rv_5, hc_5, ⟨rfl, ee_5, T, V, q, hqR, ec, hsg, hSI, hmd_5, hmg, hMI⟩, hm_5⟩ := c_X12_meets (wk := bk_now B) hok hRB hok.1.2 hmd
  refine wq (fun _ _ kk => rs_callV (as := [_]) (pc := 5) dX12_next_5 mk_X12_meets mlX12_426 in_X12_meets se_X12_meets rfl (md_lt hmd (by decide)) hmd.2.1 rfl rfl (Nat.le_of_ble_eq_true rfl) (hm_5) kk) ?_
  replace hmd := hmd_5
  have E_5 := (md_ext.rf).trans ee_5
  have hm := hU T V q (Nat.le_trans hqR hok.2.2.2.2.1.2.1) hSI hMI
  have hRV := hRB.of (hsg.sb.trans hmg.sb)
  have hSV := hsg.mq.trans hmg.mq
  refine wq (fun _ _ kk => rs_aload_n (pc := 8) dX12_next_8 rfl kk) ?_
  refine wq (fun _ _ kk => rs_iconst (v := 0) (pc := 9) dX12_next_9 rfl kk) ?_
  obtain ⟨rv_10, hc_10, ⟨rfl, ee_10, W, hmd_10, hpW, hH⟩, hm_10⟩ := c_X12_ties (s := 0) (U := U) hok hRV hl hm (by omega) hmd
  refine wq (fun _ _ kk => rs_callV (as := [_]) (pc := 10) dX12_next_10 mk_X12_ties mlX12_474 in_X12_ties se_X12_ties rfl (md_lt hmd (by decide)) hmd.2.1 rfl rfl (Nat.le_of_ble_eq_true rfl) (hm_10) kk) ?_
  replace hmd := hmd_10
  have E_10 := (E_5).trans ee_10
  refine wq (fun _ _ kk => rs_pop (pc := 13) dX12_next_13 rfl kk) ?_
  refine wq (fun _ _ kk => rs_bipush (v := -2) (pc := 14) dX12_next_14 rfl kk) ?_
  refine wq (fun _ _ kk => wk_istn1 (pc := 16) dX12_next_16 (by decide) rfl kk) ?_
  refine wq (fun _ _ kk => rs_iconst (v := 0) (pc := 17) dX12_next_17 rfl kk) ?_
  refine wq (fun _ _ kk => wk_istn2 (pc := 18) dX12_next_18 (by decide) rfl kk) ?_
  refine wq (fun _ _ kk => rs_iconst (v := 0) (pc := 19) dX12_next_19 rfl kk) ?_
  refine wq (fun _ _ kk => wk_istn3 (pc := 20) dX12_next_20 (by decide) rfl kk) ?_
  exact ⟨_, _, ⟨E_10, ⟨W, hmd, hSV.trans hpW.mq⟩, rfl⟩, l2_X12_next hn16 (by rw [hpW.1]; exact hRV.1.2.1.trans hok.2.1.1) hmd hH (nO B + 1) 0 _ _ _ _ _ _ (by omega) (by omega) rfl rfl⟩
