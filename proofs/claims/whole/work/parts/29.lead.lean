/-! 29: Ropes.shorten, lead (walks laid by wip/whole/p29.py) -/
def ro_e (o : Option Nat) : Int64 := match o with
  | none => -1
  | some v => aL v
/-- the meetings' WIDTHS as tolls -/
def ro_T (T : Nat → Ty) (x y : Nat) : Option Nat := if x < 16 ∧ y < 16 ∧ ¬ (T (x * 16 + y)).1 ≤ 0 then some ((mt_wid T x y).toInt.toNat * 32 + 1) else none
def mt_ok (T : Nat → Ty) : Prop := ∀ x y, x < 16 → y < 16 → ¬ (T (x * 16 + y)).1 ≤ 0 → 0 ≤ (mt_wid T x y).toInt ∧ (mt_wid T x y).toInt ≤ 1099511627776
theorem ro_T_32 (T : Nat → Ty) : ro_32 (ro_T T) := by
  intro a b x h
  unfold ro_T at h
  split at h
  · cases h; omega
  · cases h
theorem ro_T_max {T : Nat → Ty} (hok : mt_ok T) : ∀ a b x, ro_T T a b = some x → x ≤ 35184372088833 := by
  intro a b x h
  unfold ro_T at h
  split at h
  · next q => cases h; have := hok a b q.1 q.2.1 q.2.2; omega
  · cases h
def ro_is (t : Nat → Int64) (d : Tl) : Prop := ∀ x, x < 16 → t x = ro_e (d x)
theorem ro_good_b {T : Nat → Ty} {n g : Nat} {d : Tl} (hok : mt_ok T) (hn : n ≤ 16) (hg : ro_good (ro_T T) n g d) {x v : Nat} (h : d x = some v) : v ≤ 527765581332495 := by
  have h1 := (ro_good_max (ro_T_max hok) hg h).1
  have h2 : (n - 1) * 35184372088833 ≤ 15 * 35184372088833 := Nat.mul_le_mul_right _ (by omega)
  omega
theorem ro_e_m1 {o : Option Nat} (h : ∀ v, o = some v → v < 4611686018427387904) : ro_e o = -1 ↔ o = none := by
  cases o with
  | none => simp [ro_e]
  | some v =>
    have := h v rfl
    simp only [ro_e, reduceCtorEq, iff_false]
    rw [show (-1 : Int64) = aL (-1) from rfl, aL_eq (by omega) (by omega) (by omega) (by omega)]
    omega
theorem rp_by_is {T : Nat → Ty} {n g : Nat} {d : Tl} {t : Nat → Int64} (hok : mt_ok T) (hn : n ≤ 16) (hg : ro_good (ro_T T) n g d) (hi : ro_is t d) {x y : Nat} (hx : x < 16) (hy : y < 16) : rp_by T t x y = ro_e (ro_by (ro_T T) d x y) ∧ ∀ v, ro_by (ro_T T) d x y = some v → v < 1125899906842624 := by
  unfold rp_by mt_met
  rw [hi y hy]
  cases hd : d y with
  | none =>
    have : ro_by (ro_T T) d x y = none := by
      unfold ro_by
      rw [hd]
      cases ro_T T x y <;> rfl
    rw [this]
    exact ⟨by simp [ro_e], fun v h => by cases h⟩
  | some v =>
    have hv := ro_good_b hok hn hg hd
    rw [if_neg (fun z => by have := (ro_e_m1 (o := some v) (by intro w hw; cases hw; omega)).1 z; cases this)]
    by_cases hm : (T (x * 16 + y)).1 ≤ 0
    · have : ro_by (ro_T T) d x y = none := by
        unfold ro_by
        rw [show ro_T T x y = none from by unfold ro_T; rw [if_neg (fun z => z.2.2 hm)]]
      rw [if_pos hm, if_pos rfl, this]
      exact ⟨rfl, fun v h => by cases h⟩
    · obtain ⟨w1, w2⟩ := hok x y hx hy hm
      have e1 : ro_by (ro_T T) d x y = some ((mt_wid T x y).toInt.toNat * 32 + 1 + v) := by
        unfold ro_by
        rw [hd, show ro_T T x y = some ((mt_wid T x y).toInt.toNat * 32 + 1) from by unfold ro_T; rw [if_pos ⟨hx, hy, hm⟩]]
      rw [if_neg hm, if_neg (by decide), e1]
      refine ⟨?_, fun u h => by cases h; omega⟩
      show aL v + mt_wid T x y * 32 + 1 = aL _
      conv => lhs; rw [← aL_to (mt_wid T x y)]
      rw [show (32 : Int64) = aL 32 from rfl, show (1 : Int64) = aL 1 from rfl, aL_mul, aL_add, aL_add]
      congr 1
      omega
theorem ro_st_no {T : Nat → Ty} {n g : Nat} {p : Tl × Bool} {t : Nat → Int64} (hok : mt_ok T) (hn : n ≤ 16) (hg : ro_good (ro_T T) n g p.1) (hi : ro_is t p.1) {a b : Nat} (ha : a < 16) (hb : b < 16) (h : rp_by T t a b = -1 ∨ (¬ t a = -1 ∧ t a ≤ rp_by T t a b)) : ro_s (ro_T T) a p b = p := by
  obtain ⟨e1, b1⟩ := rp_by_is hok hn hg hi ha hb
  unfold ro_s
  rw [if_neg ?_]
  intro z
  obtain ⟨u, eu, hu⟩ := ro_bt_yes.1 z
  have hub := b1 u eu
  rw [e1, eu, hi a ha] at h
  cases hd : p.1 a with
  | none =>
    rw [hd] at h
    cases h with
    | inl h => have := (ro_e_m1 (o := some u) (by intro w hw; cases hw; omega)).1 h; cases this
    | inr h => exact h.1 rfl
  | some v =>
    have hv := ro_good_b hok hn hg hd
    have hlt := hu v hd
    rw [hd] at h
    cases h with
    | inl h => have := (ro_e_m1 (o := some u) (by intro w hw; cases hw; omega)).1 h; cases this
    | inr h =>
      have h2 : aL v ≤ aL u := h.2
      rw [aL_le (by omega) (by omega) (by omega) (by omega)] at h2
      omega
theorem ro_st_yes {T : Nat → Ty} {n g : Nat} {p : Tl × Bool} {t : Nat → Int64} (hok : mt_ok T) (hn : n ≤ 16) (hg : ro_good (ro_T T) n g p.1) (hi : ro_is t p.1) {a b : Nat} (ha : a < 16) (hb : b < 16) (h1 : ¬ rp_by T t a b = -1) (h2 : t a = -1 ∨ ¬ t a ≤ rp_by T t a b) : ro_s (ro_T T) a p b = (va_up p.1 a (ro_by (ro_T T) p.1 a b), true) ∧ ro_is (va_up t a (rp_by T t a b)) (va_up p.1 a (ro_by (ro_T T) p.1 a b)) := by
  obtain ⟨e1, b1⟩ := rp_by_is hok hn hg hi ha hb
  refine ⟨?_, fun x hx => ?_⟩
  · unfold ro_s
    rw [if_pos ?_]
    cases eu : ro_by (ro_T T) p.1 a b with
    | none => rw [e1, eu] at h1; exact absurd rfl h1
    | some u =>
      have hub := b1 u eu
      refine ro_bt_yes.2 ⟨u, rfl, fun v hd => ?_⟩
      have hv := ro_good_b hok hn hg hd
      rw [e1, eu, hi a ha, hd] at h2
      cases h2 with
      | inl h => have := (ro_e_m1 (o := some v) (by intro w hw; cases hw; omega)).1 h; cases this
      | inr h =>
        have h3 : ¬ aL v ≤ aL u := h
        rw [aL_le (by omega) (by omega) (by omega) (by omega)] at h3
        omega
  · by_cases hxa : x = a
    · subst hxa; simp [va_up, e1]
    · simp [va_up, hxa, hi x hx]
def rp_same (S S' : Md) : Prop := S'.1 = S.1 ∧ S'.2.1 = S.2.1 ∧ S'.2.2.1 = S.2.2.1 ∧ S'.2.2.2 2 = S.2.2.2 2
def b32 (b : Bool) : Int32 := if b = true then 1 else 0
theorem b32_b (b : Bool) : b32 b = 0 ∨ b32 b = 1 := by cases b <;> simp [b32]
theorem rp_same.trans {S S' S2 : Md} (h : rp_same S S') (h' : rp_same S' S2) : rp_same S S2 := ⟨h'.1.trans h.1, h'.2.1.trans h.2.1, h'.2.2.1.trans h.2.2.1, h'.2.2.2.trans h.2.2.2⟩
/-- places of locals told otherwise -/
theorem wq_cg {M : ai_M} {pc : Nat} {ls ls' : List Value} {st : List Value} {h : ai_H} {Q : Option Value → ai_H → Prop} (e : ls = ls') (x : ai_W M pc ls' st h Q) : ai_W M pc ls st h Q := by rw [e]; exact x
theorem dX6_shorten_0 : decode cX6_shorten 0 = .ok (.iconst 0, 1) := by decide +kernel
theorem dX6_shorten_1 : decode cX6_shorten 1 = .ok (.istore_n 3, 1) := by decide +kernel
theorem dX6_shorten_2 : decode cX6_shorten 2 = .ok (.iconst 0, 1) := by decide +kernel
theorem dX6_shorten_3 : decode cX6_shorten 3 = .ok (.istore 4, 2) := by decide +kernel
theorem dX6_shorten_5 : decode cX6_shorten 5 = .ok (.iload 4, 2) := by decide +kernel
theorem dX6_shorten_7 : decode cX6_shorten 7 = .ok (.iload_n 2, 1) := by decide +kernel
theorem dX6_shorten_8 : decode cX6_shorten 8 = .ok (.if_icmp .ge 89, 3) := by decide +kernel
theorem dX6_shorten_11 : decode cX6_shorten 11 = .ok (.iload 4, 2) := by decide +kernel
theorem dX6_shorten_13 : decode cX6_shorten 13 = .ok (.bipush 16, 2) := by decide +kernel
theorem dX6_shorten_15 : decode cX6_shorten 15 = .ok (.if_icmp .ge 82, 3) := by decide +kernel
theorem dX6_shorten_18 : decode cX6_shorten 18 = .ok (.iconst 0, 1) := by decide +kernel
theorem dX6_shorten_19 : decode cX6_shorten 19 = .ok (.istore 5, 2) := by decide +kernel
theorem dX6_shorten_21 : decode cX6_shorten 21 = .ok (.iload 5, 2) := by decide +kernel
theorem dX6_shorten_23 : decode cX6_shorten 23 = .ok (.iload_n 2, 1) := by decide +kernel
theorem dX6_shorten_24 : decode cX6_shorten 24 = .ok (.if_icmp .ge 67, 3) := by decide +kernel
theorem dX6_shorten_27 : decode cX6_shorten 27 = .ok (.aload_n 0, 1) := by decide +kernel
theorem dX6_shorten_28 : decode cX6_shorten 28 = .ok (.aload_n 1, 1) := by decide +kernel
theorem dX6_shorten_29 : decode cX6_shorten 29 = .ok (.iload 4, 2) := by decide +kernel
theorem dX6_shorten_31 : decode cX6_shorten 31 = .ok (.iload 5, 2) := by decide +kernel
theorem dX6_shorten_33 : decode cX6_shorten 33 = .ok (.invokevirtual 52, 3) := by decide +kernel
theorem dX6_shorten_36 : decode cX6_shorten 36 = .ok (.lstore 6, 2) := by decide +kernel
theorem dX6_shorten_38 : decode cX6_shorten 38 = .ok (.lload 6, 2) := by decide +kernel
theorem dX6_shorten_40 : decode cX6_shorten 40 = .ok (.ldc2_w 22, 3) := by decide +kernel
theorem dX6_shorten_43 : decode cX6_shorten 43 = .ok (.lcmp, 1) := by decide +kernel
theorem dX6_shorten_44 : decode cX6_shorten 44 = .ok (.ifCond .eq 41, 3) := by decide +kernel
theorem dX6_shorten_47 : decode cX6_shorten 47 = .ok (.aload_n 0, 1) := by decide +kernel
theorem dX6_shorten_48 : decode cX6_shorten 48 = .ok (.getfield 9, 3) := by decide +kernel
theorem dX6_shorten_51 : decode cX6_shorten 51 = .ok (.iload 4, 2) := by decide +kernel
theorem dX6_shorten_53 : decode cX6_shorten 53 = .ok (.laload, 1) := by decide +kernel
theorem dX6_shorten_54 : decode cX6_shorten 54 = .ok (.ldc2_w 22, 3) := by decide +kernel
theorem dX6_shorten_57 : decode cX6_shorten 57 = .ok (.lcmp, 1) := by decide +kernel
theorem dX6_shorten_58 : decode cX6_shorten 58 = .ok (.ifCond .eq 16, 3) := by decide +kernel
theorem dX6_shorten_61 : decode cX6_shorten 61 = .ok (.lload 6, 2) := by decide +kernel
theorem dX6_shorten_63 : decode cX6_shorten 63 = .ok (.aload_n 0, 1) := by decide +kernel
theorem dX6_shorten_64 : decode cX6_shorten 64 = .ok (.getfield 9, 3) := by decide +kernel
theorem dX6_shorten_67 : decode cX6_shorten 67 = .ok (.iload 4, 2) := by decide +kernel
theorem dX6_shorten_69 : decode cX6_shorten 69 = .ok (.laload, 1) := by decide +kernel
theorem dX6_shorten_70 : decode cX6_shorten 70 = .ok (.lcmp, 1) := by decide +kernel
theorem dX6_shorten_71 : decode cX6_shorten 71 = .ok (.ifCond .ge 14, 3) := by decide +kernel
theorem dX6_shorten_74 : decode cX6_shorten 74 = .ok (.aload_n 0, 1) := by decide +kernel
theorem dX6_shorten_75 : decode cX6_shorten 75 = .ok (.getfield 9, 3) := by decide +kernel
theorem dX6_shorten_78 : decode cX6_shorten 78 = .ok (.iload 4, 2) := by decide +kernel
theorem dX6_shorten_80 : decode cX6_shorten 80 = .ok (.lload 6, 2) := by decide +kernel
theorem dX6_shorten_82 : decode cX6_shorten 82 = .ok (.lastore, 1) := by decide +kernel
theorem dX6_shorten_83 : decode cX6_shorten 83 = .ok (.iconst 1, 1) := by decide +kernel
theorem dX6_shorten_84 : decode cX6_shorten 84 = .ok (.istore_n 3, 1) := by decide +kernel
theorem dX6_shorten_85 : decode cX6_shorten 85 = .ok (.iinc 5 1, 3) := by decide +kernel
theorem dX6_shorten_88 : decode cX6_shorten 88 = .ok (.goto (-67), 3) := by decide +kernel
theorem dX6_shorten_91 : decode cX6_shorten 91 = .ok (.iinc 4 1, 3) := by decide +kernel
theorem dX6_shorten_94 : decode cX6_shorten 94 = .ok (.goto (-89), 3) := by decide +kernel
theorem dX6_shorten_97 : decode cX6_shorten 97 = .ok (.iload_n 3, 1) := by decide +kernel
theorem dX6_shorten_98 : decode cX6_shorten 98 = .ok (.ireturn, 1) := by decide +kernel
set_option maxRecDepth 100000 in
set_option maxHeartbeats 4000000 in
theorem l1_X6_shorten {h : ai_H} {S : Md} {T : Nat → Ty} {n gl a : Nat} {p0 : Tl × Bool} {Q : Option Value → ai_H → Prop} (hok : mt_ok T) (hn : n ≤ 16) (ha : a < 16) (han : a < n) (kx : ∀ (g : ai_H) (u6 : Value) (S' : Md), xp h g → rp_at g S' → mt_at g T → rp_same S S' → ro_is (S'.2.2.2 0) (ro_r (ro_T T) a p0 n).1 → ro_good (ro_T T) n gl (ro_r (ro_T T) a p0 n).1 → ai_W MX6_shorten 91 [.ref 294, .ref 35, .int (nI n), .int (b32 (ro_r (ro_T T) a p0 n).2), .int (nI a), .int (nI n), u6, .float 0] [] g Q) : ∀ (m b : Nat) (u6 : Value) (g : ai_H) (S' : Md), b ≤ n → n + 1 ≤ b + m → xp h g → rp_at g S' → mt_at g T → rp_same S S' → ro_is (S'.2.2.2 0) (ro_r (ro_T T) a p0 b).1 → ro_good (ro_T T) n gl (ro_r (ro_T T) a p0 b).1 → ai_W MX6_shorten 21 [.ref 294, .ref 35, .int (nI n), .int (b32 (ro_r (ro_T T) a p0 b).2), .int (nI a), .int (nI b), u6, .float 0] [] g Q := by
  intro m
  induction m with
  | zero => intro b u6 g S' h1 h2; exact absurd h2 (by omega)
  | succ m ih =>
    intro b u6 g S' hb0 him E0 hrp hmt hsm his hgd
    refine wq (fun _ _ kk => rs_iload (pc := 21) dX6_shorten_21 rfl kk) ?_
    refine wq (fun _ _ kk => rs_iload_n (pc := 23) dX6_shorten_23 rfl kk) ?_
    refine wq_br (fun _ _ kt kf => rs_icmp_ge (tgt := 91) (pc := 24) dX6_shorten_24 rfl kt kf) (fun c_24 => ?_) (fun c_24 => ?_)
    · have hbe : b = n := lp_exit rfl (by omega) hb0 c_24
      subst hbe
      exact kx g u6 S' E0 hrp hmt hsm his hgd
    · have hb : b < n := lp_go rfl (by omega) c_24
      refine wq (fun _ _ kk => rs_aload_n (pc := 27) dX6_shorten_27 rfl kk) ?_
      refine wq (fun _ _ kk => rs_aload_n (pc := 28) dX6_shorten_28 rfl kk) ?_
      refine wq (fun _ _ kk => rs_iload (pc := 29) dX6_shorten_29 rfl kk) ?_
      refine wq (fun _ _ kk => rs_iload (pc := 31) dX6_shorten_31 rfl kk) ?_
      refine wq (fun _ _ kk => rs_callV (as := [_, _, _]) (pc := 33) dX6_shorten_33 mk_X6_tollBy mlX6_52 in_X6_tollBy se_X6_tollBy rfl (mo_lt hrp (by decide)) hrp.2.1 rfl rfl (Nat.le_of_ble_eq_true rfl) (c_X6_tollBy hrp hmt ha (show b < 16 by omega)) kk) ?_
      refine wq (fun _ _ kk => wk_lst6 (pc := 36) dX6_shorten_36 (by decide) rfl kk) ?_
      refine wq (fun _ _ kk => rs_lload (pc := 38) dX6_shorten_38 rfl kk) ?_
      refine wq (fun _ _ kk => rs_ldc2 (pc := 40) dX6_shorten_40 cnX6_22 kk) ?_
      refine wq_br (fun _ _ kt kf => wk_lcmp_eq (tgt := 85) (pc := 43) dX6_shorten_43 dX6_shorten_44 rfl kt kf) (fun c_43 => ?_) (fun c_43 => ?_)
      · refine wq (fun _ _ kk => wk_iinc5 (v := nI (b + 1)) (pc := 85) dX6_shorten_85 (by decide) rfl (nI_1 b) kk) ?_
        refine wq (fun _ _ kk => rs_goto (tgt := 21) (pc := 88) dX6_shorten_88 rfl kk) ?_
        have hst : ro_s (ro_T T) a (ro_r (ro_T T) a p0 b) b = ro_r (ro_T T) a p0 b := ro_st_no hok hn hgd his ha (by omega) (by
          first
          | exact Or.inl c_43
          | exact Or.inr ⟨c_57, c_70⟩)
        have hl : ro_r (ro_T T) a p0 b = ro_r (ro_T T) a p0 (b + 1) := by rw [ro_r, hst]
        rw [hl] at his hgd ⊢
        exact ih (b + 1) _ _ _ (by omega) (by omega) E0 hrp hmt hsm his hgd
      · refine wq (fun _ _ kk => rs_aload_n (pc := 47) dX6_shorten_47 rfl kk) ?_
        refine wq (fun _ _ kk => rs_getf (pc := 48) dX6_shorten_48 fX6_9 (mo_lt hrp (by decide)) hrp.2.1 rfl kk) ?_
        refine wq (fun _ _ kk => rs_iload (pc := 51) dX6_shorten_51 rfl kk) ?_
        refine wq (fun _ _ kk => rs_lald (pc := 53) dX6_shorten_53 (mo_lt hrp (by decide)) (mo_getl (d := 0) (k := 0) (kd := 1) (l := 16) rfl (by decide) hrp) (vp_in_nI (n := a) (N := 16) ha (by decide)) kk) ?_
        rw [nI_clamp (show a < 2 ^ 31 by omega)]
        refine wq (fun _ _ kk => rs_ldc2 (pc := 54) dX6_shorten_54 cnX6_22 kk) ?_
        refine wq_br (fun _ _ kt kf => wk_lcmp_eq (tgt := 74) (pc := 57) dX6_shorten_57 dX6_shorten_58 rfl kt kf) (fun c_57 => ?_) (fun c_57 => ?_)
        · refine wq (fun _ _ kk => rs_aload_n (pc := 74) dX6_shorten_74 rfl kk) ?_
          refine wq (fun _ _ kk => rs_getf (pc := 75) dX6_shorten_75 fX6_9 (mo_lt hrp (by decide)) hrp.2.1 rfl kk) ?_
          refine wq (fun _ _ kk => rs_iload (pc := 78) dX6_shorten_78 rfl kk) ?_
          refine wq (fun _ _ kk => rs_lload (pc := 80) dX6_shorten_80 rfl kk) ?_
          refine wq (fun _ _ kk => rs_last (pc := 82) dX6_shorten_82 (mo_lt hrp (by decide)) (mo_getl (d := 0) (k := 0) (kd := 1) (l := 16) rfl (by decide) hrp) (vp_in_nI (n := a) (N := 16) ha (by decide)) kk) ?_
          refine wq_gen (fun h_1 e_1 => ?_)
          obtain ⟨m_1, s_1, g_1, o_1⟩ := ai_e1 e_1
          replace hrp := mo_al (tab := rp_tab) (d := 0) rp_nd rfl (by decide) (fun _ _ _ => rfl) hrp m_1 g_1 o_1
          replace hmt := mt_keep hmt m_1 (fun j _ _ => o_1 j (by omega))
          have E_1 := (E0).trans (xp_of m_1 s_1 o_1 (by decide))
          refine wq (fun _ _ kk => rs_iconst (v := 1) (pc := 83) dX6_shorten_83 rfl kk) ?_
          refine wq (fun _ _ kk => wk_istn3 (pc := 84) dX6_shorten_84 (by decide) rfl kk) ?_
          refine wq (fun _ _ kk => wk_iinc5 (v := nI (b + 1)) (pc := 85) dX6_shorten_85 (by decide) rfl (nI_1 b) kk) ?_
          refine wq (fun _ _ kk => rs_goto (tgt := 21) (pc := 88) dX6_shorten_88 rfl kk) ?_
          obtain ⟨hst, hup⟩ := ro_st_yes (a := a) (b := b) hok hn hgd his ha (by omega) c_43 (by
            first
            | exact Or.inl c_57
            | exact Or.inr c_70)
          have hgd2 := (ro_to_s (g := gl) (ro_32_pos (ro_T_32 T)) han (ro_r (ro_T T) a p0 b) b).2.1 hgd
          rw [show (1 : Int32) = b32 (ro_r (ro_T T) a p0 (b + 1)).2 from by rw [ro_r, hst]; rfl]
          refine ih (b + 1) _ _ _ (by omega) (by omega) E_1 hrp hmt (hsm.trans ⟨rfl, rfl, rfl, rfl⟩) ?_ hgd2
          rw [ro_r, hst, nI_clamp (show a < 2 ^ 31 by omega)]
          exact hup
        · refine wq (fun _ _ kk => rs_lload (pc := 61) dX6_shorten_61 rfl kk) ?_
          refine wq (fun _ _ kk => rs_aload_n (pc := 63) dX6_shorten_63 rfl kk) ?_
          refine wq (fun _ _ kk => rs_getf (pc := 64) dX6_shorten_64 fX6_9 (mo_lt hrp (by decide)) hrp.2.1 rfl kk) ?_
          refine wq (fun _ _ kk => rs_iload (pc := 67) dX6_shorten_67 rfl kk) ?_
          refine wq (fun _ _ kk => rs_lald (pc := 69) dX6_shorten_69 (mo_lt hrp (by decide)) (mo_getl (d := 0) (k := 0) (kd := 1) (l := 16) rfl (by decide) hrp) (vp_in_nI (n := a) (N := 16) ha (by decide)) kk) ?_
          rw [nI_clamp (show a < 2 ^ 31 by omega)]
          refine wq_br (fun _ _ kt kf => wk_lcmp_ge (tgt := 85) (pc := 70) dX6_shorten_70 dX6_shorten_71 rfl kt kf) (fun c_70 => ?_) (fun c_70 => ?_)
          · refine wq (fun _ _ kk => wk_iinc5 (v := nI (b + 1)) (pc := 85) dX6_shorten_85 (by decide) rfl (nI_1 b) kk) ?_
            refine wq (fun _ _ kk => rs_goto (tgt := 21) (pc := 88) dX6_shorten_88 rfl kk) ?_
            have hst : ro_s (ro_T T) a (ro_r (ro_T T) a p0 b) b = ro_r (ro_T T) a p0 b := ro_st_no hok hn hgd his ha (by omega) (by
              first
              | exact Or.inl c_43
              | exact Or.inr ⟨c_57, c_70⟩)
            have hl : ro_r (ro_T T) a p0 b = ro_r (ro_T T) a p0 (b + 1) := by rw [ro_r, hst]
            rw [hl] at his hgd ⊢
            exact ih (b + 1) _ _ _ (by omega) (by omega) E0 hrp hmt hsm his hgd
          · refine wq (fun _ _ kk => rs_aload_n (pc := 74) dX6_shorten_74 rfl kk) ?_
            refine wq (fun _ _ kk => rs_getf (pc := 75) dX6_shorten_75 fX6_9 (mo_lt hrp (by decide)) hrp.2.1 rfl kk) ?_
            refine wq (fun _ _ kk => rs_iload (pc := 78) dX6_shorten_78 rfl kk) ?_
            refine wq (fun _ _ kk => rs_lload (pc := 80) dX6_shorten_80 rfl kk) ?_
            refine wq (fun _ _ kk => rs_last (pc := 82) dX6_shorten_82 (mo_lt hrp (by decide)) (mo_getl (d := 0) (k := 0) (kd := 1) (l := 16) rfl (by decide) hrp) (vp_in_nI (n := a) (N := 16) ha (by decide)) kk) ?_
            refine wq_gen (fun h_2 e_2 => ?_)
            obtain ⟨m_2, s_2, g_2, o_2⟩ := ai_e1 e_2
            replace hrp := mo_al (tab := rp_tab) (d := 0) rp_nd rfl (by decide) (fun _ _ _ => rfl) hrp m_2 g_2 o_2
            replace hmt := mt_keep hmt m_2 (fun j _ _ => o_2 j (by omega))
            have E_2 := (E0).trans (xp_of m_2 s_2 o_2 (by decide))
            refine wq (fun _ _ kk => rs_iconst (v := 1) (pc := 83) dX6_shorten_83 rfl kk) ?_
            refine wq (fun _ _ kk => wk_istn3 (pc := 84) dX6_shorten_84 (by decide) rfl kk) ?_
            refine wq (fun _ _ kk => wk_iinc5 (v := nI (b + 1)) (pc := 85) dX6_shorten_85 (by decide) rfl (nI_1 b) kk) ?_
            refine wq (fun _ _ kk => rs_goto (tgt := 21) (pc := 88) dX6_shorten_88 rfl kk) ?_
            obtain ⟨hst, hup⟩ := ro_st_yes (a := a) (b := b) hok hn hgd his ha (by omega) c_43 (by
              first
              | exact Or.inl c_57
              | exact Or.inr c_70)
            have hgd2 := (ro_to_s (g := gl) (ro_32_pos (ro_T_32 T)) han (ro_r (ro_T T) a p0 b) b).2.1 hgd
            rw [show (1 : Int32) = b32 (ro_r (ro_T T) a p0 (b + 1)).2 from by rw [ro_r, hst]; rfl]
            refine ih (b + 1) _ _ _ (by omega) (by omega) E_2 hrp hmt (hsm.trans ⟨rfl, rfl, rfl, rfl⟩) ?_ hgd2
            rw [ro_r, hst, nI_clamp (show a < 2 ^ 31 by omega)]
            exact hup
set_option maxRecDepth 100000 in
set_option maxHeartbeats 4000000 in
theorem l2_X6_shorten {h : ai_H} {S : Md} {T : Nat → Ty} {n gl : Nat} {p0 : Tl × Bool} (hok : mt_ok T) (hn : n ≤ 16) : ∀ (m a : Nat) (u5 u6 : Value) (g : ai_H) (S' : Md), a ≤ n → n + 1 ≤ a + m → xp h g → rp_at g S' → mt_at g T → rp_same S S' → ro_is (S'.2.2.2 0) (ro_p (ro_T T) n p0 a).1 → ro_good (ro_T T) n gl (ro_p (ro_T T) n p0 a).1 → ai_W MX6_shorten 5 [.ref 294, .ref 35, .int (nI n), .int (b32 (ro_p (ro_T T) n p0 a).2), .int (nI a), u5, u6, .float 0] [] g (fun r g => r = some (.int (b32 (ro_p (ro_T T) n p0 n).2)) ∧ xp h g ∧ mt_at g T ∧ ∃ S', rp_at g S' ∧ rp_same S S' ∧ ro_is (S'.2.2.2 0) (ro_p (ro_T T) n p0 n).1 ∧ ro_good (ro_T T) n gl (ro_p (ro_T T) n p0 n).1) := by
  intro m
  induction m with
  | zero => intro a u5 u6 g S' h1 h2; exact absurd h2 (by omega)
  | succ m ih =>
    intro a u5 u6 g S' ha0 him E0 hrp hmt hsm his hgd
    refine wq (fun _ _ kk => rs_iload (pc := 5) dX6_shorten_5 rfl kk) ?_
    refine wq (fun _ _ kk => rs_iload_n (pc := 7) dX6_shorten_7 rfl kk) ?_
    refine wq_br (fun _ _ kt kf => rs_icmp_ge (tgt := 97) (pc := 8) dX6_shorten_8 rfl kt kf) (fun c_8 => ?_) (fun c_8 => ?_)
    · have hae : a = n := lp_exit rfl (by omega) ha0 c_8
      subst hae
      refine wq (fun _ _ kk => rs_iload_n (pc := 97) dX6_shorten_97 rfl kk) ?_
      refine wq_ret ?_ (rs_zret (pc := 98) dX6_shorten_98 rfl (b32_b _))
      exact ⟨rfl, E0, hmt, S', hrp, hsm, his, hgd⟩
    · have han : a < n := lp_go rfl (by omega) c_8
      refine wq (fun _ _ kk => rs_iload (pc := 11) dX6_shorten_11 rfl kk) ?_
      refine wq (fun _ _ kk => rs_bipush (v := 16) (pc := 13) dX6_shorten_13 rfl kk) ?_
      refine wq_br (fun _ _ kt kf => rs_icmp_ge (tgt := 97) (pc := 15) dX6_shorten_15 rfl kt kf) (fun c_15 => absurd c_15 (nI_ge (b := 16) (show a < 16 by omega) (by decide))) (fun c_15 => ?_)
      refine wq (fun _ _ kk => rs_iconst (v := 0) (pc := 18) dX6_shorten_18 rfl kk) ?_
      refine wq (fun _ _ kk => wk_ist5 (pc := 19) dX6_shorten_19 (by decide) rfl kk) ?_
      refine l1_X6_shorten (a := a) (p0 := ro_p (ro_T T) n p0 a) hok hn (by omega) han ?_ (n + 1) 0 _ _ _ (by omega) (by omega) E0 hrp hmt hsm his hgd
      clear hrp hmt hsm his hgd E0
      intro g u6 S' E0 hrp hmt hsm his hgd
      refine wq (fun _ _ kk => wk_iinc4 (v := nI (a + 1)) (pc := 91) dX6_shorten_91 (by decide) rfl (nI_1 a) kk) ?_
      refine wq (fun _ _ kk => rs_goto (tgt := 5) (pc := 94) dX6_shorten_94 rfl kk) ?_
      exact ih (a + 1) _ _ _ _ (by omega) (by omega) E0 hrp hmt hsm his hgd
set_option maxRecDepth 100000 in
set_option maxHeartbeats 4000000 in
theorem c_X6_shorten {h : ai_H} {S : Md} {T : Nat → Ty} {n gl : Nat} {d : Tl} (hok : mt_ok T) (hn : n ≤ 16) (hrp : rp_at h S) (hmt : mt_at h T) (his : ro_is (S.2.2.2 0) d) (hgd : ro_good (ro_T T) n gl d) : ai_QM MX6_shorten [.ref 294, .ref 35, .int (nI n)] h (fun r g => r = some (.int (b32 (ro_p (ro_T T) n (d, false) n).2)) ∧ xp h g ∧ mt_at g T ∧ ∃ S', rp_at g S' ∧ rp_same S S' ∧ ro_is (S'.2.2.2 0) (ro_p (ro_T T) n (d, false) n).1 ∧ ro_good (ro_T T) n gl (ro_p (ro_T T) n (d, false) n).1) := by
  refine qm_of (ls := [.ref 294, .ref 35, .int (nI n), .float 0, .float 0, .float 0, .float 0, .float 0]) (by decide) (by simp [ai_en, Value.category]) (by rfl) ?_
  refine wq (fun _ _ kk => rs_iconst (v := 0) (pc := 0) dX6_shorten_0 rfl kk) ?_
  refine wq (fun _ _ kk => wk_istn3 (pc := 1) dX6_shorten_1 (by decide) rfl kk) ?_
  refine wq (fun _ _ kk => rs_iconst (v := 0) (pc := 2) dX6_shorten_2 rfl kk) ?_
  refine wq (fun _ _ kk => wk_ist4 (pc := 3) dX6_shorten_3 (by decide) rfl kk) ?_
  exact l2_X6_shorten (p0 := (d, false)) hok hn (n + 1) 0 _ _ _ _ (by omega) (by omega) xp.rf hrp hmt ⟨rfl, rfl, rfl, rfl⟩ his hgd
/-- rows of the ropes at their start, below i -/
def led1 (t : Nat → Int64) (o : Nat → Int32) (l : Nat → Int64) (gl i : Nat) : Prop := ∀ x, x < i → t x = ro_e (ro_0 gl x) ∧ o x = -1 ∧ l x = 0
theorem led1_s {t l : Nat → Int64} {o : Nat → Int32} {gl i k : Nat} {v : Int64} (h : led1 t o l gl i) (hk : k = i) (hv : v = ro_e (ro_0 gl i)) : led1 (vp_updL t k v) (upd o k (-1)) (vp_updL l k 0) gl (i + 1) := by
  subst hk
  intro x hx
  by_cases hxi : x = k
  · subst hxi
    simp [vp_updL, upd, hv]
  · have := h x (by omega)
    simp [vp_updL, upd, hxi, this]
def led2 (S : Md) : Prop := ∀ x, x < 16 → S.2.2.1 1 x = -1 ∧ S.2.2.2 2 x = 0
theorem led2_of {S S' : Md} (h : led2 S) (hs : rp_same S S') : led2 S' := by
  intro x hx
  rw [hs.2.2.1, hs.2.2.2]
  exact h x hx
theorem ro_e_inj {p q : Option Nat} (hp : ∀ v, p = some v → v < 4611686018427387904) (hq : ∀ v, q = some v → v < 4611686018427387904) : ro_e p = ro_e q ↔ p = q := by
  cases p with
  | none => rw [show ro_e none = -1 from rfl]; constructor
            · intro h; exact ((ro_e_m1 hq).1 h.symm).symm
            · intro h; exact ((ro_e_m1 hq).2 h.symm).symm
  | some u =>
    have hu := hp u rfl
    cases q with
    | none => rw [show ro_e none = -1 from rfl, ro_e_m1 hp]
    | some v =>
      have hv := hq v rfl
      show aL u = aL v ↔ _
      rw [aL_eq (by omega) (by omega) (by omega) (by omega), Option.some.injEq]
      omega
theorem rp_on_is {T : Nat → Ty} {n g a c : Nat} {d : Tl} {t : Nat → Int64} (hok : mt_ok T) (hn : n ≤ 16) (hg : ro_good (ro_T T) n g d) (hi : ro_is t d) (ha : a < 16) (hc : c < n) (h1 : ro_by (ro_T T) d a c = d a) (h2 : ∀ k, k < c → ¬ ro_by (ro_T T) d a k = d a) : ∀ (m b : Nat), b ≤ c → n + 1 ≤ b + m → rp_on T t a n m b = nI c := by
  have key : ∀ k, k < 16 → (rp_by T t a k = t a ↔ ro_by (ro_T T) d a k = d a) := by
    intro k hk
    obtain ⟨e1, b1⟩ := rp_by_is hok hn hg hi ha hk
    rw [e1, hi a ha]
    exact ro_e_inj (fun v hv => by have := b1 v hv; omega) (fun v hv => by have := ro_good_b hok hn hg hv; omega)
  intro m
  induction m with
  | zero => intro b hb hm; omega
  | succ m ih =>
    intro b hb hm
    rw [rp_on, if_neg (by omega)]
    by_cases hbc : b = c
    · subst hbc
      rw [if_pos ((key b (by omega)).2 h1)]
    · rw [if_neg (fun z => h2 b (by omega) ((key b (by omega)).1 z))]
      exact ih (b + 1) (by omega) (by omega)
/-- onward, when those below i are led -/
def led3 (T : Nat → Ty) (n gl i x : Nat) : Int32 := if x < i ∧ x ≠ gl ∧ (ro_end (ro_T T) n gl x).isSome = true then nI (ro_nx (ro_T T) n (ro_end (ro_T T) n gl) x) else -1
def ro_ln (T : Nat → Ty) (n gl x : Nat) : Int64 := match ro_end (ro_T T) n gl x with
  | none => 0
  | some v => rp_sum T (ro_pt (ro_T T) n gl x) (v % 32)
def led4 (T : Nat → Ty) (n gl i x : Nat) : Int64 := if x < i then ro_ln T n gl x else 0
theorem led3_no {T : Nat → Ty} {n gl i : Nat} (h : i = gl ∨ ro_end (ro_T T) n gl i = none) : ∀ x, led3 T n gl (i + 1) x = led3 T n gl i x := by
  intro x
  unfold led3
  by_cases hx : x < i
  · simp only [hx, show x < i + 1 by omega]
  · by_cases hxi : x = i
    · subst hxi
      rw [if_neg, if_neg (fun z => hx z.1)]
      intro z
      cases h with
      | inl q => exact z.2.1 q
      | inr q => rw [q] at z; exact absurd z.2.2 (by simp)
    · rw [if_neg (fun z => by omega), if_neg (fun z => hx z.1)]
theorem led3_yes {T : Nat → Ty} {n gl i v : Nat} {o : Nat → Int32} {k : Nat} (hk : k = i) (h : i ≠ gl) (hv : ro_end (ro_T T) n gl i = some v) (ho : ∀ x, x < 16 → o x = led3 T n gl i x) : ∀ x, x < 16 → upd o k (nI (ro_nx (ro_T T) n (ro_end (ro_T T) n gl) i)) x = led3 T n gl (i + 1) x := by
  subst hk
  intro x hx
  by_cases hxi : x = k
  · subst hxi
    simp [upd, led3, h, hv]
  · have := ho x hx
    simp only [upd, if_neg hxi, this]
    unfold led3
    by_cases hx2 : x < k
    · simp only [hx2, show x < k + 1 by omega]
    · rw [if_neg (fun z => hx2 z.1), if_neg (fun z => by omega)]
theorem led4_s {T : Nat → Ty} {n gl i k : Nat} {l : Nat → Int64} {v : Int64} (hk : k = i) (hv : v = ro_ln T n gl i) (hl : ∀ x, x < 16 → l x = led4 T n gl i x) : ∀ x, x < 16 → vp_updL l k v x = led4 T n gl (i + 1) x := by
  subst hk
  intro x hx
  by_cases hxi : x = k
  · subst hxi
    simp [vp_updL, led4, hv]
  · have := hl x hx
    simp only [vp_updL, if_neg hxi, this]
    unfold led4
    by_cases hx2 : x < k
    · rw [if_pos hx2, if_pos (by omega)]
    · rw [if_neg hx2, if_neg (by omega)]
/-- the ropes are led to gl -/
def rp_led (T : Nat → Ty) (n gl : Nat) (S : Md) : Prop := ∀ x, x < 16 → S.2.2.2 0 x = ro_e (ro_end (ro_T T) n gl x) ∧ S.2.2.1 1 x = led3 T n gl n x ∧ S.2.2.2 2 x = led4 T n gl n x
theorem rp_li_is {t : Nat → Int64} {x v : Nat} (h : t x = aL v) (hv : v < 4611686018427387904) : rp_li t x = nI (v % 32) := by
  unfold rp_li
  rw [h, if_neg (by rw [show (-1 : Int64) = aL (-1) from rfl, aL_eq (by omega) (by omega) (by omega) (by omega)]; omega), show (32 : Int64) = aL 32 from rfl, aL_quo (by omega) (by omega) (by omega) (by omega), aL_mul, aL_sub, aL_l2i]
  rw [← aI_nat]
  congr 1
  omega
theorem ro_pt_lead {T : Nat → Ty} {n gl x v : Nat} {o : Nat → Int32} (hn : n ≤ 16) (hg : gl < n) (hv : ro_end (ro_T T) n gl x = some v) (ho : ∀ y, y < 16 → o y = led3 T n gl n y) : ∀ i, i < v % 32 → ro_pt (ro_T T) n gl x i < 16 ∧ o (ro_pt (ro_T T) n gl x i) = nI (ro_pt (ro_T T) n gl x (i + 1)) ∧ ro_pt (ro_T T) n gl x (i + 1) < 16 := by
  intro i hi
  obtain ⟨u, hu, h1, h2⟩ := ro_pt_is (ro_T_32 T) hn hg hv i (by omega)
  obtain ⟨w, hw, h3, h4⟩ := ro_pt_is (ro_T_32 T) hn hg hv (i + 1) (by omega)
  have hne : ro_pt (ro_T T) n gl x i ≠ gl := by
    intro q
    rw [q, ro_end_g (ro_32_pos (ro_T_32 T)) hg] at hu
    cases hu
    omega
  refine ⟨by omega, ?_, by omega⟩
  rw [ho _ (by omega)]
  unfold led3
  rw [if_pos ⟨h2, hne, by rw [hu]; rfl⟩]
  rfl
theorem nI_inj {a b : Nat} (ha : a < 2 ^ 31) (hb : b < 2 ^ 31) (h : nI a = nI b) : a = b := by
  have := congrArg Int32.toInt h
  rw [nI_toInt ha, nI_toInt hb] at this
  omega
theorem dX6_lead_0 : decode cX6_lead 0 = .ok (.iconst 0, 1) := by decide +kernel
theorem dX6_lead_1 : decode cX6_lead 1 = .ok (.istore 4, 2) := by decide +kernel
theorem dX6_lead_3 : decode cX6_lead 3 = .ok (.iload 4, 2) := by decide +kernel
theorem dX6_lead_5 : decode cX6_lead 5 = .ok (.bipush 16, 2) := by decide +kernel
theorem dX6_lead_7 : decode cX6_lead 7 = .ok (.if_icmp .ge 45, 3) := by decide +kernel
theorem dX6_lead_10 : decode cX6_lead 10 = .ok (.aload_n 0, 1) := by decide +kernel
theorem dX6_lead_11 : decode cX6_lead 11 = .ok (.getfield 9, 3) := by decide +kernel
theorem dX6_lead_14 : decode cX6_lead 14 = .ok (.iload 4, 2) := by decide +kernel
theorem dX6_lead_16 : decode cX6_lead 16 = .ok (.iload 4, 2) := by decide +kernel
theorem dX6_lead_18 : decode cX6_lead 18 = .ok (.iload_n 3, 1) := by decide +kernel
theorem dX6_lead_19 : decode cX6_lead 19 = .ok (.if_icmp .ne 7, 3) := by decide +kernel
theorem dX6_lead_22 : decode cX6_lead 22 = .ok (.lconst 0, 1) := by decide +kernel
theorem dX6_lead_23 : decode cX6_lead 23 = .ok (.goto 6, 3) := by decide +kernel
theorem dX6_lead_26 : decode cX6_lead 26 = .ok (.ldc2_w 22, 3) := by decide +kernel
theorem dX6_lead_29 : decode cX6_lead 29 = .ok (.lastore, 1) := by decide +kernel
theorem dX6_lead_30 : decode cX6_lead 30 = .ok (.aload_n 0, 1) := by decide +kernel
theorem dX6_lead_31 : decode cX6_lead 31 = .ok (.getfield 15, 3) := by decide +kernel
theorem dX6_lead_34 : decode cX6_lead 34 = .ok (.iload 4, 2) := by decide +kernel
theorem dX6_lead_36 : decode cX6_lead 36 = .ok (.iconst (-1), 1) := by decide +kernel
theorem dX6_lead_37 : decode cX6_lead 37 = .ok (.iastore, 1) := by decide +kernel
theorem dX6_lead_38 : decode cX6_lead 38 = .ok (.aload_n 0, 1) := by decide +kernel
theorem dX6_lead_39 : decode cX6_lead 39 = .ok (.getfield 19, 3) := by decide +kernel
theorem dX6_lead_42 : decode cX6_lead 42 = .ok (.iload 4, 2) := by decide +kernel
theorem dX6_lead_44 : decode cX6_lead 44 = .ok (.lconst 0, 1) := by decide +kernel
theorem dX6_lead_45 : decode cX6_lead 45 = .ok (.lastore, 1) := by decide +kernel
theorem dX6_lead_46 : decode cX6_lead 46 = .ok (.iinc 4 1, 3) := by decide +kernel
theorem dX6_lead_49 : decode cX6_lead 49 = .ok (.goto (-46), 3) := by decide +kernel
theorem dX6_lead_52 : decode cX6_lead 52 = .ok (.iconst 1, 1) := by decide +kernel
theorem dX6_lead_53 : decode cX6_lead 53 = .ok (.istore 4, 2) := by decide +kernel
theorem dX6_lead_55 : decode cX6_lead 55 = .ok (.iconst 0, 1) := by decide +kernel
theorem dX6_lead_56 : decode cX6_lead 56 = .ok (.istore 5, 2) := by decide +kernel
theorem dX6_lead_58 : decode cX6_lead 58 = .ok (.iload 5, 2) := by decide +kernel
theorem dX6_lead_60 : decode cX6_lead 60 = .ok (.iload_n 2, 1) := by decide +kernel
theorem dX6_lead_61 : decode cX6_lead 61 = .ok (.if_icmp .ge 22, 3) := by decide +kernel
theorem dX6_lead_64 : decode cX6_lead 64 = .ok (.iload 4, 2) := by decide +kernel
theorem dX6_lead_66 : decode cX6_lead 66 = .ok (.ifCond .eq 17, 3) := by decide +kernel
theorem dX6_lead_69 : decode cX6_lead 69 = .ok (.aload_n 0, 1) := by decide +kernel
theorem dX6_lead_70 : decode cX6_lead 70 = .ok (.aload_n 1, 1) := by decide +kernel
theorem dX6_lead_71 : decode cX6_lead 71 = .ok (.iload_n 2, 1) := by decide +kernel
theorem dX6_lead_72 : decode cX6_lead 72 = .ok (.invokevirtual 24, 3) := by decide +kernel
theorem dX6_lead_75 : decode cX6_lead 75 = .ok (.istore 4, 2) := by decide +kernel
theorem dX6_lead_77 : decode cX6_lead 77 = .ok (.iinc 5 1, 3) := by decide +kernel
theorem dX6_lead_80 : decode cX6_lead 80 = .ok (.goto (-22), 3) := by decide +kernel
theorem dX6_lead_83 : decode cX6_lead 83 = .ok (.iconst 0, 1) := by decide +kernel
theorem dX6_lead_84 : decode cX6_lead 84 = .ok (.istore 5, 2) := by decide +kernel
theorem dX6_lead_86 : decode cX6_lead 86 = .ok (.iload 5, 2) := by decide +kernel
theorem dX6_lead_88 : decode cX6_lead 88 = .ok (.iload_n 2, 1) := by decide +kernel
theorem dX6_lead_89 : decode cX6_lead 89 = .ok (.if_icmp .ge 39, 3) := by decide +kernel
theorem dX6_lead_92 : decode cX6_lead 92 = .ok (.iload 5, 2) := by decide +kernel
theorem dX6_lead_94 : decode cX6_lead 94 = .ok (.iload_n 3, 1) := by decide +kernel
theorem dX6_lead_95 : decode cX6_lead 95 = .ok (.if_icmp .eq 27, 3) := by decide +kernel
theorem dX6_lead_98 : decode cX6_lead 98 = .ok (.aload_n 0, 1) := by decide +kernel
theorem dX6_lead_99 : decode cX6_lead 99 = .ok (.iload 5, 2) := by decide +kernel
theorem dX6_lead_101 : decode cX6_lead 101 = .ok (.invokevirtual 28, 3) := by decide +kernel
theorem dX6_lead_104 : decode cX6_lead 104 = .ok (.ifCond .eq 18, 3) := by decide +kernel
theorem dX6_lead_107 : decode cX6_lead 107 = .ok (.aload_n 0, 1) := by decide +kernel
theorem dX6_lead_108 : decode cX6_lead 108 = .ok (.getfield 15, 3) := by decide +kernel
theorem dX6_lead_111 : decode cX6_lead 111 = .ok (.iload 5, 2) := by decide +kernel
theorem dX6_lead_113 : decode cX6_lead 113 = .ok (.aload_n 0, 1) := by decide +kernel
theorem dX6_lead_114 : decode cX6_lead 114 = .ok (.aload_n 1, 1) := by decide +kernel
theorem dX6_lead_115 : decode cX6_lead 115 = .ok (.iload_n 2, 1) := by decide +kernel
theorem dX6_lead_116 : decode cX6_lead 116 = .ok (.iload 5, 2) := by decide +kernel
theorem dX6_lead_118 : decode cX6_lead 118 = .ok (.invokevirtual 32, 3) := by decide +kernel
theorem dX6_lead_121 : decode cX6_lead 121 = .ok (.iastore, 1) := by decide +kernel
theorem dX6_lead_122 : decode cX6_lead 122 = .ok (.iinc 5 1, 3) := by decide +kernel
theorem dX6_lead_125 : decode cX6_lead 125 = .ok (.goto (-39), 3) := by decide +kernel
theorem dX6_lead_128 : decode cX6_lead 128 = .ok (.iconst 0, 1) := by decide +kernel
theorem dX6_lead_129 : decode cX6_lead 129 = .ok (.istore 5, 2) := by decide +kernel
theorem dX6_lead_131 : decode cX6_lead 131 = .ok (.iload 5, 2) := by decide +kernel
theorem dX6_lead_133 : decode cX6_lead 133 = .ok (.iload_n 2, 1) := by decide +kernel
theorem dX6_lead_134 : decode cX6_lead 134 = .ok (.if_icmp .ge 23, 3) := by decide +kernel
theorem dX6_lead_137 : decode cX6_lead 137 = .ok (.aload_n 0, 1) := by decide +kernel
theorem dX6_lead_138 : decode cX6_lead 138 = .ok (.getfield 19, 3) := by decide +kernel
theorem dX6_lead_141 : decode cX6_lead 141 = .ok (.iload 5, 2) := by decide +kernel
theorem dX6_lead_143 : decode cX6_lead 143 = .ok (.aload_n 0, 1) := by decide +kernel
theorem dX6_lead_144 : decode cX6_lead 144 = .ok (.aload_n 1, 1) := by decide +kernel
theorem dX6_lead_145 : decode cX6_lead 145 = .ok (.iload 5, 2) := by decide +kernel
theorem dX6_lead_147 : decode cX6_lead 147 = .ok (.invokevirtual 36, 3) := by decide +kernel
theorem dX6_lead_150 : decode cX6_lead 150 = .ok (.lastore, 1) := by decide +kernel
theorem dX6_lead_151 : decode cX6_lead 151 = .ok (.iinc 5 1, 3) := by decide +kernel
theorem dX6_lead_154 : decode cX6_lead 154 = .ok (.goto (-23), 3) := by decide +kernel
theorem dX6_lead_157 : decode cX6_lead 157 = .ok (.return_, 1) := by decide +kernel
set_option maxRecDepth 100000 in
set_option maxHeartbeats 4000000 in
theorem l1_X6_lead {h : ai_H} {T : Nat → Ty} {n gl : Nat} {Q : Option Value → ai_H → Prop} (hgl : gl < 16) (kx : ∀ (g : ai_H) (S' : Md), xp h g → rp_at g S' → mt_at g T → led1 (S'.2.2.2 0) (S'.2.2.1 1) (S'.2.2.2 2) gl 16 → ai_W MX6_lead 52 [.ref 294, .ref 35, .int (nI n), .int (nI gl), .int (nI 16), .float 0] [] g Q) : ∀ (m i : Nat) (g : ai_H) (S' : Md), i ≤ 16 → 17 ≤ i + m → xp h g → rp_at g S' → mt_at g T → led1 (S'.2.2.2 0) (S'.2.2.1 1) (S'.2.2.2 2) gl i → ai_W MX6_lead 3 [.ref 294, .ref 35, .int (nI n), .int (nI gl), .int (nI i), .float 0] [] g Q := by
  intro m
  induction m with
  | zero => intro i g S' h1 h2; exact absurd h2 (by omega)
  | succ m ih =>
    intro i g S' hi0 him E0 hrp hmt hl1
    refine wq (fun _ _ kk => rs_iload (pc := 3) dX6_lead_3 rfl kk) ?_
    refine wq (fun _ _ kk => rs_bipush (v := 16) (pc := 5) dX6_lead_5 rfl kk) ?_
    refine wq_br (fun _ _ kt kf => rs_icmp_ge (tgt := 52) (pc := 7) dX6_lead_7 rfl kt kf) (fun c_7 => ?_) (fun c_7 => ?_)
    · have hie : i = 16 := lp_exit (sz := 16) rfl (by decide) hi0 c_7
      subst hie
      exact kx g S' E0 hrp hmt hl1
    · have hi : i < 16 := lp_go (sz := 16) rfl (by omega) c_7
      refine wq (fun _ _ kk => rs_aload_n (pc := 10) dX6_lead_10 rfl kk) ?_
      refine wq (fun _ _ kk => rs_getf (pc := 11) dX6_lead_11 fX6_9 (mo_lt hrp (by decide)) hrp.2.1 rfl kk) ?_
      refine wq (fun _ _ kk => rs_iload (pc := 14) dX6_lead_14 rfl kk) ?_
      refine wq (fun _ _ kk => rs_iload (pc := 16) dX6_lead_16 rfl kk) ?_
      refine wq (fun _ _ kk => rs_iload_n (pc := 18) dX6_lead_18 rfl kk) ?_
      refine wq_bn (fun _ _ kt kf => rs_icmp_ne (tgt := 26) (pc := 19) dX6_lead_19 rfl kt kf) (fun c_19 => ?_) (fun c_19 => ?_)
      · refine wq (fun _ _ kk => rs_ldc2 (pc := 26) dX6_lead_26 cnX6_22 kk) ?_
        refine wq (fun _ _ kk => rs_last (pc := 29) dX6_lead_29 (mo_lt hrp (by decide)) (mo_getl (d := 0) (k := 0) (kd := 1) (l := 16) rfl (by decide) hrp) (vp_in_nI (n := i) (N := 16) (by omega) (by decide)) kk) ?_
        refine wq_gen (fun h_1 e_1 => ?_)
        obtain ⟨m_1, s_1, g_1, o_1⟩ := ai_e1 e_1
        replace hrp := mo_al (tab := rp_tab) (d := 0) rp_nd rfl (by decide) (fun _ _ _ => rfl) hrp m_1 g_1 o_1
        replace hmt := mt_keep hmt m_1 (fun j _ _ => o_1 j (by omega))
        have E_1 := (E0).trans (xp_of m_1 s_1 o_1 (by decide))
        refine wq (fun _ _ kk => rs_aload_n (pc := 30) dX6_lead_30 rfl kk) ?_
        refine wq (fun _ _ kk => rs_getf (pc := 31) dX6_lead_31 fX6_15 (mo_lt hrp (by decide)) hrp.2.1 rfl kk) ?_
        refine wq (fun _ _ kk => rs_iload (pc := 34) dX6_lead_34 rfl kk) ?_
        refine wq (fun _ _ kk => rs_iconst (v := -1) (pc := 36) dX6_lead_36 rfl kk) ?_
        refine wq (fun _ _ kk => rs_iast (pc := 37) dX6_lead_37 (mo_lt hrp (by decide)) (mo_geti (d := 1) (k := 1) (kd := 0) (l := 16) rfl (by decide) hrp) (vp_in_nI (n := i) (N := 16) (by omega) (by decide)) kk) ?_
        refine wq_gen (fun h_2 e_2 => ?_)
        obtain ⟨m_2, s_2, g_2, o_2⟩ := ai_e1 e_2
        replace hrp := mo_ai (tab := rp_tab) (d := 1) rp_nd rfl (by decide) (fun _ _ _ => rfl) hrp m_2 g_2 o_2
        replace hmt := mt_keep hmt m_2 (fun j _ _ => o_2 j (by omega))
        have E_2 := (E_1).trans (xp_of m_2 s_2 o_2 (by decide))
        refine wq (fun _ _ kk => rs_aload_n (pc := 38) dX6_lead_38 rfl kk) ?_
        refine wq (fun _ _ kk => rs_getf (pc := 39) dX6_lead_39 fX6_19 (mo_lt hrp (by decide)) hrp.2.1 rfl kk) ?_
        refine wq (fun _ _ kk => rs_iload (pc := 42) dX6_lead_42 rfl kk) ?_
        refine wq (fun _ _ kk => rs_lconst (v := 0) (pc := 44) dX6_lead_44 rfl kk) ?_
        refine wq (fun _ _ kk => rs_last (pc := 45) dX6_lead_45 (mo_lt hrp (by decide)) (mo_getl (d := 2) (k := 2) (kd := 1) (l := 16) rfl (by decide) hrp) (vp_in_nI (n := i) (N := 16) (by omega) (by decide)) kk) ?_
        refine wq_gen (fun h_3 e_3 => ?_)
        obtain ⟨m_3, s_3, g_3, o_3⟩ := ai_e1 e_3
        replace hrp := mo_al (tab := rp_tab) (d := 2) rp_nd rfl (by decide) (fun _ _ _ => rfl) hrp m_3 g_3 o_3
        replace hmt := mt_keep hmt m_3 (fun j _ _ => o_3 j (by omega))
        have E_3 := (E_2).trans (xp_of m_3 s_3 o_3 (by decide))
        refine wq (fun _ _ kk => wk_iinc4 (v := nI (i + 1)) (pc := 46) dX6_lead_46 (by decide) rfl (nI_1 i) kk) ?_
        refine wq (fun _ _ kk => rs_goto (tgt := 3) (pc := 49) dX6_lead_49 rfl kk) ?_
        refine ih (i + 1) _ _ (by omega) (by omega) E_3 hrp hmt (led1_s hl1 (nI_clamp (by omega)) ?_)
        first
        | (rw [show i = gl from nI_inj (by omega) (by omega) c_19]; simp [ro_0, ro_e]; rfl)
        | (simp [ro_0, show ¬ i = gl from fun z => c_19 (by rw [z])]; rfl)
      · refine wq (fun _ _ kk => rs_lconst (v := 0) (pc := 22) dX6_lead_22 rfl kk) ?_
        refine wq (fun _ _ kk => rs_goto (tgt := 29) (pc := 23) dX6_lead_23 rfl kk) ?_
        refine wq (fun _ _ kk => rs_last (pc := 29) dX6_lead_29 (mo_lt hrp (by decide)) (mo_getl (d := 0) (k := 0) (kd := 1) (l := 16) rfl (by decide) hrp) (vp_in_nI (n := i) (N := 16) (by omega) (by decide)) kk) ?_
        refine wq_gen (fun h_4 e_4 => ?_)
        obtain ⟨m_4, s_4, g_4, o_4⟩ := ai_e1 e_4
        replace hrp := mo_al (tab := rp_tab) (d := 0) rp_nd rfl (by decide) (fun _ _ _ => rfl) hrp m_4 g_4 o_4
        replace hmt := mt_keep hmt m_4 (fun j _ _ => o_4 j (by omega))
        have E_4 := (E0).trans (xp_of m_4 s_4 o_4 (by decide))
        refine wq (fun _ _ kk => rs_aload_n (pc := 30) dX6_lead_30 rfl kk) ?_
        refine wq (fun _ _ kk => rs_getf (pc := 31) dX6_lead_31 fX6_15 (mo_lt hrp (by decide)) hrp.2.1 rfl kk) ?_
        refine wq (fun _ _ kk => rs_iload (pc := 34) dX6_lead_34 rfl kk) ?_
        refine wq (fun _ _ kk => rs_iconst (v := -1) (pc := 36) dX6_lead_36 rfl kk) ?_
        refine wq (fun _ _ kk => rs_iast (pc := 37) dX6_lead_37 (mo_lt hrp (by decide)) (mo_geti (d := 1) (k := 1) (kd := 0) (l := 16) rfl (by decide) hrp) (vp_in_nI (n := i) (N := 16) (by omega) (by decide)) kk) ?_
        refine wq_gen (fun h_5 e_5 => ?_)
        obtain ⟨m_5, s_5, g_5, o_5⟩ := ai_e1 e_5
        replace hrp := mo_ai (tab := rp_tab) (d := 1) rp_nd rfl (by decide) (fun _ _ _ => rfl) hrp m_5 g_5 o_5
        replace hmt := mt_keep hmt m_5 (fun j _ _ => o_5 j (by omega))
        have E_5 := (E_4).trans (xp_of m_5 s_5 o_5 (by decide))
        refine wq (fun _ _ kk => rs_aload_n (pc := 38) dX6_lead_38 rfl kk) ?_
        refine wq (fun _ _ kk => rs_getf (pc := 39) dX6_lead_39 fX6_19 (mo_lt hrp (by decide)) hrp.2.1 rfl kk) ?_
        refine wq (fun _ _ kk => rs_iload (pc := 42) dX6_lead_42 rfl kk) ?_
        refine wq (fun _ _ kk => rs_lconst (v := 0) (pc := 44) dX6_lead_44 rfl kk) ?_
        refine wq (fun _ _ kk => rs_last (pc := 45) dX6_lead_45 (mo_lt hrp (by decide)) (mo_getl (d := 2) (k := 2) (kd := 1) (l := 16) rfl (by decide) hrp) (vp_in_nI (n := i) (N := 16) (by omega) (by decide)) kk) ?_
        refine wq_gen (fun h_6 e_6 => ?_)
        obtain ⟨m_6, s_6, g_6, o_6⟩ := ai_e1 e_6
        replace hrp := mo_al (tab := rp_tab) (d := 2) rp_nd rfl (by decide) (fun _ _ _ => rfl) hrp m_6 g_6 o_6
        replace hmt := mt_keep hmt m_6 (fun j _ _ => o_6 j (by omega))
        have E_6 := (E_5).trans (xp_of m_6 s_6 o_6 (by decide))
        refine wq (fun _ _ kk => wk_iinc4 (v := nI (i + 1)) (pc := 46) dX6_lead_46 (by decide) rfl (nI_1 i) kk) ?_
        refine wq (fun _ _ kk => rs_goto (tgt := 3) (pc := 49) dX6_lead_49 rfl kk) ?_
        refine ih (i + 1) _ _ (by omega) (by omega) E_6 hrp hmt (led1_s hl1 (nI_clamp (by omega)) ?_)
        first
        | (rw [show i = gl from nI_inj (by omega) (by omega) c_19]; simp [ro_0, ro_e]; rfl)
        | (simp [ro_0, show ¬ i = gl from fun z => c_19 (by rw [z])]; rfl)
set_option maxRecDepth 100000 in
set_option maxHeartbeats 4000000 in
theorem l2_X6_lead {h : ai_H} {T : Nat → Ty} {n gl : Nat} {Q : Option Value → ai_H → Prop} (hok : mt_ok T) (hn : n ≤ 16) (hgl : gl < n) (kx : ∀ (g : ai_H) (f k : Int32) (S' : Md), xp h g → rp_at g S' → mt_at g T → ro_is (S'.2.2.2 0) (ro_end (ro_T T) n gl) → ro_good (ro_T T) n gl (ro_end (ro_T T) n gl) → led2 S' → ai_W MX6_lead 83 [.ref 294, .ref 35, .int (nI n), .int (nI gl), .int f, .int k] [] g Q) : ∀ (m i : Nat) (f : Int32) (g : ai_H) (S' : Md), i ≤ n → n + 1 ≤ i + m → xp h g → rp_at g S' → mt_at g T → ro_is (S'.2.2.2 0) (ro_it (ro_T T) n (ro_0 gl) i) → ro_good (ro_T T) n gl (ro_it (ro_T T) n (ro_0 gl) i) → led2 S' → (f = 0 → ro_p (ro_T T) n (ro_it (ro_T T) n (ro_0 gl) i, false) n = (ro_it (ro_T T) n (ro_0 gl) i, false)) → ai_W MX6_lead 58 [.ref 294, .ref 35, .int (nI n), .int (nI gl), .int f, .int (nI i)] [] g Q := by
  intro m
  induction m with
  | zero => intro i f g S' h1 h2; exact absurd h2 (by omega)
  | succ m ih =>
    intro i f g S' hi0 him E0 hrp hmt his hgd hl2 hst
    refine wq (fun _ _ kk => rs_iload (pc := 58) dX6_lead_58 rfl kk) ?_
    refine wq (fun _ _ kk => rs_iload_n (pc := 60) dX6_lead_60 rfl kk) ?_
    refine wq_br (fun _ _ kt kf => rs_icmp_ge (tgt := 83) (pc := 61) dX6_lead_61 rfl kt kf) (fun c_61 => ?_) (fun c_61 => ?_)
    · have hie : i = n := lp_exit rfl (by omega) hi0 c_61
      subst hie
      first
      | exact kx g _ (nI i) S' E0 hrp hmt his hgd hl2
      | exact kx g _ (nI i) S' E0 hrp hmt (by rw [← ro_end_of (hst (by assumption)) (by omega)]; exact his) (ro_end_good (ro_32_pos (ro_T_32 T)) hgl) hl2
    · have hi : i < n := lp_go rfl (by omega) c_61
      refine wq (fun _ _ kk => rs_iload (pc := 64) dX6_lead_64 rfl kk) ?_
      refine wq_br (fun _ _ kt kf => rs_if_eq (tgt := 83) (pc := 66) dX6_lead_66 rfl kt kf) (fun c_66 => ?_) (fun c_66 => ?_)
      · first
        | exact kx g _ (nI i) S' E0 hrp hmt his hgd hl2
        | exact kx g _ (nI i) S' E0 hrp hmt (by rw [← ro_end_of (hst (by assumption)) (by omega)]; exact his) (ro_end_good (ro_32_pos (ro_T_32 T)) hgl) hl2
      · refine wq (fun _ _ kk => rs_aload_n (pc := 69) dX6_lead_69 rfl kk) ?_
        refine wq (fun _ _ kk => rs_aload_n (pc := 70) dX6_lead_70 rfl kk) ?_
        refine wq (fun _ _ kk => rs_iload_n (pc := 71) dX6_lead_71 rfl kk) ?_
        obtain ⟨rv_72, hc_72, ⟨rfl, ee_72, hmt_72, S2, hrp_72, hsm, his2, hgd2⟩, hm_72⟩ := c_X6_shorten hok hn hrp hmt his hgd
        refine wq (fun _ _ kk => rs_callV (as := [_, _]) (pc := 72) dX6_lead_72 mk_X6_shorten mlX6_24 in_X6_shorten se_X6_shorten rfl (mo_lt hrp (by decide)) hrp.2.1 rfl rfl (Nat.le_of_ble_eq_true rfl) (hm_72) kk) ?_
        replace hmt := hmt_72
        replace hrp := hrp_72
        refine wq (fun _ _ kk => wk_ist4 (pc := 75) dX6_lead_75 (by decide) rfl kk) ?_
        refine wq (fun _ _ kk => wk_iinc5 (v := nI (i + 1)) (pc := 77) dX6_lead_77 (by decide) rfl (nI_1 i) kk) ?_
        refine wq (fun _ _ kk => rs_goto (tgt := 58) (pc := 80) dX6_lead_80 rfl kk) ?_
        refine ih (i + 1) _ _ _ (by omega) (by omega) (E0.trans ee_72) hrp hmt his2 hgd2 (led2_of hl2 hsm) ?_
        intro hf
        have ht := ro_to_p2 (g := gl) (ro_32_pos (ro_T_32 T)) (ro_it (ro_T T) n (ro_0 gl) i, false) (Nat.zero_le n) (Nat.le_refl n)
        cases ht.2.2 with
        | inl q =>
          have e : ro_it (ro_T T) n (ro_0 gl) (i + 1) = ro_it (ro_T T) n (ro_0 gl) i := by
            show (ro_p (ro_T T) n (ro_it (ro_T T) n (ro_0 gl) i, false) n).1 = _
            rw [q]; rfl
          rw [e]
          exact q
        | inr q => rw [q.1] at hf; exact absurd hf (by decide)
set_option maxRecDepth 100000 in
set_option maxHeartbeats 4000000 in
theorem l3_X6_lead {h : ai_H} {T : Nat → Ty} {n gl : Nat} {f : Int32} {Q : Option Value → ai_H → Prop} (hok : mt_ok T) (hn : n ≤ 16) (hgl : gl < n) (kx : ∀ (g : ai_H) (k : Int32) (S' : Md), xp h g → rp_at g S' → mt_at g T → ro_is (S'.2.2.2 0) (ro_end (ro_T T) n gl) → ro_good (ro_T T) n gl (ro_end (ro_T T) n gl) → (∀ x, x < 16 → S'.2.2.1 1 x = led3 T n gl n x) → (∀ x, x < 16 → S'.2.2.2 2 x = led4 T n gl 0 x) → ai_W MX6_lead 128 [.ref 294, .ref 35, .int (nI n), .int (nI gl), .int f, .int k] [] g Q) : ∀ (m i : Nat) (g : ai_H) (S' : Md), i ≤ n → n + 1 ≤ i + m → xp h g → rp_at g S' → mt_at g T → ro_is (S'.2.2.2 0) (ro_end (ro_T T) n gl) → ro_good (ro_T T) n gl (ro_end (ro_T T) n gl) → (∀ x, x < 16 → S'.2.2.1 1 x = led3 T n gl i x) → (∀ x, x < 16 → S'.2.2.2 2 x = led4 T n gl 0 x) → ai_W MX6_lead 86 [.ref 294, .ref 35, .int (nI n), .int (nI gl), .int f, .int (nI i)] [] g Q := by
  intro m
  induction m with
  | zero => intro i g S' h1 h2; exact absurd h2 (by omega)
  | succ m ih =>
    intro i g S' hi0 him E0 hrp hmt his hgd ho hl
    refine wq (fun _ _ kk => rs_iload (pc := 86) dX6_lead_86 rfl kk) ?_
    refine wq (fun _ _ kk => rs_iload_n (pc := 88) dX6_lead_88 rfl kk) ?_
    refine wq_br (fun _ _ kt kf => rs_icmp_ge (tgt := 128) (pc := 89) dX6_lead_89 rfl kt kf) (fun c_89 => ?_) (fun c_89 => ?_)
    · have hie : i = n := lp_exit rfl (by omega) hi0 c_89
      subst hie
      exact kx g (nI i) S' E0 hrp hmt his hgd ho hl
    · have hi : i < n := lp_go rfl (by omega) c_89
      have hi16 : i < 16 := by omega
      refine wq (fun _ _ kk => rs_iload (pc := 92) dX6_lead_92 rfl kk) ?_
      refine wq (fun _ _ kk => rs_iload_n (pc := 94) dX6_lead_94 rfl kk) ?_
      refine wq_br (fun _ _ kt kf => rs_icmp_eq (tgt := 122) (pc := 95) dX6_lead_95 rfl kt kf) (fun c_95 => ?_) (fun c_95 => ?_)
      · refine wq (fun _ _ kk => wk_iinc5 (v := nI (i + 1)) (pc := 122) dX6_lead_122 (by decide) rfl (nI_1 i) kk) ?_
        refine wq (fun _ _ kk => rs_goto (tgt := 86) (pc := 125) dX6_lead_125 rfl kk) ?_
        exact ih (i + 1) _ _ (by omega) (by omega) E0 hrp hmt his hgd (fun x hx => (ho x hx).trans (led3_no (by
          first
          | exact Or.inl (nI_inj (by omega) (by omega) c_95)
          | exact Or.inr c_104) x).symm) hl
      · refine wq (fun _ _ kk => rs_aload_n (pc := 98) dX6_lead_98 rfl kk) ?_
        refine wq (fun _ _ kk => rs_iload (pc := 99) dX6_lead_99 rfl kk) ?_
        refine wq (fun _ _ kk => rs_callV (as := [_]) (pc := 101) dX6_lead_101 mk_X6_reach mlX6_28 in_X6_reach se_X6_reach rfl (mo_lt hrp (by decide)) hrp.2.1 rfl rfl (Nat.le_of_ble_eq_true rfl) (c_X6_reach hrp hi16) kk) ?_
        refine wq_br (fun _ _ kt kf => rs_if_eq (tgt := 122) (pc := 104) dX6_lead_104 rfl kt kf) (fun c_104 => ?_) (fun c_104 => ?_)
        · rw [rp_re_0, his i hi16, ro_e_m1 (fun v hv => by have := ro_good_b hok hn hgd hv; omega)] at c_104
          refine wq (fun _ _ kk => wk_iinc5 (v := nI (i + 1)) (pc := 122) dX6_lead_122 (by decide) rfl (nI_1 i) kk) ?_
          refine wq (fun _ _ kk => rs_goto (tgt := 86) (pc := 125) dX6_lead_125 rfl kk) ?_
          exact ih (i + 1) _ _ (by omega) (by omega) E0 hrp hmt his hgd (fun x hx => (ho x hx).trans (led3_no (by
            first
            | exact Or.inl (nI_inj (by omega) (by omega) c_95)
            | exact Or.inr c_104) x).symm) hl
        · rw [rp_re_0, his i hi16, ro_e_m1 (fun v hv => by have := ro_good_b hok hn hgd hv; omega)] at c_104
          obtain ⟨v, hv⟩ := Option.ne_none_iff_exists'.mp c_104
          have hne : i ≠ gl := fun z => c_95 (by rw [z])
          obtain ⟨x1, x2, x3⟩ := ro_nx_is (ro_32_pos (ro_T_32 T)) hgl hv hne
          refine wq (fun _ _ kk => rs_aload_n (pc := 107) dX6_lead_107 rfl kk) ?_
          refine wq (fun _ _ kk => rs_getf (pc := 108) dX6_lead_108 fX6_15 (mo_lt hrp (by decide)) hrp.2.1 rfl kk) ?_
          refine wq (fun _ _ kk => rs_iload (pc := 111) dX6_lead_111 rfl kk) ?_
          refine wq (fun _ _ kk => rs_aload_n (pc := 113) dX6_lead_113 rfl kk) ?_
          refine wq (fun _ _ kk => rs_aload_n (pc := 114) dX6_lead_114 rfl kk) ?_
          refine wq (fun _ _ kk => rs_iload_n (pc := 115) dX6_lead_115 rfl kk) ?_
          refine wq (fun _ _ kk => rs_iload (pc := 116) dX6_lead_116 rfl kk) ?_
          refine wq (fun _ _ kk => rs_callV (as := [_, _, _]) (pc := 118) dX6_lead_118 mk_X6_firstOnward mlX6_32 in_X6_firstOnward se_X6_firstOnward rfl (mo_lt hrp (by decide)) hrp.2.1 rfl rfl (Nat.le_of_ble_eq_true rfl) (c_X6_firstOnward hrp hmt hi16 hn) kk) ?_
          rw [rp_on_is hok hn hgd his hi16 x1 (x2.trans hv.symm) (fun k hk q => x3 k hk (q.trans hv)) (n + 1) 0 (Nat.zero_le _) (by omega)]
          refine wq (fun _ _ kk => rs_iast (pc := 121) dX6_lead_121 (mo_lt hrp (by decide)) (mo_geti (d := 1) (k := 1) (kd := 0) (l := 16) rfl (by decide) hrp) (vp_in_nI (n := i) (N := 16) (by omega) (by decide)) kk) ?_
          refine wq_gen (fun h_1 e_1 => ?_)
          obtain ⟨m_1, s_1, g_1, o_1⟩ := ai_e1 e_1
          replace hrp := mo_ai (tab := rp_tab) (d := 1) rp_nd rfl (by decide) (fun _ _ _ => rfl) hrp m_1 g_1 o_1
          replace hmt := mt_keep hmt m_1 (fun j _ _ => o_1 j (by omega))
          have E_1 := (E0).trans (xp_of m_1 s_1 o_1 (by decide))
          refine wq (fun _ _ kk => wk_iinc5 (v := nI (i + 1)) (pc := 122) dX6_lead_122 (by decide) rfl (nI_1 i) kk) ?_
          refine wq (fun _ _ kk => rs_goto (tgt := 86) (pc := 125) dX6_lead_125 rfl kk) ?_
          exact ih (i + 1) _ _ (by omega) (by omega) (E_1) hrp hmt his hgd (led3_yes (nI_clamp (by omega)) hne hv ho) hl
theorem c_sumAlong_at {h : ai_H} {S : Md} (hrp : rp_at h S) {T : Nat → Ty} (hmt : mt_at h T) {n gl i : Nat} (hok : mt_ok T) (hn : n ≤ 16) (hgl : gl < n) (his : ro_is (S.2.2.2 0) (ro_end (ro_T T) n gl)) (hgd : ro_good (ro_T T) n gl (ro_end (ro_T T) n gl)) (ho : ∀ x, x < 16 → S.2.2.1 1 x = led3 T n gl n x) (hi : i < 16) : ai_Met MX6_sumAlong [.ref 294, .ref 35, .int (nI i)] h (some (.long (ro_ln T n gl i))) h := by
  unfold ro_ln
  cases hd : ro_end (ro_T T) n gl i with
  | none =>
    refine c_X6_sumAlong (p := fun _ => i) (L := 0) hrp hmt (by decide) hi ?_ (fun j hj => absurd hj (Nat.not_lt_zero j))
    unfold rp_li
    rw [his i hi, hd]
    rfl
  | some v =>
    have hv := ro_good_b hok hn hgd hd
    refine c_X6_sumAlong (p := ro_pt (ro_T T) n gl i) (L := v % 32) hrp hmt (by omega) hi ?_ (ro_pt_lead hn hgl hd ho)
    exact rp_li_is (by show _ = _; rw [show ro_pt (ro_T T) n gl i 0 = i from rfl, his i hi, hd]; rfl) (by omega)
set_option maxRecDepth 100000 in
set_option maxHeartbeats 4000000 in
theorem l4_X6_lead {h : ai_H} {T : Nat → Ty} {n gl : Nat} {f : Int32} (hok : mt_ok T) (hn : n ≤ 16) (hgl : gl < n) : ∀ (m i : Nat) (g : ai_H) (S' : Md), i ≤ n → n + 1 ≤ i + m → xp h g → rp_at g S' → mt_at g T → ro_is (S'.2.2.2 0) (ro_end (ro_T T) n gl) → ro_good (ro_T T) n gl (ro_end (ro_T T) n gl) → (∀ x, x < 16 → S'.2.2.1 1 x = led3 T n gl n x) → (∀ x, x < 16 → S'.2.2.2 2 x = led4 T n gl i x) → ai_W MX6_lead 131 [.ref 294, .ref 35, .int (nI n), .int (nI gl), .int f, .int (nI i)] [] g (fun r g => r = none ∧ xp h g ∧ mt_at g T ∧ ∃ S', rp_at g S' ∧ rp_led T n gl S') := by
  intro m
  induction m with
  | zero => intro i g S' h1 h2; exact absurd h2 (by omega)
  | succ m ih =>
    intro i g S' hi0 him E0 hrp hmt his hgd ho hl
    refine wq (fun _ _ kk => rs_iload (pc := 131) dX6_lead_131 rfl kk) ?_
    refine wq (fun _ _ kk => rs_iload_n (pc := 133) dX6_lead_133 rfl kk) ?_
    refine wq_br (fun _ _ kt kf => rs_icmp_ge (tgt := 157) (pc := 134) dX6_lead_134 rfl kt kf) (fun c_134 => ?_) (fun c_134 => ?_)
    · have hie : i = n := lp_exit rfl (by omega) hi0 c_134
      subst hie
      refine wq_ret ?_ (rs_vret (pc := 157) dX6_lead_157 rfl)
      exact ⟨rfl, E0, hmt, S', hrp, fun x hx => ⟨his x hx, ho x hx, hl x hx⟩⟩
    · have hi : i < n := lp_go rfl (by omega) c_134
      have hi16 : i < 16 := by omega
      refine wq (fun _ _ kk => rs_aload_n (pc := 137) dX6_lead_137 rfl kk) ?_
      refine wq (fun _ _ kk => rs_getf (pc := 138) dX6_lead_138 fX6_19 (mo_lt hrp (by decide)) hrp.2.1 rfl kk) ?_
      refine wq (fun _ _ kk => rs_iload (pc := 141) dX6_lead_141 rfl kk) ?_
      refine wq (fun _ _ kk => rs_aload_n (pc := 143) dX6_lead_143 rfl kk) ?_
      refine wq (fun _ _ kk => rs_aload_n (pc := 144) dX6_lead_144 rfl kk) ?_
      refine wq (fun _ _ kk => rs_iload (pc := 145) dX6_lead_145 rfl kk) ?_
      refine wq (fun _ _ kk => rs_callV (as := [_, _]) (pc := 147) dX6_lead_147 mk_X6_sumAlong mlX6_36 in_X6_sumAlong se_X6_sumAlong rfl (mo_lt hrp (by decide)) hrp.2.1 rfl rfl (Nat.le_of_ble_eq_true rfl) (c_sumAlong_at hrp hmt hok hn hgl his hgd ho hi16) kk) ?_
      refine wq (fun _ _ kk => rs_last (pc := 150) dX6_lead_150 (mo_lt hrp (by decide)) (mo_getl (d := 2) (k := 2) (kd := 1) (l := 16) rfl (by decide) hrp) (vp_in_nI (n := i) (N := 16) (by omega) (by decide)) kk) ?_
      refine wq_gen (fun h_1 e_1 => ?_)
      obtain ⟨m_1, s_1, g_1, o_1⟩ := ai_e1 e_1
      replace hrp := mo_al (tab := rp_tab) (d := 2) rp_nd rfl (by decide) (fun _ _ _ => rfl) hrp m_1 g_1 o_1
      replace hmt := mt_keep hmt m_1 (fun j _ _ => o_1 j (by omega))
      have E_1 := (E0).trans (xp_of m_1 s_1 o_1 (by decide))
      refine wq (fun _ _ kk => wk_iinc5 (v := nI (i + 1)) (pc := 151) dX6_lead_151 (by decide) rfl (nI_1 i) kk) ?_
      refine wq (fun _ _ kk => rs_goto (tgt := 131) (pc := 154) dX6_lead_154 rfl kk) ?_
      exact ih (i + 1) _ _ (by omega) (by omega) (E_1) hrp hmt his hgd ho (led4_s (nI_clamp (by omega)) rfl hl)
set_option maxRecDepth 100000 in
set_option maxHeartbeats 4000000 in
theorem c_X6_lead {h : ai_H} {S : Md} {T : Nat → Ty} {n gl : Nat} (hok : mt_ok T) (hn : n ≤ 16) (hgl : gl < n) (hrp : rp_at h S) (hmt : mt_at h T) : ai_QM MX6_lead [.ref 294, .ref 35, .int (nI n), .int (nI gl)] h (fun r g => r = none ∧ xp h g ∧ mt_at g T ∧ ∃ S', rp_at g S' ∧ rp_led T n gl S') := by
  refine qm_of (ls := [.ref 294, .ref 35, .int (nI n), .int (nI gl), .float 0, .float 0]) (by decide) (by simp [ai_en, Value.category]) (by rfl) ?_
  refine wq (fun _ _ kk => rs_iconst (v := 0) (pc := 0) dX6_lead_0 rfl kk) ?_
  refine wq (fun _ _ kk => wk_ist4 (pc := 1) dX6_lead_1 (by decide) rfl kk) ?_
  refine l1_X6_lead (h := h) (T := T) (by omega) ?_ 17 0 _ _ (by omega) (by omega) xp.rf hrp hmt (fun x hx => absurd hx (Nat.not_lt_zero x))
  intro g S' E0 hrp hmt hl1
  refine wq (fun _ _ kk => rs_iconst (v := 1) (pc := 52) dX6_lead_52 rfl kk) ?_
  refine wq (fun _ _ kk => wk_ist4 (pc := 53) dX6_lead_53 (by decide) rfl kk) ?_
  refine wq (fun _ _ kk => rs_iconst (v := 0) (pc := 55) dX6_lead_55 rfl kk) ?_
  refine wq (fun _ _ kk => wk_ist5 (pc := 56) dX6_lead_56 (by decide) rfl kk) ?_
  refine l2_X6_lead (h := h) hok hn hgl ?_ (n + 1) 0 1 _ _ (by omega) (by omega) E0 hrp hmt (fun x hx => (hl1 x hx).1) (ro_good_0 hgl) (fun x hx => (hl1 x hx).2) (fun z => absurd z (by decide))
  clear hl1 hrp hmt E0
  intro g f k S' E0 hrp hmt his hgd hl2
  refine wq (fun _ _ kk => rs_iconst (v := 0) (pc := 83) dX6_lead_83 rfl kk) ?_
  refine wq (fun _ _ kk => wk_ist5 (pc := 84) dX6_lead_84 (by decide) rfl kk) ?_
  refine l3_X6_lead (h := h) hok hn hgl ?_ (n + 1) 0 _ _ (by omega) (by omega) E0 hrp hmt his hgd (fun x hx => by rw [(hl2 x hx).1]; unfold led3; rw [if_neg (fun z => Nat.not_lt_zero x z.1)]) (fun x hx => by rw [(hl2 x hx).2]; unfold led4; rw [if_neg (Nat.not_lt_zero x)])
  clear hl2 hrp hmt E0 his hgd
  intro g k S' E0 hrp hmt his hgd ho hl
  refine wq (fun _ _ kk => rs_iconst (v := 0) (pc := 128) dX6_lead_128 rfl kk) ?_
  refine wq (fun _ _ kk => wk_ist5 (pc := 129) dX6_lead_129 (by decide) rfl kk) ?_
  exact l4_X6_lead (h := h) hok hn hgl (n + 1) 0 _ _ (by omega) (by omega) E0 hrp hmt his hgd ho hl
