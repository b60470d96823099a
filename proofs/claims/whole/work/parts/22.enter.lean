/-! 22: Cells.find, open, enter (walks laid by wip/whole/p22.py) -/
/-- the last place below n that p holds of; -1: none -/
def lastc (p : Nat → Bool) : Nat → Int32
  | 0 => -1
  | n + 1 => if p n then nI n else lastc p n
theorem lastc_cases (p : Nat → Bool) : ∀ t : Nat, (lastc p t = -1 ∧ ∀ c, c < t → p c = false) ∨ ∃ t', t' < t ∧ lastc p t = nI t' ∧ p t' = true ∧ ∀ c, t' < c → c < t → p c = false
  | 0 => Or.inl ⟨rfl, fun c h => absurd h (Nat.not_lt_zero c)⟩
  | t + 1 => by
    by_cases h : p t = true
    · exact Or.inr ⟨t, Nat.lt_succ_self t, by rw [lastc, if_pos h], h, fun c h1 h2 => by omega⟩
    · have hf : p t = false := by simpa using h
      rcases lastc_cases p t with ⟨e, hn⟩ | ⟨t', h1, e, h2, h3⟩
      · refine Or.inl ⟨by rw [lastc, if_neg h]; exact e, fun c hc => ?_⟩
        by_cases z : c = t
        · rw [z]; exact hf
        · exact hn c (by omega)
      · refine Or.inr ⟨t', by omega, by rw [lastc, if_neg h]; exact e, h2, fun c a b => ?_⟩
        by_cases z : c = t
        · rw [z]; exact hf
        · exact h3 c a (by omega)
theorem lastc_skip {p : Nat → Bool} {t : Nat} : ∀ {s : Nat}, t ≤ s → (∀ c, t ≤ c → c < s → p c = false) → lastc p s = lastc p t
  | 0, h, _ => by rw [show t = 0 by omega]
  | s + 1, h, hn => by
    by_cases z : t = s + 1
    · rw [z]
    · rw [lastc, if_neg (by rw [hn s (by omega) (by omega)]; decide)]
      exact lastc_skip (by omega) (fun c a b => hn c a (by omega))
theorem lastc_none {p : Nat → Bool} {t : Nat} (h : ∀ c, c < t → p c = false) : lastc p t = -1 := lastc_skip (t := 0) (Nat.zero_le t) (fun c _ b => h c b)
theorem lastc_cong {p q : Nat → Bool} : ∀ {t : Nat}, (∀ c, c < t → p c = q c) → lastc p t = lastc q t
  | 0, _ => rfl
  | t + 1, h => by rw [lastc, lastc, h t (Nat.lt_succ_self t), lastc_cong (fun c hc => h c (by omega))]
theorem lastc_at {p : Nat → Bool} {t t' : Nat} (h1 : t' < t) (h2 : p t' = true) (h3 : ∀ c, t' < c → c < t → p c = false) : lastc p t = nI t' := by
  rw [lastc_skip (t := t' + 1) (by omega) (fun c a b => h3 c (by omega) b), lastc, if_pos h2]
/-- the chains of the nights -/
def cl_ch (S : Md) (z : Nat) : Prop := S.1 0 = nI z ∧ z ≤ 400 ∧ (∀ n, n < 80 → S.2.2.1 1 n = lastc (fun c => decide (S.2.2.1 3 c = nI n)) z) ∧ ∀ c, c < z → S.2.2.1 2 c = lastc (fun d => decide (S.2.2.1 3 d = S.2.2.1 3 c)) c
def cl_key (S : Md) (n s w : Int32) (c : Nat) : Bool := decide (S.2.2.1 3 c = n ∧ S.2.2.1 4 c = s ∧ S.2.2.1 5 c = w)
theorem nI_m1 {n : Nat} (h : n < 2 ^ 31) : ¬ nI n = -1 := fun z => by
  have := congrArg Int32.toInt z
  rw [nI_toInt h] at this
  have e : (-1 : Int32).toInt = -1 := rfl
  omega
theorem bi_in_nI {c z : Nat} (h : c < z) (hz : z < 2 ^ 31) : bi_in (nI c) 0 (nI z - 1) = 1 := by
  have e : nI z - 1 = nI (z - 1) := by
    obtain ⟨y, rfl⟩ : ∃ y, z = y + 1 := ⟨z - 1, by omega⟩
    exact nI_pred y
  unfold bi_in
  rw [if_neg (nI_pos (by omega)), e, if_neg (nI_nlt (by omega) (by omega))]
theorem bi_in_m1 {z : Int32} : bi_in (-1) 0 z = 0 := by
  unfold bi_in
  rw [if_pos (by decide)]
theorem dX2_find_0 : decode cX2_find 0 = .ok (.iload_n 1, 1) := by decide +kernel
theorem dX2_find_1 : decode cX2_find 1 = .ok (.iconst 0, 1) := by decide +kernel
theorem dX2_find_2 : decode cX2_find 2 = .ok (.bipush 79, 2) := by decide +kernel
theorem dX2_find_4 : decode cX2_find 4 = .ok (.invokestatic 80, 3) := by decide +kernel
theorem dX2_find_7 : decode cX2_find 7 = .ok (.ifCond .eq 12, 3) := by decide +kernel
theorem dX2_find_10 : decode cX2_find 10 = .ok (.aload_n 0, 1) := by decide +kernel
theorem dX2_find_11 : decode cX2_find 11 = .ok (.getfield 15, 3) := by decide +kernel
theorem dX2_find_14 : decode cX2_find 14 = .ok (.iload_n 1, 1) := by decide +kernel
theorem dX2_find_15 : decode cX2_find 15 = .ok (.iaload, 1) := by decide +kernel
theorem dX2_find_16 : decode cX2_find 16 = .ok (.goto 4, 3) := by decide +kernel
theorem dX2_find_19 : decode cX2_find 19 = .ok (.iconst (-1), 1) := by decide +kernel
theorem dX2_find_20 : decode cX2_find 20 = .ok (.istore 4, 2) := by decide +kernel
theorem dX2_find_22 : decode cX2_find 22 = .ok (.iconst 0, 1) := by decide +kernel
theorem dX2_find_23 : decode cX2_find 23 = .ok (.istore 5, 2) := by decide +kernel
theorem dX2_find_25 : decode cX2_find 25 = .ok (.iload 5, 2) := by decide +kernel
theorem dX2_find_27 : decode cX2_find 27 = .ok (.aload_n 0, 1) := by decide +kernel
theorem dX2_find_28 : decode cX2_find 28 = .ok (.getfield 9, 3) := by decide +kernel
theorem dX2_find_31 : decode cX2_find 31 = .ok (.if_icmp .ge 58, 3) := by decide +kernel
theorem dX2_find_34 : decode cX2_find 34 = .ok (.iload 4, 2) := by decide +kernel
theorem dX2_find_36 : decode cX2_find 36 = .ok (.iconst 0, 1) := by decide +kernel
theorem dX2_find_37 : decode cX2_find 37 = .ok (.aload_n 0, 1) := by decide +kernel
theorem dX2_find_38 : decode cX2_find 38 = .ok (.getfield 9, 3) := by decide +kernel
theorem dX2_find_41 : decode cX2_find 41 = .ok (.iconst 1, 1) := by decide +kernel
theorem dX2_find_42 : decode cX2_find 42 = .ok (.isub, 1) := by decide +kernel
theorem dX2_find_43 : decode cX2_find 43 = .ok (.invokestatic 80, 3) := by decide +kernel
theorem dX2_find_46 : decode cX2_find 46 = .ok (.ifCond .eq 43, 3) := by decide +kernel
theorem dX2_find_49 : decode cX2_find 49 = .ok (.aload_n 0, 1) := by decide +kernel
theorem dX2_find_50 : decode cX2_find 50 = .ok (.getfield 25, 3) := by decide +kernel
theorem dX2_find_53 : decode cX2_find 53 = .ok (.iload 4, 2) := by decide +kernel
theorem dX2_find_55 : decode cX2_find 55 = .ok (.iaload, 1) := by decide +kernel
theorem dX2_find_56 : decode cX2_find 56 = .ok (.iload_n 2, 1) := by decide +kernel
theorem dX2_find_57 : decode cX2_find 57 = .ok (.if_icmp .ne 17, 3) := by decide +kernel
theorem dX2_find_60 : decode cX2_find 60 = .ok (.aload_n 0, 1) := by decide +kernel
theorem dX2_find_61 : decode cX2_find 61 = .ok (.getfield 28, 3) := by decide +kernel
theorem dX2_find_64 : decode cX2_find 64 = .ok (.iload 4, 2) := by decide +kernel
theorem dX2_find_66 : decode cX2_find 66 = .ok (.iaload, 1) := by decide +kernel
theorem dX2_find_67 : decode cX2_find 67 = .ok (.iload_n 3, 1) := by decide +kernel
theorem dX2_find_68 : decode cX2_find 68 = .ok (.if_icmp .ne 6, 3) := by decide +kernel
theorem dX2_find_71 : decode cX2_find 71 = .ok (.iload 4, 2) := by decide +kernel
theorem dX2_find_73 : decode cX2_find 73 = .ok (.ireturn, 1) := by decide +kernel
theorem dX2_find_74 : decode cX2_find 74 = .ok (.aload_n 0, 1) := by decide +kernel
theorem dX2_find_75 : decode cX2_find 75 = .ok (.getfield 19, 3) := by decide +kernel
theorem dX2_find_78 : decode cX2_find 78 = .ok (.iload 4, 2) := by decide +kernel
theorem dX2_find_80 : decode cX2_find 80 = .ok (.iaload, 1) := by decide +kernel
theorem dX2_find_81 : decode cX2_find 81 = .ok (.istore 4, 2) := by decide +kernel
theorem dX2_find_83 : decode cX2_find 83 = .ok (.iinc 5 1, 3) := by decide +kernel
theorem dX2_find_86 : decode cX2_find 86 = .ok (.goto (-61), 3) := by decide +kernel
theorem dX2_find_89 : decode cX2_find 89 = .ok (.iconst (-1), 1) := by decide +kernel
theorem dX2_find_90 : decode cX2_find 90 = .ok (.ireturn, 1) := by decide +kernel
set_option maxRecDepth 100000 in
set_option maxHeartbeats 4000000 in
theorem l_X2_find {h : ai_H} {S : Md} (hcl : cl_at h S) {z0 nn : Nat} (hch : cl_ch S z0) (hnn : nn < 80) (s w : Int32) : ∀ (m i t : Nat), t + 1 ≤ m → i + t ≤ z0 → lastc (cl_key S (nI nn) s w) z0 = lastc (cl_key S (nI nn) s w) t → ai_R MX2_find 25 [.ref 22, .int (nI nn), .int s, .int w, .int (lastc (fun c => decide (S.2.2.1 3 c = nI nn)) t), .int (nI i)] [] h (some (.int (lastc (cl_key S (nI nn) s w) z0))) h := by
  have ez := hch.1
  have hz4 := hch.2.1
  intro m
  induction m with
  | zero => intro i t h1; exact absurd h1 (by omega)
  | succ m ih =>
    intro i t htm hit hk
    rcases lastc_cases (fun c => decide (S.2.2.1 3 c = nI nn)) t with ⟨e0, hno⟩ | ⟨c, hct, e0, hpc, hno⟩
    · rw [e0]
      have hkn : ∀ c, c < t → cl_key S (nI nn) s w c = false := fun c hc => by
        have := hno c hc
        simp only [decide_eq_false_iff_not] at this
        simp [cl_key, this]
      refine rs_iload (pc := 25) dX2_find_25 rfl ?_
      refine rs_aload_n (pc := 27) dX2_find_27 rfl ?_
      refine rs_getf (pc := 28) dX2_find_28 fX2_9 (mo_lt hcl (by decide)) hcl.2.1 rfl ?_
      refine rs_icmp_ge (tgt := 89) (pc := 31) dX2_find_31 rfl (fun c_31 => ?_) (fun c_31 => ?_)
      · refine rs_iconst (v := -1) (pc := 89) dX2_find_89 rfl ?_
        exact wk_iret (pc := 90) dX2_find_90 rfl (by rw [hk, lastc_none (fun c hc => hkn c hc)]) (rfl)
      · refine rs_iload (pc := 34) dX2_find_34 rfl ?_
        refine rs_iconst (v := 0) (pc := 36) dX2_find_36 rfl ?_
        refine rs_aload_n (pc := 37) dX2_find_37 rfl ?_
        refine rs_getf (pc := 38) dX2_find_38 fX2_9 (mo_lt hcl (by decide)) hcl.2.1 rfl ?_
        refine rs_iconst (v := 1) (pc := 41) dX2_find_41 rfl ?_
        refine rs_isub (pc := 42) dX2_find_42 ?_
        refine rs_callS (as := [_, _, _]) (pc := 43) dX2_find_43 mk_X11_isWithin mlX2_80 st_X11_isWithin rfl rfl (Nat.le_of_ble_eq_true rfl) (c_X11_isWithin) ?_
        refine rs_if_eq (tgt := 89) (pc := 46) dX2_find_46 rfl (fun c_46 => ?_) (fun c_46 => absurd c_46 (fun z => z bi_in_m1))
        refine rs_iconst (v := -1) (pc := 89) dX2_find_89 rfl ?_
        exact wk_iret (pc := 90) dX2_find_90 rfl (by rw [hk, lastc_none (fun c hc => hkn c hc)]) (rfl)
    · rw [e0]
      simp only [decide_eq_true_eq] at hpc
      have hkn : ∀ d, decide (S.2.2.1 3 d = nI nn) = false → cl_key S (nI nn) s w d = false := fun d hd => by
        simp only [decide_eq_false_iff_not] at hd
        simp [cl_key, hd]
      refine rs_iload (pc := 25) dX2_find_25 rfl ?_
      refine rs_aload_n (pc := 27) dX2_find_27 rfl ?_
      refine rs_getf (pc := 28) dX2_find_28 fX2_9 (mo_lt hcl (by decide)) hcl.2.1 rfl ?_
      refine rs_icmp_ge (tgt := 89) (pc := 31) dX2_find_31 rfl (fun c_31 => absurd c_31 (fun z => by have := lp_exit (i := i) (sz := z0) ez (by omega) (by omega) z; omega)) (fun c_31 => ?_)
      refine rs_iload (pc := 34) dX2_find_34 rfl ?_
      refine rs_iconst (v := 0) (pc := 36) dX2_find_36 rfl ?_
      refine rs_aload_n (pc := 37) dX2_find_37 rfl ?_
      refine rs_getf (pc := 38) dX2_find_38 fX2_9 (mo_lt hcl (by decide)) hcl.2.1 rfl ?_
      refine rs_iconst (v := 1) (pc := 41) dX2_find_41 rfl ?_
      refine rs_isub (pc := 42) dX2_find_42 ?_
      refine rs_callS (as := [_, _, _]) (pc := 43) dX2_find_43 mk_X11_isWithin mlX2_80 st_X11_isWithin rfl rfl (Nat.le_of_ble_eq_true rfl) (c_X11_isWithin) ?_
      refine rs_if_eq (tgt := 89) (pc := 46) dX2_find_46 rfl (fun c_46 => absurd c_46 (by rw [ez, bi_in_nI (by omega) (by omega)]; decide)) (fun c_46 => ?_)
      refine rs_aload_n (pc := 49) dX2_find_49 rfl ?_
      refine rs_getf (pc := 50) dX2_find_50 fX2_25 (mo_lt hcl (by decide)) hcl.2.1 rfl ?_
      refine rs_iload (pc := 53) dX2_find_53 rfl ?_
      refine rs_iald (pc := 55) dX2_find_55 (mo_lt hcl (by decide)) (mo_geti (d := 3) (k := 4) (kd := 0) (l := 400) rfl (by decide) hcl) (vp_in_nI (n := c) (N := 400) (by omega) (by decide)) ?_
      rw [nI_clamp (show c < 2 ^ 31 by omega)]
      refine rs_iload_n (pc := 56) dX2_find_56 rfl ?_
      refine rs_icmp_ne (tgt := 74) (pc := 57) dX2_find_57 rfl (fun c_57 => ?_) (fun c_57 => ?_)
      · refine rs_aload_n (pc := 74) dX2_find_74 rfl ?_
        refine rs_getf (pc := 75) dX2_find_75 fX2_19 (mo_lt hcl (by decide)) hcl.2.1 rfl ?_
        refine rs_iload (pc := 78) dX2_find_78 rfl ?_
        refine rs_iald (pc := 80) dX2_find_80 (mo_lt hcl (by decide)) (mo_geti (d := 1) (k := 2) (kd := 0) (l := 400) rfl (by decide) hcl) (vp_in_nI (n := c) (N := 400) (by omega) (by decide)) ?_
        rw [nI_clamp (show c < 2 ^ 31 by omega), hch.2.2.2 c (by omega), show (fun d => decide (S.2.2.1 3 d = S.2.2.1 3 c)) = (fun d => decide (S.2.2.1 3 d = nI nn)) from by funext d; rw [hpc]]
        refine wk_ist4 (pc := 81) dX2_find_81 (by decide) rfl ?_
        refine wk_iinc5 (v := nI (i + 1)) (pc := 83) dX2_find_83 (by decide) rfl (nI_1 i) ?_
        refine rs_goto (tgt := 25) (pc := 86) dX2_find_86 rfl ?_
        exact ih (i + 1) c (by omega) (by omega) (by rw [hk]; exact lastc_skip (by omega) (fun d a b => by
          by_cases zz : d = c
          · subst zz; simp [cl_key, c_57]
          · exact hkn d (hno d (by omega) b)))
      · refine rs_aload_n (pc := 60) dX2_find_60 rfl ?_
        refine rs_getf (pc := 61) dX2_find_61 fX2_28 (mo_lt hcl (by decide)) hcl.2.1 rfl ?_
        refine rs_iload (pc := 64) dX2_find_64 rfl ?_
        refine rs_iald (pc := 66) dX2_find_66 (mo_lt hcl (by decide)) (mo_geti (d := 4) (k := 5) (kd := 0) (l := 400) rfl (by decide) hcl) (vp_in_nI (n := c) (N := 400) (by omega) (by decide)) ?_
        rw [nI_clamp (show c < 2 ^ 31 by omega)]
        refine rs_iload_n (pc := 67) dX2_find_67 rfl ?_
        refine rs_icmp_ne (tgt := 74) (pc := 68) dX2_find_68 rfl (fun c_68 => ?_) (fun c_68 => ?_)
        · refine rs_aload_n (pc := 74) dX2_find_74 rfl ?_
          refine rs_getf (pc := 75) dX2_find_75 fX2_19 (mo_lt hcl (by decide)) hcl.2.1 rfl ?_
          refine rs_iload (pc := 78) dX2_find_78 rfl ?_
          refine rs_iald (pc := 80) dX2_find_80 (mo_lt hcl (by decide)) (mo_geti (d := 1) (k := 2) (kd := 0) (l := 400) rfl (by decide) hcl) (vp_in_nI (n := c) (N := 400) (by omega) (by decide)) ?_
          rw [nI_clamp (show c < 2 ^ 31 by omega), hch.2.2.2 c (by omega), show (fun d => decide (S.2.2.1 3 d = S.2.2.1 3 c)) = (fun d => decide (S.2.2.1 3 d = nI nn)) from by funext d; rw [hpc]]
          refine wk_ist4 (pc := 81) dX2_find_81 (by decide) rfl ?_
          refine wk_iinc5 (v := nI (i + 1)) (pc := 83) dX2_find_83 (by decide) rfl (nI_1 i) ?_
          refine rs_goto (tgt := 25) (pc := 86) dX2_find_86 rfl ?_
          exact ih (i + 1) c (by omega) (by omega) (by rw [hk]; exact lastc_skip (by omega) (fun d a b => by
            by_cases zz : d = c
            · subst zz; simp [cl_key, c_57, c_68]
            · exact hkn d (hno d (by omega) b)))
        · refine rs_iload (pc := 71) dX2_find_71 rfl ?_
          exact wk_iret (pc := 73) dX2_find_73 rfl (by rw [hk, lastc_at hct (by simp [cl_key, hpc, c_57, c_68]) (fun d a b => hkn d (hno d a b))]) (rfl)
set_option maxRecDepth 100000 in
set_option maxHeartbeats 4000000 in
theorem c_X2_find {h : ai_H} {S : Md} (hcl : cl_at h S) {z0 nn : Nat} (hch : cl_ch S z0) (hnn : nn < 80) (s w : Int32) : ai_Met MX2_find [.ref 22, .int (nI nn), .int s, .int w] h (some (.int (lastc (cl_key S (nI nn) s w) z0))) h := by
  refine ai_met (ls := [.ref 22, .int (nI nn), .int s, .int w, .float 0, .float 0]) (by decide) (by simp [ai_en, Value.category]) (by rfl) ?_
  refine rs_iload_n (pc := 0) dX2_find_0 rfl ?_
  refine rs_iconst (v := 0) (pc := 1) dX2_find_1 rfl ?_
  refine rs_bipush (v := 79) (pc := 2) dX2_find_2 rfl ?_
  refine rs_callS (as := [_, _, _]) (pc := 4) dX2_find_4 mk_X11_isWithin mlX2_80 st_X11_isWithin rfl rfl (Nat.le_of_ble_eq_true rfl) (c_X11_isWithin) ?_
  refine rs_if_eq (tgt := 19) (pc := 7) dX2_find_7 rfl (fun c_7 => absurd c_7 (by rw [show bi_in (nI nn) 0 79 = 1 from bi_in_nI (z := 80) hnn (by decide)]; decide)) (fun c_7 => ?_)
  refine rs_aload_n (pc := 10) dX2_find_10 rfl ?_
  refine rs_getf (pc := 11) dX2_find_11 fX2_15 (mo_lt hcl (by decide)) hcl.2.1 rfl ?_
  refine rs_iload_n (pc := 14) dX2_find_14 rfl ?_
  refine rs_iald (pc := 15) dX2_find_15 (mo_lt hcl (by decide)) (mo_geti (d := 0) (k := 1) (kd := 0) (l := 80) rfl (by decide) hcl) (vp_in_nI hnn (by decide)) ?_
  rw [nI_clamp (show nn < 2 ^ 31 by omega), hch.2.2.1 nn hnn]
  refine rs_goto (tgt := 20) (pc := 16) dX2_find_16 rfl ?_
  refine wk_ist4 (pc := 20) dX2_find_20 (by decide) rfl ?_
  refine rs_iconst (v := 0) (pc := 22) dX2_find_22 rfl ?_
  refine wk_ist5 (pc := 23) dX2_find_23 (by decide) rfl ?_
  exact l_X2_find hcl hch hnn s w (z0 + 1) 0 z0 (by omega) (by omega) rfl
def zr {α : Type} (a : α) (f : Nat → α) (lo k : Nat) : Nat → α := fun j => if lo ≤ j ∧ j < lo + k then a else f j
theorem zr_0 {α : Type} (a : α) (f : Nat → α) (lo : Nat) : zr a f lo 0 = f := by
  funext j; unfold zr; rw [if_neg (by omega)]
theorem zr_s (f : Nat → Int32) (lo k : Nat) : upd (zr 0 f lo k) (lo + k) 0 = zr 0 f lo (k + 1) := by
  funext j
  unfold zr
  by_cases hj : j = lo + k
  · subst hj; rw [pk_us, if_pos (by omega)]
  · rw [pk_un hj]
    by_cases h : lo ≤ j ∧ j < lo + k
    · rw [if_pos h, if_pos (by omega)]
    · rw [if_neg h, if_neg (by omega)]
theorem zr_sL (f : Nat → Int64) (lo k : Nat) : vp_updL (zr 0 f lo k) (lo + k) 0 = zr 0 f lo (k + 1) := by
  funext j
  unfold zr
  by_cases hj : j = lo + k
  · subst hj; rw [pk_uLs, if_pos (by omega)]
  · rw [pk_uLn hj]
    by_cases h : lo ≤ j ∧ j < lo + k
    · rw [if_pos h, if_pos (by omega)]
    · rw [if_neg h, if_neg (by omega)]
def op_inv (S T : Md) (z k : Nat) : Prop := T.1 = S.1 ∧ (∀ a, a ≠ 7 → a ≠ 8 → a ≠ 9 → T.2.2.1 a = S.2.2.1 a) ∧ T.2.2.1 7 = zr 0 (S.2.2.1 7) (z * 16) k ∧ T.2.2.1 8 = zr 0 (S.2.2.1 8) (z * 16) k ∧ T.2.2.1 9 = zr 0 (S.2.2.1 9) (z * 16) k ∧ T.2.2.2 10 = zr 0 (S.2.2.2 10) (z * 16) k
theorem op_step {S T : Md} {z k : Nat} (hk : k < 16) (hi : op_inv S T z k) (hz : z < 400) : op_inv S (md_al (md_ai (md_ai (md_ai T 7 (upd (T.2.2.1 7) (nI (z * 16 + k)).toNatClampNeg 0)) 8 (upd ((md_ai T 7 (upd (T.2.2.1 7) (nI (z * 16 + k)).toNatClampNeg 0)).2.2.1 8) (nI (z * 16 + k)).toNatClampNeg 0)) 9 (upd ((md_ai (md_ai T 7 (upd (T.2.2.1 7) (nI (z * 16 + k)).toNatClampNeg 0)) 8 (upd ((md_ai T 7 (upd (T.2.2.1 7) (nI (z * 16 + k)).toNatClampNeg 0)).2.2.1 8) (nI (z * 16 + k)).toNatClampNeg 0)).2.2.1 9) (nI (z * 16 + k)).toNatClampNeg 0)) 10 (vp_updL ((md_ai (md_ai (md_ai T 7 (upd (T.2.2.1 7) (nI (z * 16 + k)).toNatClampNeg 0)) 8 (upd ((md_ai T 7 (upd (T.2.2.1 7) (nI (z * 16 + k)).toNatClampNeg 0)).2.2.1 8) (nI (z * 16 + k)).toNatClampNeg 0)) 9 (upd ((md_ai (md_ai T 7 (upd (T.2.2.1 7) (nI (z * 16 + k)).toNatClampNeg 0)) 8 (upd ((md_ai T 7 (upd (T.2.2.1 7) (nI (z * 16 + k)).toNatClampNeg 0)).2.2.1 8) (nI (z * 16 + k)).toNatClampNeg 0)).2.2.1 9) (nI (z * 16 + k)).toNatClampNeg 0)).2.2.2 10) (nI (z * 16 + k)).toNatClampNeg 0)) z (k + 1) := by
  obtain ⟨h1, h2, h7, h8, h9, h10⟩ := hi
  rw [nI_clamp (show z * 16 + k < 2 ^ 31 by omega)]
  refine ⟨h1, fun a a7 a8 a9 => ?_, ?_, ?_, ?_, ?_⟩
  · simp [md_al, md_ai, va_up, a7, a8, a9]; exact h2 a a7 a8 a9
  · simp [md_al, md_ai, va_up]; rw [h7]; exact zr_s _ _ _
  · simp [md_al, md_ai, va_up]; rw [h8]; exact zr_s _ _ _
  · simp [md_al, md_ai, va_up]; rw [h9]; exact zr_s _ _ _
  · simp [md_al, md_ai, va_up]; rw [h10]; exact zr_sL _ _ _
theorem dX2_open_0 : decode cX2_open 0 = .ok (.aload_n 0, 1) := by decide +kernel
theorem dX2_open_1 : decode cX2_open 1 = .ok (.getfield 9, 3) := by decide +kernel
theorem dX2_open_4 : decode cX2_open 4 = .ok (.sipush 400, 3) := by decide +kernel
theorem dX2_open_7 : decode cX2_open 7 = .ok (.if_icmp .ge 13, 3) := by decide +kernel
theorem dX2_open_10 : decode cX2_open 10 = .ok (.iload_n 1, 1) := by decide +kernel
theorem dX2_open_11 : decode cX2_open 11 = .ok (.iconst 0, 1) := by decide +kernel
theorem dX2_open_12 : decode cX2_open 12 = .ok (.bipush 79, 2) := by decide +kernel
theorem dX2_open_14 : decode cX2_open 14 = .ok (.invokestatic 80, 3) := by decide +kernel
theorem dX2_open_17 : decode cX2_open 17 = .ok (.ifCond .ne 5, 3) := by decide +kernel
theorem dX2_open_20 : decode cX2_open 20 = .ok (.iconst (-1), 1) := by decide +kernel
theorem dX2_open_21 : decode cX2_open 21 = .ok (.ireturn, 1) := by decide +kernel
theorem dX2_open_22 : decode cX2_open 22 = .ok (.aload_n 0, 1) := by decide +kernel
theorem dX2_open_23 : decode cX2_open 23 = .ok (.getfield 9, 3) := by decide +kernel
theorem dX2_open_26 : decode cX2_open 26 = .ok (.istore 4, 2) := by decide +kernel
theorem dX2_open_28 : decode cX2_open 28 = .ok (.aload_n 0, 1) := by decide +kernel
theorem dX2_open_29 : decode cX2_open 29 = .ok (.dup, 1) := by decide +kernel
theorem dX2_open_30 : decode cX2_open 30 = .ok (.getfield 9, 3) := by decide +kernel
theorem dX2_open_33 : decode cX2_open 33 = .ok (.iconst 1, 1) := by decide +kernel
theorem dX2_open_34 : decode cX2_open 34 = .ok (.iadd, 1) := by decide +kernel
theorem dX2_open_35 : decode cX2_open 35 = .ok (.putfield 9, 3) := by decide +kernel
theorem dX2_open_38 : decode cX2_open 38 = .ok (.aload_n 0, 1) := by decide +kernel
theorem dX2_open_39 : decode cX2_open 39 = .ok (.getfield 19, 3) := by decide +kernel
theorem dX2_open_42 : decode cX2_open 42 = .ok (.iload 4, 2) := by decide +kernel
theorem dX2_open_44 : decode cX2_open 44 = .ok (.aload_n 0, 1) := by decide +kernel
theorem dX2_open_45 : decode cX2_open 45 = .ok (.getfield 15, 3) := by decide +kernel
theorem dX2_open_48 : decode cX2_open 48 = .ok (.iload_n 1, 1) := by decide +kernel
theorem dX2_open_49 : decode cX2_open 49 = .ok (.iaload, 1) := by decide +kernel
theorem dX2_open_50 : decode cX2_open 50 = .ok (.iastore, 1) := by decide +kernel
theorem dX2_open_51 : decode cX2_open 51 = .ok (.aload_n 0, 1) := by decide +kernel
theorem dX2_open_52 : decode cX2_open 52 = .ok (.getfield 15, 3) := by decide +kernel
theorem dX2_open_55 : decode cX2_open 55 = .ok (.iload_n 1, 1) := by decide +kernel
theorem dX2_open_56 : decode cX2_open 56 = .ok (.iload 4, 2) := by decide +kernel
theorem dX2_open_58 : decode cX2_open 58 = .ok (.iastore, 1) := by decide +kernel
theorem dX2_open_59 : decode cX2_open 59 = .ok (.aload_n 0, 1) := by decide +kernel
theorem dX2_open_60 : decode cX2_open 60 = .ok (.getfield 22, 3) := by decide +kernel
theorem dX2_open_63 : decode cX2_open 63 = .ok (.iload 4, 2) := by decide +kernel
theorem dX2_open_65 : decode cX2_open 65 = .ok (.iload_n 1, 1) := by decide +kernel
theorem dX2_open_66 : decode cX2_open 66 = .ok (.iastore, 1) := by decide +kernel
theorem dX2_open_67 : decode cX2_open 67 = .ok (.aload_n 0, 1) := by decide +kernel
theorem dX2_open_68 : decode cX2_open 68 = .ok (.getfield 25, 3) := by decide +kernel
theorem dX2_open_71 : decode cX2_open 71 = .ok (.iload 4, 2) := by decide +kernel
theorem dX2_open_73 : decode cX2_open 73 = .ok (.iload_n 2, 1) := by decide +kernel
theorem dX2_open_74 : decode cX2_open 74 = .ok (.iastore, 1) := by decide +kernel
theorem dX2_open_75 : decode cX2_open 75 = .ok (.aload_n 0, 1) := by decide +kernel
theorem dX2_open_76 : decode cX2_open 76 = .ok (.getfield 28, 3) := by decide +kernel
theorem dX2_open_79 : decode cX2_open 79 = .ok (.iload 4, 2) := by decide +kernel
theorem dX2_open_81 : decode cX2_open 81 = .ok (.iload_n 3, 1) := by decide +kernel
theorem dX2_open_82 : decode cX2_open 82 = .ok (.iastore, 1) := by decide +kernel
theorem dX2_open_83 : decode cX2_open 83 = .ok (.iload 4, 2) := by decide +kernel
theorem dX2_open_85 : decode cX2_open 85 = .ok (.bipush 16, 2) := by decide +kernel
theorem dX2_open_87 : decode cX2_open 87 = .ok (.imul, 1) := by decide +kernel
theorem dX2_open_88 : decode cX2_open 88 = .ok (.istore 5, 2) := by decide +kernel
theorem dX2_open_90 : decode cX2_open 90 = .ok (.iload 5, 2) := by decide +kernel
theorem dX2_open_92 : decode cX2_open 92 = .ok (.iload 4, 2) := by decide +kernel
theorem dX2_open_94 : decode cX2_open 94 = .ok (.iconst 1, 1) := by decide +kernel
theorem dX2_open_95 : decode cX2_open 95 = .ok (.iadd, 1) := by decide +kernel
theorem dX2_open_96 : decode cX2_open 96 = .ok (.bipush 16, 2) := by decide +kernel
theorem dX2_open_98 : decode cX2_open 98 = .ok (.imul, 1) := by decide +kernel
theorem dX2_open_99 : decode cX2_open 99 = .ok (.if_icmp .ge 41, 3) := by decide +kernel
theorem dX2_open_102 : decode cX2_open 102 = .ok (.aload_n 0, 1) := by decide +kernel
theorem dX2_open_103 : decode cX2_open 103 = .ok (.getfield 34, 3) := by decide +kernel
theorem dX2_open_106 : decode cX2_open 106 = .ok (.iload 5, 2) := by decide +kernel
theorem dX2_open_108 : decode cX2_open 108 = .ok (.iconst 0, 1) := by decide +kernel
theorem dX2_open_109 : decode cX2_open 109 = .ok (.iastore, 1) := by decide +kernel
theorem dX2_open_110 : decode cX2_open 110 = .ok (.aload_n 0, 1) := by decide +kernel
theorem dX2_open_111 : decode cX2_open 111 = .ok (.getfield 37, 3) := by decide +kernel
theorem dX2_open_114 : decode cX2_open 114 = .ok (.iload 5, 2) := by decide +kernel
theorem dX2_open_116 : decode cX2_open 116 = .ok (.iconst 0, 1) := by decide +kernel
theorem dX2_open_117 : decode cX2_open 117 = .ok (.iastore, 1) := by decide +kernel
theorem dX2_open_118 : decode cX2_open 118 = .ok (.aload_n 0, 1) := by decide +kernel
theorem dX2_open_119 : decode cX2_open 119 = .ok (.getfield 40, 3) := by decide +kernel
theorem dX2_open_122 : decode cX2_open 122 = .ok (.iload 5, 2) := by decide +kernel
theorem dX2_open_124 : decode cX2_open 124 = .ok (.iconst 0, 1) := by decide +kernel
theorem dX2_open_125 : decode cX2_open 125 = .ok (.iastore, 1) := by decide +kernel
theorem dX2_open_126 : decode cX2_open 126 = .ok (.aload_n 0, 1) := by decide +kernel
theorem dX2_open_127 : decode cX2_open 127 = .ok (.getfield 43, 3) := by decide +kernel
theorem dX2_open_130 : decode cX2_open 130 = .ok (.iload 5, 2) := by decide +kernel
theorem dX2_open_132 : decode cX2_open 132 = .ok (.lconst 0, 1) := by decide +kernel
theorem dX2_open_133 : decode cX2_open 133 = .ok (.lastore, 1) := by decide +kernel
theorem dX2_open_134 : decode cX2_open 134 = .ok (.iinc 5 1, 3) := by decide +kernel
theorem dX2_open_137 : decode cX2_open 137 = .ok (.goto (-47), 3) := by decide +kernel
theorem dX2_open_140 : decode cX2_open 140 = .ok (.iload 4, 2) := by decide +kernel
theorem dX2_open_142 : decode cX2_open 142 = .ok (.ireturn, 1) := by decide +kernel
set_option maxRecDepth 100000 in
set_option maxHeartbeats 4000000 in
theorem l_X2_open {h : ai_H} {S : Md} {z : Nat} (hz : z < 400) (n s w : Int32) : ∀ (m k : Nat) (g : ai_H) (T : Md), k ≤ 16 → 17 ≤ k + m → xc h g → op_inv S T z k → cl_at g T → ai_W MX2_open 90 [.ref 22, .int n, .int s, .int w, .int (nI z), .int (nI (z * 16 + k))] [] g (fun r g => r = some (.int (nI z)) ∧ xc h g ∧ ∃ T, op_inv S T z 16 ∧ cl_at g T) := by
  intro m
  induction m with
  | zero => intro k g T h1 h2; exact absurd h2 (by omega)
  | succ m ih =>
    intro k g T hk him E0 hin hcl
    refine wq (fun _ _ kk => rs_iload (pc := 90) dX2_open_90 rfl kk) ?_
    refine wq (fun _ _ kk => rs_iload (pc := 92) dX2_open_92 rfl kk) ?_
    refine wq (fun _ _ kk => rs_iconst (v := 1) (pc := 94) dX2_open_94 rfl kk) ?_
    refine wq (fun _ _ kk => rs_iadd (pc := 95) dX2_open_95 kk) ?_
    rw [nI_1 z]
    refine wq (fun _ _ kk => rs_bipush (v := 16) (pc := 96) dX2_open_96 rfl kk) ?_
    refine wq (fun _ _ kk => rs_imul (pc := 98) dX2_open_98 kk) ?_
    rw [show nI (z + 1) * 16 = nI ((z + 1) * 16) from pk_mul (z + 1) 16]
    refine wq_br (fun _ _ kt kf => rs_icmp_ge (tgt := 140) (pc := 99) dX2_open_99 rfl kt kf) (fun c_99 => ?_) (fun c_99 => ?_)
    · have hke : k = 16 := by
        have q := lp_exit (i := z * 16 + k) (sz := (z + 1) * 16) rfl (by omega) (by omega) c_99
        omega
      subst hke
      refine wq (fun _ _ kk => rs_iload (pc := 140) dX2_open_140 rfl kk) ?_
      refine wq_ret ?_ (rs_iret (pc := 142) dX2_open_142 rfl)
      exact ⟨rfl, E0, _, hin, hcl⟩
    · have hk16 : k < 16 := by
        have q := lp_go (i := z * 16 + k) (sz := (z + 1) * 16) rfl (by omega) c_99
        omega
      refine wq (fun _ _ kk => rs_aload_n (pc := 102) dX2_open_102 rfl kk) ?_
      refine wq (fun _ _ kk => rs_getf (pc := 103) dX2_open_103 fX2_34 (mo_lt hcl (by decide)) hcl.2.1 rfl kk) ?_
      refine wq (fun _ _ kk => rs_iload (pc := 106) dX2_open_106 rfl kk) ?_
      refine wq (fun _ _ kk => rs_iconst (v := 0) (pc := 108) dX2_open_108 rfl kk) ?_
      refine wq (fun _ _ kk => rs_iast (pc := 109) dX2_open_109 (mo_lt hcl (by decide)) (mo_geti (d := 6) (k := 7) (kd := 0) (l := 6400) rfl (by decide) hcl) (vp_in_nI (n := z * 16 + k) (N := 6400) (by omega) (by decide)) kk) ?_
      refine wq_gen (fun h_1 e_1 => ?_)
      obtain ⟨m_1, s_1, g_1, o_1⟩ := ai_e1 e_1
      replace hcl := mo_ai (tab := cl_tab) (d := 6) cl_nd rfl (by decide) (fun _ _ _ => rfl) hcl m_1 g_1 o_1
      have E_1 := (E0).trans (xc_of m_1 s_1 o_1 (by decide))
      refine wq (fun _ _ kk => rs_aload_n (pc := 110) dX2_open_110 rfl kk) ?_
      refine wq (fun _ _ kk => rs_getf (pc := 111) dX2_open_111 fX2_37 (mo_lt hcl (by decide)) hcl.2.1 rfl kk) ?_
      refine wq (fun _ _ kk => rs_iload (pc := 114) dX2_open_114 rfl kk) ?_
      refine wq (fun _ _ kk => rs_iconst (v := 0) (pc := 116) dX2_open_116 rfl kk) ?_
      refine wq (fun _ _ kk => rs_iast (pc := 117) dX2_open_117 (mo_lt hcl (by decide)) (mo_geti (d := 7) (k := 8) (kd := 0) (l := 6400) rfl (by decide) hcl) (vp_in_nI (n := z * 16 + k) (N := 6400) (by omega) (by decide)) kk) ?_
      refine wq_gen (fun h_2 e_2 => ?_)
      obtain ⟨m_2, s_2, g_2, o_2⟩ := ai_e1 e_2
      replace hcl := mo_ai (tab := cl_tab) (d := 7) cl_nd rfl (by decide) (fun _ _ _ => rfl) hcl m_2 g_2 o_2
      have E_2 := (E_1).trans (xc_of m_2 s_2 o_2 (by decide))
      refine wq (fun _ _ kk => rs_aload_n (pc := 118) dX2_open_118 rfl kk) ?_
      refine wq (fun _ _ kk => rs_getf (pc := 119) dX2_open_119 fX2_40 (mo_lt hcl (by decide)) hcl.2.1 rfl kk) ?_
      refine wq (fun _ _ kk => rs_iload (pc := 122) dX2_open_122 rfl kk) ?_
      refine wq (fun _ _ kk => rs_iconst (v := 0) (pc := 124) dX2_open_124 rfl kk) ?_
      refine wq (fun _ _ kk => rs_iast (pc := 125) dX2_open_125 (mo_lt hcl (by decide)) (mo_geti (d := 8) (k := 9) (kd := 0) (l := 6400) rfl (by decide) hcl) (vp_in_nI (n := z * 16 + k) (N := 6400) (by omega) (by decide)) kk) ?_
      refine wq_gen (fun h_3 e_3 => ?_)
      obtain ⟨m_3, s_3, g_3, o_3⟩ := ai_e1 e_3
      replace hcl := mo_ai (tab := cl_tab) (d := 8) cl_nd rfl (by decide) (fun _ _ _ => rfl) hcl m_3 g_3 o_3
      have E_3 := (E_2).trans (xc_of m_3 s_3 o_3 (by decide))
      refine wq (fun _ _ kk => rs_aload_n (pc := 126) dX2_open_126 rfl kk) ?_
      refine wq (fun _ _ kk => rs_getf (pc := 127) dX2_open_127 fX2_43 (mo_lt hcl (by decide)) hcl.2.1 rfl kk) ?_
      refine wq (fun _ _ kk => rs_iload (pc := 130) dX2_open_130 rfl kk) ?_
      refine wq (fun _ _ kk => rs_lconst (v := 0) (pc := 132) dX2_open_132 rfl kk) ?_
      refine wq (fun _ _ kk => rs_last (pc := 133) dX2_open_133 (mo_lt hcl (by decide)) (mo_getl (d := 9) (k := 10) (kd := 1) (l := 6400) rfl (by decide) hcl) (vp_in_nI (n := z * 16 + k) (N := 6400) (by omega) (by decide)) kk) ?_
      refine wq_gen (fun h_4 e_4 => ?_)
      obtain ⟨m_4, s_4, g_4, o_4⟩ := ai_e1 e_4
      replace hcl := mo_al (tab := cl_tab) (d := 9) cl_nd rfl (by decide) (fun _ _ _ => rfl) hcl m_4 g_4 o_4
      have E_4 := (E_3).trans (xc_of m_4 s_4 o_4 (by decide))
      refine wq (fun _ _ kk => wk_iinc5 (v := nI (z * 16 + (k + 1))) (pc := 134) dX2_open_134 (by decide) rfl (nI_1 (z * 16 + k)) kk) ?_
      refine wq (fun _ _ kk => rs_goto (tgt := 90) (pc := 137) dX2_open_137 rfl kk) ?_
      exact ih (k + 1) _ _ (by omega) (by omega) (E_4) (op_step hk16 hin hz) hcl
