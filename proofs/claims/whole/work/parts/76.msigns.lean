/-! 76: the model's reader: signs, words, numbers (walks laid by wip/whole/p76.py) -/
/-- a sign as a byte of the model -/
def by8 (c : Nat) : Int32 := if c < 128 then nI c else nI c - 256
theorem by8_and : ∀ c, c < 256 → by8 c &&& 255 = nI c := by decide +kernel
theorem by8_lt : ∀ c, c < 256 → (by8 c < 97 ↔ ¬ (97 ≤ c ∧ c < 128)) ∧ (122 < by8 c ↔ (122 < c ∧ c < 128)) := by decide +kernel
theorem by8_eq : ∀ c, c < 256 → ∀ d, d < 128 → (by8 c = nI d ↔ c = d) := by decide +kernel
/-- the text in the model's tape; law r is being read -/
def tx_m (t : Nat → Nat) (n r : Nat) (S : Md) : Prop := S.1 22 = nI n ∧ n ≤ 400 ∧ S.1 25 = nI r ∧ r < 10 ∧ ∀ q, q < n → t q < 256 ∧ S.2.2.1 30 q = by8 (t q)
/-- what reading changes -/
def pfm (r : Nat) (S T : Md) : Prop := (∀ j, j ≠ 23 → j ≠ 24 → j ≠ 26 → j ≠ 27 → j ≠ 28 → j ≠ 29 → T.1 j = S.1 j) ∧ T.2.1 = S.2.1 ∧ T.2.2.2 = S.2.2.2 ∧ (∀ j, j ≠ 31 → j ≠ 32 → j ≠ 37 → T.2.2.1 j = S.2.2.1 j) ∧ ∀ i, i < 300 * r → T.2.2.1 31 i = S.2.2.1 31 i ∧ T.2.2.1 32 i = S.2.2.1 32 i
theorem pfm.rf {r : Nat} {S : Md} : pfm r S S := ⟨fun _ _ _ _ _ _ _ => rfl, rfl, rfl, fun _ _ _ _ => rfl, fun _ _ => ⟨rfl, rfl⟩⟩
theorem pfm.trans {r : Nat} {S T V : Md} (a : pfm r S T) (b : pfm r T V) : pfm r S V := ⟨fun j h1 h2 h3 h4 h5 h6 => (b.1 j h1 h2 h3 h4 h5 h6).trans (a.1 j h1 h2 h3 h4 h5 h6), b.2.1.trans a.2.1, b.2.2.1.trans a.2.2.1, fun j h1 h2 h3 => (b.2.2.2.1 j h1 h2 h3).trans (a.2.2.2.1 j h1 h2 h3), fun i hi => ⟨(b.2.2.2.2 i hi).1.trans (a.2.2.2.2 i hi).1, (b.2.2.2.2 i hi).2.trans (a.2.2.2.2 i hi).2⟩⟩
theorem pfm.put {r : Nat} {S T : Md} {k : Nat} (hk : k = 23 ∨ k = 24 ∨ k = 26 ∨ k = 27 ∨ k = 28 ∨ k = 29) (e : ∀ j, j ≠ k → T.1 j = S.1 j) (s : T.2 = S.2) : pfm r S T := ⟨fun j h1 h2 h3 h4 h5 h6 => e j (by omega), by rw [s], by rw [s], fun j _ _ _ => by rw [s], fun i _ => by rw [s]; exact ⟨rfl, rfl⟩⟩
theorem tx_m.of {t : Nat → Nat} {n r : Nat} {S T : Md} (a : tx_m t n r S) (b : pfm r S T) : tx_m t n r T := ⟨(b.1 22 (by decide) (by decide) (by decide) (by decide) (by decide) (by decide)).trans a.1, a.2.1, (b.1 25 (by decide) (by decide) (by decide) (by decide) (by decide) (by decide)).trans a.2.2.1, a.2.2.2.1, fun q hq => ⟨(a.2.2.2.2 q hq).1, by rw [b.2.2.2.1 30 (by decide) (by decide) (by decide)]; exact (a.2.2.2.2 q hq).2⟩⟩
theorem md_new {h : ai_H} {S : Md} {k : Nat} {v : Int32} (a : md_at h (md_si S k v)) : ∃ T, md_at h T ∧ T.1 k = v ∧ (∀ j, j ≠ k → T.1 j = S.1 j) ∧ T.2 = S.2 := ⟨md_si S k v, a, if_pos rfl, fun j hj => if_neg hj, rfl⟩
theorem md_row {h : ai_H} {S : Md} {k : Nat} {f : Nat → Int32} (a : md_at h (md_ai S k f)) : ∃ T, md_at h T ∧ T.2.2.1 k = f ∧ T.1 = S.1 ∧ T.2.1 = S.2.1 ∧ T.2.2.2 = S.2.2.2 ∧ ∀ j, j ≠ k → T.2.2.1 j = S.2.2.1 j := ⟨md_ai S k f, a, if_pos rfl, rfl, rfl, rfl, fun j hj => if_neg hj⟩
/-- one field changed -/
def on1 (k : Nat) (S T : Md) : Prop := (∀ j, j ≠ k → T.1 j = S.1 j) ∧ T.2 = S.2
theorem on1.rf {k : Nat} {S : Md} : on1 k S S := ⟨fun _ _ => rfl, rfl⟩
theorem on1.trans {k : Nat} {S T V : Md} (a : on1 k S T) (b : on1 k T V) : on1 k S V := ⟨fun j hj => (b.1 j hj).trans (a.1 j hj), b.2.trans a.2⟩
theorem on1.f {k r : Nat} {S T : Md} (a : on1 k S T) (hk : k = 23 ∨ k = 24 ∨ k = 26 ∨ k = 27 ∨ k = 28 ∨ k = 29) : pfm r S T := pfm.put hk a.1 a.2
def tx_s (t : Nat → Nat) (n p : Nat) : Int32 := if p < n then nI (t p) else -1
theorem tx_s_eq {t : Nat → Nat} {n p c : Nat} (hb : p < n → t p < 256) (hc : c < 256) : tx_s t n p = nI c ↔ p < n ∧ t p = c := by
  unfold tx_s
  by_cases h : p < n
  · rw [if_pos h]
    exact ⟨fun z => ⟨h, nI_inj (by have := hb h; omega) (by omega) z⟩, fun z => by rw [z.2]⟩
  · rw [if_neg h]
    exact ⟨fun z => absurd z.symm (nI_m1 (by omega)), fun z => absurd z.1 h⟩
theorem dX12_sign_0 : decode cX12_sign 0 = .ok (.aload_n 0, 1) := by decide +kernel
theorem dX12_sign_1 : decode cX12_sign 1 = .ok (.getfield 267, 3) := by decide +kernel
theorem dX12_sign_4 : decode cX12_sign 4 = .ok (.aload_n 0, 1) := by decide +kernel
theorem dX12_sign_5 : decode cX12_sign 5 = .ok (.getfield 241, 3) := by decide +kernel
theorem dX12_sign_8 : decode cX12_sign 8 = .ok (.if_icmp .ge 19, 3) := by decide +kernel
theorem dX12_sign_11 : decode cX12_sign 11 = .ok (.aload_n 0, 1) := by decide +kernel
theorem dX12_sign_12 : decode cX12_sign 12 = .ok (.getfield 58, 3) := by decide +kernel
theorem dX12_sign_15 : decode cX12_sign 15 = .ok (.aload_n 0, 1) := by decide +kernel
theorem dX12_sign_16 : decode cX12_sign 16 = .ok (.getfield 267, 3) := by decide +kernel
theorem dX12_sign_19 : decode cX12_sign 19 = .ok (.baload, 1) := by decide +kernel
theorem dX12_sign_20 : decode cX12_sign 20 = .ok (.sipush 255, 3) := by decide +kernel
theorem dX12_sign_23 : decode cX12_sign 23 = .ok (.iand, 1) := by decide +kernel
theorem dX12_sign_24 : decode cX12_sign 24 = .ok (.goto 4, 3) := by decide +kernel
theorem dX12_sign_27 : decode cX12_sign 27 = .ok (.iconst (-1), 1) := by decide +kernel
theorem dX12_sign_28 : decode cX12_sign 28 = .ok (.ireturn, 1) := by decide +kernel
set_option maxRecDepth 100000 in
set_option maxHeartbeats 4000000 in
theorem q_X12_sign {h : ai_H} {S : Md} {t : Nat → Nat} {n r p : Nat} (hmd : md_at h S) (htx : tx_m t n r S) (hp : S.1 23 = nI p) (hp5 : p ≤ 500) : ai_QM MX12_sign [.ref 307] h (fun r g => r = some (.int (tx_s t n p)) ∧ g = h) := by
  obtain ⟨x22, hn4, x25, hr9, xt⟩ := id htx
  refine qm_of (ls := [.ref 307]) (by decide) (by simp [ai_en, Value.category]) (by rfl) ?_
  refine wq (fun _ _ kk => rs_aload_n (pc := 0) dX12_sign_0 rfl kk) ?_
  refine wq (fun _ _ kk => rs_getf (pc := 1) dX12_sign_1 fX12_267 (md_lt hmd (by decide)) hmd.2.1 rfl kk) ?_
  rw [hp]
  refine wq (fun _ _ kk => rs_aload_n (pc := 4) dX12_sign_4 rfl kk) ?_
  refine wq (fun _ _ kk => rs_getf (pc := 5) dX12_sign_5 fX12_241 (md_lt hmd (by decide)) hmd.2.1 rfl kk) ?_
  rw [x22]
  refine wq_br (fun _ _ kt kf => rs_icmp_ge (tgt := 27) (pc := 8) dX12_sign_8 rfl kt kf) (fun c_8 => ?_) (fun c_8 => ?_)
  · have g1 : ¬ p < n := Nat.not_lt.mpr (tx_le1 (by omega) (by omega) rfl c_8)
    refine wq (fun _ _ kk => rs_iconst (v := -1) (pc := 27) dX12_sign_27 rfl kk) ?_
    refine wq_ret ?_ (rs_iret (pc := 28) dX12_sign_28 rfl)
    exact ⟨by unfold tx_s; rw [if_neg g1], rfl⟩
  · have g1 : p < n := tx_le2 (by omega) (by omega) rfl c_8
    refine wq (fun _ _ kk => rs_aload_n (pc := 11) dX12_sign_11 rfl kk) ?_
    refine wq (fun _ _ kk => rs_getf (pc := 12) dX12_sign_12 fX12_58 (md_lt hmd (by decide)) hmd.2.1 rfl kk) ?_
    refine wq (fun _ _ kk => rs_aload_n (pc := 15) dX12_sign_15 rfl kk) ?_
    refine wq (fun _ _ kk => rs_getf (pc := 16) dX12_sign_16 fX12_267 (md_lt hmd (by decide)) hmd.2.1 rfl kk) ?_
    rw [hp]
    refine wq (fun _ _ kk => rs_bald (pc := 19) dX12_sign_19 (md_lt hmd (by decide)) (md_geti (d := 16) (k := 30) (kd := 3) (n := 400) rfl (by decide) hmd) (vp_in_nI (n := p) (N := 400) (by omega) (by decide)) kk) ?_
    rw [nI_clamp (show p < 2 ^ 31 by omega), (xt p g1).2]
    refine wq (fun _ _ kk => rs_sipush (v := 255) (pc := 20) dX12_sign_20 rfl kk) ?_
    refine wq (fun _ _ kk => rs_iand (pc := 23) dX12_sign_23 kk) ?_
    rw [show (255 : Int32) = 255 from rfl, by8_and _ (xt p g1).1]
    refine wq (fun _ _ kk => rs_goto (tgt := 28) (pc := 24) dX12_sign_24 rfl kk) ?_
    refine wq_ret ?_ (rs_iret (pc := 28) dX12_sign_28 rfl)
    exact ⟨by unfold tx_s; rw [if_pos g1], rfl⟩
theorem c_X12_sign {h : ai_H} {S : Md} {t : Nat → Nat} {n r p : Nat} (hmd : md_at h S) (htx : tx_m t n r S) (hp : S.1 23 = nI p) (hp5 : p ≤ 500) : ai_Met MX12_sign [.ref 307] h (some (.int (tx_s t n p))) h := by
  obtain ⟨rv, g, ⟨rfl, rfl⟩, hm⟩ := q_X12_sign hmd htx hp hp5
  exact hm
theorem dX12_blanks_0 : decode cX12_blanks 0 = .ok (.aload_n 0, 1) := by decide +kernel
theorem dX12_blanks_1 : decode cX12_blanks 1 = .ok (.invokevirtual 270, 3) := by decide +kernel
theorem dX12_blanks_4 : decode cX12_blanks 4 = .ok (.bipush 32, 2) := by decide +kernel
theorem dX12_blanks_6 : decode cX12_blanks 6 = .ok (.if_icmp .ne 16, 3) := by decide +kernel
theorem dX12_blanks_9 : decode cX12_blanks 9 = .ok (.aload_n 0, 1) := by decide +kernel
theorem dX12_blanks_10 : decode cX12_blanks 10 = .ok (.dup, 1) := by decide +kernel
theorem dX12_blanks_11 : decode cX12_blanks 11 = .ok (.getfield 267, 3) := by decide +kernel
theorem dX12_blanks_14 : decode cX12_blanks 14 = .ok (.iconst 1, 1) := by decide +kernel
theorem dX12_blanks_15 : decode cX12_blanks 15 = .ok (.iadd, 1) := by decide +kernel
theorem dX12_blanks_16 : decode cX12_blanks 16 = .ok (.putfield 267, 3) := by decide +kernel
theorem dX12_blanks_19 : decode cX12_blanks 19 = .ok (.goto (-19), 3) := by decide +kernel
theorem dX12_blanks_22 : decode cX12_blanks 22 = .ok (.return_, 1) := by decide +kernel
set_option maxRecDepth 100000 in
set_option maxHeartbeats 4000000 in
theorem l_X12_blanks {h : ai_H} {S0 : Md} {t : Nat → Nat} {n r p0 : Nat} : ∀ (m b : Nat) (g : ai_H) (S : Md), b ≤ 500 → n + 501 ≤ b + m → tx_rn (tx_bl t) n b = tx_fr t n p0 → md_at g S → tx_m t n r S → md_ext h g → on1 23 S0 S → S.1 23 = nI b → ai_W MX12_blanks 0 [.ref 307] [] g (fun rv g' => rv = none ∧ md_ext h g' ∧ ∃ T, md_at g' T ∧ on1 23 S0 T ∧ T.1 23 = nI (tx_fr t n p0)) := by
  intro m
  induction m with
  | zero => intro b g S h1 h2; exact absurd h2 (by omega)
  | succ m ih =>
    intro b g S hb5 him hbe hmd htx hE ho hp
    obtain ⟨x22, hn4, x25, hr9, xt⟩ := id htx
    refine wq (fun _ _ kk => rs_aload_n (pc := 0) dX12_blanks_0 rfl kk) ?_
    refine wq (fun _ _ kk => rs_callV (as := []) (pc := 1) dX12_blanks_1 mk_X12_sign mlX12_270 in_X12_sign se_X12_sign rfl (md_lt hmd (by decide)) hmd.2.1 rfl rfl (Nat.le_of_ble_eq_true rfl) (c_X12_sign hmd htx hp (p := b) (by omega)) kk) ?_
    refine wq (fun _ _ kk => rs_bipush (v := 32) (pc := 4) dX12_blanks_4 rfl kk) ?_
    refine wq_bn (fun _ _ kt kf => rs_icmp_ne (tgt := 22) (pc := 6) dX12_blanks_6 rfl kt kf) (fun c_6 => ?_) (fun c_6 => ?_)
    · have g1 : ¬ (b < n ∧ tx_bl t b = true) := fun z => c_6 ((tx_s_eq (c := 32) (fun w => (xt b w).1) (by decide)).mpr ⟨z.1, of_decide_eq_true z.2⟩)
      refine wq_ret ?_ (rs_vret (pc := 22) dX12_blanks_22 rfl)
      exact ⟨rfl, hE, S, hmd, ho, by rw [← hbe, tx_n g1]; exact hp⟩
    · have g0 := (tx_s_eq (c := 32) (fun w => (xt b w).1) (by decide)).mp c_6
      have g1 : b < n := g0.1
      have g2 : tx_bl t b = true := decide_eq_true g0.2
      refine wq (fun _ _ kk => rs_aload_n (pc := 9) dX12_blanks_9 rfl kk) ?_
      refine wq (fun _ _ kk => rs_dup (pc := 10) dX12_blanks_10 rfl kk) ?_
      refine wq (fun _ _ kk => rs_getf (pc := 11) dX12_blanks_11 fX12_267 (md_lt hmd (by decide)) hmd.2.1 rfl kk) ?_
      rw [hp]
      refine wq (fun _ _ kk => rs_iconst (v := 1) (pc := 14) dX12_blanks_14 rfl kk) ?_
      refine wq (fun _ _ kk => rs_iadd (pc := 15) dX12_blanks_15 kk) ?_
      refine wq (fun _ _ kk => rs_putf (pc := 16) dX12_blanks_16 fX12_267 (md_lt hmd (by decide)) hmd.2.1 rfl (Nat.le_of_ble_eq_true rfl) kk) ?_
      refine wq_gen (fun h_1 e_1 => ?_)
      obtain ⟨m_1, s_1, g_1, o_1⟩ := ai_e1 e_1
      replace hmd := md_at_si (k := 23) hmd m_1 g_1 o_1 rfl
      have E_1 := (md_ext.rf).trans (md_ext_of m_1 s_1 o_1 (by decide))
      obtain ⟨S_16, hmd, k_16, r_16, s_16⟩ := md_new hmd
      rw [nI_1] at k_16
      refine wq (fun _ _ kk => rs_goto (tgt := 0) (pc := 19) dX12_blanks_19 rfl kk) ?_
      exact ih (b + 1) _ _ (by omega) (by omega) (by rw [← tx_y g1 g2]; exact hbe) hmd (htx.of (pfm.put (by decide) r_16 s_16)) (hE.trans (E_1)) (ho.trans ⟨r_16, s_16⟩) k_16
theorem c_X12_blanks {h : ai_H} {S : Md} {t : Nat → Nat} {n r p : Nat} (hmd : md_at h S) (htx : tx_m t n r S) (hp : S.1 23 = nI p) (hp5 : p ≤ 500) : ai_QM MX12_blanks [.ref 307] h (fun rv g' => rv = none ∧ md_ext h g' ∧ ∃ T, md_at g' T ∧ on1 23 S T ∧ T.1 23 = nI (tx_fr t n p)) := by
  refine qm_of (ls := [.ref 307]) (by decide) (by simp [ai_en, Value.category]) (by rfl) ?_
  exact l_X12_blanks (n + 501) p h S hp5 (by omega) rfl hmd htx md_ext.rf on1.rf hp
theorem in_dg {t : Nat → Nat} {n p lo hi : Nat} (hb : p < n → t p < 256) (hlo : lo < 256) (hhi : hi < 256) : bi_inL (tx_s t n p).toInt64 (nI lo).toInt64 (nI hi).toInt64 = if p < n ∧ lo ≤ t p ∧ t p ≤ hi then 1 else 0 := by
  unfold bi_inL tx_s
  by_cases h : p < n
  · have := hb h
    rw [if_pos h, nI_l (by omega), nI_l (by omega), nI_l (by omega)]
    by_cases c1 : lN (t p) < lN lo
    · rw [if_pos c1, if_neg (by have := (lN_lt (by omega) (by omega)).mp c1; omega)]
    · rw [if_neg c1]
      have c1' : lo ≤ t p := Nat.le_of_not_lt (fun z => c1 ((lN_lt (by omega) (by omega)).mpr z))
      by_cases c2 : lN hi < lN (t p)
      · rw [if_pos c2, if_neg (by have := (lN_lt (by omega) (by omega)).mp c2; omega)]
      · rw [if_neg c2, if_pos ⟨h, c1', Nat.le_of_not_lt (fun z => c2 ((lN_lt (by omega) (by omega)).mpr z))⟩]
  · have hm : (-1 : Int32).toInt64 < (nI lo).toInt64 := by
      rw [nI_l (by omega), Int64.lt_iff_toInt_lt, lN_toInt (by omega)]
      have : (-1 : Int32).toInt64.toInt = -1 := by decide
      omega
    rw [if_neg h, if_pos hm, if_neg (show ¬ (p < n ∧ lo ≤ t p ∧ t p ≤ hi) from fun z => h z.1)]
theorem dX12_isDigit_0 : decode cX12_isDigit 0 = .ok (.aload_n 0, 1) := by decide +kernel
theorem dX12_isDigit_1 : decode cX12_isDigit 1 = .ok (.invokevirtual 270, 3) := by decide +kernel
theorem dX12_isDigit_4 : decode cX12_isDigit 4 = .ok (.i2l, 1) := by decide +kernel
theorem dX12_isDigit_5 : decode cX12_isDigit 5 = .ok (.ldc2_w 274, 3) := by decide +kernel
theorem dX12_isDigit_8 : decode cX12_isDigit 8 = .ok (.ldc2_w 276, 3) := by decide +kernel
theorem dX12_isDigit_11 : decode cX12_isDigit 11 = .ok (.invokestatic 181, 3) := by decide +kernel
theorem dX12_isDigit_14 : decode cX12_isDigit 14 = .ok (.ireturn, 1) := by decide +kernel
set_option maxRecDepth 100000 in
set_option maxHeartbeats 4000000 in
theorem q_X12_isDigit {h : ai_H} {S : Md} {t : Nat → Nat} {n r p : Nat} (hmd : md_at h S) (htx : tx_m t n r S) (hp : S.1 23 = nI p) (hp5 : p ≤ 500) : ai_QM MX12_isDigit [.ref 307] h (fun r g => r = some (.int (if p < n ∧ 48 ≤ t p ∧ t p ≤ 57 then 1 else 0)) ∧ g = h) := by
  obtain ⟨x22, hn4, x25, hr9, xt⟩ := id htx
  refine qm_of (ls := [.ref 307]) (by decide) (by simp [ai_en, Value.category]) (by rfl) ?_
  refine wq (fun _ _ kk => rs_aload_n (pc := 0) dX12_isDigit_0 rfl kk) ?_
  refine wq (fun _ _ kk => rs_callV (as := []) (pc := 1) dX12_isDigit_1 mk_X12_sign mlX12_270 in_X12_sign se_X12_sign rfl (md_lt hmd (by decide)) hmd.2.1 rfl rfl (Nat.le_of_ble_eq_true rfl) (c_X12_sign hmd htx hp hp5) kk) ?_
  refine wq (fun _ _ kk => rs_i2l (pc := 4) dX12_isDigit_4 kk) ?_
  refine wq (fun _ _ kk => rs_ldc2 (pc := 5) dX12_isDigit_5 cnX12_274 kk) ?_
  refine wq (fun _ _ kk => rs_ldc2 (pc := 8) dX12_isDigit_8 cnX12_276 kk) ?_
  refine wq (fun _ _ kk => rs_callS (as := [_, _, _]) (pc := 11) dX12_isDigit_11 mk_X12_in mlX12_181 st_X12_in rfl rfl (Nat.le_of_ble_eq_true rfl) (c_X12_in) kk) ?_
  rw [show bi_inL (tx_s t n p).toInt64 48 57 = if p < n ∧ 48 ≤ t p ∧ t p ≤ 57 then 1 else 0 from in_dg (lo := 48) (hi := 57) (fun w => (xt p w).1) (by decide) (by decide)]
  refine wq_ret ?_ (rs_zret (pc := 14) dX12_isDigit_14 rfl (by split <;> simp))
  exact ⟨rfl, rfl⟩
theorem c_X12_isDigit {h : ai_H} {S : Md} {t : Nat → Nat} {n r p : Nat} (hmd : md_at h S) (htx : tx_m t n r S) (hp : S.1 23 = nI p) (hp5 : p ≤ 500) : ai_Met MX12_isDigit [.ref 307] h (some (.int (if p < n ∧ 48 ≤ t p ∧ t p ≤ 57 then 1 else 0))) h := by
  obtain ⟨rv, g, ⟨rfl, rfl⟩, hm⟩ := q_X12_isDigit hmd htx hp hp5
  exact hm
theorem dX12_fails_0 : decode cX12_fails 0 = .ok (.aload_n 0, 1) := by decide +kernel
theorem dX12_fails_1 : decode cX12_fails 1 = .ok (.aload_n 0, 1) := by decide +kernel
theorem dX12_fails_2 : decode cX12_fails 2 = .ok (.getfield 264, 3) := by decide +kernel
theorem dX12_fails_5 : decode cX12_fails 5 = .ok (.ifCond .ne 14, 3) := by decide +kernel
theorem dX12_fails_8 : decode cX12_fails 8 = .ok (.iconst 1, 1) := by decide +kernel
theorem dX12_fails_9 : decode cX12_fails 9 = .ok (.bipush 8, 2) := by decide +kernel
theorem dX12_fails_11 : decode cX12_fails 11 = .ok (.iload_n 2, 1) := by decide +kernel
theorem dX12_fails_12 : decode cX12_fails 12 = .ok (.imul, 1) := by decide +kernel
theorem dX12_fails_13 : decode cX12_fails 13 = .ok (.iadd, 1) := by decide +kernel
theorem dX12_fails_14 : decode cX12_fails 14 = .ok (.iload_n 1, 1) := by decide +kernel
theorem dX12_fails_15 : decode cX12_fails 15 = .ok (.iadd, 1) := by decide +kernel
theorem dX12_fails_16 : decode cX12_fails 16 = .ok (.goto 7, 3) := by decide +kernel
theorem dX12_fails_19 : decode cX12_fails 19 = .ok (.aload_n 0, 1) := by decide +kernel
theorem dX12_fails_20 : decode cX12_fails 20 = .ok (.getfield 264, 3) := by decide +kernel
theorem dX12_fails_23 : decode cX12_fails 23 = .ok (.putfield 264, 3) := by decide +kernel
theorem dX12_fails_26 : decode cX12_fails 26 = .ok (.return_, 1) := by decide +kernel
set_option maxRecDepth 100000 in
set_option maxHeartbeats 4000000 in
theorem c_X12_fails {h : ai_H} {S : Md} {a c : Nat} (hmd : md_at h S) : ai_QM MX12_fails [.ref 307, .int (nI c), .int (nI a)] h (fun rv g => rv = none ∧ md_ext h g ∧ ∃ T, md_at g T ∧ on1 24 S T ∧ T.1 24 = if S.1 24 = 0 then nI (1 + 8 * a + c) else S.1 24) := by
  refine qm_of (ls := [.ref 307, .int (nI c), .int (nI a)]) (by decide) (by simp [ai_en, Value.category]) (by rfl) ?_
  refine wq (fun _ _ kk => rs_aload_n (pc := 0) dX12_fails_0 rfl kk) ?_
  refine wq (fun _ _ kk => rs_aload_n (pc := 1) dX12_fails_1 rfl kk) ?_
  refine wq (fun _ _ kk => rs_getf (pc := 2) dX12_fails_2 fX12_264 (md_lt hmd (by decide)) hmd.2.1 rfl kk) ?_
  refine wq_bn (fun _ _ kt kf => rs_if_ne (tgt := 19) (pc := 5) dX12_fails_5 rfl kt kf) (fun c_5 => ?_) (fun c_5 => ?_)
  · refine wq (fun _ _ kk => rs_aload_n (pc := 19) dX12_fails_19 rfl kk) ?_
    refine wq (fun _ _ kk => rs_getf (pc := 20) dX12_fails_20 fX12_264 (md_lt hmd (by decide)) hmd.2.1 rfl kk) ?_
    refine wq (fun _ _ kk => rs_putf (pc := 23) dX12_fails_23 fX12_264 (md_lt hmd (by decide)) hmd.2.1 rfl (Nat.le_of_ble_eq_true rfl) kk) ?_
    refine wq_gen (fun h_1 e_1 => ?_)
    obtain ⟨m_1, s_1, g_1, o_1⟩ := ai_e1 e_1
    replace hmd := md_at_si (k := 24) hmd m_1 g_1 o_1 rfl
    have E_1 := (md_ext.rf).trans (md_ext_of m_1 s_1 o_1 (by decide))
    obtain ⟨S_23, hmd, k_23, r_23, s_23⟩ := md_new hmd
    refine wq_ret ?_ (rs_vret (pc := 26) dX12_fails_26 rfl)
    exact ⟨rfl, E_1, S_23, hmd, ⟨r_23, s_23⟩, by rw [k_23, if_neg c_5]⟩
  · refine wq (fun _ _ kk => rs_iconst (v := 1) (pc := 8) dX12_fails_8 rfl kk) ?_
    refine wq (fun _ _ kk => rs_bipush (v := 8) (pc := 9) dX12_fails_9 rfl kk) ?_
    refine wq (fun _ _ kk => rs_iload_n (pc := 11) dX12_fails_11 rfl kk) ?_
    refine wq (fun _ _ kk => rs_imul (pc := 12) dX12_fails_12 kk) ?_
    refine wq (fun _ _ kk => rs_iadd (pc := 13) dX12_fails_13 kk) ?_
    refine wq (fun _ _ kk => rs_iload_n (pc := 14) dX12_fails_14 rfl kk) ?_
    refine wq (fun _ _ kk => rs_iadd (pc := 15) dX12_fails_15 kk) ?_
    rw [show (8 : Int32) = nI 8 from rfl, nI_mul, show (1 : Int32) = nI 1 from rfl, nI_add, nI_add]
    refine wq (fun _ _ kk => rs_goto (tgt := 23) (pc := 16) dX12_fails_16 rfl kk) ?_
    refine wq (fun _ _ kk => rs_putf (pc := 23) dX12_fails_23 fX12_264 (md_lt hmd (by decide)) hmd.2.1 rfl (Nat.le_of_ble_eq_true rfl) kk) ?_
    refine wq_gen (fun h_2 e_2 => ?_)
    obtain ⟨m_2, s_2, g_2, o_2⟩ := ai_e1 e_2
    replace hmd := md_at_si (k := 24) hmd m_2 g_2 o_2 rfl
    have E_2 := (md_ext.rf).trans (md_ext_of m_2 s_2 o_2 (by decide))
    obtain ⟨S_23, hmd, k_23, r_23, s_23⟩ := md_new hmd
    refine wq_ret ?_ (rs_vret (pc := 26) dX12_fails_26 rfl)
    exact ⟨rfl, E_2, S_23, hmd, ⟨r_23, s_23⟩, by rw [k_23, if_pos c_5]⟩
theorem dX12_isCounted_0 : decode cX12_isCounted 0 = .ok (.aload_n 0, 1) := by decide +kernel
theorem dX12_isCounted_1 : decode cX12_isCounted 1 = .ok (.getfield 300, 3) := by decide +kernel
theorem dX12_isCounted_4 : decode cX12_isCounted 4 = .ok (.bipush 60, 2) := by decide +kernel
theorem dX12_isCounted_6 : decode cX12_isCounted 6 = .ok (.if_icmp .ne 9, 3) := by decide +kernel
theorem dX12_isCounted_9 : decode cX12_isCounted 9 = .ok (.aload_n 0, 1) := by decide +kernel
theorem dX12_isCounted_10 : decode cX12_isCounted 10 = .ok (.iconst 3, 1) := by decide +kernel
theorem dX12_isCounted_11 : decode cX12_isCounted 11 = .ok (.iload_n 1, 1) := by decide +kernel
theorem dX12_isCounted_12 : decode cX12_isCounted 12 = .ok (.invokevirtual 303, 3) := by decide +kernel
theorem dX12_isCounted_15 : decode cX12_isCounted 15 = .ok (.aload_n 0, 1) := by decide +kernel
theorem dX12_isCounted_16 : decode cX12_isCounted 16 = .ok (.dup, 1) := by decide +kernel
theorem dX12_isCounted_17 : decode cX12_isCounted 17 = .ok (.getfield 300, 3) := by decide +kernel
theorem dX12_isCounted_20 : decode cX12_isCounted 20 = .ok (.iconst 1, 1) := by decide +kernel
theorem dX12_isCounted_21 : decode cX12_isCounted 21 = .ok (.iadd, 1) := by decide +kernel
theorem dX12_isCounted_22 : decode cX12_isCounted 22 = .ok (.putfield 300, 3) := by decide +kernel
theorem dX12_isCounted_25 : decode cX12_isCounted 25 = .ok (.return_, 1) := by decide +kernel
set_option maxRecDepth 100000 in
set_option maxHeartbeats 4000000 in
theorem c_X12_isCounted {h : ai_H} {S : Md} {a : Nat} (hmd : md_at h S) : ai_QM MX12_isCounted [.ref 307, .int (nI a)] h (fun rv g => rv = none ∧ md_ext h g ∧ ∃ T, md_at g T ∧ (∀ j, j ≠ 24 → j ≠ 28 → T.1 j = S.1 j) ∧ T.2 = S.2 ∧ T.1 28 = S.1 28 + 1 ∧ T.1 24 = if S.1 28 = 60 then (if S.1 24 = 0 then nI (1 + 8 * a + 3) else S.1 24) else S.1 24) := by
  refine qm_of (ls := [.ref 307, .int (nI a)]) (by decide) (by simp [ai_en, Value.category]) (by rfl) ?_
  refine wq (fun _ _ kk => rs_aload_n (pc := 0) dX12_isCounted_0 rfl kk) ?_
  refine wq (fun _ _ kk => rs_getf (pc := 1) dX12_isCounted_1 fX12_300 (md_lt hmd (by decide)) hmd.2.1 rfl kk) ?_
  refine wq (fun _ _ kk => rs_bipush (v := 60) (pc := 4) dX12_isCounted_4 rfl kk) ?_
  refine wq_bn (fun _ _ kt kf => rs_icmp_ne (tgt := 15) (pc := 6) dX12_isCounted_6 rfl kt kf) (fun c_6 => ?_) (fun c_6 => ?_)
  · refine wq (fun _ _ kk => rs_aload_n (pc := 15) dX12_isCounted_15 rfl kk) ?_
    refine wq (fun _ _ kk => rs_dup (pc := 16) dX12_isCounted_16 rfl kk) ?_
    refine wq (fun _ _ kk => rs_getf (pc := 17) dX12_isCounted_17 fX12_300 (md_lt hmd (by decide)) hmd.2.1 rfl kk) ?_
    refine wq (fun _ _ kk => rs_iconst (v := 1) (pc := 20) dX12_isCounted_20 rfl kk) ?_
    refine wq (fun _ _ kk => rs_iadd (pc := 21) dX12_isCounted_21 kk) ?_
    refine wq (fun _ _ kk => rs_putf (pc := 22) dX12_isCounted_22 fX12_300 (md_lt hmd (by decide)) hmd.2.1 rfl (Nat.le_of_ble_eq_true rfl) kk) ?_
    refine wq_gen (fun h_1 e_1 => ?_)
    obtain ⟨m_1, s_1, g_1, o_1⟩ := ai_e1 e_1
    replace hmd := md_at_si (k := 28) hmd m_1 g_1 o_1 rfl
    have E_1 := (md_ext.rf).trans (md_ext_of m_1 s_1 o_1 (by decide))
    obtain ⟨S_22, hmd, k_22, r_22, s_22⟩ := md_new hmd
    refine wq_ret ?_ (rs_vret (pc := 25) dX12_isCounted_25 rfl)
    exact ⟨rfl, E_1, S_22, hmd, fun j a b => r_22 j b, s_22, k_22, by rw [r_22 24 (by decide), if_neg c_6]⟩
  · refine wq (fun _ _ kk => rs_aload_n (pc := 9) dX12_isCounted_9 rfl kk) ?_
    refine wq (fun _ _ kk => rs_iconst (v := 3) (pc := 10) dX12_isCounted_10 rfl kk) ?_
    refine wq (fun _ _ kk => rs_iload_n (pc := 11) dX12_isCounted_11 rfl kk) ?_
    obtain ⟨rv_12, hc_12, ⟨rfl, ee_12, T_12, hmd_12, ⟨q1, q2⟩, q3⟩, hm_12⟩ := c_X12_fails (c := 3) (a := a) hmd
    refine wq (fun _ _ kk => rs_callV (as := [_, _]) (pc := 12) dX12_isCounted_12 mk_X12_fails mlX12_303 in_X12_fails se_X12_fails rfl (md_lt hmd (by decide)) hmd.2.1 rfl rfl (Nat.le_of_ble_eq_true rfl) (hm_12) kk) ?_
    replace hmd := hmd_12
    have E_12 := (md_ext.rf).trans ee_12
    refine wq (fun _ _ kk => rs_aload_n (pc := 15) dX12_isCounted_15 rfl kk) ?_
    refine wq (fun _ _ kk => rs_dup (pc := 16) dX12_isCounted_16 rfl kk) ?_
    refine wq (fun _ _ kk => rs_getf (pc := 17) dX12_isCounted_17 fX12_300 (md_lt hmd (by decide)) hmd.2.1 rfl kk) ?_
    refine wq (fun _ _ kk => rs_iconst (v := 1) (pc := 20) dX12_isCounted_20 rfl kk) ?_
    refine wq (fun _ _ kk => rs_iadd (pc := 21) dX12_isCounted_21 kk) ?_
    refine wq (fun _ _ kk => rs_putf (pc := 22) dX12_isCounted_22 fX12_300 (md_lt hmd (by decide)) hmd.2.1 rfl (Nat.le_of_ble_eq_true rfl) kk) ?_
    refine wq_gen (fun h_2 e_2 => ?_)
    obtain ⟨m_2, s_2, g_2, o_2⟩ := ai_e1 e_2
    replace hmd := md_at_si (k := 28) hmd m_2 g_2 o_2 rfl
    have E_2 := (E_12).trans (md_ext_of m_2 s_2 o_2 (by decide))
    obtain ⟨S_22, hmd, k_22, r_22, s_22⟩ := md_new hmd
    refine wq_ret ?_ (rs_vret (pc := 25) dX12_isCounted_25 rfl)
    exact ⟨rfl, E_2, S_22, hmd, fun j a b => by rw [r_22 j b, q1 j a], by rw [s_22, q2], by rw [k_22, q1 28 (by decide)], by rw [r_22 24 (by decide), q3, if_pos c_6]⟩
theorem MT_cong {S T : Md} {r o : Nat} {L : List Tk} (h : MT S r o L) (e : ∀ k, k < L.length → T.2.2.1 31 (300 * r + (o + k)) = S.2.2.1 31 (300 * r + (o + k)) ∧ T.2.2.1 32 (300 * r + (o + k)) = S.2.2.1 32 (300 * r + (o + k))) : MT T r o L := fun k t hk => by
  have hl := (List.getElem?_eq_some_iff.mp hk).1
  rw [(e k hl).1, (e k hl).2]
  exact h k t hk
theorem e300 (r l : Nat) : nI 300 * nI r + nI l = nI (300 * r + l) := by rw [nI_mul, nI_add]
theorem dX12_entry_0 : decode cX12_entry 0 = .ok (.aload_n 0, 1) := by decide +kernel
theorem dX12_entry_1 : decode cX12_entry 1 = .ok (.getfield 264, 3) := by decide +kernel
theorem dX12_entry_4 : decode cX12_entry 4 = .ok (.ifCond .ne 51, 3) := by decide +kernel
theorem dX12_entry_7 : decode cX12_entry 7 = .ok (.aload_n 0, 1) := by decide +kernel
theorem dX12_entry_8 : decode cX12_entry 8 = .ok (.getfield 62, 3) := by decide +kernel
theorem dX12_entry_11 : decode cX12_entry 11 = .ok (.sipush 300, 3) := by decide +kernel
theorem dX12_entry_14 : decode cX12_entry 14 = .ok (.aload_n 0, 1) := by decide +kernel
theorem dX12_entry_15 : decode cX12_entry 15 = .ok (.getfield 294, 3) := by decide +kernel
theorem dX12_entry_18 : decode cX12_entry 18 = .ok (.imul, 1) := by decide +kernel
theorem dX12_entry_19 : decode cX12_entry 19 = .ok (.aload_n 0, 1) := by decide +kernel
theorem dX12_entry_20 : decode cX12_entry 20 = .ok (.getfield 297, 3) := by decide +kernel
theorem dX12_entry_23 : decode cX12_entry 23 = .ok (.iadd, 1) := by decide +kernel
theorem dX12_entry_24 : decode cX12_entry 24 = .ok (.iload_n 1, 1) := by decide +kernel
theorem dX12_entry_25 : decode cX12_entry 25 = .ok (.iastore, 1) := by decide +kernel
theorem dX12_entry_26 : decode cX12_entry 26 = .ok (.aload_n 0, 1) := by decide +kernel
theorem dX12_entry_27 : decode cX12_entry 27 = .ok (.getfield 65, 3) := by decide +kernel
theorem dX12_entry_30 : decode cX12_entry 30 = .ok (.sipush 300, 3) := by decide +kernel
theorem dX12_entry_33 : decode cX12_entry 33 = .ok (.aload_n 0, 1) := by decide +kernel
theorem dX12_entry_34 : decode cX12_entry 34 = .ok (.getfield 294, 3) := by decide +kernel
theorem dX12_entry_37 : decode cX12_entry 37 = .ok (.imul, 1) := by decide +kernel
theorem dX12_entry_38 : decode cX12_entry 38 = .ok (.aload_n 0, 1) := by decide +kernel
theorem dX12_entry_39 : decode cX12_entry 39 = .ok (.getfield 297, 3) := by decide +kernel
theorem dX12_entry_42 : decode cX12_entry 42 = .ok (.iadd, 1) := by decide +kernel
theorem dX12_entry_43 : decode cX12_entry 43 = .ok (.iload_n 2, 1) := by decide +kernel
theorem dX12_entry_44 : decode cX12_entry 44 = .ok (.iastore, 1) := by decide +kernel
theorem dX12_entry_45 : decode cX12_entry 45 = .ok (.aload_n 0, 1) := by decide +kernel
theorem dX12_entry_46 : decode cX12_entry 46 = .ok (.dup, 1) := by decide +kernel
theorem dX12_entry_47 : decode cX12_entry 47 = .ok (.getfield 297, 3) := by decide +kernel
theorem dX12_entry_50 : decode cX12_entry 50 = .ok (.iconst 1, 1) := by decide +kernel
theorem dX12_entry_51 : decode cX12_entry 51 = .ok (.iadd, 1) := by decide +kernel
theorem dX12_entry_52 : decode cX12_entry 52 = .ok (.putfield 297, 3) := by decide +kernel
theorem dX12_entry_55 : decode cX12_entry 55 = .ok (.return_, 1) := by decide +kernel
set_option maxRecDepth 100000 in
set_option maxHeartbeats 4000000 in
theorem c_X12_entry {h : ai_H} {S : Md} {t : Nat → Nat} {n r : Nat} {E : List Tk} {k v : Nat} (hmd : md_at h S) (htx : tx_m t n r S) (h0 : S.1 24 = 0) (he : S.1 26 = nI E.length) (hE : MT S r 0 E) (hl : E.length < 300) : ai_QM MX12_entry [.ref 307, .int (nI k), .int (nI v)] h (fun rv g => rv = none ∧ md_ext h g ∧ ∃ T, md_at g T ∧ pfm r S T ∧ (∀ j, j ≠ 26 → T.1 j = S.1 j) ∧ T.2.2.1 37 = S.2.2.1 37 ∧ T.1 26 = nI (E ++ [(k, v)]).length ∧ MT T r 0 (E ++ [(k, v)])) := by
  obtain ⟨x22, hn4, x25, hr9, xt⟩ := id htx
  refine qm_of (ls := [.ref 307, .int (nI k), .int (nI v)]) (by decide) (by simp [ai_en, Value.category]) (by rfl) ?_
  refine wq (fun _ _ kk => rs_aload_n (pc := 0) dX12_entry_0 rfl kk) ?_
  refine wq (fun _ _ kk => rs_getf (pc := 1) dX12_entry_1 fX12_264 (md_lt hmd (by decide)) hmd.2.1 rfl kk) ?_
  refine wq_bn (fun _ _ kt kf => rs_if_ne (tgt := 55) (pc := 4) dX12_entry_4 rfl kt kf) (fun c_4 => absurd c_4 (fun z => z h0)) (fun c_4 => ?_)
  refine wq (fun _ _ kk => rs_aload_n (pc := 7) dX12_entry_7 rfl kk) ?_
  refine wq (fun _ _ kk => rs_getf (pc := 8) dX12_entry_8 fX12_62 (md_lt hmd (by decide)) hmd.2.1 rfl kk) ?_
  refine wq (fun _ _ kk => rs_sipush (v := 300) (pc := 11) dX12_entry_11 rfl kk) ?_
  refine wq (fun _ _ kk => rs_aload_n (pc := 14) dX12_entry_14 rfl kk) ?_
  refine wq (fun _ _ kk => rs_getf (pc := 15) dX12_entry_15 fX12_294 (md_lt hmd (by decide)) hmd.2.1 rfl kk) ?_
  rw [x25]
  refine wq (fun _ _ kk => rs_imul (pc := 18) dX12_entry_18 kk) ?_
  refine wq (fun _ _ kk => rs_aload_n (pc := 19) dX12_entry_19 rfl kk) ?_
  refine wq (fun _ _ kk => rs_getf (pc := 20) dX12_entry_20 fX12_297 (md_lt hmd (by decide)) hmd.2.1 rfl kk) ?_
  rw [he]
  refine wq (fun _ _ kk => rs_iadd (pc := 23) dX12_entry_23 kk) ?_
  rw [show (300 : Int32) = nI 300 from rfl, e300]
  refine wq (fun _ _ kk => rs_iload_n (pc := 24) dX12_entry_24 rfl kk) ?_
  refine wq (fun _ _ kk => rs_iast (pc := 25) dX12_entry_25 (md_lt hmd (by decide)) (md_geti (d := 17) (k := 31) (kd := 0) (n := 3000) rfl (by decide) hmd) (vp_in_nI (n := 300 * r + E.length) (N := 3000) (by omega) (by decide)) kk) ?_
  refine wq_gen (fun h_1 e_1 => ?_)
  obtain ⟨m_1, s_1, g_1, o_1⟩ := ai_e1 e_1
  replace hmd := md_at_ai (d := 17) rfl (by decide) hmd m_1 g_1 o_1
  have E_1 := (md_ext.rf).trans (md_ext_of m_1 s_1 o_1 (by decide))
  rw [nI_clamp (show 300 * r + E.length < 2 ^ 31 by omega)] at hmd
  obtain ⟨S_25, hmd, k_25, a_25, b_25, c_25, d_25⟩ := md_row hmd
  refine wq (fun _ _ kk => rs_aload_n (pc := 26) dX12_entry_26 rfl kk) ?_
  refine wq (fun _ _ kk => rs_getf (pc := 27) dX12_entry_27 fX12_65 (md_lt hmd (by decide)) hmd.2.1 rfl kk) ?_
  refine wq (fun _ _ kk => rs_sipush (v := 300) (pc := 30) dX12_entry_30 rfl kk) ?_
  refine wq (fun _ _ kk => rs_aload_n (pc := 33) dX12_entry_33 rfl kk) ?_
  refine wq (fun _ _ kk => rs_getf (pc := 34) dX12_entry_34 fX12_294 (md_lt hmd (by decide)) hmd.2.1 rfl kk) ?_
  rw [a_25, x25]
  refine wq (fun _ _ kk => rs_imul (pc := 37) dX12_entry_37 kk) ?_
  refine wq (fun _ _ kk => rs_aload_n (pc := 38) dX12_entry_38 rfl kk) ?_
  refine wq (fun _ _ kk => rs_getf (pc := 39) dX12_entry_39 fX12_297 (md_lt hmd (by decide)) hmd.2.1 rfl kk) ?_
  rw [a_25, he]
  refine wq (fun _ _ kk => rs_iadd (pc := 42) dX12_entry_42 kk) ?_
  rw [show (300 : Int32) = nI 300 from rfl, e300]
  refine wq (fun _ _ kk => rs_iload_n (pc := 43) dX12_entry_43 rfl kk) ?_
  refine wq (fun _ _ kk => rs_iast (pc := 44) dX12_entry_44 (md_lt hmd (by decide)) (md_geti (d := 18) (k := 32) (kd := 0) (n := 3000) rfl (by decide) hmd) (vp_in_nI (n := 300 * r + E.length) (N := 3000) (by omega) (by decide)) kk) ?_
  refine wq_gen (fun h_2 e_2 => ?_)
  obtain ⟨m_2, s_2, g_2, o_2⟩ := ai_e1 e_2
  replace hmd := md_at_ai (d := 18) rfl (by decide) hmd m_2 g_2 o_2
  have E_2 := (E_1).trans (md_ext_of m_2 s_2 o_2 (by decide))
  rw [nI_clamp (show 300 * r + E.length < 2 ^ 31 by omega)] at hmd
  obtain ⟨S_44, hmd, k_44, a_44, b_44, c_44, d_44⟩ := md_row hmd
  refine wq (fun _ _ kk => rs_aload_n (pc := 45) dX12_entry_45 rfl kk) ?_
  refine wq (fun _ _ kk => rs_dup (pc := 46) dX12_entry_46 rfl kk) ?_
  refine wq (fun _ _ kk => rs_getf (pc := 47) dX12_entry_47 fX12_297 (md_lt hmd (by decide)) hmd.2.1 rfl kk) ?_
  rw [a_44, a_25, he]
  refine wq (fun _ _ kk => rs_iconst (v := 1) (pc := 50) dX12_entry_50 rfl kk) ?_
  refine wq (fun _ _ kk => rs_iadd (pc := 51) dX12_entry_51 kk) ?_
  refine wq (fun _ _ kk => rs_putf (pc := 52) dX12_entry_52 fX12_297 (md_lt hmd (by decide)) hmd.2.1 rfl (Nat.le_of_ble_eq_true rfl) kk) ?_
  refine wq_gen (fun h_3 e_3 => ?_)
  obtain ⟨m_3, s_3, g_3, o_3⟩ := ai_e1 e_3
  replace hmd := md_at_si (k := 26) hmd m_3 g_3 o_3 rfl
  have E_3 := (E_2).trans (md_ext_of m_3 s_3 o_3 (by decide))
  obtain ⟨S_52, hmd, k_52, r_52, s_52⟩ := md_new hmd
  rw [nI_1] at k_52
  refine wq_ret ?_ (rs_vret (pc := 55) dX12_entry_55 rfl)
  have f31 : S_52.2.2.1 31 = upd (S.2.2.1 31) (300 * r + E.length) (nI k) := by rw [s_52, d_44 31 (by decide), k_25]
  have f32 : S_52.2.2.1 32 = upd (S.2.2.1 32) (300 * r + E.length) (nI v) := by rw [s_52, k_44, d_25 32 (by decide)]
  refine ⟨rfl, E_3, S_52, hmd, ⟨fun j h1 h2 h3 h4 h5 h6 => by rw [r_52 j h3, a_44, a_25], by rw [s_52, b_44, b_25], by rw [s_52, c_44, c_25], fun j h1 h2 h3 => by rw [s_52, d_44 j h2, d_25 j h1], fun i hi => ⟨by rw [f31]; exact pk_un (by omega), by rw [f32]; exact pk_un (by omega)⟩⟩, fun j hj => by rw [r_52 j hj, a_44, a_25], by rw [s_52, d_44 37 (by decide), d_25 37 (by decide)], by rw [k_52, List.length_append]; rfl, fun i u hi => ?_⟩
  by_cases ei : i = E.length
  · subst ei
    rw [List.getElem?_append_right (Nat.le_refl _), Nat.sub_self] at hi
    cases hi
    rw [f31, f32, Nat.zero_add]
    exact ⟨pk_us, pk_us⟩
  · have hl : i < (E ++ [(k, v)]).length := (List.getElem?_eq_some_iff.mp hi).1
    rw [List.length_append] at hl
    have hl2 : i < E.length := by
      have : [(k, v)].length = 1 := rfl
      omega
    rw [List.getElem?_append_left hl2] at hi
    rw [f31, f32, Nat.zero_add, pk_un (by omega), pk_un (by omega)]
    have := hE i u hi
    rw [Nat.zero_add] at this
    exact this
set_option maxRecDepth 100000 in
set_option maxHeartbeats 4000000 in
theorem q_X12_entryF {h : ai_H} {S : Md} {k v : Int32} (hmd : md_at h S) (h0 : ¬ S.1 24 = 0) : ai_QM MX12_entry [.ref 307, .int k, .int v] h (fun rv g => rv = none ∧ g = h) := by
  refine qm_of (ls := [.ref 307, .int k, .int v]) (by decide) (by simp [ai_en, Value.category]) (by rfl) ?_
  refine wq (fun _ _ kk => rs_aload_n (pc := 0) dX12_entry_0 rfl kk) ?_
  refine wq (fun _ _ kk => rs_getf (pc := 1) dX12_entry_1 fX12_264 (md_lt hmd (by decide)) hmd.2.1 rfl kk) ?_
  refine wq_bn (fun _ _ kt kf => rs_if_ne (tgt := 55) (pc := 4) dX12_entry_4 rfl kt kf) (fun c_4 => ?_) (fun c_4 => absurd c_4 (fun z => h0 z))
  refine wq_ret ?_ (rs_vret (pc := 55) dX12_entry_55 rfl)
  exact ⟨rfl, rfl⟩
