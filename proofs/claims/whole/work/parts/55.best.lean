/-! 55: gives, left, best of the class (walks laid by wip/whole/p55.py) -/
theorem stp_len : ∀ C : List Cl, (stp C).length = (ent C).length + C.length
  | [] => rfl
  | c :: C => by
    simp only [stp, ent, List.length_append, List.length_map, List.length_cons, stp_len C]
    omega
/-- the laws of the class -/
def LWS (h : ai_H) (nl : Nat) (Ls : Nat → List Cl) : Prop := nl ≤ 10 ∧ ∃ L : Nat → Option Nat, h.2.2 14 = .inl (5, 10, .inr (.inr (.inr (.inr L)))) ∧ ∀ r, r < nl → ∃ q p f, L r = some q ∧ law_at h q p (stp (Ls r)).length f ∧ (∀ k m, (stp (Ls r))[k]? = some m → f k = nI m) ∧ lwOK (Ls r)
theorem LWS.keep {h g : ai_H} {nl : Nat} {Ls : Nat → List Cl} (a : LWS h nl Ls) (m : g.1 = h.1) (o : g.2.2 14 = h.2.2 14) (o2 : ∀ j, 361 < j → g.2.2 j = h.2.2 j) : LWS g nl Ls := by
  obtain ⟨a1, L, a2, a3⟩ := a
  refine ⟨a1, L, o.trans a2, fun r hr => ?_⟩
  obtain ⟨q, p, f, b1, b2, b3⟩ := a3 r hr
  exact ⟨q, p, f, b1, law_keep b2 m o2, b3⟩
theorem lawOf_ex {h : ai_H} {nl : Nat} {Ls : Nat → List Cl} (a : LWS h nl Ls) (n : Int32) : ∃ L : Nat → Option Nat, h.2.2 14 = .inl (5, 10, .inr (.inr (.inr (.inr L)))) ∧ ((bi_in n 0 (nI nl - 1) = 0 ∧ va_rf (xs_lawOf (nI nl) L n) = .null) ∨ (¬ bi_in n 0 (nI nl - 1) = 0 ∧ ∃ r q p f, r < nl ∧ n = nI r ∧ va_rf (xs_lawOf (nI nl) L n) = .ref q ∧ law_at h q p (stp (Ls r)).length f ∧ (∀ k m, (stp (Ls r))[k]? = some m → f k = nI m) ∧ lwOK (Ls r))) := by
  obtain ⟨a1, L, a2, a3⟩ := a
  refine ⟨L, a2, ?_⟩
  by_cases c : bi_in n 0 (nI nl - 1) = 0
  · exact Or.inl ⟨c, by unfold xs_lawOf; rw [if_pos c]; rfl⟩
  · have c' := c
    rw [tbh_in (by omega)] at c'
    obtain ⟨r, r1, r2⟩ := has_ex (by omega) c'
    obtain ⟨q, p, f, b1, b2, b3⟩ := a3 r r1
    refine Or.inr ⟨c, r, q, p, f, r1, r2, ?_, b2, b3⟩
    unfold xs_lawOf
    rw [if_neg c, r2, if_neg (by rw [i32_le, nI_toInt (by omega), show (10 : Int32).toInt = 10 from rfl]; omega), nI_clamp (by omega), b1]
    rfl
/-- scale and lefts changed -/
def lx (h g : ai_H) : Prop := g.1 = h.1 ∧ g.2.1 = h.2.1 ∧ ∀ j, (j < 15 ∨ (15 < j ∧ j < 20) ∨ 21 < j) → g.2.2 j = h.2.2 j
theorem lx.rf {h : ai_H} : lx h h := ⟨rfl, rfl, fun _ _ => rfl⟩
theorem lx.trans {h g k : ai_H} (a : lx h g) (b : lx g k) : lx h k := ⟨b.1.trans a.1, b.2.1.trans a.2.1, fun j hj => (b.2.2 j hj).trans (a.2.2 j hj)⟩
theorem lx_of {h g : ai_H} {q : Nat} (m : g.1 = h.1) (s : g.2.1 = h.2.1) (o : ∀ j, j ≠ q → g.2.2 j = h.2.2 j) (hq : q = 15 ∨ (20 ≤ q ∧ q ≤ 21)) : lx h g := ⟨m, s, fun j hj => o j (by omega)⟩
theorem sx.l {h g : ai_H} (a : sx h g) : lx h g := ⟨a.1, a.2.1, fun j hj => a.2.2 j (by omega)⟩
theorem lx.f {h g : ai_H} (a : lx h g) : fr 15 306 h g := ⟨a.1, a.2.1, fun j hj => a.2.2 j (by omega)⟩
theorem scr.law {h g : ai_H} (hs : scr h) (e : lx h g) (h1 : ∃ f, g.2.2 15 = .inl (1, 10, .inr (.inl f))) (h3 : ∃ S, sc_at g S) : scr g := by
  obtain ⟨-, ⟨t, S2, a2, a2'⟩, -, ⟨S4, a4⟩, ⟨T5, a5⟩, ⟨S6, a6⟩, ⟨S7, a7⟩, ⟨c, S8, t8, a8, a8', a8''⟩, ⟨t9, a9⟩⟩ := hs
  exact ⟨h1, ⟨t, S2, a2, rd_keep a2' e.1 (fun j _ _ => e.2.2 j (by omega))⟩, h3, ⟨S4, cl_keep a4 e.1 (fun j _ _ => e.2.2 j (by omega))⟩, ⟨T5, mt_keep a5 e.1 (fun j _ _ => e.2.2 j (by omega))⟩, ⟨S6, rp_keep a6 e.1 (fun j _ _ => e.2.2 j (by omega))⟩, ⟨S7, bo_keep a7 e.1 (fun j _ _ => e.2.2 j (by omega))⟩, ⟨c, S8, t8, a8, wo_keep a8' e.1 (fun j _ _ => e.2.2 j (by omega)), (e.2.2 _ (by decide)).trans a8''⟩, ⟨t9, (e.2.2 _ (by decide)).trans a9⟩⟩
theorem hld_b (v : Int64) : -999999 ≤ (hld v).toInt ∧ (hld v).toInt ≤ 999999 := by
  have l1 : (-999999 : Int64).toInt = -999999 := by decide
  have l2 : (999999 : Int64).toInt = 999999 := by decide
  unfold hld
  by_cases c1 : v < -999999
  · rw [if_pos c1, l1]; omega
  · rw [if_neg c1]
    rw [Int64.lt_iff_toInt_lt, l1] at c1
    by_cases c2 : 999999 < v
    · rw [if_pos c2, l2]; omega
    · rw [if_neg c2]
      rw [Int64.lt_iff_toInt_lt, l2] at c2
      omega
theorem hld_i (v : Int64) : (hld v).toInt32.toInt64 = hld v := by
  have := hld_b v
  rw [← aL_to (hld v), aL_l2i, aI_i2l (by omega) (by omega)]
/-- what a law leaves -/
def lvS (B : Bk) (C : List Cl) (o k : Int32) : Nat → Int64
  | 0 => 0
  | i + 1 => if bk_own B (nI i) o k = 0 then lvS B C o k i else lvS B C o k i + (1000 * (bk_late B (nI i)).toInt64 - hld (lwv (bkw B (nI i)) C)) * (1000 * (bk_late B (nI i)).toInt64 - hld (lwv (bkw B (nI i)) C))
theorem dX11_gives_0 : decode cX11_gives 0 = .ok (.aload_n 0, 1) := by decide +kernel
theorem dX11_gives_1 : decode cX11_gives 1 = .ok (.iload_n 1, 1) := by decide +kernel
theorem dX11_gives_2 : decode cX11_gives 2 = .ok (.invokevirtual 169, 3) := by decide +kernel
theorem dX11_gives_5 : decode cX11_gives 5 = .ok (.astore_n 3, 1) := by decide +kernel
theorem dX11_gives_6 : decode cX11_gives 6 = .ok (.aload_n 3, 1) := by decide +kernel
theorem dX11_gives_7 : decode cX11_gives 7 = .ok (.ifnull 17, 3) := by decide +kernel
theorem dX11_gives_10 : decode cX11_gives 10 = .ok (.aload_n 0, 1) := by decide +kernel
theorem dX11_gives_11 : decode cX11_gives 11 = .ok (.getfield 10, 3) := by decide +kernel
theorem dX11_gives_14 : decode cX11_gives 14 = .ok (.getfield 135, 3) := by decide +kernel
theorem dX11_gives_17 : decode cX11_gives 17 = .ok (.iload_n 2, 1) := by decide +kernel
theorem dX11_gives_18 : decode cX11_gives 18 = .ok (.invokevirtual 138, 3) := by decide +kernel
theorem dX11_gives_21 : decode cX11_gives 21 = .ok (.ifCond .ne 6, 3) := by decide +kernel
theorem dX11_gives_24 : decode cX11_gives 24 = .ok (.ldc 173, 2) := by decide +kernel
theorem dX11_gives_26 : decode cX11_gives 26 = .ok (.ireturn, 1) := by decide +kernel
theorem dX11_gives_27 : decode cX11_gives 27 = .ok (.aload_n 0, 1) := by decide +kernel
theorem dX11_gives_28 : decode cX11_gives 28 = .ok (.getfield 51, 3) := by decide +kernel
theorem dX11_gives_31 : decode cX11_gives 31 = .ok (.aload_n 3, 1) := by decide +kernel
theorem dX11_gives_32 : decode cX11_gives 32 = .ok (.aload_n 0, 1) := by decide +kernel
theorem dX11_gives_33 : decode cX11_gives 33 = .ok (.getfield 10, 3) := by decide +kernel
theorem dX11_gives_36 : decode cX11_gives 36 = .ok (.iload_n 2, 1) := by decide +kernel
theorem dX11_gives_37 : decode cX11_gives 37 = .ok (.invokevirtual 174, 3) := by decide +kernel
theorem dX11_gives_40 : decode cX11_gives 40 = .ok (.ireturn, 1) := by decide +kernel
set_option maxRecDepth 100000 in
set_option maxHeartbeats 4000000 in
theorem c_X11_gives {h : ai_H} {tb : Int32} {B : Bk} {ln nl : Nat} {Ls : Nat → List Cl} (hx : x_at h tb (nI nl)) (hB : bk_at h 1 B) (hok : bk_ok B ln) (hLW : LWS h nl Ls) (hs : scr h) (n k : Int32) : ai_QM MX11_gives [.ref 0, .int n, .int k] h (fun res g => fr 15 306 h g ∧ scr g ∧ (((bi_in n 0 (nI nl - 1) = 0 ∨ tb_has (bk_r B).1 k = 0) ∧ res = some (.int (-1000000))) ∨ (¬ (bi_in n 0 (nI nl - 1) = 0 ∨ tb_has (bk_r B).1 k = 0) ∧ ∃ r, r < nl ∧ n = nI r ∧ res = some (.int (hld (lwv (bkw B k) (Ls r))).toInt32)))) := by
  obtain ⟨⟨f15, hlf⟩, -, ⟨S3, hsc⟩, -⟩ := id hs
  obtain ⟨L, hLa, hlo⟩ := lawOf_ex hLW n
  refine qm_of (ls := [.ref 0, .int n, .int k, .float 0]) (by decide) (by simp [ai_en, Value.category]) (by rfl) ?_
  refine wq (fun _ _ kk => rs_aload_n (pc := 0) dX11_gives_0 rfl kk) ?_
  refine wq (fun _ _ kk => rs_iload_n (pc := 1) dX11_gives_1 rfl kk) ?_
  refine wq (fun _ _ kk => rs_callV (as := [_]) (pc := 2) dX11_gives_2 mk_X11_lawOf mlX11_169 in_X11_lawOf se_X11_lawOf rfl (x_lt hx (by decide)) hx.2 rfl rfl (Nat.le_of_ble_eq_true rfl) (c_X11_lawOf hx hLa n) kk) ?_
  rcases hlo with ⟨c0, elo⟩ | ⟨c0, r, q, p, f, hr, rfl, elo, hL, hf, hC⟩
  · rw [elo]
    refine wq (fun _ _ kk => wk_nstn3 (pc := 5) dX11_gives_5 (by decide) rfl kk) ?_
    refine wq (fun _ _ kk => rs_aload_nN (pc := 6) dX11_gives_6 rfl kk) ?_
    refine wq (fun _ _ kk => rs_ifnullN (tgt := 24) (pc := 7) dX11_gives_7 rfl kk) ?_
    refine wq (fun _ _ kk => rs_ldc (pc := 24) dX11_gives_24 cnX11_173 kk) ?_
    refine wq_ret ?_ (rs_iret (pc := 26) dX11_gives_26 rfl)
    exact ⟨fr.rf, hs, Or.inl ⟨by first | exact Or.inl c0 | exact Or.inr c_21, rfl⟩⟩
  · rw [elo]
    refine wq (fun _ _ kk => wk_astn3 (pc := 5) dX11_gives_5 (by decide) rfl kk) ?_
    refine wq (fun _ _ kk => rs_aload_n (pc := 6) dX11_gives_6 rfl kk) ?_
    refine wq (fun _ _ kk => rs_ifnull (pc := 7) dX11_gives_7 kk) ?_
    refine wq (fun _ _ kk => rs_aload_n (pc := 10) dX11_gives_10 rfl kk) ?_
    refine wq (fun _ _ kk => rs_getf (pc := 11) dX11_gives_11 fX11_10 (x_lt hx (by decide)) hx.2 rfl kk) ?_
    refine wq (fun _ _ kk => rs_getf (pc := 14) dX11_gives_14 fX11_135 (bk_lt hB (by decide)) hB.2.1 rfl kk) ?_
    refine wq (fun _ _ kk => rs_iload_n (pc := 17) dX11_gives_17 rfl kk) ?_
    refine wq (fun _ _ kk => rs_callV (as := [_]) (pc := 18) dX11_gives_18 mk_X8_has mlX11_138 in_X8_has se_X8_has rfl (bk_lt hB (by decide)) hB.2.2.2.2.2.1.1 rfl rfl (Nat.le_of_ble_eq_true rfl) (c_X8_has (bk_lt hB (by decide)) hB.2.2.2.2.2.1.1 _) kk) ?_
    refine wq_bn (fun _ _ kt kf => rs_if_ne (tgt := 27) (pc := 21) dX11_gives_21 rfl kt kf) (fun c_21 => ?_) (fun c_21 => ?_)
    · refine wq (fun _ _ kk => rs_aload_n (pc := 27) dX11_gives_27 rfl kk) ?_
      refine wq (fun _ _ kk => rs_getf (pc := 28) dX11_gives_28 fX11_51 (x_lt hx (by decide)) hx.2 rfl kk) ?_
      refine wq (fun _ _ kk => rs_aload_n (pc := 31) dX11_gives_31 rfl kk) ?_
      refine wq (fun _ _ kk => rs_aload_n (pc := 32) dX11_gives_32 rfl kk) ?_
      refine wq (fun _ _ kk => rs_getf (pc := 33) dX11_gives_33 fX11_10 (x_lt hx (by decide)) hx.2 rfl kk) ?_
      refine wq (fun _ _ kk => rs_iload_n (pc := 36) dX11_gives_36 rfl kk) ?_
      obtain ⟨rv_37, hc_37, ⟨ee_37, hsc_37, rfl⟩, hm_37⟩ := c_X7_weigh (by rw [stp_len]; have := hC.2.2; omega) hC.1 hC.2.1 hf rfl hB hL hsc
      refine wq (fun _ _ kk => rs_callV (as := [_, _, _]) (pc := 37) dX11_gives_37 mk_X7_weigh mlX11_174 in_X7_weigh se_X7_weigh rfl (mo_lt hsc (by decide)) hsc.2.1 rfl rfl (Nat.le_of_ble_eq_true rfl) (hm_37) kk) ?_
      refine wq_ret ?_ (rs_iret (pc := 40) dX11_gives_40 rfl)
      exact ⟨ee_37.l.f, hs.law ee_37.l ⟨_, (ee_37.2.2 15 (by decide)).trans hlf⟩ hsc_37, Or.inr ⟨by rintro (z | z); exact c0 z; exact c_21 z, r, hr, rfl, rfl⟩⟩
    · refine wq (fun _ _ kk => rs_ldc (pc := 24) dX11_gives_24 cnX11_173 kk) ?_
      refine wq_ret ?_ (rs_iret (pc := 26) dX11_gives_26 rfl)
      exact ⟨fr.rf, hs, Or.inl ⟨by first | exact Or.inl c0 | exact Or.inr c_21, rfl⟩⟩
theorem dX11_leftBy_0 : decode cX11_leftBy 0 = .ok (.lconst 0, 1) := by decide +kernel
theorem dX11_leftBy_1 : decode cX11_leftBy 1 = .ok (.lstore 4, 2) := by decide +kernel
theorem dX11_leftBy_3 : decode cX11_leftBy 3 = .ok (.iconst 0, 1) := by decide +kernel
theorem dX11_leftBy_4 : decode cX11_leftBy 4 = .ok (.istore 6, 2) := by decide +kernel
theorem dX11_leftBy_6 : decode cX11_leftBy 6 = .ok (.iload 6, 2) := by decide +kernel
theorem dX11_leftBy_8 : decode cX11_leftBy 8 = .ok (.aload_n 0, 1) := by decide +kernel
theorem dX11_leftBy_9 : decode cX11_leftBy 9 = .ok (.getfield 10, 3) := by decide +kernel
theorem dX11_leftBy_12 : decode cX11_leftBy 12 = .ok (.getfield 135, 3) := by decide +kernel
theorem dX11_leftBy_15 : decode cX11_leftBy 15 = .ok (.getfield 224, 3) := by decide +kernel
theorem dX11_leftBy_18 : decode cX11_leftBy 18 = .ok (.if_icmp .ge 65, 3) := by decide +kernel
theorem dX11_leftBy_21 : decode cX11_leftBy 21 = .ok (.aload_n 0, 1) := by decide +kernel
theorem dX11_leftBy_22 : decode cX11_leftBy 22 = .ok (.getfield 10, 3) := by decide +kernel
theorem dX11_leftBy_25 : decode cX11_leftBy 25 = .ok (.iload 6, 2) := by decide +kernel
theorem dX11_leftBy_27 : decode cX11_leftBy 27 = .ok (.iload_n 2, 1) := by decide +kernel
theorem dX11_leftBy_28 : decode cX11_leftBy 28 = .ok (.iload_n 3, 1) := by decide +kernel
theorem dX11_leftBy_29 : decode cX11_leftBy 29 = .ok (.invokevirtual 330, 3) := by decide +kernel
theorem dX11_leftBy_32 : decode cX11_leftBy 32 = .ok (.ifCond .eq 45, 3) := by decide +kernel
theorem dX11_leftBy_35 : decode cX11_leftBy 35 = .ok (.ldc2_w 346, 3) := by decide +kernel
theorem dX11_leftBy_38 : decode cX11_leftBy 38 = .ok (.aload_n 0, 1) := by decide +kernel
theorem dX11_leftBy_39 : decode cX11_leftBy 39 = .ok (.getfield 10, 3) := by decide +kernel
theorem dX11_leftBy_42 : decode cX11_leftBy 42 = .ok (.iload 6, 2) := by decide +kernel
theorem dX11_leftBy_44 : decode cX11_leftBy 44 = .ok (.invokevirtual 336, 3) := by decide +kernel
theorem dX11_leftBy_47 : decode cX11_leftBy 47 = .ok (.i2l, 1) := by decide +kernel
theorem dX11_leftBy_48 : decode cX11_leftBy 48 = .ok (.lmul, 1) := by decide +kernel
theorem dX11_leftBy_49 : decode cX11_leftBy 49 = .ok (.aload_n 0, 1) := by decide +kernel
theorem dX11_leftBy_50 : decode cX11_leftBy 50 = .ok (.getfield 51, 3) := by decide +kernel
theorem dX11_leftBy_53 : decode cX11_leftBy 53 = .ok (.aload_n 1, 1) := by decide +kernel
theorem dX11_leftBy_54 : decode cX11_leftBy 54 = .ok (.aload_n 0, 1) := by decide +kernel
theorem dX11_leftBy_55 : decode cX11_leftBy 55 = .ok (.getfield 10, 3) := by decide +kernel
theorem dX11_leftBy_58 : decode cX11_leftBy 58 = .ok (.iload 6, 2) := by decide +kernel
theorem dX11_leftBy_60 : decode cX11_leftBy 60 = .ok (.invokevirtual 174, 3) := by decide +kernel
theorem dX11_leftBy_63 : decode cX11_leftBy 63 = .ok (.i2l, 1) := by decide +kernel
theorem dX11_leftBy_64 : decode cX11_leftBy 64 = .ok (.lsub, 1) := by decide +kernel
theorem dX11_leftBy_65 : decode cX11_leftBy 65 = .ok (.lstore 7, 2) := by decide +kernel
theorem dX11_leftBy_67 : decode cX11_leftBy 67 = .ok (.lload 4, 2) := by decide +kernel
theorem dX11_leftBy_69 : decode cX11_leftBy 69 = .ok (.lload 7, 2) := by decide +kernel
theorem dX11_leftBy_71 : decode cX11_leftBy 71 = .ok (.lload 7, 2) := by decide +kernel
theorem dX11_leftBy_73 : decode cX11_leftBy 73 = .ok (.lmul, 1) := by decide +kernel
theorem dX11_leftBy_74 : decode cX11_leftBy 74 = .ok (.ladd, 1) := by decide +kernel
theorem dX11_leftBy_75 : decode cX11_leftBy 75 = .ok (.lstore 4, 2) := by decide +kernel
theorem dX11_leftBy_77 : decode cX11_leftBy 77 = .ok (.iinc 6 1, 3) := by decide +kernel
theorem dX11_leftBy_80 : decode cX11_leftBy 80 = .ok (.goto (-74), 3) := by decide +kernel
theorem dX11_leftBy_83 : decode cX11_leftBy 83 = .ok (.lload 4, 2) := by decide +kernel
theorem dX11_leftBy_85 : decode cX11_leftBy 85 = .ok (.lreturn, 1) := by decide +kernel
set_option maxRecDepth 100000 in
set_option maxHeartbeats 4000000 in
theorem l_X11_leftBy {h : ai_H} {tb : Int32} {B : Bk} {ln nl q p : Nat} {f : Nat → Int32} {C : List Cl} {o k : Int32} (hok : bk_ok B ln) (hf : ∀ k m, (stp C)[k]? = some m → f k = nI m) (hC : lwOK C) : ∀ (m i : Nat) (u7 u8 : Value) (S3 : Md) (g : ai_H), i ≤ nR B → nR B + 1 ≤ i + m → sx h g → x_at g tb (nI nl) → bk_at g 1 B → law_at g q p (stp C).length f → sc_at g S3 → ai_W MX11_leftBy 6 [.ref 0, .ref q, .int o, .int k, .long (lvS B C o k i), .float 0, .int (nI i), u7, u8] [] g (fun r g => r = some (.long (lvS B C o k (nR B))) ∧ sx h g ∧ ∃ S, sc_at g S) := by
  have hr4 := hok.2.2.2.2.1.2.1
  intro m
  induction m with
  | zero => intro i u7 u8 S3 g h1 h2; exact absurd h2 (by omega)
  | succ m ih =>
    intro i u7 u8 S3 g hi0 him E0 hx hB hL hsc
    refine wq (fun _ _ kk => rs_iload (pc := 6) dX11_leftBy_6 rfl kk) ?_
    refine wq (fun _ _ kk => rs_aload_n (pc := 8) dX11_leftBy_8 rfl kk) ?_
    refine wq (fun _ _ kk => rs_getf (pc := 9) dX11_leftBy_9 fX11_10 (x_lt hx (by decide)) hx.2 rfl kk) ?_
    refine wq (fun _ _ kk => rs_getf (pc := 12) dX11_leftBy_12 fX11_135 (bk_lt hB (by decide)) hB.2.1 rfl kk) ?_
    refine wq (fun _ _ kk => rs_getf (pc := 15) dX11_leftBy_15 fX11_224 (bk_lt hB (by decide)) hB.2.2.2.2.2.1.1 rfl kk) ?_
    rw [hok.2.2.2.2.1.1]
    refine wq_br (fun _ _ kt kf => rs_icmp_ge (tgt := 83) (pc := 18) dX11_leftBy_18 rfl kt kf) (fun c_18 => ?_) (fun c_18 => ?_)
    · have hie : i = nR B := lp_exit rfl (by omega) hi0 c_18
      subst hie
      refine wq (fun _ _ kk => rs_lload (pc := 83) dX11_leftBy_83 rfl kk) ?_
      refine wq_ret ?_ (rs_lret (pc := 85) dX11_leftBy_85 rfl)
      exact ⟨rfl, E0, S3, hsc⟩
    · have hi : i < nR B := lp_go rfl (by omega) c_18
      refine wq (fun _ _ kk => rs_aload_n (pc := 21) dX11_leftBy_21 rfl kk) ?_
      refine wq (fun _ _ kk => rs_getf (pc := 22) dX11_leftBy_22 fX11_10 (x_lt hx (by decide)) hx.2 rfl kk) ?_
      refine wq (fun _ _ kk => rs_iload (pc := 25) dX11_leftBy_25 rfl kk) ?_
      refine wq (fun _ _ kk => rs_iload_n (pc := 27) dX11_leftBy_27 rfl kk) ?_
      refine wq (fun _ _ kk => rs_iload_n (pc := 28) dX11_leftBy_28 rfl kk) ?_
      refine wq (fun _ _ kk => rs_callV (as := [_, _, _]) (pc := 29) dX11_leftBy_29 mk_X1_isOwn mlX11_330 in_X1_isOwn se_X1_isOwn rfl (bk_lt hB (by decide)) hB.2.1 rfl rfl (Nat.le_of_ble_eq_true rfl) (c_X1_isOwn hB _ _ _) kk) ?_
      refine wq_br (fun _ _ kt kf => rs_if_eq (tgt := 77) (pc := 32) dX11_leftBy_32 rfl kt kf) (fun c_32 => ?_) (fun c_32 => ?_)
      · refine wq (fun _ _ kk => wk_iinc6 (v := nI (i + 1)) (pc := 77) dX11_leftBy_77 (by decide) rfl (nI_1 i) kk) ?_
        refine wq (fun _ _ kk => rs_goto (tgt := 6) (pc := 80) dX11_leftBy_80 rfl kk) ?_
        have e := ih (i + 1) u7 u8 S3 g (by omega) (by omega) E0 hx hB hL hsc
        rw [lvS, if_pos c_32] at e
        exact e
      · refine wq (fun _ _ kk => rs_ldc2 (pc := 35) dX11_leftBy_35 cnX11_346 kk) ?_
        refine wq (fun _ _ kk => rs_aload_n (pc := 38) dX11_leftBy_38 rfl kk) ?_
        refine wq (fun _ _ kk => rs_getf (pc := 39) dX11_leftBy_39 fX11_10 (x_lt hx (by decide)) hx.2 rfl kk) ?_
        refine wq (fun _ _ kk => rs_iload (pc := 42) dX11_leftBy_42 rfl kk) ?_
        refine wq (fun _ _ kk => rs_callV (as := [_]) (pc := 44) dX11_leftBy_44 mk_X1_late mlX11_336 in_X1_late se_X1_late rfl (bk_lt hB (by decide)) hB.2.1 rfl rfl (Nat.le_of_ble_eq_true rfl) (c_X1_late hB _) kk) ?_
        refine wq (fun _ _ kk => rs_i2l (pc := 47) dX11_leftBy_47 kk) ?_
        refine wq (fun _ _ kk => rs_lmul (pc := 48) dX11_leftBy_48 kk) ?_
        refine wq (fun _ _ kk => rs_aload_n (pc := 49) dX11_leftBy_49 rfl kk) ?_
        refine wq (fun _ _ kk => rs_getf (pc := 50) dX11_leftBy_50 fX11_51 (x_lt hx (by decide)) hx.2 rfl kk) ?_
        refine wq (fun _ _ kk => rs_aload_n (pc := 53) dX11_leftBy_53 rfl kk) ?_
        refine wq (fun _ _ kk => rs_aload_n (pc := 54) dX11_leftBy_54 rfl kk) ?_
        refine wq (fun _ _ kk => rs_getf (pc := 55) dX11_leftBy_55 fX11_10 (x_lt hx (by decide)) hx.2 rfl kk) ?_
        refine wq (fun _ _ kk => rs_iload (pc := 58) dX11_leftBy_58 rfl kk) ?_
        obtain ⟨rv_60, hc_60, ⟨ee_60, ⟨S4, hsc_60⟩, rfl⟩, hm_60⟩ := c_X7_weigh (rec := nI i) (by rw [stp_len]; have := hC.2.2; omega) hC.1 hC.2.1 hf rfl hB hL hsc
        refine wq (fun _ _ kk => rs_callV (as := [_, _, _]) (pc := 60) dX11_leftBy_60 mk_X7_weigh mlX11_174 in_X7_weigh se_X7_weigh rfl (mo_lt hsc (by decide)) hsc.2.1 rfl rfl (Nat.le_of_ble_eq_true rfl) (hm_60) kk) ?_
        have hL_60 := law_keep hL ee_60.1 (fun j hj => ee_60.2.2 j (by omega))
        have hx_60 := x_at.keep hx ee_60.1 (ee_60.2.2 0 (by decide))
        have hB_60 := hB.keep ee_60.1 (fun j _ _ => ee_60.2.2 j (by omega))
        refine wq (fun _ _ kk => rs_i2l (pc := 63) dX11_leftBy_63 kk) ?_
        rw [hld_i]
        refine wq (fun _ _ kk => rs_lsub (pc := 64) dX11_leftBy_64 kk) ?_
        refine wq (fun _ _ kk => wk_lst7 (pc := 65) dX11_leftBy_65 (by decide) rfl kk) ?_
        refine wq (fun _ _ kk => rs_lload (pc := 67) dX11_leftBy_67 rfl kk) ?_
        refine wq (fun _ _ kk => rs_lload (pc := 69) dX11_leftBy_69 rfl kk) ?_
        refine wq (fun _ _ kk => rs_lload (pc := 71) dX11_leftBy_71 rfl kk) ?_
        refine wq (fun _ _ kk => rs_lmul (pc := 73) dX11_leftBy_73 kk) ?_
        refine wq (fun _ _ kk => rs_ladd (pc := 74) dX11_leftBy_74 kk) ?_
        refine wq (fun _ _ kk => wk_lst4 (pc := 75) dX11_leftBy_75 (by decide) rfl kk) ?_
        refine wq (fun _ _ kk => wk_iinc6 (v := nI (i + 1)) (pc := 77) dX11_leftBy_77 (by decide) rfl (nI_1 i) kk) ?_
        refine wq (fun _ _ kk => rs_goto (tgt := 6) (pc := 80) dX11_leftBy_80 rfl kk) ?_
        have e := fun u7 u8 => ih (i + 1) u7 u8 S4 hc_60 (by omega) (by omega) (E0.trans ee_60) hx_60 hB_60 hL_60 hsc_60
        rw [lvS, if_neg c_32] at e
        exact e _ _
set_option maxRecDepth 100000 in
set_option maxHeartbeats 4000000 in
theorem c_X11_leftBy {h : ai_H} {tb : Int32} {B : Bk} {ln nl q p : Nat} {f : Nat → Int32} {C : List Cl} {o k : Int32} (hok : bk_ok B ln) (hf : ∀ k m, (stp C)[k]? = some m → f k = nI m) (hC : lwOK C) {S3 : Md} (hx : x_at h tb (nI nl)) (hB : bk_at h 1 B) (hL : law_at h q p (stp C).length f) (hsc : sc_at h S3) : ai_QM MX11_leftBy [.ref 0, .ref q, .int o, .int k] h (fun r g => r = some (.long (lvS B C o k (nR B))) ∧ sx h g ∧ ∃ S, sc_at g S) := by
  refine qm_of (ls := [.ref 0, .ref q, .int o, .int k, .float 0, .float 0, .float 0, .float 0, .float 0]) (by decide) (by simp [ai_en, Value.category]) (by rfl) ?_
  refine wq (fun _ _ kk => rs_lconst (v := 0) (pc := 0) dX11_leftBy_0 rfl kk) ?_
  refine wq (fun _ _ kk => wk_lst4 (pc := 1) dX11_leftBy_1 (by decide) rfl kk) ?_
  refine wq (fun _ _ kk => rs_iconst (v := 0) (pc := 3) dX11_leftBy_3 rfl kk) ?_
  refine wq (fun _ _ kk => wk_ist6 (pc := 4) dX11_leftBy_4 (by decide) rfl kk) ?_
  exact l_X11_leftBy (h := h) hok hf hC (nR B + 1) 0 _ _ S3 h (by omega) (by omega) sx.rf hx hB hL hsc
theorem dX11_left_0 : decode cX11_left 0 = .ok (.aload_n 0, 1) := by decide +kernel
theorem dX11_left_1 : decode cX11_left 1 = .ok (.iload_n 2, 1) := by decide +kernel
theorem dX11_left_2 : decode cX11_left 2 = .ok (.invokevirtual 169, 3) := by decide +kernel
theorem dX11_left_5 : decode cX11_left 5 = .ok (.astore 4, 2) := by decide +kernel
theorem dX11_left_7 : decode cX11_left 7 = .ok (.aload 4, 2) := by decide +kernel
theorem dX11_left_9 : decode cX11_left 9 = .ok (.ifnull 24, 3) := by decide +kernel
theorem dX11_left_12 : decode cX11_left 12 = .ok (.aload_n 0, 1) := by decide +kernel
theorem dX11_left_13 : decode cX11_left 13 = .ok (.getfield 10, 3) := by decide +kernel
theorem dX11_left_16 : decode cX11_left 16 = .ok (.getfield 108, 3) := by decide +kernel
theorem dX11_left_19 : decode cX11_left 19 = .ok (.iload_n 1, 1) := by decide +kernel
theorem dX11_left_20 : decode cX11_left 20 = .ok (.invokevirtual 138, 3) := by decide +kernel
theorem dX11_left_23 : decode cX11_left 23 = .ok (.ifCond .eq 10, 3) := by decide +kernel
theorem dX11_left_26 : decode cX11_left 26 = .ok (.iload_n 3, 1) := by decide +kernel
theorem dX11_left_27 : decode cX11_left 27 = .ok (.invokestatic 97, 3) := by decide +kernel
theorem dX11_left_30 : decode cX11_left 30 = .ok (.ifCond .ne 7, 3) := by decide +kernel
theorem dX11_left_33 : decode cX11_left 33 = .ok (.ldc2_w 233, 3) := by decide +kernel
theorem dX11_left_36 : decode cX11_left 36 = .ok (.lreturn, 1) := by decide +kernel
theorem dX11_left_37 : decode cX11_left 37 = .ok (.aload_n 0, 1) := by decide +kernel
theorem dX11_left_38 : decode cX11_left 38 = .ok (.aload 4, 2) := by decide +kernel
theorem dX11_left_40 : decode cX11_left 40 = .ok (.iload_n 1, 1) := by decide +kernel
theorem dX11_left_41 : decode cX11_left 41 = .ok (.iload_n 3, 1) := by decide +kernel
theorem dX11_left_42 : decode cX11_left 42 = .ok (.invokevirtual 235, 3) := by decide +kernel
theorem dX11_left_45 : decode cX11_left 45 = .ok (.lreturn, 1) := by decide +kernel
set_option maxRecDepth 100000 in
set_option maxHeartbeats 4000000 in
theorem c_X11_left {h : ai_H} {tb : Int32} {B : Bk} {ln nl : Nat} {Ls : Nat → List Cl} (hx : x_at h tb (nI nl)) (hB : bk_at h 1 B) (hok : bk_ok B ln) (hLW : LWS h nl Ls) (hs : scr h) (o n k : Int32) : ai_QM MX11_left [.ref 0, .int o, .int n, .int k] h (fun res g => fr 15 306 h g ∧ scr g ∧ (((tb_has (bk_o B).1 o = 0 ∨ bi_in n 0 (nI nl - 1) = 0 ∨ bi_in k 0 9999 = 0) ∧ res = some (.long (-1))) ∨ (¬ (tb_has (bk_o B).1 o = 0 ∨ bi_in n 0 (nI nl - 1) = 0 ∨ bi_in k 0 9999 = 0) ∧ ∃ r, r < nl ∧ n = nI r ∧ res = some (.long (lvS B (Ls r) o k (nR B)))))) := by
  obtain ⟨⟨f15, hlf⟩, -, ⟨S3, hsc⟩, -⟩ := id hs
  obtain ⟨L, hLa, hlo⟩ := lawOf_ex hLW n
  refine qm_of (ls := [.ref 0, .int o, .int n, .int k, .float 0]) (by decide) (by simp [ai_en, Value.category]) (by rfl) ?_
  refine wq (fun _ _ kk => rs_aload_n (pc := 0) dX11_left_0 rfl kk) ?_
  refine wq (fun _ _ kk => rs_iload_n (pc := 1) dX11_left_1 rfl kk) ?_
  refine wq (fun _ _ kk => rs_callV (as := [_]) (pc := 2) dX11_left_2 mk_X11_lawOf mlX11_169 in_X11_lawOf se_X11_lawOf rfl (x_lt hx (by decide)) hx.2 rfl rfl (Nat.le_of_ble_eq_true rfl) (c_X11_lawOf hx hLa n) kk) ?_
  rcases hlo with ⟨c0, elo⟩ | ⟨c0, r, q, p, f, hr, rfl, elo, hL, hf, hC⟩
  · rw [elo]
    refine wq (fun _ _ kk => wk_nst4 (pc := 5) dX11_left_5 (by decide) rfl kk) ?_
    refine wq (fun _ _ kk => rs_aloadN (pc := 7) dX11_left_7 rfl kk) ?_
    refine wq (fun _ _ kk => rs_ifnullN (tgt := 33) (pc := 9) dX11_left_9 rfl kk) ?_
    refine wq (fun _ _ kk => rs_ldc2 (pc := 33) dX11_left_33 cnX11_233 kk) ?_
    refine wq_ret ?_ (rs_lret (pc := 36) dX11_left_36 rfl)
    exact ⟨fr.rf, hs, Or.inl ⟨by first | exact Or.inr (Or.inl c0) | exact Or.inl c_23 | exact Or.inr (Or.inr c_30), rfl⟩⟩
  · rw [elo]
    refine wq (fun _ _ kk => wk_ast4 (pc := 5) dX11_left_5 (by decide) rfl kk) ?_
    refine wq (fun _ _ kk => rs_aload (pc := 7) dX11_left_7 rfl kk) ?_
    refine wq (fun _ _ kk => rs_ifnull (pc := 9) dX11_left_9 kk) ?_
    refine wq (fun _ _ kk => rs_aload_n (pc := 12) dX11_left_12 rfl kk) ?_
    refine wq (fun _ _ kk => rs_getf (pc := 13) dX11_left_13 fX11_10 (x_lt hx (by decide)) hx.2 rfl kk) ?_
    refine wq (fun _ _ kk => rs_getf (pc := 16) dX11_left_16 fX11_108 (bk_lt hB (by decide)) hB.2.1 rfl kk) ?_
    refine wq (fun _ _ kk => rs_iload_n (pc := 19) dX11_left_19 rfl kk) ?_
    refine wq (fun _ _ kk => rs_callV (as := [_]) (pc := 20) dX11_left_20 mk_X8_has mlX11_138 in_X8_has se_X8_has rfl (bk_lt hB (by decide)) hB.2.2.1.1 rfl rfl (Nat.le_of_ble_eq_true rfl) (c_X8_has (bk_lt hB (by decide)) hB.2.2.1.1 _) kk) ?_
    refine wq_br (fun _ _ kt kf => rs_if_eq (tgt := 33) (pc := 23) dX11_left_23 rfl kt kf) (fun c_23 => ?_) (fun c_23 => ?_)
    · refine wq (fun _ _ kk => rs_ldc2 (pc := 33) dX11_left_33 cnX11_233 kk) ?_
      refine wq_ret ?_ (rs_lret (pc := 36) dX11_left_36 rfl)
      exact ⟨fr.rf, hs, Or.inl ⟨by first | exact Or.inr (Or.inl c0) | exact Or.inl c_23 | exact Or.inr (Or.inr c_30), rfl⟩⟩
    · refine wq (fun _ _ kk => rs_iload_n (pc := 26) dX11_left_26 rfl kk) ?_
      refine wq (fun _ _ kk => rs_callS (as := [_]) (pc := 27) dX11_left_27 mk_X11_isWeek mlX11_97 st_X11_isWeek rfl rfl (Nat.le_of_ble_eq_true rfl) (c_X11_isWeek _) kk) ?_
      refine wq_bn (fun _ _ kt kf => rs_if_ne (tgt := 37) (pc := 30) dX11_left_30 rfl kt kf) (fun c_30 => ?_) (fun c_30 => ?_)
      · refine wq (fun _ _ kk => rs_aload_n (pc := 37) dX11_left_37 rfl kk) ?_
        refine wq (fun _ _ kk => rs_aload (pc := 38) dX11_left_38 rfl kk) ?_
        refine wq (fun _ _ kk => rs_iload_n (pc := 40) dX11_left_40 rfl kk) ?_
        refine wq (fun _ _ kk => rs_iload_n (pc := 41) dX11_left_41 rfl kk) ?_
        obtain ⟨rv_42, hc_42, ⟨rfl, ee_42, hsc_42⟩, hm_42⟩ := c_X11_leftBy (o := o) (k := k) hok hf hC hx hB hL hsc
        refine wq (fun _ _ kk => rs_callV (as := [_, _, _]) (pc := 42) dX11_left_42 mk_X11_leftBy mlX11_235 in_X11_leftBy se_X11_leftBy rfl (x_lt hx (by decide)) hx.2 rfl rfl (Nat.le_of_ble_eq_true rfl) (hm_42) kk) ?_
        refine wq_ret ?_ (rs_lret (pc := 45) dX11_left_45 rfl)
        exact ⟨ee_42.l.f, hs.law ee_42.l ⟨_, (ee_42.2.2 15 (by decide)).trans hlf⟩ hsc_42, Or.inr ⟨by rintro (z | z | z); exact c_23 z; exact c0 z; exact c_30 z, r, hr, rfl, rfl⟩⟩
      · refine wq (fun _ _ kk => rs_ldc2 (pc := 33) dX11_left_33 cnX11_233 kk) ?_
        refine wq_ret ?_ (rs_lret (pc := 36) dX11_left_36 rfl)
        exact ⟨fr.rf, hs, Or.inl ⟨by first | exact Or.inr (Or.inl c0) | exact Or.inl c_23 | exact Or.inr (Or.inr c_30), rfl⟩⟩
/-- which law leaves least -/
def bsI (v : Nat → Int64) : Nat → Int32
  | 0 => -1
  | r + 1 => if bsI v r = -1 ∨ v r < v (bsI v r).toNatClampNeg then nI r else bsI v r
theorem bsI_ex (v : Nat → Int64) : ∀ r, r ≤ 10 → (r = 0 ∧ bsI v r = -1) ∨ (0 < r ∧ ∃ j, j < r ∧ bsI v r = nI j)
  | 0, _ => Or.inl ⟨rfl, rfl⟩
  | r + 1, h => by
    refine Or.inr ⟨by omega, ?_⟩
    rw [bsI]
    split
    · exact ⟨r, by omega, rfl⟩
    · next q =>
      rcases bsI_ex v r (by omega) with ⟨h1, h2⟩ | ⟨h1, j, h2, h3⟩
      · exact absurd (Or.inl h2) q
      · exact ⟨j, by omega, h3⟩
def bsB (v : Nat → Int64) (m : Int64) : Nat → Int32
  | 0 => 0
  | r + 1 => if v r ≤ m then bsB v m r ||| 1 <<< (nI r &&& 31) else bsB v m r
theorem dX11_leastLeft_0 : decode cX11_leastLeft 0 = .ok (.iconst (-1), 1) := by decide +kernel
theorem dX11_leastLeft_1 : decode cX11_leastLeft 1 = .ok (.istore_n 3, 1) := by decide +kernel
theorem dX11_leastLeft_2 : decode cX11_leastLeft 2 = .ok (.iconst 0, 1) := by decide +kernel
theorem dX11_leastLeft_3 : decode cX11_leastLeft 3 = .ok (.istore 4, 2) := by decide +kernel
theorem dX11_leastLeft_5 : decode cX11_leastLeft 5 = .ok (.iload 4, 2) := by decide +kernel
theorem dX11_leastLeft_7 : decode cX11_leastLeft 7 = .ok (.aload_n 0, 1) := by decide +kernel
theorem dX11_leastLeft_8 : decode cX11_leastLeft 8 = .ok (.getfield 34, 3) := by decide +kernel
theorem dX11_leastLeft_11 : decode cX11_leastLeft 11 = .ok (.if_icmp .ge 66, 3) := by decide +kernel
theorem dX11_leastLeft_14 : decode cX11_leastLeft 14 = .ok (.aload_n 0, 1) := by decide +kernel
theorem dX11_leastLeft_15 : decode cX11_leastLeft 15 = .ok (.iload 4, 2) := by decide +kernel
theorem dX11_leastLeft_17 : decode cX11_leastLeft 17 = .ok (.invokevirtual 169, 3) := by decide +kernel
theorem dX11_leastLeft_20 : decode cX11_leastLeft 20 = .ok (.astore 5, 2) := by decide +kernel
theorem dX11_leastLeft_22 : decode cX11_leastLeft 22 = .ok (.aload_n 0, 1) := by decide +kernel
theorem dX11_leastLeft_23 : decode cX11_leastLeft 23 = .ok (.getfield 37, 3) := by decide +kernel
theorem dX11_leastLeft_26 : decode cX11_leastLeft 26 = .ok (.iload 4, 2) := by decide +kernel
theorem dX11_leastLeft_28 : decode cX11_leastLeft 28 = .ok (.aload 5, 2) := by decide +kernel
theorem dX11_leastLeft_30 : decode cX11_leastLeft 30 = .ok (.ifnonnull 7, 3) := by decide +kernel
theorem dX11_leastLeft_33 : decode cX11_leastLeft 33 = .ok (.lconst 0, 1) := by decide +kernel
theorem dX11_leastLeft_34 : decode cX11_leastLeft 34 = .ok (.goto 11, 3) := by decide +kernel
theorem dX11_leastLeft_37 : decode cX11_leastLeft 37 = .ok (.aload_n 0, 1) := by decide +kernel
theorem dX11_leastLeft_38 : decode cX11_leastLeft 38 = .ok (.aload 5, 2) := by decide +kernel
theorem dX11_leastLeft_40 : decode cX11_leastLeft 40 = .ok (.iload_n 1, 1) := by decide +kernel
theorem dX11_leastLeft_41 : decode cX11_leastLeft 41 = .ok (.iload_n 2, 1) := by decide +kernel
theorem dX11_leastLeft_42 : decode cX11_leastLeft 42 = .ok (.invokevirtual 235, 3) := by decide +kernel
theorem dX11_leastLeft_45 : decode cX11_leastLeft 45 = .ok (.lastore, 1) := by decide +kernel
theorem dX11_leastLeft_46 : decode cX11_leastLeft 46 = .ok (.iload_n 3, 1) := by decide +kernel
theorem dX11_leastLeft_47 : decode cX11_leastLeft 47 = .ok (.iconst (-1), 1) := by decide +kernel
theorem dX11_leastLeft_48 : decode cX11_leastLeft 48 = .ok (.if_icmp .eq 20, 3) := by decide +kernel
theorem dX11_leastLeft_51 : decode cX11_leastLeft 51 = .ok (.aload_n 0, 1) := by decide +kernel
theorem dX11_leastLeft_52 : decode cX11_leastLeft 52 = .ok (.getfield 37, 3) := by decide +kernel
theorem dX11_leastLeft_55 : decode cX11_leastLeft 55 = .ok (.iload 4, 2) := by decide +kernel
theorem dX11_leastLeft_57 : decode cX11_leastLeft 57 = .ok (.laload, 1) := by decide +kernel
theorem dX11_leastLeft_58 : decode cX11_leastLeft 58 = .ok (.aload_n 0, 1) := by decide +kernel
theorem dX11_leastLeft_59 : decode cX11_leastLeft 59 = .ok (.getfield 37, 3) := by decide +kernel
theorem dX11_leastLeft_62 : decode cX11_leastLeft 62 = .ok (.iload_n 3, 1) := by decide +kernel
theorem dX11_leastLeft_63 : decode cX11_leastLeft 63 = .ok (.laload, 1) := by decide +kernel
theorem dX11_leastLeft_64 : decode cX11_leastLeft 64 = .ok (.lcmp, 1) := by decide +kernel
theorem dX11_leastLeft_65 : decode cX11_leastLeft 65 = .ok (.ifCond .ge 6, 3) := by decide +kernel
theorem dX11_leastLeft_68 : decode cX11_leastLeft 68 = .ok (.iload 4, 2) := by decide +kernel
theorem dX11_leastLeft_70 : decode cX11_leastLeft 70 = .ok (.istore_n 3, 1) := by decide +kernel
theorem dX11_leastLeft_71 : decode cX11_leastLeft 71 = .ok (.iinc 4 1, 3) := by decide +kernel
theorem dX11_leastLeft_74 : decode cX11_leastLeft 74 = .ok (.goto (-69), 3) := by decide +kernel
theorem dX11_leastLeft_77 : decode cX11_leastLeft 77 = .ok (.iload_n 3, 1) := by decide +kernel
theorem dX11_leastLeft_78 : decode cX11_leastLeft 78 = .ok (.ireturn, 1) := by decide +kernel
set_option maxRecDepth 100000 in
set_option maxHeartbeats 4000000 in
theorem l_X11_leastLeft {h : ai_H} {tb : Int32} {B : Bk} {ln nl : Nat} {Ls : Nat → List Cl} {o k : Int32} (hok : bk_ok B ln) (hn10 : nl ≤ 10) : ∀ (m r : Nat) (u5 : Value) (S3 : Md) (f15 : Nat → Int64) (g : ai_H), r ≤ nl → nl + 1 ≤ r + m → lx h g → x_at g tb (nI nl) → bk_at g 1 B → sc_at g S3 → LWS g nl Ls → g.2.2 15 = .inl (1, 10, .inr (.inl f15)) → (∀ t, t < r → f15 t = lvS B (Ls t) o k (nR B)) → ai_W MX11_leastLeft 5 [.ref 0, .int o, .int k, .int (bsI (fun r => lvS B (Ls r) o k (nR B)) r), .int (nI r), u5] [] g (fun res g => res = some (.int (bsI (fun r => lvS B (Ls r) o k (nR B)) nl)) ∧ lx h g ∧ x_at g tb (nI nl) ∧ bk_at g 1 B ∧ (∃ S, sc_at g S) ∧ LWS g nl Ls ∧ ∃ f15 : Nat → Int64, g.2.2 15 = .inl (1, 10, .inr (.inl f15)) ∧ ∀ t, t < nl → f15 t = lvS B (Ls t) o k (nR B)) := by
  intro m
  induction m with
  | zero => intro r u5 S3 f15 g h1 h2; exact absurd h2 (by omega)
  | succ m ih =>
    intro r u5 S3 f15 g hr0 him E0 hx hB hsc hLW hlf hv
    refine wq (fun _ _ kk => rs_iload (pc := 5) dX11_leastLeft_5 rfl kk) ?_
    refine wq (fun _ _ kk => rs_aload_n (pc := 7) dX11_leastLeft_7 rfl kk) ?_
    refine wq (fun _ _ kk => rs_getf (pc := 8) dX11_leastLeft_8 fX11_34 (x_lt hx (by decide)) hx.2 rfl kk) ?_
    refine wq_br (fun _ _ kt kf => rs_icmp_ge (tgt := 77) (pc := 11) dX11_leastLeft_11 rfl kt kf) (fun c_11 => ?_) (fun c_11 => ?_)
    · have hre : nl = r := (lp_exit rfl (by omega) hr0 c_11).symm
      subst hre
      refine wq (fun _ _ kk => rs_iload_n (pc := 77) dX11_leastLeft_77 rfl kk) ?_
      refine wq_ret ?_ (rs_iret (pc := 78) dX11_leastLeft_78 rfl)
      exact ⟨rfl, E0, hx, hB, ⟨S3, hsc⟩, hLW, f15, hlf, hv⟩
    · have hr : r < nl := lp_go rfl (by omega) c_11
      obtain ⟨L, hLa, hlo⟩ := lawOf_ex hLW (nI r)
      obtain ⟨-, r2, q, p, f, hr2, er, elo, hL, hf, hC⟩ := hlo.resolve_left (fun z => absurd z.1 (by rw [bi_in_lt (by omega) hr]; decide))
      have er := nI_inj (by omega) (by omega) er
      subst er
      refine wq (fun _ _ kk => rs_aload_n (pc := 14) dX11_leastLeft_14 rfl kk) ?_
      refine wq (fun _ _ kk => rs_iload (pc := 15) dX11_leastLeft_15 rfl kk) ?_
      refine wq (fun _ _ kk => rs_callV (as := [_]) (pc := 17) dX11_leastLeft_17 mk_X11_lawOf mlX11_169 in_X11_lawOf se_X11_lawOf rfl (x_lt hx (by decide)) hx.2 rfl rfl (Nat.le_of_ble_eq_true rfl) (c_X11_lawOf hx hLa _) kk) ?_
      rw [elo]
      refine wq (fun _ _ kk => wk_ast5 (pc := 20) dX11_leastLeft_20 (by decide) rfl kk) ?_
      refine wq (fun _ _ kk => rs_aload_n (pc := 22) dX11_leastLeft_22 rfl kk) ?_
      refine wq (fun _ _ kk => rs_getf (pc := 23) dX11_leastLeft_23 fX11_37 (x_lt hx (by decide)) hx.2 rfl kk) ?_
      refine wq (fun _ _ kk => rs_iload (pc := 26) dX11_leastLeft_26 rfl kk) ?_
      refine wq (fun _ _ kk => rs_aload (pc := 28) dX11_leastLeft_28 rfl kk) ?_
      refine wq (fun _ _ kk => rs_ifnonnull (tgt := 37) (pc := 30) dX11_leastLeft_30 rfl kk) ?_
      refine wq (fun _ _ kk => rs_aload_n (pc := 37) dX11_leastLeft_37 rfl kk) ?_
      refine wq (fun _ _ kk => rs_aload (pc := 38) dX11_leastLeft_38 rfl kk) ?_
      refine wq (fun _ _ kk => rs_iload_n (pc := 40) dX11_leastLeft_40 rfl kk) ?_
      refine wq (fun _ _ kk => rs_iload_n (pc := 41) dX11_leastLeft_41 rfl kk) ?_
      obtain ⟨rv_42, hc_42, ⟨rfl, ee_42, S4, hsc_42⟩, hm_42⟩ := c_X11_leftBy (o := o) (k := k) hok hf hC hx hB hL hsc
      refine wq (fun _ _ kk => rs_callV (as := [_, _, _]) (pc := 42) dX11_leastLeft_42 mk_X11_leftBy mlX11_235 in_X11_leftBy se_X11_leftBy rfl (x_lt hx (by decide)) hx.2 rfl rfl (Nat.le_of_ble_eq_true rfl) (hm_42) kk) ?_
      replace hsc := hsc_42
      replace hL := law_keep hL ee_42.1 (fun j hj => ee_42.2.2 j (by omega))
      replace hLW := hLW.keep ee_42.1 (ee_42.2.2 _ (by decide)) (fun j hj => ee_42.2.2 j (by omega))
      replace hlf := (ee_42.2.2 15 (by decide)).trans hlf
      replace hx := x_at.keep hx ee_42.1 (ee_42.2.2 0 (by decide))
      replace hB := hB.keep ee_42.1 (fun j _ _ => ee_42.2.2 j (by omega))
      refine wq (fun _ _ kk => rs_last (pc := 45) dX11_leastLeft_45 (x_lt hx (by decide)) hlf (vp_in_nI (n := r) (N := 10) (by omega) (by decide)) kk) ?_
      refine wq_gen (fun h_1 e_1 => ?_)
      obtain ⟨m_1, s_1, g_1, o_1⟩ := ai_e1 e_1
      replace hx := x_at.keep hx m_1 (o_1 _ (by decide))
      replace hB := hB.keep m_1 (fun j _ _ => o_1 j (by omega))
      replace hsc := mo_keep hsc m_1 (fun j _ _ => o_1 j (by omega))
      replace hL := law_keep hL m_1 (fun j hj => o_1 j (by omega))
      replace hlf := g_1
      replace hLW := hLW.keep m_1 (o_1 _ (by decide)) (fun j hj => o_1 j (by omega))
      have E_1 := (E0.trans ee_42.l).trans (lx_of m_1 s_1 o_1 (by decide))
      refine wq (fun _ _ kk => rs_iload_n (pc := 46) dX11_leastLeft_46 rfl kk) ?_
      refine wq (fun _ _ kk => rs_iconst (v := -1) (pc := 47) dX11_leastLeft_47 rfl kk) ?_
      refine wq_br (fun _ _ kt kf => rs_icmp_eq (tgt := 68) (pc := 48) dX11_leastLeft_48 rfl kt kf) (fun c_48 => ?_) (fun c_48 => ?_)
      · refine wq (fun _ _ kk => rs_iload (pc := 68) dX11_leastLeft_68 rfl kk) ?_
        refine wq (fun _ _ kk => wk_istn3 (pc := 70) dX11_leastLeft_70 (by decide) rfl kk) ?_
        refine wq (fun _ _ kk => wk_iinc4 (v := nI (r + 1)) (pc := 71) dX11_leastLeft_71 (by decide) rfl (nI_1 r) kk) ?_
        refine wq (fun _ _ kk => rs_goto (tgt := 5) (pc := 74) dX11_leastLeft_74 rfl kk) ?_
        have hv3 : ∀ t, t < r + 1 → vp_updL f15 r (lvS B (Ls r) o k (nR B)) t = lvS B (Ls t) o k (nR B) := by
          intro t ht
          by_cases e : t = r
          · subst e; exact if_pos rfl
          · rw [show vp_updL f15 r (lvS B (Ls r) o k (nR B)) t = f15 t from if_neg e]; exact hv t (by omega)
        have hv2 : ∀ t, t < r + 1 → vp_updL f15 (nI r).toNatClampNeg (lvS B (Ls r) o k (nR B)) t = lvS B (Ls t) o k (nR B) := by
          rw [nI_clamp (show r < 2 ^ 31 by omega)]; exact hv3
        have e := fun u5 => ih (r + 1) u5 S4 _ _ (by omega) (by omega) E_1 hx hB hsc hLW hlf hv2
        rw [bsI] at e
        first
        | (rw [if_pos (Or.inl c_48)] at e; exact e _)
        | (rcases bsI_ex (fun r => lvS B (Ls r) o k (nR B)) r (by omega) with ⟨-, z⟩ | ⟨-, j, j1, j2⟩
           · exact absurd z c_48
           · have c64 := c_64
             simp only [j2, nI_clamp (show r < 2 ^ 31 by omega), nI_clamp (show j < 2 ^ 31 by omega)] at c64
             rw [hv3 r (by omega), hv3 j (by omega)] at c64
             first
             | (rw [if_neg (by rintro (z | z); exact c_48 z; rw [j2, nI_clamp (by omega)] at z; exact i64_le_n c64 z)] at e; exact e _)
             | (rw [if_pos (Or.inr (by rw [j2, nI_clamp (by omega)]; exact i64_nle c64))] at e; exact e _))
      · refine wq (fun _ _ kk => rs_aload_n (pc := 51) dX11_leastLeft_51 rfl kk) ?_
        refine wq (fun _ _ kk => rs_getf (pc := 52) dX11_leastLeft_52 fX11_37 (x_lt hx (by decide)) hx.2 rfl kk) ?_
        refine wq (fun _ _ kk => rs_iload (pc := 55) dX11_leastLeft_55 rfl kk) ?_
        refine wq (fun _ _ kk => rs_lald (pc := 57) dX11_leastLeft_57 (x_lt hx (by decide)) hlf (vp_in_nI (n := r) (N := 10) (by omega) (by decide)) kk) ?_
        rw [nI_clamp (show r < 2 ^ 31 by omega)]
        refine wq (fun _ _ kk => rs_aload_n (pc := 58) dX11_leastLeft_58 rfl kk) ?_
        refine wq (fun _ _ kk => rs_getf (pc := 59) dX11_leastLeft_59 fX11_37 (x_lt hx (by decide)) hx.2 rfl kk) ?_
        refine wq (fun _ _ kk => rs_iload_n (pc := 62) dX11_leastLeft_62 rfl kk) ?_
        refine wq (fun _ _ kk => rs_lald (pc := 63) dX11_leastLeft_63 (x_lt hx (by decide)) hlf (by rcases bsI_ex (fun r => lvS B (Ls r) o k (nR B)) r (by omega) with ⟨-, z⟩ | ⟨-, j, j1, j2⟩; exact absurd z c_48; rw [j2]; exact vp_in_nI (n := j) (N := 10) (by omega) (by decide)) kk) ?_
        refine wq_br (fun _ _ kt kf => wk_lcmp_ge (tgt := 71) (pc := 64) dX11_leastLeft_64 dX11_leastLeft_65 rfl kt kf) (fun c_64 => ?_) (fun c_64 => ?_)
        · refine wq (fun _ _ kk => wk_iinc4 (v := nI (r + 1)) (pc := 71) dX11_leastLeft_71 (by decide) rfl (nI_1 r) kk) ?_
          refine wq (fun _ _ kk => rs_goto (tgt := 5) (pc := 74) dX11_leastLeft_74 rfl kk) ?_
          have hv3 : ∀ t, t < r + 1 → vp_updL f15 r (lvS B (Ls r) o k (nR B)) t = lvS B (Ls t) o k (nR B) := by
            intro t ht
            by_cases e : t = r
            · subst e; exact if_pos rfl
            · rw [show vp_updL f15 r (lvS B (Ls r) o k (nR B)) t = f15 t from if_neg e]; exact hv t (by omega)
          have hv2 : ∀ t, t < r + 1 → vp_updL f15 (nI r).toNatClampNeg (lvS B (Ls r) o k (nR B)) t = lvS B (Ls t) o k (nR B) := by
            rw [nI_clamp (show r < 2 ^ 31 by omega)]; exact hv3
          have e := fun u5 => ih (r + 1) u5 S4 _ _ (by omega) (by omega) E_1 hx hB hsc hLW hlf hv2
          rw [bsI] at e
          first
          | (rw [if_pos (Or.inl c_48)] at e; exact e _)
          | (rcases bsI_ex (fun r => lvS B (Ls r) o k (nR B)) r (by omega) with ⟨-, z⟩ | ⟨-, j, j1, j2⟩
             · exact absurd z c_48
             · have c64 := c_64
               simp only [j2, nI_clamp (show r < 2 ^ 31 by omega), nI_clamp (show j < 2 ^ 31 by omega)] at c64
               rw [hv3 r (by omega), hv3 j (by omega)] at c64
               first
               | (rw [if_neg (by rintro (z | z); exact c_48 z; rw [j2, nI_clamp (by omega)] at z; exact i64_le_n c64 z)] at e; exact e _)
               | (rw [if_pos (Or.inr (by rw [j2, nI_clamp (by omega)]; exact i64_nle c64))] at e; exact e _))
        · refine wq (fun _ _ kk => rs_iload (pc := 68) dX11_leastLeft_68 rfl kk) ?_
          refine wq (fun _ _ kk => wk_istn3 (pc := 70) dX11_leastLeft_70 (by decide) rfl kk) ?_
          refine wq (fun _ _ kk => wk_iinc4 (v := nI (r + 1)) (pc := 71) dX11_leastLeft_71 (by decide) rfl (nI_1 r) kk) ?_
          refine wq (fun _ _ kk => rs_goto (tgt := 5) (pc := 74) dX11_leastLeft_74 rfl kk) ?_
          have hv3 : ∀ t, t < r + 1 → vp_updL f15 r (lvS B (Ls r) o k (nR B)) t = lvS B (Ls t) o k (nR B) := by
            intro t ht
            by_cases e : t = r
            · subst e; exact if_pos rfl
            · rw [show vp_updL f15 r (lvS B (Ls r) o k (nR B)) t = f15 t from if_neg e]; exact hv t (by omega)
          have hv2 : ∀ t, t < r + 1 → vp_updL f15 (nI r).toNatClampNeg (lvS B (Ls r) o k (nR B)) t = lvS B (Ls t) o k (nR B) := by
            rw [nI_clamp (show r < 2 ^ 31 by omega)]; exact hv3
          have e := fun u5 => ih (r + 1) u5 S4 _ _ (by omega) (by omega) E_1 hx hB hsc hLW hlf hv2
          rw [bsI] at e
          first
          | (rw [if_pos (Or.inl c_48)] at e; exact e _)
          | (rcases bsI_ex (fun r => lvS B (Ls r) o k (nR B)) r (by omega) with ⟨-, z⟩ | ⟨-, j, j1, j2⟩
             · exact absurd z c_48
             · have c64 := c_64
               simp only [j2, nI_clamp (show r < 2 ^ 31 by omega), nI_clamp (show j < 2 ^ 31 by omega)] at c64
               rw [hv3 r (by omega), hv3 j (by omega)] at c64
               first
               | (rw [if_neg (by rintro (z | z); exact c_48 z; rw [j2, nI_clamp (by omega)] at z; exact i64_le_n c64 z)] at e; exact e _)
               | (rw [if_pos (Or.inr (by rw [j2, nI_clamp (by omega)]; exact i64_nle c64))] at e; exact e _))
set_option maxRecDepth 100000 in
set_option maxHeartbeats 4000000 in
theorem c_X11_leastLeft {h : ai_H} {tb : Int32} {B : Bk} {ln nl : Nat} {Ls : Nat → List Cl} {o k : Int32} (hok : bk_ok B ln) (hn10 : nl ≤ 10) {S3 : Md} {f15 : Nat → Int64} (hx : x_at h tb (nI nl)) (hB : bk_at h 1 B) (hsc : sc_at h S3) (hLW : LWS h nl Ls) (hlf : h.2.2 15 = .inl (1, 10, .inr (.inl f15))) : ai_QM MX11_leastLeft [.ref 0, .int o, .int k] h (fun res g => res = some (.int (bsI (fun r => lvS B (Ls r) o k (nR B)) nl)) ∧ lx h g ∧ x_at g tb (nI nl) ∧ bk_at g 1 B ∧ (∃ S, sc_at g S) ∧ LWS g nl Ls ∧ ∃ f15 : Nat → Int64, g.2.2 15 = .inl (1, 10, .inr (.inl f15)) ∧ ∀ t, t < nl → f15 t = lvS B (Ls t) o k (nR B)) := by
  refine qm_of (ls := [.ref 0, .int o, .int k, .float 0, .float 0, .float 0]) (by decide) (by simp [ai_en, Value.category]) (by rfl) ?_
  refine wq (fun _ _ kk => rs_iconst (v := -1) (pc := 0) dX11_leastLeft_0 rfl kk) ?_
  refine wq (fun _ _ kk => wk_istn3 (pc := 1) dX11_leastLeft_1 (by decide) rfl kk) ?_
  refine wq (fun _ _ kk => rs_iconst (v := 0) (pc := 2) dX11_leastLeft_2 rfl kk) ?_
  refine wq (fun _ _ kk => wk_ist4 (pc := 3) dX11_leastLeft_3 (by decide) rfl kk) ?_
  exact l_X11_leastLeft (h := h) hok hn10 (nl + 1) 0 _ S3 f15 h (by omega) (by omega) lx.rf hx hB hsc hLW hlf (fun t ht => absurd ht (Nat.not_lt_zero t))
theorem dX11_stillBits_0 : decode cX11_stillBits 0 = .ok (.iconst 0, 1) := by decide +kernel
theorem dX11_stillBits_1 : decode cX11_stillBits 1 = .ok (.istore_n 3, 1) := by decide +kernel
theorem dX11_stillBits_2 : decode cX11_stillBits 2 = .ok (.iconst 0, 1) := by decide +kernel
theorem dX11_stillBits_3 : decode cX11_stillBits 3 = .ok (.istore 4, 2) := by decide +kernel
theorem dX11_stillBits_5 : decode cX11_stillBits 5 = .ok (.iload 4, 2) := by decide +kernel
theorem dX11_stillBits_7 : decode cX11_stillBits 7 = .ok (.aload_n 0, 1) := by decide +kernel
theorem dX11_stillBits_8 : decode cX11_stillBits 8 = .ok (.getfield 34, 3) := by decide +kernel
theorem dX11_stillBits_11 : decode cX11_stillBits 11 = .ok (.if_icmp .ge 28, 3) := by decide +kernel
theorem dX11_stillBits_14 : decode cX11_stillBits 14 = .ok (.aload_n 0, 1) := by decide +kernel
theorem dX11_stillBits_15 : decode cX11_stillBits 15 = .ok (.getfield 37, 3) := by decide +kernel
theorem dX11_stillBits_18 : decode cX11_stillBits 18 = .ok (.iload 4, 2) := by decide +kernel
theorem dX11_stillBits_20 : decode cX11_stillBits 20 = .ok (.laload, 1) := by decide +kernel
theorem dX11_stillBits_21 : decode cX11_stillBits 21 = .ok (.lload_n 1, 1) := by decide +kernel
theorem dX11_stillBits_22 : decode cX11_stillBits 22 = .ok (.lcmp, 1) := by decide +kernel
theorem dX11_stillBits_23 : decode cX11_stillBits 23 = .ok (.ifCond .gt 10, 3) := by decide +kernel
theorem dX11_stillBits_26 : decode cX11_stillBits 26 = .ok (.iload_n 3, 1) := by decide +kernel
theorem dX11_stillBits_27 : decode cX11_stillBits 27 = .ok (.iconst 1, 1) := by decide +kernel
theorem dX11_stillBits_28 : decode cX11_stillBits 28 = .ok (.iload 4, 2) := by decide +kernel
theorem dX11_stillBits_30 : decode cX11_stillBits 30 = .ok (.ishl, 1) := by decide +kernel
theorem dX11_stillBits_31 : decode cX11_stillBits 31 = .ok (.ior, 1) := by decide +kernel
theorem dX11_stillBits_32 : decode cX11_stillBits 32 = .ok (.istore_n 3, 1) := by decide +kernel
theorem dX11_stillBits_33 : decode cX11_stillBits 33 = .ok (.iinc 4 1, 3) := by decide +kernel
theorem dX11_stillBits_36 : decode cX11_stillBits 36 = .ok (.goto (-31), 3) := by decide +kernel
theorem dX11_stillBits_39 : decode cX11_stillBits 39 = .ok (.iload_n 3, 1) := by decide +kernel
theorem dX11_stillBits_40 : decode cX11_stillBits 40 = .ok (.ireturn, 1) := by decide +kernel
set_option maxRecDepth 100000 in
set_option maxHeartbeats 4000000 in
theorem l_X11_stillBits {h : ai_H} {tb : Int32} {nl : Nat} {v : Nat → Int64} {f15 : Nat → Int64} {m : Int64} (hn10 : nl ≤ 10) (hx : x_at h tb (nI nl)) (hlf : h.2.2 15 = .inl (1, 10, .inr (.inl f15))) (hv : ∀ t, t < nl → f15 t = v t) : ∀ (j r : Nat), r ≤ nl → nl + 1 ≤ r + j → ai_R MX11_stillBits 5 [.ref 0, .long m, .float 0, .int (bsB v m r), .int (nI r)] [] h (some (.int (bsB v m nl))) h := by
  intro j
  induction j with
  | zero => intro r h1 h2; exact absurd h2 (by omega)
  | succ j ih =>
    intro r hr0 him
    refine rs_iload (pc := 5) dX11_stillBits_5 rfl ?_
    refine rs_aload_n (pc := 7) dX11_stillBits_7 rfl ?_
    refine rs_getf (pc := 8) dX11_stillBits_8 fX11_34 (x_lt hx (by decide)) hx.2 rfl ?_
    refine rs_icmp_ge (tgt := 39) (pc := 11) dX11_stillBits_11 rfl (fun c_11 => ?_) (fun c_11 => ?_)
    · have hre : nl = r := (lp_exit rfl (by omega) hr0 c_11).symm
      subst hre
      refine rs_iload_n (pc := 39) dX11_stillBits_39 rfl ?_
      exact wk_iret (pc := 40) dX11_stillBits_40 rfl (rfl) (rfl)
    · have hr : r < nl := lp_go rfl (by omega) c_11
      refine rs_aload_n (pc := 14) dX11_stillBits_14 rfl ?_
      refine rs_getf (pc := 15) dX11_stillBits_15 fX11_37 (x_lt hx (by decide)) hx.2 rfl ?_
      refine rs_iload (pc := 18) dX11_stillBits_18 rfl ?_
      refine rs_lald (pc := 20) dX11_stillBits_20 (x_lt hx (by decide)) hlf (vp_in_nI (n := r) (N := 10) (by omega) (by decide)) ?_
      rw [nI_clamp (show r < 2 ^ 31 by omega), hv r hr]
      refine rs_lload_n (pc := 21) dX11_stillBits_21 rfl ?_
      refine wk_lcmp_gt (tgt := 33) (pc := 22) dX11_stillBits_22 dX11_stillBits_23 rfl (fun c_22 => ?_) (fun c_22 => ?_)
      · refine wk_iinc4 (v := nI (r + 1)) (pc := 33) dX11_stillBits_33 (by decide) rfl (nI_1 r) ?_
        refine rs_goto (tgt := 5) (pc := 36) dX11_stillBits_36 rfl ?_
        have e := ih (r + 1) (by omega) (by omega)
        rw [bsB] at e
        first
        | (rw [if_pos (by first | exact c_22 | exact i64_nlt c_22)] at e; exact e)
        | (rw [if_neg (i64_lt_n c_22)] at e; exact e)
      · refine rs_iload_n (pc := 26) dX11_stillBits_26 rfl ?_
        refine rs_iconst (v := 1) (pc := 27) dX11_stillBits_27 rfl ?_
        refine rs_iload (pc := 28) dX11_stillBits_28 rfl ?_
        refine rs_ishl (pc := 30) dX11_stillBits_30 ?_
        refine rs_ior (pc := 31) dX11_stillBits_31 ?_
        refine wk_istn3 (pc := 32) dX11_stillBits_32 (by decide) rfl ?_
        refine wk_iinc4 (v := nI (r + 1)) (pc := 33) dX11_stillBits_33 (by decide) rfl (nI_1 r) ?_
        refine rs_goto (tgt := 5) (pc := 36) dX11_stillBits_36 rfl ?_
        have e := ih (r + 1) (by omega) (by omega)
        rw [bsB] at e
        first
        | (rw [if_pos (by first | exact c_22 | exact i64_nlt c_22)] at e; exact e)
        | (rw [if_neg (i64_lt_n c_22)] at e; exact e)
set_option maxRecDepth 100000 in
set_option maxHeartbeats 4000000 in
theorem c_X11_stillBits {h : ai_H} {tb : Int32} {nl : Nat} {v : Nat → Int64} {f15 : Nat → Int64} {m : Int64} (hn10 : nl ≤ 10) (hx : x_at h tb (nI nl)) (hlf : h.2.2 15 = .inl (1, 10, .inr (.inl f15))) (hv : ∀ t, t < nl → f15 t = v t) : ai_Met MX11_stillBits [.ref 0, .long m] h (some (.int (bsB v m nl))) h := by
  refine ai_met (ls := [.ref 0, .long m, .float 0, .float 0, .float 0]) (by decide) (by simp [ai_en, Value.category]) (by rfl) ?_
  refine rs_iconst (v := 0) (pc := 0) dX11_stillBits_0 rfl ?_
  refine wk_istn3 (pc := 1) dX11_stillBits_1 (by decide) rfl ?_
  refine rs_iconst (v := 0) (pc := 2) dX11_stillBits_2 rfl ?_
  refine wk_ist4 (pc := 3) dX11_stillBits_3 (by decide) rfl ?_
  exact l_X11_stillBits hn10 hx hlf hv (nl + 1) 0 (by omega) (by omega)
def uu_best (v : Nat → Int64) (nl : Nat) (p x : Int32) : Int32 := if x = 0 then bsI v nl else if nl = 0 then 0 else bsB v (v (bsI v nl).toNatClampNeg / 100 * (100 + p).toInt64) nl
theorem dX11_best_0 : decode cX11_best 0 = .ok (.aload_n 0, 1) := by decide +kernel
theorem dX11_best_1 : decode cX11_best 1 = .ok (.getfield 10, 3) := by decide +kernel
theorem dX11_best_4 : decode cX11_best 4 = .ok (.getfield 108, 3) := by decide +kernel
theorem dX11_best_7 : decode cX11_best 7 = .ok (.iload_n 1, 1) := by decide +kernel
theorem dX11_best_8 : decode cX11_best 8 = .ok (.invokevirtual 138, 3) := by decide +kernel
theorem dX11_best_11 : decode cX11_best 11 = .ok (.ifCond .eq 25, 3) := by decide +kernel
theorem dX11_best_14 : decode cX11_best 14 = .ok (.iload_n 2, 1) := by decide +kernel
theorem dX11_best_15 : decode cX11_best 15 = .ok (.invokestatic 97, 3) := by decide +kernel
theorem dX11_best_18 : decode cX11_best 18 = .ok (.ifCond .eq 18, 3) := by decide +kernel
theorem dX11_best_21 : decode cX11_best 21 = .ok (.iload_n 3, 1) := by decide +kernel
theorem dX11_best_22 : decode cX11_best 22 = .ok (.iconst 0, 1) := by decide +kernel
theorem dX11_best_23 : decode cX11_best 23 = .ok (.sipush 900, 3) := by decide +kernel
theorem dX11_best_26 : decode cX11_best 26 = .ok (.invokestatic 104, 3) := by decide +kernel
theorem dX11_best_29 : decode cX11_best 29 = .ok (.ifCond .eq 7, 3) := by decide +kernel
theorem dX11_best_32 : decode cX11_best 32 = .ok (.iconst 1, 1) := by decide +kernel
theorem dX11_best_33 : decode cX11_best 33 = .ok (.goto 4, 3) := by decide +kernel
theorem dX11_best_36 : decode cX11_best 36 = .ok (.iconst 0, 1) := by decide +kernel
theorem dX11_best_37 : decode cX11_best 37 = .ok (.istore 5, 2) := by decide +kernel
theorem dX11_best_39 : decode cX11_best 39 = .ok (.iload 5, 2) := by decide +kernel
theorem dX11_best_41 : decode cX11_best 41 = .ok (.ifCond .eq 13, 3) := by decide +kernel
theorem dX11_best_44 : decode cX11_best 44 = .ok (.iload 4, 2) := by decide +kernel
theorem dX11_best_46 : decode cX11_best 46 = .ok (.iconst 0, 1) := by decide +kernel
theorem dX11_best_47 : decode cX11_best 47 = .ok (.iconst 1, 1) := by decide +kernel
theorem dX11_best_48 : decode cX11_best 48 = .ok (.invokestatic 104, 3) := by decide +kernel
theorem dX11_best_51 : decode cX11_best 51 = .ok (.ifCond .ne 6, 3) := by decide +kernel
theorem dX11_best_54 : decode cX11_best 54 = .ok (.bipush (-2), 2) := by decide +kernel
theorem dX11_best_56 : decode cX11_best 56 = .ok (.ireturn, 1) := by decide +kernel
theorem dX11_best_57 : decode cX11_best 57 = .ok (.aload_n 0, 1) := by decide +kernel
theorem dX11_best_58 : decode cX11_best 58 = .ok (.iload_n 1, 1) := by decide +kernel
theorem dX11_best_59 : decode cX11_best 59 = .ok (.iload_n 2, 1) := by decide +kernel
theorem dX11_best_60 : decode cX11_best 60 = .ok (.invokevirtual 239, 3) := by decide +kernel
theorem dX11_best_63 : decode cX11_best 63 = .ok (.istore 6, 2) := by decide +kernel
theorem dX11_best_65 : decode cX11_best 65 = .ok (.iload 4, 2) := by decide +kernel
theorem dX11_best_67 : decode cX11_best 67 = .ok (.ifCond .ne 6, 3) := by decide +kernel
theorem dX11_best_70 : decode cX11_best 70 = .ok (.iload 6, 2) := by decide +kernel
theorem dX11_best_72 : decode cX11_best 72 = .ok (.ireturn, 1) := by decide +kernel
theorem dX11_best_73 : decode cX11_best 73 = .ok (.iload 6, 2) := by decide +kernel
theorem dX11_best_75 : decode cX11_best 75 = .ok (.iconst (-1), 1) := by decide +kernel
theorem dX11_best_76 : decode cX11_best 76 = .ok (.if_icmp .ne 7, 3) := by decide +kernel
theorem dX11_best_79 : decode cX11_best 79 = .ok (.iconst 0, 1) := by decide +kernel
theorem dX11_best_80 : decode cX11_best 80 = .ok (.goto 24, 3) := by decide +kernel
theorem dX11_best_83 : decode cX11_best 83 = .ok (.aload_n 0, 1) := by decide +kernel
theorem dX11_best_84 : decode cX11_best 84 = .ok (.aload_n 0, 1) := by decide +kernel
theorem dX11_best_85 : decode cX11_best 85 = .ok (.getfield 37, 3) := by decide +kernel
theorem dX11_best_88 : decode cX11_best 88 = .ok (.iload 6, 2) := by decide +kernel
theorem dX11_best_90 : decode cX11_best 90 = .ok (.laload, 1) := by decide +kernel
theorem dX11_best_91 : decode cX11_best 91 = .ok (.ldc2_w 242, 3) := by decide +kernel
theorem dX11_best_94 : decode cX11_best 94 = .ok (.ldiv, 1) := by decide +kernel
theorem dX11_best_95 : decode cX11_best 95 = .ok (.bipush 100, 2) := by decide +kernel
theorem dX11_best_97 : decode cX11_best 97 = .ok (.iload_n 3, 1) := by decide +kernel
theorem dX11_best_98 : decode cX11_best 98 = .ok (.iadd, 1) := by decide +kernel
theorem dX11_best_99 : decode cX11_best 99 = .ok (.i2l, 1) := by decide +kernel
theorem dX11_best_100 : decode cX11_best 100 = .ok (.lmul, 1) := by decide +kernel
theorem dX11_best_101 : decode cX11_best 101 = .ok (.invokevirtual 244, 3) := by decide +kernel
theorem dX11_best_104 : decode cX11_best 104 = .ok (.ireturn, 1) := by decide +kernel
set_option maxRecDepth 100000 in
set_option maxHeartbeats 4000000 in
theorem c_X11_best {h : ai_H} {tb : Int32} {B : Bk} {ln nl : Nat} {Ls : Nat → List Cl} (hx : x_at h tb (nI nl)) (hB : bk_at h 1 B) (hok : bk_ok B ln) (hLW : LWS h nl Ls) (hs : scr h) (o k p x : Int32) : ai_QM MX11_best [.ref 0, .int o, .int k, .int p, .int x] h (fun res g => fr 15 306 h g ∧ scr g ∧ (((tb_has (bk_o B).1 o = 0 ∨ bi_in k 0 9999 = 0 ∨ bi_in p 0 900 = 0 ∨ bi_in x 0 1 = 0) ∧ res = some (.int (-2))) ∨ (¬ (tb_has (bk_o B).1 o = 0 ∨ bi_in k 0 9999 = 0 ∨ bi_in p 0 900 = 0 ∨ bi_in x 0 1 = 0) ∧ res = some (.int (uu_best (fun r => lvS B (Ls r) o k (nR B)) nl p x))))) := by
  obtain ⟨⟨f15, hlf⟩, -, ⟨S3, hsc⟩, -⟩ := id hs
  refine qm_of (ls := [.ref 0, .int o, .int k, .int p, .int x, .float 0, .float 0]) (by decide) (by simp [ai_en, Value.category]) (by rfl) ?_
  refine wq (fun _ _ kk => rs_aload_n (pc := 0) dX11_best_0 rfl kk) ?_
  refine wq (fun _ _ kk => rs_getf (pc := 1) dX11_best_1 fX11_10 (x_lt hx (by decide)) hx.2 rfl kk) ?_
  refine wq (fun _ _ kk => rs_getf (pc := 4) dX11_best_4 fX11_108 (bk_lt hB (by decide)) hB.2.1 rfl kk) ?_
  refine wq (fun _ _ kk => rs_iload_n (pc := 7) dX11_best_7 rfl kk) ?_
  refine wq (fun _ _ kk => rs_callV (as := [_]) (pc := 8) dX11_best_8 mk_X8_has mlX11_138 in_X8_has se_X8_has rfl (bk_lt hB (by decide)) hB.2.2.1.1 rfl rfl (Nat.le_of_ble_eq_true rfl) (c_X8_has (bk_lt hB (by decide)) hB.2.2.1.1 _) kk) ?_
  refine wq_br (fun _ _ kt kf => rs_if_eq (tgt := 36) (pc := 11) dX11_best_11 rfl kt kf) (fun c_11 => ?_) (fun c_11 => ?_)
  · refine wq (fun _ _ kk => rs_iconst (v := 0) (pc := 36) dX11_best_36 rfl kk) ?_
    refine wq (fun _ _ kk => wk_ist5 (pc := 37) dX11_best_37 (by decide) rfl kk) ?_
    refine wq (fun _ _ kk => rs_iload (pc := 39) dX11_best_39 rfl kk) ?_
    refine wq_br (fun _ _ kt kf => rs_if_eq (tgt := 54) (pc := 41) dX11_best_41 rfl kt kf) (fun c_41 => ?_) (fun c_41 => absurd c_41 (by decide))
    refine wq (fun _ _ kk => rs_bipush (v := -2) (pc := 54) dX11_best_54 rfl kk) ?_
    refine wq_ret ?_ (rs_iret (pc := 56) dX11_best_56 rfl)
    exact ⟨fr.rf, hs, Or.inl ⟨by first | exact Or.inl c_11 | exact Or.inr (Or.inl c_18) | exact Or.inr (Or.inr (Or.inl c_29)) | exact Or.inr (Or.inr (Or.inr c_51)), rfl⟩⟩
  · refine wq (fun _ _ kk => rs_iload_n (pc := 14) dX11_best_14 rfl kk) ?_
    refine wq (fun _ _ kk => rs_callS (as := [_]) (pc := 15) dX11_best_15 mk_X11_isWeek mlX11_97 st_X11_isWeek rfl rfl (Nat.le_of_ble_eq_true rfl) (c_X11_isWeek _) kk) ?_
    refine wq_br (fun _ _ kt kf => rs_if_eq (tgt := 36) (pc := 18) dX11_best_18 rfl kt kf) (fun c_18 => ?_) (fun c_18 => ?_)
    · refine wq (fun _ _ kk => rs_iconst (v := 0) (pc := 36) dX11_best_36 rfl kk) ?_
      refine wq (fun _ _ kk => wk_ist5 (pc := 37) dX11_best_37 (by decide) rfl kk) ?_
      refine wq (fun _ _ kk => rs_iload (pc := 39) dX11_best_39 rfl kk) ?_
      refine wq_br (fun _ _ kt kf => rs_if_eq (tgt := 54) (pc := 41) dX11_best_41 rfl kt kf) (fun c_41 => ?_) (fun c_41 => absurd c_41 (by decide))
      refine wq (fun _ _ kk => rs_bipush (v := -2) (pc := 54) dX11_best_54 rfl kk) ?_
      refine wq_ret ?_ (rs_iret (pc := 56) dX11_best_56 rfl)
      exact ⟨fr.rf, hs, Or.inl ⟨by first | exact Or.inl c_11 | exact Or.inr (Or.inl c_18) | exact Or.inr (Or.inr (Or.inl c_29)) | exact Or.inr (Or.inr (Or.inr c_51)), rfl⟩⟩
    · refine wq (fun _ _ kk => rs_iload_n (pc := 21) dX11_best_21 rfl kk) ?_
      refine wq (fun _ _ kk => rs_iconst (v := 0) (pc := 22) dX11_best_22 rfl kk) ?_
      refine wq (fun _ _ kk => rs_sipush (v := 900) (pc := 23) dX11_best_23 rfl kk) ?_
      refine wq (fun _ _ kk => rs_callS (as := [_, _, _]) (pc := 26) dX11_best_26 mk_X11_isWithin mlX11_104 st_X11_isWithin rfl rfl (Nat.le_of_ble_eq_true rfl) (c_X11_isWithin) kk) ?_
      refine wq_br (fun _ _ kt kf => rs_if_eq (tgt := 36) (pc := 29) dX11_best_29 rfl kt kf) (fun c_29 => ?_) (fun c_29 => ?_)
      · refine wq (fun _ _ kk => rs_iconst (v := 0) (pc := 36) dX11_best_36 rfl kk) ?_
        refine wq (fun _ _ kk => wk_ist5 (pc := 37) dX11_best_37 (by decide) rfl kk) ?_
        refine wq (fun _ _ kk => rs_iload (pc := 39) dX11_best_39 rfl kk) ?_
        refine wq_br (fun _ _ kt kf => rs_if_eq (tgt := 54) (pc := 41) dX11_best_41 rfl kt kf) (fun c_41 => ?_) (fun c_41 => absurd c_41 (by decide))
        refine wq (fun _ _ kk => rs_bipush (v := -2) (pc := 54) dX11_best_54 rfl kk) ?_
        refine wq_ret ?_ (rs_iret (pc := 56) dX11_best_56 rfl)
        exact ⟨fr.rf, hs, Or.inl ⟨by first | exact Or.inl c_11 | exact Or.inr (Or.inl c_18) | exact Or.inr (Or.inr (Or.inl c_29)) | exact Or.inr (Or.inr (Or.inr c_51)), rfl⟩⟩
      · refine wq (fun _ _ kk => rs_iconst (v := 1) (pc := 32) dX11_best_32 rfl kk) ?_
        refine wq (fun _ _ kk => rs_goto (tgt := 37) (pc := 33) dX11_best_33 rfl kk) ?_
        refine wq (fun _ _ kk => wk_ist5 (pc := 37) dX11_best_37 (by decide) rfl kk) ?_
        refine wq (fun _ _ kk => rs_iload (pc := 39) dX11_best_39 rfl kk) ?_
        refine wq_br (fun _ _ kt kf => rs_if_eq (tgt := 54) (pc := 41) dX11_best_41 rfl kt kf) (fun c_41 => absurd c_41 (by decide)) (fun c_41 => ?_)
        refine wq (fun _ _ kk => rs_iload (pc := 44) dX11_best_44 rfl kk) ?_
        refine wq (fun _ _ kk => rs_iconst (v := 0) (pc := 46) dX11_best_46 rfl kk) ?_
        refine wq (fun _ _ kk => rs_iconst (v := 1) (pc := 47) dX11_best_47 rfl kk) ?_
        refine wq (fun _ _ kk => rs_callS (as := [_, _, _]) (pc := 48) dX11_best_48 mk_X11_isWithin mlX11_104 st_X11_isWithin rfl rfl (Nat.le_of_ble_eq_true rfl) (c_X11_isWithin) kk) ?_
        refine wq_bn (fun _ _ kt kf => rs_if_ne (tgt := 57) (pc := 51) dX11_best_51 rfl kt kf) (fun c_51 => ?_) (fun c_51 => ?_)
        · refine wq (fun _ _ kk => rs_aload_n (pc := 57) dX11_best_57 rfl kk) ?_
          refine wq (fun _ _ kk => rs_iload_n (pc := 58) dX11_best_58 rfl kk) ?_
          refine wq (fun _ _ kk => rs_iload_n (pc := 59) dX11_best_59 rfl kk) ?_
          have hgu : ¬ (tb_has (bk_o B).1 o = 0 ∨ bi_in k 0 9999 = 0 ∨ bi_in p 0 900 = 0 ∨ bi_in x 0 1 = 0) := by rintro (z | z | z | z); exact c_11 z; exact c_18 z; exact c_29 z; exact c_51 z
          obtain ⟨rv_60, hc_60, ⟨rfl, ee_60, hx_60, hB_60, hsc_60, hLW_60, f16, hlf_60, hv⟩, hm_60⟩ := c_X11_leastLeft (o := o) (k := k) hok hLW.1 hx hB hsc hLW hlf
          refine wq (fun _ _ kk => rs_callV (as := [_, _]) (pc := 60) dX11_best_60 mk_X11_leastLeft mlX11_239 in_X11_leastLeft se_X11_leastLeft rfl (x_lt hx (by decide)) hx.2 rfl rfl (Nat.le_of_ble_eq_true rfl) (hm_60) kk) ?_
          replace hx := hx_60
          replace hB := hB_60
          replace hlf := hlf_60
          have hn10 := hLW.1
          refine wq (fun _ _ kk => wk_ist6 (pc := 63) dX11_best_63 (by decide) rfl kk) ?_
          refine wq (fun _ _ kk => rs_iload (pc := 65) dX11_best_65 rfl kk) ?_
          refine wq_bn (fun _ _ kt kf => rs_if_ne (tgt := 73) (pc := 67) dX11_best_67 rfl kt kf) (fun c_67 => ?_) (fun c_67 => ?_)
          · refine wq (fun _ _ kk => rs_iload (pc := 73) dX11_best_73 rfl kk) ?_
            refine wq (fun _ _ kk => rs_iconst (v := -1) (pc := 75) dX11_best_75 rfl kk) ?_
            refine wq_bn (fun _ _ kt kf => rs_icmp_ne (tgt := 83) (pc := 76) dX11_best_76 rfl kt kf) (fun c_76 => ?_) (fun c_76 => ?_)
            · refine wq (fun _ _ kk => rs_aload_n (pc := 83) dX11_best_83 rfl kk) ?_
              refine wq (fun _ _ kk => rs_aload_n (pc := 84) dX11_best_84 rfl kk) ?_
              refine wq (fun _ _ kk => rs_getf (pc := 85) dX11_best_85 fX11_37 (x_lt hx (by decide)) hx.2 rfl kk) ?_
              refine wq (fun _ _ kk => rs_iload (pc := 88) dX11_best_88 rfl kk) ?_
              refine wq (fun _ _ kk => rs_lald (pc := 90) dX11_best_90 (x_lt hx (by decide)) hlf (by rcases bsI_ex (fun r => lvS B (Ls r) o k (nR B)) nl (by omega) with ⟨-, z⟩ | ⟨-, j, j1, j2⟩; exact absurd z c_76; rw [j2]; exact vp_in_nI (n := j) (N := 10) (by omega) (by decide)) kk) ?_
              refine wq (fun _ _ kk => rs_ldc2 (pc := 91) dX11_best_91 cnX11_242 kk) ?_
              refine wq (fun _ _ kk => rs_ldiv (pc := 94) dX11_best_94 (by decide) kk) ?_
              refine wq (fun _ _ kk => rs_bipush (v := 100) (pc := 95) dX11_best_95 rfl kk) ?_
              refine wq (fun _ _ kk => rs_iload_n (pc := 97) dX11_best_97 rfl kk) ?_
              refine wq (fun _ _ kk => rs_iadd (pc := 98) dX11_best_98 kk) ?_
              refine wq (fun _ _ kk => rs_i2l (pc := 99) dX11_best_99 kk) ?_
              refine wq (fun _ _ kk => rs_lmul (pc := 100) dX11_best_100 kk) ?_
              refine wq (fun _ _ kk => rs_callV (as := [_]) (pc := 101) dX11_best_101 mk_X11_stillBits mlX11_244 in_X11_stillBits se_X11_stillBits rfl (x_lt hx (by decide)) hx.2 rfl rfl (Nat.le_of_ble_eq_true rfl) (c_X11_stillBits (v := (fun r => lvS B (Ls r) o k (nR B))) hn10 hx hlf hv) kk) ?_
              refine wq_ret ?_ (rs_iret (pc := 104) dX11_best_104 rfl)
              refine ⟨ee_60.f, hs.law ee_60 ⟨_, hlf⟩ hsc_60, Or.inr ⟨hgu, ?_⟩⟩
              unfold uu_best
              rw [if_neg c_67]
              rcases bsI_ex (fun r => lvS B (Ls r) o k (nR B)) nl (by omega) with ⟨z0, z⟩ | ⟨z0, j, j1, j2⟩
              · first
                | (rw [if_pos z0]; done)
                | exact absurd z c_76
              · first
                | exact absurd (j2.symm.trans c_76) (nI_m1 (by omega))
                | (rw [if_neg (by omega), j2, nI_clamp (by omega), hv j j1])
            · refine wq (fun _ _ kk => rs_iconst (v := 0) (pc := 79) dX11_best_79 rfl kk) ?_
              refine wq (fun _ _ kk => rs_goto (tgt := 104) (pc := 80) dX11_best_80 rfl kk) ?_
              refine wq_ret ?_ (rs_iret (pc := 104) dX11_best_104 rfl)
              refine ⟨ee_60.f, hs.law ee_60 ⟨_, hlf⟩ hsc_60, Or.inr ⟨hgu, ?_⟩⟩
              unfold uu_best
              rw [if_neg c_67]
              rcases bsI_ex (fun r => lvS B (Ls r) o k (nR B)) nl (by omega) with ⟨z0, z⟩ | ⟨z0, j, j1, j2⟩
              · first
                | (rw [if_pos z0]; done)
                | exact absurd z c_76
              · first
                | exact absurd (j2.symm.trans c_76) (nI_m1 (by omega))
                | (rw [if_neg (by omega), j2, nI_clamp (by omega), hv j j1])
          · refine wq (fun _ _ kk => rs_iload (pc := 70) dX11_best_70 rfl kk) ?_
            refine wq_ret ?_ (rs_iret (pc := 72) dX11_best_72 rfl)
            exact ⟨ee_60.f, hs.law ee_60 ⟨_, hlf⟩ hsc_60, Or.inr ⟨hgu, by unfold uu_best; rw [if_pos c_67]⟩⟩
        · refine wq (fun _ _ kk => rs_bipush (v := -2) (pc := 54) dX11_best_54 rfl kk) ?_
          refine wq_ret ?_ (rs_iret (pc := 56) dX11_best_56 rfl)
          exact ⟨fr.rf, hs, Or.inl ⟨by first | exact Or.inl c_11 | exact Or.inr (Or.inl c_18) | exact Or.inr (Or.inr (Or.inl c_29)) | exact Or.inr (Or.inr (Or.inr c_51)), rfl⟩⟩
