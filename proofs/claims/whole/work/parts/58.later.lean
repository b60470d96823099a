/-! 58: later of the class (walks laid by wip/whole/p58.py) -/
theorem le_none {B : Bk} {nl : Nat} (hok : bk_ok B nl) (hn : nl ≤ 10) {Ls : Nat → List Cl} {k : Nat} (hk : k < nR B) (c : bi_in (bk_oat B (bk_rat B (nI k) 3) 1) 0 (nI nl - 1) = 0) : leZ B Ls k = 0 := by
  obtain ⟨-, -, -, -, -, -, k7, k8, -⟩ := hok.2.2.2.2.1.2.2 k hk
  obtain ⟨o, ho, eo⟩ := i32_ex k7 k8
  obtain ⟨-, -, l1, l2⟩ := hok.2.1.2.2 o ho
  rw [eo] at c
  unfold leZ
  rw [eo]
  rw [if_pos]
  have hm : (nI nl - 1).toInt = (nl : Int) - 1 := by rw [nI_s1, aI_int (by omega) (by omega)]
  unfold bi_in at c
  by_cases c1 : bk_oat B (nI o) 1 < 0
  · rw [i32_lt, i32_0] at c1
    apply Int32.toInt_inj.mp
    rw [show (-1 : Int32).toInt = -1 from rfl]
    omega
  · rw [if_neg c1, if_neg (by rw [i32_lt, hm]; omega)] at c
    exact absurd c (by decide)
theorem le_some {B : Bk} {Ls : Nat → List Cl} {k r : Nat} (hr : r < 10) (e : bk_oat B (bk_rat B (nI k) 3) 1 = nI r) : bi_fdI (hld (lwv (bkw B (nI k)) (Ls r))).toInt32 1000 = aI (leZ B Ls k) := by
  have hb := hld_b (lwv (bkw B (nI k)) (Ls r))
  unfold leZ
  rw [e, if_neg (nI_m1 (by omega)), nI_clamp (by omega), ← aL_to (hld (lwv (bkw B (nI k)) (Ls r))), aL_l2i, aL_int (by omega) (by omega), show (1000 : Int32) = aI 1000 from rfl, aI_fd (by omega) (by omega) (by omega) (by omega)]
theorem dX11_ownLeanTenths_0 : decode cX11_ownLeanTenths 0 = .ok (.aload_n 0, 1) := by decide +kernel
theorem dX11_ownLeanTenths_1 : decode cX11_ownLeanTenths 1 = .ok (.aload_n 0, 1) := by decide +kernel
theorem dX11_ownLeanTenths_2 : decode cX11_ownLeanTenths 2 = .ok (.getfield 10, 3) := by decide +kernel
theorem dX11_ownLeanTenths_5 : decode cX11_ownLeanTenths 5 = .ok (.getfield 108, 3) := by decide +kernel
theorem dX11_ownLeanTenths_8 : decode cX11_ownLeanTenths 8 = .ok (.aload_n 0, 1) := by decide +kernel
theorem dX11_ownLeanTenths_9 : decode cX11_ownLeanTenths 9 = .ok (.getfield 10, 3) := by decide +kernel
theorem dX11_ownLeanTenths_12 : decode cX11_ownLeanTenths 12 = .ok (.getfield 135, 3) := by decide +kernel
theorem dX11_ownLeanTenths_15 : decode cX11_ownLeanTenths 15 = .ok (.iload_n 1, 1) := by decide +kernel
theorem dX11_ownLeanTenths_16 : decode cX11_ownLeanTenths 16 = .ok (.iconst 3, 1) := by decide +kernel
theorem dX11_ownLeanTenths_17 : decode cX11_ownLeanTenths 17 = .ok (.invokevirtual 141, 3) := by decide +kernel
theorem dX11_ownLeanTenths_20 : decode cX11_ownLeanTenths 20 = .ok (.iconst 1, 1) := by decide +kernel
theorem dX11_ownLeanTenths_21 : decode cX11_ownLeanTenths 21 = .ok (.invokevirtual 141, 3) := by decide +kernel
theorem dX11_ownLeanTenths_24 : decode cX11_ownLeanTenths 24 = .ok (.invokevirtual 169, 3) := by decide +kernel
theorem dX11_ownLeanTenths_27 : decode cX11_ownLeanTenths 27 = .ok (.astore_n 2, 1) := by decide +kernel
theorem dX11_ownLeanTenths_28 : decode cX11_ownLeanTenths 28 = .ok (.aload_n 2, 1) := by decide +kernel
theorem dX11_ownLeanTenths_29 : decode cX11_ownLeanTenths 29 = .ok (.ifnonnull 7, 3) := by decide +kernel
theorem dX11_ownLeanTenths_32 : decode cX11_ownLeanTenths 32 = .ok (.iconst 0, 1) := by decide +kernel
theorem dX11_ownLeanTenths_33 : decode cX11_ownLeanTenths 33 = .ok (.goto 22, 3) := by decide +kernel
theorem dX11_ownLeanTenths_36 : decode cX11_ownLeanTenths 36 = .ok (.aload_n 0, 1) := by decide +kernel
theorem dX11_ownLeanTenths_37 : decode cX11_ownLeanTenths 37 = .ok (.getfield 51, 3) := by decide +kernel
theorem dX11_ownLeanTenths_40 : decode cX11_ownLeanTenths 40 = .ok (.aload_n 2, 1) := by decide +kernel
theorem dX11_ownLeanTenths_41 : decode cX11_ownLeanTenths 41 = .ok (.aload_n 0, 1) := by decide +kernel
theorem dX11_ownLeanTenths_42 : decode cX11_ownLeanTenths 42 = .ok (.getfield 10, 3) := by decide +kernel
theorem dX11_ownLeanTenths_45 : decode cX11_ownLeanTenths 45 = .ok (.iload_n 1, 1) := by decide +kernel
theorem dX11_ownLeanTenths_46 : decode cX11_ownLeanTenths 46 = .ok (.invokevirtual 174, 3) := by decide +kernel
theorem dX11_ownLeanTenths_49 : decode cX11_ownLeanTenths 49 = .ok (.sipush 1000, 3) := by decide +kernel
theorem dX11_ownLeanTenths_52 : decode cX11_ownLeanTenths 52 = .ok (.invokestatic 375, 3) := by decide +kernel
theorem dX11_ownLeanTenths_55 : decode cX11_ownLeanTenths 55 = .ok (.ireturn, 1) := by decide +kernel
set_option maxRecDepth 100000 in
set_option maxHeartbeats 4000000 in
theorem c_X11_ownLeanTenths {h : ai_H} {tb : Int32} {B : Bk} {nl : Nat} {Ls : Nat → List Cl} (hx : x_at h tb (nI nl)) (hB : bk_at h 1 B) (hok : bk_ok B nl) (hLW : LWS h nl Ls) {S3 : Md} {k : Nat} (hk : k < nR B) (hsc : sc_at h S3) : ai_QM MX11_ownLeanTenths [.ref 0, .int (nI k)] h (fun r g => r = some (.int (aI (leZ B Ls k))) ∧ sx h g ∧ ∃ S, sc_at g S) := by
  obtain ⟨L, hLa, hlo⟩ := lawOf_ex hLW (bk_oat B (bk_rat B (nI k) 3) 1)
  refine qm_of (ls := [.ref 0, .int (nI k), .float 0]) (by decide) (by simp [ai_en, Value.category]) (by rfl) ?_
  refine wq (fun _ _ kk => rs_aload_n (pc := 0) dX11_ownLeanTenths_0 rfl kk) ?_
  refine wq (fun _ _ kk => rs_aload_n (pc := 1) dX11_ownLeanTenths_1 rfl kk) ?_
  refine wq (fun _ _ kk => rs_getf (pc := 2) dX11_ownLeanTenths_2 fX11_10 (x_lt hx (by decide)) hx.2 rfl kk) ?_
  refine wq (fun _ _ kk => rs_getf (pc := 5) dX11_ownLeanTenths_5 fX11_108 (bk_lt hB (by decide)) hB.2.1 rfl kk) ?_
  refine wq (fun _ _ kk => rs_aload_n (pc := 8) dX11_ownLeanTenths_8 rfl kk) ?_
  refine wq (fun _ _ kk => rs_getf (pc := 9) dX11_ownLeanTenths_9 fX11_10 (x_lt hx (by decide)) hx.2 rfl kk) ?_
  refine wq (fun _ _ kk => rs_getf (pc := 12) dX11_ownLeanTenths_12 fX11_135 (bk_lt hB (by decide)) hB.2.1 rfl kk) ?_
  refine wq (fun _ _ kk => rs_iload_n (pc := 15) dX11_ownLeanTenths_15 rfl kk) ?_
  refine wq (fun _ _ kk => rs_iconst (v := 3) (pc := 16) dX11_ownLeanTenths_16 rfl kk) ?_
  refine wq (fun _ _ kk => rs_callV (as := [_, _]) (pc := 17) dX11_ownLeanTenths_17 mk_X8_at mlX11_141 in_X8_at se_X8_at rfl (bk_lt hB (by decide)) hB.2.2.2.2.2.1.1 rfl rfl (Nat.le_of_ble_eq_true rfl) (c_X8_at (bk_lt hB (by decide)) hB.2.2.2.2.2.1.1 (bk_lt hB (by decide)) hB.2.2.2.2.2.1.2.1 hB.2.2.2.2.2.1.2.2 _ _) kk) ?_
  rw [show tb_at 9 (bk_r B).1 (bk_r B).2 (nI k) 3 = bk_rat B (nI k) 3 from rfl]
  refine wq (fun _ _ kk => rs_iconst (v := 1) (pc := 20) dX11_ownLeanTenths_20 rfl kk) ?_
  refine wq (fun _ _ kk => rs_callV (as := [_, _]) (pc := 21) dX11_ownLeanTenths_21 mk_X8_at mlX11_141 in_X8_at se_X8_at rfl (bk_lt hB (by decide)) hB.2.2.1.1 rfl rfl (Nat.le_of_ble_eq_true rfl) (c_X8_at (bk_lt hB (by decide)) hB.2.2.1.1 (bk_lt hB (by decide)) hB.2.2.1.2.1 hB.2.2.1.2.2 _ _) kk) ?_
  rw [show tb_at 2 (bk_o B).1 (bk_o B).2 (bk_rat B (nI k) 3) 1 = bk_oat B (bk_rat B (nI k) 3) 1 from rfl]
  refine wq (fun _ _ kk => rs_callV (as := [_]) (pc := 24) dX11_ownLeanTenths_24 mk_X11_lawOf mlX11_169 in_X11_lawOf se_X11_lawOf rfl (x_lt hx (by decide)) hx.2 rfl rfl (Nat.le_of_ble_eq_true rfl) (c_X11_lawOf hx hLa _) kk) ?_
  rcases hlo with ⟨c0, elo⟩ | ⟨c0, r, q, p, f, hr, er, elo, hL, hf, hC⟩
  · rw [elo]
    refine wq (fun _ _ kk => wk_nstn2 (pc := 27) dX11_ownLeanTenths_27 (by decide) rfl kk) ?_
    refine wq (fun _ _ kk => rs_aload_nN (pc := 28) dX11_ownLeanTenths_28 rfl kk) ?_
    refine wq (fun _ _ kk => rs_ifnonnullN (pc := 29) dX11_ownLeanTenths_29 kk) ?_
    refine wq (fun _ _ kk => rs_iconst (v := 0) (pc := 32) dX11_ownLeanTenths_32 rfl kk) ?_
    refine wq (fun _ _ kk => rs_goto (tgt := 55) (pc := 33) dX11_ownLeanTenths_33 rfl kk) ?_
    refine wq_ret ?_ (rs_iret (pc := 55) dX11_ownLeanTenths_55 rfl)
    exact ⟨by rw [le_none hok hLW.1 hk c0]; rfl, sx.rf, ⟨_, hsc⟩⟩
  · rw [elo]
    refine wq (fun _ _ kk => wk_astn2 (pc := 27) dX11_ownLeanTenths_27 (by decide) rfl kk) ?_
    refine wq (fun _ _ kk => rs_aload_n (pc := 28) dX11_ownLeanTenths_28 rfl kk) ?_
    refine wq (fun _ _ kk => rs_ifnonnull (tgt := 36) (pc := 29) dX11_ownLeanTenths_29 rfl kk) ?_
    refine wq (fun _ _ kk => rs_aload_n (pc := 36) dX11_ownLeanTenths_36 rfl kk) ?_
    refine wq (fun _ _ kk => rs_getf (pc := 37) dX11_ownLeanTenths_37 fX11_51 (x_lt hx (by decide)) hx.2 rfl kk) ?_
    refine wq (fun _ _ kk => rs_aload_n (pc := 40) dX11_ownLeanTenths_40 rfl kk) ?_
    refine wq (fun _ _ kk => rs_aload_n (pc := 41) dX11_ownLeanTenths_41 rfl kk) ?_
    refine wq (fun _ _ kk => rs_getf (pc := 42) dX11_ownLeanTenths_42 fX11_10 (x_lt hx (by decide)) hx.2 rfl kk) ?_
    refine wq (fun _ _ kk => rs_iload_n (pc := 45) dX11_ownLeanTenths_45 rfl kk) ?_
    obtain ⟨rv_46, hc_46, ⟨ee_46, hsc_46, rfl⟩, hm_46⟩ := c_X7_weigh (by rw [stp_len]; have := hC.2.2; omega) hC.1 hC.2.1 hf rfl hB hL hsc
    refine wq (fun _ _ kk => rs_callV (as := [_, _, _]) (pc := 46) dX11_ownLeanTenths_46 mk_X7_weigh mlX11_174 in_X7_weigh se_X7_weigh rfl (mo_lt hsc (by decide)) hsc.2.1 rfl rfl (Nat.le_of_ble_eq_true rfl) (hm_46) kk) ?_
    refine wq (fun _ _ kk => rs_sipush (v := 1000) (pc := 49) dX11_ownLeanTenths_49 rfl kk) ?_
    refine wq (fun _ _ kk => rs_callS (as := [_, _]) (pc := 52) dX11_ownLeanTenths_52 mk_J9_floorDiv_7cf53 mlX11_375 st_J9_floorDiv_7cf53 rfl rfl (Nat.le_of_ble_eq_true rfl) (c_fdI (by decide)) kk) ?_
    rw [le_some (by have := hLW.1; omega) er]
    refine wq_ret ?_ (rs_iret (pc := 55) dX11_ownLeanTenths_55 rfl)
    exact ⟨rfl, ee_46, hsc_46⟩
/-- scale, cells and worlds changed -/
def lw4 (h g : ai_H) : Prop := g.1 = h.1 ∧ g.2.1 = h.2.1 ∧ ∀ j, (j < 20 ∨ (34 < j ∧ j < 301) ∨ 305 < j) → g.2.2 j = h.2.2 j
theorem lw4.rf {h : ai_H} : lw4 h h := ⟨rfl, rfl, fun _ _ => rfl⟩
theorem lw4.trans {h g k : ai_H} (a : lw4 h g) (b : lw4 g k) : lw4 h k := ⟨b.1.trans a.1, b.2.1.trans a.2.1, fun j hj => (b.2.2 j hj).trans (a.2.2 j hj)⟩
theorem lw4.s {h g : ai_H} (a : sx h g) : lw4 h g := ⟨a.1, a.2.1, fun j hj => a.2.2 j (by omega)⟩
theorem lw4.w {h g : ai_H} (a : ow h g) : lw4 h g := ⟨a.1, a.2.1, fun j hj => a.2.2 j (by omega)⟩
theorem lw4.c {h g : ai_H} (a : xc h g) : lw4 h g := ⟨a.1, a.2.1, fun j hj => a.2.2 j (by omega)⟩
theorem lw4.f {h g : ai_H} (a : lw4 h g) : fr 15 306 h g := ⟨a.1, a.2.1, fun j hj => a.2.2 j (by omega)⟩
theorem scr.late {h g : ai_H} (hs : scr h) (e : lw4 h g) (h3 : ∃ S, sc_at g S) (h4 : ∃ S, cl_at g S) (h8 : ∃ S, wq_at g S) (h8' : ∃ t, g.2.2 305 = ty_cell t) : scr g := by
  obtain ⟨⟨f, a1⟩, ⟨t, S2, a2, a2'⟩, -, -, ⟨T5, a5⟩, ⟨S6, a6⟩, ⟨S7, a7⟩, -, ⟨t9, a9⟩⟩ := hs
  obtain ⟨S8, a8⟩ := h8
  obtain ⟨t8, a8'⟩ := h8'
  exact ⟨⟨f, (e.2.2 _ (by decide)).trans a1⟩, ⟨t, S2, a2, rd_keep a2' e.1 (fun j _ _ => e.2.2 j (by omega))⟩, h3, h4, ⟨T5, mt_keep a5 e.1 (fun j _ _ => e.2.2 j (by omega))⟩, ⟨S6, rp_keep a6 e.1 (fun j _ _ => e.2.2 j (by omega))⟩, ⟨S7, bo_keep a7 e.1 (fun j _ _ => e.2.2 j (by omega))⟩, ⟨.ref 22, S8, t8, Or.inr rfl, a8, a8'⟩, ⟨t9, (e.2.2 _ (by decide)).trans a9⟩⟩
theorem tk_ne {B : Bk} {ln : Nat} (hok : bk_ok B ln) {wk : Int32} {Sc : Md} {z ia ib : Nat} (hG : GI B wk Sc (nR B) z) (hia : ia < 16) (hib : ib < 16) (hij : ia ≠ ib) : cN (tkn B wk (nI ia) (nI ib)) (nR B) = 0 ↔ lst (mt_p Sc z (ia * 16 + ib)) (kC Sc) z = [] := by
  have e1 : (ia * 16 + ib) / 16 = ia := by omega
  have e2 : (ia * 16 + ib) % 16 = ib := by omega
  constructor
  · intro h
    cases e : lst (mt_p Sc z (ia * 16 + ib)) (kC Sc) z with
    | nil => rfl
    | cons K l =>
      exfalso
      obtain ⟨c, c1, c2, c3⟩ := (mem_lst z).1 (show K ∈ lst (mt_p Sc z (ia * 16 + ib)) (kC Sc) z by rw [e]; exact List.mem_cons_self)
      have hm := ((mt_p_is hok hG c1 (show ia * 16 + ib < 256 by omega)).1 c2).1
      rw [e1, e2] at hm
      obtain ⟨k, k1, k2, k3⟩ := zc_ex hm.2.2.1
      have hk : rK B k = kC Sc c := Prod.ext k3.2.1 (Prod.ext k3.2.2.1 k3.2.2.2)
      have := cN_pos (p := tkn B wk (nI ia) (nI ib)) (k := k) (tkn_iff.2 ⟨k2, Or.inl k3.1, by rw [hk]; exact hm⟩) (nR B) k1
      omega
  · intro h
    rcases Nat.eq_zero_or_pos (cN (tkn B wk (nI ia) (nI ib)) (nR B)) with e | e
    · exact e
    · exfalso
      obtain ⟨k, k1, k2⟩ := cN_ex _ e
      obtain ⟨y1, y2, y3⟩ := tkn_iff.1 k2
      obtain ⟨c, c1, c2, c3⟩ := cell_of hG y3.2.2.1
      have : kC Sc c ∈ lst (mt_p Sc z (ia * 16 + ib)) (kC Sc) z := (mem_lst z).2 ⟨c, c1, (mt_p_is hok hG c1 (show ia * 16 + ib < 256 by omega)).2 ⟨by rw [e1, e2, c2]; exact y3, by rw [e1]; exact c3⟩, rfl⟩
      rw [h] at this
      cases this
theorem dX11_later_0 : decode cX11_later 0 = .ok (.aload_n 0, 1) := by decide +kernel
theorem dX11_later_1 : decode cX11_later 1 = .ok (.iload_n 1, 1) := by decide +kernel
theorem dX11_later_2 : decode cX11_later 2 = .ok (.iload_n 2, 1) := by decide +kernel
theorem dX11_later_3 : decode cX11_later 3 = .ok (.invokevirtual 178, 3) := by decide +kernel
theorem dX11_later_6 : decode cX11_later 6 = .ok (.ifCond .eq 29, 3) := by decide +kernel
theorem dX11_later_9 : decode cX11_later 9 = .ok (.iload_n 3, 1) := by decide +kernel
theorem dX11_later_10 : decode cX11_later 10 = .ok (.ifCond .lt 25, 3) := by decide +kernel
theorem dX11_later_13 : decode cX11_later 13 = .ok (.iload 4, 2) := by decide +kernel
theorem dX11_later_15 : decode cX11_later 15 = .ok (.iconst 0, 1) := by decide +kernel
theorem dX11_later_16 : decode cX11_later 16 = .ok (.bipush 99, 2) := by decide +kernel
theorem dX11_later_18 : decode cX11_later 18 = .ok (.invokestatic 104, 3) := by decide +kernel
theorem dX11_later_21 : decode cX11_later 21 = .ok (.ifCond .eq 14, 3) := by decide +kernel
theorem dX11_later_24 : decode cX11_later 24 = .ok (.iload 5, 2) := by decide +kernel
theorem dX11_later_26 : decode cX11_later 26 = .ok (.iconst 1, 1) := by decide +kernel
theorem dX11_later_27 : decode cX11_later 27 = .ok (.bipush 50, 2) := by decide +kernel
theorem dX11_later_29 : decode cX11_later 29 = .ok (.invokestatic 104, 3) := by decide +kernel
theorem dX11_later_32 : decode cX11_later 32 = .ok (.ifCond .ne 5, 3) := by decide +kernel
theorem dX11_later_35 : decode cX11_later 35 = .ok (.iconst (-1), 1) := by decide +kernel
theorem dX11_later_36 : decode cX11_later 36 = .ok (.ireturn, 1) := by decide +kernel
theorem dX11_later_37 : decode cX11_later 37 = .ok (.aload_n 0, 1) := by decide +kernel
theorem dX11_later_38 : decode cX11_later 38 = .ok (.getfield 58, 3) := by decide +kernel
theorem dX11_later_41 : decode cX11_later 41 = .ok (.aload_n 0, 1) := by decide +kernel
theorem dX11_later_42 : decode cX11_later 42 = .ok (.getfield 10, 3) := by decide +kernel
theorem dX11_later_45 : decode cX11_later 45 = .ok (.aload_n 0, 1) := by decide +kernel
theorem dX11_later_46 : decode cX11_later 46 = .ok (.getfield 10, 3) := by decide +kernel
theorem dX11_later_49 : decode cX11_later 49 = .ok (.getfield 101, 3) := by decide +kernel
theorem dX11_later_52 : decode cX11_later 52 = .ok (.invokevirtual 248, 3) := by decide +kernel
theorem dX11_later_55 : decode cX11_later 55 = .ok (.aload_n 0, 1) := by decide +kernel
theorem dX11_later_56 : decode cX11_later 56 = .ok (.getfield 86, 3) := by decide +kernel
theorem dX11_later_59 : decode cX11_later 59 = .ok (.aload_n 0, 1) := by decide +kernel
theorem dX11_later_60 : decode cX11_later 60 = .ok (.getfield 58, 3) := by decide +kernel
theorem dX11_later_63 : decode cX11_later 63 = .ok (.iload_n 1, 1) := by decide +kernel
theorem dX11_later_64 : decode cX11_later 64 = .ok (.iload_n 2, 1) := by decide +kernel
theorem dX11_later_65 : decode cX11_later 65 = .ok (.invokevirtual 296, 3) := by decide +kernel
theorem dX11_later_68 : decode cX11_later 68 = .ok (.iconst 0, 1) := by decide +kernel
theorem dX11_later_69 : decode cX11_later 69 = .ok (.istore 6, 2) := by decide +kernel
theorem dX11_later_71 : decode cX11_later 71 = .ok (.iload 6, 2) := by decide +kernel
theorem dX11_later_73 : decode cX11_later 73 = .ok (.aload_n 0, 1) := by decide +kernel
theorem dX11_later_74 : decode cX11_later 74 = .ok (.getfield 10, 3) := by decide +kernel
theorem dX11_later_77 : decode cX11_later 77 = .ok (.getfield 135, 3) := by decide +kernel
theorem dX11_later_80 : decode cX11_later 80 = .ok (.getfield 224, 3) := by decide +kernel
theorem dX11_later_83 : decode cX11_later 83 = .ok (.if_icmp .ge 24, 3) := by decide +kernel
theorem dX11_later_86 : decode cX11_later 86 = .ok (.aload_n 0, 1) := by decide +kernel
theorem dX11_later_87 : decode cX11_later 87 = .ok (.getfield 86, 3) := by decide +kernel
theorem dX11_later_90 : decode cX11_later 90 = .ok (.iload 6, 2) := by decide +kernel
theorem dX11_later_92 : decode cX11_later 92 = .ok (.aload_n 0, 1) := by decide +kernel
theorem dX11_later_93 : decode cX11_later 93 = .ok (.iload 6, 2) := by decide +kernel
theorem dX11_later_95 : decode cX11_later 95 = .ok (.invokevirtual 299, 3) := by decide +kernel
theorem dX11_later_98 : decode cX11_later 98 = .ok (.invokevirtual 302, 3) := by decide +kernel
theorem dX11_later_101 : decode cX11_later 101 = .ok (.iinc 6 1, 3) := by decide +kernel
theorem dX11_later_104 : decode cX11_later 104 = .ok (.goto (-33), 3) := by decide +kernel
theorem dX11_later_107 : decode cX11_later 107 = .ok (.aload_n 0, 1) := by decide +kernel
theorem dX11_later_108 : decode cX11_later 108 = .ok (.getfield 86, 3) := by decide +kernel
theorem dX11_later_111 : decode cX11_later 111 = .ok (.invokevirtual 305, 3) := by decide +kernel
theorem dX11_later_114 : decode cX11_later 114 = .ok (.ifCond .eq 18, 3) := by decide +kernel
theorem dX11_later_117 : decode cX11_later 117 = .ok (.aload_n 0, 1) := by decide +kernel
theorem dX11_later_118 : decode cX11_later 118 = .ok (.getfield 86, 3) := by decide +kernel
theorem dX11_later_121 : decode cX11_later 121 = .ok (.iload_n 3, 1) := by decide +kernel
theorem dX11_later_122 : decode cX11_later 122 = .ok (.iload 4, 2) := by decide +kernel
theorem dX11_later_124 : decode cX11_later 124 = .ok (.iload 5, 2) := by decide +kernel
theorem dX11_later_126 : decode cX11_later 126 = .ok (.invokevirtual 309, 3) := by decide +kernel
theorem dX11_later_129 : decode cX11_later 129 = .ok (.goto 5, 3) := by decide +kernel
theorem dX11_later_132 : decode cX11_later 132 = .ok (.bipush (-2), 2) := by decide +kernel
theorem dX11_later_134 : decode cX11_later 134 = .ok (.ireturn, 1) := by decide +kernel
set_option maxRecDepth 100000 in
set_option maxHeartbeats 4000000 in
theorem l_X11_later {h : ai_H} {tb : Int32} {B : Bk} {nl ia ib z : Nat} {Ls : Nat → List Cl} {Sc : Md} {v3 v4 v5 : Int32} (hok : bk_ok B nl) (hG : GI B (bk_now B) Sc (nR B) z) (hia : ia < 16) (hib : ib < 16) (hij : ia ≠ ib) {Q : Option Value → ai_H → Prop} (kx : ∀ (S3 S8 : Md) (t8 : Ty) (g : ai_H), lw4 h g → x_at g tb (nI nl) → bk_at g 1 B → LWS g nl Ls → sc_at g S3 → cl_at g Sc → wq_at g S8 → g.2.2 305 = ty_cell t8 → WT B Ls (bk_now B) (nI ia) (nI ib) Sc z (nR B) S8 → ai_W MX11_later 107 [.ref 0, .int (nI ia), .int (nI ib), .int v3, .int v4, .int v5, .int (nI (nR B))] [] g Q) : ∀ (m i : Nat) (S3 S8 : Md) (t8 : Ty) (g : ai_H), i ≤ nR B → nR B + 1 ≤ i + m → lw4 h g → x_at g tb (nI nl) → bk_at g 1 B → LWS g nl Ls → sc_at g S3 → cl_at g Sc → wq_at g S8 → g.2.2 305 = ty_cell t8 → WT B Ls (bk_now B) (nI ia) (nI ib) Sc z i S8 → ai_W MX11_later 71 [.ref 0, .int (nI ia), .int (nI ib), .int v3, .int v4, .int v5, .int (nI i)] [] g Q := by
  have hr4 := hok.2.2.2.2.1.2.1
  intro m
  induction m with
  | zero => intro i S3 S8 t8 g h1 h2; exact absurd h2 (by omega)
  | succ m ih =>
    intro i S3 S8 t8 g hi0 him E0 hx hB hLW hsc hcl hwo hta hW
    refine wq (fun _ _ kk => rs_iload (pc := 71) dX11_later_71 rfl kk) ?_
    refine wq (fun _ _ kk => rs_aload_n (pc := 73) dX11_later_73 rfl kk) ?_
    refine wq (fun _ _ kk => rs_getf (pc := 74) dX11_later_74 fX11_10 (x_lt hx (by decide)) hx.2 rfl kk) ?_
    refine wq (fun _ _ kk => rs_getf (pc := 77) dX11_later_77 fX11_135 (bk_lt hB (by decide)) hB.2.1 rfl kk) ?_
    refine wq (fun _ _ kk => rs_getf (pc := 80) dX11_later_80 fX11_224 (bk_lt hB (by decide)) hB.2.2.2.2.2.1.1 rfl kk) ?_
    rw [hok.2.2.2.2.1.1]
    refine wq_br (fun _ _ kt kf => rs_icmp_ge (tgt := 107) (pc := 83) dX11_later_83 rfl kt kf) (fun c_83 => ?_) (fun c_83 => ?_)
    · have hie : i = nR B := lp_exit rfl (by omega) hi0 c_83
      subst hie
      exact kx S3 S8 t8 g E0 hx hB hLW hsc hcl hwo hta hW
    · have hi : i < nR B := lp_go rfl (by omega) c_83
      refine wq (fun _ _ kk => rs_aload_n (pc := 86) dX11_later_86 rfl kk) ?_
      refine wq (fun _ _ kk => rs_getf (pc := 87) dX11_later_87 fX11_86 (x_lt hx (by decide)) hx.2 rfl kk) ?_
      refine wq (fun _ _ kk => rs_iload (pc := 90) dX11_later_90 rfl kk) ?_
      refine wq (fun _ _ kk => rs_aload_n (pc := 92) dX11_later_92 rfl kk) ?_
      refine wq (fun _ _ kk => rs_iload (pc := 93) dX11_later_93 rfl kk) ?_
      obtain ⟨rv_95, hc_95, ⟨rfl, ee_108, S4, hsc_108⟩, hm_95⟩ := c_X11_ownLeanTenths hx hB hok hLW hi hsc
      refine wq (fun _ _ kk => rs_callV (as := [_]) (pc := 95) dX11_later_95 mk_X11_ownLeanTenths mlX11_299 in_X11_ownLeanTenths se_X11_ownLeanTenths rfl (x_lt hx (by decide)) hx.2 rfl rfl (Nat.le_of_ble_eq_true rfl) (hm_95) kk) ?_
      replace hsc := hsc_108
      replace hwo := wo_keep hwo ee_108.1 (fun j _ _ => ee_108.2.2 j (by omega))
      replace hta := (ee_108.2.2 305 (by decide)).trans hta
      replace hx := x_at.keep hx ee_108.1 (ee_108.2.2 0 (by decide))
      replace hB := hB.keep ee_108.1 (fun j _ _ => ee_108.2.2 j (by omega))
      replace hcl := cl_keep hcl ee_108.1 (fun j _ _ => ee_108.2.2 j (by omega))
      replace hLW := hLW.keep ee_108.1 (ee_108.2.2 _ (by decide)) (fun j hj => ee_108.2.2 j (by omega))
      obtain ⟨rv_98, hc_98, ⟨rfl, ee_111, S9, hwo_111, hW_111⟩, hm_98⟩ := c_X10_take hok hG hia hib hij hi hcl hwo hW
      refine wq (fun _ _ kk => rs_callV (as := [_, _]) (pc := 98) dX11_later_98 mk_X10_take mlX11_302 in_X10_take se_X10_take rfl (mo_lt hwo (by decide)) hwo.2.1 rfl rfl (Nat.le_of_ble_eq_true rfl) (hm_98) kk) ?_
      replace hsc := sc_keep hsc ee_111.1 (fun j _ _ => ee_111.2.2 j (by omega))
      replace hta := (ee_111.2.2 305 (by decide)).trans hta
      replace hx := x_at.keep hx ee_111.1 (ee_111.2.2 0 (by decide))
      replace hB := hB.keep ee_111.1 (fun j _ _ => ee_111.2.2 j (by omega))
      replace hcl := cl_keep hcl ee_111.1 (fun j _ _ => ee_111.2.2 j (by omega))
      replace hLW := hLW.keep ee_111.1 (ee_111.2.2 _ (by decide)) (fun j hj => ee_111.2.2 j (by omega))
      refine wq (fun _ _ kk => wk_iinc6 (v := nI (i + 1)) (pc := 101) dX11_later_101 (by decide) rfl (nI_1 i) kk) ?_
      refine wq (fun _ _ kk => rs_goto (tgt := 71) (pc := 104) dX11_later_104 rfl kk) ?_
      exact ih (i + 1) S4 S9 t8 _ (by omega) (by omega) ((E0.trans (lw4.s ee_108)).trans (lw4.w ee_111.w)) hx hB hLW hsc hcl hwo_111 hta hW_111
theorem bi_in_rng {x : Int32} {lo hi : Nat} (hlo : lo < 2 ^ 31) (hhi : hi < 2 ^ 31) (h : ¬ bi_in x (nI lo) (nI hi) = 0) : ∃ k, lo ≤ k ∧ k ≤ hi ∧ x = nI k := by
  unfold bi_in at h
  split at h
  · exact absurd rfl h
  · split at h
    · exact absurd rfl h
    · next h1 h2 =>
      rw [i32_lt, nI_toInt hlo] at h1
      rw [i32_lt, nI_toInt hhi] at h2
      obtain ⟨k, k1, k2⟩ := i32_ex (n := hi + 1) (by omega) (show x.toInt < ((hi + 1 : Nat) : Int) by omega)
      refine ⟨k, ?_, by omega, k2⟩
      rw [k2, nI_toInt (by omega)] at h1
      omega
theorem i2l_to (x : Int32) : x.toInt64 = aL x.toInt := by
  have h1 := Int32.le_toInt x
  have h2 := Int32.toInt_lt x
  rw [show x.toInt64 = (aI x.toInt).toInt64 from by rw [aI_to], aI_i2l (by omega) (by omega)]
set_option maxRecDepth 100000 in
set_option maxHeartbeats 4000000 in
theorem t_X11_later {h g : ai_H} {tb : Int32} {B : Bk} {nl ia ib z : Nat} {Ls : Nat → List Cl} {Sc : Md} {v3 : Int32} {sl nw : Nat} {S3 S8 : Md} {t8 : Ty} (hok : bk_ok B nl) (hG : GI B (bk_now B) Sc (nR B) z) (hia : ia < 16) (hib : ib < 16) (hij : ia ≠ ib) (hi : ia < nO B) (hj : ib < nO B) (hs : scr h) (hgu : ¬ (xs_pair B (nI ia) (nI ib) = 0 ∨ v3 < 0 ∨ bi_in (nI sl) 0 99 = 0 ∨ bi_in (nI nw) 1 50 = 0)) (hsl : sl ≤ 99) (hnw : nw ≤ 50) (hsd : ¬ v3 < 0) (E0 : lw4 h g) (hx : x_at g tb (nI nl)) (hB : bk_at g 1 B) (hLW : LWS g nl Ls) (hsc : sc_at g S3) (hcl : cl_at g Sc) (hwo : wq_at g S8) (hta : g.2.2 305 = ty_cell t8) (hW : WT B Ls (bk_now B) (nI ia) (nI ib) Sc z (nR B) S8) {u6 : Value} : ai_W MX11_later 107 [.ref 0, .int (nI ia), .int (nI ib), .int v3, .int (nI sl), .int (nI nw), u6] [] g (fun r g => fr 15 306 h g ∧ scr g ∧ (((xs_pair B (nI ia) (nI ib) = 0 ∨ v3 < 0 ∨ bi_in (nI sl) 0 99 = 0 ∨ bi_in (nI nw) 1 50 = 0) ∧ r = some (.int (-1))) ∨ (¬ (xs_pair B (nI ia) (nI ib) = 0 ∨ v3 < 0 ∨ bi_in (nI sl) 0 99 = 0 ∨ bi_in (nI nw) 1 50 = 0) ∧ ∃ ia' ib' sl' nw', ia' < nO B ∧ ib' < nO B ∧ ia' ≠ ib' ∧ (nI ia) = nI ia' ∧ (nI ib) = nI ib' ∧ sl' ≤ 99 ∧ (nI sl) = nI sl' ∧ nw' ≤ 50 ∧ (nI nw) = nI nw' ∧ ∃ Sc z, GI B (bk_now B) Sc (nR B) z ∧ r = some (.int (uu_later B Ls (bk_now B) (nI ia') (nI ib') sl' nw' v3.toInt (lst (mt_p Sc z (ia' * 16 + ib')) (kC Sc) z)))))) := by
  have hr4 := hok.2.2.2.2.1.2.1
  have hcn := cN_le (tkn B (bk_now B) (nI ia) (nI ib)) (nR B)
  have hq3 : 305 < g.1 := by have := hx.1; omega
  refine wq (fun _ _ kk => rs_aload_n (pc := 107) dX11_later_107 rfl kk) ?_
  refine wq (fun _ _ kk => rs_getf (pc := 108) dX11_later_108 fX11_86 (x_lt hx (by decide)) hx.2 rfl kk) ?_
  refine wq (fun _ _ kk => rs_callV (as := []) (pc := 111) dX11_later_111 mk_X10_areMet mlX11_305 in_X10_areMet se_X10_areMet rfl (mo_lt hwo (by decide)) hwo.2.1 rfl rfl (Nat.le_of_ble_eq_true rfl) (c_X10_areMet hwo) kk) ?_
  refine wq_br (fun _ _ kt kf => rs_if_eq (tgt := 132) (pc := 114) dX11_later_114 rfl kt kf) (fun c_114 => ?_) (fun c_114 => ?_)
  · rw [if_01, hW.2.2.1, i32_le0 (by omega), tk_ne hok hG hia hib hij] at c_114
    refine wq (fun _ _ kk => rs_bipush (v := -2) (pc := 132) dX11_later_132 rfl kk) ?_
    refine wq_ret ?_ (rs_iret (pc := 134) dX11_later_134 rfl)
    exact ⟨E0.f, hs.late E0 ⟨_, hsc⟩ ⟨_, hcl⟩ ⟨_, hwo⟩ ⟨_, hta⟩, Or.inr ⟨hgu, ia, ib, sl, nw, hi, hj, hij, rfl, rfl, hsl, rfl, hnw, rfl, Sc, z, hG, by unfold uu_later; rw [if_pos c_114]⟩⟩
  · rw [if_01, hW.2.2.1, i32_le0 (by omega), tk_ne hok hG hia hib hij] at c_114
    refine wq (fun _ _ kk => rs_aload_n (pc := 117) dX11_later_117 rfl kk) ?_
    refine wq (fun _ _ kk => rs_getf (pc := 118) dX11_later_118 fX11_86 (x_lt hx (by decide)) hx.2 rfl kk) ?_
    refine wq (fun _ _ kk => rs_iload_n (pc := 121) dX11_later_121 rfl kk) ?_
    refine wq (fun _ _ kk => rs_iload (pc := 122) dX11_later_122 rfl kk) ?_
    refine wq (fun _ _ kk => rs_iload (pc := 124) dX11_later_124 rfl kk) ?_
    obtain ⟨rv_126, hc_126, ⟨ee_139, hcl_139, hwo_139, hta_139, hq3_139, rfl⟩, hm_126⟩ := c_X10_draw (x := v3.toInt) hok hG hia hib hij hsl ⟨by rw [i32_lt, i32_0] at hsd; omega, Int32.toInt_lt v3⟩ hnw c_114 (i2l_to v3) hcl hwo hW hta hq3
    refine wq (fun _ _ kk => rs_callV (as := [_, _, _]) (pc := 126) dX11_later_126 mk_X10_draw mlX11_309 in_X10_draw se_X10_draw rfl (mo_lt hwo (by decide)) hwo.2.1 rfl rfl (Nat.le_of_ble_eq_true rfl) (hm_126) kk) ?_
    refine wq (fun _ _ kk => rs_goto (tgt := 134) (pc := 129) dX11_later_129 rfl kk) ?_
    refine wq_ret ?_ (rs_iret (pc := 134) dX11_later_134 rfl)
    have EE := E0.trans (lw4.w ee_139)
    exact ⟨EE.f, hs.late EE ⟨_, sc_keep hsc ee_139.1 (fun j _ _ => ee_139.2.2 j (by omega))⟩ ⟨_, hcl_139⟩ hwo_139 hta_139, Or.inr ⟨hgu, ia, ib, sl, nw, hi, hj, hij, rfl, rfl, hsl, rfl, hnw, rfl, Sc, z, hG, by unfold uu_later; rw [if_neg c_114]⟩⟩
set_option maxRecDepth 100000 in
set_option maxHeartbeats 4000000 in
theorem c_X11_later {h : ai_H} {tb : Int32} {B : Bk} {nl : Nat} {Ls : Nat → List Cl} (hx : x_at h tb (nI nl)) (hB : bk_at h 1 B) (hok : bk_ok B nl) (hLW : LWS h nl Ls) (hs : scr h) (a b sd sp n : Int32) : ai_QM MX11_later [.ref 0, .int a, .int b, .int sd, .int sp, .int n] h (fun r g => fr 15 306 h g ∧ scr g ∧ (((xs_pair B a b = 0 ∨ sd < 0 ∨ bi_in sp 0 99 = 0 ∨ bi_in n 1 50 = 0) ∧ r = some (.int (-1))) ∨ (¬ (xs_pair B a b = 0 ∨ sd < 0 ∨ bi_in sp 0 99 = 0 ∨ bi_in n 1 50 = 0) ∧ ∃ ia' ib' sl' nw', ia' < nO B ∧ ib' < nO B ∧ ia' ≠ ib' ∧ a = nI ia' ∧ b = nI ib' ∧ sl' ≤ 99 ∧ sp = nI sl' ∧ nw' ≤ 50 ∧ n = nI nw' ∧ ∃ Sc z, GI B (bk_now B) Sc (nR B) z ∧ r = some (.int (uu_later B Ls (bk_now B) (nI ia') (nI ib') sl' nw' sd.toInt (lst (mt_p Sc z (ia' * 16 + ib')) (kC Sc) z)))))) := by
  obtain ⟨-, -, ⟨S3, hsc⟩, ⟨S0, hcl⟩, -, -, -, ⟨c8, S8, t8, hc8, hwo, hta⟩, -⟩ := id hs
  have hn16 := hok.2.1.2.1
  refine qm_of (ls := [.ref 0, .int a, .int b, .int sd, .int sp, .int n, .float 0]) (by decide) (by simp [ai_en, Value.category]) (by rfl) ?_
  refine wq (fun _ _ kk => rs_aload_n (pc := 0) dX11_later_0 rfl kk) ?_
  refine wq (fun _ _ kk => rs_iload_n (pc := 1) dX11_later_1 rfl kk) ?_
  refine wq (fun _ _ kk => rs_iload_n (pc := 2) dX11_later_2 rfl kk) ?_
  refine wq (fun _ _ kk => rs_callV (as := [_, _]) (pc := 3) dX11_later_3 mk_X11_isPair mlX11_178 in_X11_isPair se_X11_isPair rfl (x_lt hx (by decide)) hx.2 rfl rfl (Nat.le_of_ble_eq_true rfl) (c_X11_isPair hx hB a b) kk) ?_
  refine wq_br (fun _ _ kt kf => rs_if_eq (tgt := 35) (pc := 6) dX11_later_6 rfl kt kf) (fun c_6 => ?_) (fun c_6 => ?_)
  · refine wq (fun _ _ kk => rs_iconst (v := -1) (pc := 35) dX11_later_35 rfl kk) ?_
    refine wq_ret ?_ (rs_iret (pc := 36) dX11_later_36 rfl)
    exact ⟨fr.rf, hs, Or.inl ⟨by first | exact Or.inl c_6 | exact Or.inr (Or.inl c_10) | exact Or.inr (Or.inr (Or.inl c_21)) | exact Or.inr (Or.inr (Or.inr c_32)), rfl⟩⟩
  · refine wq (fun _ _ kk => rs_iload_n (pc := 9) dX11_later_9 rfl kk) ?_
    refine wq_br (fun _ _ kt kf => rs_if_lt (tgt := 35) (pc := 10) dX11_later_10 rfl kt kf) (fun c_10 => ?_) (fun c_10 => ?_)
    · refine wq (fun _ _ kk => rs_iconst (v := -1) (pc := 35) dX11_later_35 rfl kk) ?_
      refine wq_ret ?_ (rs_iret (pc := 36) dX11_later_36 rfl)
      exact ⟨fr.rf, hs, Or.inl ⟨by first | exact Or.inl c_6 | exact Or.inr (Or.inl c_10) | exact Or.inr (Or.inr (Or.inl c_21)) | exact Or.inr (Or.inr (Or.inr c_32)), rfl⟩⟩
    · refine wq (fun _ _ kk => rs_iload (pc := 13) dX11_later_13 rfl kk) ?_
      refine wq (fun _ _ kk => rs_iconst (v := 0) (pc := 15) dX11_later_15 rfl kk) ?_
      refine wq (fun _ _ kk => rs_bipush (v := 99) (pc := 16) dX11_later_16 rfl kk) ?_
      refine wq (fun _ _ kk => rs_callS (as := [_, _, _]) (pc := 18) dX11_later_18 mk_X11_isWithin mlX11_104 st_X11_isWithin rfl rfl (Nat.le_of_ble_eq_true rfl) (c_X11_isWithin) kk) ?_
      refine wq_br (fun _ _ kt kf => rs_if_eq (tgt := 35) (pc := 21) dX11_later_21 rfl kt kf) (fun c_21 => ?_) (fun c_21 => ?_)
      · refine wq (fun _ _ kk => rs_iconst (v := -1) (pc := 35) dX11_later_35 rfl kk) ?_
        refine wq_ret ?_ (rs_iret (pc := 36) dX11_later_36 rfl)
        exact ⟨fr.rf, hs, Or.inl ⟨by first | exact Or.inl c_6 | exact Or.inr (Or.inl c_10) | exact Or.inr (Or.inr (Or.inl c_21)) | exact Or.inr (Or.inr (Or.inr c_32)), rfl⟩⟩
      · refine wq (fun _ _ kk => rs_iload (pc := 24) dX11_later_24 rfl kk) ?_
        refine wq (fun _ _ kk => rs_iconst (v := 1) (pc := 26) dX11_later_26 rfl kk) ?_
        refine wq (fun _ _ kk => rs_bipush (v := 50) (pc := 27) dX11_later_27 rfl kk) ?_
        refine wq (fun _ _ kk => rs_callS (as := [_, _, _]) (pc := 29) dX11_later_29 mk_X11_isWithin mlX11_104 st_X11_isWithin rfl rfl (Nat.le_of_ble_eq_true rfl) (c_X11_isWithin) kk) ?_
        refine wq_bn (fun _ _ kt kf => rs_if_ne (tgt := 37) (pc := 32) dX11_later_32 rfl kt kf) (fun c_32 => ?_) (fun c_32 => ?_)
        · refine wq (fun _ _ kk => rs_aload_n (pc := 37) dX11_later_37 rfl kk) ?_
          refine wq (fun _ _ kk => rs_getf (pc := 38) dX11_later_38 fX11_58 (x_lt hx (by decide)) hx.2 rfl kk) ?_
          refine wq (fun _ _ kk => rs_aload_n (pc := 41) dX11_later_41 rfl kk) ?_
          refine wq (fun _ _ kk => rs_getf (pc := 42) dX11_later_42 fX11_10 (x_lt hx (by decide)) hx.2 rfl kk) ?_
          refine wq (fun _ _ kk => rs_aload_n (pc := 45) dX11_later_45 rfl kk) ?_
          refine wq (fun _ _ kk => rs_getf (pc := 46) dX11_later_46 fX11_10 (x_lt hx (by decide)) hx.2 rfl kk) ?_
          refine wq (fun _ _ kk => rs_getf (pc := 49) dX11_later_49 fX11_101 (bk_lt hB (by decide)) hB.2.1 rfl kk) ?_
          have hgu : ¬ (xs_pair B a b = 0 ∨ sd < 0 ∨ bi_in sp 0 99 = 0 ∨ bi_in n 1 50 = 0) := by rintro (q | q | q | q); exact c_6 q; exact c_10 q; exact c_21 q; exact c_32 q
          obtain ⟨ia, ib, hi, hj, hij, rfl, rfl⟩ := pair_ex hok c_6
          obtain ⟨sl, -, hsl, rfl⟩ := bi_in_rng (lo := 0) (hi := 99) (by decide) (by decide) c_21
          obtain ⟨nw, -, hnw, rfl⟩ := bi_in_rng (lo := 1) (hi := 50) (by decide) (by decide) c_32
          obtain ⟨rv_52, hc_52, ⟨rfl, ee_52, Sc, z, hzR, hG, hcl_52⟩, hm_52⟩ := c_X2_gather hcl hB (bk_ok_rows hok) (sz := nR B) hok.2.2.2.2.1.2.1 hok.2.2.2.2.1.1 (bk_now B)
          refine wq (fun _ _ kk => rs_callV (as := [_, _]) (pc := 52) dX11_later_52 mk_X2_gather mlX11_248 in_X2_gather se_X2_gather rfl (mo_lt hcl (by decide)) hcl.2.1 rfl rfl (Nat.le_of_ble_eq_true rfl) (hm_52) kk) ?_
          replace hcl := hcl_52
          replace hsc := sc_keep hsc ee_52.1 (fun j _ _ => ee_52.2.2 j (by omega))
          replace hwo := wo_keep hwo ee_52.1 (fun j _ _ => ee_52.2.2 j (by omega))
          replace hta := (ee_52.2.2 305 (by decide)).trans hta
          replace hx := x_at.keep hx ee_52.1 (ee_52.2.2 0 (by decide))
          replace hB := hB.keep ee_52.1 (fun j _ _ => ee_52.2.2 j (by omega))
          replace hLW := hLW.keep ee_52.1 (ee_52.2.2 _ (by decide)) (fun j hj => ee_52.2.2 j (by omega))
          refine wq (fun _ _ kk => rs_aload_n (pc := 55) dX11_later_55 rfl kk) ?_
          refine wq (fun _ _ kk => rs_getf (pc := 56) dX11_later_56 fX11_86 (x_lt hx (by decide)) hx.2 rfl kk) ?_
          refine wq (fun _ _ kk => rs_aload_n (pc := 59) dX11_later_59 rfl kk) ?_
          refine wq (fun _ _ kk => rs_getf (pc := 60) dX11_later_60 fX11_58 (x_lt hx (by decide)) hx.2 rfl kk) ?_
          refine wq (fun _ _ kk => rs_iload_n (pc := 63) dX11_later_63 rfl kk) ?_
          refine wq (fun _ _ kk => rs_iload_n (pc := 64) dX11_later_64 rfl kk) ?_
          obtain ⟨rv_65, hc_65, ⟨rfl, ee_65, S9, hwo_65, w1, w2, w3⟩, hm_65⟩ := c_X10_begin hwo (nI ia) (nI ib)
          refine wq (fun _ _ kk => rs_callV (as := [_, _, _]) (pc := 65) dX11_later_65 mk_X10_begin mlX11_296 in_X10_begin se_X10_begin rfl (mo_lt hwo (by decide)) hwo.2.1 rfl rfl (Nat.le_of_ble_eq_true rfl) (hm_65) kk) ?_
          replace hwo := hwo_65
          replace hsc := sc_keep hsc ee_65.1 (fun j _ _ => ee_65.2.2 j (by omega))
          replace hta := (ee_65.2.2 305 (by decide)).trans hta
          replace hx := x_at.keep hx ee_65.1 (ee_65.2.2 0 (by decide))
          replace hB := hB.keep ee_65.1 (fun j _ _ => ee_65.2.2 j (by omega))
          replace hcl := cl_keep hcl ee_65.1 (fun j _ _ => ee_65.2.2 j (by omega))
          replace hLW := hLW.keep ee_65.1 (ee_65.2.2 _ (by decide)) (fun j hj => ee_65.2.2 j (by omega))
          refine wq (fun _ _ kk => rs_iconst (v := 0) (pc := 68) dX11_later_68 rfl kk) ?_
          refine wq (fun _ _ kk => wk_ist6 (pc := 69) dX11_later_69 (by decide) rfl kk) ?_
          refine l_X11_later (h := h) (Ls := Ls) hok hG (by omega) (by omega) hij ?_ (nR B + 1) 0 S3 S9 t8 _ (by omega) (by omega) ((lw4.c ee_52).trans (lw4.w ee_65.w)) hx hB hLW hsc hcl hwo hta ⟨w1, w2, w3, fun r hr => absurd hr (Nat.not_lt_zero r)⟩
          clear hx hB hLW hsc hcl hwo hta
          intro S3 S8 t8 g E0 hx hB hLW hsc hcl hwo hta hW
          exact t_X11_later hok hG (by omega) (by omega) hij hi hj hs hgu hsl hnw c_10 E0 hx hB hLW hsc hcl hwo hta hW
        · refine wq (fun _ _ kk => rs_iconst (v := -1) (pc := 35) dX11_later_35 rfl kk) ?_
          refine wq_ret ?_ (rs_iret (pc := 36) dX11_later_36 rfl)
          exact ⟨fr.rf, hs, Or.inl ⟨by first | exact Or.inl c_6 | exact Or.inr (Or.inl c_10) | exact Or.inr (Or.inr (Or.inl c_21)) | exact Or.inr (Or.inr (Or.inr c_32)), rfl⟩⟩
