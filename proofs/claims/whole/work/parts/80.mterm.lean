/-! 80: the model's terms and sums (walks laid by wip/whole/p80.py) -/
/-- y is behind x, what lies above base is as good as told -/
def tl (t : Nat → Nat) (n r lev : Nat) (base O : List Nat) (x y : PS) (S : Md) : Prop := vl x y ∧ py_dw lev (pL y) = base ∧ mr t n r (pE y ++ py_tk (py_tw lev (pL y))) (pP y) (pPa y) (pDe y) O S
theorem ent_ded {x : PS} {T T' : Md} (hd : ded x T) (w2 : ∀ j, j ≠ 26 → T'.1 j = T.1 j) : ded x T' := ⟨hd.1, (w2 24 (by decide)).trans hd.2.1, by rw [w2 23 (by decide)]; exact hd.2.2⟩
theorem ent_mr {t : Nat → Nat} {n r p pa de k v : Nat} {E : List Tk} {O : List Nat} {T T' : Md} (hm : mr t n r E p pa de O T) (w2 : ∀ j, j ≠ 26 → T'.1 j = T.1 j) (w3 : T'.2.2.1 37 = T.2.2.1 37) (w4 : T.1 24 = 0 → T'.1 26 = nI (E ++ [(k, v)]).length ∧ MT T' r 0 (E ++ [(k, v)])) : mr t n r (E ++ [(k, v)]) p pa de O T' := by
  obtain ⟨m0, m1, m2, m3, m4, m5, m6⟩ := hm
  exact ⟨(w2 24 (by decide)).trans m0, by rw [w2 23 (by decide)]; exact m1, w4 m0, (w2 27 (by decide)).trans m3, (w2 28 (by decide)).trans m4, (w2 29 (by decide)).trans m5, by rw [w3]; exact m6⟩
/-- the place moved on -/
theorem mv_mr {t : Nat → Nat} {n r p pa de q : Nat} {E : List Tk} {O : List Nat} {T T' : Md} {p' : Nat} (hm : mr t n r E p pa de O T) (e : ∀ j, j ≠ 23 → T'.1 j = T.1 j) (s : T'.2 = T.2) (hq : T'.1 23 = nI q) (hqn : q ≤ n) (hf : tx_fr t n q = tx_fr t n p') : mr t n r E p' pa de O T' := by
  obtain ⟨m0, m1, ⟨m2, m2'⟩, m3, m4, m5, m6⟩ := hm
  exact ⟨(e 24 (by decide)).trans m0, ⟨q, hq, hqn, hf⟩, ⟨(e 26 (by decide)).trans m2, MT_cong m2' (fun k _ => by rw [s]; exact ⟨rfl, rfl⟩)⟩, (e 27 (by decide)).trans m3, (e 28 (by decide)).trans m4, (e 29 (by decide)).trans m5, by rw [s]; exact m6⟩
theorem bhs_in {st : Nat} (h : st = 1 ∨ st = 3 ∨ st = 4 ∨ st = 6) : bhs st = 2 ∨ bhs st = 5 ∨ bhs st = 7 := by
  rcases h with rfl | rfl | rfl | rfl <;> decide
theorem wnt_in {st : Nat} (h : st = 1 ∨ st = 3 ∨ st = 4 ∨ st = 6) : ((if bhs st = 2 then 1 else if bhs st = 5 then 4 else 6) = 1 ∨ (if bhs st = 2 then 1 else if bhs st = 5 then 4 else 6) = 4 ∨ (if bhs st = 2 then 1 else if bhs st = 5 then 4 else 6) = 6) ∧ bhs (if bhs st = 2 then 1 else if bhs st = 5 then 4 else 6) = bhs st ∧ ((if bhs st = 2 then 1 else if bhs st = 5 then 4 else 6) = 1 ↔ st = 1) ∧ (bhs st = 2 ↔ st = 1) := by
  rcases h with rfl | rfl | rfl | rfl <;> decide
/-- the entries have room -/
theorem pE_room {n : Nat} {y : PS} (hn : n ≤ 400) (hy : pok n y) (h0 : pF y = 0) : (pE y).length + py_op (pL y) ≤ 253 := by
  have := (py_room hn (hy.1 h0)).2.1
  have h2 : (pE y).length + py_op (pL y) + py_bh (pZ y) ≤ 253 := this
  omega
theorem tw_len {r : Nat} (hr : 1 ≤ r) (l : List Nat) : (py_tk (py_tw r l)).length ≤ py_op l := by
  have := (py_cnt hr l).1
  unfold py_tk
  rw [List.length_map]
  omega
/-- a sign of arithmetic is taken: the machine's step -/
theorem ar_step {t : Nat → Nat} {n r lev : Nat} {base O : List Nat} {x y : PS} {S T : Md} {k : Nat} (hst : pZ x = 1 ∨ pZ x = 3 ∨ pZ x = 4 ∨ pZ x = 6) (hk : tx_k t n (tx_fr t n (pP y)) = k) (hk2 : k = 2 ∨ k = 3 ∨ k = 13) (hlev : py_rk k = lev) (hy : pok n y) (htl : tl t n r lev base O x y S) (e : ∀ j, j ≠ 23 → T.1 j = S.1 j) (s : T.2 = S.2) (hq : T.1 23 = nI (tx_e t n (tx_fr t n (pP y)))) (hqn : tx_e t n (tx_fr t n (pP y)) ≤ n) : ∃ z, py_rch t n y z ∧ wl t n r O z T ∧ pL z = k :: base ∧ bhs (pZ z) = bhs (pZ x) ∧ pD z = pD x ∧ pDe z = pDe x ∧ pBr z = pBr x ∧ (pZ x ≠ 1 → pA z = pA x) ∧ pP y < pP z ∧ (pZ z = 1 ↔ pZ x = 1) := by
  obtain ⟨⟨v1, v2, v3, v4, v5, v6, v7⟩, hb, hm⟩ := htl
  have hs : pZ y = 2 ∨ pZ y = 5 ∨ pZ y = 7 := by rw [v2]; exact bhs_in hst
  have hne9 : pZ y ≠ 9 := by omega
  obtain ⟨w1, w2, w3, w4⟩ := wnt_in hst
  obtain ⟨z, hz, z0, z1, z2, z3, z4, z5, z6, z7, z8, z9⟩ := py_arj (t := t) (n := n) hs (by rw [hk]; exact hk2) (fun w => py_B2 (hy.1 v1) (Or.inr w))
  rw [hk, hlev] at z4 z8 z9
  have hnt : py_nt (py_tw lev (pL y)) = 0 := py_nt_hi (by rw [← hlev]; rcases hk2 with rfl | rfl | rfl <;> decide) _
  rw [v2] at z1
  refine ⟨z, by rw [← hz]; exact py_rch.one v1 hne9, ⟨z0, ?_, fun w => ?_, ?_⟩, by rw [z8, hb], by rw [z1]; exact w2, z6.trans v3, by rw [z4, hnt]; exact v4, z5.trans v5, fun w => (z7 (by rw [v2]; exact fun u => w (w4.mp u))).trans (v6 w), ?_, by rw [z1]; exact w3⟩
  · rw [z1]; omega
  · rw [z1] at w; omega
  · rw [z9, z2, z3, z4, hnt]
    exact mv_mr hm e s hq hqn rfl
  · rw [z2]
    have := tx_e_gt (t := t) (n := n) (a := tx_fr t n (pP y))
    have := tx_fr_ge (t := t) (n := n) (p := pP y)
    show pP y < _
    omega
theorem dX12_term_0 : decode cX12_term 0 = .ok (.aload_n 0, 1) := by decide +kernel
theorem dX12_term_1 : decode cX12_term 1 = .ok (.invokevirtual 325, 3) := by decide +kernel
theorem dX12_term_4 : decode cX12_term 4 = .ok (.aload_n 0, 1) := by decide +kernel
theorem dX12_term_5 : decode cX12_term 5 = .ok (.invokevirtual 287, 3) := by decide +kernel
theorem dX12_term_8 : decode cX12_term 8 = .ok (.aload_n 0, 1) := by decide +kernel
theorem dX12_term_9 : decode cX12_term 9 = .ok (.getfield 264, 3) := by decide +kernel
theorem dX12_term_12 : decode cX12_term 12 = .ok (.ifCond .ne 40, 3) := by decide +kernel
theorem dX12_term_15 : decode cX12_term 15 = .ok (.aload_n 0, 1) := by decide +kernel
theorem dX12_term_16 : decode cX12_term 16 = .ok (.invokevirtual 270, 3) := by decide +kernel
theorem dX12_term_19 : decode cX12_term 19 = .ok (.bipush 42, 2) := by decide +kernel
theorem dX12_term_21 : decode cX12_term 21 = .ok (.if_icmp .ne 31, 3) := by decide +kernel
theorem dX12_term_24 : decode cX12_term 24 = .ok (.aload_n 0, 1) := by decide +kernel
theorem dX12_term_25 : decode cX12_term 25 = .ok (.dup, 1) := by decide +kernel
theorem dX12_term_26 : decode cX12_term 26 = .ok (.getfield 267, 3) := by decide +kernel
theorem dX12_term_29 : decode cX12_term 29 = .ok (.iconst 1, 1) := by decide +kernel
theorem dX12_term_30 : decode cX12_term 30 = .ok (.iadd, 1) := by decide +kernel
theorem dX12_term_31 : decode cX12_term 31 = .ok (.putfield 267, 3) := by decide +kernel
theorem dX12_term_34 : decode cX12_term 34 = .ok (.aload_n 0, 1) := by decide +kernel
theorem dX12_term_35 : decode cX12_term 35 = .ok (.invokevirtual 325, 3) := by decide +kernel
theorem dX12_term_38 : decode cX12_term 38 = .ok (.aload_n 0, 1) := by decide +kernel
theorem dX12_term_39 : decode cX12_term 39 = .ok (.bipush 13, 2) := by decide +kernel
theorem dX12_term_41 : decode cX12_term 41 = .ok (.iconst 0, 1) := by decide +kernel
theorem dX12_term_42 : decode cX12_term 42 = .ok (.invokevirtual 318, 3) := by decide +kernel
theorem dX12_term_45 : decode cX12_term 45 = .ok (.aload_n 0, 1) := by decide +kernel
theorem dX12_term_46 : decode cX12_term 46 = .ok (.invokevirtual 287, 3) := by decide +kernel
theorem dX12_term_49 : decode cX12_term 49 = .ok (.goto (-41), 3) := by decide +kernel
theorem dX12_term_52 : decode cX12_term 52 = .ok (.return_, 1) := by decide +kernel
set_option maxRecDepth 100000 in
set_option maxHeartbeats 4000000 in
theorem l_X12_term {t : Nat → Nat} {n r : Nat} {base O : List Nat} {x : PS} {h : ai_H} {S0 : Md} (hn4 : n ≤ 400) (hst : pZ x = 1 ∨ pZ x = 3 ∨ pZ x = 4 ∨ pZ x = 6) (hlo : py_lo 6 base) : ∀ (m : Nat) (y : PS) (g : ai_H) (S : Md), (1 ≤ m ∧ (pF y = 0 → n + 1 ≤ pP y + m)) → md_at g S → tx_m t n r S → md_ext h g → pfm r S0 S → py_rch t n x y → pok n y → (ded y S ∨ (tl t n r 6 base O x y S ∧ S.1 23 = nI (tx_fr t n (pP y)) ∧ tx_fr t n (pP y) ≤ n)) → ai_W MX12_term 8 [.ref 307] [] g (fun rv g' => rv = none ∧ md_ext h g' ∧ ∃ T y', md_at g' T ∧ pfm r S0 T ∧ py_rch t n x y' ∧ (ded y' T ∨ (tl t n r 6 base O x y' T ∧ T.1 23 = nI (tx_fr t n (pP y')) ∧ tx_fr t n (pP y') ≤ n ∧ tx_k t n (tx_fr t n (pP y')) ≠ 13))) := by
  intro m
  induction m with
  | zero => intro y g S h1; exact absurd h1.1 (by decide)
  | succ m ih =>
    intro y g S him hmd htx hE hpf hre hy hin
    obtain ⟨x22, -, x25, hr9, xt⟩ := id htx
    rcases hin with hd | ⟨htl, h23, hfn⟩
    · have hne := hd.ne hy
      refine wq (fun _ _ kk => rs_aload_n (pc := 8) dX12_term_8 rfl kk) ?_
      refine wq (fun _ _ kk => rs_getf (pc := 9) dX12_term_9 fX12_264 (md_lt hmd (by decide)) hmd.2.1 rfl kk) ?_
      refine wq_bn (fun _ _ kt kf => rs_if_ne (tgt := 52) (pc := 12) dX12_term_12 rfl kt kf) (fun c_12 => ?_) (fun c_12 => absurd c_12 (fun z => hne z))
      refine wq_ret ?_ (rs_vret (pc := 52) dX12_term_52 rfl)
      exact ⟨rfl, hE, S, y, hmd, hpf, hre, Or.inl hd⟩
    · have hpy : pP y ≤ n := (hy.1 htl.1.1).2.2.2.2.2.2.1 (show pZ y ≠ 9 by rw [htl.1.2.1]; have := bhs_in hst; omega)
      have hge := tx_fr_ge (t := t) (n := n) (p := pP y)
      have hm1 := him.2 htl.1.1
      refine wq (fun _ _ kk => rs_aload_n (pc := 8) dX12_term_8 rfl kk) ?_
      refine wq (fun _ _ kk => rs_getf (pc := 9) dX12_term_9 fX12_264 (md_lt hmd (by decide)) hmd.2.1 rfl kk) ?_
      rw [htl.2.2.1]
      refine wq_bn (fun _ _ kt kf => rs_if_ne (tgt := 52) (pc := 12) dX12_term_12 rfl kt kf) (fun c_12 => absurd c_12 (fun z => z rfl)) (fun c_12 => ?_)
      refine wq (fun _ _ kk => rs_aload_n (pc := 15) dX12_term_15 rfl kk) ?_
      refine wq (fun _ _ kk => rs_callV (as := []) (pc := 16) dX12_term_16 mk_X12_sign mlX12_270 in_X12_sign se_X12_sign rfl (md_lt hmd (by decide)) hmd.2.1 rfl rfl (Nat.le_of_ble_eq_true rfl) (c_X12_sign hmd htx h23 (p := tx_fr t n (pP y)) (by omega)) kk) ?_
      refine wq (fun _ _ kk => rs_bipush (v := 42) (pc := 19) dX12_term_19 rfl kk) ?_
      refine wq_bn (fun _ _ kt kf => rs_icmp_ne (tgt := 52) (pc := 21) dX12_term_21 rfl kt kf) (fun c_21 => ?_) (fun c_21 => ?_)
      · have g1 : tx_k t n (tx_fr t n (pP y)) ≠ 13 := fun hk => by
          obtain ⟨k1, k2⟩ := tx_k_sgn hk (by omega)
          exact c_21 ((tx_s_eq (c := 42) (fun w => (xt _ w).1) (by decide)).mpr ⟨k1, (tx_sk_c k2).1 rfl⟩)
        refine wq_ret ?_ (rs_vret (pc := 52) dX12_term_52 rfl)
        exact ⟨rfl, hE, S, y, hmd, hpf, hre, Or.inr ⟨htl, h23, hfn, g1⟩⟩
      · have g1 := (tx_s_eq (c := 42) (fun w => (xt _ w).1) (by decide)).mp c_21
        obtain ⟨k1, k2⟩ := tx_sg_k (t := t) g1.1 (by omega) (by omega)
        rw [g1.2] at k1 k2
        have k1 : tx_k t n (tx_fr t n (pP y)) = 13 := k1
        have k2 : tx_e t n (tx_fr t n (pP y)) = tx_fr t n (pP y) + 1 := k2
        refine wq (fun _ _ kk => rs_aload_n (pc := 24) dX12_term_24 rfl kk) ?_
        refine wq (fun _ _ kk => rs_dup (pc := 25) dX12_term_25 rfl kk) ?_
        refine wq (fun _ _ kk => rs_getf (pc := 26) dX12_term_26 fX12_267 (md_lt hmd (by decide)) hmd.2.1 rfl kk) ?_
        rw [h23]
        refine wq (fun _ _ kk => rs_iconst (v := 1) (pc := 29) dX12_term_29 rfl kk) ?_
        refine wq (fun _ _ kk => rs_iadd (pc := 30) dX12_term_30 kk) ?_
        refine wq (fun _ _ kk => rs_putf (pc := 31) dX12_term_31 fX12_267 (md_lt hmd (by decide)) hmd.2.1 rfl (Nat.le_of_ble_eq_true rfl) kk) ?_
        refine wq_gen (fun h_1 e_1 => ?_)
        obtain ⟨m_1, s_1, g_1, o_1⟩ := ai_e1 e_1
        replace hmd := md_at_si (k := 23) hmd m_1 g_1 o_1 rfl
        have E_1 := (md_ext.rf).trans (md_ext_of m_1 s_1 o_1 (by decide))
        obtain ⟨S_31, hmd, k_31, r_31, s_31⟩ := md_new hmd
        rw [nI_1, ← k2] at k_31
        obtain ⟨z, zr, zw, zl, zb, zD, zde, zbr, zA, zp, z1⟩ := ar_step hst k1 (by omega) rfl hy htl r_31 s_31 k_31 (by omega)
        have hpf1 : pfm r S S_31 := pfm.put (by decide) r_31 s_31
        replace htx := htx.of hpf1
        replace hpf := hpf.trans hpf1
        have hyz := pok_rch hn4 zr hy
        refine wq (fun _ _ kk => rs_aload_n (pc := 34) dX12_term_34 rfl kk) ?_
        obtain ⟨rv_35, hc_35, ⟨rfl, ee_35, T_35, y3, hmd_35, pf_35, re_35, hs3⟩, hm_35⟩ := c_value hmd htx hyz (Or.inr zw)
        refine wq (fun _ _ kk => rs_callV (as := []) (pc := 35) dX12_term_35 mk_X12_value mlX12_325 in_X12_value se_X12_value rfl (md_lt hmd (by decide)) hmd.2.1 rfl rfl (Nat.le_of_ble_eq_true rfl) (hm_35) kk) ?_
        replace hmd := hmd_35
        replace htx := htx.of pf_35
        replace hpf := hpf.trans pf_35
        have hy3 := pok_rch hn4 re_35 hyz
        have hEn : T_35.1 24 = 0 → T_35.1 26 = nI (pE y3).length ∧ MT T_35 r 0 (pE y3) ∧ (pE y3).length < 300 := fun w => by
          rcases hs3 with hd | ⟨u1, u2, u3⟩
          · exact absurd w (hd.ne hy3)
          · exact ⟨u3.2.2.1.1, u3.2.2.1.2, by have := pE_room hn4 hy3 u1.1; omega⟩
        have E_35 := (E_1).trans ee_35
        refine wq (fun _ _ kk => rs_aload_n (pc := 38) dX12_term_38 rfl kk) ?_
        refine wq (fun _ _ kk => rs_bipush (v := 13) (pc := 39) dX12_term_39 rfl kk) ?_
        refine wq (fun _ _ kk => rs_iconst (v := 0) (pc := 41) dX12_term_41 rfl kk) ?_
        obtain ⟨rv_42, hc_42, ⟨rfl, ee_42, T_42, hmd_42, w1, w2, w3, w4⟩, hm_42⟩ := c_X12_entryA (E := pE y3) (k := 13) (v := 0) hmd htx hEn
        refine wq (fun _ _ kk => rs_callV (as := [_, _]) (pc := 42) dX12_term_42 mk_X12_entry mlX12_318 in_X12_entry se_X12_entry rfl (md_lt hmd (by decide)) hmd.2.1 rfl rfl (Nat.le_of_ble_eq_true rfl) (hm_42) kk) ?_
        replace hmd := hmd_42
        replace htx := htx.of w1
        replace hpf := hpf.trans w1
        have hd3n : ¬ T_42.1 24 = 0 ∨ True := Or.inr trivial
        have hs4 : ded y3 T_42 ∨ mr t n r (pE y3 ++ py_tk (py_tw 6 (pL y3))) (pP y3) (pPa y3) (pDe y3) O T_42 := by
          rcases hs3 with hd | ⟨u1, u2, u3⟩
          · exact Or.inl (ent_ded hd w2)
          · right
            rw [u2, zl, py_tw_y (by decide), (py_lo_tw hlo).1]
            exact ent_mr u3 w2 w3 w4
        have E_42 := (E_35).trans ee_42
        refine wq (fun _ _ kk => rs_aload_n (pc := 45) dX12_term_45 rfl kk) ?_
        obtain ⟨rv_46, hc_46, ⟨rfl, ee_46, T_46, hmd_46, pf_46, hb_46⟩, hm_46⟩ := c_bl (x := y3) (E := pE y3 ++ py_tk (py_tw 6 (pL y3))) (p := pP y3) (pa := pPa y3) (de := pDe y3) (O := O) hmd htx hs4
        refine wq (fun _ _ kk => rs_callV (as := []) (pc := 46) dX12_term_46 mk_X12_blanks mlX12_287 in_X12_blanks se_X12_blanks rfl (md_lt hmd (by decide)) hmd.2.1 rfl rfl (Nat.le_of_ble_eq_true rfl) (hm_46) kk) ?_
        replace hmd := hmd_46
        replace htx := htx.of pf_46
        replace hpf := hpf.trans pf_46
        have hd3n : ded y3 T_35 → ¬ T_46.1 24 = 0 := fun hd w => by
          have d4 := ent_ded hd w2
          rcases hb_46 with ⟨-, d⟩ | ⟨m, -⟩
          · exact d.ne hy3 w
          · exact d4.ne hy3 m.1
        have E_46 := (E_42).trans ee_46
        refine wq (fun _ _ kk => rs_goto (tgt := 8) (pc := 49) dX12_term_49 rfl kk) ?_
        refine ih y3 _ _ ⟨by omega, fun w => ?_⟩ hmd htx (hE.trans (E_46)) hpf (hre.trans (zr.trans re_35)) hy3 ?_
        · rcases hs3 with hd | ⟨u1, u2, u3⟩
          · exact absurd w hd.1
          · have := u1.2.2.2.2.2.2
            have := him.2 htl.1.1
            omega
        · rcases hb_46 with ⟨-, hd⟩ | ⟨-, hm, hq, hqn⟩
          · exact Or.inl hd
          · right
            rcases hs3 with hd3 | ⟨u1, u2, u3⟩
            · exact absurd hm.1 (hd3n hd3)
            · have v2 := u1.2.1
              exact ⟨⟨⟨u1.1, by rw [v2, zb], u1.2.2.1.trans zD, u1.2.2.2.1.trans zde, u1.2.2.2.2.1.trans zbr, fun w => (u1.2.2.2.2.2.1 (fun u => w (z1.mp u))).trans (zA w), by have := u1.2.2.2.2.2.2; have := htl.1.2.2.2.2.2.2; omega⟩, by rw [u2, zl, py_dw_y (by decide)]; exact (py_lo_tw hlo).2, hm⟩, hq, hqn⟩
theorem py_dead {t : Nat → Nat} {n : Nat} {x y : PS} (h : pF x ≠ 0) (hr : py_rch t n x y) : y = x := by
  obtain ⟨k, rfl⟩ := hr
  exact py_it_stop (Or.inl h) k
set_option maxRecDepth 100000 in
set_option maxHeartbeats 4000000 in
theorem c_term {t : Nat → Nat} {n r : Nat} {O : List Nat} {x : PS} {h : ai_H} {S : Md} (hmd : md_at h S) (htx : tx_m t n r S) (hx : pok n x) (hpre : ded x S ∨ (wl t n r O x S ∧ py_lo 6 (pL x))) : ai_QM MX12_term [.ref 307] h (fun rv g' => rv = none ∧ md_ext h g' ∧ ∃ T y', md_at g' T ∧ pfm r S T ∧ py_rch t n x y' ∧ (ded y' T ∨ (tl t n r 6 (pL x) O x y' T ∧ T.1 23 = nI (tx_fr t n (pP y')) ∧ tx_fr t n (pP y') ≤ n ∧ tx_k t n (tx_fr t n (pP y')) ≠ 13))) := by
  have hn4 := htx.2.1
  refine qm_of (ls := [.ref 307]) (by decide) (by simp [ai_en, Value.category]) (by rfl) ?_
  have hpf : pfm r S S := pfm.rf
  rcases hpre with hd | ⟨hwl, hlo⟩
  · skip
    refine wq (fun _ _ kk => rs_aload_n (pc := 0) dX12_term_0 rfl kk) ?_
    obtain ⟨rv_1, hc_1, ⟨rfl, ee_1, T_1, y_1, hmd_1, pf_1, re_1, hs_1⟩, hm_1⟩ := c_value (O := O) hmd htx hx (Or.inl hd)
    refine wq (fun _ _ kk => rs_callV (as := []) (pc := 1) dX12_term_1 mk_X12_value mlX12_325 in_X12_value se_X12_value rfl (md_lt hmd (by decide)) hmd.2.1 rfl rfl (Nat.le_of_ble_eq_true rfl) (hm_1) kk) ?_
    replace hmd := hmd_1
    replace htx := htx.of pf_1
    replace hpf := hpf.trans pf_1
    rw [py_dead hd.1 re_1] at hs_1
    replace hd : ded x T_1 := hs_1.resolve_right (fun w => hd.1 w.1.1)
    have E_1 := (md_ext.rf).trans ee_1
    refine wq (fun _ _ kk => rs_aload_n (pc := 4) dX12_term_4 rfl kk) ?_
    obtain ⟨rv_5, hc_5, ⟨rfl, ee_5, T_5, hmd_5, pf_5, hb_5⟩, hm_5⟩ := c_bl (x := x) (E := []) (p := 0) (pa := 0) (de := 0) (O := O) hmd htx (Or.inl hd)
    refine wq (fun _ _ kk => rs_callV (as := []) (pc := 5) dX12_term_5 mk_X12_blanks mlX12_287 in_X12_blanks se_X12_blanks rfl (md_lt hmd (by decide)) hmd.2.1 rfl rfl (Nat.le_of_ble_eq_true rfl) (hm_5) kk) ?_
    replace hmd := hmd_5
    replace htx := htx.of pf_5
    replace hpf := hpf.trans pf_5
    replace hd : ded x T_5 := hb_5.elim (fun w => w.2) (fun w => absurd w.1.1 (hd.ne hx))
    have E_5 := (E_1).trans ee_5
    refine wq (fun _ _ kk => rs_aload_n (pc := 8) dX12_term_8 rfl kk) ?_
    refine wq (fun _ _ kk => rs_getf (pc := 9) dX12_term_9 fX12_264 (md_lt hmd (by decide)) hmd.2.1 rfl kk) ?_
    refine wq_bn (fun _ _ kt kf => rs_if_ne (tgt := 52) (pc := 12) dX12_term_12 rfl kt kf) (fun c_12 => ?_) (fun c_12 => absurd c_12 (fun z => (hd.ne hx) z))
    refine wq_ret ?_ (rs_vret (pc := 52) dX12_term_52 rfl)
    exact ⟨rfl, E_5, _, x, hmd, hpf, py_rch.rf, Or.inl hd⟩
  · skip
    refine wq (fun _ _ kk => rs_aload_n (pc := 0) dX12_term_0 rfl kk) ?_
    obtain ⟨rv_1, hc_1, ⟨rfl, ee_1, T_1, y, hmd_1, pf_1, re_1, hs1⟩, hm_1⟩ := c_value hmd htx hx (Or.inr hwl)
    refine wq (fun _ _ kk => rs_callV (as := []) (pc := 1) dX12_term_1 mk_X12_value mlX12_325 in_X12_value se_X12_value rfl (md_lt hmd (by decide)) hmd.2.1 rfl rfl (Nat.le_of_ble_eq_true rfl) (hm_1) kk) ?_
    replace hmd := hmd_1
    replace htx := htx.of pf_1
    replace hpf := hpf.trans pf_1
    have hy := pok_rch hn4 re_1 hx
    have hs2 : ded y T_1 ∨ mr t n r (pE y ++ py_tk (py_tw 6 (pL y))) (pP y) (pPa y) (pDe y) O T_1 := by
      rcases hs1 with hd | ⟨u1, u2, u3⟩
      · exact Or.inl hd
      · right
        rw [u2, (py_lo_tw hlo).1, show py_tk [] = [] from rfl, List.append_nil]
        exact u3
    have E_1 := (md_ext.rf).trans ee_1
    refine wq (fun _ _ kk => rs_aload_n (pc := 4) dX12_term_4 rfl kk) ?_
    obtain ⟨rv_5, hc_5, ⟨rfl, ee_5, T_5, hmd_5, pf_5, hb_5⟩, hm_5⟩ := c_bl (x := y) (E := pE y ++ py_tk (py_tw 6 (pL y))) (p := pP y) (pa := pPa y) (de := pDe y) (O := O) hmd htx hs2
    refine wq (fun _ _ kk => rs_callV (as := []) (pc := 5) dX12_term_5 mk_X12_blanks mlX12_287 in_X12_blanks se_X12_blanks rfl (md_lt hmd (by decide)) hmd.2.1 rfl rfl (Nat.le_of_ble_eq_true rfl) (hm_5) kk) ?_
    replace hmd := hmd_5
    replace htx := htx.of pf_5
    replace hpf := hpf.trans pf_5
    have E_5 := (E_1).trans ee_5
    refine l_X12_term hn4 hwl.2.1 hlo (n + 2) y _ _ ⟨by omega, fun _ => by omega⟩ hmd htx (E_5) hpf re_1 hy ?_
    rcases hb_5 with ⟨-, hd⟩ | ⟨hm0, hm, hq, hqn⟩
    · exact Or.inl hd
    · rcases hs1 with hd | ⟨u1, u2, u3⟩
      · exact absurd hm0.1 (hd.ne hy)
      · exact Or.inr ⟨⟨u1, by rw [u2]; exact (py_lo_tw hlo).2, hm⟩, hq, hqn⟩
theorem dX12_sum_0 : decode cX12_sum 0 = .ok (.aload_n 0, 1) := by decide +kernel
theorem dX12_sum_1 : decode cX12_sum 1 = .ok (.invokevirtual 328, 3) := by decide +kernel
theorem dX12_sum_4 : decode cX12_sum 4 = .ok (.aload_n 0, 1) := by decide +kernel
theorem dX12_sum_5 : decode cX12_sum 5 = .ok (.getfield 264, 3) := by decide +kernel
theorem dX12_sum_8 : decode cX12_sum 8 = .ok (.ifCond .ne 59, 3) := by decide +kernel
theorem dX12_sum_11 : decode cX12_sum 11 = .ok (.aload_n 0, 1) := by decide +kernel
theorem dX12_sum_12 : decode cX12_sum 12 = .ok (.invokevirtual 270, 3) := by decide +kernel
theorem dX12_sum_15 : decode cX12_sum 15 = .ok (.bipush 43, 2) := by decide +kernel
theorem dX12_sum_17 : decode cX12_sum 17 = .ok (.if_icmp .eq 12, 3) := by decide +kernel
theorem dX12_sum_20 : decode cX12_sum 20 = .ok (.aload_n 0, 1) := by decide +kernel
theorem dX12_sum_21 : decode cX12_sum 21 = .ok (.invokevirtual 270, 3) := by decide +kernel
theorem dX12_sum_24 : decode cX12_sum 24 = .ok (.bipush 45, 2) := by decide +kernel
theorem dX12_sum_26 : decode cX12_sum 26 = .ok (.if_icmp .ne 41, 3) := by decide +kernel
theorem dX12_sum_29 : decode cX12_sum 29 = .ok (.aload_n 0, 1) := by decide +kernel
theorem dX12_sum_30 : decode cX12_sum 30 = .ok (.invokevirtual 270, 3) := by decide +kernel
theorem dX12_sum_33 : decode cX12_sum 33 = .ok (.bipush 43, 2) := by decide +kernel
theorem dX12_sum_35 : decode cX12_sum 35 = .ok (.if_icmp .ne 7, 3) := by decide +kernel
theorem dX12_sum_38 : decode cX12_sum 38 = .ok (.iconst 2, 1) := by decide +kernel
theorem dX12_sum_39 : decode cX12_sum 39 = .ok (.goto 4, 3) := by decide +kernel
theorem dX12_sum_42 : decode cX12_sum 42 = .ok (.iconst 3, 1) := by decide +kernel
theorem dX12_sum_43 : decode cX12_sum 43 = .ok (.istore_n 1, 1) := by decide +kernel
theorem dX12_sum_44 : decode cX12_sum 44 = .ok (.aload_n 0, 1) := by decide +kernel
theorem dX12_sum_45 : decode cX12_sum 45 = .ok (.dup, 1) := by decide +kernel
theorem dX12_sum_46 : decode cX12_sum 46 = .ok (.getfield 267, 3) := by decide +kernel
theorem dX12_sum_49 : decode cX12_sum 49 = .ok (.iconst 1, 1) := by decide +kernel
theorem dX12_sum_50 : decode cX12_sum 50 = .ok (.iadd, 1) := by decide +kernel
theorem dX12_sum_51 : decode cX12_sum 51 = .ok (.putfield 267, 3) := by decide +kernel
theorem dX12_sum_54 : decode cX12_sum 54 = .ok (.aload_n 0, 1) := by decide +kernel
theorem dX12_sum_55 : decode cX12_sum 55 = .ok (.invokevirtual 328, 3) := by decide +kernel
theorem dX12_sum_58 : decode cX12_sum 58 = .ok (.aload_n 0, 1) := by decide +kernel
theorem dX12_sum_59 : decode cX12_sum 59 = .ok (.iload_n 1, 1) := by decide +kernel
theorem dX12_sum_60 : decode cX12_sum 60 = .ok (.iconst 0, 1) := by decide +kernel
theorem dX12_sum_61 : decode cX12_sum 61 = .ok (.invokevirtual 318, 3) := by decide +kernel
theorem dX12_sum_64 : decode cX12_sum 64 = .ok (.goto (-60), 3) := by decide +kernel
theorem dX12_sum_67 : decode cX12_sum 67 = .ok (.return_, 1) := by decide +kernel
set_option maxRecDepth 100000 in
set_option maxHeartbeats 4000000 in
theorem l_X12_sum {t : Nat → Nat} {n r : Nat} {base O : List Nat} {x : PS} {h : ai_H} {S0 : Md} (hn4 : n ≤ 400) (hst : pZ x = 1 ∨ pZ x = 3 ∨ pZ x = 4 ∨ pZ x = 6) (hlo : py_lo 5 base) : ∀ (m : Nat) (y : PS) (g : ai_H) (S : Md) (u : Value), (1 ≤ m ∧ (pF y = 0 → n + 1 ≤ pP y + m)) → md_at g S → tx_m t n r S → md_ext h g → pfm r S0 S → py_rch t n x y → pok n y → (ded y S ∨ (tl t n r 5 base O x y S ∧ S.1 23 = nI (tx_fr t n (pP y)) ∧ tx_fr t n (pP y) ≤ n ∧ tx_k t n (tx_fr t n (pP y)) ≠ 13)) → ai_W MX12_sum 4 [.ref 307, u] [] g (fun rv g' => rv = none ∧ md_ext h g' ∧ ∃ T y', md_at g' T ∧ pfm r S0 T ∧ py_rch t n x y' ∧ (ded y' T ∨ (tl t n r 5 base O x y' T ∧ T.1 23 = nI (tx_fr t n (pP y')) ∧ tx_fr t n (pP y') ≤ n ∧ tx_k t n (tx_fr t n (pP y')) ≠ 13 ∧ tx_k t n (tx_fr t n (pP y')) ≠ 2 ∧ tx_k t n (tx_fr t n (pP y')) ≠ 3))) := by
  intro m
  induction m with
  | zero => intro y g S u h1; exact absurd h1.1 (by decide)
  | succ m ih =>
    intro y g S u him hmd htx hE hpf hre hy hin
    obtain ⟨x22, -, x25, hr9, xt⟩ := id htx
    rcases hin with hd | ⟨htl, h23, hfn, h13⟩
    · have hne := hd.ne hy
      refine wq (fun _ _ kk => rs_aload_n (pc := 4) dX12_sum_4 rfl kk) ?_
      refine wq (fun _ _ kk => rs_getf (pc := 5) dX12_sum_5 fX12_264 (md_lt hmd (by decide)) hmd.2.1 rfl kk) ?_
      refine wq_bn (fun _ _ kt kf => rs_if_ne (tgt := 67) (pc := 8) dX12_sum_8 rfl kt kf) (fun c_8 => ?_) (fun c_8 => absurd c_8 (fun z => hne z))
      refine wq_ret ?_ (rs_vret (pc := 67) dX12_sum_67 rfl)
      exact ⟨rfl, hE, S, y, hmd, hpf, hre, Or.inl hd⟩
    · have hpy : pP y ≤ n := (hy.1 htl.1.1).2.2.2.2.2.2.1 (show pZ y ≠ 9 by rw [htl.1.2.1]; have := bhs_in hst; omega)
      have hge := tx_fr_ge (t := t) (n := n) (p := pP y)
      have hm1 := him.2 htl.1.1
      refine wq (fun _ _ kk => rs_aload_n (pc := 4) dX12_sum_4 rfl kk) ?_
      refine wq (fun _ _ kk => rs_getf (pc := 5) dX12_sum_5 fX12_264 (md_lt hmd (by decide)) hmd.2.1 rfl kk) ?_
      rw [htl.2.2.1]
      refine wq_bn (fun _ _ kt kf => rs_if_ne (tgt := 67) (pc := 8) dX12_sum_8 rfl kt kf) (fun c_8 => absurd c_8 (fun z => z rfl)) (fun c_8 => ?_)
      refine wq (fun _ _ kk => rs_aload_n (pc := 11) dX12_sum_11 rfl kk) ?_
      refine wq (fun _ _ kk => rs_callV (as := []) (pc := 12) dX12_sum_12 mk_X12_sign mlX12_270 in_X12_sign se_X12_sign rfl (md_lt hmd (by decide)) hmd.2.1 rfl rfl (Nat.le_of_ble_eq_true rfl) (c_X12_sign hmd htx h23 (p := tx_fr t n (pP y)) (by omega)) kk) ?_
      refine wq (fun _ _ kk => rs_bipush (v := 43) (pc := 15) dX12_sum_15 rfl kk) ?_
      refine wq_br (fun _ _ kt kf => rs_icmp_eq (tgt := 29) (pc := 17) dX12_sum_17 rfl kt kf) (fun c_17 => ?_) (fun c_17 => ?_)
      · have gp := (tx_s_eq (c := 43) (fun w => (xt _ w).1) (by decide)).mp c_17
        refine wq (fun _ _ kk => rs_aload_n (pc := 29) dX12_sum_29 rfl kk) ?_
        refine wq (fun _ _ kk => rs_callV (as := []) (pc := 30) dX12_sum_30 mk_X12_sign mlX12_270 in_X12_sign se_X12_sign rfl (md_lt hmd (by decide)) hmd.2.1 rfl rfl (Nat.le_of_ble_eq_true rfl) (c_X12_sign hmd htx h23 (p := tx_fr t n (pP y)) (by omega)) kk) ?_
        refine wq (fun _ _ kk => rs_bipush (v := 43) (pc := 33) dX12_sum_33 rfl kk) ?_
        refine wq_bn (fun _ _ kt kf => rs_icmp_ne (tgt := 42) (pc := 35) dX12_sum_35 rfl kt kf) (fun c_35 => absurd c_35 (fun z => z ((tx_s_eq (c := 43) (fun w => (xt _ w).1) (by decide)).mpr gp))) (fun c_35 => ?_)
        refine wq (fun _ _ kk => rs_iconst (v := 2) (pc := 38) dX12_sum_38 rfl kk) ?_
        refine wq (fun _ _ kk => rs_goto (tgt := 43) (pc := 39) dX12_sum_39 rfl kk) ?_
        refine wq (fun _ _ kk => wk_istn1 (pc := 43) dX12_sum_43 (by decide) rfl kk) ?_
        refine wq (fun _ _ kk => rs_aload_n (pc := 44) dX12_sum_44 rfl kk) ?_
        refine wq (fun _ _ kk => rs_dup (pc := 45) dX12_sum_45 rfl kk) ?_
        refine wq (fun _ _ kk => rs_getf (pc := 46) dX12_sum_46 fX12_267 (md_lt hmd (by decide)) hmd.2.1 rfl kk) ?_
        rw [h23]
        refine wq (fun _ _ kk => rs_iconst (v := 1) (pc := 49) dX12_sum_49 rfl kk) ?_
        refine wq (fun _ _ kk => rs_iadd (pc := 50) dX12_sum_50 kk) ?_
        refine wq (fun _ _ kk => rs_putf (pc := 51) dX12_sum_51 fX12_267 (md_lt hmd (by decide)) hmd.2.1 rfl (Nat.le_of_ble_eq_true rfl) kk) ?_
        refine wq_gen (fun h_1 e_1 => ?_)
        obtain ⟨m_1, s_1, g_1, o_1⟩ := ai_e1 e_1
        replace hmd := md_at_si (k := 23) hmd m_1 g_1 o_1 rfl
        have E_1 := (md_ext.rf).trans (md_ext_of m_1 s_1 o_1 (by decide))
        obtain ⟨k1, k2⟩ := tx_sg_k (t := t) gp.1 (by omega) (by omega)
        rw [gp.2] at k1 k2
        have k1 : tx_k t n (tx_fr t n (pP y)) = 2 := k1
        have k2 : tx_e t n (tx_fr t n (pP y)) = tx_fr t n (pP y) + 1 := k2
        obtain ⟨S_51, hmd, k_51, r_51, s_51⟩ := md_new hmd
        rw [nI_1, ← k2] at k_51
        have hfn1 : tx_fr t n (pP y) < n := gp.1
        obtain ⟨z, zr, zw, zl, zb, zD, zde, zbr, zA, zp, z1⟩ := ar_step hst k1 (by omega) rfl hy htl r_51 s_51 k_51 (by omega)
        have hpf1 : pfm r S S_51 := pfm.put (by decide) r_51 s_51
        replace htx := htx.of hpf1
        replace hpf := hpf.trans hpf1
        have hyz := pok_rch hn4 zr hy
        refine wq (fun _ _ kk => rs_aload_n (pc := 54) dX12_sum_54 rfl kk) ?_
        obtain ⟨rv_55, hc_55, ⟨rfl, ee_55, T_55, y3, hmd_55, pf_55, re_55, hs3⟩, hm_55⟩ := c_term hmd htx hyz (Or.inr ⟨zw, by rw [zl]; show py_rk _ < 6; decide⟩)
        refine wq (fun _ _ kk => rs_callV (as := []) (pc := 55) dX12_sum_55 mk_X12_term mlX12_328 in_X12_term se_X12_term rfl (md_lt hmd (by decide)) hmd.2.1 rfl rfl (Nat.le_of_ble_eq_true rfl) (hm_55) kk) ?_
        replace hmd := hmd_55
        replace htx := htx.of pf_55
        replace hpf := hpf.trans pf_55
        have hy3 := pok_rch hn4 re_55 hyz
        have hEn : T_55.1 24 = 0 → T_55.1 26 = nI (pE y3 ++ py_tk (py_tw 6 (pL y3))).length ∧ MT T_55 r 0 (pE y3 ++ py_tk (py_tw 6 (pL y3))) ∧ (pE y3 ++ py_tk (py_tw 6 (pL y3))).length < 300 := fun w => by
          rcases hs3 with hd | ⟨⟨u1, u2, u3⟩, -⟩
          · exact absurd w (hd.ne hy3)
          · exact ⟨u3.2.2.1.1, u3.2.2.1.2, by have := pE_room hn4 hy3 u1.1; have := tw_len (r := 6) (by decide) (pL y3); rw [List.length_append]; omega⟩
        have E_55 := (E_1).trans ee_55
        refine wq (fun _ _ kk => rs_aload_n (pc := 58) dX12_sum_58 rfl kk) ?_
        refine wq (fun _ _ kk => rs_iload_n (pc := 59) dX12_sum_59 rfl kk) ?_
        refine wq (fun _ _ kk => rs_iconst (v := 0) (pc := 60) dX12_sum_60 rfl kk) ?_
        obtain ⟨rv_61, hc_61, ⟨rfl, ee_61, T_61, hmd_61, w1, w2, w3, w4⟩, hm_61⟩ := c_X12_entryA (E := pE y3 ++ py_tk (py_tw 6 (pL y3))) (k := 2) (v := 0) hmd htx hEn
        refine wq (fun _ _ kk => rs_callV (as := [_, _]) (pc := 61) dX12_sum_61 mk_X12_entry mlX12_318 in_X12_entry se_X12_entry rfl (md_lt hmd (by decide)) hmd.2.1 rfl rfl (Nat.le_of_ble_eq_true rfl) (hm_61) kk) ?_
        replace hmd := hmd_61
        replace htx := htx.of w1
        replace hpf := hpf.trans w1
        have E_61 := (E_55).trans ee_61
        refine wq (fun _ _ kk => rs_goto (tgt := 4) (pc := 64) dX12_sum_64 rfl kk) ?_
        refine ih y3 _ _ _ ⟨by omega, fun w => ?_⟩ hmd htx (hE.trans (E_61)) hpf (hre.trans (zr.trans re_55)) hy3 ?_
        · rcases hs3 with hd | ⟨⟨u1, -⟩, -⟩
          · exact absurd w hd.1
          · have := u1.2.2.2.2.2.2
            have := him.2 htl.1.1
            omega
        · rcases hs3 with hd | ⟨⟨u1, u2, u3⟩, u4, u5, u6⟩
          · exact Or.inl (ent_ded hd w2)
          · right
            have hm := ent_mr u3 w2 w3 w4
            obtain ⟨p1, p2⟩ := py_two (r := 6) (s := 5) (by decide) (pL y3)
            rw [u2, zl, py_tw_y (by decide), (py_lo_tw hlo).1] at p1
            rw [u2, zl, py_dw_y (by decide), (py_lo_tw hlo).2] at p2
            refine ⟨⟨⟨u1.1, by rw [u1.2.1, zb], u1.2.2.1.trans zD, u1.2.2.2.1.trans zde, u1.2.2.2.2.1.trans zbr, fun w => (u1.2.2.2.2.2.1 (fun u => w (z1.mp u))).trans (zA w), by have := u1.2.2.2.2.2.2; have := htl.1.2.2.2.2.2.2; omega⟩, p2, ?_⟩, by rw [w2 23 (by decide)]; exact u4, u5, u6⟩
            rw [p1, show py_tk (py_tw 6 (pL y3) ++ [2]) = py_tk (py_tw 6 (pL y3)) ++ [(2, 0)] by simp [py_tk], ← List.append_assoc]
            exact hm
      · have gp : ¬ (tx_fr t n (pP y) < n ∧ t (tx_fr t n (pP y)) = 43) := fun w => c_17 ((tx_s_eq (c := 43) (fun w => (xt _ w).1) (by decide)).mpr w)
        refine wq (fun _ _ kk => rs_aload_n (pc := 20) dX12_sum_20 rfl kk) ?_
        refine wq (fun _ _ kk => rs_callV (as := []) (pc := 21) dX12_sum_21 mk_X12_sign mlX12_270 in_X12_sign se_X12_sign rfl (md_lt hmd (by decide)) hmd.2.1 rfl rfl (Nat.le_of_ble_eq_true rfl) (c_X12_sign hmd htx h23 (p := tx_fr t n (pP y)) (by omega)) kk) ?_
        refine wq (fun _ _ kk => rs_bipush (v := 45) (pc := 24) dX12_sum_24 rfl kk) ?_
        refine wq_bn (fun _ _ kt kf => rs_icmp_ne (tgt := 67) (pc := 26) dX12_sum_26 rfl kt kf) (fun c_26 => ?_) (fun c_26 => ?_)
        · have gm : ¬ (tx_fr t n (pP y) < n ∧ t (tx_fr t n (pP y)) = 45) := fun w => c_26 ((tx_s_eq (c := 45) (fun w => (xt _ w).1) (by decide)).mpr w)
          refine wq_ret ?_ (rs_vret (pc := 67) dX12_sum_67 rfl)
          refine ⟨rfl, hE, S, y, hmd, hpf, hre, Or.inr ⟨htl, h23, hfn, h13, fun hk => ?_, fun hk => ?_⟩⟩
          · obtain ⟨k1, k2⟩ := tx_k_sgn hk (by omega)
            exact gp ⟨k1, (tx_sk_c k2).2.1 rfl⟩
          · obtain ⟨k1, k2⟩ := tx_k_sgn hk (by omega)
            exact gm ⟨k1, (tx_sk_c k2).2.2.1 rfl⟩
        · have gm := (tx_s_eq (c := 45) (fun w => (xt _ w).1) (by decide)).mp c_26
          refine wq (fun _ _ kk => rs_aload_n (pc := 29) dX12_sum_29 rfl kk) ?_
          refine wq (fun _ _ kk => rs_callV (as := []) (pc := 30) dX12_sum_30 mk_X12_sign mlX12_270 in_X12_sign se_X12_sign rfl (md_lt hmd (by decide)) hmd.2.1 rfl rfl (Nat.le_of_ble_eq_true rfl) (c_X12_sign hmd htx h23 (p := tx_fr t n (pP y)) (by omega)) kk) ?_
          refine wq (fun _ _ kk => rs_bipush (v := 43) (pc := 33) dX12_sum_33 rfl kk) ?_
          refine wq_bn (fun _ _ kt kf => rs_icmp_ne (tgt := 42) (pc := 35) dX12_sum_35 rfl kt kf) (fun c_35 => ?_) (fun c_35 => absurd c_35 (fun z => gp ((tx_s_eq (c := 43) (fun w => (xt _ w).1) (by decide)).mp z)))
          refine wq (fun _ _ kk => rs_iconst (v := 3) (pc := 42) dX12_sum_42 rfl kk) ?_
          refine wq (fun _ _ kk => wk_istn1 (pc := 43) dX12_sum_43 (by decide) rfl kk) ?_
          refine wq (fun _ _ kk => rs_aload_n (pc := 44) dX12_sum_44 rfl kk) ?_
          refine wq (fun _ _ kk => rs_dup (pc := 45) dX12_sum_45 rfl kk) ?_
          refine wq (fun _ _ kk => rs_getf (pc := 46) dX12_sum_46 fX12_267 (md_lt hmd (by decide)) hmd.2.1 rfl kk) ?_
          rw [h23]
          refine wq (fun _ _ kk => rs_iconst (v := 1) (pc := 49) dX12_sum_49 rfl kk) ?_
          refine wq (fun _ _ kk => rs_iadd (pc := 50) dX12_sum_50 kk) ?_
          refine wq (fun _ _ kk => rs_putf (pc := 51) dX12_sum_51 fX12_267 (md_lt hmd (by decide)) hmd.2.1 rfl (Nat.le_of_ble_eq_true rfl) kk) ?_
          refine wq_gen (fun h_2 e_2 => ?_)
          obtain ⟨m_2, s_2, g_2, o_2⟩ := ai_e1 e_2
          replace hmd := md_at_si (k := 23) hmd m_2 g_2 o_2 rfl
          have E_2 := (md_ext.rf).trans (md_ext_of m_2 s_2 o_2 (by decide))
          obtain ⟨k1, k2⟩ := tx_sg_k (t := t) gm.1 (by omega) (by omega)
          rw [gm.2] at k1 k2
          have k1 : tx_k t n (tx_fr t n (pP y)) = 3 := k1
          have k2 : tx_e t n (tx_fr t n (pP y)) = tx_fr t n (pP y) + 1 := k2
          obtain ⟨S_51, hmd, k_51, r_51, s_51⟩ := md_new hmd
          rw [nI_1, ← k2] at k_51
          have hfn1 : tx_fr t n (pP y) < n := gm.1
          obtain ⟨z, zr, zw, zl, zb, zD, zde, zbr, zA, zp, z1⟩ := ar_step hst k1 (by omega) rfl hy htl r_51 s_51 k_51 (by omega)
          have hpf1 : pfm r S S_51 := pfm.put (by decide) r_51 s_51
          replace htx := htx.of hpf1
          replace hpf := hpf.trans hpf1
          have hyz := pok_rch hn4 zr hy
          refine wq (fun _ _ kk => rs_aload_n (pc := 54) dX12_sum_54 rfl kk) ?_
          obtain ⟨rv_55, hc_55, ⟨rfl, ee_55, T_55, y3, hmd_55, pf_55, re_55, hs3⟩, hm_55⟩ := c_term hmd htx hyz (Or.inr ⟨zw, by rw [zl]; show py_rk _ < 6; decide⟩)
          refine wq (fun _ _ kk => rs_callV (as := []) (pc := 55) dX12_sum_55 mk_X12_term mlX12_328 in_X12_term se_X12_term rfl (md_lt hmd (by decide)) hmd.2.1 rfl rfl (Nat.le_of_ble_eq_true rfl) (hm_55) kk) ?_
          replace hmd := hmd_55
          replace htx := htx.of pf_55
          replace hpf := hpf.trans pf_55
          have hy3 := pok_rch hn4 re_55 hyz
          have hEn : T_55.1 24 = 0 → T_55.1 26 = nI (pE y3 ++ py_tk (py_tw 6 (pL y3))).length ∧ MT T_55 r 0 (pE y3 ++ py_tk (py_tw 6 (pL y3))) ∧ (pE y3 ++ py_tk (py_tw 6 (pL y3))).length < 300 := fun w => by
            rcases hs3 with hd | ⟨⟨u1, u2, u3⟩, -⟩
            · exact absurd w (hd.ne hy3)
            · exact ⟨u3.2.2.1.1, u3.2.2.1.2, by have := pE_room hn4 hy3 u1.1; have := tw_len (r := 6) (by decide) (pL y3); rw [List.length_append]; omega⟩
          have E_55 := (E_2).trans ee_55
          refine wq (fun _ _ kk => rs_aload_n (pc := 58) dX12_sum_58 rfl kk) ?_
          refine wq (fun _ _ kk => rs_iload_n (pc := 59) dX12_sum_59 rfl kk) ?_
          refine wq (fun _ _ kk => rs_iconst (v := 0) (pc := 60) dX12_sum_60 rfl kk) ?_
          obtain ⟨rv_61, hc_61, ⟨rfl, ee_61, T_61, hmd_61, w1, w2, w3, w4⟩, hm_61⟩ := c_X12_entryA (E := pE y3 ++ py_tk (py_tw 6 (pL y3))) (k := 3) (v := 0) hmd htx hEn
          refine wq (fun _ _ kk => rs_callV (as := [_, _]) (pc := 61) dX12_sum_61 mk_X12_entry mlX12_318 in_X12_entry se_X12_entry rfl (md_lt hmd (by decide)) hmd.2.1 rfl rfl (Nat.le_of_ble_eq_true rfl) (hm_61) kk) ?_
          replace hmd := hmd_61
          replace htx := htx.of w1
          replace hpf := hpf.trans w1
          have E_61 := (E_55).trans ee_61
          refine wq (fun _ _ kk => rs_goto (tgt := 4) (pc := 64) dX12_sum_64 rfl kk) ?_
          refine ih y3 _ _ _ ⟨by omega, fun w => ?_⟩ hmd htx (hE.trans (E_61)) hpf (hre.trans (zr.trans re_55)) hy3 ?_
          · rcases hs3 with hd | ⟨⟨u1, -⟩, -⟩
            · exact absurd w hd.1
            · have := u1.2.2.2.2.2.2
              have := him.2 htl.1.1
              omega
          · rcases hs3 with hd | ⟨⟨u1, u2, u3⟩, u4, u5, u6⟩
            · exact Or.inl (ent_ded hd w2)
            · right
              have hm := ent_mr u3 w2 w3 w4
              obtain ⟨p1, p2⟩ := py_two (r := 6) (s := 5) (by decide) (pL y3)
              rw [u2, zl, py_tw_y (by decide), (py_lo_tw hlo).1] at p1
              rw [u2, zl, py_dw_y (by decide), (py_lo_tw hlo).2] at p2
              refine ⟨⟨⟨u1.1, by rw [u1.2.1, zb], u1.2.2.1.trans zD, u1.2.2.2.1.trans zde, u1.2.2.2.2.1.trans zbr, fun w => (u1.2.2.2.2.2.1 (fun u => w (z1.mp u))).trans (zA w), by have := u1.2.2.2.2.2.2; have := htl.1.2.2.2.2.2.2; omega⟩, p2, ?_⟩, by rw [w2 23 (by decide)]; exact u4, u5, u6⟩
              rw [p1, show py_tk (py_tw 6 (pL y3) ++ [3]) = py_tk (py_tw 6 (pL y3)) ++ [(3, 0)] by simp [py_tk], ← List.append_assoc]
              exact hm
set_option maxRecDepth 100000 in
set_option maxHeartbeats 4000000 in
theorem c_sum {t : Nat → Nat} {n r : Nat} {O : List Nat} {x : PS} {h : ai_H} {S : Md} (hmd : md_at h S) (htx : tx_m t n r S) (hx : pok n x) (hpre : ded x S ∨ (wl t n r O x S ∧ py_lo 5 (pL x))) : ai_QM MX12_sum [.ref 307] h (fun rv g' => rv = none ∧ md_ext h g' ∧ ∃ T y', md_at g' T ∧ pfm r S T ∧ py_rch t n x y' ∧ (ded y' T ∨ (tl t n r 5 (pL x) O x y' T ∧ T.1 23 = nI (tx_fr t n (pP y')) ∧ tx_fr t n (pP y') ≤ n ∧ tx_k t n (tx_fr t n (pP y')) ≠ 13 ∧ tx_k t n (tx_fr t n (pP y')) ≠ 2 ∧ tx_k t n (tx_fr t n (pP y')) ≠ 3))) := by
  have hn4 := htx.2.1
  refine qm_of (ls := [.ref 307, .float 0]) (by decide) (by simp [ai_en, Value.category]) (by rfl) ?_
  have hpf : pfm r S S := pfm.rf
  rcases hpre with hd | ⟨hwl, hlo⟩
  · skip
    refine wq (fun _ _ kk => rs_aload_n (pc := 0) dX12_sum_0 rfl kk) ?_
    obtain ⟨rv_1, hc_1, ⟨rfl, ee_1, T_1, y_1, hmd_1, pf_1, re_1, hs_1⟩, hm_1⟩ := c_term (O := O) hmd htx hx (Or.inl hd)
    refine wq (fun _ _ kk => rs_callV (as := []) (pc := 1) dX12_sum_1 mk_X12_term mlX12_328 in_X12_term se_X12_term rfl (md_lt hmd (by decide)) hmd.2.1 rfl rfl (Nat.le_of_ble_eq_true rfl) (hm_1) kk) ?_
    replace hmd := hmd_1
    replace htx := htx.of pf_1
    replace hpf := hpf.trans pf_1
    rw [py_dead hd.1 re_1] at hs_1
    replace hd : ded x T_1 := hs_1.resolve_right (fun w => hd.1 w.1.1.1)
    have E_1 := (md_ext.rf).trans ee_1
    refine wq (fun _ _ kk => rs_aload_n (pc := 4) dX12_sum_4 rfl kk) ?_
    refine wq (fun _ _ kk => rs_getf (pc := 5) dX12_sum_5 fX12_264 (md_lt hmd (by decide)) hmd.2.1 rfl kk) ?_
    refine wq_bn (fun _ _ kt kf => rs_if_ne (tgt := 67) (pc := 8) dX12_sum_8 rfl kt kf) (fun c_8 => ?_) (fun c_8 => absurd c_8 (fun z => (hd.ne hx) z))
    refine wq_ret ?_ (rs_vret (pc := 67) dX12_sum_67 rfl)
    exact ⟨rfl, E_1, _, x, hmd, hpf, py_rch.rf, Or.inl hd⟩
  · skip
    refine wq (fun _ _ kk => rs_aload_n (pc := 0) dX12_sum_0 rfl kk) ?_
    obtain ⟨rv_1, hc_1, ⟨rfl, ee_1, T_1, y, hmd_1, pf_1, re_1, hs1⟩, hm_1⟩ := c_term hmd htx hx (Or.inr ⟨hwl, hlo.le (by decide)⟩)
    refine wq (fun _ _ kk => rs_callV (as := []) (pc := 1) dX12_sum_1 mk_X12_term mlX12_328 in_X12_term se_X12_term rfl (md_lt hmd (by decide)) hmd.2.1 rfl rfl (Nat.le_of_ble_eq_true rfl) (hm_1) kk) ?_
    replace hmd := hmd_1
    replace htx := htx.of pf_1
    replace hpf := hpf.trans pf_1
    have hy := pok_rch hn4 re_1 hx
    have E_1 := (md_ext.rf).trans ee_1
    refine l_X12_sum hn4 hwl.2.1 hlo (n + 2) y _ _ _ ⟨by omega, fun _ => by omega⟩ hmd htx (E_1) hpf re_1 hy ?_
    rcases hs1 with hd | ⟨⟨u1, u2, u3⟩, u4, u5, u6⟩
    · exact Or.inl hd
    · right
      obtain ⟨p1, p2⟩ := py_two (r := 6) (s := 5) (by decide) (pL y)
      rw [u2, (py_lo_tw hlo).1, List.append_nil] at p1
      rw [u2, (py_lo_tw hlo).2] at p2
      exact ⟨⟨u1, p2, by rw [p1]; exact u3⟩, u4, u5, u6⟩
