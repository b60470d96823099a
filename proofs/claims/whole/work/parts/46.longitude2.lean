/-! 46: longitude (walks laid by wip/whole/p46.py) -/
/-- cells, meetings, ropes and the tally changed -/
def fr2 (h g : ai_H) : Prop := g.1 = h.1 ∧ g.2.1 = h.2.1 ∧ ∀ j, (j < 22 ∨ (297 < j ∧ j ≠ 306)) → g.2.2 j = h.2.2 j
theorem fr2.trans {h g k : ai_H} (a : fr2 h g) (b : fr2 g k) : fr2 h k := ⟨b.1.trans a.1, b.2.1.trans a.2.1, fun j hj => (b.2.2 j hj).trans (a.2.2 j hj)⟩
theorem fr2.a {h g : ai_H} (a : fr 22 297 h g) : fr2 h g := ⟨a.1, a.2.1, fun j hj => a.2.2 j (by omega)⟩
theorem fr2.b {h g : ai_H} (a : fr 306 306 h g) : fr2 h g := ⟨a.1, a.2.1, fun j hj => a.2.2 j (by omega)⟩
theorem fr2.f {h g : ai_H} (a : fr2 h g) : fr 22 306 h g := ⟨a.1, a.2.1, fun j hj => a.2.2 j (by omega)⟩
theorem scr.two {h g : ai_H} (hs : scr h) (e : fr2 h g) (h1 : ∃ S, cl_at g S) (h2 : ∃ T, mt_at g T) (h3 : ∃ S, rp_at g S) (h4 : ∃ t, g.2.2 306 = ty_cell t) : scr g := by
  obtain ⟨⟨f, a1⟩, ⟨t, S2, a2, a2'⟩, ⟨S3, a3⟩, -, -, -, ⟨S7, a7⟩, ⟨c, S8, t8, a8, a8', a8''⟩, -⟩ := hs
  exact ⟨⟨f, (e.2.2 _ (by decide)).trans a1⟩, ⟨t, S2, a2, rd_keep a2' e.1 (fun j _ _ => e.2.2 j (by omega))⟩, ⟨S3, sc_keep a3 e.1 (fun j _ _ => e.2.2 j (by omega))⟩, h1, h2, h3, ⟨S7, bo_keep a7 e.1 (fun j _ _ => e.2.2 j (by omega))⟩, ⟨c, S8, t8, a8, wo_keep a8' e.1 (fun j _ _ => e.2.2 j (by omega)), (e.2.2 _ (by decide)).trans a8''⟩, h4⟩
theorem lgI_c (z a c : Nat) : lgI z a (c + 1) 0 = lgI z a c z := by
  unfold lgI
  rw [Nat.add_zero, ← Nat.add_assoc, Nat.add_mul (a * z + c) 1, Nat.one_mul]
theorem lgI_a (z a : Nat) : lgI z (a + 1) 0 0 = lgI z a z 0 := by
  unfold lgI
  simp only [Nat.add_zero]
  rw [Nat.add_mul a 1, Nat.one_mul]
theorem lgI_in {z a c k : Nat} (h1 : lgI z a c 0 ≤ k) (h2 : k < lgI z a (c + 1) 0) : ∃ i, i < z ∧ k = lgI z a c i := by
  rw [lgI_c] at h2
  unfold lgI at h1 h2 ⊢
  exact ⟨k - (a * z + c) * z, by omega, by omega⟩
theorem dX11_tallyHouses_0 : decode cX11_tallyHouses 0 = .ok (.aload_n 0, 1) := by decide +kernel
theorem dX11_tallyHouses_1 : decode cX11_tallyHouses 1 = .ok (.iload_n 3, 1) := by decide +kernel
theorem dX11_tallyHouses_2 : decode cX11_tallyHouses 2 = .ok (.invokevirtual 183, 3) := by decide +kernel
theorem dX11_tallyHouses_5 : decode cX11_tallyHouses 5 = .ok (.aload_n 0, 1) := by decide +kernel
theorem dX11_tallyHouses_6 : decode cX11_tallyHouses 6 = .ok (.getfield 93, 3) := by decide +kernel
theorem dX11_tallyHouses_9 : decode cX11_tallyHouses 9 = .ok (.invokevirtual 317, 3) := by decide +kernel
theorem dX11_tallyHouses_12 : decode cX11_tallyHouses 12 = .ok (.iconst 0, 1) := by decide +kernel
theorem dX11_tallyHouses_13 : decode cX11_tallyHouses 13 = .ok (.istore 4, 2) := by decide +kernel
theorem dX11_tallyHouses_15 : decode cX11_tallyHouses 15 = .ok (.iload 4, 2) := by decide +kernel
theorem dX11_tallyHouses_17 : decode cX11_tallyHouses 17 = .ok (.aload_n 0, 1) := by decide +kernel
theorem dX11_tallyHouses_18 : decode cX11_tallyHouses 18 = .ok (.getfield 10, 3) := by decide +kernel
theorem dX11_tallyHouses_21 : decode cX11_tallyHouses 21 = .ok (.getfield 108, 3) := by decide +kernel
theorem dX11_tallyHouses_24 : decode cX11_tallyHouses 24 = .ok (.getfield 224, 3) := by decide +kernel
theorem dX11_tallyHouses_27 : decode cX11_tallyHouses 27 = .ok (.if_icmp .ge 84, 3) := by decide +kernel
theorem dX11_tallyHouses_30 : decode cX11_tallyHouses 30 = .ok (.aload_n 0, 1) := by decide +kernel
theorem dX11_tallyHouses_31 : decode cX11_tallyHouses 31 = .ok (.getfield 72, 3) := by decide +kernel
theorem dX11_tallyHouses_34 : decode cX11_tallyHouses 34 = .ok (.aload_n 0, 1) := by decide +kernel
theorem dX11_tallyHouses_35 : decode cX11_tallyHouses 35 = .ok (.getfield 65, 3) := by decide +kernel
theorem dX11_tallyHouses_38 : decode cX11_tallyHouses 38 = .ok (.aload_n 0, 1) := by decide +kernel
theorem dX11_tallyHouses_39 : decode cX11_tallyHouses 39 = .ok (.getfield 10, 3) := by decide +kernel
theorem dX11_tallyHouses_42 : decode cX11_tallyHouses 42 = .ok (.getfield 108, 3) := by decide +kernel
theorem dX11_tallyHouses_45 : decode cX11_tallyHouses 45 = .ok (.getfield 224, 3) := by decide +kernel
theorem dX11_tallyHouses_48 : decode cX11_tallyHouses 48 = .ok (.iload 4, 2) := by decide +kernel
theorem dX11_tallyHouses_50 : decode cX11_tallyHouses 50 = .ok (.invokevirtual 342, 3) := by decide +kernel
theorem dX11_tallyHouses_53 : decode cX11_tallyHouses 53 = .ok (.iconst 0, 1) := by decide +kernel
theorem dX11_tallyHouses_54 : decode cX11_tallyHouses 54 = .ok (.istore 5, 2) := by decide +kernel
theorem dX11_tallyHouses_56 : decode cX11_tallyHouses 56 = .ok (.iload 5, 2) := by decide +kernel
theorem dX11_tallyHouses_58 : decode cX11_tallyHouses 58 = .ok (.aload_n 0, 1) := by decide +kernel
theorem dX11_tallyHouses_59 : decode cX11_tallyHouses 59 = .ok (.getfield 58, 3) := by decide +kernel
theorem dX11_tallyHouses_62 : decode cX11_tallyHouses 62 = .ok (.getfield 348, 3) := by decide +kernel
theorem dX11_tallyHouses_65 : decode cX11_tallyHouses 65 = .ok (.if_icmp .ge 40, 3) := by decide +kernel
theorem dX11_tallyHouses_68 : decode cX11_tallyHouses 68 = .ok (.aload_n 0, 1) := by decide +kernel
theorem dX11_tallyHouses_69 : decode cX11_tallyHouses 69 = .ok (.getfield 58, 3) := by decide +kernel
theorem dX11_tallyHouses_72 : decode cX11_tallyHouses 72 = .ok (.iload 5, 2) := by decide +kernel
theorem dX11_tallyHouses_74 : decode cX11_tallyHouses 74 = .ok (.iload 4, 2) := by decide +kernel
theorem dX11_tallyHouses_76 : decode cX11_tallyHouses 76 = .ok (.invokevirtual 349, 3) := by decide +kernel
theorem dX11_tallyHouses_79 : decode cX11_tallyHouses 79 = .ok (.ifCond .eq 20, 3) := by decide +kernel
theorem dX11_tallyHouses_82 : decode cX11_tallyHouses 82 = .ok (.aload_n 0, 1) := by decide +kernel
theorem dX11_tallyHouses_83 : decode cX11_tallyHouses 83 = .ok (.iload 5, 2) := by decide +kernel
theorem dX11_tallyHouses_85 : decode cX11_tallyHouses 85 = .ok (.iload_n 1, 1) := by decide +kernel
theorem dX11_tallyHouses_86 : decode cX11_tallyHouses 86 = .ok (.invokevirtual 352, 3) := by decide +kernel
theorem dX11_tallyHouses_89 : decode cX11_tallyHouses 89 = .ok (.ifCond .eq 10, 3) := by decide +kernel
theorem dX11_tallyHouses_92 : decode cX11_tallyHouses 92 = .ok (.aload_n 0, 1) := by decide +kernel
theorem dX11_tallyHouses_93 : decode cX11_tallyHouses 93 = .ok (.iload 5, 2) := by decide +kernel
theorem dX11_tallyHouses_95 : decode cX11_tallyHouses 95 = .ok (.iload_n 2, 1) := by decide +kernel
theorem dX11_tallyHouses_96 : decode cX11_tallyHouses 96 = .ok (.invokevirtual 355, 3) := by decide +kernel
theorem dX11_tallyHouses_99 : decode cX11_tallyHouses 99 = .ok (.iinc 5 1, 3) := by decide +kernel
theorem dX11_tallyHouses_102 : decode cX11_tallyHouses 102 = .ok (.goto (-46), 3) := by decide +kernel
theorem dX11_tallyHouses_105 : decode cX11_tallyHouses 105 = .ok (.iinc 4 1, 3) := by decide +kernel
theorem dX11_tallyHouses_108 : decode cX11_tallyHouses 108 = .ok (.goto (-93), 3) := by decide +kernel
theorem dX11_tallyHouses_111 : decode cX11_tallyHouses 111 = .ok (.return_, 1) := by decide +kernel
set_option maxRecDepth 100000 in
set_option maxHeartbeats 4000000 in
theorem l1_X11_tallyHouses {h : ai_H} {tb lm : Int32} {B : Bk} {ln : Nat} {wk gh hh : Int32} {S : Md} {z : Nat} (hok : bk_ok B ln) (hG : GI B wk S (nR B) z) {a : Nat} {R : Md} {Q : Option Value → ai_H → Prop} (ha : a < nO B) (hled : rp_led (mt_F S z) (nO B) a R) (kx : ∀ (g : ai_H) (t : Ty) (R : Md), fr2 h g → x_at g tb lm → bk_at g 1 B → cl_at g S → mt_at g (mt_F S z) → rp_at g R → g.2.2 306 = ty_cell t → tcL B wk (LM B wk S z) t (LC B wk (LM B wk S z) gh hh S z (lgI z (a + 1) 0 0)) → ai_W MX11_tallyHouses 105 [.ref 0, .int gh, .int hh, .int wk, .int (nI a), .int (nI z)] [] g Q) : ∀ (m c : Nat) (t : Ty) (g : ai_H), c ≤ z → z + 1 ≤ c + m → fr2 h g → x_at g tb lm → bk_at g 1 B → cl_at g S → mt_at g (mt_F S z) → rp_at g R → g.2.2 306 = ty_cell t → tcL B wk (LM B wk S z) t (LC B wk (LM B wk S z) gh hh S z (lgI z a c 0)) → ai_W MX11_tallyHouses 56 [.ref 0, .int gh, .int hh, .int wk, .int (nI a), .int (nI c)] [] g Q := by
  intro m
  induction m with
  | zero => intro c t g h1 h2; exact absurd h2 (by omega)
  | succ m ih =>
    intro c t g hc0 him E0 hx hB hcl hmt hrp htl htc
    have hn16 := hok.2.1.2.1
    obtain ⟨hlr, htr⟩ := LM_rows hok hG
    have hz4 := hG.1.2.1
    refine wq (fun _ _ kk => rs_iload (pc := 56) dX11_tallyHouses_56 rfl kk) ?_
    refine wq (fun _ _ kk => rs_aload_n (pc := 58) dX11_tallyHouses_58 rfl kk) ?_
    refine wq (fun _ _ kk => rs_getf (pc := 59) dX11_tallyHouses_59 fX11_58 (x_lt hx (by decide)) hx.2 rfl kk) ?_
    refine wq (fun _ _ kk => rs_getf (pc := 62) dX11_tallyHouses_62 fX11_348 (mo_lt hcl (by decide)) hcl.2.1 rfl kk) ?_
    refine wq_br (fun _ _ kt kf => rs_icmp_ge (tgt := 105) (pc := 65) dX11_tallyHouses_65 rfl kt kf) (fun c_65 => ?_) (fun c_65 => ?_)
    · have hce : c = z := lp_exit hG.1.1 (by omega) hc0 c_65
      subst hce
      exact kx g t R E0 hx hB hcl hmt hrp htl (by rw [lgI_a]; exact htc)
    · have hc : c < z := lp_go hG.1.1 (by omega) c_65
      refine wq (fun _ _ kk => rs_aload_n (pc := 68) dX11_tallyHouses_68 rfl kk) ?_
      refine wq (fun _ _ kk => rs_getf (pc := 69) dX11_tallyHouses_69 fX11_58 (x_lt hx (by decide)) hx.2 rfl kk) ?_
      refine wq (fun _ _ kk => rs_iload (pc := 72) dX11_tallyHouses_72 rfl kk) ?_
      refine wq (fun _ _ kk => rs_iload (pc := 74) dX11_tallyHouses_74 rfl kk) ?_
      refine wq (fun _ _ kk => rs_callV (as := [_, _]) (pc := 76) dX11_tallyHouses_76 mk_X2_isBy mlX11_349 in_X2_isBy se_X2_isBy rfl (mo_lt hcl (by decide)) hcl.2.1 rfl rfl (Nat.le_of_ble_eq_true rfl) (c_X2_isBy hcl hG.1.sz _ _) kk) ?_
      rw [by_at hG.1 hc]
      refine wq_br (fun _ _ kt kf => rs_if_eq (tgt := 99) (pc := 79) dX11_tallyHouses_79 rfl kt kf) (fun c_79 => ?_) (fun c_79 => ?_)
      · rw [ite10] at c_79
        refine wq (fun _ _ kk => wk_iinc5 (v := nI (c + 1)) (pc := 99) dX11_tallyHouses_99 (by decide) rfl (nI_1 c) kk) ?_
        refine wq (fun _ _ kk => rs_goto (tgt := 56) (pc := 102) dX11_tallyHouses_102 rfl kk) ?_
        have hsk : LC B wk (LM B wk S z) gh hh S z (lgI z a (c + 1) 0) = LC B wk (LM B wk S z) gh hh S z (lgI z a c 0) := by
          refine lst_skip (by rw [lgI_c]; unfold lgI; omega) (fun k k1 k2 => ?_)
          obtain ⟨i, hi, rfl⟩ := lgI_in k1 k2
          rw [lgP_at hc hi, Bool.and_eq_false_iff]
          first
          | exact Or.inl (decide_eq_false c_79)
          | exact Or.inr (decide_eq_false (fun q => c_89 ⟨q.2.2.1, q.2.2.2.1⟩))
        exact ih (c + 1) t g (by omega) (by omega) E0 hx hB hcl hmt hrp htl (by rw [hsk]; exact htc)
      · rw [ite10, Classical.not_not] at c_79
        refine wq (fun _ _ kk => rs_aload_n (pc := 82) dX11_tallyHouses_82 rfl kk) ?_
        refine wq (fun _ _ kk => rs_iload (pc := 83) dX11_tallyHouses_83 rfl kk) ?_
        refine wq (fun _ _ kk => rs_iload_n (pc := 85) dX11_tallyHouses_85 rfl kk) ?_
        refine wq (fun _ _ kk => rs_callV (as := [_, _]) (pc := 86) dX11_tallyHouses_86 mk_X11_isOfHouse mlX11_352 in_X11_isOfHouse se_X11_isOfHouse rfl (x_lt hx (by decide)) hx.2 rfl rfl (Nat.le_of_ble_eq_true rfl) (c_X11_isOfHouse hx hB hcl hG.1 hc gh) kk) ?_
        refine wq_br (fun _ _ kt kf => rs_if_eq (tgt := 99) (pc := 89) dX11_tallyHouses_89 rfl kt kf) (fun c_89 => ?_) (fun c_89 => ?_)
        · rw [b32_0] at c_89
          refine wq (fun _ _ kk => wk_iinc5 (v := nI (c + 1)) (pc := 99) dX11_tallyHouses_99 (by decide) rfl (nI_1 c) kk) ?_
          refine wq (fun _ _ kk => rs_goto (tgt := 56) (pc := 102) dX11_tallyHouses_102 rfl kk) ?_
          have hsk : LC B wk (LM B wk S z) gh hh S z (lgI z a (c + 1) 0) = LC B wk (LM B wk S z) gh hh S z (lgI z a c 0) := by
            refine lst_skip (by rw [lgI_c]; unfold lgI; omega) (fun k k1 k2 => ?_)
            obtain ⟨i, hi, rfl⟩ := lgI_in k1 k2
            rw [lgP_at hc hi, Bool.and_eq_false_iff]
            first
            | exact Or.inl (decide_eq_false c_79)
            | exact Or.inr (decide_eq_false (fun q => c_89 ⟨q.2.2.1, q.2.2.2.1⟩))
          exact ih (c + 1) t g (by omega) (by omega) E0 hx hB hcl hmt hrp htl (by rw [hsk]; exact htc)
        · rw [b32_0, Classical.not_not] at c_89
          refine wq (fun _ _ kk => rs_aload_n (pc := 92) dX11_tallyHouses_92 rfl kk) ?_
          refine wq (fun _ _ kk => rs_iload (pc := 93) dX11_tallyHouses_93 rfl kk) ?_
          refine wq (fun _ _ kk => rs_iload_n (pc := 95) dX11_tallyHouses_95 rfl kk) ?_
          obtain ⟨rv_96, hc_96, ⟨rfl, ee_98, hx_98, hB_98, hcl_98, hrp_98, t2, htl_98, htc_98⟩, hm_96⟩ := c_X11_tallyAcross (gh := gh) hok hG ha hc c_79 c_89 hled hx hB hcl hrp htl htc
          refine wq (fun _ _ kk => rs_callV (as := [_, _]) (pc := 96) dX11_tallyHouses_96 mk_X11_tallyAcross mlX11_355 in_X11_tallyAcross se_X11_tallyAcross rfl (x_lt hx (by decide)) hx.2 rfl rfl (Nat.le_of_ble_eq_true rfl) (hm_96) kk) ?_
          replace hx := hx_98
          replace hB := hB_98
          replace hcl := hcl_98
          replace hrp := hrp_98
          replace hmt := mt_keep hmt ee_98.1 (fun j _ _ => ee_98.2.2 j (by omega))
          refine wq (fun _ _ kk => wk_iinc5 (v := nI (c + 1)) (pc := 99) dX11_tallyHouses_99 (by decide) rfl (nI_1 c) kk) ?_
          refine wq (fun _ _ kk => rs_goto (tgt := 56) (pc := 102) dX11_tallyHouses_102 rfl kk) ?_
          exact ih (c + 1) t2 _ (by omega) (by omega) (E0.trans (fr2.b ee_98)) hx hB hcl hmt hrp htl_98 (by rw [lgI_c]; exact htc_98)
set_option maxRecDepth 100000 in
set_option maxHeartbeats 4000000 in
theorem l2_X11_tallyHouses {h : ai_H} {tb lm : Int32} {B : Bk} {ln : Nat} {wk gh hh : Int32} {S : Md} {z : Nat} (hok : bk_ok B ln) (hG : GI B wk S (nR B) z) : ∀ (m a : Nat) (t : Ty) (u5 : Value) (g : ai_H) (R : Md), a ≤ nO B → nO B + 1 ≤ a + m → fr2 h g → x_at g tb lm → bk_at g 1 B → cl_at g S → mt_at g (mt_F S z) → rp_at g R → g.2.2 306 = ty_cell t → tcL B wk (LM B wk S z) t (LC B wk (LM B wk S z) gh hh S z (lgI z a 0 0)) → ai_W MX11_tallyHouses 15 [.ref 0, .int gh, .int hh, .int wk, .int (nI a), u5] [] g (fun r g => r = none ∧ fr2 h g ∧ x_at g tb lm ∧ bk_at g 1 B ∧ cl_at g S ∧ mt_at g (mt_F S z) ∧ (∃ R, rp_at g R) ∧ ∃ t, g.2.2 306 = ty_cell t ∧ tcL B wk (LM B wk S z) t (LC B wk (LM B wk S z) gh hh S z (lgI z (nO B) 0 0))) := by
  intro m
  induction m with
  | zero => intro a t u5 g R h1 h2; exact absurd h2 (by omega)
  | succ m ih =>
    intro a t u5 g R ha0 him E0 hx hB hcl hmt hrp htl htc
    have hn16 := hok.2.1.2.1
    obtain ⟨hlr, htr⟩ := LM_rows hok hG
    have hz4 := hG.1.2.1
    refine wq (fun _ _ kk => rs_iload (pc := 15) dX11_tallyHouses_15 rfl kk) ?_
    refine wq (fun _ _ kk => rs_aload_n (pc := 17) dX11_tallyHouses_17 rfl kk) ?_
    refine wq (fun _ _ kk => rs_getf (pc := 18) dX11_tallyHouses_18 fX11_10 (x_lt hx (by decide)) hx.2 rfl kk) ?_
    refine wq (fun _ _ kk => rs_getf (pc := 21) dX11_tallyHouses_21 fX11_108 (bk_lt hB (by decide)) hB.2.1 rfl kk) ?_
    refine wq (fun _ _ kk => rs_getf (pc := 24) dX11_tallyHouses_24 fX11_224 (bk_lt hB (by decide)) hB.2.2.1.1 rfl kk) ?_
    refine wq_br (fun _ _ kt kf => rs_icmp_ge (tgt := 111) (pc := 27) dX11_tallyHouses_27 rfl kt kf) (fun c_27 => ?_) (fun c_27 => ?_)
    · have hae : a = nO B := lp_exit hok.2.1.1 (by omega) ha0 c_27
      subst hae
      refine wq_ret ?_ (rs_vret (pc := 111) dX11_tallyHouses_111 rfl)
      exact ⟨rfl, E0, hx, hB, hcl, hmt, ⟨R, hrp⟩, t, htl, htc⟩
    · have ha : a < nO B := lp_go hok.2.1.1 (by omega) c_27
      refine wq (fun _ _ kk => rs_aload_n (pc := 30) dX11_tallyHouses_30 rfl kk) ?_
      refine wq (fun _ _ kk => rs_getf (pc := 31) dX11_tallyHouses_31 fX11_72 (x_lt hx (by decide)) hx.2 rfl kk) ?_
      refine wq (fun _ _ kk => rs_aload_n (pc := 34) dX11_tallyHouses_34 rfl kk) ?_
      refine wq (fun _ _ kk => rs_getf (pc := 35) dX11_tallyHouses_35 fX11_65 (x_lt hx (by decide)) hx.2 rfl kk) ?_
      refine wq (fun _ _ kk => rs_aload_n (pc := 38) dX11_tallyHouses_38 rfl kk) ?_
      refine wq (fun _ _ kk => rs_getf (pc := 39) dX11_tallyHouses_39 fX11_10 (x_lt hx (by decide)) hx.2 rfl kk) ?_
      refine wq (fun _ _ kk => rs_getf (pc := 42) dX11_tallyHouses_42 fX11_108 (bk_lt hB (by decide)) hB.2.1 rfl kk) ?_
      refine wq (fun _ _ kk => rs_getf (pc := 45) dX11_tallyHouses_45 fX11_224 (bk_lt hB (by decide)) hB.2.2.1.1 rfl kk) ?_
      rw [hok.2.1.1]
      refine wq (fun _ _ kk => rs_iload (pc := 48) dX11_tallyHouses_48 rfl kk) ?_
      obtain ⟨rv_50, hc_50, ⟨rfl, ee_50, hmt_50, R2, hrp_50, hled⟩, hm_50⟩ := c_X6_lead (mt_ok_is htr hlr) hok.2.1.2.1 ha hrp hmt
      refine wq (fun _ _ kk => rs_callV (as := [_, _, _]) (pc := 50) dX11_tallyHouses_50 mk_X6_lead mlX11_342 in_X6_lead se_X6_lead rfl (mo_lt hrp (by decide)) hrp.2.1 rfl rfl (Nat.le_of_ble_eq_true rfl) (hm_50) kk) ?_
      replace hmt := hmt_50
      replace hrp := hrp_50
      replace hx := x_at.keep hx ee_50.1 (ee_50.2.2 0 (by decide))
      replace hB := hB.keep ee_50.1 (fun j _ _ => ee_50.2.2 j (by omega))
      replace hcl := cl_keep hcl ee_50.1 (fun j _ _ => ee_50.2.2 j (by omega))
      replace htl := (ee_50.2.2 306 (by decide)).trans htl
      refine wq (fun _ _ kk => rs_iconst (v := 0) (pc := 53) dX11_tallyHouses_53 rfl kk) ?_
      refine wq (fun _ _ kk => wk_ist5 (pc := 54) dX11_tallyHouses_54 (by decide) rfl kk) ?_
      refine l1_X11_tallyHouses (h := h) (gh := gh) (hh := hh) hok hG ha hled ?_ (z + 1) 0 t _ (by omega) (by omega) (E0.trans (fr2.a (fr.up (lo := 294) (hi := 297) ee_50 (by decide) (by decide)))) hx hB hcl hmt hrp htl htc
      clear E0 hx hB hcl hmt hrp htl htc
      intro g t R E0 hx hB hcl hmt hrp htl htc
      refine wq (fun _ _ kk => wk_iinc4 (v := nI (a + 1)) (pc := 105) dX11_tallyHouses_105 (by decide) rfl (nI_1 a) kk) ?_
      refine wq (fun _ _ kk => rs_goto (tgt := 15) (pc := 108) dX11_tallyHouses_108 rfl kk) ?_
      exact ih (a + 1) t _ g R (by omega) (by omega) E0 hx hB hcl hmt hrp htl htc
set_option maxRecDepth 100000 in
set_option maxHeartbeats 4000000 in
theorem c_X11_tallyHouses {h : ai_H} {tb lm : Int32} {B : Bk} {ln : Nat} {wk gh hh : Int32} (hx : x_at h tb lm) (hB : bk_at h 1 B) (hok : bk_ok B ln) {S0 R0 : Md} {T0 : Nat → Ty} {t0 : Ty} (hcl : cl_at h S0) (hmt : mt_at h T0) (hrp : rp_at h R0) (htl : h.2.2 306 = ty_cell t0) : ai_QM MX11_tallyHouses [.ref 0, .int gh, .int hh, .int wk] h (fun r g => r = none ∧ ∃ S z, GI B wk S (nR B) z ∧ fr2 h g ∧ x_at g tb lm ∧ bk_at g 1 B ∧ cl_at g S ∧ mt_at g (mt_F S z) ∧ (∃ R, rp_at g R) ∧ ∃ t, g.2.2 306 = ty_cell t ∧ tcL B wk (LM B wk S z) t (LC B wk (LM B wk S z) gh hh S z (lgI z (nO B) 0 0))) := by
  refine qm_of (ls := [.ref 0, .int gh, .int hh, .int wk, .float 0, .float 0]) (by decide) (by simp [ai_en, Value.category]) (by rfl) ?_
  refine wq (fun _ _ kk => rs_aload_n (pc := 0) dX11_tallyHouses_0 rfl kk) ?_
  refine wq (fun _ _ kk => rs_iload_n (pc := 1) dX11_tallyHouses_1 rfl kk) ?_
  obtain ⟨rv_2, hc_2, ⟨rfl, ee_2, S, z, hG, hcl_2, hmt_2⟩, hm_2⟩ := c_X11_measure hx hB hok hcl hmt wk
  refine wq (fun _ _ kk => rs_callV (as := [_]) (pc := 2) dX11_tallyHouses_2 mk_X11_measure mlX11_183 in_X11_measure se_X11_measure rfl (x_lt hx (by decide)) hx.2 rfl rfl (Nat.le_of_ble_eq_true rfl) (hm_2) kk) ?_
  replace hcl := hcl_2
  replace hmt := hmt_2
  replace hx := x_at.keep hx ee_2.1 (ee_2.2.2 0 (by decide))
  replace hB := hB.keep ee_2.1 (fun j _ _ => ee_2.2.2 j (by omega))
  replace hrp := rp_keep hrp ee_2.1 (fun j _ _ => ee_2.2.2 j (by omega))
  replace htl := (ee_2.2.2 306 (by decide)).trans htl
  refine wq (fun _ _ kk => rs_aload_n (pc := 5) dX11_tallyHouses_5 rfl kk) ?_
  refine wq (fun _ _ kk => rs_getf (pc := 6) dX11_tallyHouses_6 fX11_93 (x_lt hx (by decide)) hx.2 rfl kk) ?_
  obtain ⟨rv_9, hc_9, ⟨rfl, ee_9, htl_9⟩, hm_9⟩ := q_clear hx htl
  refine wq (fun _ _ kk => rs_callV (as := []) (pc := 9) dX11_tallyHouses_9 mk_X9_clear mlX11_317 in_X9_clear se_X9_clear rfl (x_lt hx (by decide)) htl rfl rfl (Nat.le_of_ble_eq_true rfl) (hm_9) kk) ?_
  replace htl := htl_9
  replace hx := x_at.keep hx ee_9.1 (ee_9.2.2 0 (by decide))
  replace hB := hB.keep ee_9.1 (fun j _ _ => ee_9.2.2 j (by omega))
  replace hcl := cl_keep hcl ee_9.1 (fun j _ _ => ee_9.2.2 j (by omega))
  replace hmt := mt_keep hmt ee_9.1 (fun j _ _ => ee_9.2.2 j (by omega))
  replace hrp := rp_keep hrp ee_9.1 (fun j _ _ => ee_9.2.2 j (by omega))
  refine wq (fun _ _ kk => rs_iconst (v := 0) (pc := 12) dX11_tallyHouses_12 rfl kk) ?_
  refine wq (fun _ _ kk => wk_ist4 (pc := 13) dX11_tallyHouses_13 (by decide) rfl kk) ?_
  refine wq_mono ?_ (l2_X11_tallyHouses (h := h) (gh := gh) (hh := hh) hok hG (nO B + 1) 0 _ _ _ R0 (by omega) (by omega) ((fr2.a (ee_2.up (by decide) (by decide))).trans (fr2.b ee_9)) hx hB hcl hmt hrp htl (by rw [show lgI z 0 0 0 = 0 from by unfold lgI; rw [Nat.zero_mul, Nat.add_zero, Nat.zero_mul]]; exact ⟨rfl, rfl⟩))
  rintro r g ⟨a1, a2⟩
  exact ⟨a1, S, z, hG, a2⟩
def uu_long (B : Bk) (wk : Int32) (U : Nat → List Int) (L : List (((Int32 × Int32 × Int32) × Int32) × ((Int32 × Int32 × Int32) × Int32))) (x : Int32) : Int32 := if x = 1 then nI L.length else if L.length = 0 then -1000000000 else aI (zsum (L.map (lgV B wk U)) / (L.length : Int))
theorem long_b {B : Bk} {ln : Nat} (hok : bk_ok B ln) {wk g h : Int32} {U : Nat → List Int} (hl : lrow U) {L : List (((Int32 × Int32 × Int32) × Int32) × ((Int32 × Int32 × Int32) × Int32))} (hL : ∀ k, k ∈ L → lgQ B wk U g h k = true ∧ k.1.2.toNatClampNeg < nO B) (hlen : L.length ≤ 100000000) : -34669800000000000 ≤ zsum (L.map (lgV B wk U)) ∧ zsum (L.map (lgV B wk U)) ≤ 34669800000000000 := by
  have hn := hok.2.1.2.1
  have h1 : ∀ x, x ∈ L.map (lgV B wk U) → -346698000 ≤ x ∧ x ≤ 346698000 := by
    intro x hx
    obtain ⟨k, k1, k2⟩ := List.mem_map.1 hx
    obtain ⟨q1, q2⟩ := hL k k1
    have q3 := of_decide_eq_true q1
    have b1 := zmn_b hok (k := k.1) q3.1
    have b2 := zmn_b hok (k := k.2) q3.2.1
    have b3 := zle_b hl (x := k.2.2.toNatClampNeg) hn q2
    unfold lgV at k2
    omega
  have b := zsum_b h1
  rw [List.length_map] at b
  omega
theorem lgI_top {n z t : Nat} (h : t < lgI z n 0 0) : ∃ a c i, a < n ∧ c < z ∧ i < z ∧ t = lgI z a c i := by
  unfold lgI at h
  rw [Nat.add_zero, Nat.add_zero] at h
  have hz : 0 < z := by
    rcases Nat.eq_zero_or_pos z with e | e
    · subst e; rw [Nat.mul_zero] at h; omega
    · exact e
  refine ⟨t / z / z, t / z % z, t % z, ?_, Nat.mod_lt _ hz, Nat.mod_lt _ hz, ?_⟩
  · apply Nat.div_lt_of_lt_mul
    apply Nat.div_lt_of_lt_mul
    rw [Nat.mul_comm z n, Nat.mul_comm z (n * z)]
    exact h
  · unfold lgI
    have e2 := Nat.div_add_mod t z
    have e3 := Nat.div_add_mod (t / z) z
    rw [Nat.mul_comm (t / z / z) z, e3, Nat.mul_comm (t / z) z, e2]
theorem lgI_lt {n z a c i : Nat} (ha : a < n) (hc : c < z) (hi : i < z) : lgI z a c i < lgI z n 0 0 := by
  unfold lgI
  rw [Nat.add_zero, Nat.add_zero]
  have h1 : a * z + c + 1 ≤ n * z := by
    have : (a + 1) * z ≤ n * z := Nat.mul_le_mul_right z ha
    rw [Nat.add_mul] at this
    omega
  have : (a * z + c + 1) * z ≤ n * z * z := Nat.mul_le_mul_right z h1
  rw [Nat.add_mul _ 1] at this
  omega
theorem LC_perm {B : Bk} {ln : Nat} (hok : bk_ok B ln) {wk g h : Int32} {U : Nat → List Int} {S T : Md} {z q : Nat} (hG : GI B wk S (nR B) z) (hS : SI B wk T (nR B) (nR B) q) : (LC B wk U g h S z (lgI z (nO B) 0 0)).Perm (LD B wk U g h T q (q * q)) := by
  refine (List.perm_ext_iff_of_nodup ?_ ?_).2 (fun k => ?_)
  · refine lst_nodup _ (fun t u ht hu pt pu e => ?_)
    obtain ⟨a, c, i, ha, hc, hi, rfl⟩ := lgI_top ht
    obtain ⟨a', c', i', ha', hc', hi', rfl⟩ := lgI_top hu
    rw [kL_at hc hi, kL_at hc' hi'] at e
    rw [lgP_at hc hi, Bool.and_eq_true, decide_eq_true_eq] at pt
    rw [lgP_at hc' hi', Bool.and_eq_true, decide_eq_true_eq] at pu
    unfold kP at e
    simp only [Prod.mk.injEq] at e
    have hn := hok.2.1.2.1
    have e1 := cell_inj hG hc hc' e.1.1 e.1.2
    have e2 := cell_inj hG hi hi' e.2.1 e.2.2
    have e3 := nI_inj (by omega) (by omega) (pt.1.symm.trans (e.1.2.trans pu.1))
    rw [e1, e2, e3]
  · refine lst_nodup _ (fun t u ht hu _ _ e => ?_)
    obtain ⟨l1, l2⟩ := pair_lt ht
    obtain ⟨m1, m2⟩ := pair_lt hu
    simp only [Prod.mk.injEq, kT] at e
    have e1 := sight_inj hS l1 m1 e.1.2 e.1.1
    have e2 := sight_inj hS l2 m2 e.2.2 e.2.1
    have x1 := Nat.div_add_mod t q
    have x2 := Nat.div_add_mod u q
    rw [← e1, ← e2] at x2
    omega
  · unfold LC LD
    rw [mem_lst, mem_lst]
    constructor
    · rintro ⟨t, t1, t2, t3⟩
      unfold lgP at t2
      rw [Bool.and_eq_true, t3] at t2
      replace t2 := t2.2
      have t4 := of_decide_eq_true t2
      obtain ⟨i, i1, i2, i3⟩ := sight_of hS t4.1
      obtain ⟨j, j1, j2, j3⟩ := sight_of hS t4.2.1
      obtain ⟨p1, p2⟩ := pair_mk (i := i) j1
      have e : (kT T ((i * q + j) / q), kT T ((i * q + j) % q)) = k := by
        rw [p1, p2]
        exact Prod.ext (Prod.ext i3 i2) (Prod.ext j3 j2)
      exact ⟨i * q + j, pair_bd i1 j1, by rw [e]; exact t2, e⟩
    · rintro ⟨t, t1, t2, t3⟩
      rw [t3] at t2
      have t4 := of_decide_eq_true t2
      obtain ⟨c, c1, c2, c3⟩ := cell_of hG t4.1
      obtain ⟨i, i1, i2, i3⟩ := cell_of hG t4.2.1
      obtain ⟨⟨a, a1, a2⟩, -⟩ := zc_obs hok t4.1
      have e : kL S z (lgI z a c i) = k := by
        rw [kL_at c1 i1]
        exact Prod.ext (Prod.ext c2 c3) (Prod.ext i2 i3)
      have e2 : (kP S c, kP S i) = k := by rw [← kL_at (a := a) c1 i1]; exact e
      exact ⟨_, lgI_lt a1 c1 i1, by rw [lgP_at c1 i1, Bool.and_eq_true, decide_eq_true_eq, e2]; exact ⟨c3.trans a2, t2⟩, e⟩
theorem LC_ok {B : Bk} {ln : Nat} (hok : bk_ok B ln) {wk g h : Int32} {U : Nat → List Int} {S : Md} {z : Nat} (hG : GI B wk S (nR B) z) : (∀ k, k ∈ LC B wk U g h S z (lgI z (nO B) 0 0) → lgQ B wk U g h k = true ∧ k.1.2.toNatClampNeg < nO B) ∧ (LC B wk U g h S z (lgI z (nO B) 0 0)).length ≤ 100000000 := by
  have hn := hok.2.1.2.1
  have hz := hG.1.2.1
  refine ⟨fun k hk => ?_, ?_⟩
  · obtain ⟨t, t1, t2, t3⟩ := (mem_lst _).1 hk
    unfold lgP at t2
    rw [Bool.and_eq_true, t3] at t2
    replace t2 := t2.2
    obtain ⟨⟨a, a1, a2⟩, -⟩ := zc_obs hok (of_decide_eq_true t2).1
    exact ⟨t2, by rw [a2, nI_clamp (by omega)]; exact a1⟩
  · unfold LC
    rw [lst_len]
    refine Nat.le_trans (cN_le _ _) ?_
    unfold lgI
    rw [Nat.add_zero, Nat.add_zero]
    have h1 : nO B * z ≤ 16 * 400 := Nat.mul_le_mul hn hz
    have h2 : nO B * z * z ≤ 16 * 400 * 400 := Nat.mul_le_mul h1 hz
    omega
theorem long_perm {B : Bk} {wk : Int32} {U : Nat → List Int} {L M : List (((Int32 × Int32 × Int32) × Int32) × ((Int32 × Int32 × Int32) × Int32))} (h : L.Perm M) (x : Int32) : uu_long B wk U L x = uu_long B wk U M x := by
  unfold uu_long
  rw [h.length_eq, zsum_perm (h.map _)]
theorem dX11_longitude_0 : decode cX11_longitude 0 = .ok (.iload_n 1, 1) := by decide +kernel
theorem dX11_longitude_1 : decode cX11_longitude 1 = .ok (.invokestatic 125, 3) := by decide +kernel
theorem dX11_longitude_4 : decode cX11_longitude 4 = .ok (.ifCond .eq 26, 3) := by decide +kernel
theorem dX11_longitude_7 : decode cX11_longitude 7 = .ok (.iload_n 2, 1) := by decide +kernel
theorem dX11_longitude_8 : decode cX11_longitude 8 = .ok (.invokestatic 125, 3) := by decide +kernel
theorem dX11_longitude_11 : decode cX11_longitude 11 = .ok (.ifCond .eq 19, 3) := by decide +kernel
theorem dX11_longitude_14 : decode cX11_longitude 14 = .ok (.iload_n 1, 1) := by decide +kernel
theorem dX11_longitude_15 : decode cX11_longitude 15 = .ok (.iload_n 2, 1) := by decide +kernel
theorem dX11_longitude_16 : decode cX11_longitude 16 = .ok (.if_icmp .eq 14, 3) := by decide +kernel
theorem dX11_longitude_19 : decode cX11_longitude 19 = .ok (.iload_n 3, 1) := by decide +kernel
theorem dX11_longitude_20 : decode cX11_longitude 20 = .ok (.invokestatic 97, 3) := by decide +kernel
theorem dX11_longitude_23 : decode cX11_longitude 23 = .ok (.ifCond .eq 7, 3) := by decide +kernel
theorem dX11_longitude_26 : decode cX11_longitude 26 = .ok (.iconst 1, 1) := by decide +kernel
theorem dX11_longitude_27 : decode cX11_longitude 27 = .ok (.goto 4, 3) := by decide +kernel
theorem dX11_longitude_30 : decode cX11_longitude 30 = .ok (.iconst 0, 1) := by decide +kernel
theorem dX11_longitude_31 : decode cX11_longitude 31 = .ok (.istore 5, 2) := by decide +kernel
theorem dX11_longitude_33 : decode cX11_longitude 33 = .ok (.iload 5, 2) := by decide +kernel
theorem dX11_longitude_35 : decode cX11_longitude 35 = .ok (.ifCond .eq 13, 3) := by decide +kernel
theorem dX11_longitude_38 : decode cX11_longitude 38 = .ok (.iload 4, 2) := by decide +kernel
theorem dX11_longitude_40 : decode cX11_longitude 40 = .ok (.iconst 0, 1) := by decide +kernel
theorem dX11_longitude_41 : decode cX11_longitude 41 = .ok (.iconst 1, 1) := by decide +kernel
theorem dX11_longitude_42 : decode cX11_longitude 42 = .ok (.invokestatic 104, 3) := by decide +kernel
theorem dX11_longitude_45 : decode cX11_longitude 45 = .ok (.ifCond .ne 6, 3) := by decide +kernel
theorem dX11_longitude_48 : decode cX11_longitude 48 = .ok (.ldc 182, 2) := by decide +kernel
theorem dX11_longitude_50 : decode cX11_longitude 50 = .ok (.ireturn, 1) := by decide +kernel
theorem dX11_longitude_51 : decode cX11_longitude 51 = .ok (.aload_n 0, 1) := by decide +kernel
theorem dX11_longitude_52 : decode cX11_longitude 52 = .ok (.iload_n 1, 1) := by decide +kernel
theorem dX11_longitude_53 : decode cX11_longitude 53 = .ok (.iload_n 2, 1) := by decide +kernel
theorem dX11_longitude_54 : decode cX11_longitude 54 = .ok (.iload_n 3, 1) := by decide +kernel
theorem dX11_longitude_55 : decode cX11_longitude 55 = .ok (.invokevirtual 263, 3) := by decide +kernel
theorem dX11_longitude_58 : decode cX11_longitude 58 = .ok (.iload 4, 2) := by decide +kernel
theorem dX11_longitude_60 : decode cX11_longitude 60 = .ok (.iconst 1, 1) := by decide +kernel
theorem dX11_longitude_61 : decode cX11_longitude 61 = .ok (.if_icmp .ne 11, 3) := by decide +kernel
theorem dX11_longitude_64 : decode cX11_longitude 64 = .ok (.aload_n 0, 1) := by decide +kernel
theorem dX11_longitude_65 : decode cX11_longitude 65 = .ok (.getfield 93, 3) := by decide +kernel
theorem dX11_longitude_68 : decode cX11_longitude 68 = .ok (.getfield 150, 3) := by decide +kernel
theorem dX11_longitude_71 : decode cX11_longitude 71 = .ok (.ireturn, 1) := by decide +kernel
theorem dX11_longitude_72 : decode cX11_longitude 72 = .ok (.aload_n 0, 1) := by decide +kernel
theorem dX11_longitude_73 : decode cX11_longitude 73 = .ok (.getfield 93, 3) := by decide +kernel
theorem dX11_longitude_76 : decode cX11_longitude 76 = .ok (.getfield 150, 3) := by decide +kernel
theorem dX11_longitude_79 : decode cX11_longitude 79 = .ok (.ifCond .ne 8, 3) := by decide +kernel
theorem dX11_longitude_82 : decode cX11_longitude 82 = .ok (.ldc 145, 2) := by decide +kernel
theorem dX11_longitude_84 : decode cX11_longitude 84 = .ok (.goto 11, 3) := by decide +kernel
theorem dX11_longitude_87 : decode cX11_longitude 87 = .ok (.aload_n 0, 1) := by decide +kernel
theorem dX11_longitude_88 : decode cX11_longitude 88 = .ok (.getfield 93, 3) := by decide +kernel
theorem dX11_longitude_91 : decode cX11_longitude 91 = .ok (.invokevirtual 190, 3) := by decide +kernel
theorem dX11_longitude_94 : decode cX11_longitude 94 = .ok (.l2i, 1) := by decide +kernel
theorem dX11_longitude_95 : decode cX11_longitude 95 = .ok (.ireturn, 1) := by decide +kernel
set_option maxRecDepth 100000 in
set_option maxHeartbeats 4000000 in
theorem c_X11_longitude {h : ai_H} {tb lm : Int32} {B : Bk} {ln : Nat} (hx : x_at h tb lm) (hB : bk_at h 1 B) (hok : bk_ok B ln) (hs : scr h) (gg hh k x : Int32) : ai_QM MX11_longitude [.ref 0, .int gg, .int hh, .int k, .int x] h (fun r g => fr 22 306 h g ∧ scr g ∧ (((bi_in gg 0 3 = 0 ∨ bi_in hh 0 3 = 0 ∨ gg = hh ∨ bi_in k 0 9999 = 0 ∨ bi_in x 0 1 = 0) ∧ r = some (.int (-2000000000))) ∨ (¬ (bi_in gg 0 3 = 0 ∨ bi_in hh 0 3 = 0 ∨ gg = hh ∨ bi_in k 0 9999 = 0 ∨ bi_in x 0 1 = 0) ∧ ∃ S z, GI B k S (nR B) z ∧ r = some (.int (uu_long B k (LM B k S z) (LC B k (LM B k S z) gg hh S z (lgI z (nO B) 0 0)) x))))) := by
  obtain ⟨-, -, -, ⟨S0, hcl⟩, ⟨T0, hmt⟩, ⟨R0, hrp⟩, -, -, ⟨t0, htl⟩⟩ := id hs
  refine qm_of (ls := [.ref 0, .int gg, .int hh, .int k, .int x, .float 0]) (by decide) (by simp [ai_en, Value.category]) (by rfl) ?_
  refine wq (fun _ _ kk => rs_iload_n (pc := 0) dX11_longitude_0 rfl kk) ?_
  refine wq (fun _ _ kk => rs_callS (as := [_]) (pc := 1) dX11_longitude_1 mk_X11_isHouse mlX11_125 st_X11_isHouse rfl rfl (Nat.le_of_ble_eq_true rfl) (c_X11_isHouse _) kk) ?_
  refine wq_br (fun _ _ kt kf => rs_if_eq (tgt := 30) (pc := 4) dX11_longitude_4 rfl kt kf) (fun c_4 => ?_) (fun c_4 => ?_)
  · refine wq (fun _ _ kk => rs_iconst (v := 0) (pc := 30) dX11_longitude_30 rfl kk) ?_
    refine wq (fun _ _ kk => wk_ist5 (pc := 31) dX11_longitude_31 (by decide) rfl kk) ?_
    refine wq (fun _ _ kk => rs_iload (pc := 33) dX11_longitude_33 rfl kk) ?_
    refine wq_br (fun _ _ kt kf => rs_if_eq (tgt := 48) (pc := 35) dX11_longitude_35 rfl kt kf) (fun c_35 => ?_) (fun c_35 => absurd c_35 (by decide))
    refine wq (fun _ _ kk => rs_ldc (pc := 48) dX11_longitude_48 cnX11_182 kk) ?_
    refine wq_ret ?_ (rs_iret (pc := 50) dX11_longitude_50 rfl)
    exact ⟨fr.rf, hs, Or.inl ⟨by first | exact Or.inl c_4 | exact Or.inr (Or.inl c_11) | exact Or.inr (Or.inr (Or.inl c_16)) | exact Or.inr (Or.inr (Or.inr (Or.inl c_23))) | exact Or.inr (Or.inr (Or.inr (Or.inr c_45))), rfl⟩⟩
  · refine wq (fun _ _ kk => rs_iload_n (pc := 7) dX11_longitude_7 rfl kk) ?_
    refine wq (fun _ _ kk => rs_callS (as := [_]) (pc := 8) dX11_longitude_8 mk_X11_isHouse mlX11_125 st_X11_isHouse rfl rfl (Nat.le_of_ble_eq_true rfl) (c_X11_isHouse _) kk) ?_
    refine wq_br (fun _ _ kt kf => rs_if_eq (tgt := 30) (pc := 11) dX11_longitude_11 rfl kt kf) (fun c_11 => ?_) (fun c_11 => ?_)
    · refine wq (fun _ _ kk => rs_iconst (v := 0) (pc := 30) dX11_longitude_30 rfl kk) ?_
      refine wq (fun _ _ kk => wk_ist5 (pc := 31) dX11_longitude_31 (by decide) rfl kk) ?_
      refine wq (fun _ _ kk => rs_iload (pc := 33) dX11_longitude_33 rfl kk) ?_
      refine wq_br (fun _ _ kt kf => rs_if_eq (tgt := 48) (pc := 35) dX11_longitude_35 rfl kt kf) (fun c_35 => ?_) (fun c_35 => absurd c_35 (by decide))
      refine wq (fun _ _ kk => rs_ldc (pc := 48) dX11_longitude_48 cnX11_182 kk) ?_
      refine wq_ret ?_ (rs_iret (pc := 50) dX11_longitude_50 rfl)
      exact ⟨fr.rf, hs, Or.inl ⟨by first | exact Or.inl c_4 | exact Or.inr (Or.inl c_11) | exact Or.inr (Or.inr (Or.inl c_16)) | exact Or.inr (Or.inr (Or.inr (Or.inl c_23))) | exact Or.inr (Or.inr (Or.inr (Or.inr c_45))), rfl⟩⟩
    · refine wq (fun _ _ kk => rs_iload_n (pc := 14) dX11_longitude_14 rfl kk) ?_
      refine wq (fun _ _ kk => rs_iload_n (pc := 15) dX11_longitude_15 rfl kk) ?_
      refine wq_br (fun _ _ kt kf => rs_icmp_eq (tgt := 30) (pc := 16) dX11_longitude_16 rfl kt kf) (fun c_16 => ?_) (fun c_16 => ?_)
      · refine wq (fun _ _ kk => rs_iconst (v := 0) (pc := 30) dX11_longitude_30 rfl kk) ?_
        refine wq (fun _ _ kk => wk_ist5 (pc := 31) dX11_longitude_31 (by decide) rfl kk) ?_
        refine wq (fun _ _ kk => rs_iload (pc := 33) dX11_longitude_33 rfl kk) ?_
        refine wq_br (fun _ _ kt kf => rs_if_eq (tgt := 48) (pc := 35) dX11_longitude_35 rfl kt kf) (fun c_35 => ?_) (fun c_35 => absurd c_35 (by decide))
        refine wq (fun _ _ kk => rs_ldc (pc := 48) dX11_longitude_48 cnX11_182 kk) ?_
        refine wq_ret ?_ (rs_iret (pc := 50) dX11_longitude_50 rfl)
        exact ⟨fr.rf, hs, Or.inl ⟨by first | exact Or.inl c_4 | exact Or.inr (Or.inl c_11) | exact Or.inr (Or.inr (Or.inl c_16)) | exact Or.inr (Or.inr (Or.inr (Or.inl c_23))) | exact Or.inr (Or.inr (Or.inr (Or.inr c_45))), rfl⟩⟩
      · refine wq (fun _ _ kk => rs_iload_n (pc := 19) dX11_longitude_19 rfl kk) ?_
        refine wq (fun _ _ kk => rs_callS (as := [_]) (pc := 20) dX11_longitude_20 mk_X11_isWeek mlX11_97 st_X11_isWeek rfl rfl (Nat.le_of_ble_eq_true rfl) (c_X11_isWeek _) kk) ?_
        refine wq_br (fun _ _ kt kf => rs_if_eq (tgt := 30) (pc := 23) dX11_longitude_23 rfl kt kf) (fun c_23 => ?_) (fun c_23 => ?_)
        · refine wq (fun _ _ kk => rs_iconst (v := 0) (pc := 30) dX11_longitude_30 rfl kk) ?_
          refine wq (fun _ _ kk => wk_ist5 (pc := 31) dX11_longitude_31 (by decide) rfl kk) ?_
          refine wq (fun _ _ kk => rs_iload (pc := 33) dX11_longitude_33 rfl kk) ?_
          refine wq_br (fun _ _ kt kf => rs_if_eq (tgt := 48) (pc := 35) dX11_longitude_35 rfl kt kf) (fun c_35 => ?_) (fun c_35 => absurd c_35 (by decide))
          refine wq (fun _ _ kk => rs_ldc (pc := 48) dX11_longitude_48 cnX11_182 kk) ?_
          refine wq_ret ?_ (rs_iret (pc := 50) dX11_longitude_50 rfl)
          exact ⟨fr.rf, hs, Or.inl ⟨by first | exact Or.inl c_4 | exact Or.inr (Or.inl c_11) | exact Or.inr (Or.inr (Or.inl c_16)) | exact Or.inr (Or.inr (Or.inr (Or.inl c_23))) | exact Or.inr (Or.inr (Or.inr (Or.inr c_45))), rfl⟩⟩
        · refine wq (fun _ _ kk => rs_iconst (v := 1) (pc := 26) dX11_longitude_26 rfl kk) ?_
          refine wq (fun _ _ kk => rs_goto (tgt := 31) (pc := 27) dX11_longitude_27 rfl kk) ?_
          refine wq (fun _ _ kk => wk_ist5 (pc := 31) dX11_longitude_31 (by decide) rfl kk) ?_
          refine wq (fun _ _ kk => rs_iload (pc := 33) dX11_longitude_33 rfl kk) ?_
          refine wq_br (fun _ _ kt kf => rs_if_eq (tgt := 48) (pc := 35) dX11_longitude_35 rfl kt kf) (fun c_35 => absurd c_35 (by decide)) (fun c_35 => ?_)
          refine wq (fun _ _ kk => rs_iload (pc := 38) dX11_longitude_38 rfl kk) ?_
          refine wq (fun _ _ kk => rs_iconst (v := 0) (pc := 40) dX11_longitude_40 rfl kk) ?_
          refine wq (fun _ _ kk => rs_iconst (v := 1) (pc := 41) dX11_longitude_41 rfl kk) ?_
          refine wq (fun _ _ kk => rs_callS (as := [_, _, _]) (pc := 42) dX11_longitude_42 mk_X11_isWithin mlX11_104 st_X11_isWithin rfl rfl (Nat.le_of_ble_eq_true rfl) (c_X11_isWithin) kk) ?_
          refine wq_bn (fun _ _ kt kf => rs_if_ne (tgt := 51) (pc := 45) dX11_longitude_45 rfl kt kf) (fun c_45 => ?_) (fun c_45 => ?_)
          · refine wq (fun _ _ kk => rs_aload_n (pc := 51) dX11_longitude_51 rfl kk) ?_
            refine wq (fun _ _ kk => rs_iload_n (pc := 52) dX11_longitude_52 rfl kk) ?_
            refine wq (fun _ _ kk => rs_iload_n (pc := 53) dX11_longitude_53 rfl kk) ?_
            refine wq (fun _ _ kk => rs_iload_n (pc := 54) dX11_longitude_54 rfl kk) ?_
            have hgu : ¬ (bi_in gg 0 3 = 0 ∨ bi_in hh 0 3 = 0 ∨ gg = hh ∨ bi_in k 0 9999 = 0 ∨ bi_in x 0 1 = 0) := by rintro (q | q | q | q | q); exact c_4 q; exact c_11 q; exact c_16 q; exact c_23 q; exact c_45 q
            obtain ⟨rv_55, hc_55, ⟨rfl, S, z, hG, ee_55, hx_55, hB_55, hcl_55, hmt_55, ⟨R, hrp_55⟩, t, htl_55, htc⟩, hm_55⟩ := c_X11_tallyHouses (gh := gg) (hh := hh) (wk := k) hx hB hok hcl hmt hrp htl
            refine wq (fun _ _ kk => rs_callV (as := [_, _, _]) (pc := 55) dX11_longitude_55 mk_X11_tallyHouses mlX11_263 in_X11_tallyHouses se_X11_tallyHouses rfl (x_lt hx (by decide)) hx.2 rfl rfl (Nat.le_of_ble_eq_true rfl) (hm_55) kk) ?_
            replace hcl := hcl_55
            replace hmt := hmt_55
            replace hrp := hrp_55
            replace htl := htl_55
            replace hx := hx_55
            replace hB := hB_55
            obtain ⟨hlr, htr⟩ := LM_rows hok hG
            obtain ⟨hL1, hL2⟩ := LC_ok (g := gg) (h := hh) (U := LM B k S z) hok hG
            have hLb := long_b hok hlr hL1 hL2
            refine wq (fun _ _ kk => rs_iload (pc := 58) dX11_longitude_58 rfl kk) ?_
            refine wq (fun _ _ kk => rs_iconst (v := 1) (pc := 60) dX11_longitude_60 rfl kk) ?_
            refine wq_bn (fun _ _ kt kf => rs_icmp_ne (tgt := 72) (pc := 61) dX11_longitude_61 rfl kt kf) (fun c_61 => ?_) (fun c_61 => ?_)
            · refine wq (fun _ _ kk => rs_aload_n (pc := 72) dX11_longitude_72 rfl kk) ?_
              refine wq (fun _ _ kk => rs_getf (pc := 73) dX11_longitude_73 fX11_93 (x_lt hx (by decide)) hx.2 rfl kk) ?_
              refine wq (fun _ _ kk => rs_getf (pc := 76) dX11_longitude_76 fX11_150 (x_lt hx (by decide)) htl rfl kk) ?_
              refine wq_bn (fun _ _ kt kf => rs_if_ne (tgt := 87) (pc := 79) dX11_longitude_79 rfl kt kf) (fun c_79 => ?_) (fun c_79 => ?_)
              · refine wq (fun _ _ kk => rs_aload_n (pc := 87) dX11_longitude_87 rfl kk) ?_
                refine wq (fun _ _ kk => rs_getf (pc := 88) dX11_longitude_88 fX11_93 (x_lt hx (by decide)) hx.2 rfl kk) ?_
                refine wq (fun _ _ kk => rs_callV (as := []) (pc := 91) dX11_longitude_91 mk_X9_mean mlX11_190 in_X9_mean se_X9_mean rfl (x_lt hx (by decide)) htl rfl rfl (Nat.le_of_ble_eq_true rfl) (c_X9_mean (x_lt hx (by decide)) htl) kk) ?_
                refine wq (fun _ _ kk => rs_l2i (pc := 94) dX11_longitude_94 kk) ?_
                refine wq_ret ?_ (rs_iret (pc := 95) dX11_longitude_95 rfl)
                exact ⟨ee_55.f, hs.two ee_55 ⟨_, hcl⟩ ⟨_, hmt⟩ ⟨_, hrp⟩ ⟨_, htl⟩, Or.inr ⟨hgu, S, z, hG, by unfold uu_long; rw [if_neg c_61]; first | (rw [if_pos (by have z := c_79; rw [htc.1, nI_z (by omega)] at z; exact z)]; done) | (have z := c_79; rw [htc.1, nI_z (by omega)] at z; rw [if_neg z]; unfold ty_mean; rw [htc.1, if_neg (by rw [nI_z (by omega)]; exact z), htc.2, nI_i2l (by omega), aL_fd (by omega) (by omega) (by omega) (by omega), aL_l2i])⟩⟩
              · refine wq (fun _ _ kk => rs_ldc (pc := 82) dX11_longitude_82 cnX11_145 kk) ?_
                refine wq (fun _ _ kk => rs_goto (tgt := 95) (pc := 84) dX11_longitude_84 rfl kk) ?_
                refine wq_ret ?_ (rs_iret (pc := 95) dX11_longitude_95 rfl)
                exact ⟨ee_55.f, hs.two ee_55 ⟨_, hcl⟩ ⟨_, hmt⟩ ⟨_, hrp⟩ ⟨_, htl⟩, Or.inr ⟨hgu, S, z, hG, by unfold uu_long; rw [if_neg c_61]; first | (rw [if_pos (by have z := c_79; rw [htc.1, nI_z (by omega)] at z; exact z)]; done) | (have z := c_79; rw [htc.1, nI_z (by omega)] at z; rw [if_neg z]; unfold ty_mean; rw [htc.1, if_neg (by rw [nI_z (by omega)]; exact z), htc.2, nI_i2l (by omega), aL_fd (by omega) (by omega) (by omega) (by omega), aL_l2i])⟩⟩
            · refine wq (fun _ _ kk => rs_aload_n (pc := 64) dX11_longitude_64 rfl kk) ?_
              refine wq (fun _ _ kk => rs_getf (pc := 65) dX11_longitude_65 fX11_93 (x_lt hx (by decide)) hx.2 rfl kk) ?_
              refine wq (fun _ _ kk => rs_getf (pc := 68) dX11_longitude_68 fX11_150 (x_lt hx (by decide)) htl rfl kk) ?_
              refine wq_ret ?_ (rs_iret (pc := 71) dX11_longitude_71 rfl)
              exact ⟨ee_55.f, hs.two ee_55 ⟨_, hcl⟩ ⟨_, hmt⟩ ⟨_, hrp⟩ ⟨_, htl⟩, Or.inr ⟨hgu, S, z, hG, by unfold uu_long; rw [if_pos c_61, htc.1]⟩⟩
          · refine wq (fun _ _ kk => rs_ldc (pc := 48) dX11_longitude_48 cnX11_182 kk) ?_
            refine wq_ret ?_ (rs_iret (pc := 50) dX11_longitude_50 rfl)
            exact ⟨fr.rf, hs, Or.inl ⟨by first | exact Or.inl c_4 | exact Or.inr (Or.inl c_11) | exact Or.inr (Or.inr (Or.inl c_16)) | exact Or.inr (Or.inr (Or.inr (Or.inl c_23))) | exact Or.inr (Or.inr (Or.inr (Or.inr c_45))), rfl⟩⟩
theorem sight_nig {B : Bk} {ln : Nat} (hok : bk_ok B ln) {wk : Int32} {T : Md} {q c : Nat} (hS : SI B wk T (nR B) (nR B) q) (hc : c < q) : (∃ o, o < nO B ∧ T.2.2.1 41 c = nI o) ∧ ∃ n, n < nN B ∧ T.2.2.1 42 c = nI n := zc_obs hok (sight_pos hS hc)
theorem dX12_longitude_0 : decode cX12_longitude 0 = .ok (.iload_n 1, 1) := by decide +kernel
theorem dX12_longitude_1 : decode cX12_longitude 1 = .ok (.i2l, 1) := by decide +kernel
theorem dX12_longitude_2 : decode cX12_longitude 2 = .ok (.lconst 0, 1) := by decide +kernel
theorem dX12_longitude_3 : decode cX12_longitude 3 = .ok (.ldc2_w 208, 3) := by decide +kernel
theorem dX12_longitude_6 : decode cX12_longitude 6 = .ok (.invokestatic 181, 3) := by decide +kernel
theorem dX12_longitude_9 : decode cX12_longitude 9 = .ok (.ifCond .eq 38, 3) := by decide +kernel
theorem dX12_longitude_12 : decode cX12_longitude 12 = .ok (.iload_n 2, 1) := by decide +kernel
theorem dX12_longitude_13 : decode cX12_longitude 13 = .ok (.i2l, 1) := by decide +kernel
theorem dX12_longitude_14 : decode cX12_longitude 14 = .ok (.lconst 0, 1) := by decide +kernel
theorem dX12_longitude_15 : decode cX12_longitude 15 = .ok (.ldc2_w 208, 3) := by decide +kernel
theorem dX12_longitude_18 : decode cX12_longitude 18 = .ok (.invokestatic 181, 3) := by decide +kernel
theorem dX12_longitude_21 : decode cX12_longitude 21 = .ok (.ifCond .eq 26, 3) := by decide +kernel
theorem dX12_longitude_24 : decode cX12_longitude 24 = .ok (.iload_n 1, 1) := by decide +kernel
theorem dX12_longitude_25 : decode cX12_longitude 25 = .ok (.iload_n 2, 1) := by decide +kernel
theorem dX12_longitude_26 : decode cX12_longitude 26 = .ok (.if_icmp .eq 21, 3) := by decide +kernel
theorem dX12_longitude_29 : decode cX12_longitude 29 = .ok (.iload_n 3, 1) := by decide +kernel
theorem dX12_longitude_30 : decode cX12_longitude 30 = .ok (.invokestatic 230, 3) := by decide +kernel
theorem dX12_longitude_33 : decode cX12_longitude 33 = .ok (.ifCond .eq 14, 3) := by decide +kernel
theorem dX12_longitude_36 : decode cX12_longitude 36 = .ok (.iload 4, 2) := by decide +kernel
theorem dX12_longitude_38 : decode cX12_longitude 38 = .ok (.i2l, 1) := by decide +kernel
theorem dX12_longitude_39 : decode cX12_longitude 39 = .ok (.lconst 0, 1) := by decide +kernel
theorem dX12_longitude_40 : decode cX12_longitude 40 = .ok (.lconst 1, 1) := by decide +kernel
theorem dX12_longitude_41 : decode cX12_longitude 41 = .ok (.invokestatic 181, 3) := by decide +kernel
theorem dX12_longitude_44 : decode cX12_longitude 44 = .ok (.ifCond .ne 7, 3) := by decide +kernel
theorem dX12_longitude_47 : decode cX12_longitude 47 = .ok (.ldc_w 425, 3) := by decide +kernel
theorem dX12_longitude_50 : decode cX12_longitude 50 = .ok (.ireturn, 1) := by decide +kernel
theorem dX12_longitude_51 : decode cX12_longitude 51 = .ok (.aload_n 0, 1) := by decide +kernel
theorem dX12_longitude_52 : decode cX12_longitude 52 = .ok (.iload_n 3, 1) := by decide +kernel
theorem dX12_longitude_53 : decode cX12_longitude 53 = .ok (.invokevirtual 443, 3) := by decide +kernel
theorem dX12_longitude_56 : decode cX12_longitude 56 = .ok (.lconst 0, 1) := by decide +kernel
theorem dX12_longitude_57 : decode cX12_longitude 57 = .ok (.lstore 5, 2) := by decide +kernel
theorem dX12_longitude_59 : decode cX12_longitude 59 = .ok (.iconst 0, 1) := by decide +kernel
theorem dX12_longitude_60 : decode cX12_longitude 60 = .ok (.istore 7, 2) := by decide +kernel
theorem dX12_longitude_62 : decode cX12_longitude 62 = .ok (.iconst 0, 1) := by decide +kernel
theorem dX12_longitude_63 : decode cX12_longitude 63 = .ok (.istore 8, 2) := by decide +kernel
theorem dX12_longitude_65 : decode cX12_longitude 65 = .ok (.iload 8, 2) := by decide +kernel
theorem dX12_longitude_67 : decode cX12_longitude 67 = .ok (.aload_n 0, 1) := by decide +kernel
theorem dX12_longitude_68 : decode cX12_longitude 68 = .ok (.getfield 398, 3) := by decide +kernel
theorem dX12_longitude_71 : decode cX12_longitude 71 = .ok (.if_icmp .ge 201, 3) := by decide +kernel
theorem dX12_longitude_74 : decode cX12_longitude 74 = .ok (.iconst 0, 1) := by decide +kernel
theorem dX12_longitude_75 : decode cX12_longitude 75 = .ok (.istore 9, 2) := by decide +kernel
theorem dX12_longitude_77 : decode cX12_longitude 77 = .ok (.iload 9, 2) := by decide +kernel
theorem dX12_longitude_79 : decode cX12_longitude 79 = .ok (.aload_n 0, 1) := by decide +kernel
theorem dX12_longitude_80 : decode cX12_longitude 80 = .ok (.getfield 398, 3) := by decide +kernel
theorem dX12_longitude_83 : decode cX12_longitude 83 = .ok (.if_icmp .ge 183, 3) := by decide +kernel
theorem dX12_longitude_86 : decode cX12_longitude 86 = .ok (.aload_n 0, 1) := by decide +kernel
theorem dX12_longitude_87 : decode cX12_longitude 87 = .ok (.getfield 93, 3) := by decide +kernel
theorem dX12_longitude_90 : decode cX12_longitude 90 = .ok (.iload 8, 2) := by decide +kernel
theorem dX12_longitude_92 : decode cX12_longitude 92 = .ok (.iaload, 1) := by decide +kernel
theorem dX12_longitude_93 : decode cX12_longitude 93 = .ok (.istore 10, 2) := by decide +kernel
theorem dX12_longitude_95 : decode cX12_longitude 95 = .ok (.aload_n 0, 1) := by decide +kernel
theorem dX12_longitude_96 : decode cX12_longitude 96 = .ok (.getfield 93, 3) := by decide +kernel
theorem dX12_longitude_99 : decode cX12_longitude 99 = .ok (.iload 9, 2) := by decide +kernel
theorem dX12_longitude_101 : decode cX12_longitude 101 = .ok (.iaload, 1) := by decide +kernel
theorem dX12_longitude_102 : decode cX12_longitude 102 = .ok (.istore 11, 2) := by decide +kernel
theorem dX12_longitude_104 : decode cX12_longitude 104 = .ok (.bipush 16, 2) := by decide +kernel
theorem dX12_longitude_106 : decode cX12_longitude 106 = .ok (.aload_n 0, 1) := by decide +kernel
theorem dX12_longitude_107 : decode cX12_longitude 107 = .ok (.getfield 90, 3) := by decide +kernel
theorem dX12_longitude_110 : decode cX12_longitude 110 = .ok (.iload 9, 2) := by decide +kernel
theorem dX12_longitude_112 : decode cX12_longitude 112 = .ok (.iaload, 1) := by decide +kernel
theorem dX12_longitude_113 : decode cX12_longitude 113 = .ok (.imul, 1) := by decide +kernel
theorem dX12_longitude_114 : decode cX12_longitude 114 = .ok (.aload_n 0, 1) := by decide +kernel
theorem dX12_longitude_115 : decode cX12_longitude 115 = .ok (.getfield 90, 3) := by decide +kernel
theorem dX12_longitude_118 : decode cX12_longitude 118 = .ok (.iload 8, 2) := by decide +kernel
theorem dX12_longitude_120 : decode cX12_longitude 120 = .ok (.iaload, 1) := by decide +kernel
theorem dX12_longitude_121 : decode cX12_longitude 121 = .ok (.iadd, 1) := by decide +kernel
theorem dX12_longitude_122 : decode cX12_longitude 122 = .ok (.istore 12, 2) := by decide +kernel
theorem dX12_longitude_124 : decode cX12_longitude 124 = .ok (.aload_n 0, 1) := by decide +kernel
theorem dX12_longitude_125 : decode cX12_longitude 125 = .ok (.getfield 25, 3) := by decide +kernel
theorem dX12_longitude_128 : decode cX12_longitude 128 = .ok (.iload 10, 2) := by decide +kernel
theorem dX12_longitude_130 : decode cX12_longitude 130 = .ok (.iaload, 1) := by decide +kernel
theorem dX12_longitude_131 : decode cX12_longitude 131 = .ok (.iload_n 1, 1) := by decide +kernel
theorem dX12_longitude_132 : decode cX12_longitude 132 = .ok (.if_icmp .ne 80, 3) := by decide +kernel
theorem dX12_longitude_135 : decode cX12_longitude 135 = .ok (.aload_n 0, 1) := by decide +kernel
theorem dX12_longitude_136 : decode cX12_longitude 136 = .ok (.getfield 25, 3) := by decide +kernel
theorem dX12_longitude_139 : decode cX12_longitude 139 = .ok (.iload 11, 2) := by decide +kernel
theorem dX12_longitude_141 : decode cX12_longitude 141 = .ok (.iaload, 1) := by decide +kernel
theorem dX12_longitude_142 : decode cX12_longitude 142 = .ok (.iload_n 2, 1) := by decide +kernel
theorem dX12_longitude_143 : decode cX12_longitude 143 = .ok (.if_icmp .ne 69, 3) := by decide +kernel
theorem dX12_longitude_146 : decode cX12_longitude 146 = .ok (.aload_n 0, 1) := by decide +kernel
theorem dX12_longitude_147 : decode cX12_longitude 147 = .ok (.getfield 28, 3) := by decide +kernel
theorem dX12_longitude_150 : decode cX12_longitude 150 = .ok (.iload 10, 2) := by decide +kernel
theorem dX12_longitude_152 : decode cX12_longitude 152 = .ok (.iaload, 1) := by decide +kernel
theorem dX12_longitude_153 : decode cX12_longitude 153 = .ok (.aload_n 0, 1) := by decide +kernel
theorem dX12_longitude_154 : decode cX12_longitude 154 = .ok (.getfield 28, 3) := by decide +kernel
theorem dX12_longitude_157 : decode cX12_longitude 157 = .ok (.iload 11, 2) := by decide +kernel
theorem dX12_longitude_159 : decode cX12_longitude 159 = .ok (.iaload, 1) := by decide +kernel
theorem dX12_longitude_160 : decode cX12_longitude 160 = .ok (.if_icmp .ne 52, 3) := by decide +kernel
theorem dX12_longitude_163 : decode cX12_longitude 163 = .ok (.aload_n 0, 1) := by decide +kernel
theorem dX12_longitude_164 : decode cX12_longitude 164 = .ok (.getfield 96, 3) := by decide +kernel
theorem dX12_longitude_167 : decode cX12_longitude 167 = .ok (.iload 8, 2) := by decide +kernel
theorem dX12_longitude_169 : decode cX12_longitude 169 = .ok (.iaload, 1) := by decide +kernel
theorem dX12_longitude_170 : decode cX12_longitude 170 = .ok (.aload_n 0, 1) := by decide +kernel
theorem dX12_longitude_171 : decode cX12_longitude 171 = .ok (.getfield 96, 3) := by decide +kernel
theorem dX12_longitude_174 : decode cX12_longitude 174 = .ok (.iload 9, 2) := by decide +kernel
theorem dX12_longitude_176 : decode cX12_longitude 176 = .ok (.iaload, 1) := by decide +kernel
theorem dX12_longitude_177 : decode cX12_longitude 177 = .ok (.if_icmp .ne 35, 3) := by decide +kernel
theorem dX12_longitude_180 : decode cX12_longitude 180 = .ok (.aload_n 0, 1) := by decide +kernel
theorem dX12_longitude_181 : decode cX12_longitude 181 = .ok (.getfield 99, 3) := by decide +kernel
theorem dX12_longitude_184 : decode cX12_longitude 184 = .ok (.iload 8, 2) := by decide +kernel
theorem dX12_longitude_186 : decode cX12_longitude 186 = .ok (.iaload, 1) := by decide +kernel
theorem dX12_longitude_187 : decode cX12_longitude 187 = .ok (.aload_n 0, 1) := by decide +kernel
theorem dX12_longitude_188 : decode cX12_longitude 188 = .ok (.getfield 99, 3) := by decide +kernel
theorem dX12_longitude_191 : decode cX12_longitude 191 = .ok (.iload 9, 2) := by decide +kernel
theorem dX12_longitude_193 : decode cX12_longitude 193 = .ok (.iaload, 1) := by decide +kernel
theorem dX12_longitude_194 : decode cX12_longitude 194 = .ok (.if_icmp .ne 18, 3) := by decide +kernel
theorem dX12_longitude_197 : decode cX12_longitude 197 = .ok (.aload_n 0, 1) := by decide +kernel
theorem dX12_longitude_198 : decode cX12_longitude 198 = .ok (.getfield 99, 3) := by decide +kernel
theorem dX12_longitude_201 : decode cX12_longitude 201 = .ok (.iload 8, 2) := by decide +kernel
theorem dX12_longitude_203 : decode cX12_longitude 203 = .ok (.iaload, 1) := by decide +kernel
theorem dX12_longitude_204 : decode cX12_longitude 204 = .ok (.iconst 3, 1) := by decide +kernel
theorem dX12_longitude_205 : decode cX12_longitude 205 = .ok (.if_icmp .eq 7, 3) := by decide +kernel
theorem dX12_longitude_208 : decode cX12_longitude 208 = .ok (.iconst 1, 1) := by decide +kernel
theorem dX12_longitude_209 : decode cX12_longitude 209 = .ok (.goto 4, 3) := by decide +kernel
theorem dX12_longitude_212 : decode cX12_longitude 212 = .ok (.iconst 0, 1) := by decide +kernel
theorem dX12_longitude_213 : decode cX12_longitude 213 = .ok (.istore 13, 2) := by decide +kernel
theorem dX12_longitude_215 : decode cX12_longitude 215 = .ok (.iload 13, 2) := by decide +kernel
theorem dX12_longitude_217 : decode cX12_longitude 217 = .ok (.ifCond .eq 43, 3) := by decide +kernel
theorem dX12_longitude_220 : decode cX12_longitude 220 = .ok (.aload_n 0, 1) := by decide +kernel
theorem dX12_longitude_221 : decode cX12_longitude 221 = .ok (.getfield 141, 3) := by decide +kernel
theorem dX12_longitude_224 : decode cX12_longitude 224 = .ok (.iload 12, 2) := by decide +kernel
theorem dX12_longitude_226 : decode cX12_longitude 226 = .ok (.iaload, 1) := by decide +kernel
theorem dX12_longitude_227 : decode cX12_longitude 227 = .ok (.iconst (-1), 1) := by decide +kernel
theorem dX12_longitude_228 : decode cX12_longitude 228 = .ok (.if_icmp .eq 32, 3) := by decide +kernel
theorem dX12_longitude_231 : decode cX12_longitude 231 = .ok (.lload 5, 2) := by decide +kernel
theorem dX12_longitude_233 : decode cX12_longitude 233 = .ok (.aload_n 0, 1) := by decide +kernel
theorem dX12_longitude_234 : decode cX12_longitude 234 = .ok (.iload 9, 2) := by decide +kernel
theorem dX12_longitude_236 : decode cX12_longitude 236 = .ok (.invokevirtual 465, 3) := by decide +kernel
theorem dX12_longitude_239 : decode cX12_longitude 239 = .ok (.aload_n 0, 1) := by decide +kernel
theorem dX12_longitude_240 : decode cX12_longitude 240 = .ok (.iload 8, 2) := by decide +kernel
theorem dX12_longitude_242 : decode cX12_longitude 242 = .ok (.invokevirtual 465, 3) := by decide +kernel
theorem dX12_longitude_245 : decode cX12_longitude 245 = .ok (.lsub, 1) := by decide +kernel
theorem dX12_longitude_246 : decode cX12_longitude 246 = .ok (.aload_n 0, 1) := by decide +kernel
theorem dX12_longitude_247 : decode cX12_longitude 247 = .ok (.getfield 138, 3) := by decide +kernel
theorem dX12_longitude_250 : decode cX12_longitude 250 = .ok (.iload 12, 2) := by decide +kernel
theorem dX12_longitude_252 : decode cX12_longitude 252 = .ok (.laload, 1) := by decide +kernel
theorem dX12_longitude_253 : decode cX12_longitude 253 = .ok (.lsub, 1) := by decide +kernel
theorem dX12_longitude_254 : decode cX12_longitude 254 = .ok (.ladd, 1) := by decide +kernel
theorem dX12_longitude_255 : decode cX12_longitude 255 = .ok (.lstore 5, 2) := by decide +kernel
theorem dX12_longitude_257 : decode cX12_longitude 257 = .ok (.iinc 7 1, 3) := by decide +kernel
theorem dX12_longitude_260 : decode cX12_longitude 260 = .ok (.iinc 9 1, 3) := by decide +kernel
theorem dX12_longitude_263 : decode cX12_longitude 263 = .ok (.goto (-186), 3) := by decide +kernel
theorem dX12_longitude_266 : decode cX12_longitude 266 = .ok (.iinc 8 1, 3) := by decide +kernel
theorem dX12_longitude_269 : decode cX12_longitude 269 = .ok (.goto (-204), 3) := by decide +kernel
theorem dX12_longitude_272 : decode cX12_longitude 272 = .ok (.iload 4, 2) := by decide +kernel
theorem dX12_longitude_274 : decode cX12_longitude 274 = .ok (.iconst 1, 1) := by decide +kernel
theorem dX12_longitude_275 : decode cX12_longitude 275 = .ok (.if_icmp .ne 8, 3) := by decide +kernel
theorem dX12_longitude_278 : decode cX12_longitude 278 = .ok (.iload 7, 2) := by decide +kernel
theorem dX12_longitude_280 : decode cX12_longitude 280 = .ok (.goto 22, 3) := by decide +kernel
theorem dX12_longitude_283 : decode cX12_longitude 283 = .ok (.iload 7, 2) := by decide +kernel
theorem dX12_longitude_285 : decode cX12_longitude 285 = .ok (.ifCond .ne 8, 3) := by decide +kernel
theorem dX12_longitude_288 : decode cX12_longitude 288 = .ok (.ldc 233, 2) := by decide +kernel
theorem dX12_longitude_290 : decode cX12_longitude 290 = .ok (.goto 12, 3) := by decide +kernel
theorem dX12_longitude_293 : decode cX12_longitude 293 = .ok (.lload 5, 2) := by decide +kernel
theorem dX12_longitude_295 : decode cX12_longitude 295 = .ok (.iload 7, 2) := by decide +kernel
theorem dX12_longitude_297 : decode cX12_longitude 297 = .ok (.i2l, 1) := by decide +kernel
theorem dX12_longitude_298 : decode cX12_longitude 298 = .ok (.invokestatic 403, 3) := by decide +kernel
theorem dX12_longitude_301 : decode cX12_longitude 301 = .ok (.l2i, 1) := by decide +kernel
theorem dX12_longitude_302 : decode cX12_longitude 302 = .ok (.ireturn, 1) := by decide +kernel
set_option maxRecDepth 100000 in
set_option maxHeartbeats 4000000 in
theorem l1_X12_longitude {h : ai_H} {B : Bk} {ln : Nat} {k gg hh x : Int32} {U : Nat → List Int} {V T : Md} {q : Nat} (hok : bk_ok B ln) (hmd : md_at h V) (hRV : RB B V) (hrT : rT T V) (hS : SI B k T (nR B) (nR B) q) (hq : q ≤ 400) (ec : V.1 40 = nI q) (hfin : ∀ c, c < nO B → rfin V U (nO B) c) {i : Nat} {r : Option Value} (hi : i < q) (kx : ∀ (u10 u11 u12 u13 : Value), ai_R MX12_longitude 266 [.ref 307, .int gg, .int hh, .int k, .int x, .long (aL (zsum ((LD B k U gg hh T q (i * q + q)).map (lgV B k U)))), .float 0, .int (nI (LD B k U gg hh T q (i * q + q)).length), .int (nI i), .int (nI q), u10, u11, u12, u13] [] h r h) : ∀ (m j : Nat) (u10 u11 u12 u13 : Value), j ≤ q → q + 1 ≤ j + m → ai_R MX12_longitude 77 [.ref 307, .int gg, .int hh, .int k, .int x, .long (aL (zsum ((LD B k U gg hh T q (i * q + j)).map (lgV B k U)))), .float 0, .int (nI (LD B k U gg hh T q (i * q + j)).length), .int (nI i), .int (nI j), u10, u11, u12, u13] [] h r h := by
  intro m
  induction m with
  | zero => intro j u10 u11 u12 u13 h1 h2; exact absurd h2 (by omega)
  | succ m ih =>
    intro j u10 u11 u12 u13 hj0 him
    have hn16 := hok.2.1.2.1
    have hn80 := hok.2.2.2.1.2.1
    refine rs_iload (pc := 77) dX12_longitude_77 rfl ?_
    refine rs_aload_n (pc := 79) dX12_longitude_79 rfl ?_
    refine rs_getf (pc := 80) dX12_longitude_80 fX12_398 (md_lt hmd (by decide)) hmd.2.1 rfl ?_
    refine rs_icmp_ge (tgt := 266) (pc := 83) dX12_longitude_83 rfl (fun c_83 => ?_) (fun c_83 => ?_)
    · have hje : j = q := lp_exit ec (by omega) hj0 c_83
      subst hje
      exact kx _ _ _ _
    · have hj : j < q := lp_go ec (by omega) c_83
      obtain ⟨⟨o1, ho1, eo1⟩, n1, hn1, en1⟩ := sight_nig hok hS hi
      obtain ⟨⟨o2, ho2, eo2⟩, n2, hn2, en2⟩ := sight_nig hok hS hj
      obtain ⟨p1, p2⟩ := pair_mk (i := i) hj
      have hp1 := sight_pos hS hi
      have hp2 := sight_pos hS hj
      obtain ⟨f1, f2, f3, f4⟩ := hfin o1 ho1 o2 ho2
      obtain ⟨r11, r12⟩ := hRV.2.2.2.1 n1 hn1
      obtain ⟨r21, r22⟩ := hRV.2.2.2.1 n2 hn2
      refine rs_aload_n (pc := 86) dX12_longitude_86 rfl ?_
      refine rs_getf (pc := 87) dX12_longitude_87 fX12_93 (md_lt hmd (by decide)) hmd.2.1 rfl ?_
      refine rs_iload (pc := 90) dX12_longitude_90 rfl ?_
      refine rs_iald (pc := 92) dX12_longitude_92 (md_lt hmd (by decide)) (md_geti (d := 27) (k := 42) (kd := 0) (n := 400) rfl (by decide) hmd) (vp_in_nI (n := i) (N := 400) (by omega) (by decide)) ?_
      rw [nI_clamp (show i < 2 ^ 31 by omega), hrT.2.2.1 42 (by omega), en1]
      refine wk_ist10 (pc := 93) dX12_longitude_93 (by decide) rfl ?_
      refine rs_aload_n (pc := 95) dX12_longitude_95 rfl ?_
      refine rs_getf (pc := 96) dX12_longitude_96 fX12_93 (md_lt hmd (by decide)) hmd.2.1 rfl ?_
      refine rs_iload (pc := 99) dX12_longitude_99 rfl ?_
      refine rs_iald (pc := 101) dX12_longitude_101 (md_lt hmd (by decide)) (md_geti (d := 27) (k := 42) (kd := 0) (n := 400) rfl (by decide) hmd) (vp_in_nI (n := j) (N := 400) (by omega) (by decide)) ?_
      rw [nI_clamp (show j < 2 ^ 31 by omega), hrT.2.2.1 42 (by omega), en2]
      refine wk_ist11 (pc := 102) dX12_longitude_102 (by decide) rfl ?_
      refine rs_bipush (v := 16) (pc := 104) dX12_longitude_104 rfl ?_
      refine rs_aload_n (pc := 106) dX12_longitude_106 rfl ?_
      refine rs_getf (pc := 107) dX12_longitude_107 fX12_90 (md_lt hmd (by decide)) hmd.2.1 rfl ?_
      refine rs_iload (pc := 110) dX12_longitude_110 rfl ?_
      refine rs_iald (pc := 112) dX12_longitude_112 (md_lt hmd (by decide)) (md_geti (d := 26) (k := 41) (kd := 0) (n := 400) rfl (by decide) hmd) (vp_in_nI (n := j) (N := 400) (by omega) (by decide)) ?_
      rw [nI_clamp (show j < 2 ^ 31 by omega), hrT.2.2.1 41 (by omega), eo2]
      refine rs_imul (pc := 113) dX12_longitude_113 ?_
      rw [show (16 : Int32) * nI o2 = nI (16 * o2) from pk_mul 16 o2]
      refine rs_aload_n (pc := 114) dX12_longitude_114 rfl ?_
      refine rs_getf (pc := 115) dX12_longitude_115 fX12_90 (md_lt hmd (by decide)) hmd.2.1 rfl ?_
      refine rs_iload (pc := 118) dX12_longitude_118 rfl ?_
      refine rs_iald (pc := 120) dX12_longitude_120 (md_lt hmd (by decide)) (md_geti (d := 26) (k := 41) (kd := 0) (n := 400) rfl (by decide) hmd) (vp_in_nI (n := i) (N := 400) (by omega) (by decide)) ?_
      rw [nI_clamp (show i < 2 ^ 31 by omega), hrT.2.2.1 41 (by omega), eo1]
      refine rs_iadd (pc := 121) dX12_longitude_121 ?_
      rw [nI_add]
      refine wk_ist12 (pc := 122) dX12_longitude_122 (by decide) rfl ?_
      refine rs_aload_n (pc := 124) dX12_longitude_124 rfl ?_
      refine rs_getf (pc := 125) dX12_longitude_125 fX12_25 (md_lt hmd (by decide)) hmd.2.1 rfl ?_
      refine rs_iload (pc := 128) dX12_longitude_128 rfl ?_
      refine rs_iald (pc := 130) dX12_longitude_130 (md_lt hmd (by decide)) (md_geti (d := 5) (k := 11) (kd := 0) (n := 80) rfl (by decide) hmd) (vp_in_nI (n := n1) (N := 80) (by omega) (by decide)) ?_
      rw [nI_clamp (show n1 < 2 ^ 31 by omega), r11]
      refine rs_iload_n (pc := 131) dX12_longitude_131 rfl ?_
      refine rs_icmp_ne (tgt := 212) (pc := 132) dX12_longitude_132 rfl (fun c_132 => ?_) (fun c_132 => ?_)
      · have hno : lgQ B k U gg hh (kT T ((i * q + j) / q), kT T ((i * q + j) % q)) = false := by
          rw [p1, p2]
          refine decide_eq_false (fun y => ?_)
          exact c_132 (by rw [← en1]; exact y.2.2.2.1)
        refine rs_iconst (v := 0) (pc := 212) dX12_longitude_212 rfl ?_
        refine wk_ist13 (pc := 213) dX12_longitude_213 (by decide) rfl ?_
        refine rs_iload (pc := 215) dX12_longitude_215 rfl ?_
        refine rs_if_eq (tgt := 260) (pc := 217) dX12_longitude_217 rfl (fun c_217 => ?_) (fun c_217 => absurd c_217 (by decide))
        refine wk_iinc9 (v := nI (j + 1)) (pc := 260) dX12_longitude_260 (by decide) rfl (nI_1 j) ?_
        refine rs_goto (tgt := 77) (pc := 263) dX12_longitude_263 rfl ?_
        first
        | (have e1 : LD B k U gg hh T q ((i * q + j) + 1) = LD B k U gg hh T q (i * q + j) := by unfold LD; rw [lst, if_neg (by rw [hno]; decide)]
           rw [← e1]
           exact ih (j + 1) _ _ _ _ (by omega) (by omega))
        | (have e1 : LD B k U gg hh T q ((i * q + j) + 1) = (kT T ((i * q + j) / q), kT T ((i * q + j) % q)) :: LD B k U gg hh T q (i * q + j) := by unfold LD; rw [lst, if_pos hyes]
           have e2 := ih (j + 1) (.int (nI n1)) (.int (nI n2)) (.int (nI (16 * o2 + o1))) (.int 1) (by omega) (by omega)
           rw [← Nat.add_assoc, e1, List.map_cons, zsum_cons, List.length_cons, Int.add_comm] at e2
           rw [show lgV B k U (kT T ((i * q + j) / q), kT T ((i * q + j) % q)) = 1000 * zs B k (kM T j) (T.2.2.1 41 j) / (zc B k (kM T j) (T.2.2.1 41 j) : Int) - 1000 * zs B k (kM T i) (T.2.2.1 41 i) / (zc B k (kM T i) (T.2.2.1 41 i) : Int) - zle U (nO B) o1 o2 from by
             rw [p1, p2]
             unfold lgV
             rw [show (kT T i).2 = nI o1 from eo1, show (kT T j).2 = nI o2 from eo2, nI_clamp (by omega), nI_clamp (by omega)]
             rfl] at e2
           exact e2)
      · refine rs_aload_n (pc := 135) dX12_longitude_135 rfl ?_
        refine rs_getf (pc := 136) dX12_longitude_136 fX12_25 (md_lt hmd (by decide)) hmd.2.1 rfl ?_
        refine rs_iload (pc := 139) dX12_longitude_139 rfl ?_
        refine rs_iald (pc := 141) dX12_longitude_141 (md_lt hmd (by decide)) (md_geti (d := 5) (k := 11) (kd := 0) (n := 80) rfl (by decide) hmd) (vp_in_nI (n := n2) (N := 80) (by omega) (by decide)) ?_
        rw [nI_clamp (show n2 < 2 ^ 31 by omega), r21]
        refine rs_iload_n (pc := 142) dX12_longitude_142 rfl ?_
        refine rs_icmp_ne (tgt := 212) (pc := 143) dX12_longitude_143 rfl (fun c_143 => ?_) (fun c_143 => ?_)
        · have hno : lgQ B k U gg hh (kT T ((i * q + j) / q), kT T ((i * q + j) % q)) = false := by
            rw [p1, p2]
            refine decide_eq_false (fun y => ?_)
            exact c_143 (by rw [← en2]; exact y.2.2.2.2.2.2.1)
          refine rs_iconst (v := 0) (pc := 212) dX12_longitude_212 rfl ?_
          refine wk_ist13 (pc := 213) dX12_longitude_213 (by decide) rfl ?_
          refine rs_iload (pc := 215) dX12_longitude_215 rfl ?_
          refine rs_if_eq (tgt := 260) (pc := 217) dX12_longitude_217 rfl (fun c_217 => ?_) (fun c_217 => absurd c_217 (by decide))
          refine wk_iinc9 (v := nI (j + 1)) (pc := 260) dX12_longitude_260 (by decide) rfl (nI_1 j) ?_
          refine rs_goto (tgt := 77) (pc := 263) dX12_longitude_263 rfl ?_
          first
          | (have e1 : LD B k U gg hh T q ((i * q + j) + 1) = LD B k U gg hh T q (i * q + j) := by unfold LD; rw [lst, if_neg (by rw [hno]; decide)]
             rw [← e1]
             exact ih (j + 1) _ _ _ _ (by omega) (by omega))
          | (have e1 : LD B k U gg hh T q ((i * q + j) + 1) = (kT T ((i * q + j) / q), kT T ((i * q + j) % q)) :: LD B k U gg hh T q (i * q + j) := by unfold LD; rw [lst, if_pos hyes]
             have e2 := ih (j + 1) (.int (nI n1)) (.int (nI n2)) (.int (nI (16 * o2 + o1))) (.int 1) (by omega) (by omega)
             rw [← Nat.add_assoc, e1, List.map_cons, zsum_cons, List.length_cons, Int.add_comm] at e2
             rw [show lgV B k U (kT T ((i * q + j) / q), kT T ((i * q + j) % q)) = 1000 * zs B k (kM T j) (T.2.2.1 41 j) / (zc B k (kM T j) (T.2.2.1 41 j) : Int) - 1000 * zs B k (kM T i) (T.2.2.1 41 i) / (zc B k (kM T i) (T.2.2.1 41 i) : Int) - zle U (nO B) o1 o2 from by
               rw [p1, p2]
               unfold lgV
               rw [show (kT T i).2 = nI o1 from eo1, show (kT T j).2 = nI o2 from eo2, nI_clamp (by omega), nI_clamp (by omega)]
               rfl] at e2
             exact e2)
        · refine rs_aload_n (pc := 146) dX12_longitude_146 rfl ?_
          refine rs_getf (pc := 147) dX12_longitude_147 fX12_28 (md_lt hmd (by decide)) hmd.2.1 rfl ?_
          refine rs_iload (pc := 150) dX12_longitude_150 rfl ?_
          refine rs_iald (pc := 152) dX12_longitude_152 (md_lt hmd (by decide)) (md_geti (d := 6) (k := 12) (kd := 0) (n := 80) rfl (by decide) hmd) (vp_in_nI (n := n1) (N := 80) (by omega) (by decide)) ?_
          rw [nI_clamp (show n1 < 2 ^ 31 by omega), r12]
          refine rs_aload_n (pc := 153) dX12_longitude_153 rfl ?_
          refine rs_getf (pc := 154) dX12_longitude_154 fX12_28 (md_lt hmd (by decide)) hmd.2.1 rfl ?_
          refine rs_iload (pc := 157) dX12_longitude_157 rfl ?_
          refine rs_iald (pc := 159) dX12_longitude_159 (md_lt hmd (by decide)) (md_geti (d := 6) (k := 12) (kd := 0) (n := 80) rfl (by decide) hmd) (vp_in_nI (n := n2) (N := 80) (by omega) (by decide)) ?_
          rw [nI_clamp (show n2 < 2 ^ 31 by omega), r22]
          refine rs_icmp_ne (tgt := 212) (pc := 160) dX12_longitude_160 rfl (fun c_160 => ?_) (fun c_160 => ?_)
          · have hno : lgQ B k U gg hh (kT T ((i * q + j) / q), kT T ((i * q + j) % q)) = false := by
              rw [p1, p2]
              refine decide_eq_false (fun y => ?_)
              exact c_160 (by rw [← en1, ← en2]; exact y.2.2.2.2.2.2.2.1.symm)
            refine rs_iconst (v := 0) (pc := 212) dX12_longitude_212 rfl ?_
            refine wk_ist13 (pc := 213) dX12_longitude_213 (by decide) rfl ?_
            refine rs_iload (pc := 215) dX12_longitude_215 rfl ?_
            refine rs_if_eq (tgt := 260) (pc := 217) dX12_longitude_217 rfl (fun c_217 => ?_) (fun c_217 => absurd c_217 (by decide))
            refine wk_iinc9 (v := nI (j + 1)) (pc := 260) dX12_longitude_260 (by decide) rfl (nI_1 j) ?_
            refine rs_goto (tgt := 77) (pc := 263) dX12_longitude_263 rfl ?_
            first
            | (have e1 : LD B k U gg hh T q ((i * q + j) + 1) = LD B k U gg hh T q (i * q + j) := by unfold LD; rw [lst, if_neg (by rw [hno]; decide)]
               rw [← e1]
               exact ih (j + 1) _ _ _ _ (by omega) (by omega))
            | (have e1 : LD B k U gg hh T q ((i * q + j) + 1) = (kT T ((i * q + j) / q), kT T ((i * q + j) % q)) :: LD B k U gg hh T q (i * q + j) := by unfold LD; rw [lst, if_pos hyes]
               have e2 := ih (j + 1) (.int (nI n1)) (.int (nI n2)) (.int (nI (16 * o2 + o1))) (.int 1) (by omega) (by omega)
               rw [← Nat.add_assoc, e1, List.map_cons, zsum_cons, List.length_cons, Int.add_comm] at e2
               rw [show lgV B k U (kT T ((i * q + j) / q), kT T ((i * q + j) % q)) = 1000 * zs B k (kM T j) (T.2.2.1 41 j) / (zc B k (kM T j) (T.2.2.1 41 j) : Int) - 1000 * zs B k (kM T i) (T.2.2.1 41 i) / (zc B k (kM T i) (T.2.2.1 41 i) : Int) - zle U (nO B) o1 o2 from by
                 rw [p1, p2]
                 unfold lgV
                 rw [show (kT T i).2 = nI o1 from eo1, show (kT T j).2 = nI o2 from eo2, nI_clamp (by omega), nI_clamp (by omega)]
                 rfl] at e2
               exact e2)
          · refine rs_aload_n (pc := 163) dX12_longitude_163 rfl ?_
            refine rs_getf (pc := 164) dX12_longitude_164 fX12_96 (md_lt hmd (by decide)) hmd.2.1 rfl ?_
            refine rs_iload (pc := 167) dX12_longitude_167 rfl ?_
            refine rs_iald (pc := 169) dX12_longitude_169 (md_lt hmd (by decide)) (md_geti (d := 28) (k := 43) (kd := 0) (n := 400) rfl (by decide) hmd) (vp_in_nI (n := i) (N := 400) (by omega) (by decide)) ?_
            rw [nI_clamp (show i < 2 ^ 31 by omega), hrT.2.2.1 43 (by omega)]
            refine rs_aload_n (pc := 170) dX12_longitude_170 rfl ?_
            refine rs_getf (pc := 171) dX12_longitude_171 fX12_96 (md_lt hmd (by decide)) hmd.2.1 rfl ?_
            refine rs_iload (pc := 174) dX12_longitude_174 rfl ?_
            refine rs_iald (pc := 176) dX12_longitude_176 (md_lt hmd (by decide)) (md_geti (d := 28) (k := 43) (kd := 0) (n := 400) rfl (by decide) hmd) (vp_in_nI (n := j) (N := 400) (by omega) (by decide)) ?_
            rw [nI_clamp (show j < 2 ^ 31 by omega), hrT.2.2.1 43 (by omega)]
            refine rs_icmp_ne (tgt := 212) (pc := 177) dX12_longitude_177 rfl (fun c_177 => ?_) (fun c_177 => ?_)
            · have hno : lgQ B k U gg hh (kT T ((i * q + j) / q), kT T ((i * q + j) % q)) = false := by
                rw [p1, p2]
                refine decide_eq_false (fun y => ?_)
                exact c_177 y.2.2.2.2.1.symm
              refine rs_iconst (v := 0) (pc := 212) dX12_longitude_212 rfl ?_
              refine wk_ist13 (pc := 213) dX12_longitude_213 (by decide) rfl ?_
              refine rs_iload (pc := 215) dX12_longitude_215 rfl ?_
              refine rs_if_eq (tgt := 260) (pc := 217) dX12_longitude_217 rfl (fun c_217 => ?_) (fun c_217 => absurd c_217 (by decide))
              refine wk_iinc9 (v := nI (j + 1)) (pc := 260) dX12_longitude_260 (by decide) rfl (nI_1 j) ?_
              refine rs_goto (tgt := 77) (pc := 263) dX12_longitude_263 rfl ?_
              first
              | (have e1 : LD B k U gg hh T q ((i * q + j) + 1) = LD B k U gg hh T q (i * q + j) := by unfold LD; rw [lst, if_neg (by rw [hno]; decide)]
                 rw [← e1]
                 exact ih (j + 1) _ _ _ _ (by omega) (by omega))
              | (have e1 : LD B k U gg hh T q ((i * q + j) + 1) = (kT T ((i * q + j) / q), kT T ((i * q + j) % q)) :: LD B k U gg hh T q (i * q + j) := by unfold LD; rw [lst, if_pos hyes]
                 have e2 := ih (j + 1) (.int (nI n1)) (.int (nI n2)) (.int (nI (16 * o2 + o1))) (.int 1) (by omega) (by omega)
                 rw [← Nat.add_assoc, e1, List.map_cons, zsum_cons, List.length_cons, Int.add_comm] at e2
                 rw [show lgV B k U (kT T ((i * q + j) / q), kT T ((i * q + j) % q)) = 1000 * zs B k (kM T j) (T.2.2.1 41 j) / (zc B k (kM T j) (T.2.2.1 41 j) : Int) - 1000 * zs B k (kM T i) (T.2.2.1 41 i) / (zc B k (kM T i) (T.2.2.1 41 i) : Int) - zle U (nO B) o1 o2 from by
                   rw [p1, p2]
                   unfold lgV
                   rw [show (kT T i).2 = nI o1 from eo1, show (kT T j).2 = nI o2 from eo2, nI_clamp (by omega), nI_clamp (by omega)]
                   rfl] at e2
                 exact e2)
            · refine rs_aload_n (pc := 180) dX12_longitude_180 rfl ?_
              refine rs_getf (pc := 181) dX12_longitude_181 fX12_99 (md_lt hmd (by decide)) hmd.2.1 rfl ?_
              refine rs_iload (pc := 184) dX12_longitude_184 rfl ?_
              refine rs_iald (pc := 186) dX12_longitude_186 (md_lt hmd (by decide)) (md_geti (d := 29) (k := 44) (kd := 0) (n := 400) rfl (by decide) hmd) (vp_in_nI (n := i) (N := 400) (by omega) (by decide)) ?_
              rw [nI_clamp (show i < 2 ^ 31 by omega), hrT.2.2.1 44 (by omega)]
              refine rs_aload_n (pc := 187) dX12_longitude_187 rfl ?_
              refine rs_getf (pc := 188) dX12_longitude_188 fX12_99 (md_lt hmd (by decide)) hmd.2.1 rfl ?_
              refine rs_iload (pc := 191) dX12_longitude_191 rfl ?_
              refine rs_iald (pc := 193) dX12_longitude_193 (md_lt hmd (by decide)) (md_geti (d := 29) (k := 44) (kd := 0) (n := 400) rfl (by decide) hmd) (vp_in_nI (n := j) (N := 400) (by omega) (by decide)) ?_
              rw [nI_clamp (show j < 2 ^ 31 by omega), hrT.2.2.1 44 (by omega)]
              refine rs_icmp_ne (tgt := 212) (pc := 194) dX12_longitude_194 rfl (fun c_194 => ?_) (fun c_194 => ?_)
              · have hno : lgQ B k U gg hh (kT T ((i * q + j) / q), kT T ((i * q + j) % q)) = false := by
                  rw [p1, p2]
                  refine decide_eq_false (fun y => ?_)
                  exact c_194 y.2.2.2.2.2.1.symm
                refine rs_iconst (v := 0) (pc := 212) dX12_longitude_212 rfl ?_
                refine wk_ist13 (pc := 213) dX12_longitude_213 (by decide) rfl ?_
                refine rs_iload (pc := 215) dX12_longitude_215 rfl ?_
                refine rs_if_eq (tgt := 260) (pc := 217) dX12_longitude_217 rfl (fun c_217 => ?_) (fun c_217 => absurd c_217 (by decide))
                refine wk_iinc9 (v := nI (j + 1)) (pc := 260) dX12_longitude_260 (by decide) rfl (nI_1 j) ?_
                refine rs_goto (tgt := 77) (pc := 263) dX12_longitude_263 rfl ?_
                first
                | (have e1 : LD B k U gg hh T q ((i * q + j) + 1) = LD B k U gg hh T q (i * q + j) := by unfold LD; rw [lst, if_neg (by rw [hno]; decide)]
                   rw [← e1]
                   exact ih (j + 1) _ _ _ _ (by omega) (by omega))
                | (have e1 : LD B k U gg hh T q ((i * q + j) + 1) = (kT T ((i * q + j) / q), kT T ((i * q + j) % q)) :: LD B k U gg hh T q (i * q + j) := by unfold LD; rw [lst, if_pos hyes]
                   have e2 := ih (j + 1) (.int (nI n1)) (.int (nI n2)) (.int (nI (16 * o2 + o1))) (.int 1) (by omega) (by omega)
                   rw [← Nat.add_assoc, e1, List.map_cons, zsum_cons, List.length_cons, Int.add_comm] at e2
                   rw [show lgV B k U (kT T ((i * q + j) / q), kT T ((i * q + j) % q)) = 1000 * zs B k (kM T j) (T.2.2.1 41 j) / (zc B k (kM T j) (T.2.2.1 41 j) : Int) - 1000 * zs B k (kM T i) (T.2.2.1 41 i) / (zc B k (kM T i) (T.2.2.1 41 i) : Int) - zle U (nO B) o1 o2 from by
                     rw [p1, p2]
                     unfold lgV
                     rw [show (kT T i).2 = nI o1 from eo1, show (kT T j).2 = nI o2 from eo2, nI_clamp (by omega), nI_clamp (by omega)]
                     rfl] at e2
                   exact e2)
              · refine rs_aload_n (pc := 197) dX12_longitude_197 rfl ?_
                refine rs_getf (pc := 198) dX12_longitude_198 fX12_99 (md_lt hmd (by decide)) hmd.2.1 rfl ?_
                refine rs_iload (pc := 201) dX12_longitude_201 rfl ?_
                refine rs_iald (pc := 203) dX12_longitude_203 (md_lt hmd (by decide)) (md_geti (d := 29) (k := 44) (kd := 0) (n := 400) rfl (by decide) hmd) (vp_in_nI (n := i) (N := 400) (by omega) (by decide)) ?_
                rw [nI_clamp (show i < 2 ^ 31 by omega), hrT.2.2.1 44 (by omega)]
                refine rs_iconst (v := 3) (pc := 204) dX12_longitude_204 rfl ?_
                refine rs_icmp_eq (tgt := 212) (pc := 205) dX12_longitude_205 rfl (fun c_205 => ?_) (fun c_205 => ?_)
                · have hno : lgQ B k U gg hh (kT T ((i * q + j) / q), kT T ((i * q + j) % q)) = false := by
                    rw [p1, p2]
                    refine decide_eq_false (fun y => ?_)
                    exact y.2.2.1 c_205
                  refine rs_iconst (v := 0) (pc := 212) dX12_longitude_212 rfl ?_
                  refine wk_ist13 (pc := 213) dX12_longitude_213 (by decide) rfl ?_
                  refine rs_iload (pc := 215) dX12_longitude_215 rfl ?_
                  refine rs_if_eq (tgt := 260) (pc := 217) dX12_longitude_217 rfl (fun c_217 => ?_) (fun c_217 => absurd c_217 (by decide))
                  refine wk_iinc9 (v := nI (j + 1)) (pc := 260) dX12_longitude_260 (by decide) rfl (nI_1 j) ?_
                  refine rs_goto (tgt := 77) (pc := 263) dX12_longitude_263 rfl ?_
                  first
                  | (have e1 : LD B k U gg hh T q ((i * q + j) + 1) = LD B k U gg hh T q (i * q + j) := by unfold LD; rw [lst, if_neg (by rw [hno]; decide)]
                     rw [← e1]
                     exact ih (j + 1) _ _ _ _ (by omega) (by omega))
                  | (have e1 : LD B k U gg hh T q ((i * q + j) + 1) = (kT T ((i * q + j) / q), kT T ((i * q + j) % q)) :: LD B k U gg hh T q (i * q + j) := by unfold LD; rw [lst, if_pos hyes]
                     have e2 := ih (j + 1) (.int (nI n1)) (.int (nI n2)) (.int (nI (16 * o2 + o1))) (.int 1) (by omega) (by omega)
                     rw [← Nat.add_assoc, e1, List.map_cons, zsum_cons, List.length_cons, Int.add_comm] at e2
                     rw [show lgV B k U (kT T ((i * q + j) / q), kT T ((i * q + j) % q)) = 1000 * zs B k (kM T j) (T.2.2.1 41 j) / (zc B k (kM T j) (T.2.2.1 41 j) : Int) - 1000 * zs B k (kM T i) (T.2.2.1 41 i) / (zc B k (kM T i) (T.2.2.1 41 i) : Int) - zle U (nO B) o1 o2 from by
                       rw [p1, p2]
                       unfold lgV
                       rw [show (kT T i).2 = nI o1 from eo1, show (kT T j).2 = nI o2 from eo2, nI_clamp (by omega), nI_clamp (by omega)]
                       rfl] at e2
                     exact e2)
                · refine rs_iconst (v := 1) (pc := 208) dX12_longitude_208 rfl ?_
                  refine rs_goto (tgt := 213) (pc := 209) dX12_longitude_209 rfl ?_
                  refine wk_ist13 (pc := 213) dX12_longitude_213 (by decide) rfl ?_
                  refine rs_iload (pc := 215) dX12_longitude_215 rfl ?_
                  refine rs_if_eq (tgt := 260) (pc := 217) dX12_longitude_217 rfl (fun c_217 => absurd c_217 (by decide)) (fun c_217 => ?_)
                  refine rs_aload_n (pc := 220) dX12_longitude_220 rfl ?_
                  refine rs_getf (pc := 221) dX12_longitude_221 fX12_141 (md_lt hmd (by decide)) hmd.2.1 rfl ?_
                  refine rs_iload (pc := 224) dX12_longitude_224 rfl ?_
                  refine rs_iald (pc := 226) dX12_longitude_226 (md_lt hmd (by decide)) (md_geti (d := 43) (k := 58) (kd := 0) (n := 256) rfl (by decide) hmd) (vp_in_nI (n := 16 * o2 + o1) (N := 256) (by omega) (by decide)) ?_
                  rw [nI_clamp (show 16 * o2 + o1 < 2 ^ 31 by omega)]
                  refine rs_iconst (v := -1) (pc := 227) dX12_longitude_227 rfl ?_
                  refine rs_icmp_eq (tgt := 260) (pc := 228) dX12_longitude_228 rfl (fun c_228 => ?_) (fun c_228 => ?_)
                  · have hno : lgQ B k U gg hh (kT T ((i * q + j) / q), kT T ((i * q + j) % q)) = false := by
                      rw [p1, p2]
                      refine decide_eq_false (fun y => ?_)
                      have y9 := y.2.2.2.2.2.2.2.2
                      rw [show (kT T i).2 = nI o1 from eo1, show (kT T j).2 = nI o2 from eo2, nI_clamp (by omega), nI_clamp (by omega)] at y9
                      cases hq : ro_end (ro_U U) (nO B) o1 o2 with
                      | none => exact y9 hq
                      | some v => rw [(f2 v hq).1] at c_228; exact nI_m1 (by omega) c_228
                    refine wk_iinc9 (v := nI (j + 1)) (pc := 260) dX12_longitude_260 (by decide) rfl (nI_1 j) ?_
                    refine rs_goto (tgt := 77) (pc := 263) dX12_longitude_263 rfl ?_
                    first
                    | (have e1 : LD B k U gg hh T q ((i * q + j) + 1) = LD B k U gg hh T q (i * q + j) := by unfold LD; rw [lst, if_neg (by rw [hno]; decide)]
                       rw [← e1]
                       exact ih (j + 1) _ _ _ _ (by omega) (by omega))
                    | (have e1 : LD B k U gg hh T q ((i * q + j) + 1) = (kT T ((i * q + j) / q), kT T ((i * q + j) % q)) :: LD B k U gg hh T q (i * q + j) := by unfold LD; rw [lst, if_pos hyes]
                       have e2 := ih (j + 1) (.int (nI n1)) (.int (nI n2)) (.int (nI (16 * o2 + o1))) (.int 1) (by omega) (by omega)
                       rw [← Nat.add_assoc, e1, List.map_cons, zsum_cons, List.length_cons, Int.add_comm] at e2
                       rw [show lgV B k U (kT T ((i * q + j) / q), kT T ((i * q + j) % q)) = 1000 * zs B k (kM T j) (T.2.2.1 41 j) / (zc B k (kM T j) (T.2.2.1 41 j) : Int) - 1000 * zs B k (kM T i) (T.2.2.1 41 i) / (zc B k (kM T i) (T.2.2.1 41 i) : Int) - zle U (nO B) o1 o2 from by
                         rw [p1, p2]
                         unfold lgV
                         rw [show (kT T i).2 = nI o1 from eo1, show (kT T j).2 = nI o2 from eo2, nI_clamp (by omega), nI_clamp (by omega)]
                         rfl] at e2
                       exact e2)
                  · have hyes : lgQ B k U gg hh (kT T ((i * q + j) / q), kT T ((i * q + j) % q)) = true := by
                      rw [p1, p2]
                      refine decide_eq_true ⟨hp1, hp2, c_205, ?_, c_177.symm, c_194.symm, ?_, ?_, ?_⟩
                      · rw [← c_132]; show bk_nat B (T.2.2.1 42 i) 0 = _; rw [en1]
                      · rw [← c_143]; show bk_nat B (T.2.2.1 42 j) 0 = _; rw [en2]
                      · show bk_nat B (T.2.2.1 42 j) 1 = bk_nat B (T.2.2.1 42 i) 1; rw [en1, en2]; exact c_160.symm
                      · rw [show (kT T i).2 = nI o1 from eo1, show (kT T j).2 = nI o2 from eo2, nI_clamp (by omega), nI_clamp (by omega)]
                        exact fun y => c_228 (f1 y)
                    refine rs_lload (pc := 231) dX12_longitude_231 rfl ?_
                    refine rs_aload_n (pc := 233) dX12_longitude_233 rfl ?_
                    refine rs_iload (pc := 234) dX12_longitude_234 rfl ?_
                    refine rs_callV (as := [_]) (pc := 236) dX12_longitude_236 mk_X12_mean mlX12_465 in_X12_mean se_X12_mean rfl (md_lt hmd (by decide)) hmd.2.1 rfl rfl (Nat.le_of_ble_eq_true rfl) (mean_at hok hmd hrT hS hq hj) ?_
                    refine rs_aload_n (pc := 239) dX12_longitude_239 rfl ?_
                    refine rs_iload (pc := 240) dX12_longitude_240 rfl ?_
                    refine rs_callV (as := [_]) (pc := 242) dX12_longitude_242 mk_X12_mean mlX12_465 in_X12_mean se_X12_mean rfl (md_lt hmd (by decide)) hmd.2.1 rfl rfl (Nat.le_of_ble_eq_true rfl) (mean_at hok hmd hrT hS hq hi) ?_
                    refine rs_lsub (pc := 245) dX12_longitude_245 ?_
                    rw [aL_sub]
                    refine rs_aload_n (pc := 246) dX12_longitude_246 rfl ?_
                    refine rs_getf (pc := 247) dX12_longitude_247 fX12_138 (md_lt hmd (by decide)) hmd.2.1 rfl ?_
                    refine rs_iload (pc := 250) dX12_longitude_250 rfl ?_
                    refine rs_lald (pc := 252) dX12_longitude_252 (md_lt hmd (by decide)) (md_getl (d := 42) (k := 57) (kd := 1) (n := 256) rfl (by decide) hmd) (vp_in_nI (n := 16 * o2 + o1) (N := 256) (by omega) (by decide)) ?_
                    rw [nI_clamp (show 16 * o2 + o1 < 2 ^ 31 by omega), f3, rle_zle]
                    refine rs_lsub (pc := 253) dX12_longitude_253 ?_
                    rw [aL_sub]
                    refine rs_ladd (pc := 254) dX12_longitude_254 ?_
                    rw [aL_add]
                    refine wk_lst5 (pc := 255) dX12_longitude_255 (by decide) rfl ?_
                    refine wk_iinc7 (v := nI ((LD B k U gg hh T q (i * q + j)).length + 1)) (pc := 257) dX12_longitude_257 (by decide) rfl (nI_1 _) ?_
                    refine wk_iinc9 (v := nI (j + 1)) (pc := 260) dX12_longitude_260 (by decide) rfl (nI_1 j) ?_
                    refine rs_goto (tgt := 77) (pc := 263) dX12_longitude_263 rfl ?_
                    first
                    | (have e1 : LD B k U gg hh T q ((i * q + j) + 1) = LD B k U gg hh T q (i * q + j) := by unfold LD; rw [lst, if_neg (by rw [hno]; decide)]
                       rw [← e1]
                       exact ih (j + 1) _ _ _ _ (by omega) (by omega))
                    | (have e1 : LD B k U gg hh T q ((i * q + j) + 1) = (kT T ((i * q + j) / q), kT T ((i * q + j) % q)) :: LD B k U gg hh T q (i * q + j) := by unfold LD; rw [lst, if_pos hyes]
                       have e2 := ih (j + 1) (.int (nI n1)) (.int (nI n2)) (.int (nI (16 * o2 + o1))) (.int 1) (by omega) (by omega)
                       rw [← Nat.add_assoc, e1, List.map_cons, zsum_cons, List.length_cons, Int.add_comm] at e2
                       rw [show lgV B k U (kT T ((i * q + j) / q), kT T ((i * q + j) % q)) = 1000 * zs B k (kM T j) (T.2.2.1 41 j) / (zc B k (kM T j) (T.2.2.1 41 j) : Int) - 1000 * zs B k (kM T i) (T.2.2.1 41 i) / (zc B k (kM T i) (T.2.2.1 41 i) : Int) - zle U (nO B) o1 o2 from by
                         rw [p1, p2]
                         unfold lgV
                         rw [show (kT T i).2 = nI o1 from eo1, show (kT T j).2 = nI o2 from eo2, nI_clamp (by omega), nI_clamp (by omega)]
                         rfl] at e2
                       exact e2)
set_option maxRecDepth 100000 in
set_option maxHeartbeats 4000000 in
theorem l2_X12_longitude {h : ai_H} {B : Bk} {ln : Nat} {k gg hh x : Int32} {U : Nat → List Int} {V T : Md} {q : Nat} (hok : bk_ok B ln) (hmd : md_at h V) (hRV : RB B V) (hrT : rT T V) (hS : SI B k T (nR B) (nR B) q) (hq : q ≤ 400) (ec : V.1 40 = nI q) (hfin : ∀ c, c < nO B → rfin V U (nO B) c) (hLb : -34669800000000000 ≤ zsum ((LD B k U gg hh T q (q * q)).map (lgV B k U)) ∧ zsum ((LD B k U gg hh T q (q * q)).map (lgV B k U)) ≤ 34669800000000000) (hLl : (LD B k U gg hh T q (q * q)).length ≤ 100000000) : ∀ (m i : Nat) (u9 u10 u11 u12 u13 : Value), i ≤ q → q + 1 ≤ i + m → ai_R MX12_longitude 65 [.ref 307, .int gg, .int hh, .int k, .int x, .long (aL (zsum ((LD B k U gg hh T q (i * q)).map (lgV B k U)))), .float 0, .int (nI (LD B k U gg hh T q (i * q)).length), .int (nI i), u9, u10, u11, u12, u13] [] h (some (.int (uu_long B k U (LD B k U gg hh T q (q * q)) x))) h := by
  intro m
  induction m with
  | zero => intro i u9 u10 u11 u12 u13 h1 h2; exact absurd h2 (by omega)
  | succ m ih =>
    intro i u9 u10 u11 u12 u13 hi0 him
    refine rs_iload (pc := 65) dX12_longitude_65 rfl ?_
    refine rs_aload_n (pc := 67) dX12_longitude_67 rfl ?_
    refine rs_getf (pc := 68) dX12_longitude_68 fX12_398 (md_lt hmd (by decide)) hmd.2.1 rfl ?_
    refine rs_icmp_ge (tgt := 272) (pc := 71) dX12_longitude_71 rfl (fun c_71 => ?_) (fun c_71 => ?_)
    · have hie : i = q := lp_exit ec (by omega) hi0 c_71
      subst hie
      refine rs_iload (pc := 272) dX12_longitude_272 rfl ?_
      refine rs_iconst (v := 1) (pc := 274) dX12_longitude_274 rfl ?_
      refine rs_icmp_ne (tgt := 283) (pc := 275) dX12_longitude_275 rfl (fun c_275 => ?_) (fun c_275 => ?_)
      · refine rs_iload (pc := 283) dX12_longitude_283 rfl ?_
        refine rs_if_ne (tgt := 293) (pc := 285) dX12_longitude_285 rfl (fun c_285 => ?_) (fun c_285 => ?_)
        · rw [nI_z (by omega)] at c_285
          refine rs_lload (pc := 293) dX12_longitude_293 rfl ?_
          refine rs_iload (pc := 295) dX12_longitude_295 rfl ?_
          refine rs_i2l (pc := 297) dX12_longitude_297 ?_
          refine rs_callS (as := [_, _]) (pc := 298) dX12_longitude_298 mk_X12_floorOf mlX12_403 st_X12_floorOf rfl rfl (Nat.le_of_ble_eq_true rfl) (c_X12_floorOf (i64_ne0 (by rw [nI_z (by omega)]; exact c_285))) ?_
          rw [nI_i2l (by omega), aL_fl (by omega) (by omega) (by omega) (by omega)]
          refine rs_l2i (pc := 301) dX12_longitude_301 ?_
          rw [aL_l2i]
          exact wk_iret (pc := 302) dX12_longitude_302 rfl (by unfold uu_long; first | rw [if_pos c_275] | (rw [if_neg c_275, if_pos c_285]; done) | rw [if_neg c_275, if_neg c_285]) (rfl)
        · rw [nI_z (by omega)] at c_285
          refine rs_ldc (pc := 288) dX12_longitude_288 cnX12_233 ?_
          refine rs_goto (tgt := 302) (pc := 290) dX12_longitude_290 rfl ?_
          exact wk_iret (pc := 302) dX12_longitude_302 rfl (by unfold uu_long; first | rw [if_pos c_275] | (rw [if_neg c_275, if_pos c_285]; done) | rw [if_neg c_275, if_neg c_285]) (rfl)
      · refine rs_iload (pc := 278) dX12_longitude_278 rfl ?_
        refine rs_goto (tgt := 302) (pc := 280) dX12_longitude_280 rfl ?_
        exact wk_iret (pc := 302) dX12_longitude_302 rfl (by unfold uu_long; first | rw [if_pos c_275] | (rw [if_neg c_275, if_pos c_285]; done) | rw [if_neg c_275, if_neg c_285]) (rfl)
    · have hi : i < q := lp_go ec (by omega) c_71
      refine rs_iconst (v := 0) (pc := 74) dX12_longitude_74 rfl ?_
      refine wk_ist9 (pc := 75) dX12_longitude_75 (by decide) rfl ?_
      refine l1_X12_longitude hok hmd hRV hrT hS hq ec hfin hi (fun v10 v11 v12 v13 => ?_) (q + 1) 0 _ _ _ _ (by omega) (by omega)
      refine wk_iinc8 (v := nI (i + 1)) (pc := 266) dX12_longitude_266 (by decide) rfl (nI_1 i) ?_
      refine rs_goto (tgt := 65) (pc := 269) dX12_longitude_269 rfl ?_
      have e := ih (i + 1) (.int (nI q)) v10 v11 v12 v13 (by omega) (by omega)
      rw [Nat.add_mul, Nat.one_mul] at e
      exact e
set_option maxRecDepth 100000 in
set_option maxHeartbeats 4000000 in
theorem c_X12_longitude {h : ai_H} {S : Md} {B : Bk} {ln : Nat} {U : Nat → List Int} {k : Int32} (hok : bk_ok B ln) (hRB : RB B S) (hl : lrow U) (hU : ∀ T V q, q ≤ 400 → SI B k T (nR B) (nR B) q → MI T q (q * q) V → mrow V U) (hmd : md_at h S) (gg hh x : Int32) : ai_QM MX12_longitude [.ref 307, .int gg, .int hh, .int k, .int x] h (fun r g => md_ext h g ∧ (∃ V, md_at g V ∧ mq S V) ∧ (((bi_in gg 0 3 = 0 ∨ bi_in hh 0 3 = 0 ∨ gg = hh ∨ bi_in k 0 9999 = 0 ∨ bi_in x 0 1 = 0) ∧ r = some (.int (-2000000000))) ∨ (¬ (bi_in gg 0 3 = 0 ∨ bi_in hh 0 3 = 0 ∨ gg = hh ∨ bi_in k 0 9999 = 0 ∨ bi_in x 0 1 = 0) ∧ ∃ T q, SI B k T (nR B) (nR B) q ∧ r = some (.int (uu_long B k U (LD B k U gg hh T q (q * q)) x))))) := by
  refine qm_of (ls := [.ref 307, .int gg, .int hh, .int k, .int x, .float 0, .float 0, .float 0, .float 0, .float 0, .float 0, .float 0, .float 0, .float 0]) (by decide) (by simp [ai_en, Value.category]) (by rfl) ?_
  refine wq (fun _ _ kk => rs_iload_n (pc := 0) dX12_longitude_0 rfl kk) ?_
  refine wq (fun _ _ kk => rs_i2l (pc := 1) dX12_longitude_1 kk) ?_
  refine wq (fun _ _ kk => rs_lconst (v := 0) (pc := 2) dX12_longitude_2 rfl kk) ?_
  refine wq (fun _ _ kk => rs_ldc2 (pc := 3) dX12_longitude_3 cnX12_208 kk) ?_
  refine wq (fun _ _ kk => rs_callS (as := [_, _, _]) (pc := 6) dX12_longitude_6 mk_X12_in mlX12_181 st_X12_in rfl rfl (Nat.le_of_ble_eq_true rfl) (c_X12_inI gg 0 3) kk) ?_
  refine wq_br (fun _ _ kt kf => rs_if_eq (tgt := 47) (pc := 9) dX12_longitude_9 rfl kt kf) (fun c_9 => ?_) (fun c_9 => ?_)
  · refine wq (fun _ _ kk => rs_ldcw (pc := 47) dX12_longitude_47 cnX12_425 kk) ?_
    refine wq_ret ?_ (rs_iret (pc := 50) dX12_longitude_50 rfl)
    exact ⟨md_ext.rf, ⟨S, hmd, mq.rf⟩, Or.inl ⟨by first | exact Or.inl c_9 | exact Or.inr (Or.inl c_21) | exact Or.inr (Or.inr (Or.inl c_26)) | exact Or.inr (Or.inr (Or.inr (Or.inl c_33))) | exact Or.inr (Or.inr (Or.inr (Or.inr c_44))), rfl⟩⟩
  · refine wq (fun _ _ kk => rs_iload_n (pc := 12) dX12_longitude_12 rfl kk) ?_
    refine wq (fun _ _ kk => rs_i2l (pc := 13) dX12_longitude_13 kk) ?_
    refine wq (fun _ _ kk => rs_lconst (v := 0) (pc := 14) dX12_longitude_14 rfl kk) ?_
    refine wq (fun _ _ kk => rs_ldc2 (pc := 15) dX12_longitude_15 cnX12_208 kk) ?_
    refine wq (fun _ _ kk => rs_callS (as := [_, _, _]) (pc := 18) dX12_longitude_18 mk_X12_in mlX12_181 st_X12_in rfl rfl (Nat.le_of_ble_eq_true rfl) (c_X12_inI hh 0 3) kk) ?_
    refine wq_br (fun _ _ kt kf => rs_if_eq (tgt := 47) (pc := 21) dX12_longitude_21 rfl kt kf) (fun c_21 => ?_) (fun c_21 => ?_)
    · refine wq (fun _ _ kk => rs_ldcw (pc := 47) dX12_longitude_47 cnX12_425 kk) ?_
      refine wq_ret ?_ (rs_iret (pc := 50) dX12_longitude_50 rfl)
      exact ⟨md_ext.rf, ⟨S, hmd, mq.rf⟩, Or.inl ⟨by first | exact Or.inl c_9 | exact Or.inr (Or.inl c_21) | exact Or.inr (Or.inr (Or.inl c_26)) | exact Or.inr (Or.inr (Or.inr (Or.inl c_33))) | exact Or.inr (Or.inr (Or.inr (Or.inr c_44))), rfl⟩⟩
    · refine wq (fun _ _ kk => rs_iload_n (pc := 24) dX12_longitude_24 rfl kk) ?_
      refine wq (fun _ _ kk => rs_iload_n (pc := 25) dX12_longitude_25 rfl kk) ?_
      refine wq_br (fun _ _ kt kf => rs_icmp_eq (tgt := 47) (pc := 26) dX12_longitude_26 rfl kt kf) (fun c_26 => ?_) (fun c_26 => ?_)
      · refine wq (fun _ _ kk => rs_ldcw (pc := 47) dX12_longitude_47 cnX12_425 kk) ?_
        refine wq_ret ?_ (rs_iret (pc := 50) dX12_longitude_50 rfl)
        exact ⟨md_ext.rf, ⟨S, hmd, mq.rf⟩, Or.inl ⟨by first | exact Or.inl c_9 | exact Or.inr (Or.inl c_21) | exact Or.inr (Or.inr (Or.inl c_26)) | exact Or.inr (Or.inr (Or.inr (Or.inl c_33))) | exact Or.inr (Or.inr (Or.inr (Or.inr c_44))), rfl⟩⟩
      · refine wq (fun _ _ kk => rs_iload_n (pc := 29) dX12_longitude_29 rfl kk) ?_
        refine wq (fun _ _ kk => rs_callS (as := [_]) (pc := 30) dX12_longitude_30 mk_X12_isWeek mlX12_230 st_X12_isWeek rfl rfl (Nat.le_of_ble_eq_true rfl) (c_X12_isWeek _) kk) ?_
        refine wq_br (fun _ _ kt kf => rs_if_eq (tgt := 47) (pc := 33) dX12_longitude_33 rfl kt kf) (fun c_33 => ?_) (fun c_33 => ?_)
        · refine wq (fun _ _ kk => rs_ldcw (pc := 47) dX12_longitude_47 cnX12_425 kk) ?_
          refine wq_ret ?_ (rs_iret (pc := 50) dX12_longitude_50 rfl)
          exact ⟨md_ext.rf, ⟨S, hmd, mq.rf⟩, Or.inl ⟨by first | exact Or.inl c_9 | exact Or.inr (Or.inl c_21) | exact Or.inr (Or.inr (Or.inl c_26)) | exact Or.inr (Or.inr (Or.inr (Or.inl c_33))) | exact Or.inr (Or.inr (Or.inr (Or.inr c_44))), rfl⟩⟩
        · refine wq (fun _ _ kk => rs_iload (pc := 36) dX12_longitude_36 rfl kk) ?_
          refine wq (fun _ _ kk => rs_i2l (pc := 38) dX12_longitude_38 kk) ?_
          refine wq (fun _ _ kk => rs_lconst (v := 0) (pc := 39) dX12_longitude_39 rfl kk) ?_
          refine wq (fun _ _ kk => rs_lconst (v := 1) (pc := 40) dX12_longitude_40 rfl kk) ?_
          refine wq (fun _ _ kk => rs_callS (as := [_, _, _]) (pc := 41) dX12_longitude_41 mk_X12_in mlX12_181 st_X12_in rfl rfl (Nat.le_of_ble_eq_true rfl) (c_X12_inI x 0 1) kk) ?_
          refine wq_bn (fun _ _ kt kf => rs_if_ne (tgt := 51) (pc := 44) dX12_longitude_44 rfl kt kf) (fun c_44 => ?_) (fun c_44 => ?_)
          · refine wq (fun _ _ kk => rs_aload_n (pc := 51) dX12_longitude_51 rfl kk) ?_
            refine wq (fun _ _ kk => rs_iload_n (pc := 52) dX12_longitude_52 rfl kk) ?_
            have hgu : ¬ (bi_in gg 0 3 = 0 ∨ bi_in hh 0 3 = 0 ∨ gg = hh ∨ bi_in k 0 9999 = 0 ∨ bi_in x 0 1 = 0) := by rintro (q | q | q | q | q); exact c_9 q; exact c_21 q; exact c_26 q; exact c_33 q; exact c_44 q
            obtain ⟨rv_53, hc_53, ⟨rfl, ee_53, T, V, q, hqR, ec, hsg, hSI, hmd_53, hrT, hfin⟩, hm_53⟩ := c_X12_ropes hok hRB (bi_in_9 c_33).2 hl hU hmd
            refine wq (fun _ _ kk => rs_callV (as := [_]) (pc := 53) dX12_longitude_53 mk_X12_ropes mlX12_443 in_X12_ropes se_X12_ropes rfl (md_lt hmd (by decide)) hmd.2.1 rfl rfl (Nat.le_of_ble_eq_true rfl) (hm_53) kk) ?_
            replace hmd := hmd_53
            have E_53 := (md_ext.rf).trans ee_53
            refine wq (fun _ _ kk => rs_lconst (v := 0) (pc := 56) dX12_longitude_56 rfl kk) ?_
            refine wq (fun _ _ kk => wk_lst5 (pc := 57) dX12_longitude_57 (by decide) rfl kk) ?_
            refine wq (fun _ _ kk => rs_iconst (v := 0) (pc := 59) dX12_longitude_59 rfl kk) ?_
            refine wq (fun _ _ kk => wk_ist7 (pc := 60) dX12_longitude_60 (by decide) rfl kk) ?_
            refine wq (fun _ _ kk => rs_iconst (v := 0) (pc := 62) dX12_longitude_62 rfl kk) ?_
            refine wq (fun _ _ kk => wk_ist8 (pc := 63) dX12_longitude_63 (by decide) rfl kk) ?_
            have hq4 : q ≤ 400 := Nat.le_trans hqR hok.2.2.2.2.1.2.1
            have hqq : q * q ≤ 400 * 400 := Nat.mul_le_mul hq4 hq4
            have hn16 := hok.2.1.2.1
            have hLl : (LD B k U gg hh T q (q * q)).length ≤ 100000000 := by unfold LD; rw [lst_len]; exact Nat.le_trans (cN_le _ _) (by omega)
            have hLb := long_b (g := gg) (h := hh) (L := LD B k U gg hh T q (q * q)) hok hl (fun y hy => by
              obtain ⟨t, t1, t2, t3⟩ := (mem_lst _).1 hy
              rw [t3] at t2
              obtain ⟨⟨a, a1, a2⟩, -⟩ := zc_obs hok (of_decide_eq_true t2).1
              exact ⟨t2, by rw [a2, nI_clamp (by omega)]; exact a1⟩) hLl
            refine ⟨_, _, ⟨md_ext.rf.trans ee_53, ⟨V, hmd, hsg.mq.trans hrT.mq⟩, Or.inr ⟨hgu, T, q, hSI, rfl⟩⟩, ?_⟩
            have e := l2_X12_longitude (gg := gg) (hh := hh) (x := x) hok hmd (hRB.of (hsg.sb.trans hrT.sb)) hrT hSI hq4 (by rw [hrT.1]; exact ec) hfin hLb hLl (q + 1) 0 (.float 0) (.float 0) (.float 0) (.float 0) (.float 0) (by omega) (by omega)
            rw [Nat.zero_mul] at e
            exact e
          · refine wq (fun _ _ kk => rs_ldcw (pc := 47) dX12_longitude_47 cnX12_425 kk) ?_
            refine wq_ret ?_ (rs_iret (pc := 50) dX12_longitude_50 rfl)
            exact ⟨md_ext.rf, ⟨S, hmd, mq.rf⟩, Or.inl ⟨by first | exact Or.inl c_9 | exact Or.inr (Or.inl c_21) | exact Or.inr (Or.inr (Or.inl c_26)) | exact Or.inr (Or.inr (Or.inr (Or.inl c_33))) | exact Or.inr (Or.inr (Or.inr (Or.inr c_44))), rfl⟩⟩
