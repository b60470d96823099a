/-! 38: what lies beside the book; measure, tie (walks laid by wip/whole/p38.py) -/
def rd_fs (t : Nat) (S : Md) : List Value := [.ref t, .int (S.1 1), .int (S.1 2), .int (S.1 3), .int (S.1 4), .int (S.1 5), .int (S.1 6), .int (S.1 7), .int (S.1 8), .int (S.1 9), .int (S.1 10), .int (S.1 11), .int (S.1 12), .ref 18, .int (S.1 14), .ref 19, .int (S.1 16)]
def rd_tab : List (Nat × Nat × Nat) := [(0, 0, 0), (13, 0, 412), (15, 0, 64)]
abbrev rd_at (t : Nat) (h : ai_H) (S : Md) : Prop := mo_at 16 5 3 (rd_fs t) rd_tab h S
theorem rd_nd : ∀ d : Nat, d < 3 → ∀ e : Nat, e < 3 → (rd_tab.map (·.1))[d]? = (rd_tab.map (·.1))[e]? → d = e := by decide +kernel
def wo_fs (c : Value) (S : Md) : List Value := [c, .int (S.1 1), .int (S.1 2), .int (S.1 3), .long S.2.1, .ref 302, .ref 303, .ref 304, .ref 305]
def wo_tab : List (Nat × Nat × Nat) := [(5, 0, 400), (6, 0, 400), (7, 1, 400)]
abbrev wo_at (c : Value) (h : ai_H) (S : Md) : Prop := mo_at 301 10 3 (wo_fs c) wo_tab h S
theorem wo_nd : ∀ d : Nat, d < 3 → ∀ e : Nat, e < 3 → (wo_tab.map (·.1))[d]? = (wo_tab.map (·.1))[e]? → d = e := by decide +kernel
theorem cl_keep {h g : ai_H} {S : Md} (hm : cl_at h S) (m : g.1 = h.1) (o : ∀ j, 22 ≤ j → j ≤ 34 → g.2.2 j = h.2.2 j) : cl_at g S := mo_keep hm m (fun j a b => o j a b)
theorem rp_keep {h g : ai_H} {S : Md} (hm : rp_at h S) (m : g.1 = h.1) (o : ∀ j, 294 ≤ j → j ≤ 297 → g.2.2 j = h.2.2 j) : rp_at g S := mo_keep hm m (fun j a b => o j a b)
theorem bo_keep {h g : ai_H} {S : Md} (hm : bo_at h S) (m : g.1 = h.1) (o : ∀ j, 298 ≤ j → j ≤ 300 → g.2.2 j = h.2.2 j) : bo_at g S := mo_keep hm m (fun j a b => o j a b)
theorem sc_keep {h g : ai_H} {S : Md} (hm : sc_at h S) (m : g.1 = h.1) (o : ∀ j, 20 ≤ j → j ≤ 21 → g.2.2 j = h.2.2 j) : sc_at g S := mo_keep hm m (fun j a b => o j a b)
theorem rd_keep {t : Nat} {h g : ai_H} {S : Md} (hm : rd_at t h S) (m : g.1 = h.1) (o : ∀ j, 16 ≤ j → j ≤ 19 → g.2.2 j = h.2.2 j) : rd_at t g S := mo_keep hm m (fun j a b => o j a b)
theorem wo_keep {c : Value} {h g : ai_H} {S : Md} (hm : wo_at c h S) (m : g.1 = h.1) (o : ∀ j, 301 ≤ j → j ≤ 304 → g.2.2 j = h.2.2 j) : wo_at c g S := mo_keep hm m (fun j a b => o j a b)
theorem x_lt {h : ai_H} {tb lm : Int32} {j : Nat} (hx : x_at h tb lm) (hj : j ≤ 306) : j < h.1 := Nat.lt_of_le_of_lt hj hx.1
/-- all but cells lo to hi is the same -/
def fr (lo hi : Nat) (h g : ai_H) : Prop := g.1 = h.1 ∧ g.2.1 = h.2.1 ∧ ∀ j, (j < lo ∨ hi < j) → g.2.2 j = h.2.2 j
theorem fr.rf {lo hi : Nat} {h : ai_H} : fr lo hi h h := ⟨rfl, rfl, fun _ _ => rfl⟩
theorem fr.trans {lo hi : Nat} {h g k : ai_H} (a : fr lo hi h g) (b : fr lo hi g k) : fr lo hi h k := ⟨b.1.trans a.1, b.2.1.trans a.2.1, fun j hj => (b.2.2 j hj).trans (a.2.2 j hj)⟩
theorem fr.up {lo hi lo2 hi2 : Nat} {h g : ai_H} (a : fr lo hi h g) (h1 : lo2 ≤ lo) (h2 : hi ≤ hi2) : fr lo2 hi2 h g := ⟨a.1, a.2.1, fun j hj => a.2.2 j (by omega)⟩
/-- what lies beside the book, whatever it holds -/
def scr (h : ai_H) : Prop := (∃ f, h.2.2 15 = .inl (1, 10, .inr (.inl f))) ∧ (∃ t S, (t = 17 ∨ t = 13) ∧ rd_at t h S) ∧ (∃ S, sc_at h S) ∧ (∃ S, cl_at h S) ∧ (∃ T, mt_at h T) ∧ (∃ S, rp_at h S) ∧ (∃ S, bo_at h S) ∧ (∃ c S t, (c = .null ∨ c = .ref 22) ∧ wo_at c h S ∧ h.2.2 305 = ty_cell t) ∧ ∃ t, h.2.2 306 = ty_cell t
/-- cells, meetings and ropes changed -/
theorem scr.tie {h g : ai_H} (hs : scr h) (e : fr 22 297 h g) (h1 : ∃ S, cl_at g S) (h2 : ∃ T, mt_at g T) (h3 : ∃ S, rp_at g S) : scr g := by
  obtain ⟨⟨f, a1⟩, ⟨t, S2, a2, a2'⟩, ⟨S3, a3⟩, -, -, -, ⟨S7, a7⟩, ⟨c, S8, t8, a8, a8', a8''⟩, ⟨t9, a9⟩⟩ := hs
  exact ⟨⟨f, (e.2.2 _ (by decide)).trans a1⟩, ⟨t, S2, a2, rd_keep a2' e.1 (fun j _ _ => e.2.2 j (by omega))⟩, ⟨S3, sc_keep a3 e.1 (fun j _ _ => e.2.2 j (by omega))⟩, h1, h2, h3, ⟨S7, bo_keep a7 e.1 (fun j _ _ => e.2.2 j (by omega))⟩, ⟨c, S8, t8, a8, wo_keep a8' e.1 (fun j _ _ => e.2.2 j (by omega)), (e.2.2 _ (by decide)).trans a8''⟩, ⟨t9, (e.2.2 _ (by decide)).trans a9⟩⟩
theorem scr.meet {h g : ai_H} (hs : scr h) (e : fr 22 293 h g) (h1 : ∃ S, cl_at g S) (h2 : ∃ T, mt_at g T) : scr g := by
  obtain ⟨-, -, -, -, -, ⟨S, a⟩, -⟩ := id hs
  exact hs.tie (e.up (by decide) (by decide)) h1 h2 ⟨S, rp_keep a e.1 (fun j _ _ => e.2.2 j (by omega))⟩
theorem scr.gath {h g : ai_H} (hs : scr h) (e : fr 22 34 h g) (h1 : ∃ S, cl_at g S) : scr g := by
  obtain ⟨-, -, -, -, ⟨T, a⟩, -⟩ := id hs
  exact hs.meet (e.up (by decide) (by decide)) h1 ⟨T, mt_keep a e.1 (fun j _ _ => e.2.2 j (by omega))⟩
theorem scr.tal {h g : ai_H} (hs : scr h) (e : fr 306 306 h g) (h1 : ∃ t, g.2.2 306 = ty_cell t) : scr g := by
  obtain ⟨⟨f, a1⟩, ⟨t, S2, a2, a2'⟩, ⟨S3, a3⟩, ⟨S4, a4⟩, ⟨T5, a5⟩, ⟨S6, a6⟩, ⟨S7, a7⟩, ⟨c, S8, t8, a8, a8', a8''⟩, -⟩ := hs
  exact ⟨⟨f, (e.2.2 _ (by decide)).trans a1⟩, ⟨t, S2, a2, rd_keep a2' e.1 (fun j _ _ => e.2.2 j (by omega))⟩, ⟨S3, sc_keep a3 e.1 (fun j _ _ => e.2.2 j (by omega))⟩, ⟨S4, cl_keep a4 e.1 (fun j _ _ => e.2.2 j (by omega))⟩, ⟨T5, mt_keep a5 e.1 (fun j _ _ => e.2.2 j (by omega))⟩, ⟨S6, rp_keep a6 e.1 (fun j _ _ => e.2.2 j (by omega))⟩, ⟨S7, bo_keep a7 e.1 (fun j _ _ => e.2.2 j (by omega))⟩, ⟨c, S8, t8, a8, wo_keep a8' e.1 (fun j _ _ => e.2.2 j (by omega)), (e.2.2 _ (by decide)).trans a8''⟩, h1⟩
theorem dX11_measure_0 : decode cX11_measure 0 = .ok (.aload_n 0, 1) := by decide +kernel
theorem dX11_measure_1 : decode cX11_measure 1 = .ok (.getfield 58, 3) := by decide +kernel
theorem dX11_measure_4 : decode cX11_measure 4 = .ok (.aload_n 0, 1) := by decide +kernel
theorem dX11_measure_5 : decode cX11_measure 5 = .ok (.getfield 10, 3) := by decide +kernel
theorem dX11_measure_8 : decode cX11_measure 8 = .ok (.iload_n 1, 1) := by decide +kernel
theorem dX11_measure_9 : decode cX11_measure 9 = .ok (.invokevirtual 248, 3) := by decide +kernel
theorem dX11_measure_12 : decode cX11_measure 12 = .ok (.aload_n 0, 1) := by decide +kernel
theorem dX11_measure_13 : decode cX11_measure 13 = .ok (.getfield 65, 3) := by decide +kernel
theorem dX11_measure_16 : decode cX11_measure 16 = .ok (.aload_n 0, 1) := by decide +kernel
theorem dX11_measure_17 : decode cX11_measure 17 = .ok (.getfield 58, 3) := by decide +kernel
theorem dX11_measure_20 : decode cX11_measure 20 = .ok (.invokevirtual 339, 3) := by decide +kernel
theorem dX11_measure_23 : decode cX11_measure 23 = .ok (.return_, 1) := by decide +kernel
set_option maxRecDepth 100000 in
set_option maxHeartbeats 4000000 in
theorem c_X11_measure {h : ai_H} {tb lm : Int32} {B : Bk} {ln : Nat} (hx : x_at h tb lm) (hB : bk_at h 1 B) (hok : bk_ok B ln) {S0 : Md} {T0 : Nat → Ty} (hcl : cl_at h S0) (hmt : mt_at h T0) (wk : Int32) : ai_QM MX11_measure [.ref 0, .int wk] h (fun r g => r = none ∧ fr 22 293 h g ∧ ∃ S z, GI B wk S (nR B) z ∧ cl_at g S ∧ mt_at g (mt_F S z)) := by
  refine qm_of (ls := [.ref 0, .int wk]) (by decide) (by simp [ai_en, Value.category]) (by rfl) ?_
  refine wq (fun _ _ kk => rs_aload_n (pc := 0) dX11_measure_0 rfl kk) ?_
  refine wq (fun _ _ kk => rs_getf (pc := 1) dX11_measure_1 fX11_58 (x_lt hx (by decide)) hx.2 rfl kk) ?_
  refine wq (fun _ _ kk => rs_aload_n (pc := 4) dX11_measure_4 rfl kk) ?_
  refine wq (fun _ _ kk => rs_getf (pc := 5) dX11_measure_5 fX11_10 (x_lt hx (by decide)) hx.2 rfl kk) ?_
  refine wq (fun _ _ kk => rs_iload_n (pc := 8) dX11_measure_8 rfl kk) ?_
  obtain ⟨rv_9, hc_9, ⟨rfl, ee_9, S, z, hzR, hG, hcl_9⟩, hm_9⟩ := c_X2_gather hcl hB (bk_ok_rows hok) (sz := nR B) hok.2.2.2.2.1.2.1 hok.2.2.2.2.1.1 wk
  refine wq (fun _ _ kk => rs_callV (as := [_, _]) (pc := 9) dX11_measure_9 mk_X2_gather mlX11_248 in_X2_gather se_X2_gather rfl (mo_lt hcl (by decide)) hcl.2.1 rfl rfl (Nat.le_of_ble_eq_true rfl) (hm_9) kk) ?_
  replace hcl := hcl_9
  replace hx := x_at.keep hx ee_9.1 (ee_9.2.2 0 (by decide))
  replace hB := hB.keep ee_9.1 (fun j _ _ => ee_9.2.2 j (by omega))
  replace hmt := mt_keep hmt ee_9.1 (fun j _ _ => ee_9.2.2 j (by omega))
  refine wq (fun _ _ kk => rs_aload_n (pc := 12) dX11_measure_12 rfl kk) ?_
  refine wq (fun _ _ kk => rs_getf (pc := 13) dX11_measure_13 fX11_65 (x_lt hx (by decide)) hx.2 rfl kk) ?_
  refine wq (fun _ _ kk => rs_aload_n (pc := 16) dX11_measure_16 rfl kk) ?_
  refine wq (fun _ _ kk => rs_getf (pc := 17) dX11_measure_17 fX11_58 (x_lt hx (by decide)) hx.2 rfl kk) ?_
  obtain ⟨rv_20, hc_20, ⟨rfl, ee_20, hcl_20, hmt_20⟩, hm_20⟩ := c_X4_measure hG.1 (fun c hc => (hG.2.1 c hc).2) hcl hmt
  refine wq (fun _ _ kk => rs_callV (as := [_]) (pc := 20) dX11_measure_20 mk_X4_measure mlX11_339 in_X4_measure se_X4_measure rfl (mt_lt hmt (by decide)) hmt.2.1 rfl rfl (Nat.le_of_ble_eq_true rfl) (hm_20) kk) ?_
  refine wq_ret ?_ (rs_vret (pc := 23) dX11_measure_23 rfl)
  exact ⟨rfl, (fr.up (lo := 22) (hi := 34) ee_9 (by decide) (by decide)).trans (fr.up (lo := 35) (hi := 293) ee_20 (by decide) (by decide)), S, z, hG, hcl_20, hmt_20⟩
/-- the rows of the meetings, as lists -/
theorem LM_rows {B : Bk} {ln : Nat} (hok : bk_ok B ln) {wk : Int32} {S : Md} {z : Nat} (hG : GI B wk S (nR B) z) : lrow (LM B wk S z) ∧ trow (mt_F S z) (LM B wk S z) := by
  refine ⟨fun k hk => ⟨?_, LM_b hok hG hk⟩, fun k hk => mt_F_is hok hG hk⟩
  unfold LM
  rw [List.length_map, lst_len]
  exact Nat.le_trans (cN_le _ _) hG.1.2.1
theorem dX11_tie_0 : decode cX11_tie 0 = .ok (.aload_n 0, 1) := by decide +kernel
theorem dX11_tie_1 : decode cX11_tie 1 = .ok (.getfield 58, 3) := by decide +kernel
theorem dX11_tie_4 : decode cX11_tie 4 = .ok (.aload_n 0, 1) := by decide +kernel
theorem dX11_tie_5 : decode cX11_tie 5 = .ok (.getfield 10, 3) := by decide +kernel
theorem dX11_tie_8 : decode cX11_tie 8 = .ok (.iload_n 2, 1) := by decide +kernel
theorem dX11_tie_9 : decode cX11_tie 9 = .ok (.invokevirtual 248, 3) := by decide +kernel
theorem dX11_tie_12 : decode cX11_tie 12 = .ok (.aload_n 0, 1) := by decide +kernel
theorem dX11_tie_13 : decode cX11_tie 13 = .ok (.getfield 65, 3) := by decide +kernel
theorem dX11_tie_16 : decode cX11_tie 16 = .ok (.aload_n 0, 1) := by decide +kernel
theorem dX11_tie_17 : decode cX11_tie 17 = .ok (.getfield 58, 3) := by decide +kernel
theorem dX11_tie_20 : decode cX11_tie 20 = .ok (.invokevirtual 339, 3) := by decide +kernel
theorem dX11_tie_23 : decode cX11_tie 23 = .ok (.aload_n 0, 1) := by decide +kernel
theorem dX11_tie_24 : decode cX11_tie 24 = .ok (.getfield 72, 3) := by decide +kernel
theorem dX11_tie_27 : decode cX11_tie 27 = .ok (.aload_n 0, 1) := by decide +kernel
theorem dX11_tie_28 : decode cX11_tie 28 = .ok (.getfield 65, 3) := by decide +kernel
theorem dX11_tie_31 : decode cX11_tie 31 = .ok (.aload_n 0, 1) := by decide +kernel
theorem dX11_tie_32 : decode cX11_tie 32 = .ok (.getfield 10, 3) := by decide +kernel
theorem dX11_tie_35 : decode cX11_tie 35 = .ok (.getfield 108, 3) := by decide +kernel
theorem dX11_tie_38 : decode cX11_tie 38 = .ok (.getfield 224, 3) := by decide +kernel
theorem dX11_tie_41 : decode cX11_tie 41 = .ok (.iload_n 1, 1) := by decide +kernel
theorem dX11_tie_42 : decode cX11_tie 42 = .ok (.invokevirtual 342, 3) := by decide +kernel
theorem dX11_tie_45 : decode cX11_tie 45 = .ok (.return_, 1) := by decide +kernel
set_option maxRecDepth 100000 in
set_option maxHeartbeats 4000000 in
theorem c_X11_tie {h : ai_H} {tb lm : Int32} {B : Bk} {ln : Nat} (hx : x_at h tb lm) (hB : bk_at h 1 B) (hok : bk_ok B ln) {S0 R0 : Md} {T0 : Nat → Ty} (hcl : cl_at h S0) (hmt : mt_at h T0) (hrp : rp_at h R0) {gl : Nat} (hgl : gl < nO B) (wk : Int32) : ai_QM MX11_tie [.ref 0, .int (nI gl), .int wk] h (fun r g => r = none ∧ fr 22 297 h g ∧ ∃ S z R, GI B wk S (nR B) z ∧ cl_at g S ∧ mt_at g (mt_F S z) ∧ rp_at g R ∧ rp_led (mt_F S z) (nO B) gl R) := by
  refine qm_of (ls := [.ref 0, .int (nI gl), .int wk]) (by decide) (by simp [ai_en, Value.category]) (by rfl) ?_
  refine wq (fun _ _ kk => rs_aload_n (pc := 0) dX11_tie_0 rfl kk) ?_
  refine wq (fun _ _ kk => rs_getf (pc := 1) dX11_tie_1 fX11_58 (x_lt hx (by decide)) hx.2 rfl kk) ?_
  refine wq (fun _ _ kk => rs_aload_n (pc := 4) dX11_tie_4 rfl kk) ?_
  refine wq (fun _ _ kk => rs_getf (pc := 5) dX11_tie_5 fX11_10 (x_lt hx (by decide)) hx.2 rfl kk) ?_
  refine wq (fun _ _ kk => rs_iload_n (pc := 8) dX11_tie_8 rfl kk) ?_
  obtain ⟨rv_9, hc_9, ⟨rfl, ee_9, S, z, hzR, hG, hcl_9⟩, hm_9⟩ := c_X2_gather hcl hB (bk_ok_rows hok) (sz := nR B) hok.2.2.2.2.1.2.1 hok.2.2.2.2.1.1 wk
  refine wq (fun _ _ kk => rs_callV (as := [_, _]) (pc := 9) dX11_tie_9 mk_X2_gather mlX11_248 in_X2_gather se_X2_gather rfl (mo_lt hcl (by decide)) hcl.2.1 rfl rfl (Nat.le_of_ble_eq_true rfl) (hm_9) kk) ?_
  replace hcl := hcl_9
  replace hx := x_at.keep hx ee_9.1 (ee_9.2.2 0 (by decide))
  replace hB := hB.keep ee_9.1 (fun j _ _ => ee_9.2.2 j (by omega))
  replace hmt := mt_keep hmt ee_9.1 (fun j _ _ => ee_9.2.2 j (by omega))
  replace hrp := rp_keep hrp ee_9.1 (fun j _ _ => ee_9.2.2 j (by omega))
  refine wq (fun _ _ kk => rs_aload_n (pc := 12) dX11_tie_12 rfl kk) ?_
  refine wq (fun _ _ kk => rs_getf (pc := 13) dX11_tie_13 fX11_65 (x_lt hx (by decide)) hx.2 rfl kk) ?_
  refine wq (fun _ _ kk => rs_aload_n (pc := 16) dX11_tie_16 rfl kk) ?_
  refine wq (fun _ _ kk => rs_getf (pc := 17) dX11_tie_17 fX11_58 (x_lt hx (by decide)) hx.2 rfl kk) ?_
  obtain ⟨rv_20, hc_20, ⟨rfl, ee_20, hcl_20, hmt_20⟩, hm_20⟩ := c_X4_measure hG.1 (fun c hc => (hG.2.1 c hc).2) hcl hmt
  refine wq (fun _ _ kk => rs_callV (as := [_]) (pc := 20) dX11_tie_20 mk_X4_measure mlX11_339 in_X4_measure se_X4_measure rfl (mt_lt hmt (by decide)) hmt.2.1 rfl rfl (Nat.le_of_ble_eq_true rfl) (hm_20) kk) ?_
  replace hcl := hcl_20
  replace hmt := hmt_20
  obtain ⟨hlr, htr⟩ := LM_rows hok hG
  replace hx := x_at.keep hx ee_20.1 (ee_20.2.2 0 (by decide))
  replace hB := hB.keep ee_20.1 (fun j _ _ => ee_20.2.2 j (by omega))
  replace hrp := rp_keep hrp ee_20.1 (fun j _ _ => ee_20.2.2 j (by omega))
  refine wq (fun _ _ kk => rs_aload_n (pc := 23) dX11_tie_23 rfl kk) ?_
  refine wq (fun _ _ kk => rs_getf (pc := 24) dX11_tie_24 fX11_72 (x_lt hx (by decide)) hx.2 rfl kk) ?_
  refine wq (fun _ _ kk => rs_aload_n (pc := 27) dX11_tie_27 rfl kk) ?_
  refine wq (fun _ _ kk => rs_getf (pc := 28) dX11_tie_28 fX11_65 (x_lt hx (by decide)) hx.2 rfl kk) ?_
  refine wq (fun _ _ kk => rs_aload_n (pc := 31) dX11_tie_31 rfl kk) ?_
  refine wq (fun _ _ kk => rs_getf (pc := 32) dX11_tie_32 fX11_10 (x_lt hx (by decide)) hx.2 rfl kk) ?_
  refine wq (fun _ _ kk => rs_getf (pc := 35) dX11_tie_35 fX11_108 (bk_lt hB (by decide)) hB.2.1 rfl kk) ?_
  refine wq (fun _ _ kk => rs_getf (pc := 38) dX11_tie_38 fX11_224 (bk_lt hB (by decide)) hB.2.2.1.1 rfl kk) ?_
  rw [hok.2.1.1]
  refine wq (fun _ _ kk => rs_iload_n (pc := 41) dX11_tie_41 rfl kk) ?_
  obtain ⟨rv_42, hc_42, ⟨rfl, ee_42, hmt_42, R, hrp_42, hled⟩, hm_42⟩ := c_X6_lead (mt_ok_is htr hlr) hok.2.1.2.1 hgl hrp hmt
  refine wq (fun _ _ kk => rs_callV (as := [_, _, _]) (pc := 42) dX11_tie_42 mk_X6_lead mlX11_342 in_X6_lead se_X6_lead rfl (mo_lt hrp (by decide)) hrp.2.1 rfl rfl (Nat.le_of_ble_eq_true rfl) (hm_42) kk) ?_
  replace hcl := cl_keep hcl ee_42.1 (fun j _ _ => ee_42.2.2 j (by omega))
  refine wq_ret ?_ (rs_vret (pc := 45) dX11_tie_45 rfl)
  exact ⟨rfl, ((fr.up (lo := 22) (hi := 34) ee_9 (by decide) (by decide)).trans (fr.up (lo := 35) (hi := 293) ee_20 (by decide) (by decide))).trans (fr.up (lo := 294) (hi := 297) ee_42 (by decide) (by decide)), S, z, R, hG, hcl, hmt_42, hrp_42, hled⟩
