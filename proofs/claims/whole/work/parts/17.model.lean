/-! 17: the model: its state, its simple methods (walks laid by wip/whole/p17.py) -/
/-- the model's state: its ints by slot, the long 'draw', its rows of ints and of longs by slot -/
abbrev Md : Type := (Nat → Int32) × Int64 × (Nat → Nat → Int32) × (Nat → Nat → Int64)
def md_fs (S : Md) : List Value := [.int (S.1 0), .int (S.1 1), .int (S.1 2), .int (S.1 3), .int (S.1 4), .int (S.1 5), .ref 308, .ref 309, .ref 310, .ref 311, .ref 312, .ref 313, .ref 314, .ref 315, .ref 316, .ref 317, .ref 318, .ref 319, .ref 320, .ref 321, .ref 322, .ref 323, .int (S.1 22), .int (S.1 23), .int (S.1 24), .int (S.1 25), .int (S.1 26), .int (S.1 27), .int (S.1 28), .int (S.1 29), .ref 324, .ref 325, .ref 326, .ref 327, .ref 328, .ref 329, .ref 330, .ref 331, .ref 332, .ref 333, .int (S.1 40), .ref 334, .ref 335, .ref 336, .ref 337, .ref 338, .ref 339, .ref 340, .ref 341, .ref 342, .ref 343, .ref 344, .ref 345, .ref 346, .ref 347, .ref 348, .ref 349, .ref 350, .ref 351, .ref 352, .int (S.1 60), .ref 353, .ref 354, .ref 355, .ref 356, .ref 357, .ref 358, .long S.2.1, .ref 359, .ref 360, .ref 361, .int (S.1 71), .int (S.1 72)]
/-- the rows in the order of their making: slot, kind, length -/
def md_tab : List (Nat × Nat × Nat) := [(6, 0, 16), (7, 0, 16), (8, 0, 24), (9, 0, 24), (10, 0, 24), (11, 0, 80), (12, 0, 80), (13, 0, 400), (14, 0, 400), (15, 0, 400), (16, 0, 400), (17, 0, 400), (18, 0, 400), (19, 0, 400), (20, 0, 400), (21, 0, 400), (30, 3, 400), (31, 0, 3000), (32, 0, 3000), (33, 0, 10), (34, 0, 120), (35, 0, 120), (36, 0, 120), (37, 0, 402), (38, 1, 10), (39, 1, 300), (41, 0, 400), (42, 0, 400), (43, 0, 400), (44, 0, 400), (45, 0, 400), (46, 0, 400), (47, 0, 400), (48, 1, 400), (49, 1, 400), (50, 0, 256), (51, 0, 256), (52, 0, 256), (53, 1, 256), (54, 1, 256), (55, 1, 256), (56, 1, 256), (57, 1, 256), (58, 0, 256), (59, 0, 256), (61, 0, 9), (62, 0, 9), (63, 0, 9), (64, 0, 16), (65, 1, 62), (66, 2, 400), (68, 0, 15600), (69, 0, 6), (70, 2, 4)]
def md_arr (S : Md) (q : Nat × Nat × Nat) : va_E := if q.2.1 = 1 then .inl (1, q.2.2, .inr (.inl (S.2.2.2 q.1))) else .inl (q.2.1, q.2.2, .inl (S.2.2.1 q.1))
def md_at (h : ai_H) (S : Md) : Prop := 361 < h.1 ∧ h.2.2 307 = .inr (12, md_fs S) ∧ ∀ (d : Nat) (q : Nat × Nat × Nat), md_tab[d]? = some q → h.2.2 (308 + d) = md_arr S q
def md_ext (h g : ai_H) : Prop := g.1 = h.1 ∧ g.2.1 = h.2.1 ∧ ∀ j, (j < 307 ∨ 361 < j) → g.2.2 j = h.2.2 j
theorem md_ext.rf {h : ai_H} : md_ext h h := ⟨rfl, rfl, fun _ _ => rfl⟩
theorem md_ext.trans {h g k : ai_H} (a : md_ext h g) (b : md_ext g k) : md_ext h k := ⟨b.1.trans a.1, b.2.1.trans a.2.1, fun j hj => (b.2.2 j hj).trans (a.2.2 j hj)⟩
theorem md_ext_of {h g : ai_H} {q : Nat} (m : g.1 = h.1) (s : g.2.1 = h.2.1) (o : ∀ j, j ≠ q → g.2.2 j = h.2.2 j) (hq : 307 ≤ q ∧ q ≤ 361) : md_ext h g := ⟨m, s, fun j hj => o j (by omega)⟩
theorem md_lt {h : ai_H} {S : Md} {j : Nat} (hmd : md_at h S) (hj : j ≤ 361) : j < h.1 := Nat.lt_of_le_of_lt hj hmd.1
def md_si (S : Md) (k : Nat) (v : Int32) : Md := (upd S.1 k v, S.2)
def md_dl (S : Md) (v : Int64) : Md := (S.1, v, S.2.2)
def md_ai (S : Md) (k : Nat) (f : Nat → Int32) : Md := (S.1, S.2.1, va_up S.2.2.1 k f, S.2.2.2)
def md_al (S : Md) (k : Nat) (f : Nat → Int64) : Md := (S.1, S.2.1, S.2.2.1, va_up S.2.2.2 k f)
theorem md_at_si {h g : ai_H} {S : Md} {k : Nat} {v : Int32} (hmd : md_at h S) (m : g.1 = h.1) (e : g.2.2 307 = .inr (12, (md_fs S).set k (.int v))) (o : ∀ j, j ≠ 307 → g.2.2 j = h.2.2 j) (hk : (md_fs S).set k (.int v) = md_fs (md_si S k v)) : md_at g (md_si S k v) :=
  ⟨by rw [m]; exact hmd.1, by rw [e, hk], fun d q hq => (o _ (by omega)).trans (hmd.2.2 d q hq)⟩
theorem md_at_dl {h g : ai_H} {S : Md} {k : Nat} {v : Int64} (hmd : md_at h S) (m : g.1 = h.1) (e : g.2.2 307 = .inr (12, (md_fs S).set k (.long v))) (o : ∀ j, j ≠ 307 → g.2.2 j = h.2.2 j) (hk : (md_fs S).set k (.long v) = md_fs (md_dl S v)) : md_at g (md_dl S v) :=
  ⟨by rw [m]; exact hmd.1, by rw [e, hk], fun d q hq => (o _ (by omega)).trans (hmd.2.2 d q hq)⟩
theorem md_nd : ∀ d : Nat, d < 54 → ∀ e : Nat, e < 54 → (md_tab.map (·.1))[d]? = (md_tab.map (·.1))[e]? → d = e := by decide +kernel
theorem md_one {d e : Nat} {q r : Nat × Nat × Nat} (h1 : md_tab[d]? = some q) (h2 : md_tab[e]? = some r) (hne : e ≠ d) : r.1 ≠ q.1 := by
  intro z
  have l1 : d < 54 := (List.getElem?_eq_some_iff.mp h1).1
  have l2 : e < 54 := (List.getElem?_eq_some_iff.mp h2).1
  exact hne (md_nd e l2 d l1 (by rw [List.getElem?_map, List.getElem?_map, h1, h2]; simp [z]))
theorem md_at_ai {h g : ai_H} {S : Md} {d k kd n : Nat} {f : Nat → Int32} (hq : md_tab[d]? = some (k, kd, n)) (hkd : kd ≠ 1) (hmd : md_at h S) (m : g.1 = h.1) (e : g.2.2 (308 + d) = .inl (kd, n, .inl f)) (o : ∀ j, j ≠ 308 + d → g.2.2 j = h.2.2 j) : md_at g (md_ai S k f) := by
  refine ⟨by rw [m]; exact hmd.1, (o _ (by omega)).trans hmd.2.1, fun d' q' hq' => ?_⟩
  by_cases hd : d' = d
  · subst hd
    cases Option.some.inj (hq'.symm.trans hq)
    rw [e]
    simp [md_arr, hkd, md_ai, va_up]
  · rw [o _ (by omega), hmd.2.2 d' q' hq']
    have hne := md_one hq hq' hd
    simp only [md_arr, md_ai, va_up, if_neg hne]
theorem md_at_al {h g : ai_H} {S : Md} {d k kd n : Nat} {f : Nat → Int64} (hq : md_tab[d]? = some (k, kd, n)) (hkd : kd = 1) (hmd : md_at h S) (m : g.1 = h.1) (e : g.2.2 (308 + d) = .inl (kd, n, .inr (.inl f))) (o : ∀ j, j ≠ 308 + d → g.2.2 j = h.2.2 j) : md_at g (md_al S k f) := by
  refine ⟨by rw [m]; exact hmd.1, (o _ (by omega)).trans hmd.2.1, fun d' q' hq' => ?_⟩
  by_cases hd : d' = d
  · subst hd
    cases Option.some.inj (hq'.symm.trans hq)
    rw [e]
    simp [md_arr, hkd, md_al, va_up]
  · rw [o _ (by omega), hmd.2.2 d' q' hq']
    have hne := md_one hq hq' hd
    simp only [md_arr, md_al, va_up, if_neg hne]
/-- the end of a method of the model: the answer, the model's state; nothing else has changed -/
def md_q (h : ai_H) (r0 : Option Value) (S : Md) : Option Value → ai_H → Prop := fun r g => r = r0 ∧ md_ext h g ∧ md_at g S
def bi_inL (a b c : Int64) : Int32 := if a < b then 0 else if c < a then 0 else 1
def bi_fl (a b : Int64) : Int64 := if 0 ≤ a - a / b * b then a / b else a / b - 1
theorem bi_inL_b (a b c : Int64) : bi_inL a b c = 0 ∨ bi_inL a b c = 1 := by
  unfold bi_inL
  split
  · exact Or.inl rfl
  · split
    · exact Or.inl rfl
    · exact Or.inr rfl
theorem bi_inL_of {a b c : Int32} : bi_inL a.toInt64 b.toInt64 c.toInt64 = bi_in a b c := by
  unfold bi_inL bi_in
  simp only [Int64.lt_iff_toInt_lt, Int32.toInt_toInt64, Int32.lt_iff_toInt_lt]
theorem dX12_in_0 : decode cX12_in 0 = .ok (.lload_n 0, 1) := by decide +kernel
theorem dX12_in_1 : decode cX12_in 1 = .ok (.lload_n 2, 1) := by decide +kernel
theorem dX12_in_2 : decode cX12_in 2 = .ok (.lcmp, 1) := by decide +kernel
theorem dX12_in_3 : decode cX12_in 3 = .ok (.ifCond .lt 14, 3) := by decide +kernel
theorem dX12_in_6 : decode cX12_in 6 = .ok (.lload_n 0, 1) := by decide +kernel
theorem dX12_in_7 : decode cX12_in 7 = .ok (.lload 4, 2) := by decide +kernel
theorem dX12_in_9 : decode cX12_in 9 = .ok (.lcmp, 1) := by decide +kernel
theorem dX12_in_10 : decode cX12_in 10 = .ok (.ifCond .gt 7, 3) := by decide +kernel
theorem dX12_in_13 : decode cX12_in 13 = .ok (.iconst 1, 1) := by decide +kernel
theorem dX12_in_14 : decode cX12_in 14 = .ok (.goto 4, 3) := by decide +kernel
theorem dX12_in_17 : decode cX12_in 17 = .ok (.iconst 0, 1) := by decide +kernel
theorem dX12_in_18 : decode cX12_in 18 = .ok (.ireturn, 1) := by decide +kernel
set_option maxRecDepth 100000 in
set_option maxHeartbeats 4000000 in
theorem c_X12_in {h : ai_H} {a b c : Int64} : ai_Met MX12_in [.long a, .long b, .long c] h (some (.int (bi_inL a b c))) h := by
  refine ai_met (ls := [.long a, .float 0, .long b, .float 0, .long c, .float 0]) (by decide) (by simp [ai_en, Value.category]) (by rfl) ?_
  refine rs_lload_n (pc := 0) dX12_in_0 rfl ?_
  refine rs_lload_n (pc := 1) dX12_in_1 rfl ?_
  refine wk_lcmp_lt (tgt := 17) (pc := 2) dX12_in_2 dX12_in_3 rfl (fun c_2 => ?_) (fun c_2 => ?_)
  · refine rs_iconst (v := 0) (pc := 17) dX12_in_17 rfl ?_
    exact wk_zret (pc := 18) dX12_in_18 rfl (Or.inl rfl) (by simp [bi_inL, c_2]) (rfl)
  · refine rs_lload_n (pc := 6) dX12_in_6 rfl ?_
    refine rs_lload (pc := 7) dX12_in_7 rfl ?_
    refine wk_lcmp_gt (tgt := 17) (pc := 9) dX12_in_9 dX12_in_10 rfl (fun c_9 => ?_) (fun c_9 => ?_)
    · refine rs_iconst (v := 0) (pc := 17) dX12_in_17 rfl ?_
      exact wk_zret (pc := 18) dX12_in_18 rfl (Or.inl rfl) (by simp [bi_inL, c_2, c_9]) (rfl)
    · refine rs_iconst (v := 1) (pc := 13) dX12_in_13 rfl ?_
      refine rs_goto (tgt := 18) (pc := 14) dX12_in_14 rfl ?_
      exact wk_zret (pc := 18) dX12_in_18 rfl (Or.inr rfl) (by simp [bi_inL, c_2, c_9]) (rfl)
theorem dX12_floorOf_0 : decode cX12_floorOf 0 = .ok (.lload_n 0, 1) := by decide +kernel
theorem dX12_floorOf_1 : decode cX12_floorOf 1 = .ok (.lload_n 2, 1) := by decide +kernel
theorem dX12_floorOf_2 : decode cX12_floorOf 2 = .ok (.ldiv, 1) := by decide +kernel
theorem dX12_floorOf_3 : decode cX12_floorOf 3 = .ok (.lstore 4, 2) := by decide +kernel
theorem dX12_floorOf_5 : decode cX12_floorOf 5 = .ok (.lload_n 0, 1) := by decide +kernel
theorem dX12_floorOf_6 : decode cX12_floorOf 6 = .ok (.lload_n 2, 1) := by decide +kernel
theorem dX12_floorOf_7 : decode cX12_floorOf 7 = .ok (.lrem, 1) := by decide +kernel
theorem dX12_floorOf_8 : decode cX12_floorOf 8 = .ok (.lconst 0, 1) := by decide +kernel
theorem dX12_floorOf_9 : decode cX12_floorOf 9 = .ok (.lcmp, 1) := by decide +kernel
theorem dX12_floorOf_10 : decode cX12_floorOf 10 = .ok (.ifCond .ge 10, 3) := by decide +kernel
theorem dX12_floorOf_13 : decode cX12_floorOf 13 = .ok (.lload 4, 2) := by decide +kernel
theorem dX12_floorOf_15 : decode cX12_floorOf 15 = .ok (.lconst 1, 1) := by decide +kernel
theorem dX12_floorOf_16 : decode cX12_floorOf 16 = .ok (.lsub, 1) := by decide +kernel
theorem dX12_floorOf_17 : decode cX12_floorOf 17 = .ok (.goto 5, 3) := by decide +kernel
theorem dX12_floorOf_20 : decode cX12_floorOf 20 = .ok (.lload 4, 2) := by decide +kernel
theorem dX12_floorOf_22 : decode cX12_floorOf 22 = .ok (.lreturn, 1) := by decide +kernel
set_option maxRecDepth 100000 in
set_option maxHeartbeats 4000000 in
theorem c_X12_floorOf {h : ai_H} {a b : Int64} (hb : ¬ b = 0) : ai_Met MX12_floorOf [.long a, .long b] h (some (.long (bi_fl a b))) h := by
  refine ai_met (ls := [.long a, .float 0, .long b, .float 0, .float 0, .float 0]) (by decide) (by simp [ai_en, Value.category]) (by rfl) ?_
  refine rs_lload_n (pc := 0) dX12_floorOf_0 rfl ?_
  refine rs_lload_n (pc := 1) dX12_floorOf_1 rfl ?_
  refine rs_ldiv (pc := 2) dX12_floorOf_2 hb ?_
  refine wk_lst4 (pc := 3) dX12_floorOf_3 (by decide) rfl ?_
  refine rs_lload_n (pc := 5) dX12_floorOf_5 rfl ?_
  refine rs_lload_n (pc := 6) dX12_floorOf_6 rfl ?_
  refine rs_lrem (pc := 7) dX12_floorOf_7 hb ?_
  refine rs_lconst (v := 0) (pc := 8) dX12_floorOf_8 rfl ?_
  refine wk_lcmp_ge (tgt := 20) (pc := 9) dX12_floorOf_9 dX12_floorOf_10 rfl (fun c_9 => ?_) (fun c_9 => ?_)
  · refine rs_lload (pc := 20) dX12_floorOf_20 rfl ?_
    exact wk_lret (pc := 22) dX12_floorOf_22 rfl (by simp [bi_fl, c_9]) (rfl)
  · refine rs_lload (pc := 13) dX12_floorOf_13 rfl ?_
    refine rs_lconst (v := 1) (pc := 15) dX12_floorOf_15 rfl ?_
    refine rs_lsub (pc := 16) dX12_floorOf_16 ?_
    refine rs_goto (tgt := 22) (pc := 17) dX12_floorOf_17 rfl ?_
    exact wk_lret (pc := 22) dX12_floorOf_22 rfl (by simp [bi_fl, c_9]) (rfl)
theorem dX12_isWeek_0 : decode cX12_isWeek 0 = .ok (.iload_n 0, 1) := by decide +kernel
theorem dX12_isWeek_1 : decode cX12_isWeek 1 = .ok (.i2l, 1) := by decide +kernel
theorem dX12_isWeek_2 : decode cX12_isWeek 2 = .ok (.lconst 0, 1) := by decide +kernel
theorem dX12_isWeek_3 : decode cX12_isWeek 3 = .ok (.ldc2_w 179, 3) := by decide +kernel
theorem dX12_isWeek_6 : decode cX12_isWeek 6 = .ok (.invokestatic 181, 3) := by decide +kernel
theorem dX12_isWeek_9 : decode cX12_isWeek 9 = .ok (.ireturn, 1) := by decide +kernel
set_option maxRecDepth 100000 in
set_option maxHeartbeats 4000000 in
theorem c_X12_isWeek {h : ai_H} (w : Int32) : ai_Met MX12_isWeek [.int w] h (some (.int (bi_in w 0 9999))) h := by
  refine ai_met (ls := [.int w]) (by decide) (by simp [ai_en, Value.category]) (by rfl) ?_
  refine rs_iload_n (pc := 0) dX12_isWeek_0 rfl ?_
  refine rs_i2l (pc := 1) dX12_isWeek_1 ?_
  refine rs_lconst (v := 0) (pc := 2) dX12_isWeek_2 rfl ?_
  refine rs_ldc2 (pc := 3) dX12_isWeek_3 cnX12_179 ?_
  refine rs_callS (as := [_, _, _]) (pc := 6) dX12_isWeek_6 mk_X12_in mlX12_181 st_X12_in rfl rfl (Nat.le_of_ble_eq_true rfl) (c_X12_in) ?_
  exact wk_zret (pc := 9) dX12_isWeek_9 rfl (bi_inL_b _ _ _) (by rw [← bi_inL_of]; rfl) (rfl)
theorem dX12_isWay_0 : decode cX12_isWay 0 = .ok (.iload_n 0, 1) := by decide +kernel
theorem dX12_isWay_1 : decode cX12_isWay 1 = .ok (.i2l, 1) := by decide +kernel
theorem dX12_isWay_2 : decode cX12_isWay 2 = .ok (.lconst 0, 1) := by decide +kernel
theorem dX12_isWay_3 : decode cX12_isWay 3 = .ok (.ldc2_w 200, 3) := by decide +kernel
theorem dX12_isWay_6 : decode cX12_isWay 6 = .ok (.invokestatic 181, 3) := by decide +kernel
theorem dX12_isWay_9 : decode cX12_isWay 9 = .ok (.ireturn, 1) := by decide +kernel
set_option maxRecDepth 100000 in
set_option maxHeartbeats 4000000 in
theorem c_X12_isWay {h : ai_H} (w : Int32) : ai_Met MX12_isWay [.int w] h (some (.int (bi_in w 0 4))) h := by
  refine ai_met (ls := [.int w]) (by decide) (by simp [ai_en, Value.category]) (by rfl) ?_
  refine rs_iload_n (pc := 0) dX12_isWay_0 rfl ?_
  refine rs_i2l (pc := 1) dX12_isWay_1 ?_
  refine rs_lconst (v := 0) (pc := 2) dX12_isWay_2 rfl ?_
  refine rs_ldc2 (pc := 3) dX12_isWay_3 cnX12_200 ?_
  refine rs_callS (as := [_, _, _]) (pc := 6) dX12_isWay_6 mk_X12_in mlX12_181 st_X12_in rfl rfl (Nat.le_of_ble_eq_true rfl) (c_X12_in) ?_
  exact wk_zret (pc := 9) dX12_isWay_9 rfl (bi_inL_b _ _ _) (by rw [← bi_inL_of]; rfl) (rfl)
theorem dX12_isObserver_0 : decode cX12_isObserver 0 = .ok (.iload_n 1, 1) := by decide +kernel
theorem dX12_isObserver_1 : decode cX12_isObserver 1 = .ok (.i2l, 1) := by decide +kernel
theorem dX12_isObserver_2 : decode cX12_isObserver 2 = .ok (.lconst 0, 1) := by decide +kernel
theorem dX12_isObserver_3 : decode cX12_isObserver 3 = .ok (.aload_n 0, 1) := by decide +kernel
theorem dX12_isObserver_4 : decode cX12_isObserver 4 = .ok (.getfield 188, 3) := by decide +kernel
theorem dX12_isObserver_7 : decode cX12_isObserver 7 = .ok (.iconst 1, 1) := by decide +kernel
theorem dX12_isObserver_8 : decode cX12_isObserver 8 = .ok (.isub, 1) := by decide +kernel
theorem dX12_isObserver_9 : decode cX12_isObserver 9 = .ok (.i2l, 1) := by decide +kernel
theorem dX12_isObserver_10 : decode cX12_isObserver 10 = .ok (.invokestatic 181, 3) := by decide +kernel
theorem dX12_isObserver_13 : decode cX12_isObserver 13 = .ok (.ireturn, 1) := by decide +kernel
set_option maxRecDepth 100000 in
set_option maxHeartbeats 4000000 in
theorem c_X12_isObserver {h : ai_H} {S : Md} (hmd : md_at h S) (k : Int32) : ai_Met MX12_isObserver [.ref 307, .int k] h (some (.int (bi_in k 0 (S.1 2 - 1)))) h := by
  refine ai_met (ls := [.ref 307, .int k]) (by decide) (by simp [ai_en, Value.category]) (by rfl) ?_
  refine rs_iload_n (pc := 0) dX12_isObserver_0 rfl ?_
  refine rs_i2l (pc := 1) dX12_isObserver_1 ?_
  refine rs_lconst (v := 0) (pc := 2) dX12_isObserver_2 rfl ?_
  refine rs_aload_n (pc := 3) dX12_isObserver_3 rfl ?_
  refine rs_getf (pc := 4) dX12_isObserver_4 fX12_188 (md_lt hmd (by decide)) hmd.2.1 rfl ?_
  refine rs_iconst (v := 1) (pc := 7) dX12_isObserver_7 rfl ?_
  refine rs_isub (pc := 8) dX12_isObserver_8 ?_
  refine rs_i2l (pc := 9) dX12_isObserver_9 ?_
  refine rs_callS (as := [_, _, _]) (pc := 10) dX12_isObserver_10 mk_X12_in mlX12_181 st_X12_in rfl rfl (Nat.le_of_ble_eq_true rfl) (c_X12_in) ?_
  exact wk_zret (pc := 13) dX12_isObserver_13 rfl (bi_inL_b _ _ _) (by rw [← bi_inL_of]; rfl) (rfl)
theorem dX12_isStar_0 : decode cX12_isStar 0 = .ok (.iload_n 1, 1) := by decide +kernel
theorem dX12_isStar_1 : decode cX12_isStar 1 = .ok (.i2l, 1) := by decide +kernel
theorem dX12_isStar_2 : decode cX12_isStar 2 = .ok (.lconst 0, 1) := by decide +kernel
theorem dX12_isStar_3 : decode cX12_isStar 3 = .ok (.aload_n 0, 1) := by decide +kernel
theorem dX12_isStar_4 : decode cX12_isStar 4 = .ok (.getfield 191, 3) := by decide +kernel
theorem dX12_isStar_7 : decode cX12_isStar 7 = .ok (.iconst 1, 1) := by decide +kernel
theorem dX12_isStar_8 : decode cX12_isStar 8 = .ok (.isub, 1) := by decide +kernel
theorem dX12_isStar_9 : decode cX12_isStar 9 = .ok (.i2l, 1) := by decide +kernel
theorem dX12_isStar_10 : decode cX12_isStar 10 = .ok (.invokestatic 181, 3) := by decide +kernel
theorem dX12_isStar_13 : decode cX12_isStar 13 = .ok (.ireturn, 1) := by decide +kernel
set_option maxRecDepth 100000 in
set_option maxHeartbeats 4000000 in
theorem c_X12_isStar {h : ai_H} {S : Md} (hmd : md_at h S) (k : Int32) : ai_Met MX12_isStar [.ref 307, .int k] h (some (.int (bi_in k 0 (S.1 3 - 1)))) h := by
  refine ai_met (ls := [.ref 307, .int k]) (by decide) (by simp [ai_en, Value.category]) (by rfl) ?_
  refine rs_iload_n (pc := 0) dX12_isStar_0 rfl ?_
  refine rs_i2l (pc := 1) dX12_isStar_1 ?_
  refine rs_lconst (v := 0) (pc := 2) dX12_isStar_2 rfl ?_
  refine rs_aload_n (pc := 3) dX12_isStar_3 rfl ?_
  refine rs_getf (pc := 4) dX12_isStar_4 fX12_191 (md_lt hmd (by decide)) hmd.2.1 rfl ?_
  refine rs_iconst (v := 1) (pc := 7) dX12_isStar_7 rfl ?_
  refine rs_isub (pc := 8) dX12_isStar_8 ?_
  refine rs_i2l (pc := 9) dX12_isStar_9 ?_
  refine rs_callS (as := [_, _, _]) (pc := 10) dX12_isStar_10 mk_X12_in mlX12_181 st_X12_in rfl rfl (Nat.le_of_ble_eq_true rfl) (c_X12_in) ?_
  exact wk_zret (pc := 13) dX12_isStar_13 rfl (bi_inL_b _ _ _) (by rw [← bi_inL_of]; rfl) (rfl)
theorem dX12_isNight_0 : decode cX12_isNight 0 = .ok (.iload_n 1, 1) := by decide +kernel
theorem dX12_isNight_1 : decode cX12_isNight 1 = .ok (.i2l, 1) := by decide +kernel
theorem dX12_isNight_2 : decode cX12_isNight 2 = .ok (.lconst 0, 1) := by decide +kernel
theorem dX12_isNight_3 : decode cX12_isNight 3 = .ok (.aload_n 0, 1) := by decide +kernel
theorem dX12_isNight_4 : decode cX12_isNight 4 = .ok (.getfield 194, 3) := by decide +kernel
theorem dX12_isNight_7 : decode cX12_isNight 7 = .ok (.iconst 1, 1) := by decide +kernel
theorem dX12_isNight_8 : decode cX12_isNight 8 = .ok (.isub, 1) := by decide +kernel
theorem dX12_isNight_9 : decode cX12_isNight 9 = .ok (.i2l, 1) := by decide +kernel
theorem dX12_isNight_10 : decode cX12_isNight 10 = .ok (.invokestatic 181, 3) := by decide +kernel
theorem dX12_isNight_13 : decode cX12_isNight 13 = .ok (.ireturn, 1) := by decide +kernel
set_option maxRecDepth 100000 in
set_option maxHeartbeats 4000000 in
theorem c_X12_isNight {h : ai_H} {S : Md} (hmd : md_at h S) (k : Int32) : ai_Met MX12_isNight [.ref 307, .int k] h (some (.int (bi_in k 0 (S.1 4 - 1)))) h := by
  refine ai_met (ls := [.ref 307, .int k]) (by decide) (by simp [ai_en, Value.category]) (by rfl) ?_
  refine rs_iload_n (pc := 0) dX12_isNight_0 rfl ?_
  refine rs_i2l (pc := 1) dX12_isNight_1 ?_
  refine rs_lconst (v := 0) (pc := 2) dX12_isNight_2 rfl ?_
  refine rs_aload_n (pc := 3) dX12_isNight_3 rfl ?_
  refine rs_getf (pc := 4) dX12_isNight_4 fX12_194 (md_lt hmd (by decide)) hmd.2.1 rfl ?_
  refine rs_iconst (v := 1) (pc := 7) dX12_isNight_7 rfl ?_
  refine rs_isub (pc := 8) dX12_isNight_8 ?_
  refine rs_i2l (pc := 9) dX12_isNight_9 ?_
  refine rs_callS (as := [_, _, _]) (pc := 10) dX12_isNight_10 mk_X12_in mlX12_181 st_X12_in rfl rfl (Nat.le_of_ble_eq_true rfl) (c_X12_in) ?_
  exact wk_zret (pc := 13) dX12_isNight_13 rfl (bi_inL_b _ _ _) (by rw [← bi_inL_of]; rfl) (rfl)
theorem dX12_isRecord_0 : decode cX12_isRecord 0 = .ok (.iload_n 1, 1) := by decide +kernel
theorem dX12_isRecord_1 : decode cX12_isRecord 1 = .ok (.i2l, 1) := by decide +kernel
theorem dX12_isRecord_2 : decode cX12_isRecord 2 = .ok (.lconst 0, 1) := by decide +kernel
theorem dX12_isRecord_3 : decode cX12_isRecord 3 = .ok (.aload_n 0, 1) := by decide +kernel
theorem dX12_isRecord_4 : decode cX12_isRecord 4 = .ok (.getfield 197, 3) := by decide +kernel
theorem dX12_isRecord_7 : decode cX12_isRecord 7 = .ok (.iconst 1, 1) := by decide +kernel
theorem dX12_isRecord_8 : decode cX12_isRecord 8 = .ok (.isub, 1) := by decide +kernel
theorem dX12_isRecord_9 : decode cX12_isRecord 9 = .ok (.i2l, 1) := by decide +kernel
theorem dX12_isRecord_10 : decode cX12_isRecord 10 = .ok (.invokestatic 181, 3) := by decide +kernel
theorem dX12_isRecord_13 : decode cX12_isRecord 13 = .ok (.ireturn, 1) := by decide +kernel
set_option maxRecDepth 100000 in
set_option maxHeartbeats 4000000 in
theorem c_X12_isRecord {h : ai_H} {S : Md} (hmd : md_at h S) (k : Int32) : ai_Met MX12_isRecord [.ref 307, .int k] h (some (.int (bi_in k 0 (S.1 5 - 1)))) h := by
  refine ai_met (ls := [.ref 307, .int k]) (by decide) (by simp [ai_en, Value.category]) (by rfl) ?_
  refine rs_iload_n (pc := 0) dX12_isRecord_0 rfl ?_
  refine rs_i2l (pc := 1) dX12_isRecord_1 ?_
  refine rs_lconst (v := 0) (pc := 2) dX12_isRecord_2 rfl ?_
  refine rs_aload_n (pc := 3) dX12_isRecord_3 rfl ?_
  refine rs_getf (pc := 4) dX12_isRecord_4 fX12_197 (md_lt hmd (by decide)) hmd.2.1 rfl ?_
  refine rs_iconst (v := 1) (pc := 7) dX12_isRecord_7 rfl ?_
  refine rs_isub (pc := 8) dX12_isRecord_8 ?_
  refine rs_i2l (pc := 9) dX12_isRecord_9 ?_
  refine rs_callS (as := [_, _, _]) (pc := 10) dX12_isRecord_10 mk_X12_in mlX12_181 st_X12_in rfl rfl (Nat.le_of_ble_eq_true rfl) (c_X12_in) ?_
  exact wk_zret (pc := 13) dX12_isRecord_13 rfl (bi_inL_b _ _ _) (by rw [← bi_inL_of]; rfl) (rfl)
theorem dX12_isLaw_0 : decode cX12_isLaw 0 = .ok (.iload_n 1, 1) := by decide +kernel
theorem dX12_isLaw_1 : decode cX12_isLaw 1 = .ok (.i2l, 1) := by decide +kernel
theorem dX12_isLaw_2 : decode cX12_isLaw 2 = .ok (.lconst 0, 1) := by decide +kernel
theorem dX12_isLaw_3 : decode cX12_isLaw 3 = .ok (.aload_n 0, 1) := by decide +kernel
theorem dX12_isLaw_4 : decode cX12_isLaw 4 = .ok (.getfield 294, 3) := by decide +kernel
theorem dX12_isLaw_7 : decode cX12_isLaw 7 = .ok (.iconst 1, 1) := by decide +kernel
theorem dX12_isLaw_8 : decode cX12_isLaw 8 = .ok (.isub, 1) := by decide +kernel
theorem dX12_isLaw_9 : decode cX12_isLaw 9 = .ok (.i2l, 1) := by decide +kernel
theorem dX12_isLaw_10 : decode cX12_isLaw 10 = .ok (.invokestatic 181, 3) := by decide +kernel
theorem dX12_isLaw_13 : decode cX12_isLaw 13 = .ok (.ireturn, 1) := by decide +kernel
set_option maxRecDepth 100000 in
set_option maxHeartbeats 4000000 in
theorem c_X12_isLaw {h : ai_H} {S : Md} (hmd : md_at h S) (k : Int32) : ai_Met MX12_isLaw [.ref 307, .int k] h (some (.int (bi_in k 0 (S.1 25 - 1)))) h := by
  refine ai_met (ls := [.ref 307, .int k]) (by decide) (by simp [ai_en, Value.category]) (by rfl) ?_
  refine rs_iload_n (pc := 0) dX12_isLaw_0 rfl ?_
  refine rs_i2l (pc := 1) dX12_isLaw_1 ?_
  refine rs_lconst (v := 0) (pc := 2) dX12_isLaw_2 rfl ?_
  refine rs_aload_n (pc := 3) dX12_isLaw_3 rfl ?_
  refine rs_getf (pc := 4) dX12_isLaw_4 fX12_294 (md_lt hmd (by decide)) hmd.2.1 rfl ?_
  refine rs_iconst (v := 1) (pc := 7) dX12_isLaw_7 rfl ?_
  refine rs_isub (pc := 8) dX12_isLaw_8 ?_
  refine rs_i2l (pc := 9) dX12_isLaw_9 ?_
  refine rs_callS (as := [_, _, _]) (pc := 10) dX12_isLaw_10 mk_X12_in mlX12_181 st_X12_in rfl rfl (Nat.le_of_ble_eq_true rfl) (c_X12_in) ?_
  exact wk_zret (pc := 13) dX12_isLaw_13 rfl (bi_inL_b _ _ _) (by rw [← bi_inL_of]; rfl) (rfl)
