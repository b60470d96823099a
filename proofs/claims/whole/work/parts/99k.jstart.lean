/-! 99k: a new class and a new model hold the same -/
def hz : ai_H := (0, 0, fun _ => .inl (0, 0, .inl (fun _ => 0)))
def Sz : Md := (fun _ => 0, 0, fun k => if k = 7 then own0 16 else fun _ => 0, fun _ _ => 0)
def hx0 : ai_H := ap hz (x0 0)
def hm0 : ai_H := ap hx0 (m0 307 16)
set_option maxRecDepth 100000 in
theorem x0_len : (x0 0).length = 307 := by decide +kernel
set_option maxRecDepth 100000 in
theorem hx0_1 : hx0.1 = 307 := by decide +kernel
set_option maxRecDepth 100000 in
theorem hx0_2 : hx0.2.1 ≤ 40000 := by decide +kernel
set_option maxRecDepth 100000 in
theorem hm0_1 : hm0.1 = 362 := by decide +kernel
set_option maxRecDepth 100000 in
theorem hm0_2 : hm0.2.1 ≤ 100000 := by decide +kernel
theorem hm0_x {j : Nat} {e : va_E} (hj : (x0 0)[j]? = some e) : hm0.2.2 j = e := by
  have hl : j < 307 := by
    have := (List.getElem?_eq_some_iff.mp hj).1
    rw [x0_len] at this
    exact this
  have h1 : hm0.2.2 j = hx0.2.2 j := ap_old (by rw [hx0_1]; exact hl)
  have h2 := ap_get (h := hz) hj
  rw [show hz.1 + j = j from Nat.zero_add j] at h2
  exact h1.trans h2
theorem mo_ap {X : List va_E} {h : ai_H} {b c n : Nat} {fs : Md → List Value} {tab : List (Nat × Nat × Nat)} {S : Md} (hn : b + n < h.1) (hX : ∀ {j : Nat} {e : va_E}, X[j]? = some e → h.2.2 j = e) (hL : (X.drop b).take (tab.length + 1) = .inr (c, fs S) :: tab.map (md_arr S)) : mo_at b c n fs tab h S := by
  have key : ∀ i e, ((.inr (c, fs S) : va_E) :: tab.map (md_arr S))[i]? = some e → h.2.2 (b + i) = e := fun i e hi => hX (by
    rw [← hL, List.getElem?_take] at hi
    split at hi
    · rw [List.getElem?_drop] at hi
      exact hi
    · cases hi)
  refine ⟨hn, key 0 _ rfl, fun d q hq => ?_⟩
  rw [show b + 1 + d = b + (d + 1) by omega]
  exact key (d + 1) _ (by rw [List.getElem?_cons_succ, List.getElem?_map, hq]; rfl)
def Zz : Md := (fun _ => 0, 0, fun _ _ => 0, fun _ _ => 0)
set_option maxRecDepth 100000 in
theorem z_rd : rd_at 17 hm0 (fun k => if k = 4 then 300008 else 0, 0, fun _ _ => 0, fun _ _ => 0) := mo_ap (X := x0 0) (by rw [hm0_1]; decide) hm0_x rfl
set_option maxRecDepth 100000 in
theorem z_sc : sc_at hm0 Zz := mo_ap (X := x0 0) (by rw [hm0_1]; decide) hm0_x rfl
set_option maxRecDepth 100000 in
theorem z_cl : cl_at hm0 Zz := mo_ap (X := x0 0) (by rw [hm0_1]; decide) hm0_x rfl
set_option maxRecDepth 100000 in
theorem z_rp : rp_at hm0 Zz := mo_ap (X := x0 0) (by rw [hm0_1]; decide) hm0_x rfl
set_option maxRecDepth 100000 in
theorem z_bo : bo_at hm0 Zz := mo_ap (X := x0 0) (by rw [hm0_1]; decide) hm0_x rfl
set_option maxRecDepth 100000 in
theorem z_wo : wo_at .null hm0 (fun k => if k = 1 ∨ k = 2 then -1 else 0, 0, fun _ _ => 0, fun _ _ => 0) := mo_ap (X := x0 0) (by rw [hm0_1]; decide) hm0_x rfl
set_option maxRecDepth 100000 in
theorem z_tail : (x0 0).drop 38 = List.replicate 256 (.inr (9, [.int 0, .long 0, .long 0, .long 0])) ++ (rp0 294 ++ (bo0 298 ++ (wo0 301 ++ ty0))) := rfl
set_option maxRecDepth 100000 in
theorem z_mt : mt_at hm0 (fun _ => (0, 0, 0, 0)) := by
  refine ⟨by rw [hm0_1]; decide, hm0_x rfl, ?_, hm0_x rfl, fun i hi => ?_⟩
  · rw [hm0_x (j := 36) (e := .inl (4, 256, .inr (.inr (.inr (.inr (trw 35 256)))))) rfl]
    rfl
  · refine hm0_x ?_
    rw [← List.getElem?_drop, z_tail, List.getElem?_append_left (by rw [List.length_replicate]; exact hi), List.getElem?_replicate, if_pos hi]
    rfl
set_option maxRecDepth 100000 in
theorem z_scr : scr hm0 := ⟨⟨fun _ => 0, hm0_x rfl⟩, ⟨17, _, Or.inl rfl, z_rd⟩, ⟨_, z_sc⟩, ⟨_, z_cl⟩, ⟨_, z_mt⟩, ⟨_, z_rp⟩, ⟨_, z_bo⟩, ⟨.null, _, (0, 0, 0, 0), Or.inl rfl, z_wo, hm0_x rfl⟩, ⟨(0, 0, 0, 0), hm0_x rfl⟩⟩
set_option maxRecDepth 100000 in
theorem m0_is : m0 307 16 = .inr (12, md_fs Sz) :: md_tab.map (md_arr Sz) := rfl
set_option maxRecDepth 100000 in
theorem z_md : md_at hm0 Sz := by
  have key : ∀ i e, (m0 307 16)[i]? = some e → hm0.2.2 (307 + i) = e := fun i e hi => by
    have h2 := ap_get (h := hx0) hi
    rw [hx0_1] at h2
    exact h2
  refine ⟨by rw [hm0_1]; decide, key 0 _ (by rw [m0_is]; rfl), fun d q hq => ?_⟩
  rw [show 308 + d = 307 + (d + 1) by omega]
  exact key (d + 1) _ (by rw [m0_is, List.getElem?_cons_succ, List.getElem?_map, hq]; rfl)
set_option maxRecDepth 100000 in
theorem z_bk : bk_at hm0 1 bkz := by
  refine ⟨by rw [hm0_1]; decide, hm0_x rfl, ⟨hm0_x rfl, hm0_x rfl, ⟨by decide, by decide, by decide, by decide, by decide⟩⟩, ⟨hm0_x rfl, hm0_x rfl, ⟨by decide, by decide, by decide, by decide, by decide⟩⟩, ⟨hm0_x rfl, hm0_x rfl, ⟨by decide, by decide, by decide, by decide, by decide⟩⟩, ⟨hm0_x rfl, hm0_x rfl, ⟨by decide, by decide, by decide, by decide, by decide⟩⟩, hm0_x rfl, hm0_x rfl, ⟨by decide, by decide, by decide, by decide, by decide⟩⟩
theorem z_n : nO bkz = 0 ∧ nS bkz = 0 ∧ nN bkz = 0 ∧ nR bkz = 0 ∧ nJ bkz = 0 := by decide +kernel
theorem z_ok : bk_ok bkz 0 := by
  obtain ⟨n1, n2, n3, n4, n5⟩ := z_n
  refine ⟨by decide, ⟨?_, by omega, fun k hk => by omega⟩, ⟨?_, by omega, fun k hk => by omega⟩, ⟨?_, by omega, fun k hk => by omega⟩, ⟨?_, by omega, fun k hk => by omega⟩, ?_, by omega, fun k hk => by omega⟩
  · rw [n1]; rfl
  · rw [n2]; rfl
  · rw [n3]; rfl
  · rw [n4]; rfl
  · rw [n5]; rfl
theorem z_RB : RB bkz Sz := by
  obtain ⟨n1, n2, n3, n4, n5⟩ := z_n
  exact ⟨⟨rfl, rfl, rfl, rfl, rfl, rfl⟩, fun k hk => by omega, fun k hk => by omega, fun k hk => by omega, fun k hk => by omega, fun k hk => by omega⟩
set_option maxRecDepth 100000 in
theorem JI_0 : JI hm0 :=
  ⟨bkz, Sz, fun _ => 0, 0, 0, fun _ => [], fun _ => 0, ⟨by rw [hm0_1]; decide, hm0_x rfl⟩, by omega, hm0_x rfl, z_bk, z_ok, z_RB, z_scr, ⟨by omega, fun _ => none, hm0_x rfl, fun r hr => absurd hr (Nat.not_lt_zero r)⟩, ⟨rfl, by omega, fun r hr => absurd hr (Nat.not_lt_zero r)⟩, z_md, rfl, fun q hq => absurd hq (Nat.not_lt_zero q), fun _ => none, hm0_x rfl, fun r _ => Or.inl ⟨rfl, rfl⟩⟩
