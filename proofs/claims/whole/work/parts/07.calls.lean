/-! 07: the rules: new cells, returns, calls -/
section NEWS
variable {M : ai_M} {pc : Nat} {ls st : List Value} {h h' : ai_H} {r : Option Value}
theorem ai_L.grow {lsm : Array Slot} {nL n n1 : Nat} {ad ad1 aK : Nat → Nat} (hn : n ≤ n1) (hag : ∀ k, k < n → ad1 k = ad k) (h : ai_L lsm nL n ad aK ls) : ai_L lsm nL n1 ad1 aK ls := by
  refine ⟨h.1, h.2.1, fun i v hi hv => ?_⟩
  obtain ⟨h1, h2⟩ := h.2.2 i v hi hv
  exact ⟨by rw [ai_v_eq hag h2]; exact h1, h2.le hn⟩
/-- behind the making of a cell -/
theorem ai_new_k {N : Nat} {pc' : Nat} {x : va_E} (hx : ai_eb h.1 x) (kk : ai_R M pc' ls (.ref h.1 :: st) (ai_add h N x) r h')
    {p : Program} {l : Launch} {e : Env} {s : State} {mid : MethodId} {args : Array Value} {below : List Frame} {meth : Method} {c : Code} {dC : Nat → ClassId} {dI : Nat → Nat → Nat} {cK aK aV ad0 : Nat → Nat} {c0 s0 : Nat} {A : Nat → Prop} {ad : Nat → Nat} {H : Heap} {locs : List Loc} {lsm : Array Slot}
    (hC : ai_C M p s mid args meth c) (hG : ai_G dC dI cK aK aV ad0 c0 s0 A s ad h H locs) (hL : ai_L lsm M.2.2.1 h.1 ad aK ls) (hst : ∀ w ∈ st, ai_b h.1 w)
    (a : Nat) (H1 : Heap) (hP : va_P (dC, dI) ai_cl (ai_w cK ad aK h ++ [(a, ai_e cK ad aK x)]) H1) (hD : va_D A (ai_w cK ad aK h ++ [(a, ai_e cK ad aK x)])) (hS : va_S A s.heap H1 locs) :
    W p l e (ai_rm M (h'.1 - c0) (h'.2.1 - s0)) s mid args below meth c H1 locs (h.1 - c0 + 1) (h.2.1 - s0 + N) (MQ below (ai_Q dC dI cK aK ad0 c0 A r h') args s (h'.1 - c0) (h'.2.1 - s0) A) (F0 mid pc' lsm (.ref a :: st.map (ai_v ad aK))) := by
  have hwf := hG.2.2.2.2.2.2.2.2.2
  have hc := hG.2.2.2.2.2.2.2.1
  have hag : ∀ k, k < h.1 → va_up ad h.1 a k = ad k := fun k hk => by simp [va_up, Nat.ne_of_lt hk]
  rw [ai_w_push x N hwf hx] at hP hD
  have key := kk.2 p l e s mid args below meth c dC dI cK aK aV ad0 c0 s0 A (va_up ad h.1 a) H1 locs lsm hC
    ⟨hG.1, hG.2.1, hG.2.2.1, hP, hD, hS, hG.2.2.2.2.2.2.1, ⟨Nat.le_succ_of_le hc.1, Nat.le_trans hc.2 (Nat.le_add_right _ _)⟩, fun k hk => by rw [hag k (Nat.lt_of_lt_of_le hk hc.1)]; exact hG.2.2.2.2.2.2.2.2.1 k hk, ai_wf_add hwf hx⟩ (ai_L.grow (Nat.le_succ _) hag hL)
    (ai_bt (fun w hw => (hst w hw).le (Nat.le_succ _)) (Nat.lt_succ_self _))
  rw [List.map_cons, ai_map_eq hag hst] at key
  have e1 : ai_v (va_up ad h.1 a) aK (.ref h.1) = .ref a := by simp [ai_v, va_up]
  rw [e1, show (ai_add h N x).1 - c0 = h.1 - c0 + 1 from by show h.1 + 1 - c0 = _; omega, show (ai_add h N x).2.1 - s0 = h.2.1 - s0 + N from by show h.2.1 + N - s0 = _; omega] at key
  exact key
theorem ai_cA {dC : Nat → ClassId} {dI : Nat → Nat → Nat} {cK : Nat → Nat} {cA k : Nat} {ty : FieldType} {s : State} (hk : (ai_tys cK)[k]? = some (cK k, ty)) (hK : va_K (dC, dI) ai_cl (ai_tys cK ++ [(cA, ty)]) s) : cA = cK k := by
  have h1 := (hK.2 7 (cA, ty) (by simp [ai_tys])).2
  have hlt : k < (ai_tys cK).length := (List.getElem?_eq_some_iff.mp hk).1
  have h2 := (hK.2 k (cK k, ty) (by rw [List.getElem?_append_left hlt]; exact hk)).2
  cases ty with
  | object C =>
    obtain ⟨-, -, -, -, -, f1⟩ := h1
    obtain ⟨-, -, -, -, -, f2⟩ := h2
    exact Option.some.inj (f1.symm.trans f2)
  | _ => exact Option.some.inj (Eq.trans (Eq.symm h1) h2)
theorem ai_newa {atype : ArrayType} {ty : FieldType} {k N : Nat} {n : Int32} {a0 : vp_A} (d : decode M.2.1 pc = .ok (.newarray atype, 2)) (hw : Cond.arrayClass (newarray.typeOf atype) ∈ ai_T) (hty : newarray.typeOf atype = ty) (hk : ∀ cK : Nat → Nat, (ai_tys cK)[k]? = some (cK k, ty)) (ha : ∀ cA : ClassId, vp_cell cA a0 = arrV cA N (fun _ => defaultValue ty)) (hx : ∀ m, ai_eb m (.inl (k, a0))) (hx2 : ∀ ad : Nat → Nat, ai_a ad a0 = a0) (hn : ¬ n < 0) (hN : n.toNatClampNeg = N) (hbytes : N * componentBytes ty ≤ 536870912) (kk : ai_R M (pc + 2) ls (.ref h.1 :: st) (ai_add h N (.inl (k, a0))) r h') : ai_R M pc ls (.int n :: st) h r h' := by
  have k1 : h.1 + 1 ≤ h'.1 ∧ h.2.1 + N ≤ h'.2.1 := kk.1
  refine ⟨⟨by omega, by omega⟩, fun p l e s mid args below meth c dC dI cK aK aV ad0 c0 s0 A ad H locs lsm hC hG hL hst => ?_⟩
  have hc := hG.2.2.2.2.2.2.2.1
  refine va_newa hC.1 hC.2.1 (hC.2.2.2.2.2.1 _ hw) hty hG.1 hG.2.2.2.1 hG.2.2.2.2.1 hG.2.2.2.2.2.1 hG.2.2.2.2.2.2.1 ha hn hN hbytes (by show h.1 - c0 + 1 ≤ h'.1 - c0; omega) (by show h.2.1 - s0 + N ≤ h'.2.1 - s0; omega) d ?_
  intro q cA H1 hK1 hP1 hD1 hS1
  have ec := ai_cA (hk cK) hK1
  subst ec
  have key := ai_new_k (N := N) (l := l) (e := e) (below := below) (hx h.1) kk hC hG hL (ai_b1 hst) q H1
  simp only [ai_e, hx2] at key
  exact key hP1 hD1 hS1
theorem rs_newI {N : Nat} {n : Int32} (d : decode M.2.1 pc = .ok (.newarray .int, 2)) (hw : Cond.arrayClass (newarray.typeOf .int) ∈ ai_T) (hn : ¬ n < 0) (hN : n.toNatClampNeg = N) (hbytes : N * 4 ≤ 536870912) (kk : ai_R M (pc + 2) ls (.ref h.1 :: st) (ai_add h N (.inl (0, N, .inl (fun _ => 0)))) r h') : ai_R M pc ls (.int n :: st) h r h' :=
  ai_newa (a0 := (N, .inl (fun _ => 0))) d hw rfl (fun _ => rfl) (fun _ => rfl) (fun _ => trivial) (fun _ => rfl) hn hN hbytes kk
theorem rs_newJ {N : Nat} {n : Int32} (d : decode M.2.1 pc = .ok (.newarray .long, 2)) (hw : Cond.arrayClass (newarray.typeOf .long) ∈ ai_T) (hn : ¬ n < 0) (hN : n.toNatClampNeg = N) (hbytes : N * 8 ≤ 536870912) (kk : ai_R M (pc + 2) ls (.ref h.1 :: st) (ai_add h N (.inl (1, N, .inr (.inl (fun _ => 0))))) r h') : ai_R M pc ls (.int n :: st) h r h' :=
  ai_newa (a0 := (N, .inr (.inl (fun _ => 0)))) d hw rfl (fun _ => rfl) (fun _ => rfl) (fun _ => trivial) (fun _ => rfl) hn hN hbytes kk
theorem rs_newZ {N : Nat} {n : Int32} (d : decode M.2.1 pc = .ok (.newarray .boolean, 2)) (hw : Cond.arrayClass (newarray.typeOf .boolean) ∈ ai_T) (hn : ¬ n < 0) (hN : n.toNatClampNeg = N) (hbytes : N * componentBytes .boolean ≤ 536870912) (kk : ai_R M (pc + 2) ls (.ref h.1 :: st) (ai_add h N (.inl (2, N, .inl (fun _ => 0)))) r h') : ai_R M pc ls (.int n :: st) h r h' :=
  ai_newa (a0 := (N, .inl (fun _ => 0))) d hw rfl (fun _ => rfl) (fun _ => rfl) (fun _ => trivial) (fun _ => rfl) hn hN hbytes kk
theorem rs_newB {N : Nat} {n : Int32} (d : decode M.2.1 pc = .ok (.newarray .byte, 2)) (hw : Cond.arrayClass (newarray.typeOf .byte) ∈ ai_T) (hn : ¬ n < 0) (hN : n.toNatClampNeg = N) (hbytes : N * componentBytes .byte ≤ 536870912) (kk : ai_R M (pc + 2) ls (.ref h.1 :: st) (ai_add h N (.inl (3, N, .inl (fun _ => 0)))) r h') : ai_R M pc ls (.int n :: st) h r h' :=
  ai_newa (a0 := (N, .inl (fun _ => 0))) d hw rfl (fun _ => rfl) (fun _ => rfl) (fun _ => trivial) (fun _ => rfl) hn hN hbytes kk
theorem rs_newQ {idx k N : Nat} {C : String} {n : Int32} (d : decode M.2.1 pc = .ok (.anewarray idx, 3)) (hw : Cond.classLink M.1.cls idx C ∈ ai_T) (hk : ∀ cK : Nat → Nat, (ai_tys cK)[k]? = some (cK k, .object C)) (hC4 : C = "EachLater$Tally" ∨ C = "EachLater$Law" ∨ C = "EachLater$Book") (hn : ¬ n < 0) (hN : n.toNatClampNeg = N) (hbytes : N * 4 ≤ 536870912) (kk : ai_R M (pc + 3) ls (.ref h.1 :: st) (ai_add h N (.inl (k, N, .inr (.inr (.inr (.inr (fun _ => none))))))) r h') : ai_R M pc ls (.int n :: st) h r h' := by
  have k1 : h.1 + 1 ≤ h'.1 ∧ h.2.1 + N ≤ h'.2.1 := kk.1
  refine ⟨⟨by omega, by omega⟩, fun p l e s mid args below meth c dC dI cK aK aV ad0 c0 s0 A ad H locs lsm hC hG hL hst => ?_⟩
  have hc := hG.2.2.2.2.2.2.2.1
  have hao : va_AO C s := by
    rcases hC4 with rfl | rfl | rfl
    · exact hG.2.1.2.1
    · exact hG.2.1.2.2.1
    · exact hG.2.1.2.2.2
  refine va_newq hC.1 hC.2.1 hC.2.2.2.2.1 (hC.2.2.2.2.2.1 _ hw) hao hG.1 hG.2.2.2.1 hG.2.2.2.2.1 hG.2.2.2.2.2.1 hG.2.2.2.2.2.2.1 hn hN hbytes (by show h.1 - c0 + 1 ≤ h'.1 - c0; omega) (by show h.2.1 - s0 + N ≤ h'.2.1 - s0; omega) d ?_
  intro q cA H1 hK1 hP1 hD1 hS1
  have ec := ai_cA (hk cK) hK1
  subst ec
  have key := ai_new_k (N := N) (l := l) (e := e) (below := below) (x := .inl (k, N, .inr (.inr (.inr (.inr (fun _ => none)))))) (fun i z hz => by cases hz) kk hC hG hL (ai_b1 hst) q H1
  exact key hP1 hD1 hS1
def ai_plain : Value → Bool
  | .int _ => true
  | .long _ => true
  | .null => true
  | _ => false
theorem ai_plain_v {v : Value} (ad aK : Nat → Nat) (h : ai_plain v = true) : ai_v ad aK v = v := by
  cases v <;> first | rfl | exact absurd h Bool.false_ne_true
theorem ai_plain_b {v : Value} (n : Nat) (h : ai_plain v = true) : ai_b n v := by
  cases v <;> first | trivial | exact absurd h Bool.false_ne_true
theorem rs_new {idx ci N : Nat} {C : String} {T : u_T} {fs : List Value} (d : decode M.2.1 pc = .ok (.new idx, 3)) (hk1 : ai_K1 ci C T N) (hw : Cond.classLink M.1.cls idx C ∈ ai_T) (hw2 : Cond.instantiable C N ∈ ai_T) (hw3 : Cond.initialized C ∈ ai_T) (hfs : ∀ j, j < N → defaultValue (ai_ty ci j) = vp_V fs j) (hpl : fs.all ai_plain = true) (kk : ai_R M (pc + 3) ls (.ref h.1 :: st) (ai_add h N (.inr (ci, fs))) r h') : ai_R M pc ls st h r h' := by
  have k1 : h.1 + 1 ≤ h'.1 ∧ h.2.1 + N ≤ h'.2.1 := kk.1
  refine ⟨⟨by omega, by omega⟩, fun p l e s mid args below meth c dC dI cK aK aV ad0 c0 s0 A ad H locs lsm hC hG hL hst => ?_⟩
  have hc := hG.2.2.2.2.2.2.2.1
  have hT := hC.2.2.2.2.2.1
  refine va_new (D := (dC, dI)) hC.1 hC.2.1 hT hk1.2.1 (ai_ty ci) hk1.2.2.1 hC.2.2.2.2.1 (hT _ hw) (hT _ hw2) (hT _ hw3) hG.1 hG.2.2.2.1 hG.2.2.2.2.1 hG.2.2.2.2.2.1 hG.2.2.2.2.2.2.1 hk1.1 hfs (by show h.1 - c0 + 1 ≤ h'.1 - c0; omega) (by show h.2.1 - s0 + N ≤ h'.2.1 - s0; omega) d ?_
  intro q H1 hP1 hD1 hS1
  have hall := List.all_eq_true.mp hpl
  have key := ai_new_k (N := N) (l := l) (e := e) (below := below) (x := .inr (ci, fs)) (fun v hv => ai_plain_b _ (hall v hv)) kk hC hG hL hst q H1
  have e1 : fs.map (ai_v ad aK) = fs := by
    have : fs.map (ai_v ad aK) = fs.map id := List.map_congr_left fun v hv => ai_plain_v ad aK (hall v hv)
    rw [this, List.map_id]
  simp only [ai_e, e1] at key
  exact key hP1 hD1 hS1
/-! returns -/
theorem rs_iret {x : Int32} (d : decode M.2.1 pc = .ok (.ireturn, 1)) (hr : M.2.2.2.1 = some .int) : ai_R M pc ls [.int x] h (some (.int x)) h := by
  refine ⟨⟨Nat.le_refl _, Nat.le_refl _⟩, fun p l e s mid args below meth c dC dI cK aK aV ad0 c0 s0 A ad H locs lsm hC hG hL hst => ?_⟩
  obtain ⟨hK, hN, hZ, hP, hD, hS, hA, hc, hag, hwf⟩ := hG
  exact W.iret hC.1 hC.2.1 (hC.2.2.1.trans hr) (fun t ht hW => ⟨⟨ad, hag, rfl, by rw [ht]; exact hP, hD, hwf, fun v hv => by cases hv; trivial⟩, hS.F ht⟩) hS.2.2 d hC.2.2.2.2.2.2.1
theorem rs_zret {x : Int32} (d : decode M.2.1 pc = .ok (.ireturn, 1)) (hr : M.2.2.2.1 = some .boolean) (hx : x = 0 ∨ x = 1) : ai_R M pc ls [.int x] h (some (.int x)) h := by
  refine ⟨⟨Nat.le_refl _, Nat.le_refl _⟩, fun p l e s mid args below meth c dC dI cK aK aV ad0 c0 s0 A ad H locs lsm hC hG hL hst => ?_⟩
  obtain ⟨hK, hN, hZ, hP, hD, hS, hA, hc, hag, hwf⟩ := hG
  exact W.zret (ty := .boolean) hC.1 hC.2.1 (hC.2.2.1.trans hr) (by rcases hx with rfl | rfl <;> rfl) (fun t ht hW => ⟨⟨ad, hag, rfl, by rw [ht]; exact hP, hD, hwf, fun v hv => by cases hv; trivial⟩, hS.F ht⟩) hS.2.2 d hC.2.2.2.2.2.2.1
theorem rs_lret {x : Int64} (d : decode M.2.1 pc = .ok (.lreturn, 1)) (hr : M.2.2.2.1 = some .long) : ai_R M pc ls [.long x] h (some (.long x)) h := by
  refine ⟨⟨Nat.le_refl _, Nat.le_refl _⟩, fun p l e s mid args below meth c dC dI cK aK aV ad0 c0 s0 A ad H locs lsm hC hG hL hst => ?_⟩
  obtain ⟨hK, hN, hZ, hP, hD, hS, hA, hc, hag, hwf⟩ := hG
  exact W.lret hC.1 hC.2.1 (hC.2.2.1.trans hr) (fun t ht hW => ⟨⟨ad, hag, rfl, by rw [ht]; exact hP, hD, hwf, fun v hv => by cases hv; trivial⟩, hS.F ht⟩) hS.2.2 d hC.2.2.2.2.2.2.1
theorem rs_vret (d : decode M.2.1 pc = .ok (.return_, 1)) (hr : M.2.2.2.1 = none) : ai_R M pc ls [] h none h := by
  refine ⟨⟨Nat.le_refl _, Nat.le_refl _⟩, fun p l e s mid args below meth c dC dI cK aK aV ad0 c0 s0 A ad H locs lsm hC hG hL hst => ?_⟩
  obtain ⟨hK, hN, hZ, hP, hD, hS, hA, hc, hag, hwf⟩ := hG
  exact W.vret hC.1 hC.2.1 (hC.2.2.1.trans hr) (fun t ht hW => ⟨⟨ad, hag, rfl, by rw [ht]; exact hP, hD, hwf, fun v hv => by cases hv⟩, hS.F ht⟩) hS.2.2 d hC.2.2.2.2.2.2.1
theorem rs_aret {v : Value} {n : String} (d : decode M.2.1 pc = .ok (.areturn, 1)) (hr : M.2.2.2.1 = some (.object n)) (hv : v = .null ∨ (∃ a, v = .ref a) ∨ ∃ a, v = .retAddr a) : ai_R M pc ls [v] h (some v) h := by
  refine ⟨⟨Nat.le_refl _, Nat.le_refl _⟩, fun p l e s mid args below meth c dC dI cK aK aV ad0 c0 s0 A ad H locs lsm hC hG hL hst => ?_⟩
  obtain ⟨hK, hN, hZ, hP, hD, hS, hA, hc, hag, hwf⟩ := hG
  have hv2 : ai_v ad aK v = .null ∨ ∃ a, ai_v ad aK v = .ref a := by
    rcases hv with rfl | ⟨a, rfl⟩ | ⟨a, rfl⟩
    · exact Or.inl rfl
    · exact Or.inr ⟨_, rfl⟩
    · exact Or.inr ⟨_, rfl⟩
  exact W.aret (v := ai_v ad aK v) (rt := .object n) hC.1 hC.2.1 (hC.2.2.1.trans hr) (Or.inl ⟨n, rfl⟩) hv2 (fun t ht hW => ⟨⟨ad, hag, rfl, by rw [ht]; exact hP, hD, hwf, fun w hw => by cases hw; exact hst _ List.mem_cons_self⟩, hS.F ht⟩) hS.2.2 d hC.2.2.2.2.2.2.1
/-! calls -/
/-- what a method's own words say, n parameters -/
def ai_MK (M : ai_M) (n : Nat) : Prop := Cond.code M.1 M.2.1 M.2.2.1 M.2.2.2.1 ∈ ai_T ∧ Cond.initialized M.1.cls ∈ ai_T ∧ (M.1.cls ≠ "java/lang/invoke/MethodHandle" ∧ M.1.cls ≠ "java/lang/invoke/VarHandle" ∧ (parseMethodDescriptor M.1.desc).map (fun d => d.parameters.length) = some n)
def ai_ML (own : String) (idx : Nat) (y : MethodName) : Prop := Cond.methodLink own idx y ∈ ai_T ∨ ∃ host, Cond.methodLinkNest own idx y host ∈ ai_TN
theorem ai_good {M : ai_M} {n : Nat} (h : ai_MK M n) : GoodIn ai_T (ai_ws M) := fun w hw => by
  rcases List.mem_cons.mp hw with rfl | hw
  · exact ⟨h.1, ai_Tgood _ h.1⟩
  · exact ⟨hw, ai_Tgood _ hw⟩
/-- the callee's room fits the caller's -/
def ai_fits (N M : ai_M) : Bool := decide (N.2.2.2.2.1 + 1 ≤ M.2.2.2.2.1 ∧ 8 + (N.2.2.1 + 11) + N.2.2.2.2.2 ≤ M.2.2.2.2.2)
theorem ai_pc_blind {dC : Nat → ClassId} {dI : Nat → Nat → Nat} {cK aK aV ad : Nat → Nat} {sz : Nat} {as : List Value} {h : ai_H} : FrameBlind (ai_Pc dC dI cK aK aV ad sz as h) := by
  intro a U g mk q
  obtain ⟨q0, q1, q2, q3, q4, q5, q6⟩ := q
  exact ⟨q0, q1, va_K.moved (u := U) (U := U.calling g mk a) (Vm.Alike.refl U.vm) q2, ai_N.same (u := U) (U := U.calling g mk a) rfl q3, ai_Z.same (u := U) (U := U.calling g mk a) rfl rfl q4, q5, q6⟩
theorem ai_free {dC : Nat → ClassId} {dI : Nat → Nat → Nat} {cK aK aV ad0 ad : Nat → Nat} {c0 s0 : Nat} {A : Nat → Prop} {s : State} {H : Heap} {locs : List Loc} (hG : ai_G dC dI cK aK aV ad0 c0 s0 A s ad h H locs) : ∀ q, va_A (ai_w cK ad aK h) H.size q → A q := by
  intro q hq
  rcases hq with ⟨k, x, hq⟩ | hq
  · exact hG.2.2.2.2.1.2 k _ hq
  · exact hG.2.2.2.2.2.2.1 q (Nat.le_trans hG.2.2.2.2.2.1.1 hq)
theorem ai_pre {dC : Nat → ClassId} {dI : Nat → Nat → Nat} {cK aK aV ad0 ad : Nat → Nat} {c0 s0 : Nat} {A : Nat → Prop} {s : State} {H : Heap} {locs : List Loc} {as : List Value} (hG : ai_G dC dI cK aK aV ad0 c0 s0 A s ad h H locs) : ∀ U : State, U.heap = H → s.WarmedH U.vm → ai_Pc dC dI cK aK aV ad H.size as h (as.map (ai_v ad aK)).toArray U := by
  intro U hU hW
  refine ⟨rfl, by rw [hU], va_K.moved hW.alike hG.1, hG.2.1.warm hW, hG.2.2.1.call hG.2.2.2.2.2.1 hU hW (ai_free hG), by rw [hU]; exact hG.2.2.2.1, hG.2.2.2.2.1.weaken (fun _ _ _ _ => trivial)⟩
/-- behind a call -/
theorem ai_go {as : List Value} {rv : Option Value} {h1 : ai_H} {pc0 : Nat} {st0 : List Value} (hm : h.1 ≤ h1.1 ∧ h.2.1 ≤ h1.2.1) (kk : ai_R M (pc0 + 3) ls (rv.toList ++ st) h1 r h')
    {p : Program} {l : Launch} {e : Env} {s : State} {mid : MethodId} {args a : Array Value} {below : List Frame} {meth : Method} {c : Code} {dC : Nat → ClassId} {dI : Nat → Nat → Nat} {cK aK aV ad0 : Nat → Nat} {c0 s0 : Nat} {A : Nat → Prop} {ad : Nat → Nat} {H : Heap} {locs : List Loc} {lsm : Array Slot}
    (hC : ai_C M p s mid args meth c) (hG : ai_G dC dI cK aK aV ad0 c0 s0 A s ad h H locs) (hL : ai_L lsm M.2.2.1 h.1 ad aK ls) (hst : ∀ w ∈ st, ai_b h.1 w)
    (run : va_Run p l e (ai_rm M (h'.1 - c0) (h'.2.1 - s0)) s mid args below meth c H locs (h.1 - c0) (h.2.1 - s0) (h1.1 - h.1) (h1.2.1 - h.2.1) (F0 mid pc0 lsm st0) (st.map (ai_v ad aK)) (ai_Q dC dI cK aK ad h.1 (va_A (ai_w cK ad aK h) H.size) rv h1 a) (va_A (ai_w cK ad aK h) H.size)) :
    W p l e (ai_rm M (h'.1 - c0) (h'.2.1 - s0)) s mid args below meth c H locs (h.1 - c0) (h.2.1 - s0) (MQ below (ai_Q dC dI cK aK ad0 c0 A r h') args s (h'.1 - c0) (h'.2.1 - s0) A) (F0 mid pc0 lsm st0) := by
  have hfree := ai_free hG
  obtain ⟨hK, hN, hZ, hP, hD, hS, hA, hc, hag, hwf⟩ := hG
  intro T hT X
  obtain ⟨v, st₀, t, T', L, h0, X', hLc, e1, e2, ⟨⟨ad1, hag1, hv, hP1, hD1, hw1, hb1⟩, hz, hk⟩, stp⟩ := run T hT X
  have hv' : v = rv.map (ai_v ad1 aK) := by cases hv; rfl
  subst hv'
  rw [h0] at hz hk
  have key := kk.2 p l e s mid args below meth c dC dI cK aK aV ad0 c0 s0 A ad1 T'.heap (locs ++ L) lsm hC
    ⟨hK, hN, hZ, by rw [e1]; exact hP1, hD1.weaken (fun k q _ z => hfree q.1 z), ⟨Nat.le_trans hS.1 (by rw [e1]; exact hz), fun q g1 g2 => by rw [e1, hk q (Nat.lt_of_lt_of_le g1 hS.1) (fun z => g2 (hfree q z))]; exact hS.2.1 q g1 g2, fun q hq => by
      rcases List.mem_append.mp hq with z | z
      · exact hS.2.2 q z
      · exact hfree _ (hLc q z)⟩, hA, ⟨Nat.le_trans hc.1 hm.1, Nat.le_trans hc.2 hm.2⟩, fun k z => by rw [hag1 k (Nat.lt_of_lt_of_le z hc.1)]; exact hag k z, hw1⟩
    (ai_L.grow hm.1 hag1 hL) (fun w hw => by
      rcases List.mem_append.mp hw with z | z
      · cases rv with
        | none => cases z
        | some x =>
          have : w = x := by simpa using z
          subst this
          exact hb1 _ rfl
      · exact (hst w z).le hm.1)
  rw [show h1.1 - c0 = h.1 - c0 + (h1.1 - h.1) from by omega, show h1.2.1 - s0 = h.2.1 - s0 + (h1.2.1 - h.2.1) from by omega, List.map_append, ai_map_eq hag1 hst] at key
  have e3 : rv.toList.map (ai_v ad1 aK) = (rv.map (ai_v ad1 aK)).toList := by cases rv <;> rfl
  rw [e3] at key
  obtain ⟨t2, a1, b1⟩ := key T' rfl X'
  exact ⟨t2, stp t2 a1, b1⟩
theorem rs_callV {idx n b ci : Nat} {N : ai_M} {as : List Value} {rv : Option Value} {h1 : ai_H} {T : u_T} {k : Nat} {fs : List Value} (d : decode M.2.1 pc = .ok (.invokevirtual idx, 3)) (hMK : ai_MK N n) (hl : ai_ML M.1.cls idx N.1) (hin : Cond.instanceMethod N.1 ∈ ai_T) (hsel : Cond.selects N.1.cls N.1 N.1 ∈ ai_T) (hci : ai_cl[ci]? = some (N.1.cls, T, k)) (hb : b < h.1) (he : h.2.2 b = .inr (ci, fs)) (hn : as.length = n) (hfit : ai_fits N M = true) (hW : (st.map fun v => v.category).sum ≤ 8) (hc : ai_Met N (.ref b :: as) h rv h1) (kk : ai_R M (pc + 3) ls (rv.toList ++ st) h1 r h') : ai_R M pc ls (as.reverse ++ .ref b :: st) h r h' := by
  have m1 := hc.1
  have m2 := kk.1
  refine ⟨⟨by omega, by omega⟩, fun p l e s mid args below meth c dC dI cK aK aV ad0 c0 s0 A ad H locs lsm hC hG hL hst => ?_⟩
  have hcc := hG.2.2.2.2.2.2.2.1
  have hT := hC.2.2.2.2.2.1
  have hR := of_decide_eq_true hfit
  have hst1 : ∀ w ∈ st, ai_b h.1 w := fun w hw => hst w (by simp [hw])
  have hstA : ∀ v ∈ Value.ref b :: as, ai_b h.1 v := fun v hv => by
    rcases List.mem_cons.mp hv with rfl | hv
    · exact hb
    · exact hst v (by simp [hv])
  have hM := hc.2 l dC dI cK aK aV ad H.size hG.2.2.2.2.2.2.2.2.2 hstA
  have hw : (ai_w cK ad aK h)[b]? = some (ad b, .inr (ci, fs.map (ai_v ad aK))) := by rw [ai_w_get hb, he]; rfl
  have hpv : PreV s H N.1.cls (ad b) (ai_Pc dC dI cK aK aV ad H.size (.ref b :: as) h) (as.map (ai_v ad aK)) := ⟨ai_pc_blind, va_recv hG.1 hG.2.2.2.1 (ci := ci) (q0 := b) hci hw, ai_pre hG⟩
  have hsk : ((as.reverse ++ .ref b :: st).map (ai_v ad aK)) = (as.map (ai_v ad aK)).reverse ++ .ref (ad b) :: st.map (ai_v ad aK) := by
    rw [List.map_append, List.map_reverse]; rfl
  have hlen : (as.map (ai_v ad aK)).length = n := by rw [List.length_map]; exact hn
  have hWm : 2 * (F0 mid pc lsm ((as.reverse ++ .ref b :: st).map (ai_v ad aK))).monitorRoom + ((st.map (ai_v ad aK)).map fun v => v.category).sum ≤ 8 := by
    rw [ai_cat_sum]
    exact lv_room (m := mid) (pc := pc) (ls := lsm) (rest := (as.reverse ++ .ref b :: st).map (ai_v ad aK)) hW
  have hfr : h.1 - c0 + (h1.1 - h.1) ≤ h'.1 - c0 ∧ h.2.1 - s0 + (h1.2.1 - h.2.1) ≤ h'.2.1 - s0 := ⟨by omega, by omega⟩
  refine ai_go (st := st) (rv := rv) (h1 := h1) (as := as) m1 kk hC hG hL hst1 (a := (.ref (ad b) :: as.map (ai_v ad aK)).toArray) ?_
  rcases hl with hl | ⟨host, hl⟩
  · exact va_runV (cc := M.2.1) (nL := M.2.2.1) (Ts := ai_T) (own := M.1.cls) (As := as.map (ai_v ad aK)) (rest := st.map (ai_v ad aK)) ⟨hC.1, hC.2.1, hC.2.2.2.1, hC.2.2.2.2.1, hT⟩ hM ⟨callB_of n hT (ai_good hMK) rfl rfl rfl (hT _ hMK.2.1) (hT _ hl) hMK.2.2 hR, hT _ hin, hT _ hsel⟩ hpv rfl hlen hL.1 hsk hWm d hfr
  · exact va_runVN (cc := M.2.1) (nL := M.2.2.1) (Ts := ai_T) (own := M.1.cls) (As := as.map (ai_v ad aK)) (rest := st.map (ai_v ad aK)) ⟨hC.1, hC.2.1, hC.2.2.2.1, hC.2.2.2.2.1, hT⟩ hM ⟨va_cnB n hT (ai_good hMK) rfl rfl rfl (hG.2.1.1 _ hl) (hT _ hMK.2.1) hMK.2.2 hR, hT _ hin, hT _ hsel⟩ hpv rfl hlen hL.1 hsk hWm d hfr
theorem rs_callS {idx n : Nat} {N : ai_M} {as : List Value} {rv : Option Value} {h1 : ai_H} (d : decode M.2.1 pc = .ok (.invokestatic idx, 3)) (hMK : ai_MK N n) (hl : ai_ML M.1.cls idx N.1) (hin : Cond.static N.1 ∈ ai_T) (hn : as.length = n) (hfit : ai_fits N M = true) (hW : (st.map fun v => v.category).sum ≤ 8) (hc : ai_Met N as h rv h1) (kk : ai_R M (pc + 3) ls (rv.toList ++ st) h1 r h') : ai_R M pc ls (as.reverse ++ st) h r h' := by
  have m1 := hc.1
  have m2 := kk.1
  refine ⟨⟨by omega, by omega⟩, fun p l e s mid args below meth c dC dI cK aK aV ad0 c0 s0 A ad H locs lsm hC hG hL hst => ?_⟩
  have hcc := hG.2.2.2.2.2.2.2.1
  have hT := hC.2.2.2.2.2.1
  have hR := of_decide_eq_true hfit
  have hst1 : ∀ w ∈ st, ai_b h.1 w := fun w hw => hst w (by simp [hw])
  have hstA : ∀ v ∈ as, ai_b h.1 v := fun v hv => hst v (by simp [hv])
  have hM := hc.2 l dC dI cK aK aV ad H.size hG.2.2.2.2.2.2.2.2.2 hstA
  have hpv : PreS s H (ai_Pc dC dI cK aK aV ad H.size as h) (as.map (ai_v ad aK)) := ⟨ai_pc_blind, ai_pre hG⟩
  have hsk : ((as.reverse ++ st).map (ai_v ad aK)) = (as.map (ai_v ad aK)).reverse ++ st.map (ai_v ad aK) := by
    rw [List.map_append, List.map_reverse]
  have hlen : (as.map (ai_v ad aK)).length = n := by rw [List.length_map]; exact hn
  have hWm : 2 * (F0 mid pc lsm ((as.reverse ++ st).map (ai_v ad aK))).monitorRoom + ((st.map (ai_v ad aK)).map fun v => v.category).sum ≤ 8 := by
    rw [ai_cat_sum]
    exact lv_room (m := mid) (pc := pc) (ls := lsm) (rest := (as.reverse ++ st).map (ai_v ad aK)) hW
  have hfr : h.1 - c0 + (h1.1 - h.1) ≤ h'.1 - c0 ∧ h.2.1 - s0 + (h1.2.1 - h.2.1) ≤ h'.2.1 - s0 := ⟨by omega, by omega⟩
  refine ai_go (st := st) (rv := rv) (h1 := h1) (as := as) m1 kk hC hG hL hst1 (a := (as.map (ai_v ad aK)).toArray) ?_
  rcases hl with hl | ⟨host, hl⟩
  · exact va_runS (cc := M.2.1) (nL := M.2.2.1) (Ts := ai_T) (own := M.1.cls) (As := as.map (ai_v ad aK)) (rest := st.map (ai_v ad aK)) ⟨hC.1, hC.2.1, hC.2.2.2.1, hC.2.2.2.2.1, hT⟩ hM ⟨callB_of n hT (ai_good hMK) rfl rfl rfl (hT _ hMK.2.1) (hT _ hl) hMK.2.2 hR, hT _ hin⟩ hpv rfl hlen hL.1 hsk hWm d hfr
  · exact va_runSN (cc := M.2.1) (nL := M.2.2.1) (Ts := ai_T) (own := M.1.cls) (As := as.map (ai_v ad aK)) (rest := st.map (ai_v ad aK)) ⟨hC.1, hC.2.1, hC.2.2.2.1, hC.2.2.2.2.1, hT⟩ hM ⟨va_cnB n hT (ai_good hMK) rfl rfl rfl (hG.2.1.1 _ hl) (hT _ hMK.2.1) hMK.2.2 hR, hT _ hin, trivial⟩ hpv rfl hlen hL.1 hsk hWm d hfr
theorem rs_callI {idx n b : Nat} {N : ai_M} {as : List Value} {h1 : ai_H} (d : decode M.2.1 pc = .ok (.invokespecial idx, 3)) (hMK : ai_MK N n) (hvoid : N.2.2.2.1 = none) (hl : ai_ML M.1.cls idx N.1) (hin : Cond.instanceMethod N.1 ∈ ai_T) (hnm : N.1.name = "<init>") (hb : b < h.1) (hn : as.length = n) (hfit : ai_fits N M = true) (hW : (st.map fun v => v.category).sum ≤ 8) (hc : ai_Met N (.ref b :: as) h none h1) (kk : ai_R M (pc + 3) ls st h1 r h') : ai_R M pc ls (as.reverse ++ .ref b :: st) h r h' := by
  have m1 := hc.1
  have m2 := kk.1
  refine ⟨⟨by omega, by omega⟩, fun p l e s mid args below meth c dC dI cK aK aV ad0 c0 s0 A ad H locs lsm hC hG hL hst => ?_⟩
  have hcc := hG.2.2.2.2.2.2.2.1
  have hT := hC.2.2.2.2.2.1
  have hR := of_decide_eq_true hfit
  have hst1 : ∀ w ∈ st, ai_b h.1 w := fun w hw => hst w (by simp [hw])
  have hstA : ∀ v ∈ Value.ref b :: as, ai_b h.1 v := fun v hv => by
    rcases List.mem_cons.mp hv with rfl | hv
    · exact hb
    · exact hst v (by simp [hv])
  have hM := hc.2 l dC dI cK aK aV ad H.size hG.2.2.2.2.2.2.2.2.2 hstA
  have hpv : PreS s H (ai_Pc dC dI cK aK aV ad H.size (.ref b :: as) h) (.ref (ad b) :: as.map (ai_v ad aK)) := ⟨ai_pc_blind, ai_pre hG⟩
  have hsk : ((as.reverse ++ .ref b :: st).map (ai_v ad aK)) = (as.map (ai_v ad aK)).reverse ++ .ref (ad b) :: st.map (ai_v ad aK) := by
    rw [List.map_append, List.map_reverse]; rfl
  have hlen : (as.map (ai_v ad aK)).length = n := by rw [List.length_map]; exact hn
  have hWm : 2 * (F0 mid pc lsm ((as.reverse ++ .ref b :: st).map (ai_v ad aK))).monitorRoom + ((st.map (ai_v ad aK)).map fun v => v.category).sum ≤ 8 := by
    rw [ai_cat_sum]
    exact lv_room (m := mid) (pc := pc) (ls := lsm) (rest := (as.reverse ++ .ref b :: st).map (ai_v ad aK)) hW
  have hfr : h.1 - c0 + (h1.1 - h.1) ≤ h'.1 - c0 ∧ h.2.1 - s0 + (h1.2.1 - h.2.1) ≤ h'.2.1 - s0 := ⟨by omega, by omega⟩
  refine ai_go (st := st) (rv := none) (h1 := h1) (as := as) m1 kk hC hG hL hst1 (a := (.ref (ad b) :: as.map (ai_v ad aK)).toArray) ?_
  rcases hl with hl | ⟨host, hl⟩
  · exact va_runI (cc := M.2.1) (nL := M.2.2.1) (Ts := ai_T) (own := M.1.cls) (As := as.map (ai_v ad aK)) (rest := st.map (ai_v ad aK)) ⟨hC.1, hC.2.1, hC.2.2.2.1, hC.2.2.2.2.1, hT⟩ hM ⟨callB_of n hT (ai_good hMK) (by rw [ai_ws, hvoid]) rfl rfl (hT _ hMK.2.1) (hT _ hl) hMK.2.2 hR, hnm, hT _ hin⟩ hpv rfl hlen hL.1 hsk hWm d hfr
  · exact va_runIN (cc := M.2.1) (nL := M.2.2.1) (Ts := ai_T) (own := M.1.cls) (As := as.map (ai_v ad aK)) (rest := st.map (ai_v ad aK)) ⟨hC.1, hC.2.1, hC.2.2.2.1, hC.2.2.2.2.1, hT⟩ hM ⟨va_cnB n hT (ai_good hMK) (by rw [ai_ws, hvoid]) rfl rfl (hG.2.1.1 _ hl) (hT _ hMK.2.1) hMK.2.2 hR, hnm, hT _ hin⟩ hpv rfl hlen hL.1 hsk hWm d hfr
/-- Object's constructor -/
theorem rs_obj {idx b : Nat} (d : decode M.2.1 pc = .ok (.invokespecial idx, 3)) (hw : Cond.methodLink M.1.cls idx Lib.objectInit ∈ ai_T) (hw2 : Cond.instanceMethod Lib.objectInit ∈ ai_T) (hw3 : Cond.code Lib.objectInit ⟨#[0xb1]⟩ 1 none ∈ ai_T) (hfr : 1 ≤ M.2.2.2.2.1) (hlo : (st.map fun v => v.category).sum + 12 ≤ M.2.2.2.2.2) (kk : ai_R M (pc + 3) ls st h r h') : ai_R M pc ls (.ref b :: st) h r h' := by
  refine ⟨kk.1, fun p l e s mid args below meth c dC dI cK aK aV ad0 c0 s0 A ad H locs lsm hC hG hL hst => ?_⟩
  have hT := hC.2.2.2.2.2.1
  have key := kk.2 p l e s mid args below meth c dC dI cK aK aV ad0 c0 s0 A ad H locs lsm hC hG hL (ai_b1 hst)
  exact W.objInit (g := F0 mid pc lsm ((.ref b :: st).map (ai_v ad aK))) hC.1 hC.2.1 hC.2.2.2.2.1 (hT _ hw) (hT _ hw2) (hT _ hw3) rfl (hL.1.trans hC.2.2.2.1.symm) rfl d hfr (by
    rw [ai_cat_sum]
    show 2 * 0 + _ + 12 ≤ M.2.2.2.2.2
    omega) key
end NEWS
