/-! 04: what a run is, and its rules, an instruction each -/
/-- a method: its name, its code, the number of its locals, what it returns, the frames and the words of locals that it may take below it -/
abbrev ai_M : Type := MethodName × ByteArray × Nat × Option FieldType × Nat × Nat
def ai_rm (M : ai_M) (a b : Nat) : Room := { frames := M.2.2.2.2.1, cells := a, slots := b, locals := M.2.2.2.2.2 }
def ai_C (M : ai_M) (p : Program) (s : State) (mid : MethodId) (args : Array Value) (meth : Method) (c : Code) : Prop :=
  p.tables.exec = Jvm.exec ∧ c.code = M.2.1 ∧ meth.sig.returnType = M.2.2.2.1 ∧ c.maxLocals = M.2.2.1 ∧ s.vm.findClass M.1.cls = some mid.cls ∧ (∀ w ∈ ai_T, w.before args s = true) ∧ meth.locks = false ∧ meth.name = M.1.name
def ai_G (dC : Nat → ClassId) (dI : Nat → Nat → Nat) (cK aK aV ad0 : Nat → Nat) (c0 s0 : Nat) (A : Nat → Prop) (s : State) (ad : Nat → Nat) (h : ai_H) (H : Heap) (locs : List Loc) : Prop :=
  va_K (dC, dI) ai_cl (ai_tys cK) s ∧ ai_N s ∧ ai_Z aK aV A s ∧ va_P (dC, dI) ai_cl (ai_w cK ad aK h) H ∧ va_D A (ai_w cK ad aK h) ∧ va_S A s.heap H locs ∧ (∀ q : Nat, s.heap.size ≤ q → A q) ∧ (c0 ≤ h.1 ∧ s0 ≤ h.2.1) ∧ (∀ k, k < c0 → ad k = ad0 k) ∧ ∀ k, k < h.1 → ai_eb h.1 (h.2.2 k)
def ai_L (lsm : Array Slot) (nL n : Nat) (ad aK : Nat → Nat) (ls : List Value) : Prop :=
  lsm.size = nL ∧ lv_wf lsm ∧ ∀ (i : Nat) (v : Value), ls[i]? = some v → v ≠ .float 0 → lsm[i]? = some (.val (ai_v ad aK v)) ∧ ai_b n v
def ai_Q (dC : Nat → ClassId) (dI : Nat → Nat → Nat) (cK aK ad0 : Nat → Nat) (c0 : Nat) (A : Nat → Prop) (r : Option Value) (h' : ai_H) : Array Value → State → Outcome → State → Prop := fun _ st oc t =>
  (∃ ad : Nat → Nat, (∀ k, k < c0 → ad k = ad0 k) ∧ oc = .returned (r.map (ai_v ad aK)) ∧ va_P (dC, dI) ai_cl (ai_w cK ad aK h') t.heap ∧ va_D A (ai_w cK ad aK h') ∧ (∀ k, k < h'.1 → ai_eb h'.1 (h'.2.2 k)) ∧ ∀ v, r = some v → ai_b h'.1 v) ∧ va_F A st t
def ai_R (M : ai_M) (pc : Nat) (ls st : List Value) (h : ai_H) (r : Option Value) (h' : ai_H) : Prop :=
  (h.1 ≤ h'.1 ∧ h.2.1 ≤ h'.2.1) ∧ ∀ (p : Program) (l : Launch) (e : Env) (s : State) (mid : MethodId) (args : Array Value) (below : List Frame) (meth : Method) (c : Code) (dC : Nat → ClassId) (dI : Nat → Nat → Nat) (cK aK aV ad0 : Nat → Nat) (c0 s0 : Nat) (A : Nat → Prop) (ad : Nat → Nat) (H : Heap) (locs : List Loc) (lsm : Array Slot),
    ai_C M p s mid args meth c → ai_G dC dI cK aK aV ad0 c0 s0 A s ad h H locs → ai_L lsm M.2.2.1 h.1 ad aK ls → (∀ v ∈ st, ai_b h.1 v) →
    W p l e (ai_rm M (h'.1 - c0) (h'.2.1 - s0)) s mid args below meth c H locs (h.1 - c0) (h.2.1 - s0) (MQ below (ai_Q dC dI cK aK ad0 c0 A r h') args s (h'.1 - c0) (h'.2.1 - s0) A) (F0 mid pc lsm (st.map (ai_v ad aK)))
/-- the words of a method -/
def ai_ws (M : ai_M) : List Cond := Cond.code M.1 M.2.1 M.2.2.1 M.2.2.2.1 :: ai_T
def ai_Pc (dC : Nat → ClassId) (dI : Nat → Nat → Nat) (cK aK aV ad : Nat → Nat) (sz : Nat) (as : List Value) (h : ai_H) : Array Value → State → Prop :=
  va_Pc (as.map (ai_v ad aK)) (fun U => U.heap.size = sz ∧ va_K (dC, dI) ai_cl (ai_tys cK) U ∧ ai_N U ∧ ai_Z aK aV (va_A (ai_w cK ad aK h) sz) U ∧ va_P (dC, dI) ai_cl (ai_w cK ad aK h) U.heap ∧ va_D (fun _ => True) (ai_w cK ad aK h))
/-- a method's contract: called with as in the heap h it returns r, and the heap is then h' -/
def ai_Met (M : ai_M) (as : List Value) (h : ai_H) (r : Option Value) (h' : ai_H) : Prop :=
  (h.1 ≤ h'.1 ∧ h.2.1 ≤ h'.2.1) ∧ ∀ (l : Launch) (dC : Nat → ClassId) (dI : Nat → Nat → Nat) (cK aK aV ad : Nat → Nat) (sz : Nat), (∀ k, k < h.1 → ai_eb h.1 (h.2.2 k)) → (∀ v ∈ as, ai_b h.1 v) →
    Met l M.1 (ai_ws M) (ai_rm M (h'.1 - h.1) (h'.2.1 - h.2.1)) (ai_Pc dC dI cK aK aV ad sz as h) (ai_Q dC dI cK aK ad h.1 (va_A (ai_w cK ad aK h) sz) r h') (h'.1 - h.1) (h'.2.1 - h.2.1) (va_A (ai_w cK ad aK h) sz)
/-- the locals at a method's entry -/
def ai_en : List Value → List Value
  | [] => []
  | v :: vs => if v.category = 2 then v :: .float 0 :: ai_en vs else v :: ai_en vs
theorem ai_en_at {ad aK : Nat → Nat} : ∀ (as : List Value) (b i : Nat) (v : Value), (ai_en as)[i]? = some v → v ≠ .float 0 → (b + i, ai_v ad aK v) ∈ lv_args b (as.map (ai_v ad aK)) ∧ v ∈ as
  | [], b, i, v, h, _ => by simp [ai_en] at h
  | a :: as, b, i, v, h, hv => by
    simp only [List.map_cons, lv_args, ai_v_cat]
    by_cases hc : a.category = 2
    · simp only [ai_en, if_pos hc] at h ⊢
      match i, h with
      | 0, h =>
        have e : a = v := by simpa using h
        subst e
        exact ⟨by simp, List.mem_cons_self⟩
      | 1, h =>
        have e : Value.float 0 = v := by simpa using h
        exact absurd e.symm hv
      | i + 2, h =>
        have h2 : (ai_en as)[i]? = some v := by simpa using h
        obtain ⟨q1, q2⟩ := ai_en_at as (b + 2) i v h2 hv
        exact ⟨List.mem_cons_of_mem _ (by rw [show b + (i + 2) = b + 2 + i by omega]; exact q1), List.mem_cons_of_mem _ q2⟩
    · simp only [ai_en, if_neg hc] at h ⊢
      match i, h with
      | 0, h =>
        have e : a = v := by simpa using h
        subst e
        exact ⟨by simp, List.mem_cons_self⟩
      | i + 1, h =>
        have h2 : (ai_en as)[i]? = some v := by simpa using h
        obtain ⟨q1, q2⟩ := ai_en_at as (b + 1) i v h2 hv
        exact ⟨List.mem_cons_of_mem _ (by rw [show b + (i + 1) = b + 1 + i by omega]; exact q1), List.mem_cons_of_mem _ q2⟩
theorem ai_en_len (ad aK : Nat → Nat) : ∀ as : List Value, (lg_sl (as.map (ai_v ad aK))).length = (ai_en as).length
  | [] => rfl
  | a :: as => by
    have ih := ai_en_len ad aK as
    simp only [lg_sl] at ih
    simp only [List.map_cons, lg_sl, List.flatMap_cons, List.length_append, ai_v_cat, ih, ai_en]
    by_cases hc : a.category = 2
    · simp [hc]; omega
    · simp [hc]; omega
theorem ai_met {M : ai_M} {as ls : List Value} {h : ai_H} {r : Option Value} {h' : ai_H} (hy : plainName M.1.cls = true) (hn : (ai_en as).length ≤ M.2.2.1) (hls : ls = ai_en as ++ List.replicate (M.2.2.1 - (ai_en as).length) (.float 0)) (hr : ai_R M 0 ls [] h r h') : ai_Met M as h r h' := by
  refine ⟨hr.1, fun l dC dI cK aK aV ad sz hwf hab => ?_⟩
  refine Met.ofW (cc := M.2.1) (maxL := M.2.2.1) (ret := M.2.2.2.1) hy rfl ?_
  intro p e s m args below meth c s₁ B hml hv
  obtain ⟨rfl, hsz, hK, hN, hZ, hP, hD0⟩ := hv
  have hts := atoms_spec (ws := ai_ws M) B.pre
  have hown : s.vm.findClass M.1.cls = some m.cls := findClass_of_methodNamed B.named
  have hin : meth.name = M.1.name := (name_of_methodNamed B.named B.method).1
  subst hsz
  have hD := hD0.self (sz := s.heap.size)
  have hl := lv_entry (as.map (ai_v ad aK)) (n := M.2.2.1) (by rw [ai_en_len]; exact hn)
  rw [lg_entry_eq]
  generalize (lg_sl (as.map (ai_v ad aK)) ++ List.replicate (M.2.2.1 - (lg_sl (as.map (ai_v ad aK))).length) Slot.unset).toArray = lsm at hl ⊢
  have hL : ai_L lsm M.2.2.1 h.1 ad aK ls := by
    refine ⟨hl.1, hl.2.1, fun i v hi hne => ?_⟩
    rw [hls] at hi
    by_cases hlt : i < (ai_en as).length
    · rw [List.getElem?_append_left hlt] at hi
      obtain ⟨q1, q2⟩ := ai_en_at (ad := ad) (aK := aK) as 0 i v hi hne
      rw [Nat.zero_add] at q1
      exact ⟨hl.2.2 _ q1, hab v q2⟩
    · rw [List.getElem?_append_right (by omega)] at hi
      have : v = .float 0 := (List.mem_replicate.mp (List.mem_of_getElem? hi)).2
      exact absurd this hne
  have key := hr.2 p l e s m (as.map (ai_v ad aK)).toArray below meth c dC dI cK aK aV ad h.1 h.2.1 (va_A (ai_w cK ad aK h) s.heap.size) ad s.heap [] lsm
    ⟨B.exec, B.bytes, B.returns, hml, hown, fun w hw => hts w (List.mem_cons_of_mem _ hw), B.notSynchronized, hin⟩
    ⟨hK, hN, hZ, hP, hD, va_S.rf, fun q hq => Or.inr hq, ⟨Nat.le_refl _, Nat.le_refl _⟩, fun _ _ => rfl, hwf⟩ hL (fun v hv => by cases hv)
  simp only [Nat.sub_self] at key
  exact key
