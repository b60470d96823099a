/-! 06: the rules: fields, arrays, new cells, returns -/
def ai_K1 (ci : Nat) (C : String) (T : u_T) (N : Nat) : Prop := ai_cl[ci]? = some (C, T, N) ∧ (∀ w ∈ u_ws C T N, w ∈ ai_T) ∧ (∀ k, k < N → parseFieldDescriptor (T k).2.2.1 = some (ai_ty ci k)) ∧ ∀ a, a < N → ∀ b, b < N → a ≠ b → (T a).2.1 ≠ (T b).2.1
/-- the constant idx of the class own names field k of class ci; fin: a final one -/
def ai_F (own : String) (idx ci k : Nat) (fin : Bool) : Prop := ∃ (C : String) (T : u_T) (N : Nat), ai_K1 ci C T N ∧ k < N ∧ (T k).2.2.2 = fin ∧ (T k).1 = C ∧ (Cond.fieldLink own idx (T k).1 (T k).2.1 (T k).2.2.1 ∈ ai_T ∨ ∃ host, Cond.fieldLinkNest own idx (T k).1 (T k).2.1 (T k).2.2.1 host ∈ ai_TN)
def ai_fit : FieldType → Value → Bool
  | .int, .int _ => true
  | .long, .long _ => true
  | .boolean, .int x => x == 0 || x == 1
  | .object _, .ref _ => true
  | .object _, .null => true
  | .array _, .ref _ => true
  | .array _, .null => true
  | _, _ => false
theorem ai_fit_ok {ty : FieldType} {v : Value} (ad aK : Nat → Nat) (h : ai_fit ty v = true) : narrow ty (ai_v ad aK v) = ai_v ad aK v ∧ fits ty (ai_v ad aK v) = true := by
  cases ty <;> cases v <;> first
    | (exact absurd h Bool.false_ne_true)
    | exact ⟨rfl, rfl⟩
    | (rename_i x
       have h2 : x = 0 ∨ x = 1 := by simpa [ai_fit] using h
       rcases h2 with rfl | rfl <;> exact ⟨rfl, rfl⟩)
theorem ai_wf_set {h : ai_H} {q : Nat} {e : va_E} (hw : ∀ k, k < h.1 → ai_eb h.1 (h.2.2 k)) (he : ai_eb h.1 e) : ∀ k, k < (ai_set h q e).1 → ai_eb (ai_set h q e).1 ((ai_set h q e).2.2 k) := by
  intro k hk
  show ai_eb h.1 (va_up h.2.2 q e k)
  by_cases z : k = q
  · simp only [va_up, if_pos z]; exact he
  · simp only [va_up, if_neg z]; exact hw k hk
theorem ai_wf_add {h : ai_H} {N : Nat} {e : va_E} (hw : ∀ k, k < h.1 → ai_eb h.1 (h.2.2 k)) (he : ai_eb h.1 e) : ∀ k, k < (ai_add h N e).1 → ai_eb (ai_add h N e).1 ((ai_add h N e).2.2 k) := by
  intro k hk
  show ai_eb (h.1 + 1) (va_up h.2.2 h.1 e k)
  by_cases z : k = h.1
  · simp only [va_up, if_pos z]; exact he.le (Nat.le_succ _)
  · simp only [va_up, if_neg z]
    have : k < h.1 + 1 := hk
    exact (hw k (by omega)).le (Nat.le_succ _)
section HEAP
variable {M : ai_M} {pc : Nat} {ls st : List Value} {h h' : ai_H} {r : Option Value}
theorem rs_getf {idx ci k q : Nat} {fin : Bool} {fs : List Value} {v : Value} (d : decode M.2.1 pc = .ok (.getfield idx, 3)) (F : ai_F M.1.cls idx ci k fin) (hq : q < h.1) (he : h.2.2 q = .inr (ci, fs)) (hv : fs[k]? = some v) (kk : ai_R M (pc + 3) ls (v :: st) h r h') : ai_R M pc ls (.ref q :: st) h r h' := by
  refine ⟨kk.1, fun p l e s mid args below meth c dC dI cK aK aV ad0 c0 s0 A ad H locs lsm hC hG hL hst => ?_⟩
  obtain ⟨C, T, N, hk1, hkN, -, -, hlk⟩ := F
  have hw : (ai_w cK ad aK h)[q]? = some (ad q, .inr (ci, fs.map (ai_v ad aK))) := by rw [ai_w_get hq, he]; rfl
  have hvm : (fs.map (ai_v ad aK))[k]? = some (ai_v ad aK v) := by rw [List.getElem?_map, hv]; rfl
  have hbv : ai_b h.1 v := by
    have h9 := hG.2.2.2.2.2.2.2.2.2 q hq
    rw [he] at h9
    exact h9 v (List.mem_of_getElem? hv)
  have key := kk.2 p l e s mid args below meth c dC dI cK aK aV ad0 c0 s0 A ad H locs lsm hC hG hL (ai_bt (ai_b1 hst) hbv)
  rcases hlk with hlk | ⟨host, hlk⟩
  · exact va_get (D := (dC, dI)) hC.1 hC.2.1 hC.2.2.2.2.2.1 hk1.2.1 hC.2.2.2.2.1 hG.1 hG.2.2.2.1 q hw hk1.1 k hkN (hC.2.2.2.2.2.1 _ hlk) (fun _ h9 => h9) hvm d key
  · exact va_getN (D := (dC, dI)) hC.1 hC.2.1 hC.2.2.2.2.2.1 hk1.2.1 hC.2.2.2.2.1 hG.1 hG.2.2.2.1 q hw hk1.1 k hkN (va_Nw.use rfl (hG.2.1.1 _ hlk)) (fun _ h9 => h9) hvm d key
theorem ai_put_k {idx ci k q : Nat} {fs : List Value} {v : Value} (hq : q < h.1) (he : h.2.2 q = .inr (ci, fs)) (kk : ai_R M (pc + 3) ls st (ai_set h q (.inr (ci, fs.set k v))) r h')
    {p : Program} {l : Launch} {e : Env} {s : State} {mid : MethodId} {args : Array Value} {below : List Frame} {meth : Method} {c : Code} {dC : Nat → ClassId} {dI : Nat → Nat → Nat} {cK aK aV ad0 : Nat → Nat} {c0 s0 : Nat} {A : Nat → Prop} {ad : Nat → Nat} {H : Heap} {locs : List Loc} {lsm : Array Slot}
    (hC : ai_C M p s mid args meth c) (hG : ai_G dC dI cK aK aV ad0 c0 s0 A s ad h H locs) (hL : ai_L lsm M.2.2.1 h.1 ad aK ls) (hst : ∀ w ∈ v :: .ref q :: st, ai_b h.1 w)
    (H1 : Heap) (locs1 : List Loc) (hP : va_P (dC, dI) ai_cl ((ai_w cK ad aK h).set q (ad q, .inr (ci, (fs.map (ai_v ad aK)).set k (ai_v ad aK v)))) H1) (hD : va_D A ((ai_w cK ad aK h).set q (ad q, .inr (ci, (fs.map (ai_v ad aK)).set k (ai_v ad aK v))))) (hS : va_S A s.heap H1 locs1) :
    W p l e (ai_rm M (h'.1 - c0) (h'.2.1 - s0)) s mid args below meth c H1 locs1 (h.1 - c0) (h.2.1 - s0) (MQ below (ai_Q dC dI cK aK ad0 c0 A r h') args s (h'.1 - c0) (h'.2.1 - s0) A) (F0 mid (pc + 3) lsm (st.map (ai_v ad aK))) := by
  have e1 : (ai_w cK ad aK h).set q (ad q, .inr (ci, (fs.map (ai_v ad aK)).set k (ai_v ad aK v))) = ai_w cK ad aK (ai_set h q (.inr (ci, fs.set k v))) := by
    rw [← ai_w_set _ hq]
    simp only [ai_e, List.map_set]
  rw [e1] at hP hD
  have hwf := hG.2.2.2.2.2.2.2.2.2
  have hfs : ∀ w ∈ fs, ai_b h.1 w := by
    have h9 := hwf q hq
    rw [he] at h9
    exact h9
  exact kk.2 p l e s mid args below meth c dC dI cK aK aV ad0 c0 s0 A ad H1 locs1 lsm hC
    ⟨hG.1, hG.2.1, hG.2.2.1, hP, hD, hS, hG.2.2.2.2.2.2.1, hG.2.2.2.2.2.2.2.1, hG.2.2.2.2.2.2.2.2.1, ai_wf_set hwf (fun w hw => by
      rcases List.mem_or_eq_of_mem_set hw with hw | rfl
      · exact hfs w hw
      · exact hst _ List.mem_cons_self)⟩ hL (ai_b2 hst)
theorem rs_putf {idx ci k q : Nat} {fs : List Value} {v : Value} (d : decode M.2.1 pc = .ok (.putfield idx, 3)) (F : ai_F M.1.cls idx ci k false) (hq : q < h.1) (he : h.2.2 q = .inr (ci, fs)) (hfit : ai_fit (ai_ty ci k) v = true) (hlen : k < fs.length) (kk : ai_R M (pc + 3) ls st (ai_set h q (.inr (ci, fs.set k v))) r h') : ai_R M pc ls (v :: .ref q :: st) h r h' := by
  refine ⟨kk.1, fun p l e s mid args below meth c dC dI cK aK aV ad0 c0 s0 A ad H locs lsm hC hG hL hst => ?_⟩
  have key := ai_put_k (k := k) (idx := idx) (l := l) (e := e) (below := below) hq he kk hC hG hL hst
  obtain ⟨C, T, N, hk1, hkN, hfin, -, hlk⟩ := F
  have hw : (ai_w cK ad aK h)[q]? = some (ad q, .inr (ci, fs.map (ai_v ad aK))) := by rw [ai_w_get hq, he]; rfl
  obtain ⟨hn, hf⟩ := ai_fit_ok ad aK hfit
  have hl2 : k < (fs.map (ai_v ad aK)).length := by rw [List.length_map]; exact hlen
  rcases hlk with hlk | ⟨host, hlk⟩
  · exact va_put (D := (dC, dI)) hC.1 hC.2.1 hC.2.2.2.2.2.1 hk1.2.1 (ai_ty ci) hk1.2.2.1 hk1.2.2.2 hC.2.2.2.2.1 hG.1 hG.2.2.2.1 hG.2.2.2.2.1 hG.2.2.2.2.2.1 q hw hk1.1 k hkN (hC.2.2.2.2.2.1 _ hlk) (fun _ h9 => h9) hfin (hk1.2.2.1 k hkN) hn hf hl2 d key
  · exact va_putN (D := (dC, dI)) hC.1 hC.2.1 hC.2.2.2.2.2.1 hk1.2.1 (ai_ty ci) hk1.2.2.1 hk1.2.2.2 hC.2.2.2.2.1 hG.1 hG.2.2.2.1 hG.2.2.2.2.1 hG.2.2.2.2.2.1 q hw hk1.1 k hkN (va_Nw.use rfl (hG.2.1.1 _ hlk)) (fun _ h9 => h9) hfin (hk1.2.2.1 k hkN) hn hf hl2 d key
/-- a final field, in its own class's constructor -/
def ai_FF (own : String) (idx ci k : Nat) : Prop := ∃ (C : String) (T : u_T) (N : Nat), ai_K1 ci C T N ∧ k < N ∧ (T k).2.2.2 = true ∧ (T k).1 = own ∧ Cond.fieldLink own idx (T k).1 (T k).2.1 (T k).2.2.1 ∈ ai_T
theorem rs_putF {idx ci k q : Nat} {fs : List Value} {v : Value} (d : decode M.2.1 pc = .ok (.putfield idx, 3)) (F : ai_FF M.1.cls idx ci k) (hi : M.1.name = "<init>") (hq : q < h.1) (he : h.2.2 q = .inr (ci, fs)) (hfit : ai_fit (ai_ty ci k) v = true) (hlen : k < fs.length) (kk : ai_R M (pc + 3) ls st (ai_set h q (.inr (ci, fs.set k v))) r h') : ai_R M pc ls (v :: .ref q :: st) h r h' := by
  refine ⟨kk.1, fun p l e s mid args below meth c dC dI cK aK aV ad0 c0 s0 A ad H locs lsm hC hG hL hst => ?_⟩
  have key := ai_put_k (k := k) (idx := idx) (l := l) (e := e) (below := below) hq he kk hC hG hL hst
  obtain ⟨C, T, N, hk1, hkN, hfin, hdecl, hlk⟩ := F
  have hw : (ai_w cK ad aK h)[q]? = some (ad q, .inr (ci, fs.map (ai_v ad aK))) := by rw [ai_w_get hq, he]; rfl
  obtain ⟨hn, hf⟩ := ai_fit_ok ad aK hfit
  have hl2 : k < (fs.map (ai_v ad aK)).length := by rw [List.length_map]; exact hlen
  exact va_putF (D := (dC, dI)) hC.1 hC.2.1 hC.2.2.2.2.2.1 hk1.2.1 (ai_ty ci) hk1.2.2.1 hk1.2.2.2 hC.2.2.2.2.1 hG.1 hG.2.2.2.1 hG.2.2.2.2.1 hG.2.2.2.2.2.1 q hw hk1.1 k hkN (hC.2.2.2.2.2.1 _ hlk) (fun _ h9 => h9) hfin (hC.2.2.2.2.2.2.2.trans hi) hdecl (hk1.2.2.1 k hkN) hn hf hl2 d key
/-! arrays -/
theorem rs_iald {q n : Nat} {f : Nat → Int32} {i : Int32} (d : decode M.2.1 pc = .ok (.iaload, 1)) (hq : q < h.1) (he : h.2.2 q = .inl (0, n, .inl f)) (hin : vp_in i n) (kk : ai_R M (pc + 1) ls (.int (f i.toNatClampNeg) :: st) h r h') : ai_R M pc ls (.int i :: .ref q :: st) h r h' := by
  refine ⟨kk.1, fun p l e s mid args below meth c dC dI cK aK aV ad0 c0 s0 A ad H locs lsm hC hG hL hst => ?_⟩
  have hw : (ai_w cK ad aK h)[q]? = some (ad q, .inl (cK 0, n, .inl f)) := by rw [ai_w_get hq, he]; rfl
  exact va_iald hC.1 hC.2.1 hG.1 hG.2.2.2.1 q 0 hw rfl hin d (kk.2 p l e s mid args below meth c dC dI cK aK aV ad0 c0 s0 A ad H locs lsm hC hG hL (ai_bt (ai_b2 hst) trivial))
theorem rs_lald {q n : Nat} {f : Nat → Int64} {i : Int32} (d : decode M.2.1 pc = .ok (.laload, 1)) (hq : q < h.1) (he : h.2.2 q = .inl (1, n, .inr (.inl f))) (hin : vp_in i n) (kk : ai_R M (pc + 1) ls (.long (f i.toNatClampNeg) :: st) h r h') : ai_R M pc ls (.int i :: .ref q :: st) h r h' := by
  refine ⟨kk.1, fun p l e s mid args below meth c dC dI cK aK aV ad0 c0 s0 A ad H locs lsm hC hG hL hst => ?_⟩
  have hw : (ai_w cK ad aK h)[q]? = some (ad q, .inl (cK 1, n, .inr (.inl f))) := by rw [ai_w_get hq, he]; rfl
  exact va_lald hC.1 hC.2.1 hG.1 hG.2.2.2.1 q 1 hw rfl hin d (kk.2 p l e s mid args below meth c dC dI cK aK aV ad0 c0 s0 A ad H locs lsm hC hG hL (ai_bt (ai_b2 hst) trivial))
theorem rs_zald {q n : Nat} {f : Nat → Int32} {i : Int32} (d : decode M.2.1 pc = .ok (.baload, 1)) (hq : q < h.1) (he : h.2.2 q = .inl (2, n, .inl f)) (hin : vp_in i n) (kk : ai_R M (pc + 1) ls (.int (f i.toNatClampNeg) :: st) h r h') : ai_R M pc ls (.int i :: .ref q :: st) h r h' := by
  refine ⟨kk.1, fun p l e s mid args below meth c dC dI cK aK aV ad0 c0 s0 A ad H locs lsm hC hG hL hst => ?_⟩
  have hw : (ai_w cK ad aK h)[q]? = some (ad q, .inl (cK 2, n, .inl f)) := by rw [ai_w_get hq, he]; rfl
  exact va_zald hC.1 hC.2.1 hG.1 hG.2.2.2.1 q 2 hw rfl hin d (kk.2 p l e s mid args below meth c dC dI cK aK aV ad0 c0 s0 A ad H locs lsm hC hG hL (ai_bt (ai_b2 hst) trivial))
theorem rs_bald {q n : Nat} {f : Nat → Int32} {i : Int32} (d : decode M.2.1 pc = .ok (.baload, 1)) (hq : q < h.1) (he : h.2.2 q = .inl (3, n, .inl f)) (hin : vp_in i n) (kk : ai_R M (pc + 1) ls (.int (f i.toNatClampNeg) :: st) h r h') : ai_R M pc ls (.int i :: .ref q :: st) h r h' := by
  refine ⟨kk.1, fun p l e s mid args below meth c dC dI cK aK aV ad0 c0 s0 A ad H locs lsm hC hG hL hst => ?_⟩
  have hw : (ai_w cK ad aK h)[q]? = some (ad q, .inl (cK 3, n, .inl f)) := by rw [ai_w_get hq, he]; rfl
  exact va_bald hC.1 hC.2.1 hG.1 hG.2.2.2.1 q 3 hw rfl hin d (kk.2 p l e s mid args below meth c dC dI cK aK aV ad0 c0 s0 A ad H locs lsm hC hG hL (ai_bt (ai_b2 hst) trivial))
theorem ai_ast_k {k q n : Nat} {x y : Value} {a : vp_A} (hq : q < h.1) (hx : ai_eb h.1 (.inl (k, a))) (kk : ai_R M (pc + 1) ls st (ai_set h q (.inl (k, a))) r h')
    {p : Program} {l : Launch} {e : Env} {s : State} {mid : MethodId} {args : Array Value} {below : List Frame} {meth : Method} {c : Code} {dC : Nat → ClassId} {dI : Nat → Nat → Nat} {cK aK aV ad0 : Nat → Nat} {c0 s0 : Nat} {A : Nat → Prop} {ad : Nat → Nat} {H : Heap} {locs : List Loc} {lsm : Array Slot}
    (hC : ai_C M p s mid args meth c) (hG : ai_G dC dI cK aK aV ad0 c0 s0 A s ad h H locs) (hL : ai_L lsm M.2.2.1 h.1 ad aK ls) (hst : ∀ w ∈ x :: y :: .ref q :: st, ai_b h.1 w)
    (H1 : Heap) (locs1 : List Loc) (hP : va_P (dC, dI) ai_cl ((ai_w cK ad aK h).set q (ad q, ai_e cK ad aK (.inl (k, a)))) H1) (hD : va_D A ((ai_w cK ad aK h).set q (ad q, ai_e cK ad aK (.inl (k, a))))) (hS : va_S A s.heap H1 locs1) :
    W p l e (ai_rm M (h'.1 - c0) (h'.2.1 - s0)) s mid args below meth c H1 locs1 (h.1 - c0) (h.2.1 - s0) (MQ below (ai_Q dC dI cK aK ad0 c0 A r h') args s (h'.1 - c0) (h'.2.1 - s0) A) (F0 mid (pc + 1) lsm (st.map (ai_v ad aK))) := by
  rw [ai_w_set _ hq] at hP hD
  have hwf := hG.2.2.2.2.2.2.2.2.2
  exact kk.2 p l e s mid args below meth c dC dI cK aK aV ad0 c0 s0 A ad H1 locs1 lsm hC
    ⟨hG.1, hG.2.1, hG.2.2.1, hP, hD, hS, hG.2.2.2.2.2.2.1, hG.2.2.2.2.2.2.2.1, hG.2.2.2.2.2.2.2.2.1, ai_wf_set hwf hx⟩ hL (ai_b1 (ai_b2 hst))
theorem rs_iast {q n : Nat} {f : Nat → Int32} {i x : Int32} (d : decode M.2.1 pc = .ok (.iastore, 1)) (hq : q < h.1) (he : h.2.2 q = .inl (0, n, .inl f)) (hin : vp_in i n) (kk : ai_R M (pc + 1) ls st (ai_set h q (.inl (0, n, .inl (upd f i.toNatClampNeg x)))) r h') : ai_R M pc ls (.int x :: .int i :: .ref q :: st) h r h' := by
  refine ⟨kk.1, fun p l e s mid args below meth c dC dI cK aK aV ad0 c0 s0 A ad H locs lsm hC hG hL hst => ?_⟩
  have hw : (ai_w cK ad aK h)[q]? = some (ad q, .inl (cK 0, n, .inl f)) := by rw [ai_w_get hq, he]; rfl
  exact va_iast hC.1 hC.2.1 hG.1 hG.2.2.2.1 hG.2.2.2.2.1 hG.2.2.2.2.2.1 q 0 hw rfl hin d (ai_ast_k (n := n) (l := l) (e := e) (below := below) hq (by exact trivial) kk hC hG hL hst)
theorem rs_last {q n : Nat} {f : Nat → Int64} {i : Int32} {x : Int64} (d : decode M.2.1 pc = .ok (.lastore, 1)) (hq : q < h.1) (he : h.2.2 q = .inl (1, n, .inr (.inl f))) (hin : vp_in i n) (kk : ai_R M (pc + 1) ls st (ai_set h q (.inl (1, n, .inr (.inl (vp_updL f i.toNatClampNeg x))))) r h') : ai_R M pc ls (.long x :: .int i :: .ref q :: st) h r h' := by
  refine ⟨kk.1, fun p l e s mid args below meth c dC dI cK aK aV ad0 c0 s0 A ad H locs lsm hC hG hL hst => ?_⟩
  have hw : (ai_w cK ad aK h)[q]? = some (ad q, .inl (cK 1, n, .inr (.inl f))) := by rw [ai_w_get hq, he]; rfl
  exact va_last hC.1 hC.2.1 hG.1 hG.2.2.2.1 hG.2.2.2.2.1 hG.2.2.2.2.2.1 q 1 hw rfl hin d (ai_ast_k (n := n) (l := l) (e := e) (below := below) hq (by exact trivial) kk hC hG hL hst)
theorem rs_zast {q n : Nat} {f : Nat → Int32} {i x : Int32} (d : decode M.2.1 pc = .ok (.bastore, 1)) (hq : q < h.1) (he : h.2.2 q = .inl (2, n, .inl f)) (hin : vp_in i n) (kk : ai_R M (pc + 1) ls st (ai_set h q (.inl (2, n, .inl (upd f i.toNatClampNeg (vp_nar .boolean x))))) r h') : ai_R M pc ls (.int x :: .int i :: .ref q :: st) h r h' := by
  refine ⟨kk.1, fun p l e s mid args below meth c dC dI cK aK aV ad0 c0 s0 A ad H locs lsm hC hG hL hst => ?_⟩
  have hw : (ai_w cK ad aK h)[q]? = some (ad q, .inl (cK 2, n, .inl f)) := by rw [ai_w_get hq, he]; rfl
  exact va_zast hC.1 hC.2.1 hG.1 hG.2.2.2.1 hG.2.2.2.2.1 hG.2.2.2.2.2.1 q 2 hw rfl hin d (ai_ast_k (n := n) (l := l) (e := e) (below := below) hq (by exact trivial) kk hC hG hL hst)
theorem rs_bast {q n : Nat} {f : Nat → Int32} {i x : Int32} (d : decode M.2.1 pc = .ok (.bastore, 1)) (hq : q < h.1) (he : h.2.2 q = .inl (3, n, .inl f)) (hin : vp_in i n) (kk : ai_R M (pc + 1) ls st (ai_set h q (.inl (3, n, .inl (upd f i.toNatClampNeg (vp_nar .byte x))))) r h') : ai_R M pc ls (.int x :: .int i :: .ref q :: st) h r h' := by
  refine ⟨kk.1, fun p l e s mid args below meth c dC dI cK aK aV ad0 c0 s0 A ad H locs lsm hC hG hL hst => ?_⟩
  have hw : (ai_w cK ad aK h)[q]? = some (ad q, .inl (cK 3, n, .inl f)) := by rw [ai_w_get hq, he]; rfl
  exact va_bast hC.1 hC.2.1 hG.1 hG.2.2.2.1 hG.2.2.2.2.1 hG.2.2.2.2.2.1 q 3 hw rfl hin d (ai_ast_k (n := n) (l := l) (e := e) (below := below) hq (by exact trivial) kk hC hG hL hst)
theorem ai_rf (ad aK : Nat → Nat) (o : Option Nat) : va_rf (o.map ad) = ai_v ad aK (va_rf o) := by cases o <;> rfl
theorem rs_aald {k q n : Nat} {C : String} {f : Nat → Option Nat} {i : Int32} (d : decode M.2.1 pc = .ok (.aaload, 1)) (hk : ∀ cK : Nat → Nat, (ai_tys cK)[k]? = some (cK k, .object C)) (hq : q < h.1) (he : h.2.2 q = .inl (k, n, .inr (.inr (.inr (.inr f))))) (hin : vp_in i n) (kk : ai_R M (pc + 1) ls (va_rf (f i.toNatClampNeg) :: st) h r h') : ai_R M pc ls (.int i :: .ref q :: st) h r h' := by
  refine ⟨kk.1, fun p l e s mid args below meth c dC dI cK aK aV ad0 c0 s0 A ad H locs lsm hC hG hL hst => ?_⟩
  have hw : (ai_w cK ad aK h)[q]? = some (ad q, .inl (cK k, n, .inr (.inr (.inr (.inr (fun i => (f i).map ad)))))) := by rw [ai_w_get hq, he]; rfl
  have hb : ai_b h.1 (va_rf (f i.toNatClampNeg)) := by
    have h9 := hG.2.2.2.2.2.2.2.2.2 q hq
    rw [he] at h9
    cases hf : f i.toNatClampNeg with
    | none => trivial
    | some z => exact h9 _ z hf
  have key := kk.2 p l e s mid args below meth c dC dI cK aK aV ad0 c0 s0 A ad H locs lsm hC hG hL (ai_bt (ai_b2 hst) hb)
  refine va_aldq hC.1 hC.2.1 hG.1 hG.2.2.2.1 q k hw (hk cK) hin d ?_
  rw [ai_rf ad aK]
  exact key
theorem rs_aast {k q n ci v : Nat} {C : String} {T : u_T} {N : Nat} {vs : List Value} {f : Nat → Option Nat} {i : Int32} (d : decode M.2.1 pc = .ok (.aastore, 1)) (hk : ∀ cK : Nat → Nat, (ai_tys cK)[k]? = some (cK k, .object C)) (hc : ai_cl[ci]? = some (C, T, N)) (hq : q < h.1) (he : h.2.2 q = .inl (k, n, .inr (.inr (.inr (.inr f))))) (hv : v < h.1) (hev : h.2.2 v = .inr (ci, vs)) (hin : vp_in i n) (kk : ai_R M (pc + 1) ls st (ai_set h q (.inl (k, n, .inr (.inr (.inr (.inr (va_up f i.toNatClampNeg (some v)))))))) r h') : ai_R M pc ls (.ref v :: .int i :: .ref q :: st) h r h' := by
  refine ⟨kk.1, fun p l e s mid args below meth c dC dI cK aK aV ad0 c0 s0 A ad H locs lsm hC hG hL hst => ?_⟩
  have hw : (ai_w cK ad aK h)[q]? = some (ad q, .inl (cK k, n, .inr (.inr (.inr (.inr (fun i => (f i).map ad)))))) := by rw [ai_w_get hq, he]; rfl
  have hwv : (ai_w cK ad aK h)[v]? = some (ad v, .inr (ci, vs.map (ai_v ad aK))) := by rw [ai_w_get hv, hev]; rfl
  have hb : ai_eb h.1 (.inl (k, n, .inr (.inr (.inr (.inr (va_up f i.toNatClampNeg (some v))))))) := by
    have h9 := hG.2.2.2.2.2.2.2.2.2 q hq
    rw [he] at h9
    intro j z hz
    by_cases hj : j = i.toNatClampNeg
    · simp only [va_up, if_pos hj] at hz
      cases hz
      exact hv
    · simp only [va_up, if_neg hj] at hz
      exact h9 j z hz
  have e1 : (fun j => (va_up f i.toNatClampNeg (some v) j).map ad) = va_up (fun j => (f j).map ad) i.toNatClampNeg (some (ad v)) := by
    funext j
    by_cases hj : j = i.toNatClampNeg
    · simp [va_up, hj]
    · simp [va_up, hj]
  have key := ai_ast_k (n := n) (l := l) (e := e) (below := below) hq hb kk hC hG hL hst
  simp only [ai_e, ai_a, e1] at key
  exact va_astq (r := (C, T, N)) hC.1 hC.2.1 hG.1 hG.2.2.2.1 hG.2.2.2.2.1 hG.2.2.2.2.2.1 q k v ci hw (hk cK) hwv hc hin d key
theorem rs_alen {k q : Nat} {a : vp_A} {v : Int32} {ty : FieldType} (d : decode M.2.1 pc = .ok (.arraylength, 1)) (hk : ∀ cK : Nat → Nat, (ai_tys cK)[k]? = some (cK k, ty)) (hq : q < h.1) (he : h.2.2 q = .inl (k, a)) (hv : Int32.ofNat a.1 = v) (kk : ai_R M (pc + 1) ls (.int v :: st) h r h') : ai_R M pc ls (.ref q :: st) h r h' := by
  refine ⟨kk.1, fun p l e s mid args below meth c dC dI cK aK aV ad0 c0 s0 A ad H locs lsm hC hG hL hst => ?_⟩
  have hw : (ai_w cK ad aK h)[q]? = some (ad q, .inl (cK k, ai_a ad a)) := by rw [ai_w_get hq, he]; rfl
  have hv2 : Int32.ofNat (ai_a ad a).1 = v := by
    obtain ⟨n, f | f | f | f | f⟩ := a <;> exact hv
  exact va_alen hC.1 hC.2.1 hG.1 hG.2.2.2.1 q k hw (hk cK) hv2 d (kk.2 p l e s mid args below meth c dC dI cK aK aV ad0 c0 s0 A ad H locs lsm hC hG hL (ai_bt (ai_b1 hst) trivial))
end HEAP
