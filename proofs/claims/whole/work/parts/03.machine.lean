/-! 03: A MACHINE WHOSE CELLS HAVE NUMBERS. A cell of the heap is told by its number (the order of its making), a reference is .ref number, a string constant is .retAddr place, .float 0 stands for nothing. ai_R M pc ls st h r h': the method M, at pc, with locals ls, stack st, heap h, returns r, and the heap is then h'. -/
def ai_T : List Cond := lw_tbl.filter goodWord
def ai_isN : Cond → Bool
  | .fieldLinkNest _ _ _ _ _ _ => true
  | .methodLinkNest _ _ _ _ => true
  | _ => false
def ai_TN : List Cond := lw_tbl.filter ai_isN
theorem ai_in {w : Cond} (i : Nat) (h : tables_1[i]? = some w) (hg : goodWord w = true) : w ∈ ai_T := List.mem_filter.mpr ⟨List.mem_append_right _ (List.mem_of_getElem? h), hg⟩
theorem ai_inN {w : Cond} (i : Nat) (h : tables_1[i]? = some w) (hg : ai_isN w = true) : w ∈ ai_TN := List.mem_filter.mpr ⟨List.mem_append_right _ (List.mem_of_getElem? h), hg⟩
theorem ai_inS {y : MethodName} {n : Nat} (i : Nat) (h : lw_privs[i]? = some (y, n)) : Cond.selects y.cls y y ∈ ai_T := List.mem_filter.mpr ⟨List.mem_append_left _ (List.mem_map.mpr ⟨(y, n), List.mem_of_getElem? h, rfl⟩), rfl⟩
theorem ai_Tgood : ∀ w ∈ ai_T, (w.onTables && w.keeps) = true ∨ ∃ ty, w = .arrayClass ty := fun _ h => good_of_word (List.mem_filter.mp h).2
def ai_N (U : State) : Prop := (∀ w ∈ ai_TN, va_Nw w U) ∧ va_AO "EachLater$Tally" U ∧ va_AO "EachLater$Law" U ∧ va_AO "EachLater$Book" U
theorem ai_N.warm {s U : State} (hW : s.WarmedH U.vm) (h : ai_N s) : ai_N U := by
  refine ⟨fun w hw => ?_, h.2.1.moved hW.alike, h.2.2.1.moved hW.alike, h.2.2.2.moved hW.alike⟩
  have h1 := h.1 w hw
  have h2 := (List.mem_filter.mp hw).2
  cases w with
  | fieldLinkNest a i b n d h => exact va_Nw.warmF hW h1
  | methodLinkNest a i x h => exact va_Nw.warmM hW h1
  | _ => exact absurd h2 Bool.false_ne_true
theorem ai_N.same {u U : State} (hv : u.vm = U.vm) (h : ai_N u) : ai_N U := by
  refine ⟨fun w hw => ?_, h.2.1.moved (by rw [hv]; exact Vm.Alike.refl _), h.2.2.1.moved (by rw [hv]; exact Vm.Alike.refl _), h.2.2.2.moved (by rw [hv]; exact Vm.Alike.refl _)⟩
  have h1 := h.1 w hw
  have h2 := (List.mem_filter.mp hw).2
  cases w with
  | fieldLinkNest a i b n d h => exact va_Nw.same rfl hv h1
  | methodLinkNest a i x h => exact va_Nw.same rfl hv h1
  | _ => exact absurd h2 Bool.false_ne_true
/-! the classes, the kinds of arrays, the string constants -/
def ai_cl : List vw_C := [(RX0, TX0, 3), (RX1, TX1, 6), (RX2, TX2, 13), (RX3, TX3, 1), (RX4, TX4, 2), (RX5, TX5, 17), (RX6, TX6, 3), (RX7, TX7, 2), (RX8, TX8, 4), (RX9, TX9, 4), (RX10, TX10, 9), (RX11, TX11, 15), (RX12, TX12, 73)]
def ai_ty : Nat → Nat → FieldType := fun ci => match ci with
  | 0 => tyX0
  | 1 => tyX1
  | 2 => tyX2
  | 3 => tyX3
  | 4 => tyX4
  | 5 => tyX5
  | 6 => tyX6
  | 7 => tyX7
  | 8 => tyX8
  | 9 => tyX9
  | 10 => tyX10
  | 11 => tyX11
  | _ => tyX12
def ai_tys (cK : Nat → Nat) : List (ClassId × FieldType) := [(cK 0, .int), (cK 1, .long), (cK 2, .boolean), (cK 3, .byte), (cK 4, .object "EachLater$Tally"), (cK 5, .object "EachLater$Law"), (cK 6, .object "EachLater$Book")]
def ai_sx : List (String × Nat × String × Nat) := [("EachLater$Reader", 116, "lean", 0), ("EachLater$Reader", 123, "if", 1), ("EachLater$Reader", 126, "or", 2), ("EachLater$Reader", 129, "and", 3), ("EachLater$Reader", 132, "not", 4), ("EachLater$Reader", 139, "bright", 5), ("EachLater$Reader", 141, "pace", 6), ("EachLater$Reader", 143, "side", 7), ("EachLater$Reader", 145, "star", 8), ("EachLater$Reader", 147, "thread", 9), ("EachLater$Reader", 149, "way", 10), ("EachLater$Reader", 151, "week", 11), ("EachLater$Reader", 153, "year", 12), ("EachLater$Reader", 155, "house", 13), ("EachLater$Reader", 157, "age", 14), ("EachLaterModel", 361, "lean", 0), ("EachLaterModel", 363, "if", 1), ("EachLaterModel", 359, "or", 2), ("EachLaterModel", 357, "and", 3), ("EachLaterModel", 343, "not", 4), ("EachLaterModel", 248, "bright", 5), ("EachLaterModel", 249, "pace", 6), ("EachLaterModel", 250, "side", 7), ("EachLaterModel", 251, "star", 8), ("EachLaterModel", 253, "thread", 9), ("EachLaterModel", 255, "way", 10), ("EachLaterModel", 257, "week", 11), ("EachLaterModel", 259, "year", 12), ("EachLaterModel", 261, "house", 13), ("EachLaterModel", 262, "age", 14)]
def ai_sl : List Nat := [4, 2, 2, 3, 3, 6, 4, 4, 4, 6, 3, 4, 4, 5, 3]
def ai_sb : List (List Int32) := [[108, 101, 97, 110], [105, 102], [111, 114], [97, 110, 100], [110, 111, 116], [98, 114, 105, 103, 104, 116], [112, 97, 99, 101], [115, 105, 100, 101], [115, 116, 97, 114], [116, 104, 114, 101, 97, 100], [119, 97, 121], [119, 101, 101, 107], [121, 101, 97, 114], [104, 111, 117, 115, 101], [97, 103, 101]]
def ai_Z (aK aV : Nat → Nat) (A : Nat → Prop) (U : State) : Prop := (∀ q ∈ ai_sx, vk_R q.1 q.2.1 q.2.2.1 (aK q.2.2.2) U) ∧ vk_S 15 ai_sl ai_sb aK aV A U U.heap ∧ va_Z "java/lang/String" "COMPACT_STRINGS" "Z" (.int 1) A U U.heap ∧ (va_Z "jdk/internal/util/Preconditions" "SIOOBE_FORMATTER" "Ljava/util/function/BiFunction;" .null A U U.heap ∨ va_Z "jdk/internal/util/Preconditions" "SIOOBE_FORMATTER" "Ljava/util/function/BiFunction;" (.ref (aK 30)) A U U.heap) ∧ ∀ j, j < 15 → aV j = aK (15 + j)
theorem ai_Z.call {aK aV : Nat → Nat} {A B : Nat → Prop} {s U : State} {H : Heap} {locs : List Loc} (hz : ai_Z aK aV A s) (hS : va_S A s.heap H locs) (hU : U.heap = H) (hW : s.WarmedH U.vm) (hAB : ∀ q, B q → A q) : ai_Z aK aV B U := by
  obtain ⟨h1, h2, h3, h4, h5⟩ := hz
  refine ⟨fun q hq => (h1 q hq).warm hW, ?_, ?_, ?_, h5⟩
  · rw [hU]; exact ((h2.kept hS.2.1).narrow hAB).moved hW.alike
  · rw [hU]; exact ((h3.kept hS.2.1).narrow hAB).moved hW.alike
  · rw [hU]
    rcases h4 with h4 | h4
    · exact Or.inl (((h4.kept hS.2.1).narrow hAB).moved hW.alike)
    · exact Or.inr (((h4.kept hS.2.1).narrow hAB).moved hW.alike)
theorem ai_Z.same {aK aV : Nat → Nat} {A : Nat → Prop} {u U : State} (hv : U.vm = u.vm) (hh : U.heap = u.heap) (hz : ai_Z aK aV A u) : ai_Z aK aV A U := by
  obtain ⟨h1, h2, h3, h4, h5⟩ := hz
  have hal : u.vm.Alike U.vm := by rw [hv]; exact Vm.Alike.refl _
  refine ⟨fun q hq => (h1 q hq).same hv, ?_, ?_, ?_, h5⟩
  · rw [hh]; exact h2.moved hal
  · rw [hh]; exact h3.moved hal
  · rw [hh]
    rcases h4 with h4 | h4
    · exact Or.inl (h4.moved hal)
    · exact Or.inr (h4.moved hal)
/-! values, cells -/
def ai_v (ad aK : Nat → Nat) : Value → Value
  | .ref k => .ref (ad k)
  | .retAddr j => .ref (aK j)
  | v => v
def ai_b (n : Nat) : Value → Prop
  | .ref k => k < n
  | _ => True
def ai_a (ad : Nat → Nat) : vp_A → vp_A
  | (n, .inr (.inr (.inr (.inr f)))) => (n, .inr (.inr (.inr (.inr (fun i => (f i).map ad)))))
  | a => a
def ai_e (cK ad aK : Nat → Nat) : va_E → va_E
  | .inl q => .inl (cK q.1, ai_a ad q.2)
  | .inr q => .inr (q.1, q.2.map (ai_v ad aK))
def ai_eb (n : Nat) : va_E → Prop
  | .inl (_, _, .inr (.inr (.inr (.inr f)))) => ∀ i k, f i = some k → k < n
  | .inl _ => True
  | .inr q => ∀ v ∈ q.2, ai_b n v
abbrev ai_H : Type := Nat × Nat × (Nat → va_E)
def ai_w (cK ad aK : Nat → Nat) (h : ai_H) : va_W := (List.range h.1).map (fun k => (ad k, ai_e cK ad aK (h.2.2 k)))
def ai_set (h : ai_H) (q : Nat) (e : va_E) : ai_H := (h.1, h.2.1, va_up h.2.2 q e)
def ai_add (h : ai_H) (N : Nat) (e : va_E) : ai_H := (h.1 + 1, h.2.1 + N, va_up h.2.2 h.1 e)
theorem ai_w_get {cK ad aK : Nat → Nat} {h : ai_H} {q : Nat} (hq : q < h.1) : (ai_w cK ad aK h)[q]? = some (ad q, ai_e cK ad aK (h.2.2 q)) := by
  simp [ai_w, hq]
theorem ai_w_lt {cK ad aK : Nat → Nat} {h : ai_H} {q : Nat} {x : Nat × va_E} (hx : (ai_w cK ad aK h)[q]? = some x) : q < h.1 := by
  have := (List.getElem?_eq_some_iff.mp hx).1
  simpa [ai_w] using this
theorem ai_w_set {cK ad aK : Nat → Nat} {h : ai_H} {q : Nat} (e : va_E) (hq : q < h.1) : (ai_w cK ad aK h).set q (ad q, ai_e cK ad aK e) = ai_w cK ad aK (ai_set h q e) := by
  apply List.ext_getElem?
  intro i
  rw [List.getElem?_set]
  by_cases hi : q = i
  · subst hi
    rw [if_pos rfl, ai_w_get (h := ai_set h q e) hq]
    rw [if_pos (by simpa [ai_w] using hq)]
    simp [ai_set, va_up]
  · rw [if_neg hi]
    by_cases hl : i < h.1
    · rw [ai_w_get hl, ai_w_get (h := ai_set h q e) hl]
      simp [ai_set, va_up, Ne.symm hi]
    · rw [List.getElem?_eq_none (by simp [ai_w]; omega), List.getElem?_eq_none (by simp [ai_w, ai_set]; omega)]
theorem ai_v_eq {ad ad1 aK : Nat → Nat} {n : Nat} {v : Value} (h : ∀ k, k < n → ad1 k = ad k) (hb : ai_b n v) : ai_v ad1 aK v = ai_v ad aK v := by
  cases v <;> first | rfl | (simp only [ai_v]; rw [h _ hb])
theorem ai_map_eq {ad ad1 aK : Nat → Nat} {n : Nat} (h : ∀ k, k < n → ad1 k = ad k) : ∀ {l : List Value}, (∀ v ∈ l, ai_b n v) → l.map (ai_v ad1 aK) = l.map (ai_v ad aK) := by
  intro l hl
  exact List.map_congr_left fun v hv => ai_v_eq h (hl v hv)
theorem ai_e_eq {cK ad ad1 aK : Nat → Nat} {n : Nat} {e : va_E} (h : ∀ k, k < n → ad1 k = ad k) (hb : ai_eb n e) : ai_e cK ad1 aK e = ai_e cK ad aK e := by
  obtain ⟨c, m, f | f | f | f | f⟩ | ⟨c, fs⟩ := e
  · rfl
  · rfl
  · rfl
  · rfl
  · have e1 : (fun i => (f i).map ad1) = fun i => (f i).map ad := by
      funext i
      cases hf : f i with
      | none => rfl
      | some k => simp only [Option.map_some]; rw [h k (hb i k hf)]
    simp only [ai_e, ai_a]
    rw [e1]
  · simp only [ai_e]
    rw [ai_map_eq h hb]
theorem ai_b.le {n m : Nat} {v : Value} (h : n ≤ m) (hb : ai_b n v) : ai_b m v := by
  cases v <;> first | trivial | exact Nat.lt_of_lt_of_le hb h
theorem ai_eb.le {n m : Nat} {e : va_E} (h : n ≤ m) (hb : ai_eb n e) : ai_eb m e := by
  obtain ⟨c, k, f | f | f | f | f⟩ | ⟨c, fs⟩ := e
  · trivial
  · trivial
  · trivial
  · trivial
  · exact fun i k hk => Nat.lt_of_lt_of_le (hb i k hk) h
  · exact fun v hv => (hb v hv).le h
theorem ai_w_push {cK ad aK : Nat → Nat} {h : ai_H} {a : Nat} (e : va_E) (N : Nat) (hw : ∀ k, k < h.1 → ai_eb h.1 (h.2.2 k)) (he : ai_eb h.1 e) : ai_w cK ad aK h ++ [(a, ai_e cK ad aK e)] = ai_w cK (va_up ad h.1 a) aK (ai_add h N e) := by
  have hag : ∀ k, k < h.1 → va_up ad h.1 a k = ad k := fun k hk => by simp [va_up, Nat.ne_of_lt hk]
  unfold ai_w
  show _ = (List.range (h.1 + 1)).map _
  rw [List.range_succ, List.map_append]
  congr 1
  · apply List.map_congr_left
    intro k hk
    have hk' : k < h.1 := List.mem_range.mp hk
    have e1 : (ai_add h N e).2.2 k = h.2.2 k := by simp [ai_add, va_up, Nat.ne_of_lt hk']
    rw [hag k hk', e1, ai_e_eq hag (hw k hk')]
  · simp only [List.map_cons, List.map_nil]
    have e1 : (ai_add h N e).2.2 h.1 = e := by simp [ai_add, va_up]
    rw [e1, ai_e_eq hag he]
    simp [va_up]
theorem ai_v_cat (ad aK : Nat → Nat) (v : Value) : (ai_v ad aK v).category = v.category := by cases v <;> rfl
theorem ai_cat_sum (ad aK : Nat → Nat) (st : List Value) : ((st.map (ai_v ad aK)).map fun v => v.category) = st.map fun v => v.category := by
  rw [List.map_map]
  exact List.map_congr_left fun v _ => ai_v_cat ad aK v
