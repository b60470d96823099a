/-! 61: cells appended to a heap; constructors -/
def csl : va_E → Nat
  | .inl q => q.2.1
  | .inr q => q.2.length
def ap (h : ai_H) (L : List va_E) : ai_H := (h.1 + L.length, h.2.1 + (L.map csl).sum, fun j => if j < h.1 then h.2.2 j else (L[j - h.1]?).getD (h.2.2 j))
theorem ap_nil (h : ai_H) : ap h [] = h := by
  obtain ⟨a, b, f⟩ := h
  simp [ap]
theorem ap_old {h : ai_H} {L : List va_E} {j : Nat} (hj : j < h.1) : (ap h L).2.2 j = h.2.2 j := by simp [ap, hj]
theorem ap_get {h : ai_H} {L : List va_E} {i : Nat} {e : va_E} (hi : L[i]? = some e) : (ap h L).2.2 (h.1 + i) = e := by
  simp [ap, hi]
  intro z
  omega
theorem ap_add {h : ai_H} {L : List va_E} {N : Nat} (e : va_E) (hN : csl e = N) : ai_add (ap h L) N e = ap h (L ++ [e]) := by
  subst hN
  obtain ⟨a, b, f⟩ := h
  have e1 : va_up (ap (a, b, f) L).2.2 (a + L.length) e = (ap (a, b, f) (L ++ [e])).2.2 := by
    funext j
    by_cases h1 : j = a + L.length
    · subst h1
      simp [va_up, ap]
      intro z
      omega
    · simp only [va_up, if_neg h1, ap]
      by_cases h2 : j < a
      · simp only [if_pos h2]
      · simp only [if_neg h2]
        by_cases h3 : j - a < L.length
        · rw [List.getElem?_append_left h3]
        · rw [List.getElem?_eq_none (by omega), List.getElem?_eq_none (by simp; omega)]
  simp only [ai_add]
  show (_, _, va_up (ap (a, b, f) L).2.2 (a + L.length) e) = _
  rw [e1]
  simp [ap, Nat.add_assoc]
theorem ap_set {h : ai_H} {L : List va_E} {i : Nat} {e e0 : va_E} (hi : L[i]? = some e0) (hN : csl e = csl e0) : ai_set (ap h L) (h.1 + i) e = ap h (L.set i e) := by
  obtain ⟨a, b, f⟩ := h
  have hl := (List.getElem?_eq_some_iff.mp hi).1
  have e1 : va_up (ap (a, b, f) L).2.2 (a + i) e = (ap (a, b, f) (L.set i e)).2.2 := by
    funext j
    by_cases h1 : j = a + i
    · subst h1
      simp [va_up, ap, hl]
      intro z
      omega
    · simp only [va_up, if_neg h1, ap]
      by_cases h2 : j < a
      · simp only [if_pos h2]
      · simp only [if_neg h2]
        rw [List.getElem?_set_ne (by omega)]
  have e2 : ((L.set i e).map csl).sum = (L.map csl).sum := by
    rw [List.map_set, hN]
    congr 1
    apply List.ext_getElem?
    intro k
    rw [List.getElem?_set]
    by_cases hk : i = k
    · subst hk
      rw [if_pos rfl, if_pos (by simpa using hl), List.getElem?_map, hi]
      rfl
    · rw [if_neg hk]
  simp only [ai_set]
  show (_, _, va_up (ap (a, b, f) L).2.2 (a + i) e) = _
  rw [e1]
  simp only [ap, e2, List.length_set]
theorem ap_ap {h : ai_H} {L R : List va_E} : ap (ap h L) R = ap h (L ++ R) := by
  obtain ⟨a, b, f⟩ := h
  have e1 : (ap (ap (a, b, f) L) R).2.2 = (ap (a, b, f) (L ++ R)).2.2 := by
    funext j
    simp only [ap]
    by_cases h2 : j < a
    · simp only [if_pos h2, if_pos (Nat.lt_of_lt_of_le h2 (Nat.le_add_right a L.length))]
    · simp only [if_neg h2]
      by_cases h3 : j < a + L.length
      · simp only [if_pos h3]
        rw [List.getElem?_append_left (by omega)]
      · simp only [if_neg h3]
        rw [List.getElem?_append_right (by omega), List.getElem?_eq_none (l := L) (by omega), Nat.sub_sub]
        rfl
  show (_, _, (ap (ap (a, b, f) L) R).2.2) = _
  rw [e1]
  simp [ap, Nat.add_assoc]
section MAKE
variable {M : ai_M} {pc : Nat} {ls st : List Value} {h h' : ai_H} {r : Option Value} {L : List va_E}
theorem cw_new {idx ci N n : Nat} {C : String} {T : u_T} (fs : List Value) (d : decode M.2.1 pc = .ok (.new idx, 3)) (hk1 : ai_K1 ci C T N) (hw : Cond.classLink M.1.cls idx C ∈ ai_T) (hw2 : Cond.instantiable C N ∈ ai_T ∧ Cond.initialized C ∈ ai_T) (hfs : ∀ j, j < N → defaultValue (ai_ty ci j) = vp_V fs j) (hpl : fs.all ai_plain = true) (hN : fs.length = N) (hn : L.length = n) (kk : ai_R M (pc + 3) ls (.ref (h.1 + n) :: st) (ap h (L ++ [.inr (ci, fs)])) r h') : ai_R M pc ls st (ap h L) r h' := by
  subst hn
  refine rs_new d hk1 hw hw2.1 hw2.2 hfs hpl ?_
  rw [ap_add _ (by exact hN)]
  exact kk
theorem cw_newI {N m : Nat} {n : Int32} (d : decode M.2.1 pc = .ok (.newarray .int, 2)) (hn : ¬ n < 0) (hN : n.toNatClampNeg = N) (hb : N * 4 ≤ 536870912) (hm : L.length = m) (kk : ai_R M (pc + 2) ls (.ref (h.1 + m) :: st) (ap h (L ++ [.inl (0, N, .inl (fun _ => 0))])) r h') : ai_R M pc ls (.int n :: st) (ap h L) r h' := by
  subst hm
  refine rs_newI d ac_int hn hN hb ?_
  rw [ap_add (N := N) (.inl (0, N, .inl (fun _ => 0))) rfl]
  exact kk
theorem cw_newJ {N m : Nat} {n : Int32} (d : decode M.2.1 pc = .ok (.newarray .long, 2)) (hn : ¬ n < 0) (hN : n.toNatClampNeg = N) (hb : N * 8 ≤ 536870912) (hm : L.length = m) (kk : ai_R M (pc + 2) ls (.ref (h.1 + m) :: st) (ap h (L ++ [.inl (1, N, .inr (.inl (fun _ => 0)))])) r h') : ai_R M pc ls (.int n :: st) (ap h L) r h' := by
  subst hm
  refine rs_newJ d ac_long hn hN hb ?_
  rw [ap_add (N := N) (.inl (1, N, .inr (.inl (fun _ => 0)))) rfl]
  exact kk
theorem cw_newZ {N m : Nat} {n : Int32} (d : decode M.2.1 pc = .ok (.newarray .boolean, 2)) (hn : ¬ n < 0) (hN : n.toNatClampNeg = N) (hb : N * componentBytes .boolean ≤ 536870912) (hm : L.length = m) (kk : ai_R M (pc + 2) ls (.ref (h.1 + m) :: st) (ap h (L ++ [.inl (2, N, .inl (fun _ => 0))])) r h') : ai_R M pc ls (.int n :: st) (ap h L) r h' := by
  subst hm
  refine rs_newZ d ac_boolean hn hN hb ?_
  rw [ap_add (N := N) (.inl (2, N, .inl (fun _ => 0))) rfl]
  exact kk
theorem cw_newB {N m : Nat} {n : Int32} (d : decode M.2.1 pc = .ok (.newarray .byte, 2)) (hn : ¬ n < 0) (hN : n.toNatClampNeg = N) (hb : N * componentBytes .byte ≤ 536870912) (hm : L.length = m) (kk : ai_R M (pc + 2) ls (.ref (h.1 + m) :: st) (ap h (L ++ [.inl (3, N, .inl (fun _ => 0))])) r h') : ai_R M pc ls (.int n :: st) (ap h L) r h' := by
  subst hm
  refine rs_newB d ac_byte hn hN hb ?_
  rw [ap_add (N := N) (.inl (3, N, .inl (fun _ => 0))) rfl]
  exact kk
theorem cw_newQ {idx k N m : Nat} {C : String} {n : Int32} (d : decode M.2.1 pc = .ok (.anewarray idx, 3)) (hw : Cond.classLink M.1.cls idx C ∈ ai_T) (hk : ∀ cK : Nat → Nat, (ai_tys cK)[k]? = some (cK k, .object C)) (hC4 : C = "EachLater$Tally" ∨ C = "EachLater$Law" ∨ C = "EachLater$Book") (hn : ¬ n < 0) (hN : n.toNatClampNeg = N) (hb : N * 4 ≤ 536870912) (hm : L.length = m) (kk : ai_R M (pc + 3) ls (.ref (h.1 + m) :: st) (ap h (L ++ [.inl (k, N, .inr (.inr (.inr (.inr (fun _ => none)))))])) r h') : ai_R M pc ls (.int n :: st) (ap h L) r h' := by
  subst hm
  refine rs_newQ d hw hk hC4 hn hN hb ?_
  rw [ap_add (N := N) (.inl (k, N, .inr (.inr (.inr (.inr (fun _ => none)))))) rfl]
  exact kk
theorem ap_lt {i : Nat} {e : va_E} (hi : L[i]? = some e) : h.1 + i < (ap h L).1 := by
  have := (List.getElem?_eq_some_iff.mp hi).1
  show h.1 + i < h.1 + L.length
  omega
theorem cw_putf {idx ci k i : Nat} {fs : List Value} {v : Value} (d : decode M.2.1 pc = .ok (.putfield idx, 3)) (F : ai_F M.1.cls idx ci k false) (hi : L[i]? = some (.inr (ci, fs))) (hfit : ai_fit (ai_ty ci k) v = true) (hlen : k < fs.length) (kk : ai_R M (pc + 3) ls st (ap h (L.set i (.inr (ci, fs.set k v)))) r h') : ai_R M pc ls (v :: .ref (h.1 + i) :: st) (ap h L) r h' := by
  refine rs_putf d F (ap_lt hi) (ap_get hi) hfit hlen ?_
  rw [ap_set hi (by simp [csl])]
  exact kk
theorem cw_putF {idx ci k i : Nat} {fs : List Value} {v : Value} (d : decode M.2.1 pc = .ok (.putfield idx, 3)) (F : ai_FF M.1.cls idx ci k) (hin : M.1.name = "<init>") (hi : L[i]? = some (.inr (ci, fs))) (hfit : ai_fit (ai_ty ci k) v = true) (hlen : k < fs.length) (kk : ai_R M (pc + 3) ls st (ap h (L.set i (.inr (ci, fs.set k v)))) r h') : ai_R M pc ls (v :: .ref (h.1 + i) :: st) (ap h L) r h' := by
  refine rs_putF d F hin (ap_lt hi) (ap_get hi) hfit hlen ?_
  rw [ap_set hi (by simp [csl])]
  exact kk
theorem cw_init {idx n b : Nat} {N : ai_M} {as : List Value} {e : va_E} {R : List va_E} (d : decode M.2.1 pc = .ok (.invokespecial idx, 3)) (hMK : ai_MK N n) (hvoid : N.2.2.2.1 = none) (hl : ai_ML M.1.cls idx N.1) (hin : Cond.instanceMethod N.1 ∈ ai_T) (hnm : N.1.name = "<init>") (hn : as.length = n) (hfit : ai_fits N M = true) (hW : (st.map fun v => v.category).sum ≤ 8) (hb : L.length = b) (hc : ai_Met N (.ref (h.1 + b) :: as) (ap (ap h L) [e]) none (ap (ap h L) R)) (kk : ai_R M (pc + 3) ls st (ap h (L ++ R)) r h') : ai_R M pc ls (as.reverse ++ .ref (h.1 + b) :: st) (ap h (L ++ [e])) r h' := by
  subst hb
  rw [ap_ap, ap_ap] at hc
  exact rs_callI d hMK hvoid hl hin hnm (by show h.1 + L.length < h.1 + (L ++ [e]).length; simp) hn hfit hW hc kk
end MAKE
/-- place q of a heap whose first free cell is q -/
theorem ap_q {h : ai_H} {L : List va_E} {q n : Nat} (hq : h.1 = q) (hn : L.length = n) : (ap h L).1 = q + n := by subst hq; subst hn; rfl
theorem dfX8 : ∀ j, j < 4 → defaultValue (ai_ty 8 j) = vp_V [.int 0, .int 0, .null, .int 0] j := fun j hj => by
  match j, hj with
  | 0, _ => rfl
  | 1, _ => rfl
  | 2, _ => rfl
  | 3, _ => rfl
  | n + 4, h => exact absurd h (by omega)
theorem dfX1 : ∀ j, j < 6 → defaultValue (ai_ty 1 j) = vp_V [.int 0, .null, .null, .null, .null, .null] j := fun j hj => by
  match j, hj with
  | 0, _ => rfl
  | 1, _ => rfl
  | 2, _ => rfl
  | 3, _ => rfl
  | 4, _ => rfl
  | 5, _ => rfl
  | n + 6, h => exact absurd h (by omega)
theorem dfX0 : ∀ j, j < 3 → defaultValue (ai_ty 0 j) = vp_V [.int 0, .null, .null] j := fun j hj => by
  match j, hj with
  | 0, _ => rfl
  | 1, _ => rfl
  | 2, _ => rfl
  | n + 3, h => exact absurd h (by omega)
theorem dfX2 : ∀ j, j < 13 → defaultValue (ai_ty 2 j) = vp_V [.int 0, .null, .null, .null, .null, .null, .null, .null, .null, .null, .null, .null, .null] j := fun j hj => by
  match j, hj with
  | 0, _ => rfl
  | 1, _ => rfl
  | 2, _ => rfl
  | 3, _ => rfl
  | 4, _ => rfl
  | 5, _ => rfl
  | 6, _ => rfl
  | 7, _ => rfl
  | 8, _ => rfl
  | 9, _ => rfl
  | 10, _ => rfl
  | 11, _ => rfl
  | 12, _ => rfl
  | n + 13, h => exact absurd h (by omega)
theorem dfX4 : ∀ j, j < 2 → defaultValue (ai_ty 4 j) = vp_V [.null, .null] j := fun j hj => by
  match j, hj with
  | 0, _ => rfl
  | 1, _ => rfl
  | n + 2, h => exact absurd h (by omega)
theorem dfX5 : ∀ j, j < 17 → defaultValue (ai_ty 5 j) = vp_V [.null, .int 0, .int 0, .int 0, .int 0, .int 0, .int 0, .int 0, .int 0, .int 0, .int 0, .int 0, .int 0, .null, .int 0, .null, .int 0] j := fun j hj => by
  match j, hj with
  | 0, _ => rfl
  | 1, _ => rfl
  | 2, _ => rfl
  | 3, _ => rfl
  | 4, _ => rfl
  | 5, _ => rfl
  | 6, _ => rfl
  | 7, _ => rfl
  | 8, _ => rfl
  | 9, _ => rfl
  | 10, _ => rfl
  | 11, _ => rfl
  | 12, _ => rfl
  | 13, _ => rfl
  | 14, _ => rfl
  | 15, _ => rfl
  | 16, _ => rfl
  | n + 17, h => exact absurd h (by omega)
theorem dfX6 : ∀ j, j < 3 → defaultValue (ai_ty 6 j) = vp_V [.null, .null, .null] j := fun j hj => by
  match j, hj with
  | 0, _ => rfl
  | 1, _ => rfl
  | 2, _ => rfl
  | n + 3, h => exact absurd h (by omega)
theorem dfX7 : ∀ j, j < 2 → defaultValue (ai_ty 7 j) = vp_V [.null, .int 0] j := fun j hj => by
  match j, hj with
  | 0, _ => rfl
  | 1, _ => rfl
  | n + 2, h => exact absurd h (by omega)
theorem dfX9 : ∀ j, j < 4 → defaultValue (ai_ty 9 j) = vp_V [.int 0, .long 0, .long 0, .long 0] j := fun j hj => by
  match j, hj with
  | 0, _ => rfl
  | 1, _ => rfl
  | 2, _ => rfl
  | 3, _ => rfl
  | n + 4, h => exact absurd h (by omega)
theorem dfX10 : ∀ j, j < 9 → defaultValue (ai_ty 10 j) = vp_V [.null, .int 0, .int 0, .int 0, .long 0, .null, .null, .null, .null] j := fun j hj => by
  match j, hj with
  | 0, _ => rfl
  | 1, _ => rfl
  | 2, _ => rfl
  | 3, _ => rfl
  | 4, _ => rfl
  | 5, _ => rfl
  | 6, _ => rfl
  | 7, _ => rfl
  | 8, _ => rfl
  | n + 9, h => exact absurd h (by omega)
theorem dfX11 : ∀ j, j < 15 → defaultValue (ai_ty 11 j) = vp_V [.null, .null, .null, .int 0, .null, .int 0, .null, .null, .null, .null, .null, .null, .null, .null, .null] j := fun j hj => by
  match j, hj with
  | 0, _ => rfl
  | 1, _ => rfl
  | 2, _ => rfl
  | 3, _ => rfl
  | 4, _ => rfl
  | 5, _ => rfl
  | 6, _ => rfl
  | 7, _ => rfl
  | 8, _ => rfl
  | 9, _ => rfl
  | 10, _ => rfl
  | 11, _ => rfl
  | 12, _ => rfl
  | 13, _ => rfl
  | 14, _ => rfl
  | n + 15, h => exact absurd h (by omega)
theorem dfX12 : ∀ j, j < 73 → defaultValue (ai_ty 12 j) = vp_V [.int 0, .int 0, .int 0, .int 0, .int 0, .int 0, .null, .null, .null, .null, .null, .null, .null, .null, .null, .null, .null, .null, .null, .null, .null, .null, .int 0, .int 0, .int 0, .int 0, .int 0, .int 0, .int 0, .int 0, .null, .null, .null, .null, .null, .null, .null, .null, .null, .null, .int 0, .null, .null, .null, .null, .null, .null, .null, .null, .null, .null, .null, .null, .null, .null, .null, .null, .null, .null, .null, .int 0, .null, .null, .null, .null, .null, .null, .long 0, .null, .null, .null, .int 0, .int 0] j := fun j hj => by
  match j, hj with
  | 0, _ => rfl
  | 1, _ => rfl
  | 2, _ => rfl
  | 3, _ => rfl
  | 4, _ => rfl
  | 5, _ => rfl
  | 6, _ => rfl
  | 7, _ => rfl
  | 8, _ => rfl
  | 9, _ => rfl
  | 10, _ => rfl
  | 11, _ => rfl
  | 12, _ => rfl
  | 13, _ => rfl
  | 14, _ => rfl
  | 15, _ => rfl
  | 16, _ => rfl
  | 17, _ => rfl
  | 18, _ => rfl
  | 19, _ => rfl
  | 20, _ => rfl
  | 21, _ => rfl
  | 22, _ => rfl
  | 23, _ => rfl
  | 24, _ => rfl
  | 25, _ => rfl
  | 26, _ => rfl
  | 27, _ => rfl
  | 28, _ => rfl
  | 29, _ => rfl
  | 30, _ => rfl
  | 31, _ => rfl
  | 32, _ => rfl
  | 33, _ => rfl
  | 34, _ => rfl
  | 35, _ => rfl
  | 36, _ => rfl
  | 37, _ => rfl
  | 38, _ => rfl
  | 39, _ => rfl
  | 40, _ => rfl
  | 41, _ => rfl
  | 42, _ => rfl
  | 43, _ => rfl
  | 44, _ => rfl
  | 45, _ => rfl
  | 46, _ => rfl
  | 47, _ => rfl
  | 48, _ => rfl
  | 49, _ => rfl
  | 50, _ => rfl
  | 51, _ => rfl
  | 52, _ => rfl
  | 53, _ => rfl
  | 54, _ => rfl
  | 55, _ => rfl
  | 56, _ => rfl
  | 57, _ => rfl
  | 58, _ => rfl
  | 59, _ => rfl
  | 60, _ => rfl
  | 61, _ => rfl
  | 62, _ => rfl
  | 63, _ => rfl
  | 64, _ => rfl
  | 65, _ => rfl
  | 66, _ => rfl
  | 67, _ => rfl
  | 68, _ => rfl
  | 69, _ => rfl
  | 70, _ => rfl
  | 71, _ => rfl
  | 72, _ => rfl
  | n + 73, h => exact absurd h (by omega)
theorem dfX3 : ∀ j, j < 1 → defaultValue (ai_ty 3 j) = vp_V [.null] j := fun j hj => by
  match j, hj with
  | 0, _ => rfl
  | n + 1, h => exact absurd h (by omega)
def tab0 (q : Nat) (l w : Int32) (n : Nat) : List va_E := [.inr (8, [.int l, .int w, .ref (q + 1), .int 0]), .inl (0, n, .inl (fun _ => 0))]
theorem dX8_init_0 : decode cX8_init 0 = .ok (.aload_n 0, 1) := by decide +kernel
theorem dX8_init_1 : decode cX8_init 1 = .ok (.invokespecial 3, 3) := by decide +kernel
theorem dX8_init_4 : decode cX8_init 4 = .ok (.aload_n 0, 1) := by decide +kernel
theorem dX8_init_5 : decode cX8_init 5 = .ok (.iconst 0, 1) := by decide +kernel
theorem dX8_init_6 : decode cX8_init 6 = .ok (.putfield 9, 3) := by decide +kernel
theorem dX8_init_9 : decode cX8_init 9 = .ok (.aload_n 0, 1) := by decide +kernel
theorem dX8_init_10 : decode cX8_init 10 = .ok (.iload_n 1, 1) := by decide +kernel
theorem dX8_init_11 : decode cX8_init 11 = .ok (.putfield 15, 3) := by decide +kernel
theorem dX8_init_14 : decode cX8_init 14 = .ok (.aload_n 0, 1) := by decide +kernel
theorem dX8_init_15 : decode cX8_init 15 = .ok (.iload_n 2, 1) := by decide +kernel
theorem dX8_init_16 : decode cX8_init 16 = .ok (.putfield 18, 3) := by decide +kernel
theorem dX8_init_19 : decode cX8_init 19 = .ok (.aload_n 0, 1) := by decide +kernel
theorem dX8_init_20 : decode cX8_init 20 = .ok (.iload_n 1, 1) := by decide +kernel
theorem dX8_init_21 : decode cX8_init 21 = .ok (.iload_n 2, 1) := by decide +kernel
theorem dX8_init_22 : decode cX8_init 22 = .ok (.imul, 1) := by decide +kernel
theorem dX8_init_23 : decode cX8_init 23 = .ok (.newarray .int, 2) := by decide +kernel
theorem dX8_init_25 : decode cX8_init 25 = .ok (.putfield 21, 3) := by decide +kernel
theorem dX8_init_28 : decode cX8_init 28 = .ok (.return_, 1) := by decide +kernel
set_option maxRecDepth 100000 in
set_option maxHeartbeats 4000000 in
theorem c_X8_init {l w : Int32} {n : Nat} (h1 : ¬ l * w < 0) (h2 : (l * w).toNatClampNeg = n) (h3 : n * 4 ≤ 536870912) {h : ai_H} {q : Nat} (hq : h.1 = q) : ai_Met MX8_init (.ref q :: [.int l, .int w]) (ap h [.inr (8, [.int 0, .int 0, .null, .int 0])]) none (ap h (tab0 q l w n)) := by
  subst hq
  refine ai_met (ls := _) (by decide) (by simp [ai_en, Value.category]) rfl ?_
  show ai_R _ _ _ _ (ap h _) _ _
  refine rs_aload_n (pc := 0) dX8_init_0 rfl ?_
  refine rs_obj (pc := 1) dX8_init_1 mlX8_3 ob_in ob_co (by decide) (Nat.le_of_ble_eq_true rfl) ?_
  refine rs_aload_n (pc := 4) dX8_init_4 rfl ?_
  refine rs_iconst (v := 0) (pc := 5) dX8_init_5 rfl ?_
  refine cw_putf (k := 3) (i := 0) (pc := 6) dX8_init_6 fX8_9 rfl rfl (Nat.le_of_ble_eq_true rfl) ?_
  refine rs_aload_n (pc := 9) dX8_init_9 rfl ?_
  refine rs_iload_n (pc := 10) dX8_init_10 rfl ?_
  refine cw_putF (k := 0) (i := 0) (pc := 11) dX8_init_11 ffX8_15 rfl rfl rfl (Nat.le_of_ble_eq_true rfl) ?_
  refine rs_aload_n (pc := 14) dX8_init_14 rfl ?_
  refine rs_iload_n (pc := 15) dX8_init_15 rfl ?_
  refine cw_putF (k := 1) (i := 0) (pc := 16) dX8_init_16 ffX8_18 rfl rfl rfl (Nat.le_of_ble_eq_true rfl) ?_
  refine rs_aload_n (pc := 19) dX8_init_19 rfl ?_
  refine rs_iload_n (pc := 20) dX8_init_20 rfl ?_
  refine rs_iload_n (pc := 21) dX8_init_21 rfl ?_
  refine rs_imul (pc := 22) dX8_init_22 ?_
  refine cw_newI (N := n) (m := 1) (pc := 23) dX8_init_23 h1 h2 h3 rfl ?_
  refine cw_putF (k := 2) (i := 0) (pc := 25) dX8_init_25 ffX8_21 rfl rfl rfl (Nat.le_of_ble_eq_true rfl) ?_
  exact wk_vret (pc := 28) dX8_init_28 rfl rfl rfl
def bk0 (q : Nat) : List va_E := .inr (1, [.int 0, .ref (q + 1), .ref (q + 3), .ref (q + 5), .ref (q + 7), .ref (q + 9)]) :: (tab0 (q + 1) 16 2 32 ++ (tab0 (q + 3) 24 3 72 ++ (tab0 (q + 5) 80 2 160 ++ (tab0 (q + 7) 400 9 3600 ++ tab0 (q + 9) 9 3 27))))
theorem dX1_init_0 : decode cX1_init 0 = .ok (.aload_n 0, 1) := by decide +kernel
theorem dX1_init_1 : decode cX1_init 1 = .ok (.invokespecial 3, 3) := by decide +kernel
theorem dX1_init_4 : decode cX1_init 4 = .ok (.aload_n 0, 1) := by decide +kernel
theorem dX1_init_5 : decode cX1_init 5 = .ok (.iconst 0, 1) := by decide +kernel
theorem dX1_init_6 : decode cX1_init 6 = .ok (.putfield 9, 3) := by decide +kernel
theorem dX1_init_9 : decode cX1_init 9 = .ok (.aload_n 0, 1) := by decide +kernel
theorem dX1_init_10 : decode cX1_init 10 = .ok (.new 15, 3) := by decide +kernel
theorem dX1_init_13 : decode cX1_init 13 = .ok (.dup, 1) := by decide +kernel
theorem dX1_init_14 : decode cX1_init 14 = .ok (.bipush 16, 2) := by decide +kernel
theorem dX1_init_16 : decode cX1_init 16 = .ok (.iconst 2, 1) := by decide +kernel
theorem dX1_init_17 : decode cX1_init 17 = .ok (.invokespecial 17, 3) := by decide +kernel
theorem dX1_init_20 : decode cX1_init 20 = .ok (.putfield 20, 3) := by decide +kernel
theorem dX1_init_23 : decode cX1_init 23 = .ok (.aload_n 0, 1) := by decide +kernel
theorem dX1_init_24 : decode cX1_init 24 = .ok (.new 15, 3) := by decide +kernel
theorem dX1_init_27 : decode cX1_init 27 = .ok (.dup, 1) := by decide +kernel
theorem dX1_init_28 : decode cX1_init 28 = .ok (.bipush 24, 2) := by decide +kernel
theorem dX1_init_30 : decode cX1_init 30 = .ok (.iconst 3, 1) := by decide +kernel
theorem dX1_init_31 : decode cX1_init 31 = .ok (.invokespecial 17, 3) := by decide +kernel
theorem dX1_init_34 : decode cX1_init 34 = .ok (.putfield 24, 3) := by decide +kernel
theorem dX1_init_37 : decode cX1_init 37 = .ok (.aload_n 0, 1) := by decide +kernel
theorem dX1_init_38 : decode cX1_init 38 = .ok (.new 15, 3) := by decide +kernel
theorem dX1_init_41 : decode cX1_init 41 = .ok (.dup, 1) := by decide +kernel
theorem dX1_init_42 : decode cX1_init 42 = .ok (.bipush 80, 2) := by decide +kernel
theorem dX1_init_44 : decode cX1_init 44 = .ok (.iconst 2, 1) := by decide +kernel
theorem dX1_init_45 : decode cX1_init 45 = .ok (.invokespecial 17, 3) := by decide +kernel
theorem dX1_init_48 : decode cX1_init 48 = .ok (.putfield 27, 3) := by decide +kernel
theorem dX1_init_51 : decode cX1_init 51 = .ok (.aload_n 0, 1) := by decide +kernel
theorem dX1_init_52 : decode cX1_init 52 = .ok (.new 15, 3) := by decide +kernel
theorem dX1_init_55 : decode cX1_init 55 = .ok (.dup, 1) := by decide +kernel
theorem dX1_init_56 : decode cX1_init 56 = .ok (.sipush 400, 3) := by decide +kernel
theorem dX1_init_59 : decode cX1_init 59 = .ok (.bipush 9, 2) := by decide +kernel
theorem dX1_init_61 : decode cX1_init 61 = .ok (.invokespecial 17, 3) := by decide +kernel
theorem dX1_init_64 : decode cX1_init 64 = .ok (.putfield 30, 3) := by decide +kernel
theorem dX1_init_67 : decode cX1_init 67 = .ok (.aload_n 0, 1) := by decide +kernel
theorem dX1_init_68 : decode cX1_init 68 = .ok (.new 15, 3) := by decide +kernel
theorem dX1_init_71 : decode cX1_init 71 = .ok (.dup, 1) := by decide +kernel
theorem dX1_init_72 : decode cX1_init 72 = .ok (.bipush 9, 2) := by decide +kernel
theorem dX1_init_74 : decode cX1_init 74 = .ok (.iconst 3, 1) := by decide +kernel
theorem dX1_init_75 : decode cX1_init 75 = .ok (.invokespecial 17, 3) := by decide +kernel
theorem dX1_init_78 : decode cX1_init 78 = .ok (.putfield 33, 3) := by decide +kernel
theorem dX1_init_81 : decode cX1_init 81 = .ok (.return_, 1) := by decide +kernel
set_option maxRecDepth 100000 in
set_option maxHeartbeats 4000000 in
theorem c_X1_init {h : ai_H} {q : Nat} (hq : h.1 = q) : ai_Met MX1_init (.ref q :: []) (ap h [.inr (1, [.int 0, .null, .null, .null, .null, .null])]) none (ap h (bk0 q)) := by
  subst hq
  refine ai_met (ls := _) (by decide) (by simp [ai_en, Value.category]) rfl ?_
  show ai_R _ _ _ _ (ap h _) _ _
  refine rs_aload_n (pc := 0) dX1_init_0 rfl ?_
  refine rs_obj (pc := 1) dX1_init_1 mlX1_3 ob_in ob_co (by decide) (Nat.le_of_ble_eq_true rfl) ?_
  refine rs_aload_n (pc := 4) dX1_init_4 rfl ?_
  refine rs_iconst (v := 0) (pc := 5) dX1_init_5 rfl ?_
  refine cw_putf (k := 0) (i := 0) (pc := 6) dX1_init_6 fX1_9 rfl rfl (Nat.le_of_ble_eq_true rfl) ?_
  refine rs_aload_n (pc := 9) dX1_init_9 rfl ?_
  refine cw_new (n := 1) [.int 0, .int 0, .null, .int 0] (pc := 10) dX1_init_10 kX8 clX1_15 nX8 dfX8 rfl rfl rfl ?_
  refine rs_dup (pc := 13) dX1_init_13 rfl ?_
  refine rs_bipush (v := 16) (pc := 14) dX1_init_14 rfl ?_
  refine rs_iconst (v := 2) (pc := 16) dX1_init_16 rfl ?_
  refine cw_init (as := [_, _]) (b := 1) (pc := 17) dX1_init_17 mk_X8_init rfl mlX1_17 in_X8_init rfl rfl rfl (Nat.le_of_ble_eq_true rfl) rfl (c_X8_init (by decide) rfl (by decide) (ap_q rfl rfl)) ?_
  refine cw_putF (k := 1) (i := 0) (pc := 20) dX1_init_20 ffX1_20 rfl rfl rfl (Nat.le_of_ble_eq_true rfl) ?_
  refine rs_aload_n (pc := 23) dX1_init_23 rfl ?_
  refine cw_new (n := 3) [.int 0, .int 0, .null, .int 0] (pc := 24) dX1_init_24 kX8 clX1_15 nX8 dfX8 rfl rfl rfl ?_
  refine rs_dup (pc := 27) dX1_init_27 rfl ?_
  refine rs_bipush (v := 24) (pc := 28) dX1_init_28 rfl ?_
  refine rs_iconst (v := 3) (pc := 30) dX1_init_30 rfl ?_
  refine cw_init (as := [_, _]) (b := 3) (pc := 31) dX1_init_31 mk_X8_init rfl mlX1_17 in_X8_init rfl rfl rfl (Nat.le_of_ble_eq_true rfl) rfl (c_X8_init (by decide) rfl (by decide) (ap_q rfl rfl)) ?_
  refine cw_putF (k := 2) (i := 0) (pc := 34) dX1_init_34 ffX1_24 rfl rfl rfl (Nat.le_of_ble_eq_true rfl) ?_
  refine rs_aload_n (pc := 37) dX1_init_37 rfl ?_
  refine cw_new (n := 5) [.int 0, .int 0, .null, .int 0] (pc := 38) dX1_init_38 kX8 clX1_15 nX8 dfX8 rfl rfl rfl ?_
  refine rs_dup (pc := 41) dX1_init_41 rfl ?_
  refine rs_bipush (v := 80) (pc := 42) dX1_init_42 rfl ?_
  refine rs_iconst (v := 2) (pc := 44) dX1_init_44 rfl ?_
  refine cw_init (as := [_, _]) (b := 5) (pc := 45) dX1_init_45 mk_X8_init rfl mlX1_17 in_X8_init rfl rfl rfl (Nat.le_of_ble_eq_true rfl) rfl (c_X8_init (by decide) rfl (by decide) (ap_q rfl rfl)) ?_
  refine cw_putF (k := 3) (i := 0) (pc := 48) dX1_init_48 ffX1_27 rfl rfl rfl (Nat.le_of_ble_eq_true rfl) ?_
  refine rs_aload_n (pc := 51) dX1_init_51 rfl ?_
  refine cw_new (n := 7) [.int 0, .int 0, .null, .int 0] (pc := 52) dX1_init_52 kX8 clX1_15 nX8 dfX8 rfl rfl rfl ?_
  refine rs_dup (pc := 55) dX1_init_55 rfl ?_
  refine rs_sipush (v := 400) (pc := 56) dX1_init_56 rfl ?_
  refine rs_bipush (v := 9) (pc := 59) dX1_init_59 rfl ?_
  refine cw_init (as := [_, _]) (b := 7) (pc := 61) dX1_init_61 mk_X8_init rfl mlX1_17 in_X8_init rfl rfl rfl (Nat.le_of_ble_eq_true rfl) rfl (c_X8_init (by decide) rfl (by decide) (ap_q rfl rfl)) ?_
  refine cw_putF (k := 4) (i := 0) (pc := 64) dX1_init_64 ffX1_30 rfl rfl rfl (Nat.le_of_ble_eq_true rfl) ?_
  refine rs_aload_n (pc := 67) dX1_init_67 rfl ?_
  refine cw_new (n := 9) [.int 0, .int 0, .null, .int 0] (pc := 68) dX1_init_68 kX8 clX1_15 nX8 dfX8 rfl rfl rfl ?_
  refine rs_dup (pc := 71) dX1_init_71 rfl ?_
  refine rs_bipush (v := 9) (pc := 72) dX1_init_72 rfl ?_
  refine rs_iconst (v := 3) (pc := 74) dX1_init_74 rfl ?_
  refine cw_init (as := [_, _]) (b := 9) (pc := 75) dX1_init_75 mk_X8_init rfl mlX1_17 in_X8_init rfl rfl rfl (Nat.le_of_ble_eq_true rfl) rfl (c_X8_init (by decide) rfl (by decide) (ap_q rfl rfl)) ?_
  refine cw_putF (k := 5) (i := 0) (pc := 78) dX1_init_78 ffX1_33 rfl rfl rfl (Nat.le_of_ble_eq_true rfl) ?_
  exact wk_vret (pc := 81) dX1_init_81 rfl rfl rfl
def bo0 (q : Nat) : List va_E := [.inr (0, [.int 0, .ref (q + 1), .ref (q + 2)]), .inl (0, 16, .inl (fun _ => 0)), .inl (0, 16, .inl (fun _ => 0))]
theorem dX0_init_0 : decode cX0_init 0 = .ok (.aload_n 0, 1) := by decide +kernel
theorem dX0_init_1 : decode cX0_init 1 = .ok (.invokespecial 3, 3) := by decide +kernel
theorem dX0_init_4 : decode cX0_init 4 = .ok (.aload_n 0, 1) := by decide +kernel
theorem dX0_init_5 : decode cX0_init 5 = .ok (.iconst 0, 1) := by decide +kernel
theorem dX0_init_6 : decode cX0_init 6 = .ok (.putfield 9, 3) := by decide +kernel
theorem dX0_init_9 : decode cX0_init 9 = .ok (.aload_n 0, 1) := by decide +kernel
theorem dX0_init_10 : decode cX0_init 10 = .ok (.bipush 16, 2) := by decide +kernel
theorem dX0_init_12 : decode cX0_init 12 = .ok (.newarray .int, 2) := by decide +kernel
theorem dX0_init_14 : decode cX0_init 14 = .ok (.putfield 15, 3) := by decide +kernel
theorem dX0_init_17 : decode cX0_init 17 = .ok (.aload_n 0, 1) := by decide +kernel
theorem dX0_init_18 : decode cX0_init 18 = .ok (.bipush 16, 2) := by decide +kernel
theorem dX0_init_20 : decode cX0_init 20 = .ok (.newarray .int, 2) := by decide +kernel
theorem dX0_init_22 : decode cX0_init 22 = .ok (.putfield 19, 3) := by decide +kernel
theorem dX0_init_25 : decode cX0_init 25 = .ok (.return_, 1) := by decide +kernel
set_option maxRecDepth 100000 in
set_option maxHeartbeats 4000000 in
theorem c_X0_init {h : ai_H} {q : Nat} (hq : h.1 = q) : ai_Met MX0_init (.ref q :: []) (ap h [.inr (0, [.int 0, .null, .null])]) none (ap h (bo0 q)) := by
  subst hq
  refine ai_met (ls := _) (by decide) (by simp [ai_en, Value.category]) rfl ?_
  show ai_R _ _ _ _ (ap h _) _ _
  refine rs_aload_n (pc := 0) dX0_init_0 rfl ?_
  refine rs_obj (pc := 1) dX0_init_1 mlX0_3 ob_in ob_co (by decide) (Nat.le_of_ble_eq_true rfl) ?_
  refine rs_aload_n (pc := 4) dX0_init_4 rfl ?_
  refine rs_iconst (v := 0) (pc := 5) dX0_init_5 rfl ?_
  refine cw_putf (k := 0) (i := 0) (pc := 6) dX0_init_6 fX0_9 rfl rfl (Nat.le_of_ble_eq_true rfl) ?_
  refine rs_aload_n (pc := 9) dX0_init_9 rfl ?_
  refine rs_bipush (v := 16) (pc := 10) dX0_init_10 rfl ?_
  refine cw_newI (N := 16) (m := 1) (pc := 12) dX0_init_12 (by decide) (by decide) (by decide) rfl ?_
  refine cw_putF (k := 1) (i := 0) (pc := 14) dX0_init_14 ffX0_15 rfl rfl rfl (Nat.le_of_ble_eq_true rfl) ?_
  refine rs_aload_n (pc := 17) dX0_init_17 rfl ?_
  refine rs_bipush (v := 16) (pc := 18) dX0_init_18 rfl ?_
  refine cw_newI (N := 16) (m := 2) (pc := 20) dX0_init_20 (by decide) (by decide) (by decide) rfl ?_
  refine cw_putF (k := 2) (i := 0) (pc := 22) dX0_init_22 ffX0_19 rfl rfl rfl (Nat.le_of_ble_eq_true rfl) ?_
  exact wk_vret (pc := 25) dX0_init_25 rfl rfl rfl
def cl0 (q : Nat) : List va_E := [.inr (2, [.int 0, .ref (q + 1), .ref (q + 2), .ref (q + 3), .ref (q + 4), .ref (q + 5), .ref (q + 6), .ref (q + 7), .ref (q + 8), .ref (q + 9), .ref (q + 10), .ref (q + 11), .ref (q + 12)]), .inl (0, 80, .inl (fun _ => 0)), .inl (0, 400, .inl (fun _ => 0)), .inl (0, 400, .inl (fun _ => 0)), .inl (0, 400, .inl (fun _ => 0)), .inl (0, 400, .inl (fun _ => 0)), .inl (0, 400, .inl (fun _ => 0)), .inl (0, 400, .inl (fun _ => 0)), .inl (0, 400, .inl (fun _ => 0)), .inl (0, 400, .inl (fun _ => 0)), .inl (0, 400, .inl (fun _ => 0)), .inl (1, 400, .inr (.inl (fun _ => 0))), .inl (0, 400, .inl (fun _ => 0))]
theorem dX2_init_0 : decode cX2_init 0 = .ok (.aload_n 0, 1) := by decide +kernel
theorem dX2_init_1 : decode cX2_init 1 = .ok (.invokespecial 3, 3) := by decide +kernel
theorem dX2_init_4 : decode cX2_init 4 = .ok (.aload_n 0, 1) := by decide +kernel
theorem dX2_init_5 : decode cX2_init 5 = .ok (.iconst 0, 1) := by decide +kernel
theorem dX2_init_6 : decode cX2_init 6 = .ok (.putfield 9, 3) := by decide +kernel
theorem dX2_init_9 : decode cX2_init 9 = .ok (.aload_n 0, 1) := by decide +kernel
theorem dX2_init_10 : decode cX2_init 10 = .ok (.bipush 80, 2) := by decide +kernel
theorem dX2_init_12 : decode cX2_init 12 = .ok (.newarray .int, 2) := by decide +kernel
theorem dX2_init_14 : decode cX2_init 14 = .ok (.putfield 15, 3) := by decide +kernel
theorem dX2_init_17 : decode cX2_init 17 = .ok (.aload_n 0, 1) := by decide +kernel
theorem dX2_init_18 : decode cX2_init 18 = .ok (.sipush 400, 3) := by decide +kernel
theorem dX2_init_21 : decode cX2_init 21 = .ok (.newarray .int, 2) := by decide +kernel
theorem dX2_init_23 : decode cX2_init 23 = .ok (.putfield 19, 3) := by decide +kernel
theorem dX2_init_26 : decode cX2_init 26 = .ok (.aload_n 0, 1) := by decide +kernel
theorem dX2_init_27 : decode cX2_init 27 = .ok (.sipush 400, 3) := by decide +kernel
theorem dX2_init_30 : decode cX2_init 30 = .ok (.newarray .int, 2) := by decide +kernel
theorem dX2_init_32 : decode cX2_init 32 = .ok (.putfield 22, 3) := by decide +kernel
theorem dX2_init_35 : decode cX2_init 35 = .ok (.aload_n 0, 1) := by decide +kernel
theorem dX2_init_36 : decode cX2_init 36 = .ok (.sipush 400, 3) := by decide +kernel
theorem dX2_init_39 : decode cX2_init 39 = .ok (.newarray .int, 2) := by decide +kernel
theorem dX2_init_41 : decode cX2_init 41 = .ok (.putfield 25, 3) := by decide +kernel
theorem dX2_init_44 : decode cX2_init 44 = .ok (.aload_n 0, 1) := by decide +kernel
theorem dX2_init_45 : decode cX2_init 45 = .ok (.sipush 400, 3) := by decide +kernel
theorem dX2_init_48 : decode cX2_init 48 = .ok (.newarray .int, 2) := by decide +kernel
theorem dX2_init_50 : decode cX2_init 50 = .ok (.putfield 28, 3) := by decide +kernel
theorem dX2_init_53 : decode cX2_init 53 = .ok (.aload_n 0, 1) := by decide +kernel
theorem dX2_init_54 : decode cX2_init 54 = .ok (.sipush 400, 3) := by decide +kernel
theorem dX2_init_57 : decode cX2_init 57 = .ok (.newarray .int, 2) := by decide +kernel
theorem dX2_init_59 : decode cX2_init 59 = .ok (.putfield 31, 3) := by decide +kernel
theorem dX2_init_62 : decode cX2_init 62 = .ok (.aload_n 0, 1) := by decide +kernel
theorem dX2_init_63 : decode cX2_init 63 = .ok (.sipush 400, 3) := by decide +kernel
theorem dX2_init_66 : decode cX2_init 66 = .ok (.newarray .int, 2) := by decide +kernel
theorem dX2_init_68 : decode cX2_init 68 = .ok (.putfield 34, 3) := by decide +kernel
theorem dX2_init_71 : decode cX2_init 71 = .ok (.aload_n 0, 1) := by decide +kernel
theorem dX2_init_72 : decode cX2_init 72 = .ok (.sipush 400, 3) := by decide +kernel
theorem dX2_init_75 : decode cX2_init 75 = .ok (.newarray .int, 2) := by decide +kernel
theorem dX2_init_77 : decode cX2_init 77 = .ok (.putfield 37, 3) := by decide +kernel
theorem dX2_init_80 : decode cX2_init 80 = .ok (.aload_n 0, 1) := by decide +kernel
theorem dX2_init_81 : decode cX2_init 81 = .ok (.sipush 400, 3) := by decide +kernel
theorem dX2_init_84 : decode cX2_init 84 = .ok (.newarray .int, 2) := by decide +kernel
theorem dX2_init_86 : decode cX2_init 86 = .ok (.putfield 40, 3) := by decide +kernel
theorem dX2_init_89 : decode cX2_init 89 = .ok (.aload_n 0, 1) := by decide +kernel
theorem dX2_init_90 : decode cX2_init 90 = .ok (.sipush 400, 3) := by decide +kernel
theorem dX2_init_93 : decode cX2_init 93 = .ok (.newarray .int, 2) := by decide +kernel
theorem dX2_init_95 : decode cX2_init 95 = .ok (.putfield 43, 3) := by decide +kernel
theorem dX2_init_98 : decode cX2_init 98 = .ok (.aload_n 0, 1) := by decide +kernel
theorem dX2_init_99 : decode cX2_init 99 = .ok (.sipush 400, 3) := by decide +kernel
theorem dX2_init_102 : decode cX2_init 102 = .ok (.newarray .long, 2) := by decide +kernel
theorem dX2_init_104 : decode cX2_init 104 = .ok (.putfield 46, 3) := by decide +kernel
theorem dX2_init_107 : decode cX2_init 107 = .ok (.aload_n 0, 1) := by decide +kernel
theorem dX2_init_108 : decode cX2_init 108 = .ok (.sipush 400, 3) := by decide +kernel
theorem dX2_init_111 : decode cX2_init 111 = .ok (.newarray .int, 2) := by decide +kernel
theorem dX2_init_113 : decode cX2_init 113 = .ok (.putfield 50, 3) := by decide +kernel
theorem dX2_init_116 : decode cX2_init 116 = .ok (.return_, 1) := by decide +kernel
set_option maxRecDepth 100000 in
set_option maxHeartbeats 4000000 in
theorem c_X2_init {h : ai_H} {q : Nat} (hq : h.1 = q) : ai_Met MX2_init (.ref q :: []) (ap h [.inr (2, [.int 0, .null, .null, .null, .null, .null, .null, .null, .null, .null, .null, .null, .null])]) none (ap h (cl0 q)) := by
  subst hq
  refine ai_met (ls := _) (by decide) (by simp [ai_en, Value.category]) rfl ?_
  show ai_R _ _ _ _ (ap h _) _ _
  refine rs_aload_n (pc := 0) dX2_init_0 rfl ?_
  refine rs_obj (pc := 1) dX2_init_1 mlX2_3 ob_in ob_co (by decide) (Nat.le_of_ble_eq_true rfl) ?_
  refine rs_aload_n (pc := 4) dX2_init_4 rfl ?_
  refine rs_iconst (v := 0) (pc := 5) dX2_init_5 rfl ?_
  refine cw_putf (k := 0) (i := 0) (pc := 6) dX2_init_6 fX2_9 rfl rfl (Nat.le_of_ble_eq_true rfl) ?_
  show ai_R _ _ _ _ (ap h (.inr (2, [.int 0, .null, .null, .null, .null, .null, .null, .null, .null, .null, .null, .null, .null]) :: ([]))) _ _
  refine rs_aload_n (pc := 9) dX2_init_9 rfl ?_
  refine rs_bipush (v := 80) (pc := 10) dX2_init_10 rfl ?_
  refine cw_newI (N := 80) (m := 1) (pc := 12) dX2_init_12 (by decide) (by decide) (by decide) rfl ?_
  refine cw_putF (k := 1) (i := 0) (pc := 14) dX2_init_14 ffX2_15 rfl rfl rfl (Nat.le_of_ble_eq_true rfl) ?_
  show ai_R _ _ _ _ (ap h (.inr (2, [.int 0, .ref (h.1 + 1), .null, .null, .null, .null, .null, .null, .null, .null, .null, .null, .null]) :: ([.inl (0, 80, .inl (fun _ => 0))]))) _ _
  refine rs_aload_n (pc := 17) dX2_init_17 rfl ?_
  refine rs_sipush (v := 400) (pc := 18) dX2_init_18 rfl ?_
  refine cw_newI (N := 400) (m := 2) (pc := 21) dX2_init_21 (by decide) (by decide) (by decide) rfl ?_
  refine cw_putF (k := 2) (i := 0) (pc := 23) dX2_init_23 ffX2_19 rfl rfl rfl (Nat.le_of_ble_eq_true rfl) ?_
  show ai_R _ _ _ _ (ap h (.inr (2, [.int 0, .ref (h.1 + 1), .ref (h.1 + 2), .null, .null, .null, .null, .null, .null, .null, .null, .null, .null]) :: ([.inl (0, 80, .inl (fun _ => 0)), .inl (0, 400, .inl (fun _ => 0))]))) _ _
  refine rs_aload_n (pc := 26) dX2_init_26 rfl ?_
  refine rs_sipush (v := 400) (pc := 27) dX2_init_27 rfl ?_
  refine cw_newI (N := 400) (m := 3) (pc := 30) dX2_init_30 (by decide) (by decide) (by decide) rfl ?_
  refine cw_putF (k := 3) (i := 0) (pc := 32) dX2_init_32 ffX2_22 rfl rfl rfl (Nat.le_of_ble_eq_true rfl) ?_
  show ai_R _ _ _ _ (ap h (.inr (2, [.int 0, .ref (h.1 + 1), .ref (h.1 + 2), .ref (h.1 + 3), .null, .null, .null, .null, .null, .null, .null, .null, .null]) :: ([.inl (0, 80, .inl (fun _ => 0)), .inl (0, 400, .inl (fun _ => 0)), .inl (0, 400, .inl (fun _ => 0))]))) _ _
  refine rs_aload_n (pc := 35) dX2_init_35 rfl ?_
  refine rs_sipush (v := 400) (pc := 36) dX2_init_36 rfl ?_
  refine cw_newI (N := 400) (m := 4) (pc := 39) dX2_init_39 (by decide) (by decide) (by decide) rfl ?_
  refine cw_putF (k := 4) (i := 0) (pc := 41) dX2_init_41 ffX2_25 rfl rfl rfl (Nat.le_of_ble_eq_true rfl) ?_
  show ai_R _ _ _ _ (ap h (.inr (2, [.int 0, .ref (h.1 + 1), .ref (h.1 + 2), .ref (h.1 + 3), .ref (h.1 + 4), .null, .null, .null, .null, .null, .null, .null, .null]) :: ([.inl (0, 80, .inl (fun _ => 0)), .inl (0, 400, .inl (fun _ => 0)), .inl (0, 400, .inl (fun _ => 0)), .inl (0, 400, .inl (fun _ => 0))]))) _ _
  refine rs_aload_n (pc := 44) dX2_init_44 rfl ?_
  refine rs_sipush (v := 400) (pc := 45) dX2_init_45 rfl ?_
  refine cw_newI (N := 400) (m := 5) (pc := 48) dX2_init_48 (by decide) (by decide) (by decide) rfl ?_
  refine cw_putF (k := 5) (i := 0) (pc := 50) dX2_init_50 ffX2_28 rfl rfl rfl (Nat.le_of_ble_eq_true rfl) ?_
  show ai_R _ _ _ _ (ap h (.inr (2, [.int 0, .ref (h.1 + 1), .ref (h.1 + 2), .ref (h.1 + 3), .ref (h.1 + 4), .ref (h.1 + 5), .null, .null, .null, .null, .null, .null, .null]) :: ([.inl (0, 80, .inl (fun _ => 0)), .inl (0, 400, .inl (fun _ => 0)), .inl (0, 400, .inl (fun _ => 0)), .inl (0, 400, .inl (fun _ => 0)), .inl (0, 400, .inl (fun _ => 0))]))) _ _
  refine rs_aload_n (pc := 53) dX2_init_53 rfl ?_
  refine rs_sipush (v := 400) (pc := 54) dX2_init_54 rfl ?_
  refine cw_newI (N := 400) (m := 6) (pc := 57) dX2_init_57 (by decide) (by decide) (by decide) rfl ?_
  refine cw_putF (k := 6) (i := 0) (pc := 59) dX2_init_59 ffX2_31 rfl rfl rfl (Nat.le_of_ble_eq_true rfl) ?_
  show ai_R _ _ _ _ (ap h (.inr (2, [.int 0, .ref (h.1 + 1), .ref (h.1 + 2), .ref (h.1 + 3), .ref (h.1 + 4), .ref (h.1 + 5), .ref (h.1 + 6), .null, .null, .null, .null, .null, .null]) :: ([.inl (0, 80, .inl (fun _ => 0)), .inl (0, 400, .inl (fun _ => 0)), .inl (0, 400, .inl (fun _ => 0)), .inl (0, 400, .inl (fun _ => 0)), .inl (0, 400, .inl (fun _ => 0)), .inl (0, 400, .inl (fun _ => 0))]))) _ _
  refine rs_aload_n (pc := 62) dX2_init_62 rfl ?_
  refine rs_sipush (v := 400) (pc := 63) dX2_init_63 rfl ?_
  refine cw_newI (N := 400) (m := 7) (pc := 66) dX2_init_66 (by decide) (by decide) (by decide) rfl ?_
  refine cw_putF (k := 7) (i := 0) (pc := 68) dX2_init_68 ffX2_34 rfl rfl rfl (Nat.le_of_ble_eq_true rfl) ?_
  show ai_R _ _ _ _ (ap h (.inr (2, [.int 0, .ref (h.1 + 1), .ref (h.1 + 2), .ref (h.1 + 3), .ref (h.1 + 4), .ref (h.1 + 5), .ref (h.1 + 6), .ref (h.1 + 7), .null, .null, .null, .null, .null]) :: ([.inl (0, 80, .inl (fun _ => 0)), .inl (0, 400, .inl (fun _ => 0)), .inl (0, 400, .inl (fun _ => 0)), .inl (0, 400, .inl (fun _ => 0)), .inl (0, 400, .inl (fun _ => 0)), .inl (0, 400, .inl (fun _ => 0)), .inl (0, 400, .inl (fun _ => 0))]))) _ _
  refine rs_aload_n (pc := 71) dX2_init_71 rfl ?_
  refine rs_sipush (v := 400) (pc := 72) dX2_init_72 rfl ?_
  refine cw_newI (N := 400) (m := 8) (pc := 75) dX2_init_75 (by decide) (by decide) (by decide) rfl ?_
  refine cw_putF (k := 8) (i := 0) (pc := 77) dX2_init_77 ffX2_37 rfl rfl rfl (Nat.le_of_ble_eq_true rfl) ?_
  show ai_R _ _ _ _ (ap h (.inr (2, [.int 0, .ref (h.1 + 1), .ref (h.1 + 2), .ref (h.1 + 3), .ref (h.1 + 4), .ref (h.1 + 5), .ref (h.1 + 6), .ref (h.1 + 7), .ref (h.1 + 8), .null, .null, .null, .null]) :: ([.inl (0, 80, .inl (fun _ => 0)), .inl (0, 400, .inl (fun _ => 0)), .inl (0, 400, .inl (fun _ => 0)), .inl (0, 400, .inl (fun _ => 0)), .inl (0, 400, .inl (fun _ => 0)), .inl (0, 400, .inl (fun _ => 0)), .inl (0, 400, .inl (fun _ => 0)), .inl (0, 400, .inl (fun _ => 0))]))) _ _
  refine rs_aload_n (pc := 80) dX2_init_80 rfl ?_
  refine rs_sipush (v := 400) (pc := 81) dX2_init_81 rfl ?_
  refine cw_newI (N := 400) (m := 9) (pc := 84) dX2_init_84 (by decide) (by decide) (by decide) rfl ?_
  refine cw_putF (k := 9) (i := 0) (pc := 86) dX2_init_86 ffX2_40 rfl rfl rfl (Nat.le_of_ble_eq_true rfl) ?_
  show ai_R _ _ _ _ (ap h (.inr (2, [.int 0, .ref (h.1 + 1), .ref (h.1 + 2), .ref (h.1 + 3), .ref (h.1 + 4), .ref (h.1 + 5), .ref (h.1 + 6), .ref (h.1 + 7), .ref (h.1 + 8), .ref (h.1 + 9), .null, .null, .null]) :: ([.inl (0, 80, .inl (fun _ => 0)), .inl (0, 400, .inl (fun _ => 0)), .inl (0, 400, .inl (fun _ => 0)), .inl (0, 400, .inl (fun _ => 0)), .inl (0, 400, .inl (fun _ => 0)), .inl (0, 400, .inl (fun _ => 0)), .inl (0, 400, .inl (fun _ => 0)), .inl (0, 400, .inl (fun _ => 0)), .inl (0, 400, .inl (fun _ => 0))]))) _ _
  refine rs_aload_n (pc := 89) dX2_init_89 rfl ?_
  refine rs_sipush (v := 400) (pc := 90) dX2_init_90 rfl ?_
  refine cw_newI (N := 400) (m := 10) (pc := 93) dX2_init_93 (by decide) (by decide) (by decide) rfl ?_
  refine cw_putF (k := 10) (i := 0) (pc := 95) dX2_init_95 ffX2_43 rfl rfl rfl (Nat.le_of_ble_eq_true rfl) ?_
  show ai_R _ _ _ _ (ap h (.inr (2, [.int 0, .ref (h.1 + 1), .ref (h.1 + 2), .ref (h.1 + 3), .ref (h.1 + 4), .ref (h.1 + 5), .ref (h.1 + 6), .ref (h.1 + 7), .ref (h.1 + 8), .ref (h.1 + 9), .ref (h.1 + 10), .null, .null]) :: ([.inl (0, 80, .inl (fun _ => 0)), .inl (0, 400, .inl (fun _ => 0)), .inl (0, 400, .inl (fun _ => 0)), .inl (0, 400, .inl (fun _ => 0)), .inl (0, 400, .inl (fun _ => 0)), .inl (0, 400, .inl (fun _ => 0)), .inl (0, 400, .inl (fun _ => 0)), .inl (0, 400, .inl (fun _ => 0)), .inl (0, 400, .inl (fun _ => 0)), .inl (0, 400, .inl (fun _ => 0))]))) _ _
  refine rs_aload_n (pc := 98) dX2_init_98 rfl ?_
  refine rs_sipush (v := 400) (pc := 99) dX2_init_99 rfl ?_
  refine cw_newJ (N := 400) (m := 11) (pc := 102) dX2_init_102 (by decide) (by decide) (by decide) rfl ?_
  refine cw_putF (k := 11) (i := 0) (pc := 104) dX2_init_104 ffX2_46 rfl rfl rfl (Nat.le_of_ble_eq_true rfl) ?_
  show ai_R _ _ _ _ (ap h (.inr (2, [.int 0, .ref (h.1 + 1), .ref (h.1 + 2), .ref (h.1 + 3), .ref (h.1 + 4), .ref (h.1 + 5), .ref (h.1 + 6), .ref (h.1 + 7), .ref (h.1 + 8), .ref (h.1 + 9), .ref (h.1 + 10), .ref (h.1 + 11), .null]) :: ([.inl (0, 80, .inl (fun _ => 0)), .inl (0, 400, .inl (fun _ => 0)), .inl (0, 400, .inl (fun _ => 0)), .inl (0, 400, .inl (fun _ => 0)), .inl (0, 400, .inl (fun _ => 0)), .inl (0, 400, .inl (fun _ => 0)), .inl (0, 400, .inl (fun _ => 0)), .inl (0, 400, .inl (fun _ => 0)), .inl (0, 400, .inl (fun _ => 0)), .inl (0, 400, .inl (fun _ => 0)), .inl (1, 400, .inr (.inl (fun _ => 0)))]))) _ _
  refine rs_aload_n (pc := 107) dX2_init_107 rfl ?_
  refine rs_sipush (v := 400) (pc := 108) dX2_init_108 rfl ?_
  refine cw_newI (N := 400) (m := 12) (pc := 111) dX2_init_111 (by decide) (by decide) (by decide) rfl ?_
  refine cw_putF (k := 12) (i := 0) (pc := 113) dX2_init_113 ffX2_50 rfl rfl rfl (Nat.le_of_ble_eq_true rfl) ?_
  show ai_R _ _ _ _ (ap h (.inr (2, [.int 0, .ref (h.1 + 1), .ref (h.1 + 2), .ref (h.1 + 3), .ref (h.1 + 4), .ref (h.1 + 5), .ref (h.1 + 6), .ref (h.1 + 7), .ref (h.1 + 8), .ref (h.1 + 9), .ref (h.1 + 10), .ref (h.1 + 11), .ref (h.1 + 12)]) :: ([.inl (0, 80, .inl (fun _ => 0)), .inl (0, 400, .inl (fun _ => 0)), .inl (0, 400, .inl (fun _ => 0)), .inl (0, 400, .inl (fun _ => 0)), .inl (0, 400, .inl (fun _ => 0)), .inl (0, 400, .inl (fun _ => 0)), .inl (0, 400, .inl (fun _ => 0)), .inl (0, 400, .inl (fun _ => 0)), .inl (0, 400, .inl (fun _ => 0)), .inl (0, 400, .inl (fun _ => 0)), .inl (1, 400, .inr (.inl (fun _ => 0))), .inl (0, 400, .inl (fun _ => 0))]))) _ _
  exact wk_vret (pc := 116) dX2_init_116 rfl rfl rfl
def re0 (q : Nat) : List va_E := [.inr (5, [.ref (q + 1), .int 0, .int 0, .int 0, .int 300008, .int 0, .int 0, .int 0, .int 0, .int 0, .int 0, .int 0, .int 0, .ref (q + 2), .int 0, .ref (q + 3), .int 0]), .inl (0, 0, .inl (fun _ => 0)), .inl (0, 412, .inl (fun _ => 0)), .inl (0, 64, .inl (fun _ => 0))]
theorem dX5_init_0 : decode cX5_init 0 = .ok (.aload_n 0, 1) := by decide +kernel
theorem dX5_init_1 : decode cX5_init 1 = .ok (.invokespecial 3, 3) := by decide +kernel
theorem dX5_init_4 : decode cX5_init 4 = .ok (.aload_n 0, 1) := by decide +kernel
theorem dX5_init_5 : decode cX5_init 5 = .ok (.iconst 0, 1) := by decide +kernel
theorem dX5_init_6 : decode cX5_init 6 = .ok (.newarray .int, 2) := by decide +kernel
theorem dX5_init_8 : decode cX5_init 8 = .ok (.putfield 9, 3) := by decide +kernel
theorem dX5_init_11 : decode cX5_init 11 = .ok (.aload_n 0, 1) := by decide +kernel
theorem dX5_init_12 : decode cX5_init 12 = .ok (.iconst 0, 1) := by decide +kernel
theorem dX5_init_13 : decode cX5_init 13 = .ok (.putfield 15, 3) := by decide +kernel
theorem dX5_init_16 : decode cX5_init 16 = .ok (.aload_n 0, 1) := by decide +kernel
theorem dX5_init_17 : decode cX5_init 17 = .ok (.iconst 0, 1) := by decide +kernel
theorem dX5_init_18 : decode cX5_init 18 = .ok (.putfield 19, 3) := by decide +kernel
theorem dX5_init_21 : decode cX5_init 21 = .ok (.aload_n 0, 1) := by decide +kernel
theorem dX5_init_22 : decode cX5_init 22 = .ok (.iconst 0, 1) := by decide +kernel
theorem dX5_init_23 : decode cX5_init 23 = .ok (.putfield 22, 3) := by decide +kernel
theorem dX5_init_26 : decode cX5_init 26 = .ok (.aload_n 0, 1) := by decide +kernel
theorem dX5_init_27 : decode cX5_init 27 = .ok (.ldc 25, 2) := by decide +kernel
theorem dX5_init_29 : decode cX5_init 29 = .ok (.putfield 26, 3) := by decide +kernel
theorem dX5_init_32 : decode cX5_init 32 = .ok (.aload_n 0, 1) := by decide +kernel
theorem dX5_init_33 : decode cX5_init 33 = .ok (.iconst 0, 1) := by decide +kernel
theorem dX5_init_34 : decode cX5_init 34 = .ok (.putfield 29, 3) := by decide +kernel
theorem dX5_init_37 : decode cX5_init 37 = .ok (.aload_n 0, 1) := by decide +kernel
theorem dX5_init_38 : decode cX5_init 38 = .ok (.iconst 0, 1) := by decide +kernel
theorem dX5_init_39 : decode cX5_init 39 = .ok (.putfield 32, 3) := by decide +kernel
theorem dX5_init_42 : decode cX5_init 42 = .ok (.aload_n 0, 1) := by decide +kernel
theorem dX5_init_43 : decode cX5_init 43 = .ok (.iconst 0, 1) := by decide +kernel
theorem dX5_init_44 : decode cX5_init 44 = .ok (.putfield 35, 3) := by decide +kernel
theorem dX5_init_47 : decode cX5_init 47 = .ok (.aload_n 0, 1) := by decide +kernel
theorem dX5_init_48 : decode cX5_init 48 = .ok (.iconst 0, 1) := by decide +kernel
theorem dX5_init_49 : decode cX5_init 49 = .ok (.putfield 38, 3) := by decide +kernel
theorem dX5_init_52 : decode cX5_init 52 = .ok (.aload_n 0, 1) := by decide +kernel
theorem dX5_init_53 : decode cX5_init 53 = .ok (.iconst 0, 1) := by decide +kernel
theorem dX5_init_54 : decode cX5_init 54 = .ok (.putfield 41, 3) := by decide +kernel
theorem dX5_init_57 : decode cX5_init 57 = .ok (.aload_n 0, 1) := by decide +kernel
theorem dX5_init_58 : decode cX5_init 58 = .ok (.iconst 0, 1) := by decide +kernel
theorem dX5_init_59 : decode cX5_init 59 = .ok (.putfield 45, 3) := by decide +kernel
theorem dX5_init_62 : decode cX5_init 62 = .ok (.aload_n 0, 1) := by decide +kernel
theorem dX5_init_63 : decode cX5_init 63 = .ok (.iconst 0, 1) := by decide +kernel
theorem dX5_init_64 : decode cX5_init 64 = .ok (.putfield 48, 3) := by decide +kernel
theorem dX5_init_67 : decode cX5_init 67 = .ok (.aload_n 0, 1) := by decide +kernel
theorem dX5_init_68 : decode cX5_init 68 = .ok (.iconst 0, 1) := by decide +kernel
theorem dX5_init_69 : decode cX5_init 69 = .ok (.putfield 51, 3) := by decide +kernel
theorem dX5_init_72 : decode cX5_init 72 = .ok (.aload_n 0, 1) := by decide +kernel
theorem dX5_init_73 : decode cX5_init 73 = .ok (.sipush 412, 3) := by decide +kernel
theorem dX5_init_76 : decode cX5_init 76 = .ok (.newarray .int, 2) := by decide +kernel
theorem dX5_init_78 : decode cX5_init 78 = .ok (.putfield 54, 3) := by decide +kernel
theorem dX5_init_81 : decode cX5_init 81 = .ok (.aload_n 0, 1) := by decide +kernel
theorem dX5_init_82 : decode cX5_init 82 = .ok (.iconst 0, 1) := by decide +kernel
theorem dX5_init_83 : decode cX5_init 83 = .ok (.putfield 57, 3) := by decide +kernel
theorem dX5_init_86 : decode cX5_init 86 = .ok (.aload_n 0, 1) := by decide +kernel
theorem dX5_init_87 : decode cX5_init 87 = .ok (.bipush 64, 2) := by decide +kernel
theorem dX5_init_89 : decode cX5_init 89 = .ok (.newarray .int, 2) := by decide +kernel
theorem dX5_init_91 : decode cX5_init 91 = .ok (.putfield 60, 3) := by decide +kernel
theorem dX5_init_94 : decode cX5_init 94 = .ok (.aload_n 0, 1) := by decide +kernel
theorem dX5_init_95 : decode cX5_init 95 = .ok (.iconst 0, 1) := by decide +kernel
theorem dX5_init_96 : decode cX5_init 96 = .ok (.putfield 63, 3) := by decide +kernel
theorem dX5_init_99 : decode cX5_init 99 = .ok (.return_, 1) := by decide +kernel
set_option maxRecDepth 100000 in
set_option maxHeartbeats 4000000 in
theorem c_X5_init {h : ai_H} {q : Nat} (hq : h.1 = q) : ai_Met MX5_init (.ref q :: []) (ap h [.inr (5, [.null, .int 0, .int 0, .int 0, .int 0, .int 0, .int 0, .int 0, .int 0, .int 0, .int 0, .int 0, .int 0, .null, .int 0, .null, .int 0])]) none (ap h (re0 q)) := by
  subst hq
  refine ai_met (ls := _) (by decide) (by simp [ai_en, Value.category]) rfl ?_
  show ai_R _ _ _ _ (ap h _) _ _
  refine rs_aload_n (pc := 0) dX5_init_0 rfl ?_
  refine rs_obj (pc := 1) dX5_init_1 mlX5_3 ob_in ob_co (by decide) (Nat.le_of_ble_eq_true rfl) ?_
  refine rs_aload_n (pc := 4) dX5_init_4 rfl ?_
  refine rs_iconst (v := 0) (pc := 5) dX5_init_5 rfl ?_
  refine cw_newI (N := 0) (m := 1) (pc := 6) dX5_init_6 (by decide) (by decide) (by decide) rfl ?_
  refine cw_putf (k := 0) (i := 0) (pc := 8) dX5_init_8 fX5_9 rfl rfl (Nat.le_of_ble_eq_true rfl) ?_
  refine rs_aload_n (pc := 11) dX5_init_11 rfl ?_
  refine rs_iconst (v := 0) (pc := 12) dX5_init_12 rfl ?_
  refine cw_putf (k := 1) (i := 0) (pc := 13) dX5_init_13 fX5_15 rfl rfl (Nat.le_of_ble_eq_true rfl) ?_
  refine rs_aload_n (pc := 16) dX5_init_16 rfl ?_
  refine rs_iconst (v := 0) (pc := 17) dX5_init_17 rfl ?_
  refine cw_putf (k := 2) (i := 0) (pc := 18) dX5_init_18 fX5_19 rfl rfl (Nat.le_of_ble_eq_true rfl) ?_
  refine rs_aload_n (pc := 21) dX5_init_21 rfl ?_
  refine rs_iconst (v := 0) (pc := 22) dX5_init_22 rfl ?_
  refine cw_putf (k := 3) (i := 0) (pc := 23) dX5_init_23 fX5_22 rfl rfl (Nat.le_of_ble_eq_true rfl) ?_
  refine rs_aload_n (pc := 26) dX5_init_26 rfl ?_
  refine rs_ldc (pc := 27) dX5_init_27 cnX5_25 ?_
  refine cw_putf (k := 4) (i := 0) (pc := 29) dX5_init_29 fX5_26 rfl rfl (Nat.le_of_ble_eq_true rfl) ?_
  refine rs_aload_n (pc := 32) dX5_init_32 rfl ?_
  refine rs_iconst (v := 0) (pc := 33) dX5_init_33 rfl ?_
  refine cw_putf (k := 5) (i := 0) (pc := 34) dX5_init_34 fX5_29 rfl rfl (Nat.le_of_ble_eq_true rfl) ?_
  refine rs_aload_n (pc := 37) dX5_init_37 rfl ?_
  refine rs_iconst (v := 0) (pc := 38) dX5_init_38 rfl ?_
  refine cw_putf (k := 6) (i := 0) (pc := 39) dX5_init_39 fX5_32 rfl rfl (Nat.le_of_ble_eq_true rfl) ?_
  refine rs_aload_n (pc := 42) dX5_init_42 rfl ?_
  refine rs_iconst (v := 0) (pc := 43) dX5_init_43 rfl ?_
  refine cw_putf (k := 7) (i := 0) (pc := 44) dX5_init_44 fX5_35 rfl rfl (Nat.le_of_ble_eq_true rfl) ?_
  refine rs_aload_n (pc := 47) dX5_init_47 rfl ?_
  refine rs_iconst (v := 0) (pc := 48) dX5_init_48 rfl ?_
  refine cw_putf (k := 8) (i := 0) (pc := 49) dX5_init_49 fX5_38 rfl rfl (Nat.le_of_ble_eq_true rfl) ?_
  refine rs_aload_n (pc := 52) dX5_init_52 rfl ?_
  refine rs_iconst (v := 0) (pc := 53) dX5_init_53 rfl ?_
  refine cw_putf (k := 9) (i := 0) (pc := 54) dX5_init_54 fX5_41 rfl rfl (Nat.le_of_ble_eq_true rfl) ?_
  refine rs_aload_n (pc := 57) dX5_init_57 rfl ?_
  refine rs_iconst (v := 0) (pc := 58) dX5_init_58 rfl ?_
  refine cw_putf (k := 10) (i := 0) (pc := 59) dX5_init_59 fX5_45 rfl rfl (Nat.le_of_ble_eq_true rfl) ?_
  refine rs_aload_n (pc := 62) dX5_init_62 rfl ?_
  refine rs_iconst (v := 0) (pc := 63) dX5_init_63 rfl ?_
  refine cw_putf (k := 11) (i := 0) (pc := 64) dX5_init_64 fX5_48 rfl rfl (Nat.le_of_ble_eq_true rfl) ?_
  refine rs_aload_n (pc := 67) dX5_init_67 rfl ?_
  refine rs_iconst (v := 0) (pc := 68) dX5_init_68 rfl ?_
  refine cw_putf (k := 12) (i := 0) (pc := 69) dX5_init_69 fX5_51 rfl rfl (Nat.le_of_ble_eq_true rfl) ?_
  refine rs_aload_n (pc := 72) dX5_init_72 rfl ?_
  refine rs_sipush (v := 412) (pc := 73) dX5_init_73 rfl ?_
  refine cw_newI (N := 412) (m := 2) (pc := 76) dX5_init_76 (by decide) (by decide) (by decide) rfl ?_
  refine cw_putF (k := 13) (i := 0) (pc := 78) dX5_init_78 ffX5_54 rfl rfl rfl (Nat.le_of_ble_eq_true rfl) ?_
  refine rs_aload_n (pc := 81) dX5_init_81 rfl ?_
  refine rs_iconst (v := 0) (pc := 82) dX5_init_82 rfl ?_
  refine cw_putf (k := 14) (i := 0) (pc := 83) dX5_init_83 fX5_57 rfl rfl (Nat.le_of_ble_eq_true rfl) ?_
  refine rs_aload_n (pc := 86) dX5_init_86 rfl ?_
  refine rs_bipush (v := 64) (pc := 87) dX5_init_87 rfl ?_
  refine cw_newI (N := 64) (m := 3) (pc := 89) dX5_init_89 (by decide) (by decide) (by decide) rfl ?_
  refine cw_putF (k := 15) (i := 0) (pc := 91) dX5_init_91 ffX5_60 rfl rfl rfl (Nat.le_of_ble_eq_true rfl) ?_
  refine rs_aload_n (pc := 94) dX5_init_94 rfl ?_
  refine rs_iconst (v := 0) (pc := 95) dX5_init_95 rfl ?_
  refine cw_putf (k := 16) (i := 0) (pc := 96) dX5_init_96 fX5_63 rfl rfl (Nat.le_of_ble_eq_true rfl) ?_
  exact wk_vret (pc := 99) dX5_init_99 rfl rfl rfl
def rp0 (q : Nat) : List va_E := [.inr (6, [.ref (q + 1), .ref (q + 2), .ref (q + 3)]), .inl (1, 16, .inr (.inl (fun _ => 0))), .inl (0, 16, .inl (fun _ => 0)), .inl (1, 16, .inr (.inl (fun _ => 0)))]
theorem dX6_init_0 : decode cX6_init 0 = .ok (.aload_n 0, 1) := by decide +kernel
theorem dX6_init_1 : decode cX6_init 1 = .ok (.invokespecial 3, 3) := by decide +kernel
theorem dX6_init_4 : decode cX6_init 4 = .ok (.aload_n 0, 1) := by decide +kernel
theorem dX6_init_5 : decode cX6_init 5 = .ok (.bipush 16, 2) := by decide +kernel
theorem dX6_init_7 : decode cX6_init 7 = .ok (.newarray .long, 2) := by decide +kernel
theorem dX6_init_9 : decode cX6_init 9 = .ok (.putfield 9, 3) := by decide +kernel
theorem dX6_init_12 : decode cX6_init 12 = .ok (.aload_n 0, 1) := by decide +kernel
theorem dX6_init_13 : decode cX6_init 13 = .ok (.bipush 16, 2) := by decide +kernel
theorem dX6_init_15 : decode cX6_init 15 = .ok (.newarray .int, 2) := by decide +kernel
theorem dX6_init_17 : decode cX6_init 17 = .ok (.putfield 15, 3) := by decide +kernel
theorem dX6_init_20 : decode cX6_init 20 = .ok (.aload_n 0, 1) := by decide +kernel
theorem dX6_init_21 : decode cX6_init 21 = .ok (.bipush 16, 2) := by decide +kernel
theorem dX6_init_23 : decode cX6_init 23 = .ok (.newarray .long, 2) := by decide +kernel
theorem dX6_init_25 : decode cX6_init 25 = .ok (.putfield 19, 3) := by decide +kernel
theorem dX6_init_28 : decode cX6_init 28 = .ok (.return_, 1) := by decide +kernel
set_option maxRecDepth 100000 in
set_option maxHeartbeats 4000000 in
theorem c_X6_init {h : ai_H} {q : Nat} (hq : h.1 = q) : ai_Met MX6_init (.ref q :: []) (ap h [.inr (6, [.null, .null, .null])]) none (ap h (rp0 q)) := by
  subst hq
  refine ai_met (ls := _) (by decide) (by simp [ai_en, Value.category]) rfl ?_
  show ai_R _ _ _ _ (ap h _) _ _
  refine rs_aload_n (pc := 0) dX6_init_0 rfl ?_
  refine rs_obj (pc := 1) dX6_init_1 mlX6_3 ob_in ob_co (by decide) (Nat.le_of_ble_eq_true rfl) ?_
  refine rs_aload_n (pc := 4) dX6_init_4 rfl ?_
  refine rs_bipush (v := 16) (pc := 5) dX6_init_5 rfl ?_
  refine cw_newJ (N := 16) (m := 1) (pc := 7) dX6_init_7 (by decide) (by decide) (by decide) rfl ?_
  refine cw_putF (k := 0) (i := 0) (pc := 9) dX6_init_9 ffX6_9 rfl rfl rfl (Nat.le_of_ble_eq_true rfl) ?_
  refine rs_aload_n (pc := 12) dX6_init_12 rfl ?_
  refine rs_bipush (v := 16) (pc := 13) dX6_init_13 rfl ?_
  refine cw_newI (N := 16) (m := 2) (pc := 15) dX6_init_15 (by decide) (by decide) (by decide) rfl ?_
  refine cw_putF (k := 1) (i := 0) (pc := 17) dX6_init_17 ffX6_15 rfl rfl rfl (Nat.le_of_ble_eq_true rfl) ?_
  refine rs_aload_n (pc := 20) dX6_init_20 rfl ?_
  refine rs_bipush (v := 16) (pc := 21) dX6_init_21 rfl ?_
  refine cw_newJ (N := 16) (m := 3) (pc := 23) dX6_init_23 (by decide) (by decide) (by decide) rfl ?_
  refine cw_putF (k := 2) (i := 0) (pc := 25) dX6_init_25 ffX6_19 rfl rfl rfl (Nat.le_of_ble_eq_true rfl) ?_
  exact wk_vret (pc := 28) dX6_init_28 rfl rfl rfl
def sc0 (q : Nat) : List va_E := [.inr (7, [.ref (q + 1), .int 0]), .inl (1, 64, .inr (.inl (fun _ => 0)))]
theorem dX7_init_0 : decode cX7_init 0 = .ok (.aload_n 0, 1) := by decide +kernel
theorem dX7_init_1 : decode cX7_init 1 = .ok (.invokespecial 3, 3) := by decide +kernel
theorem dX7_init_4 : decode cX7_init 4 = .ok (.aload_n 0, 1) := by decide +kernel
theorem dX7_init_5 : decode cX7_init 5 = .ok (.bipush 64, 2) := by decide +kernel
theorem dX7_init_7 : decode cX7_init 7 = .ok (.newarray .long, 2) := by decide +kernel
theorem dX7_init_9 : decode cX7_init 9 = .ok (.putfield 11, 3) := by decide +kernel
theorem dX7_init_12 : decode cX7_init 12 = .ok (.aload_n 0, 1) := by decide +kernel
theorem dX7_init_13 : decode cX7_init 13 = .ok (.iconst 0, 1) := by decide +kernel
theorem dX7_init_14 : decode cX7_init 14 = .ok (.putfield 15, 3) := by decide +kernel
theorem dX7_init_17 : decode cX7_init 17 = .ok (.return_, 1) := by decide +kernel
set_option maxRecDepth 100000 in
set_option maxHeartbeats 4000000 in
theorem c_X7_init {h : ai_H} {q : Nat} (hq : h.1 = q) : ai_Met MX7_init (.ref q :: []) (ap h [.inr (7, [.null, .int 0])]) none (ap h (sc0 q)) := by
  subst hq
  refine ai_met (ls := _) (by decide) (by simp [ai_en, Value.category]) rfl ?_
  show ai_R _ _ _ _ (ap h _) _ _
  refine rs_aload_n (pc := 0) dX7_init_0 rfl ?_
  refine rs_obj (pc := 1) dX7_init_1 mlX7_3 ob_in ob_co (by decide) (Nat.le_of_ble_eq_true rfl) ?_
  refine rs_aload_n (pc := 4) dX7_init_4 rfl ?_
  refine rs_bipush (v := 64) (pc := 5) dX7_init_5 rfl ?_
  refine cw_newJ (N := 64) (m := 1) (pc := 7) dX7_init_7 (by decide) (by decide) (by decide) rfl ?_
  refine cw_putF (k := 0) (i := 0) (pc := 9) dX7_init_9 ffX7_11 rfl rfl rfl (Nat.le_of_ble_eq_true rfl) ?_
  refine rs_aload_n (pc := 12) dX7_init_12 rfl ?_
  refine rs_iconst (v := 0) (pc := 13) dX7_init_13 rfl ?_
  refine cw_putf (k := 1) (i := 0) (pc := 14) dX7_init_14 fX7_15 rfl rfl (Nat.le_of_ble_eq_true rfl) ?_
  exact wk_vret (pc := 17) dX7_init_17 rfl rfl rfl
def ty0 : List va_E := [.inr (9, [.int 0, .long 0, .long 0, .long 0])]
theorem dX9_init_0 : decode cX9_init 0 = .ok (.aload_n 0, 1) := by decide +kernel
theorem dX9_init_1 : decode cX9_init 1 = .ok (.invokespecial 1, 3) := by decide +kernel
theorem dX9_init_4 : decode cX9_init 4 = .ok (.aload_n 0, 1) := by decide +kernel
theorem dX9_init_5 : decode cX9_init 5 = .ok (.iconst 0, 1) := by decide +kernel
theorem dX9_init_6 : decode cX9_init 6 = .ok (.putfield 7, 3) := by decide +kernel
theorem dX9_init_9 : decode cX9_init 9 = .ok (.aload_n 0, 1) := by decide +kernel
theorem dX9_init_10 : decode cX9_init 10 = .ok (.lconst 0, 1) := by decide +kernel
theorem dX9_init_11 : decode cX9_init 11 = .ok (.putfield 13, 3) := by decide +kernel
theorem dX9_init_14 : decode cX9_init 14 = .ok (.aload_n 0, 1) := by decide +kernel
theorem dX9_init_15 : decode cX9_init 15 = .ok (.lconst 0, 1) := by decide +kernel
theorem dX9_init_16 : decode cX9_init 16 = .ok (.putfield 17, 3) := by decide +kernel
theorem dX9_init_19 : decode cX9_init 19 = .ok (.aload_n 0, 1) := by decide +kernel
theorem dX9_init_20 : decode cX9_init 20 = .ok (.lconst 0, 1) := by decide +kernel
theorem dX9_init_21 : decode cX9_init 21 = .ok (.putfield 20, 3) := by decide +kernel
theorem dX9_init_24 : decode cX9_init 24 = .ok (.return_, 1) := by decide +kernel
set_option maxRecDepth 100000 in
set_option maxHeartbeats 4000000 in
theorem c_X9_init {h : ai_H} {q : Nat} (hq : h.1 = q) : ai_Met MX9_init (.ref q :: []) (ap h [.inr (9, [.int 0, .long 0, .long 0, .long 0])]) none (ap h ty0) := by
  subst hq
  refine ai_met (ls := _) (by decide) (by simp [ai_en, Value.category]) rfl ?_
  show ai_R _ _ _ _ (ap h _) _ _
  refine rs_aload_n (pc := 0) dX9_init_0 rfl ?_
  refine rs_obj (pc := 1) dX9_init_1 mlX9_1 ob_in ob_co (by decide) (Nat.le_of_ble_eq_true rfl) ?_
  refine rs_aload_n (pc := 4) dX9_init_4 rfl ?_
  refine rs_iconst (v := 0) (pc := 5) dX9_init_5 rfl ?_
  refine cw_putf (k := 0) (i := 0) (pc := 6) dX9_init_6 fX9_7 rfl rfl (Nat.le_of_ble_eq_true rfl) ?_
  refine rs_aload_n (pc := 9) dX9_init_9 rfl ?_
  refine rs_lconst (v := 0) (pc := 10) dX9_init_10 rfl ?_
  refine cw_putf (k := 1) (i := 0) (pc := 11) dX9_init_11 fX9_13 rfl rfl (Nat.le_of_ble_eq_true rfl) ?_
  refine rs_aload_n (pc := 14) dX9_init_14 rfl ?_
  refine rs_lconst (v := 0) (pc := 15) dX9_init_15 rfl ?_
  refine cw_putf (k := 2) (i := 0) (pc := 16) dX9_init_16 fX9_17 rfl rfl (Nat.le_of_ble_eq_true rfl) ?_
  refine rs_aload_n (pc := 19) dX9_init_19 rfl ?_
  refine rs_lconst (v := 0) (pc := 20) dX9_init_20 rfl ?_
  refine cw_putf (k := 3) (i := 0) (pc := 21) dX9_init_21 fX9_20 rfl rfl (Nat.le_of_ble_eq_true rfl) ?_
  exact wk_vret (pc := 24) dX9_init_24 rfl rfl rfl
def wo0 (q : Nat) : List va_E := [.inr (10, [.null, .int (-1), .int (-1), .int 0, .long 0, .ref (q + 1), .ref (q + 2), .ref (q + 3), .ref (q + 4)]), .inl (0, 400, .inl (fun _ => 0)), .inl (0, 400, .inl (fun _ => 0)), .inl (1, 400, .inr (.inl (fun _ => 0))), .inr (9, [.int 0, .long 0, .long 0, .long 0])]
theorem dX10_init_0 : decode cX10_init 0 = .ok (.aload_n 0, 1) := by decide +kernel
theorem dX10_init_1 : decode cX10_init 1 = .ok (.invokespecial 3, 3) := by decide +kernel
theorem dX10_init_4 : decode cX10_init 4 = .ok (.aload_n 0, 1) := by decide +kernel
theorem dX10_init_5 : decode cX10_init 5 = .ok (.aconst_null, 1) := by decide +kernel
theorem dX10_init_6 : decode cX10_init 6 = .ok (.putfield 9, 3) := by decide +kernel
theorem dX10_init_9 : decode cX10_init 9 = .ok (.aload_n 0, 1) := by decide +kernel
theorem dX10_init_10 : decode cX10_init 10 = .ok (.iconst (-1), 1) := by decide +kernel
theorem dX10_init_11 : decode cX10_init 11 = .ok (.putfield 15, 3) := by decide +kernel
theorem dX10_init_14 : decode cX10_init 14 = .ok (.aload_n 0, 1) := by decide +kernel
theorem dX10_init_15 : decode cX10_init 15 = .ok (.iconst (-1), 1) := by decide +kernel
theorem dX10_init_16 : decode cX10_init 16 = .ok (.putfield 19, 3) := by decide +kernel
theorem dX10_init_19 : decode cX10_init 19 = .ok (.aload_n 0, 1) := by decide +kernel
theorem dX10_init_20 : decode cX10_init 20 = .ok (.iconst 0, 1) := by decide +kernel
theorem dX10_init_21 : decode cX10_init 21 = .ok (.putfield 22, 3) := by decide +kernel
theorem dX10_init_24 : decode cX10_init 24 = .ok (.aload_n 0, 1) := by decide +kernel
theorem dX10_init_25 : decode cX10_init 25 = .ok (.lconst 0, 1) := by decide +kernel
theorem dX10_init_26 : decode cX10_init 26 = .ok (.putfield 25, 3) := by decide +kernel
theorem dX10_init_29 : decode cX10_init 29 = .ok (.aload_n 0, 1) := by decide +kernel
theorem dX10_init_30 : decode cX10_init 30 = .ok (.sipush 400, 3) := by decide +kernel
theorem dX10_init_33 : decode cX10_init 33 = .ok (.newarray .int, 2) := by decide +kernel
theorem dX10_init_35 : decode cX10_init 35 = .ok (.putfield 29, 3) := by decide +kernel
theorem dX10_init_38 : decode cX10_init 38 = .ok (.aload_n 0, 1) := by decide +kernel
theorem dX10_init_39 : decode cX10_init 39 = .ok (.sipush 400, 3) := by decide +kernel
theorem dX10_init_42 : decode cX10_init 42 = .ok (.newarray .int, 2) := by decide +kernel
theorem dX10_init_44 : decode cX10_init 44 = .ok (.putfield 33, 3) := by decide +kernel
theorem dX10_init_47 : decode cX10_init 47 = .ok (.aload_n 0, 1) := by decide +kernel
theorem dX10_init_48 : decode cX10_init 48 = .ok (.sipush 400, 3) := by decide +kernel
theorem dX10_init_51 : decode cX10_init 51 = .ok (.newarray .long, 2) := by decide +kernel
theorem dX10_init_53 : decode cX10_init 53 = .ok (.putfield 36, 3) := by decide +kernel
theorem dX10_init_56 : decode cX10_init 56 = .ok (.aload_n 0, 1) := by decide +kernel
theorem dX10_init_57 : decode cX10_init 57 = .ok (.new 40, 3) := by decide +kernel
theorem dX10_init_60 : decode cX10_init 60 = .ok (.dup, 1) := by decide +kernel
theorem dX10_init_61 : decode cX10_init 61 = .ok (.invokespecial 42, 3) := by decide +kernel
theorem dX10_init_64 : decode cX10_init 64 = .ok (.putfield 43, 3) := by decide +kernel
theorem dX10_init_67 : decode cX10_init 67 = .ok (.return_, 1) := by decide +kernel
set_option maxRecDepth 100000 in
set_option maxHeartbeats 4000000 in
theorem c_X10_init {h : ai_H} {q : Nat} (hq : h.1 = q) : ai_Met MX10_init (.ref q :: []) (ap h [.inr (10, [.null, .int 0, .int 0, .int 0, .long 0, .null, .null, .null, .null])]) none (ap h (wo0 q)) := by
  subst hq
  refine ai_met (ls := _) (by decide) (by simp [ai_en, Value.category]) rfl ?_
  show ai_R _ _ _ _ (ap h _) _ _
  refine rs_aload_n (pc := 0) dX10_init_0 rfl ?_
  refine rs_obj (pc := 1) dX10_init_1 mlX10_3 ob_in ob_co (by decide) (Nat.le_of_ble_eq_true rfl) ?_
  refine rs_aload_n (pc := 4) dX10_init_4 rfl ?_
  refine rs_null (pc := 5) dX10_init_5 ?_
  refine cw_putf (k := 0) (i := 0) (pc := 6) dX10_init_6 fX10_9 rfl rfl (Nat.le_of_ble_eq_true rfl) ?_
  refine rs_aload_n (pc := 9) dX10_init_9 rfl ?_
  refine rs_iconst (v := -1) (pc := 10) dX10_init_10 rfl ?_
  refine cw_putf (k := 1) (i := 0) (pc := 11) dX10_init_11 fX10_15 rfl rfl (Nat.le_of_ble_eq_true rfl) ?_
  refine rs_aload_n (pc := 14) dX10_init_14 rfl ?_
  refine rs_iconst (v := -1) (pc := 15) dX10_init_15 rfl ?_
  refine cw_putf (k := 2) (i := 0) (pc := 16) dX10_init_16 fX10_19 rfl rfl (Nat.le_of_ble_eq_true rfl) ?_
  refine rs_aload_n (pc := 19) dX10_init_19 rfl ?_
  refine rs_iconst (v := 0) (pc := 20) dX10_init_20 rfl ?_
  refine cw_putf (k := 3) (i := 0) (pc := 21) dX10_init_21 fX10_22 rfl rfl (Nat.le_of_ble_eq_true rfl) ?_
  refine rs_aload_n (pc := 24) dX10_init_24 rfl ?_
  refine rs_lconst (v := 0) (pc := 25) dX10_init_25 rfl ?_
  refine cw_putf (k := 4) (i := 0) (pc := 26) dX10_init_26 fX10_25 rfl rfl (Nat.le_of_ble_eq_true rfl) ?_
  refine rs_aload_n (pc := 29) dX10_init_29 rfl ?_
  refine rs_sipush (v := 400) (pc := 30) dX10_init_30 rfl ?_
  refine cw_newI (N := 400) (m := 1) (pc := 33) dX10_init_33 (by decide) (by decide) (by decide) rfl ?_
  refine cw_putF (k := 5) (i := 0) (pc := 35) dX10_init_35 ffX10_29 rfl rfl rfl (Nat.le_of_ble_eq_true rfl) ?_
  refine rs_aload_n (pc := 38) dX10_init_38 rfl ?_
  refine rs_sipush (v := 400) (pc := 39) dX10_init_39 rfl ?_
  refine cw_newI (N := 400) (m := 2) (pc := 42) dX10_init_42 (by decide) (by decide) (by decide) rfl ?_
  refine cw_putF (k := 6) (i := 0) (pc := 44) dX10_init_44 ffX10_33 rfl rfl rfl (Nat.le_of_ble_eq_true rfl) ?_
  refine rs_aload_n (pc := 47) dX10_init_47 rfl ?_
  refine rs_sipush (v := 400) (pc := 48) dX10_init_48 rfl ?_
  refine cw_newJ (N := 400) (m := 3) (pc := 51) dX10_init_51 (by decide) (by decide) (by decide) rfl ?_
  refine cw_putF (k := 7) (i := 0) (pc := 53) dX10_init_53 ffX10_36 rfl rfl rfl (Nat.le_of_ble_eq_true rfl) ?_
  refine rs_aload_n (pc := 56) dX10_init_56 rfl ?_
  refine cw_new (n := 4) [.int 0, .long 0, .long 0, .long 0] (pc := 57) dX10_init_57 kX9 clX10_40 nX9 dfX9 rfl rfl rfl ?_
  refine rs_dup (pc := 60) dX10_init_60 rfl ?_
  refine cw_init (as := []) (b := 4) (pc := 61) dX10_init_61 mk_X9_init rfl mlX10_42 in_X9_init rfl rfl rfl (Nat.le_of_ble_eq_true rfl) rfl (c_X9_init (ap_q rfl rfl)) ?_
  refine cw_putF (k := 8) (i := 0) (pc := 64) dX10_init_64 ffX10_43 rfl rfl rfl (Nat.le_of_ble_eq_true rfl) ?_
  exact wk_vret (pc := 67) dX10_init_67 rfl rfl rfl
