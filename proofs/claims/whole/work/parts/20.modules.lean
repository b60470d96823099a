/-! 20: the class's own modules (wip/whole/p20.py) -/
/-- an object of class c at b, its n rows behind it -/
def mo_at (b c n : Nat) (fs : Md → List Value) (tab : List (Nat × Nat × Nat)) (h : ai_H) (S : Md) : Prop := b + n < h.1 ∧ h.2.2 b = .inr (c, fs S) ∧ ∀ (d : Nat) (q : Nat × Nat × Nat), tab[d]? = some q → h.2.2 (b + 1 + d) = md_arr S q
section MODULE
variable {b c n : Nat} {fs : Md → List Value} {tab : List (Nat × Nat × Nat)} {h g : ai_H} {S : Md}
theorem mo_lt {j : Nat} (hm : mo_at b c n fs tab h S) (hj : j ≤ b + n) : j < h.1 := Nat.lt_of_le_of_lt hj hm.1
theorem mo_geti {d k kd l : Nat} (hq : tab[d]? = some (k, kd, l)) (hkd : kd ≠ 1) (hm : mo_at b c n fs tab h S) : h.2.2 (b + 1 + d) = .inl (kd, l, .inl (S.2.2.1 k)) := by
  rw [hm.2.2 d _ hq]
  simp [md_arr, hkd]
theorem mo_getl {d k kd l : Nat} (hq : tab[d]? = some (k, kd, l)) (hkd : kd = 1) (hm : mo_at b c n fs tab h S) : h.2.2 (b + 1 + d) = .inl (kd, l, .inr (.inl (S.2.2.2 k))) := by
  rw [hm.2.2 d _ hq]
  simp [md_arr, hkd]
theorem mo_si {k : Nat} {v : Int32} (hm : mo_at b c n fs tab h S) (m : g.1 = h.1) (e : g.2.2 b = .inr (c, (fs S).set k (.int v))) (o : ∀ j, j ≠ b → g.2.2 j = h.2.2 j) (hk : (fs S).set k (.int v) = fs (md_si S k v)) : mo_at b c n fs tab g (md_si S k v) :=
  ⟨by rw [m]; exact hm.1, by rw [e, hk], fun d q hq => (o _ (by omega)).trans (hm.2.2 d q hq)⟩
theorem mo_dl {k : Nat} {v : Int64} (hm : mo_at b c n fs tab h S) (m : g.1 = h.1) (e : g.2.2 b = .inr (c, (fs S).set k (.long v))) (o : ∀ j, j ≠ b → g.2.2 j = h.2.2 j) (hk : (fs S).set k (.long v) = fs (md_dl S v)) : mo_at b c n fs tab g (md_dl S v) :=
  ⟨by rw [m]; exact hm.1, by rw [e, hk], fun d q hq => (o _ (by omega)).trans (hm.2.2 d q hq)⟩
theorem mo_one (nd : ∀ d : Nat, d < tab.length → ∀ e : Nat, e < tab.length → (tab.map (·.1))[d]? = (tab.map (·.1))[e]? → d = e) {d e : Nat} {q r : Nat × Nat × Nat} (h1 : tab[d]? = some q) (h2 : tab[e]? = some r) (hne : e ≠ d) : r.1 ≠ q.1 := by
  intro z
  have l1 := (List.getElem?_eq_some_iff.mp h1).1
  have l2 := (List.getElem?_eq_some_iff.mp h2).1
  exact hne (nd e l2 d l1 (by rw [List.getElem?_map, List.getElem?_map, h1, h2]; simp [z]))
theorem mo_ai {d k kd l : Nat} {f : Nat → Int32} (nd : ∀ d : Nat, d < tab.length → ∀ e : Nat, e < tab.length → (tab.map (·.1))[d]? = (tab.map (·.1))[e]? → d = e) (hq : tab[d]? = some (k, kd, l)) (hkd : kd ≠ 1) (hfs : ∀ S k f, fs (md_ai S k f) = fs S) (hm : mo_at b c n fs tab h S) (m : g.1 = h.1) (e : g.2.2 (b + 1 + d) = .inl (kd, l, .inl f)) (o : ∀ j, j ≠ b + 1 + d → g.2.2 j = h.2.2 j) : mo_at b c n fs tab g (md_ai S k f) := by
  refine ⟨by rw [m]; exact hm.1, by rw [hfs]; exact (o _ (by omega)).trans hm.2.1, fun d' q' hq' => ?_⟩
  by_cases hd : d' = d
  · subst hd
    cases Option.some.inj (hq'.symm.trans hq)
    rw [e]
    simp [md_arr, hkd, md_ai, va_up]
  · rw [o _ (by omega), hm.2.2 d' q' hq']
    have hne := mo_one nd hq hq' hd
    simp only [md_arr, md_ai, va_up, if_neg hne]
theorem mo_al {d k kd l : Nat} {f : Nat → Int64} (nd : ∀ d : Nat, d < tab.length → ∀ e : Nat, e < tab.length → (tab.map (·.1))[d]? = (tab.map (·.1))[e]? → d = e) (hq : tab[d]? = some (k, kd, l)) (hkd : kd = 1) (hfs : ∀ S k f, fs (md_al S k f) = fs S) (hm : mo_at b c n fs tab h S) (m : g.1 = h.1) (e : g.2.2 (b + 1 + d) = .inl (kd, l, .inr (.inl f))) (o : ∀ j, j ≠ b + 1 + d → g.2.2 j = h.2.2 j) : mo_at b c n fs tab g (md_al S k f) := by
  refine ⟨by rw [m]; exact hm.1, by rw [hfs]; exact (o _ (by omega)).trans hm.2.1, fun d' q' hq' => ?_⟩
  by_cases hd : d' = d
  · subst hd
    cases Option.some.inj (hq'.symm.trans hq)
    rw [e]
    simp [md_arr, hkd, md_al, va_up]
  · rw [o _ (by omega), hm.2.2 d' q' hq']
    have hne := mo_one nd hq hq' hd
    simp only [md_arr, md_al, va_up, if_neg hne]
theorem mo_keep (hm : mo_at b c n fs tab h S) (m : g.1 = h.1) (o : ∀ j, b ≤ j → j ≤ b + tab.length → g.2.2 j = h.2.2 j) : mo_at b c n fs tab g S := by
  refine ⟨by rw [m]; exact hm.1, (o _ (by omega) (by omega)).trans hm.2.1, fun d q hq => ?_⟩
  have l1 := (List.getElem?_eq_some_iff.mp hq).1
  rw [o _ (by omega) (by omega)]
  exact hm.2.2 d q hq
end MODULE
/-- what a method of the class leaves: all but its own scratch, cells 15 to 304 -/
def xe (h g : ai_H) : Prop := g.1 = h.1 ∧ g.2.1 = h.2.1 ∧ ∀ j, (j < 15 ∨ 304 < j) → g.2.2 j = h.2.2 j
theorem xe.rf {h : ai_H} : xe h h := ⟨rfl, rfl, fun _ _ => rfl⟩
theorem xe.trans {h g k : ai_H} (a : xe h g) (b : xe g k) : xe h k := ⟨b.1.trans a.1, b.2.1.trans a.2.1, fun j hj => (b.2.2 j hj).trans (a.2.2 j hj)⟩
theorem xe_of {h g : ai_H} {q : Nat} (m : g.1 = h.1) (s : g.2.1 = h.2.1) (o : ∀ j, j ≠ q → g.2.2 j = h.2.2 j) (hq : 15 ≤ q ∧ q ≤ 304) : xe h g := ⟨m, s, fun j hj => o j (by omega)⟩
theorem bk_lt {h : ai_H} {q j : Nat} {B : Bk} (hB : bk_at h q B) (hj : j ≤ q + 10) : j < h.1 := Nat.lt_of_le_of_lt hj hB.1
def cl_fs (S : Md) : List Value := [.int (S.1 0), .ref 23, .ref 24, .ref 25, .ref 26, .ref 27, .ref 28, .ref 29, .ref 30, .ref 31, .ref 32]
def cl_tab : List (Nat × Nat × Nat) := [(1, 0, 80), (2, 0, 400), (3, 0, 400), (4, 0, 400), (5, 0, 400), (6, 0, 400), (7, 0, 6400), (8, 0, 6400), (9, 0, 6400), (10, 1, 6400)]
abbrev cl_at (h : ai_H) (S : Md) : Prop := mo_at 22 2 10 cl_fs cl_tab h S
theorem cl_nd : ∀ d : Nat, d < 10 → ∀ e : Nat, e < 10 → (cl_tab.map (·.1))[d]? = (cl_tab.map (·.1))[e]? → d = e := by decide +kernel
def rp_fs (S : Md) : List Value := [.ref 293, .ref 294, .ref 295]
def rp_tab : List (Nat × Nat × Nat) := [(0, 1, 16), (1, 0, 16), (2, 1, 16)]
abbrev rp_at (h : ai_H) (S : Md) : Prop := mo_at 292 6 3 rp_fs rp_tab h S
theorem rp_nd : ∀ d : Nat, d < 3 → ∀ e : Nat, e < 3 → (rp_tab.map (·.1))[d]? = (rp_tab.map (·.1))[e]? → d = e := by decide +kernel
def bo_fs (S : Md) : List Value := [.int (S.1 0), .ref 297, .ref 298]
def bo_tab : List (Nat × Nat × Nat) := [(1, 0, 16), (2, 0, 16)]
abbrev bo_at (h : ai_H) (S : Md) : Prop := mo_at 296 0 2 bo_fs bo_tab h S
theorem bo_nd : ∀ d : Nat, d < 2 → ∀ e : Nat, e < 2 → (bo_tab.map (·.1))[d]? = (bo_tab.map (·.1))[e]? → d = e := by decide +kernel
def sc_fs (S : Md) : List Value := [.ref 21, .int (S.1 1)]
def sc_tab : List (Nat × Nat × Nat) := [(0, 1, 64)]
abbrev sc_at (h : ai_H) (S : Md) : Prop := mo_at 20 7 1 sc_fs sc_tab h S
theorem sc_nd : ∀ d : Nat, d < 1 → ∀ e : Nat, e < 1 → (sc_tab.map (·.1))[d]? = (sc_tab.map (·.1))[e]? → d = e := by decide +kernel
