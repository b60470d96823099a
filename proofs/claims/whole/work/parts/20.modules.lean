/-! 20: the class's own modules (wip/whole/p20.py) -/
/-- an object of class c at b, its n rows behind it -/
def mo_at (b c n : Nat) (fs : Md → List Value) (tab : List (Nat × Nat × Nat)) (h : ai_H) (S : Md) : Prop := b + n < h.1 ∧ h.2.2 b = .inr (c, fs S) ∧ ∀ (d : Nat) (q : Nat × Nat × Nat), tab[d]? = some q → h.2.2 (b + 1 + d) = md_arr S q
section MODULE
variable {b c n : Nat} {fs : Md → List Value} {tab : List (Nat × Nat × Nat)} {h g : ai_H} {S : Md}
theorem mo_lt {j : Nat} (hm : mo_at b c n fs tab h S) (hj : j ≤ b + n) : j < h.1 := Nat.lt_of_le_of_lt hj hm.1
theorem mo_geti {d k kd l : Nat} (hq : tab[d]? = some (k, kd, l)) (hkd : kd ≠ 1) (hm : mo_at b c n fs tab h S) : h.2.2 (b + 1 + d) = .inl (kd, l, .inl (S.2.2.1 k)) := by
  rw [hm.2.2 d _ hq]
  simp [md_arr, hkd]
theorem mo_getl {d k kd l : Nat} (hq : tab[d]? = some (k, kd, l)) (hkd : kd = 1) (hm : mo_at b c n fs tab h S) : h.2.2 (b + 1 + d) = .inl (kd, l, .inr (.inl (S.2.2.2 k))) := by
  rw [hm.2.2 d _ hq]
  simp [md_arr, hkd]
theorem mo_si {k : Nat} {v : Int32} (hm : mo_at b c n fs tab h S) (m : g.1 = h.1) (e : g.2.2 b = .inr (c, (fs S).set k (.int v))) (o : ∀ j, j ≠ b → g.2.2 j = h.2.2 j) (hk : (fs S).set k (.int v) = fs (md_si S k v)) : mo_at b c n fs tab g (md_si S k v) :=
  ⟨by rw [m]; exact hm.1, by rw [e, hk], fun d q hq => (o _ (by omega)).trans (hm.2.2 d q hq)⟩
theorem mo_dl {k : Nat} {v : Int64} (hm : mo_at b c n fs tab h S) (m : g.1 = h.1) (e : g.2.2 b = .inr (c, (fs S).set k (.long v))) (o : ∀ j, j ≠ b → g.2.2 j = h.2.2 j) (hk : (fs S).set k (.long v) = fs (md_dl S v)) : mo_at b c n fs tab g (md_dl S v) :=
  ⟨by rw [m]; exact hm.1, by rw [e, hk], fun d q hq => (o _ (by omega)).trans (hm.2.2 d q hq)⟩
theorem mo_one (nd : ∀ d : Nat, d < tab.length → ∀ e : Nat, e < tab.length → (tab.map (·.1))[d]? = (tab.map (·.1))[e]? → d = e) {d e : Nat} {q r : Nat × Nat × Nat} (h1 : tab[d]? = some q) (h2 : tab[e]? = some r) (hne : e ≠ d) : r.1 ≠ q.1 := by
  intro z
  have l1 := (List.getElem?_eq_some_iff.mp h1).1
  have l2 := (List.getElem?_eq_some_iff.mp h2).1
  exact hne (nd e l2 d l1 (by rw [List.getElem?_map, List.getElem?_map, h1, h2]; simp [z]))
theorem mo_ai {d k kd l : Nat} {f : Nat → Int32} (nd : ∀ d : Nat, d < tab.length → ∀ e : Nat, e < tab.length → (tab.map (·.1))[d]? = (tab.map (·.1))[e]? → d = e) (hq : tab[d]? = some (k, kd, l)) (hkd : kd ≠ 1) (hfs : ∀ S k f, fs (md_ai S k f) = fs S) (hm : mo_at b c n fs tab h S) (m : g.1 = h.1) (e : g.2.2 (b + 1 + d) = .inl (kd, l, .inl f)) (o : ∀ j, j ≠ b + 1 + d → g.2.2 j = h.2.2 j) : mo_at b c n fs tab g (md_ai S k f) := by
  refine ⟨by rw [m]; exact hm.1, by rw [hfs]; exact (o _ (by omega)).trans hm.2.1, fun d' q' hq' => ?_⟩
  by_cases hd : d' = d
  · subst hd
    cases Option.some.inj (hq'.symm.trans hq)
    rw [e]
    simp [md_arr, hkd, md_ai, va_up]
  · rw [o _ (by omega), hm.2.2 d' q' hq']
    have hne := mo_one nd hq hq' hd
    simp only [md_arr, md_ai, va_up, if_neg hne]
theorem mo_al {d k kd l : Nat} {f : Nat → Int64} (nd : ∀ d : Nat, d < tab.length → ∀ e : Nat, e < tab.length → (tab.map (·.1))[d]? = (tab.map (·.1))[e]? → d = e) (hq : tab[d]? = some (k, kd, l)) (hkd : kd = 1) (hfs : ∀ S k f, fs (md_al S k f) = fs S) (hm : mo_at b c n fs tab h S) (m : g.1 = h.1) (e : g.2.2 (b + 1 + d) = .inl (kd, l, .inr (.inl f))) (o : ∀ j, j ≠ b + 1 + d → g.2.2 j = h.2.2 j) : mo_at b c n fs tab g (md_al S k f) := by
  refine ⟨by rw [m]; exact hm.1, by rw [hfs]; exact (o _ (by omega)).trans hm.2.1, fun d' q' hq' => ?_⟩
  by_cases hd : d' = d
  · subst hd
    cases Option.some.inj (hq'.symm.trans hq)
    rw [e]
    simp [md_arr, hkd, md_al, va_up]
  · rw [o _ (by omega), hm.2.2 d' q' hq']
    have hne := mo_one nd hq hq' hd
    simp only [md_arr, md_al, va_up, if_neg hne]
theorem mo_keep (hm : mo_at b c n fs tab h S) (m : g.1 = h.1) (o : ∀ j, b ≤ j → j ≤ b + tab.length → g.2.2 j = h.2.2 j) : mo_at b c n fs tab g S := by
  refine ⟨by rw [m]; exact hm.1, (o _ (by omega) (by omega)).trans hm.2.1, fun d q hq => ?_⟩
  have l1 := (List.getElem?_eq_some_iff.mp hq).1
  rw [o _ (by omega) (by omega)]
  exact hm.2.2 d q hq
end MODULE
/-- what a method of the class leaves: all but its own scratch, cells 15 to 306 -/
def xe (h g : ai_H) : Prop := g.1 = h.1 ∧ g.2.1 = h.2.1 ∧ ∀ j, (j < 15 ∨ 306 < j) → g.2.2 j = h.2.2 j
theorem xe.rf {h : ai_H} : xe h h := ⟨rfl, rfl, fun _ _ => rfl⟩
theorem xe.trans {h g k : ai_H} (a : xe h g) (b : xe g k) : xe h k := ⟨b.1.trans a.1, b.2.1.trans a.2.1, fun j hj => (b.2.2 j hj).trans (a.2.2 j hj)⟩
theorem xe_of {h g : ai_H} {q : Nat} (m : g.1 = h.1) (s : g.2.1 = h.2.1) (o : ∀ j, j ≠ q → g.2.2 j = h.2.2 j) (hq : 15 ≤ q ∧ q ≤ 306) : xe h g := ⟨m, s, fun j hj => o j (by omega)⟩
def xc (h g : ai_H) : Prop := g.1 = h.1 ∧ g.2.1 = h.2.1 ∧ ∀ j, (j < 22 ∨ 34 < j) → g.2.2 j = h.2.2 j
theorem xc.rf {h : ai_H} : xc h h := ⟨rfl, rfl, fun _ _ => rfl⟩
theorem xc.trans {h g k : ai_H} (a : xc h g) (b : xc g k) : xc h k := ⟨b.1.trans a.1, b.2.1.trans a.2.1, fun j hj => (b.2.2 j hj).trans (a.2.2 j hj)⟩
theorem xc_of {h g : ai_H} {q : Nat} (m : g.1 = h.1) (s : g.2.1 = h.2.1) (o : ∀ j, j ≠ q → g.2.2 j = h.2.2 j) (hq : 22 ≤ q ∧ q ≤ 34) : xc h g := ⟨m, s, fun j hj => o j (by omega)⟩
theorem xc.xe {h g : ai_H} (a : xc h g) : xe h g := ⟨a.1, a.2.1, fun j hj => a.2.2 j (by omega)⟩
def xm (h g : ai_H) : Prop := g.1 = h.1 ∧ g.2.1 = h.2.1 ∧ ∀ j, (j < 35 ∨ 293 < j) → g.2.2 j = h.2.2 j
theorem xm.rf {h : ai_H} : xm h h := ⟨rfl, rfl, fun _ _ => rfl⟩
theorem xm.trans {h g k : ai_H} (a : xm h g) (b : xm g k) : xm h k := ⟨b.1.trans a.1, b.2.1.trans a.2.1, fun j hj => (b.2.2 j hj).trans (a.2.2 j hj)⟩
theorem xm_of {h g : ai_H} {q : Nat} (m : g.1 = h.1) (s : g.2.1 = h.2.1) (o : ∀ j, j ≠ q → g.2.2 j = h.2.2 j) (hq : 35 ≤ q ∧ q ≤ 293) : xm h g := ⟨m, s, fun j hj => o j (by omega)⟩
theorem xm.xe {h g : ai_H} (a : xm h g) : xe h g := ⟨a.1, a.2.1, fun j hj => a.2.2 j (by omega)⟩
def xp (h g : ai_H) : Prop := g.1 = h.1 ∧ g.2.1 = h.2.1 ∧ ∀ j, (j < 294 ∨ 297 < j) → g.2.2 j = h.2.2 j
theorem xp.rf {h : ai_H} : xp h h := ⟨rfl, rfl, fun _ _ => rfl⟩
theorem xp.trans {h g k : ai_H} (a : xp h g) (b : xp g k) : xp h k := ⟨b.1.trans a.1, b.2.1.trans a.2.1, fun j hj => (b.2.2 j hj).trans (a.2.2 j hj)⟩
theorem xp_of {h g : ai_H} {q : Nat} (m : g.1 = h.1) (s : g.2.1 = h.2.1) (o : ∀ j, j ≠ q → g.2.2 j = h.2.2 j) (hq : 294 ≤ q ∧ q ≤ 297) : xp h g := ⟨m, s, fun j hj => o j (by omega)⟩
theorem xp.xe {h g : ai_H} (a : xp h g) : xe h g := ⟨a.1, a.2.1, fun j hj => a.2.2 j (by omega)⟩
def xb (h g : ai_H) : Prop := g.1 = h.1 ∧ g.2.1 = h.2.1 ∧ ∀ j, (j < 298 ∨ 300 < j) → g.2.2 j = h.2.2 j
theorem xb.rf {h : ai_H} : xb h h := ⟨rfl, rfl, fun _ _ => rfl⟩
theorem xb.trans {h g k : ai_H} (a : xb h g) (b : xb g k) : xb h k := ⟨b.1.trans a.1, b.2.1.trans a.2.1, fun j hj => (b.2.2 j hj).trans (a.2.2 j hj)⟩
theorem xb_of {h g : ai_H} {q : Nat} (m : g.1 = h.1) (s : g.2.1 = h.2.1) (o : ∀ j, j ≠ q → g.2.2 j = h.2.2 j) (hq : 298 ≤ q ∧ q ≤ 300) : xb h g := ⟨m, s, fun j hj => o j (by omega)⟩
theorem xb.xe {h g : ai_H} (a : xb h g) : xe h g := ⟨a.1, a.2.1, fun j hj => a.2.2 j (by omega)⟩
def xw (h g : ai_H) : Prop := g.1 = h.1 ∧ g.2.1 = h.2.1 ∧ ∀ j, (j < 301 ∨ 305 < j) → g.2.2 j = h.2.2 j
theorem xw.rf {h : ai_H} : xw h h := ⟨rfl, rfl, fun _ _ => rfl⟩
theorem xw.trans {h g k : ai_H} (a : xw h g) (b : xw g k) : xw h k := ⟨b.1.trans a.1, b.2.1.trans a.2.1, fun j hj => (b.2.2 j hj).trans (a.2.2 j hj)⟩
theorem xw_of {h g : ai_H} {q : Nat} (m : g.1 = h.1) (s : g.2.1 = h.2.1) (o : ∀ j, j ≠ q → g.2.2 j = h.2.2 j) (hq : 301 ≤ q ∧ q ≤ 305) : xw h g := ⟨m, s, fun j hj => o j (by omega)⟩
theorem xw.xe {h g : ai_H} (a : xw h g) : xe h g := ⟨a.1, a.2.1, fun j hj => a.2.2 j (by omega)⟩
def xs (h g : ai_H) : Prop := g.1 = h.1 ∧ g.2.1 = h.2.1 ∧ ∀ j, (j < 20 ∨ 21 < j) → g.2.2 j = h.2.2 j
theorem xs.rf {h : ai_H} : xs h h := ⟨rfl, rfl, fun _ _ => rfl⟩
theorem xs.trans {h g k : ai_H} (a : xs h g) (b : xs g k) : xs h k := ⟨b.1.trans a.1, b.2.1.trans a.2.1, fun j hj => (b.2.2 j hj).trans (a.2.2 j hj)⟩
theorem xs_of {h g : ai_H} {q : Nat} (m : g.1 = h.1) (s : g.2.1 = h.2.1) (o : ∀ j, j ≠ q → g.2.2 j = h.2.2 j) (hq : 20 ≤ q ∧ q ≤ 21) : xs h g := ⟨m, s, fun j hj => o j (by omega)⟩
theorem xs.xe {h g : ai_H} (a : xs h g) : xe h g := ⟨a.1, a.2.1, fun j hj => a.2.2 j (by omega)⟩
def xd (h g : ai_H) : Prop := g.1 = h.1 ∧ g.2.1 = h.2.1 ∧ ∀ j, (j < 16 ∨ 19 < j) → g.2.2 j = h.2.2 j
theorem xd.rf {h : ai_H} : xd h h := ⟨rfl, rfl, fun _ _ => rfl⟩
theorem xd.trans {h g k : ai_H} (a : xd h g) (b : xd g k) : xd h k := ⟨b.1.trans a.1, b.2.1.trans a.2.1, fun j hj => (b.2.2 j hj).trans (a.2.2 j hj)⟩
theorem xd_of {h g : ai_H} {q : Nat} (m : g.1 = h.1) (s : g.2.1 = h.2.1) (o : ∀ j, j ≠ q → g.2.2 j = h.2.2 j) (hq : 16 ≤ q ∧ q ≤ 19) : xd h g := ⟨m, s, fun j hj => o j (by omega)⟩
theorem xd.xe {h g : ai_H} (a : xd h g) : xe h g := ⟨a.1, a.2.1, fun j hj => a.2.2 j (by omega)⟩
theorem bk_lt {h : ai_H} {q j : Nat} {B : Bk} (hB : bk_at h q B) (hj : j ≤ q + 10) : j < h.1 := Nat.lt_of_le_of_lt hj hB.1
def cl_fs (S : Md) : List Value := [.int (S.1 0), .ref 23, .ref 24, .ref 25, .ref 26, .ref 27, .ref 28, .ref 29, .ref 30, .ref 31, .ref 32, .ref 33, .ref 34]
def cl_tab : List (Nat × Nat × Nat) := [(1, 0, 80), (2, 0, 400), (3, 0, 400), (4, 0, 400), (5, 0, 400), (6, 0, 400), (7, 0, 400), (8, 0, 400), (9, 0, 400), (10, 0, 400), (11, 1, 400), (12, 0, 400)]
abbrev cl_at (h : ai_H) (S : Md) : Prop := mo_at 22 2 12 cl_fs cl_tab h S
theorem cl_nd : ∀ d : Nat, d < 12 → ∀ e : Nat, e < 12 → (cl_tab.map (·.1))[d]? = (cl_tab.map (·.1))[e]? → d = e := by decide +kernel
def rp_fs (S : Md) : List Value := [.ref 295, .ref 296, .ref 297]
def rp_tab : List (Nat × Nat × Nat) := [(0, 1, 16), (1, 0, 16), (2, 1, 16)]
abbrev rp_at (h : ai_H) (S : Md) : Prop := mo_at 294 6 3 rp_fs rp_tab h S
theorem rp_nd : ∀ d : Nat, d < 3 → ∀ e : Nat, e < 3 → (rp_tab.map (·.1))[d]? = (rp_tab.map (·.1))[e]? → d = e := by decide +kernel
def bo_fs (S : Md) : List Value := [.int (S.1 0), .ref 299, .ref 300]
def bo_tab : List (Nat × Nat × Nat) := [(1, 0, 16), (2, 0, 16)]
abbrev bo_at (h : ai_H) (S : Md) : Prop := mo_at 298 0 2 bo_fs bo_tab h S
theorem bo_nd : ∀ d : Nat, d < 2 → ∀ e : Nat, e < 2 → (bo_tab.map (·.1))[d]? = (bo_tab.map (·.1))[e]? → d = e := by decide +kernel
def sc_fs (S : Md) : List Value := [.ref 21, .int (S.1 1)]
def sc_tab : List (Nat × Nat × Nat) := [(0, 1, 64)]
abbrev sc_at (h : ai_H) (S : Md) : Prop := mo_at 20 7 1 sc_fs sc_tab h S
theorem sc_nd : ∀ d : Nat, d < 1 → ∀ e : Nat, e < 1 → (sc_tab.map (·.1))[d]? = (sc_tab.map (·.1))[e]? → d = e := by decide +kernel
