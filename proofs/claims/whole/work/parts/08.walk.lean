/-! 08: the rules as a walk uses them: a new heap comes with what it holds -/
theorem ai_ne {h : ai_H} {t a : Nat} {x y : va_E} (h1 : h.2.2 t = x) (h2 : h.2.2 a = y) (hxy : x ≠ y) : t ≠ a := fun z => hxy (by rw [← h1, ← h2, z])
theorem ai_set_get {h : ai_H} {q : Nat} {e : va_E} : (ai_set h q e).2.2 q = e := by simp [ai_set, va_up]
theorem ai_set_ne {h : ai_H} {q j : Nat} {e : va_E} (hj : j ≠ q) : (ai_set h q e).2.2 j = h.2.2 j := by simp [ai_set, va_up, hj]
theorem ai_add_get {h : ai_H} {N : Nat} {e : va_E} : (ai_add h N e).2.2 h.1 = e := by simp [ai_add, va_up]
theorem ai_add_ne {h : ai_H} {N j : Nat} {e : va_E} (hj : j ≠ h.1) : (ai_add h N e).2.2 j = h.2.2 j := by simp [ai_add, va_up, hj]
theorem ai_set_id {h : ai_H} {q : Nat} {e : va_E} (he : h.2.2 q = e) : ai_set h q e = h := by
  obtain ⟨a, b, f⟩ := h
  have : va_up f q e = f := by
    funext j
    by_cases hj : j = q
    · subst hj; simp [va_up]; exact he.symm
    · simp [va_up, hj]
  simp [ai_set, this]
theorem ai_set_set {h : ai_H} {q : Nat} {e e' : va_E} : ai_set (ai_set h q e) q e' = ai_set h q e' := by
  obtain ⟨a, b, f⟩ := h
  have : va_up (va_up f q e) q e' = va_up f q e' := by
    funext j
    by_cases hj : j = q
    · simp [va_up, hj]
    · simp [va_up, hj]
  simp [ai_set, this]
theorem ai_set_comm {h : ai_H} {q p : Nat} {e e' : va_E} (hne : q ≠ p) : ai_set (ai_set h q e) p e' = ai_set (ai_set h p e') q e := by
  obtain ⟨a, b, f⟩ := h
  have : va_up (va_up f q e) p e' = va_up (va_up f p e') q e := by
    funext j
    by_cases hj : j = p
    · subst hj; simp [va_up, Ne.symm hne]
    · by_cases hq : j = q
      · subst hq; simp [va_up, hne]
      · simp [va_up, hj, hq]
  simp [ai_set, this]
section WALK
variable {M : ai_M} {pc : Nat} {ls st : List Value} {h h' : ai_H} {r : Option Value}
theorem wk_putf {idx ci k q : Nat} {fs fs' : List Value} {v : Value} (d : decode M.2.1 pc = .ok (.putfield idx, 3)) (F : ai_F M.1.cls idx ci k false) (hq : q < h.1) (he : h.2.2 q = .inr (ci, fs)) (hfit : ai_fit (ai_ty ci k) v = true) (hlen : k < fs.length) (hs : fs.set k v = fs') (kk : ∀ h1 : ai_H, h1.1 = h.1 → h1.2.1 = h.2.1 → h1.2.2 q = .inr (ci, fs') → (∀ j, j ≠ q → h1.2.2 j = h.2.2 j) → h1 = ai_set h q (.inr (ci, fs')) → ai_R M (pc + 3) ls st h1 r h') : ai_R M pc ls (v :: .ref q :: st) h r h' :=
  rs_putf d F hq he hfit hlen (by rw [hs]; exact kk _ rfl rfl ai_set_get (fun _ => ai_set_ne) rfl)
theorem wk_putF {idx ci k q : Nat} {fs fs' : List Value} {v : Value} (d : decode M.2.1 pc = .ok (.putfield idx, 3)) (F : ai_FF M.1.cls idx ci k) (hi : M.1.name = "<init>") (hq : q < h.1) (he : h.2.2 q = .inr (ci, fs)) (hfit : ai_fit (ai_ty ci k) v = true) (hlen : k < fs.length) (hs : fs.set k v = fs') (kk : ∀ h1 : ai_H, h1.1 = h.1 → h1.2.1 = h.2.1 → h1.2.2 q = .inr (ci, fs') → (∀ j, j ≠ q → h1.2.2 j = h.2.2 j) → h1 = ai_set h q (.inr (ci, fs')) → ai_R M (pc + 3) ls st h1 r h') : ai_R M pc ls (v :: .ref q :: st) h r h' :=
  rs_putF d F hi hq he hfit hlen (by rw [hs]; exact kk _ rfl rfl ai_set_get (fun _ => ai_set_ne) rfl)
theorem wk_iast {q n : Nat} {f : Nat → Int32} {i x : Int32} (d : decode M.2.1 pc = .ok (.iastore, 1)) (hq : q < h.1) (he : h.2.2 q = .inl (0, n, .inl f)) (hin : vp_in i n) (kk : ∀ h1 : ai_H, h1.1 = h.1 → h1.2.1 = h.2.1 → h1.2.2 q = .inl (0, n, .inl (upd f i.toNatClampNeg x)) → (∀ j, j ≠ q → h1.2.2 j = h.2.2 j) → h1 = ai_set h q (.inl (0, n, .inl (upd f i.toNatClampNeg x))) → ai_R M (pc + 1) ls st h1 r h') : ai_R M pc ls (.int x :: .int i :: .ref q :: st) h r h' :=
  rs_iast d hq he hin (kk _ rfl rfl ai_set_get (fun _ => ai_set_ne) rfl)
theorem wk_last {q n : Nat} {f : Nat → Int64} {i : Int32} {x : Int64} (d : decode M.2.1 pc = .ok (.lastore, 1)) (hq : q < h.1) (he : h.2.2 q = .inl (1, n, .inr (.inl f))) (hin : vp_in i n) (kk : ∀ h1 : ai_H, h1.1 = h.1 → h1.2.1 = h.2.1 → h1.2.2 q = .inl (1, n, .inr (.inl (vp_updL f i.toNatClampNeg x))) → (∀ j, j ≠ q → h1.2.2 j = h.2.2 j) → h1 = ai_set h q (.inl (1, n, .inr (.inl (vp_updL f i.toNatClampNeg x)))) → ai_R M (pc + 1) ls st h1 r h') : ai_R M pc ls (.long x :: .int i :: .ref q :: st) h r h' :=
  rs_last d hq he hin (kk _ rfl rfl ai_set_get (fun _ => ai_set_ne) rfl)
theorem wk_zast {q n : Nat} {f : Nat → Int32} {i x : Int32} (d : decode M.2.1 pc = .ok (.bastore, 1)) (hq : q < h.1) (he : h.2.2 q = .inl (2, n, .inl f)) (hin : vp_in i n) (kk : ∀ h1 : ai_H, h1.1 = h.1 → h1.2.1 = h.2.1 → h1.2.2 q = .inl (2, n, .inl (upd f i.toNatClampNeg (vp_nar .boolean x))) → (∀ j, j ≠ q → h1.2.2 j = h.2.2 j) → h1 = ai_set h q (.inl (2, n, .inl (upd f i.toNatClampNeg (vp_nar .boolean x)))) → ai_R M (pc + 1) ls st h1 r h') : ai_R M pc ls (.int x :: .int i :: .ref q :: st) h r h' :=
  rs_zast d hq he hin (kk _ rfl rfl ai_set_get (fun _ => ai_set_ne) rfl)
theorem wk_bast {q n : Nat} {f : Nat → Int32} {i x : Int32} (d : decode M.2.1 pc = .ok (.bastore, 1)) (hq : q < h.1) (he : h.2.2 q = .inl (3, n, .inl f)) (hin : vp_in i n) (kk : ∀ h1 : ai_H, h1.1 = h.1 → h1.2.1 = h.2.1 → h1.2.2 q = .inl (3, n, .inl (upd f i.toNatClampNeg (vp_nar .byte x))) → (∀ j, j ≠ q → h1.2.2 j = h.2.2 j) → h1 = ai_set h q (.inl (3, n, .inl (upd f i.toNatClampNeg (vp_nar .byte x)))) → ai_R M (pc + 1) ls st h1 r h') : ai_R M pc ls (.int x :: .int i :: .ref q :: st) h r h' :=
  rs_bast d hq he hin (kk _ rfl rfl ai_set_get (fun _ => ai_set_ne) rfl)
theorem wk_aast {k q n ci v : Nat} {C : String} {T : u_T} {N : Nat} {vs : List Value} {f : Nat → Option Nat} {i : Int32} (d : decode M.2.1 pc = .ok (.aastore, 1)) (hk : ∀ cK : Nat → Nat, (ai_tys cK)[k]? = some (cK k, .object C)) (hc : ai_cl[ci]? = some (C, T, N)) (hq : q < h.1) (he : h.2.2 q = .inl (k, n, .inr (.inr (.inr (.inr f))))) (hv : v < h.1) (hev : h.2.2 v = .inr (ci, vs)) (hin : vp_in i n) (kk : ∀ h1 : ai_H, h1.1 = h.1 → h1.2.1 = h.2.1 → h1.2.2 q = .inl (k, n, .inr (.inr (.inr (.inr (va_up f i.toNatClampNeg (some v)))))) → (∀ j, j ≠ q → h1.2.2 j = h.2.2 j) → h1 = ai_set h q (.inl (k, n, .inr (.inr (.inr (.inr (va_up f i.toNatClampNeg (some v))))))) → ai_R M (pc + 1) ls st h1 r h') : ai_R M pc ls (.ref v :: .int i :: .ref q :: st) h r h' :=
  rs_aast d hk hc hq he hv hev hin (kk _ rfl rfl ai_set_get (fun _ => ai_set_ne) rfl)
theorem wk_iret {x : Int32} (d : decode M.2.1 pc = .ok (.ireturn, 1)) (ht : M.2.2.2.1 = some .int) (hr : r = some (.int x)) (hh : h' = h) : ai_R M pc ls [.int x] h r h' := by
  subst hr; subst hh; exact rs_iret d ht
theorem wk_zret {x : Int32} (d : decode M.2.1 pc = .ok (.ireturn, 1)) (ht : M.2.2.2.1 = some .boolean) (hx : x = 0 ∨ x = 1) (hr : r = some (.int x)) (hh : h' = h) : ai_R M pc ls [.int x] h r h' := by
  subst hr; subst hh; exact rs_zret d ht hx
theorem wk_lret {x : Int64} (d : decode M.2.1 pc = .ok (.lreturn, 1)) (ht : M.2.2.2.1 = some .long) (hr : r = some (.long x)) (hh : h' = h) : ai_R M pc ls [.long x] h r h' := by
  subst hr; subst hh; exact rs_lret d ht
theorem wk_vret (d : decode M.2.1 pc = .ok (.return_, 1)) (ht : M.2.2.2.1 = none) (hr : r = none) (hh : h' = h) : ai_R M pc ls [] h r h' := by
  subst hr; subst hh; exact rs_vret d ht
theorem wk_aret {v : Value} {n : String} (d : decode M.2.1 pc = .ok (.areturn, 1)) (ht : M.2.2.2.1 = some (.object n)) (hv : v = .null ∨ (∃ a, v = .ref a) ∨ ∃ a, v = .retAddr a) (hr : r = some v) (hh : h' = h) : ai_R M pc ls [v] h r h' := by
  subst hr; subst hh; exact rs_aret d ht hv
end WALK
section PLACES
variable {M : ai_M} {pc : Nat} {st : List Value} {h h' : ai_H} {r : Option Value}
theorem wk_istn0 {a0 : Value} {l : List Value} {x : Int32} (d : decode M.2.1 pc = .ok (.istore_n 0, 1)) (hn : 0 < M.2.2.1) (kk : ai_R M (pc + 1) (.int x :: l) st h r h') : ai_R M pc (a0 :: l) (.int x :: st) h r h' :=
  rs_istore_n d hn rfl kk
theorem wk_ist0 {a0 : Value} {l : List Value} {x : Int32} (d : decode M.2.1 pc = .ok (.istore 0, 2)) (hn : 0 < M.2.2.1) (kk : ai_R M (pc + 2) (.int x :: l) st h r h') : ai_R M pc (a0 :: l) (.int x :: st) h r h' :=
  rs_istore d hn rfl kk
theorem wk_lstn0 {a0 b : Value} {l : List Value} {x : Int64} (d : decode M.2.1 pc = .ok (.lstore_n 0, 1)) (hn : 0 + 1 < M.2.2.1) (kk : ai_R M (pc + 1) (.long x :: .float 0 :: l) st h r h') : ai_R M pc (a0 :: b :: l) (.long x :: st) h r h' :=
  rs_lstore_n d hn rfl kk
theorem wk_lst0 {a0 b : Value} {l : List Value} {x : Int64} (d : decode M.2.1 pc = .ok (.lstore 0, 2)) (hn : 0 + 1 < M.2.2.1) (kk : ai_R M (pc + 2) (.long x :: .float 0 :: l) st h r h') : ai_R M pc (a0 :: b :: l) (.long x :: st) h r h' :=
  rs_lstore d hn rfl kk
theorem wk_astn0 {a0 : Value} {l : List Value} {x : Nat} (d : decode M.2.1 pc = .ok (.astore_n 0, 1)) (hn : 0 < M.2.2.1) (kk : ai_R M (pc + 1) (.ref x :: l) st h r h') : ai_R M pc (a0 :: l) (.ref x :: st) h r h' :=
  rs_astore_n d hn rfl kk
theorem wk_ast0 {a0 : Value} {l : List Value} {x : Nat} (d : decode M.2.1 pc = .ok (.astore 0, 2)) (hn : 0 < M.2.2.1) (kk : ai_R M (pc + 2) (.ref x :: l) st h r h') : ai_R M pc (a0 :: l) (.ref x :: st) h r h' :=
  rs_astore d hn rfl kk
theorem wk_sstn0 {a0 : Value} {l : List Value} {x : Nat} (d : decode M.2.1 pc = .ok (.astore_n 0, 1)) (hn : 0 < M.2.2.1) (kk : ai_R M (pc + 1) (.retAddr x :: l) st h r h') : ai_R M pc (a0 :: l) (.retAddr x :: st) h r h' :=
  rs_astore_nS d hn rfl kk
theorem wk_sst0 {a0 : Value} {l : List Value} {x : Nat} (d : decode M.2.1 pc = .ok (.astore 0, 2)) (hn : 0 < M.2.2.1) (kk : ai_R M (pc + 2) (.retAddr x :: l) st h r h') : ai_R M pc (a0 :: l) (.retAddr x :: st) h r h' :=
  rs_astoreS d hn rfl kk
theorem wk_nstn0 {a0 : Value} {l : List Value}  (d : decode M.2.1 pc = .ok (.astore_n 0, 1)) (hn : 0 < M.2.2.1) (kk : ai_R M (pc + 1) (.null :: l) st h r h') : ai_R M pc (a0 :: l) (.null :: st) h r h' :=
  rs_astore_nN d hn rfl kk
theorem wk_nst0 {a0 : Value} {l : List Value}  (d : decode M.2.1 pc = .ok (.astore 0, 2)) (hn : 0 < M.2.2.1) (kk : ai_R M (pc + 2) (.null :: l) st h r h') : ai_R M pc (a0 :: l) (.null :: st) h r h' :=
  rs_astoreN d hn rfl kk
theorem wk_iinc0 {l : List Value} {n : Int} {x v : Int32} (d : decode M.2.1 pc = .ok (.iinc 0 n, 3)) (hn : 0 < M.2.2.1) (hv : x + Int32.ofInt n = v) (kk : ai_R M (pc + 3) (.int v :: l) st h r h') : ai_R M pc (.int x :: l) st h r h' :=
  rs_iinc d hn rfl hv rfl kk
theorem wk_istn1 {a0 a1 : Value} {l : List Value} {x : Int32} (d : decode M.2.1 pc = .ok (.istore_n 1, 1)) (hn : 1 < M.2.2.1) (hp : ai_kill a0 = a0) (kk : ai_R M (pc + 1) (a0 :: .int x :: l) st h r h') : ai_R M pc (a0 :: a1 :: l) (.int x :: st) h r h' :=
  rs_istore_n d hn (by first | rfl | (simp [ai_s1, ai_s2, hp]; done)) kk
theorem wk_ist1 {a0 a1 : Value} {l : List Value} {x : Int32} (d : decode M.2.1 pc = .ok (.istore 1, 2)) (hn : 1 < M.2.2.1) (hp : ai_kill a0 = a0) (kk : ai_R M (pc + 2) (a0 :: .int x :: l) st h r h') : ai_R M pc (a0 :: a1 :: l) (.int x :: st) h r h' :=
  rs_istore d hn (by first | rfl | (simp [ai_s1, ai_s2, hp]; done)) kk
theorem wk_lstn1 {a0 a1 b : Value} {l : List Value} {x : Int64} (d : decode M.2.1 pc = .ok (.lstore_n 1, 1)) (hn : 1 + 1 < M.2.2.1) (hp : ai_kill a0 = a0) (kk : ai_R M (pc + 1) (a0 :: .long x :: .float 0 :: l) st h r h') : ai_R M pc (a0 :: a1 :: b :: l) (.long x :: st) h r h' :=
  rs_lstore_n d hn (by first | rfl | (simp [ai_s1, ai_s2, hp]; done)) kk
theorem wk_lst1 {a0 a1 b : Value} {l : List Value} {x : Int64} (d : decode M.2.1 pc = .ok (.lstore 1, 2)) (hn : 1 + 1 < M.2.2.1) (hp : ai_kill a0 = a0) (kk : ai_R M (pc + 2) (a0 :: .long x :: .float 0 :: l) st h r h') : ai_R M pc (a0 :: a1 :: b :: l) (.long x :: st) h r h' :=
  rs_lstore d hn (by first | rfl | (simp [ai_s1, ai_s2, hp]; done)) kk
theorem wk_astn1 {a0 a1 : Value} {l : List Value} {x : Nat} (d : decode M.2.1 pc = .ok (.astore_n 1, 1)) (hn : 1 < M.2.2.1) (hp : ai_kill a0 = a0) (kk : ai_R M (pc + 1) (a0 :: .ref x :: l) st h r h') : ai_R M pc (a0 :: a1 :: l) (.ref x :: st) h r h' :=
  rs_astore_n d hn (by first | rfl | (simp [ai_s1, ai_s2, hp]; done)) kk
theorem wk_ast1 {a0 a1 : Value} {l : List Value} {x : Nat} (d : decode M.2.1 pc = .ok (.astore 1, 2)) (hn : 1 < M.2.2.1) (hp : ai_kill a0 = a0) (kk : ai_R M (pc + 2) (a0 :: .ref x :: l) st h r h') : ai_R M pc (a0 :: a1 :: l) (.ref x :: st) h r h' :=
  rs_astore d hn (by first | rfl | (simp [ai_s1, ai_s2, hp]; done)) kk
theorem wk_sstn1 {a0 a1 : Value} {l : List Value} {x : Nat} (d : decode M.2.1 pc = .ok (.astore_n 1, 1)) (hn : 1 < M.2.2.1) (hp : ai_kill a0 = a0) (kk : ai_R M (pc + 1) (a0 :: .retAddr x :: l) st h r h') : ai_R M pc (a0 :: a1 :: l) (.retAddr x :: st) h r h' :=
  rs_astore_nS d hn (by first | rfl | (simp [ai_s1, ai_s2, hp]; done)) kk
theorem wk_sst1 {a0 a1 : Value} {l : List Value} {x : Nat} (d : decode M.2.1 pc = .ok (.astore 1, 2)) (hn : 1 < M.2.2.1) (hp : ai_kill a0 = a0) (kk : ai_R M (pc + 2) (a0 :: .retAddr x :: l) st h r h') : ai_R M pc (a0 :: a1 :: l) (.retAddr x :: st) h r h' :=
  rs_astoreS d hn (by first | rfl | (simp [ai_s1, ai_s2, hp]; done)) kk
theorem wk_nstn1 {a0 a1 : Value} {l : List Value}  (d : decode M.2.1 pc = .ok (.astore_n 1, 1)) (hn : 1 < M.2.2.1) (hp : ai_kill a0 = a0) (kk : ai_R M (pc + 1) (a0 :: .null :: l) st h r h') : ai_R M pc (a0 :: a1 :: l) (.null :: st) h r h' :=
  rs_astore_nN d hn (by first | rfl | (simp [ai_s1, ai_s2, hp]; done)) kk
theorem wk_nst1 {a0 a1 : Value} {l : List Value}  (d : decode M.2.1 pc = .ok (.astore 1, 2)) (hn : 1 < M.2.2.1) (hp : ai_kill a0 = a0) (kk : ai_R M (pc + 2) (a0 :: .null :: l) st h r h') : ai_R M pc (a0 :: a1 :: l) (.null :: st) h r h' :=
  rs_astoreN d hn (by first | rfl | (simp [ai_s1, ai_s2, hp]; done)) kk
theorem wk_iinc1 {a0 : Value} {l : List Value} {n : Int} {x v : Int32} (d : decode M.2.1 pc = .ok (.iinc 1 n, 3)) (hn : 1 < M.2.2.1) (hp : ai_kill a0 = a0) (hv : x + Int32.ofInt n = v) (kk : ai_R M (pc + 3) (a0 :: .int v :: l) st h r h') : ai_R M pc (a0 :: .int x :: l) st h r h' :=
  rs_iinc d hn rfl hv (by first | rfl | (simp [ai_s1, hp]; done)) kk
theorem wk_istn2 {a0 a1 a2 : Value} {l : List Value} {x : Int32} (d : decode M.2.1 pc = .ok (.istore_n 2, 1)) (hn : 2 < M.2.2.1) (hp : ai_kill a1 = a1) (kk : ai_R M (pc + 1) (a0 :: a1 :: .int x :: l) st h r h') : ai_R M pc (a0 :: a1 :: a2 :: l) (.int x :: st) h r h' :=
  rs_istore_n d hn (by first | rfl | (simp [ai_s1, ai_s2, hp]; done)) kk
theorem wk_ist2 {a0 a1 a2 : Value} {l : List Value} {x : Int32} (d : decode M.2.1 pc = .ok (.istore 2, 2)) (hn : 2 < M.2.2.1) (hp : ai_kill a1 = a1) (kk : ai_R M (pc + 2) (a0 :: a1 :: .int x :: l) st h r h') : ai_R M pc (a0 :: a1 :: a2 :: l) (.int x :: st) h r h' :=
  rs_istore d hn (by first | rfl | (simp [ai_s1, ai_s2, hp]; done)) kk
theorem wk_lstn2 {a0 a1 a2 b : Value} {l : List Value} {x : Int64} (d : decode M.2.1 pc = .ok (.lstore_n 2, 1)) (hn : 2 + 1 < M.2.2.1) (hp : ai_kill a1 = a1) (kk : ai_R M (pc + 1) (a0 :: a1 :: .long x :: .float 0 :: l) st h r h') : ai_R M pc (a0 :: a1 :: a2 :: b :: l) (.long x :: st) h r h' :=
  rs_lstore_n d hn (by first | rfl | (simp [ai_s1, ai_s2, hp]; done)) kk
theorem wk_lst2 {a0 a1 a2 b : Value} {l : List Value} {x : Int64} (d : decode M.2.1 pc = .ok (.lstore 2, 2)) (hn : 2 + 1 < M.2.2.1) (hp : ai_kill a1 = a1) (kk : ai_R M (pc + 2) (a0 :: a1 :: .long x :: .float 0 :: l) st h r h') : ai_R M pc (a0 :: a1 :: a2 :: b :: l) (.long x :: st) h r h' :=
  rs_lstore d hn (by first | rfl | (simp [ai_s1, ai_s2, hp]; done)) kk
theorem wk_astn2 {a0 a1 a2 : Value} {l : List Value} {x : Nat} (d : decode M.2.1 pc = .ok (.astore_n 2, 1)) (hn : 2 < M.2.2.1) (hp : ai_kill a1 = a1) (kk : ai_R M (pc + 1) (a0 :: a1 :: .ref x :: l) st h r h') : ai_R M pc (a0 :: a1 :: a2 :: l) (.ref x :: st) h r h' :=
  rs_astore_n d hn (by first | rfl | (simp [ai_s1, ai_s2, hp]; done)) kk
theorem wk_ast2 {a0 a1 a2 : Value} {l : List Value} {x : Nat} (d : decode M.2.1 pc = .ok (.astore 2, 2)) (hn : 2 < M.2.2.1) (hp : ai_kill a1 = a1) (kk : ai_R M (pc + 2) (a0 :: a1 :: .ref x :: l) st h r h') : ai_R M pc (a0 :: a1 :: a2 :: l) (.ref x :: st) h r h' :=
  rs_astore d hn (by first | rfl | (simp [ai_s1, ai_s2, hp]; done)) kk
theorem wk_sstn2 {a0 a1 a2 : Value} {l : List Value} {x : Nat} (d : decode M.2.1 pc = .ok (.astore_n 2, 1)) (hn : 2 < M.2.2.1) (hp : ai_kill a1 = a1) (kk : ai_R M (pc + 1) (a0 :: a1 :: .retAddr x :: l) st h r h') : ai_R M pc (a0 :: a1 :: a2 :: l) (.retAddr x :: st) h r h' :=
  rs_astore_nS d hn (by first | rfl | (simp [ai_s1, ai_s2, hp]; done)) kk
theorem wk_sst2 {a0 a1 a2 : Value} {l : List Value} {x : Nat} (d : decode M.2.1 pc = .ok (.astore 2, 2)) (hn : 2 < M.2.2.1) (hp : ai_kill a1 = a1) (kk : ai_R M (pc + 2) (a0 :: a1 :: .retAddr x :: l) st h r h') : ai_R M pc (a0 :: a1 :: a2 :: l) (.retAddr x :: st) h r h' :=
  rs_astoreS d hn (by first | rfl | (simp [ai_s1, ai_s2, hp]; done)) kk
theorem wk_nstn2 {a0 a1 a2 : Value} {l : List Value}  (d : decode M.2.1 pc = .ok (.astore_n 2, 1)) (hn : 2 < M.2.2.1) (hp : ai_kill a1 = a1) (kk : ai_R M (pc + 1) (a0 :: a1 :: .null :: l) st h r h') : ai_R M pc (a0 :: a1 :: a2 :: l) (.null :: st) h r h' :=
  rs_astore_nN d hn (by first | rfl | (simp [ai_s1, ai_s2, hp]; done)) kk
theorem wk_nst2 {a0 a1 a2 : Value} {l : List Value}  (d : decode M.2.1 pc = .ok (.astore 2, 2)) (hn : 2 < M.2.2.1) (hp : ai_kill a1 = a1) (kk : ai_R M (pc + 2) (a0 :: a1 :: .null :: l) st h r h') : ai_R M pc (a0 :: a1 :: a2 :: l) (.null :: st) h r h' :=
  rs_astoreN d hn (by first | rfl | (simp [ai_s1, ai_s2, hp]; done)) kk
theorem wk_iinc2 {a0 a1 : Value} {l : List Value} {n : Int} {x v : Int32} (d : decode M.2.1 pc = .ok (.iinc 2 n, 3)) (hn : 2 < M.2.2.1) (hp : ai_kill a1 = a1) (hv : x + Int32.ofInt n = v) (kk : ai_R M (pc + 3) (a0 :: a1 :: .int v :: l) st h r h') : ai_R M pc (a0 :: a1 :: .int x :: l) st h r h' :=
  rs_iinc d hn rfl hv (by first | rfl | (simp [ai_s1, hp]; done)) kk
theorem wk_istn3 {a0 a1 a2 a3 : Value} {l : List Value} {x : Int32} (d : decode M.2.1 pc = .ok (.istore_n 3, 1)) (hn : 3 < M.2.2.1) (hp : ai_kill a2 = a2) (kk : ai_R M (pc + 1) (a0 :: a1 :: a2 :: .int x :: l) st h r h') : ai_R M pc (a0 :: a1 :: a2 :: a3 :: l) (.int x :: st) h r h' :=
  rs_istore_n d hn (by first | rfl | (simp [ai_s1, ai_s2, hp]; done)) kk
theorem wk_ist3 {a0 a1 a2 a3 : Value} {l : List Value} {x : Int32} (d : decode M.2.1 pc = .ok (.istore 3, 2)) (hn : 3 < M.2.2.1) (hp : ai_kill a2 = a2) (kk : ai_R M (pc + 2) (a0 :: a1 :: a2 :: .int x :: l) st h r h') : ai_R M pc (a0 :: a1 :: a2 :: a3 :: l) (.int x :: st) h r h' :=
  rs_istore d hn (by first | rfl | (simp [ai_s1, ai_s2, hp]; done)) kk
theorem wk_lstn3 {a0 a1 a2 a3 b : Value} {l : List Value} {x : Int64} (d : decode M.2.1 pc = .ok (.lstore_n 3, 1)) (hn : 3 + 1 < M.2.2.1) (hp : ai_kill a2 = a2) (kk : ai_R M (pc + 1) (a0 :: a1 :: a2 :: .long x :: .float 0 :: l) st h r h') : ai_R M pc (a0 :: a1 :: a2 :: a3 :: b :: l) (.long x :: st) h r h' :=
  rs_lstore_n d hn (by first | rfl | (simp [ai_s1, ai_s2, hp]; done)) kk
theorem wk_lst3 {a0 a1 a2 a3 b : Value} {l : List Value} {x : Int64} (d : decode M.2.1 pc = .ok (.lstore 3, 2)) (hn : 3 + 1 < M.2.2.1) (hp : ai_kill a2 = a2) (kk : ai_R M (pc + 2) (a0 :: a1 :: a2 :: .long x :: .float 0 :: l) st h r h') : ai_R M pc (a0 :: a1 :: a2 :: a3 :: b :: l) (.long x :: st) h r h' :=
  rs_lstore d hn (by first | rfl | (simp [ai_s1, ai_s2, hp]; done)) kk
theorem wk_astn3 {a0 a1 a2 a3 : Value} {l : List Value} {x : Nat} (d : decode M.2.1 pc = .ok (.astore_n 3, 1)) (hn : 3 < M.2.2.1) (hp : ai_kill a2 = a2) (kk : ai_R M (pc + 1) (a0 :: a1 :: a2 :: .ref x :: l) st h r h') : ai_R M pc (a0 :: a1 :: a2 :: a3 :: l) (.ref x :: st) h r h' :=
  rs_astore_n d hn (by first | rfl | (simp [ai_s1, ai_s2, hp]; done)) kk
theorem wk_ast3 {a0 a1 a2 a3 : Value} {l : List Value} {x : Nat} (d : decode M.2.1 pc = .ok (.astore 3, 2)) (hn : 3 < M.2.2.1) (hp : ai_kill a2 = a2) (kk : ai_R M (pc + 2) (a0 :: a1 :: a2 :: .ref x :: l) st h r h') : ai_R M pc (a0 :: a1 :: a2 :: a3 :: l) (.ref x :: st) h r h' :=
  rs_astore d hn (by first | rfl | (simp [ai_s1, ai_s2, hp]; done)) kk
theorem wk_sstn3 {a0 a1 a2 a3 : Value} {l : List Value} {x : Nat} (d : decode M.2.1 pc = .ok (.astore_n 3, 1)) (hn : 3 < M.2.2.1) (hp : ai_kill a2 = a2) (kk : ai_R M (pc + 1) (a0 :: a1 :: a2 :: .retAddr x :: l) st h r h') : ai_R M pc (a0 :: a1 :: a2 :: a3 :: l) (.retAddr x :: st) h r h' :=
  rs_astore_nS d hn (by first | rfl | (simp [ai_s1, ai_s2, hp]; done)) kk
theorem wk_sst3 {a0 a1 a2 a3 : Value} {l : List Value} {x : Nat} (d : decode M.2.1 pc = .ok (.astore 3, 2)) (hn : 3 < M.2.2.1) (hp : ai_kill a2 = a2) (kk : ai_R M (pc + 2) (a0 :: a1 :: a2 :: .retAddr x :: l) st h r h') : ai_R M pc (a0 :: a1 :: a2 :: a3 :: l) (.retAddr x :: st) h r h' :=
  rs_astoreS d hn (by first | rfl | (simp [ai_s1, ai_s2, hp]; done)) kk
theorem wk_nstn3 {a0 a1 a2 a3 : Value} {l : List Value}  (d : decode M.2.1 pc = .ok (.astore_n 3, 1)) (hn : 3 < M.2.2.1) (hp : ai_kill a2 = a2) (kk : ai_R M (pc + 1) (a0 :: a1 :: a2 :: .null :: l) st h r h') : ai_R M pc (a0 :: a1 :: a2 :: a3 :: l) (.null :: st) h r h' :=
  rs_astore_nN d hn (by first | rfl | (simp [ai_s1, ai_s2, hp]; done)) kk
theorem wk_nst3 {a0 a1 a2 a3 : Value} {l : List Value}  (d : decode M.2.1 pc = .ok (.astore 3, 2)) (hn : 3 < M.2.2.1) (hp : ai_kill a2 = a2) (kk : ai_R M (pc + 2) (a0 :: a1 :: a2 :: .null :: l) st h r h') : ai_R M pc (a0 :: a1 :: a2 :: a3 :: l) (.null :: st) h r h' :=
  rs_astoreN d hn (by first | rfl | (simp [ai_s1, ai_s2, hp]; done)) kk
theorem wk_iinc3 {a0 a1 a2 : Value} {l : List Value} {n : Int} {x v : Int32} (d : decode M.2.1 pc = .ok (.iinc 3 n, 3)) (hn : 3 < M.2.2.1) (hp : ai_kill a2 = a2) (hv : x + Int32.ofInt n = v) (kk : ai_R M (pc + 3) (a0 :: a1 :: a2 :: .int v :: l) st h r h') : ai_R M pc (a0 :: a1 :: a2 :: .int x :: l) st h r h' :=
  rs_iinc d hn rfl hv (by first | rfl | (simp [ai_s1, hp]; done)) kk
theorem wk_ist4 {a0 a1 a2 a3 a4 : Value} {l : List Value} {x : Int32} (d : decode M.2.1 pc = .ok (.istore 4, 2)) (hn : 4 < M.2.2.1) (hp : ai_kill a3 = a3) (kk : ai_R M (pc + 2) (a0 :: a1 :: a2 :: a3 :: .int x :: l) st h r h') : ai_R M pc (a0 :: a1 :: a2 :: a3 :: a4 :: l) (.int x :: st) h r h' :=
  rs_istore d hn (by first | rfl | (simp [ai_s1, ai_s2, hp]; done)) kk
theorem wk_lst4 {a0 a1 a2 a3 a4 b : Value} {l : List Value} {x : Int64} (d : decode M.2.1 pc = .ok (.lstore 4, 2)) (hn : 4 + 1 < M.2.2.1) (hp : ai_kill a3 = a3) (kk : ai_R M (pc + 2) (a0 :: a1 :: a2 :: a3 :: .long x :: .float 0 :: l) st h r h') : ai_R M pc (a0 :: a1 :: a2 :: a3 :: a4 :: b :: l) (.long x :: st) h r h' :=
  rs_lstore d hn (by first | rfl | (simp [ai_s1, ai_s2, hp]; done)) kk
theorem wk_ast4 {a0 a1 a2 a3 a4 : Value} {l : List Value} {x : Nat} (d : decode M.2.1 pc = .ok (.astore 4, 2)) (hn : 4 < M.2.2.1) (hp : ai_kill a3 = a3) (kk : ai_R M (pc + 2) (a0 :: a1 :: a2 :: a3 :: .ref x :: l) st h r h') : ai_R M pc (a0 :: a1 :: a2 :: a3 :: a4 :: l) (.ref x :: st) h r h' :=
  rs_astore d hn (by first | rfl | (simp [ai_s1, ai_s2, hp]; done)) kk
theorem wk_sst4 {a0 a1 a2 a3 a4 : Value} {l : List Value} {x : Nat} (d : decode M.2.1 pc = .ok (.astore 4, 2)) (hn : 4 < M.2.2.1) (hp : ai_kill a3 = a3) (kk : ai_R M (pc + 2) (a0 :: a1 :: a2 :: a3 :: .retAddr x :: l) st h r h') : ai_R M pc (a0 :: a1 :: a2 :: a3 :: a4 :: l) (.retAddr x :: st) h r h' :=
  rs_astoreS d hn (by first | rfl | (simp [ai_s1, ai_s2, hp]; done)) kk
theorem wk_nst4 {a0 a1 a2 a3 a4 : Value} {l : List Value}  (d : decode M.2.1 pc = .ok (.astore 4, 2)) (hn : 4 < M.2.2.1) (hp : ai_kill a3 = a3) (kk : ai_R M (pc + 2) (a0 :: a1 :: a2 :: a3 :: .null :: l) st h r h') : ai_R M pc (a0 :: a1 :: a2 :: a3 :: a4 :: l) (.null :: st) h r h' :=
  rs_astoreN d hn (by first | rfl | (simp [ai_s1, ai_s2, hp]; done)) kk
theorem wk_iinc4 {a0 a1 a2 a3 : Value} {l : List Value} {n : Int} {x v : Int32} (d : decode M.2.1 pc = .ok (.iinc 4 n, 3)) (hn : 4 < M.2.2.1) (hp : ai_kill a3 = a3) (hv : x + Int32.ofInt n = v) (kk : ai_R M (pc + 3) (a0 :: a1 :: a2 :: a3 :: .int v :: l) st h r h') : ai_R M pc (a0 :: a1 :: a2 :: a3 :: .int x :: l) st h r h' :=
  rs_iinc d hn rfl hv (by first | rfl | (simp [ai_s1, hp]; done)) kk
theorem wk_ist5 {a0 a1 a2 a3 a4 a5 : Value} {l : List Value} {x : Int32} (d : decode M.2.1 pc = .ok (.istore 5, 2)) (hn : 5 < M.2.2.1) (hp : ai_kill a4 = a4) (kk : ai_R M (pc + 2) (a0 :: a1 :: a2 :: a3 :: a4 :: .int x :: l) st h r h') : ai_R M pc (a0 :: a1 :: a2 :: a3 :: a4 :: a5 :: l) (.int x :: st) h r h' :=
  rs_istore d hn (by first | rfl | (simp [ai_s1, ai_s2, hp]; done)) kk
theorem wk_lst5 {a0 a1 a2 a3 a4 a5 b : Value} {l : List Value} {x : Int64} (d : decode M.2.1 pc = .ok (.lstore 5, 2)) (hn : 5 + 1 < M.2.2.1) (hp : ai_kill a4 = a4) (kk : ai_R M (pc + 2) (a0 :: a1 :: a2 :: a3 :: a4 :: .long x :: .float 0 :: l) st h r h') : ai_R M pc (a0 :: a1 :: a2 :: a3 :: a4 :: a5 :: b :: l) (.long x :: st) h r h' :=
  rs_lstore d hn (by first | rfl | (simp [ai_s1, ai_s2, hp]; done)) kk
theorem wk_ast5 {a0 a1 a2 a3 a4 a5 : Value} {l : List Value} {x : Nat} (d : decode M.2.1 pc = .ok (.astore 5, 2)) (hn : 5 < M.2.2.1) (hp : ai_kill a4 = a4) (kk : ai_R M (pc + 2) (a0 :: a1 :: a2 :: a3 :: a4 :: .ref x :: l) st h r h') : ai_R M pc (a0 :: a1 :: a2 :: a3 :: a4 :: a5 :: l) (.ref x :: st) h r h' :=
  rs_astore d hn (by first | rfl | (simp [ai_s1, ai_s2, hp]; done)) kk
theorem wk_sst5 {a0 a1 a2 a3 a4 a5 : Value} {l : List Value} {x : Nat} (d : decode M.2.1 pc = .ok (.astore 5, 2)) (hn : 5 < M.2.2.1) (hp : ai_kill a4 = a4) (kk : ai_R M (pc + 2) (a0 :: a1 :: a2 :: a3 :: a4 :: .retAddr x :: l) st h r h') : ai_R M pc (a0 :: a1 :: a2 :: a3 :: a4 :: a5 :: l) (.retAddr x :: st) h r h' :=
  rs_astoreS d hn (by first | rfl | (simp [ai_s1, ai_s2, hp]; done)) kk
theorem wk_nst5 {a0 a1 a2 a3 a4 a5 : Value} {l : List Value}  (d : decode M.2.1 pc = .ok (.astore 5, 2)) (hn : 5 < M.2.2.1) (hp : ai_kill a4 = a4) (kk : ai_R M (pc + 2) (a0 :: a1 :: a2 :: a3 :: a4 :: .null :: l) st h r h') : ai_R M pc (a0 :: a1 :: a2 :: a3 :: a4 :: a5 :: l) (.null :: st) h r h' :=
  rs_astoreN d hn (by first | rfl | (simp [ai_s1, ai_s2, hp]; done)) kk
theorem wk_iinc5 {a0 a1 a2 a3 a4 : Value} {l : List Value} {n : Int} {x v : Int32} (d : decode M.2.1 pc = .ok (.iinc 5 n, 3)) (hn : 5 < M.2.2.1) (hp : ai_kill a4 = a4) (hv : x + Int32.ofInt n = v) (kk : ai_R M (pc + 3) (a0 :: a1 :: a2 :: a3 :: a4 :: .int v :: l) st h r h') : ai_R M pc (a0 :: a1 :: a2 :: a3 :: a4 :: .int x :: l) st h r h' :=
  rs_iinc d hn rfl hv (by first | rfl | (simp [ai_s1, hp]; done)) kk
theorem wk_ist6 {a0 a1 a2 a3 a4 a5 a6 : Value} {l : List Value} {x : Int32} (d : decode M.2.1 pc = .ok (.istore 6, 2)) (hn : 6 < M.2.2.1) (hp : ai_kill a5 = a5) (kk : ai_R M (pc + 2) (a0 :: a1 :: a2 :: a3 :: a4 :: a5 :: .int x :: l) st h r h') : ai_R M pc (a0 :: a1 :: a2 :: a3 :: a4 :: a5 :: a6 :: l) (.int x :: st) h r h' :=
  rs_istore d hn (by first | rfl | (simp [ai_s1, ai_s2, hp]; done)) kk
theorem wk_lst6 {a0 a1 a2 a3 a4 a5 a6 b : Value} {l : List Value} {x : Int64} (d : decode M.2.1 pc = .ok (.lstore 6, 2)) (hn : 6 + 1 < M.2.2.1) (hp : ai_kill a5 = a5) (kk : ai_R M (pc + 2) (a0 :: a1 :: a2 :: a3 :: a4 :: a5 :: .long x :: .float 0 :: l) st h r h') : ai_R M pc (a0 :: a1 :: a2 :: a3 :: a4 :: a5 :: a6 :: b :: l) (.long x :: st) h r h' :=
  rs_lstore d hn (by first | rfl | (simp [ai_s1, ai_s2, hp]; done)) kk
theorem wk_ast6 {a0 a1 a2 a3 a4 a5 a6 : Value} {l : List Value} {x : Nat} (d : decode M.2.1 pc = .ok (.astore 6, 2)) (hn : 6 < M.2.2.1) (hp : ai_kill a5 = a5) (kk : ai_R M (pc + 2) (a0 :: a1 :: a2 :: a3 :: a4 :: a5 :: .ref x :: l) st h r h') : ai_R M pc (a0 :: a1 :: a2 :: a3 :: a4 :: a5 :: a6 :: l) (.ref x :: st) h r h' :=
  rs_astore d hn (by first | rfl | (simp [ai_s1, ai_s2, hp]; done)) kk
theorem wk_sst6 {a0 a1 a2 a3 a4 a5 a6 : Value} {l : List Value} {x : Nat} (d : decode M.2.1 pc = .ok (.astore 6, 2)) (hn : 6 < M.2.2.1) (hp : ai_kill a5 = a5) (kk : ai_R M (pc + 2) (a0 :: a1 :: a2 :: a3 :: a4 :: a5 :: .retAddr x :: l) st h r h') : ai_R M pc (a0 :: a1 :: a2 :: a3 :: a4 :: a5 :: a6 :: l) (.retAddr x :: st) h r h' :=
  rs_astoreS d hn (by first | rfl | (simp [ai_s1, ai_s2, hp]; done)) kk
theorem wk_nst6 {a0 a1 a2 a3 a4 a5 a6 : Value} {l : List Value}  (d : decode M.2.1 pc = .ok (.astore 6, 2)) (hn : 6 < M.2.2.1) (hp : ai_kill a5 = a5) (kk : ai_R M (pc + 2) (a0 :: a1 :: a2 :: a3 :: a4 :: a5 :: .null :: l) st h r h') : ai_R M pc (a0 :: a1 :: a2 :: a3 :: a4 :: a5 :: a6 :: l) (.null :: st) h r h' :=
  rs_astoreN d hn (by first | rfl | (simp [ai_s1, ai_s2, hp]; done)) kk
theorem wk_iinc6 {a0 a1 a2 a3 a4 a5 : Value} {l : List Value} {n : Int} {x v : Int32} (d : decode M.2.1 pc = .ok (.iinc 6 n, 3)) (hn : 6 < M.2.2.1) (hp : ai_kill a5 = a5) (hv : x + Int32.ofInt n = v) (kk : ai_R M (pc + 3) (a0 :: a1 :: a2 :: a3 :: a4 :: a5 :: .int v :: l) st h r h') : ai_R M pc (a0 :: a1 :: a2 :: a3 :: a4 :: a5 :: .int x :: l) st h r h' :=
  rs_iinc d hn rfl hv (by first | rfl | (simp [ai_s1, hp]; done)) kk
theorem wk_ist7 {a0 a1 a2 a3 a4 a5 a6 a7 : Value} {l : List Value} {x : Int32} (d : decode M.2.1 pc = .ok (.istore 7, 2)) (hn : 7 < M.2.2.1) (hp : ai_kill a6 = a6) (kk : ai_R M (pc + 2) (a0 :: a1 :: a2 :: a3 :: a4 :: a5 :: a6 :: .int x :: l) st h r h') : ai_R M pc (a0 :: a1 :: a2 :: a3 :: a4 :: a5 :: a6 :: a7 :: l) (.int x :: st) h r h' :=
  rs_istore d hn (by first | rfl | (simp [ai_s1, ai_s2, hp]; done)) kk
theorem wk_lst7 {a0 a1 a2 a3 a4 a5 a6 a7 b : Value} {l : List Value} {x : Int64} (d : decode M.2.1 pc = .ok (.lstore 7, 2)) (hn : 7 + 1 < M.2.2.1) (hp : ai_kill a6 = a6) (kk : ai_R M (pc + 2) (a0 :: a1 :: a2 :: a3 :: a4 :: a5 :: a6 :: .long x :: .float 0 :: l) st h r h') : ai_R M pc (a0 :: a1 :: a2 :: a3 :: a4 :: a5 :: a6 :: a7 :: b :: l) (.long x :: st) h r h' :=
  rs_lstore d hn (by first | rfl | (simp [ai_s1, ai_s2, hp]; done)) kk
theorem wk_ast7 {a0 a1 a2 a3 a4 a5 a6 a7 : Value} {l : List Value} {x : Nat} (d : decode M.2.1 pc = .ok (.astore 7, 2)) (hn : 7 < M.2.2.1) (hp : ai_kill a6 = a6) (kk : ai_R M (pc + 2) (a0 :: a1 :: a2 :: a3 :: a4 :: a5 :: a6 :: .ref x :: l) st h r h') : ai_R M pc (a0 :: a1 :: a2 :: a3 :: a4 :: a5 :: a6 :: a7 :: l) (.ref x :: st) h r h' :=
  rs_astore d hn (by first | rfl | (simp [ai_s1, ai_s2, hp]; done)) kk
theorem wk_sst7 {a0 a1 a2 a3 a4 a5 a6 a7 : Value} {l : List Value} {x : Nat} (d : decode M.2.1 pc = .ok (.astore 7, 2)) (hn : 7 < M.2.2.1) (hp : ai_kill a6 = a6) (kk : ai_R M (pc + 2) (a0 :: a1 :: a2 :: a3 :: a4 :: a5 :: a6 :: .retAddr x :: l) st h r h') : ai_R M pc (a0 :: a1 :: a2 :: a3 :: a4 :: a5 :: a6 :: a7 :: l) (.retAddr x :: st) h r h' :=
  rs_astoreS d hn (by first | rfl | (simp [ai_s1, ai_s2, hp]; done)) kk
theorem wk_nst7 {a0 a1 a2 a3 a4 a5 a6 a7 : Value} {l : List Value}  (d : decode M.2.1 pc = .ok (.astore 7, 2)) (hn : 7 < M.2.2.1) (hp : ai_kill a6 = a6) (kk : ai_R M (pc + 2) (a0 :: a1 :: a2 :: a3 :: a4 :: a5 :: a6 :: .null :: l) st h r h') : ai_R M pc (a0 :: a1 :: a2 :: a3 :: a4 :: a5 :: a6 :: a7 :: l) (.null :: st) h r h' :=
  rs_astoreN d hn (by first | rfl | (simp [ai_s1, ai_s2, hp]; done)) kk
theorem wk_iinc7 {a0 a1 a2 a3 a4 a5 a6 : Value} {l : List Value} {n : Int} {x v : Int32} (d : decode M.2.1 pc = .ok (.iinc 7 n, 3)) (hn : 7 < M.2.2.1) (hp : ai_kill a6 = a6) (hv : x + Int32.ofInt n = v) (kk : ai_R M (pc + 3) (a0 :: a1 :: a2 :: a3 :: a4 :: a5 :: a6 :: .int v :: l) st h r h') : ai_R M pc (a0 :: a1 :: a2 :: a3 :: a4 :: a5 :: a6 :: .int x :: l) st h r h' :=
  rs_iinc d hn rfl hv (by first | rfl | (simp [ai_s1, hp]; done)) kk
theorem wk_ist8 {a0 a1 a2 a3 a4 a5 a6 a7 a8 : Value} {l : List Value} {x : Int32} (d : decode M.2.1 pc = .ok (.istore 8, 2)) (hn : 8 < M.2.2.1) (hp : ai_kill a7 = a7) (kk : ai_R M (pc + 2) (a0 :: a1 :: a2 :: a3 :: a4 :: a5 :: a6 :: a7 :: .int x :: l) st h r h') : ai_R M pc (a0 :: a1 :: a2 :: a3 :: a4 :: a5 :: a6 :: a7 :: a8 :: l) (.int x :: st) h r h' :=
  rs_istore d hn (by first | rfl | (simp [ai_s1, ai_s2, hp]; done)) kk
theorem wk_lst8 {a0 a1 a2 a3 a4 a5 a6 a7 a8 b : Value} {l : List Value} {x : Int64} (d : decode M.2.1 pc = .ok (.lstore 8, 2)) (hn : 8 + 1 < M.2.2.1) (hp : ai_kill a7 = a7) (kk : ai_R M (pc + 2) (a0 :: a1 :: a2 :: a3 :: a4 :: a5 :: a6 :: a7 :: .long x :: .float 0 :: l) st h r h') : ai_R M pc (a0 :: a1 :: a2 :: a3 :: a4 :: a5 :: a6 :: a7 :: a8 :: b :: l) (.long x :: st) h r h' :=
  rs_lstore d hn (by first | rfl | (simp [ai_s1, ai_s2, hp]; done)) kk
theorem wk_ast8 {a0 a1 a2 a3 a4 a5 a6 a7 a8 : Value} {l : List Value} {x : Nat} (d : decode M.2.1 pc = .ok (.astore 8, 2)) (hn : 8 < M.2.2.1) (hp : ai_kill a7 = a7) (kk : ai_R M (pc + 2) (a0 :: a1 :: a2 :: a3 :: a4 :: a5 :: a6 :: a7 :: .ref x :: l) st h r h') : ai_R M pc (a0 :: a1 :: a2 :: a3 :: a4 :: a5 :: a6 :: a7 :: a8 :: l) (.ref x :: st) h r h' :=
  rs_astore d hn (by first | rfl | (simp [ai_s1, ai_s2, hp]; done)) kk
theorem wk_sst8 {a0 a1 a2 a3 a4 a5 a6 a7 a8 : Value} {l : List Value} {x : Nat} (d : decode M.2.1 pc = .ok (.astore 8, 2)) (hn : 8 < M.2.2.1) (hp : ai_kill a7 = a7) (kk : ai_R M (pc + 2) (a0 :: a1 :: a2 :: a3 :: a4 :: a5 :: a6 :: a7 :: .retAddr x :: l) st h r h') : ai_R M pc (a0 :: a1 :: a2 :: a3 :: a4 :: a5 :: a6 :: a7 :: a8 :: l) (.retAddr x :: st) h r h' :=
  rs_astoreS d hn (by first | rfl | (simp [ai_s1, ai_s2, hp]; done)) kk
theorem wk_nst8 {a0 a1 a2 a3 a4 a5 a6 a7 a8 : Value} {l : List Value}  (d : decode M.2.1 pc = .ok (.astore 8, 2)) (hn : 8 < M.2.2.1) (hp : ai_kill a7 = a7) (kk : ai_R M (pc + 2) (a0 :: a1 :: a2 :: a3 :: a4 :: a5 :: a6 :: a7 :: .null :: l) st h r h') : ai_R M pc (a0 :: a1 :: a2 :: a3 :: a4 :: a5 :: a6 :: a7 :: a8 :: l) (.null :: st) h r h' :=
  rs_astoreN d hn (by first | rfl | (simp [ai_s1, ai_s2, hp]; done)) kk
theorem wk_iinc8 {a0 a1 a2 a3 a4 a5 a6 a7 : Value} {l : List Value} {n : Int} {x v : Int32} (d : decode M.2.1 pc = .ok (.iinc 8 n, 3)) (hn : 8 < M.2.2.1) (hp : ai_kill a7 = a7) (hv : x + Int32.ofInt n = v) (kk : ai_R M (pc + 3) (a0 :: a1 :: a2 :: a3 :: a4 :: a5 :: a6 :: a7 :: .int v :: l) st h r h') : ai_R M pc (a0 :: a1 :: a2 :: a3 :: a4 :: a5 :: a6 :: a7 :: .int x :: l) st h r h' :=
  rs_iinc d hn rfl hv (by first | rfl | (simp [ai_s1, hp]; done)) kk
theorem wk_ist9 {a0 a1 a2 a3 a4 a5 a6 a7 a8 a9 : Value} {l : List Value} {x : Int32} (d : decode M.2.1 pc = .ok (.istore 9, 2)) (hn : 9 < M.2.2.1) (hp : ai_kill a8 = a8) (kk : ai_R M (pc + 2) (a0 :: a1 :: a2 :: a3 :: a4 :: a5 :: a6 :: a7 :: a8 :: .int x :: l) st h r h') : ai_R M pc (a0 :: a1 :: a2 :: a3 :: a4 :: a5 :: a6 :: a7 :: a8 :: a9 :: l) (.int x :: st) h r h' :=
  rs_istore d hn (by first | rfl | (simp [ai_s1, ai_s2, hp]; done)) kk
theorem wk_lst9 {a0 a1 a2 a3 a4 a5 a6 a7 a8 a9 b : Value} {l : List Value} {x : Int64} (d : decode M.2.1 pc = .ok (.lstore 9, 2)) (hn : 9 + 1 < M.2.2.1) (hp : ai_kill a8 = a8) (kk : ai_R M (pc + 2) (a0 :: a1 :: a2 :: a3 :: a4 :: a5 :: a6 :: a7 :: a8 :: .long x :: .float 0 :: l) st h r h') : ai_R M pc (a0 :: a1 :: a2 :: a3 :: a4 :: a5 :: a6 :: a7 :: a8 :: a9 :: b :: l) (.long x :: st) h r h' :=
  rs_lstore d hn (by first | rfl | (simp [ai_s1, ai_s2, hp]; done)) kk
theorem wk_ast9 {a0 a1 a2 a3 a4 a5 a6 a7 a8 a9 : Value} {l : List Value} {x : Nat} (d : decode M.2.1 pc = .ok (.astore 9, 2)) (hn : 9 < M.2.2.1) (hp : ai_kill a8 = a8) (kk : ai_R M (pc + 2) (a0 :: a1 :: a2 :: a3 :: a4 :: a5 :: a6 :: a7 :: a8 :: .ref x :: l) st h r h') : ai_R M pc (a0 :: a1 :: a2 :: a3 :: a4 :: a5 :: a6 :: a7 :: a8 :: a9 :: l) (.ref x :: st) h r h' :=
  rs_astore d hn (by first | rfl | (simp [ai_s1, ai_s2, hp]; done)) kk
theorem wk_sst9 {a0 a1 a2 a3 a4 a5 a6 a7 a8 a9 : Value} {l : List Value} {x : Nat} (d : decode M.2.1 pc = .ok (.astore 9, 2)) (hn : 9 < M.2.2.1) (hp : ai_kill a8 = a8) (kk : ai_R M (pc + 2) (a0 :: a1 :: a2 :: a3 :: a4 :: a5 :: a6 :: a7 :: a8 :: .retAddr x :: l) st h r h') : ai_R M pc (a0 :: a1 :: a2 :: a3 :: a4 :: a5 :: a6 :: a7 :: a8 :: a9 :: l) (.retAddr x :: st) h r h' :=
  rs_astoreS d hn (by first | rfl | (simp [ai_s1, ai_s2, hp]; done)) kk
theorem wk_nst9 {a0 a1 a2 a3 a4 a5 a6 a7 a8 a9 : Value} {l : List Value}  (d : decode M.2.1 pc = .ok (.astore 9, 2)) (hn : 9 < M.2.2.1) (hp : ai_kill a8 = a8) (kk : ai_R M (pc + 2) (a0 :: a1 :: a2 :: a3 :: a4 :: a5 :: a6 :: a7 :: a8 :: .null :: l) st h r h') : ai_R M pc (a0 :: a1 :: a2 :: a3 :: a4 :: a5 :: a6 :: a7 :: a8 :: a9 :: l) (.null :: st) h r h' :=
  rs_astoreN d hn (by first | rfl | (simp [ai_s1, ai_s2, hp]; done)) kk
theorem wk_iinc9 {a0 a1 a2 a3 a4 a5 a6 a7 a8 : Value} {l : List Value} {n : Int} {x v : Int32} (d : decode M.2.1 pc = .ok (.iinc 9 n, 3)) (hn : 9 < M.2.2.1) (hp : ai_kill a8 = a8) (hv : x + Int32.ofInt n = v) (kk : ai_R M (pc + 3) (a0 :: a1 :: a2 :: a3 :: a4 :: a5 :: a6 :: a7 :: a8 :: .int v :: l) st h r h') : ai_R M pc (a0 :: a1 :: a2 :: a3 :: a4 :: a5 :: a6 :: a7 :: a8 :: .int x :: l) st h r h' :=
  rs_iinc d hn rfl hv (by first | rfl | (simp [ai_s1, hp]; done)) kk
theorem wk_ist10 {a0 a1 a2 a3 a4 a5 a6 a7 a8 a9 a10 : Value} {l : List Value} {x : Int32} (d : decode M.2.1 pc = .ok (.istore 10, 2)) (hn : 10 < M.2.2.1) (hp : ai_kill a9 = a9) (kk : ai_R M (pc + 2) (a0 :: a1 :: a2 :: a3 :: a4 :: a5 :: a6 :: a7 :: a8 :: a9 :: .int x :: l) st h r h') : ai_R M pc (a0 :: a1 :: a2 :: a3 :: a4 :: a5 :: a6 :: a7 :: a8 :: a9 :: a10 :: l) (.int x :: st) h r h' :=
  rs_istore d hn (by first | rfl | (simp [ai_s1, ai_s2, hp]; done)) kk
theorem wk_lst10 {a0 a1 a2 a3 a4 a5 a6 a7 a8 a9 a10 b : Value} {l : List Value} {x : Int64} (d : decode M.2.1 pc = .ok (.lstore 10, 2)) (hn : 10 + 1 < M.2.2.1) (hp : ai_kill a9 = a9) (kk : ai_R M (pc + 2) (a0 :: a1 :: a2 :: a3 :: a4 :: a5 :: a6 :: a7 :: a8 :: a9 :: .long x :: .float 0 :: l) st h r h') : ai_R M pc (a0 :: a1 :: a2 :: a3 :: a4 :: a5 :: a6 :: a7 :: a8 :: a9 :: a10 :: b :: l) (.long x :: st) h r h' :=
  rs_lstore d hn (by first | rfl | (simp [ai_s1, ai_s2, hp]; done)) kk
theorem wk_ast10 {a0 a1 a2 a3 a4 a5 a6 a7 a8 a9 a10 : Value} {l : List Value} {x : Nat} (d : decode M.2.1 pc = .ok (.astore 10, 2)) (hn : 10 < M.2.2.1) (hp : ai_kill a9 = a9) (kk : ai_R M (pc + 2) (a0 :: a1 :: a2 :: a3 :: a4 :: a5 :: a6 :: a7 :: a8 :: a9 :: .ref x :: l) st h r h') : ai_R M pc (a0 :: a1 :: a2 :: a3 :: a4 :: a5 :: a6 :: a7 :: a8 :: a9 :: a10 :: l) (.ref x :: st) h r h' :=
  rs_astore d hn (by first | rfl | (simp [ai_s1, ai_s2, hp]; done)) kk
theorem wk_sst10 {a0 a1 a2 a3 a4 a5 a6 a7 a8 a9 a10 : Value} {l : List Value} {x : Nat} (d : decode M.2.1 pc = .ok (.astore 10, 2)) (hn : 10 < M.2.2.1) (hp : ai_kill a9 = a9) (kk : ai_R M (pc + 2) (a0 :: a1 :: a2 :: a3 :: a4 :: a5 :: a6 :: a7 :: a8 :: a9 :: .retAddr x :: l) st h r h') : ai_R M pc (a0 :: a1 :: a2 :: a3 :: a4 :: a5 :: a6 :: a7 :: a8 :: a9 :: a10 :: l) (.retAddr x :: st) h r h' :=
  rs_astoreS d hn (by first | rfl | (simp [ai_s1, ai_s2, hp]; done)) kk
theorem wk_nst10 {a0 a1 a2 a3 a4 a5 a6 a7 a8 a9 a10 : Value} {l : List Value}  (d : decode M.2.1 pc = .ok (.astore 10, 2)) (hn : 10 < M.2.2.1) (hp : ai_kill a9 = a9) (kk : ai_R M (pc + 2) (a0 :: a1 :: a2 :: a3 :: a4 :: a5 :: a6 :: a7 :: a8 :: a9 :: .null :: l) st h r h') : ai_R M pc (a0 :: a1 :: a2 :: a3 :: a4 :: a5 :: a6 :: a7 :: a8 :: a9 :: a10 :: l) (.null :: st) h r h' :=
  rs_astoreN d hn (by first | rfl | (simp [ai_s1, ai_s2, hp]; done)) kk
theorem wk_iinc10 {a0 a1 a2 a3 a4 a5 a6 a7 a8 a9 : Value} {l : List Value} {n : Int} {x v : Int32} (d : decode M.2.1 pc = .ok (.iinc 10 n, 3)) (hn : 10 < M.2.2.1) (hp : ai_kill a9 = a9) (hv : x + Int32.ofInt n = v) (kk : ai_R M (pc + 3) (a0 :: a1 :: a2 :: a3 :: a4 :: a5 :: a6 :: a7 :: a8 :: a9 :: .int v :: l) st h r h') : ai_R M pc (a0 :: a1 :: a2 :: a3 :: a4 :: a5 :: a6 :: a7 :: a8 :: a9 :: .int x :: l) st h r h' :=
  rs_iinc d hn rfl hv (by first | rfl | (simp [ai_s1, hp]; done)) kk
theorem wk_ist11 {a0 a1 a2 a3 a4 a5 a6 a7 a8 a9 a10 a11 : Value} {l : List Value} {x : Int32} (d : decode M.2.1 pc = .ok (.istore 11, 2)) (hn : 11 < M.2.2.1) (hp : ai_kill a10 = a10) (kk : ai_R M (pc + 2) (a0 :: a1 :: a2 :: a3 :: a4 :: a5 :: a6 :: a7 :: a8 :: a9 :: a10 :: .int x :: l) st h r h') : ai_R M pc (a0 :: a1 :: a2 :: a3 :: a4 :: a5 :: a6 :: a7 :: a8 :: a9 :: a10 :: a11 :: l) (.int x :: st) h r h' :=
  rs_istore d hn (by first | rfl | (simp [ai_s1, ai_s2, hp]; done)) kk
theorem wk_lst11 {a0 a1 a2 a3 a4 a5 a6 a7 a8 a9 a10 a11 b : Value} {l : List Value} {x : Int64} (d : decode M.2.1 pc = .ok (.lstore 11, 2)) (hn : 11 + 1 < M.2.2.1) (hp : ai_kill a10 = a10) (kk : ai_R M (pc + 2) (a0 :: a1 :: a2 :: a3 :: a4 :: a5 :: a6 :: a7 :: a8 :: a9 :: a10 :: .long x :: .float 0 :: l) st h r h') : ai_R M pc (a0 :: a1 :: a2 :: a3 :: a4 :: a5 :: a6 :: a7 :: a8 :: a9 :: a10 :: a11 :: b :: l) (.long x :: st) h r h' :=
  rs_lstore d hn (by first | rfl | (simp [ai_s1, ai_s2, hp]; done)) kk
theorem wk_ast11 {a0 a1 a2 a3 a4 a5 a6 a7 a8 a9 a10 a11 : Value} {l : List Value} {x : Nat} (d : decode M.2.1 pc = .ok (.astore 11, 2)) (hn : 11 < M.2.2.1) (hp : ai_kill a10 = a10) (kk : ai_R M (pc + 2) (a0 :: a1 :: a2 :: a3 :: a4 :: a5 :: a6 :: a7 :: a8 :: a9 :: a10 :: .ref x :: l) st h r h') : ai_R M pc (a0 :: a1 :: a2 :: a3 :: a4 :: a5 :: a6 :: a7 :: a8 :: a9 :: a10 :: a11 :: l) (.ref x :: st) h r h' :=
  rs_astore d hn (by first | rfl | (simp [ai_s1, ai_s2, hp]; done)) kk
theorem wk_sst11 {a0 a1 a2 a3 a4 a5 a6 a7 a8 a9 a10 a11 : Value} {l : List Value} {x : Nat} (d : decode M.2.1 pc = .ok (.astore 11, 2)) (hn : 11 < M.2.2.1) (hp : ai_kill a10 = a10) (kk : ai_R M (pc + 2) (a0 :: a1 :: a2 :: a3 :: a4 :: a5 :: a6 :: a7 :: a8 :: a9 :: a10 :: .retAddr x :: l) st h r h') : ai_R M pc (a0 :: a1 :: a2 :: a3 :: a4 :: a5 :: a6 :: a7 :: a8 :: a9 :: a10 :: a11 :: l) (.retAddr x :: st) h r h' :=
  rs_astoreS d hn (by first | rfl | (simp [ai_s1, ai_s2, hp]; done)) kk
theorem wk_nst11 {a0 a1 a2 a3 a4 a5 a6 a7 a8 a9 a10 a11 : Value} {l : List Value}  (d : decode M.2.1 pc = .ok (.astore 11, 2)) (hn : 11 < M.2.2.1) (hp : ai_kill a10 = a10) (kk : ai_R M (pc + 2) (a0 :: a1 :: a2 :: a3 :: a4 :: a5 :: a6 :: a7 :: a8 :: a9 :: a10 :: .null :: l) st h r h') : ai_R M pc (a0 :: a1 :: a2 :: a3 :: a4 :: a5 :: a6 :: a7 :: a8 :: a9 :: a10 :: a11 :: l) (.null :: st) h r h' :=
  rs_astoreN d hn (by first | rfl | (simp [ai_s1, ai_s2, hp]; done)) kk
theorem wk_iinc11 {a0 a1 a2 a3 a4 a5 a6 a7 a8 a9 a10 : Value} {l : List Value} {n : Int} {x v : Int32} (d : decode M.2.1 pc = .ok (.iinc 11 n, 3)) (hn : 11 < M.2.2.1) (hp : ai_kill a10 = a10) (hv : x + Int32.ofInt n = v) (kk : ai_R M (pc + 3) (a0 :: a1 :: a2 :: a3 :: a4 :: a5 :: a6 :: a7 :: a8 :: a9 :: a10 :: .int v :: l) st h r h') : ai_R M pc (a0 :: a1 :: a2 :: a3 :: a4 :: a5 :: a6 :: a7 :: a8 :: a9 :: a10 :: .int x :: l) st h r h' :=
  rs_iinc d hn rfl hv (by first | rfl | (simp [ai_s1, hp]; done)) kk
theorem wk_ist12 {a0 a1 a2 a3 a4 a5 a6 a7 a8 a9 a10 a11 a12 : Value} {l : List Value} {x : Int32} (d : decode M.2.1 pc = .ok (.istore 12, 2)) (hn : 12 < M.2.2.1) (hp : ai_kill a11 = a11) (kk : ai_R M (pc + 2) (a0 :: a1 :: a2 :: a3 :: a4 :: a5 :: a6 :: a7 :: a8 :: a9 :: a10 :: a11 :: .int x :: l) st h r h') : ai_R M pc (a0 :: a1 :: a2 :: a3 :: a4 :: a5 :: a6 :: a7 :: a8 :: a9 :: a10 :: a11 :: a12 :: l) (.int x :: st) h r h' :=
  rs_istore d hn (by first | rfl | (simp [ai_s1, ai_s2, hp]; done)) kk
theorem wk_lst12 {a0 a1 a2 a3 a4 a5 a6 a7 a8 a9 a10 a11 a12 b : Value} {l : List Value} {x : Int64} (d : decode M.2.1 pc = .ok (.lstore 12, 2)) (hn : 12 + 1 < M.2.2.1) (hp : ai_kill a11 = a11) (kk : ai_R M (pc + 2) (a0 :: a1 :: a2 :: a3 :: a4 :: a5 :: a6 :: a7 :: a8 :: a9 :: a10 :: a11 :: .long x :: .float 0 :: l) st h r h') : ai_R M pc (a0 :: a1 :: a2 :: a3 :: a4 :: a5 :: a6 :: a7 :: a8 :: a9 :: a10 :: a11 :: a12 :: b :: l) (.long x :: st) h r h' :=
  rs_lstore d hn (by first | rfl | (simp [ai_s1, ai_s2, hp]; done)) kk
theorem wk_ast12 {a0 a1 a2 a3 a4 a5 a6 a7 a8 a9 a10 a11 a12 : Value} {l : List Value} {x : Nat} (d : decode M.2.1 pc = .ok (.astore 12, 2)) (hn : 12 < M.2.2.1) (hp : ai_kill a11 = a11) (kk : ai_R M (pc + 2) (a0 :: a1 :: a2 :: a3 :: a4 :: a5 :: a6 :: a7 :: a8 :: a9 :: a10 :: a11 :: .ref x :: l) st h r h') : ai_R M pc (a0 :: a1 :: a2 :: a3 :: a4 :: a5 :: a6 :: a7 :: a8 :: a9 :: a10 :: a11 :: a12 :: l) (.ref x :: st) h r h' :=
  rs_astore d hn (by first | rfl | (simp [ai_s1, ai_s2, hp]; done)) kk
theorem wk_sst12 {a0 a1 a2 a3 a4 a5 a6 a7 a8 a9 a10 a11 a12 : Value} {l : List Value} {x : Nat} (d : decode M.2.1 pc = .ok (.astore 12, 2)) (hn : 12 < M.2.2.1) (hp : ai_kill a11 = a11) (kk : ai_R M (pc + 2) (a0 :: a1 :: a2 :: a3 :: a4 :: a5 :: a6 :: a7 :: a8 :: a9 :: a10 :: a11 :: .retAddr x :: l) st h r h') : ai_R M pc (a0 :: a1 :: a2 :: a3 :: a4 :: a5 :: a6 :: a7 :: a8 :: a9 :: a10 :: a11 :: a12 :: l) (.retAddr x :: st) h r h' :=
  rs_astoreS d hn (by first | rfl | (simp [ai_s1, ai_s2, hp]; done)) kk
theorem wk_nst12 {a0 a1 a2 a3 a4 a5 a6 a7 a8 a9 a10 a11 a12 : Value} {l : List Value}  (d : decode M.2.1 pc = .ok (.astore 12, 2)) (hn : 12 < M.2.2.1) (hp : ai_kill a11 = a11) (kk : ai_R M (pc + 2) (a0 :: a1 :: a2 :: a3 :: a4 :: a5 :: a6 :: a7 :: a8 :: a9 :: a10 :: a11 :: .null :: l) st h r h') : ai_R M pc (a0 :: a1 :: a2 :: a3 :: a4 :: a5 :: a6 :: a7 :: a8 :: a9 :: a10 :: a11 :: a12 :: l) (.null :: st) h r h' :=
  rs_astoreN d hn (by first | rfl | (simp [ai_s1, ai_s2, hp]; done)) kk
theorem wk_iinc12 {a0 a1 a2 a3 a4 a5 a6 a7 a8 a9 a10 a11 : Value} {l : List Value} {n : Int} {x v : Int32} (d : decode M.2.1 pc = .ok (.iinc 12 n, 3)) (hn : 12 < M.2.2.1) (hp : ai_kill a11 = a11) (hv : x + Int32.ofInt n = v) (kk : ai_R M (pc + 3) (a0 :: a1 :: a2 :: a3 :: a4 :: a5 :: a6 :: a7 :: a8 :: a9 :: a10 :: a11 :: .int v :: l) st h r h') : ai_R M pc (a0 :: a1 :: a2 :: a3 :: a4 :: a5 :: a6 :: a7 :: a8 :: a9 :: a10 :: a11 :: .int x :: l) st h r h' :=
  rs_iinc d hn rfl hv (by first | rfl | (simp [ai_s1, hp]; done)) kk
theorem wk_ist13 {a0 a1 a2 a3 a4 a5 a6 a7 a8 a9 a10 a11 a12 a13 : Value} {l : List Value} {x : Int32} (d : decode M.2.1 pc = .ok (.istore 13, 2)) (hn : 13 < M.2.2.1) (hp : ai_kill a12 = a12) (kk : ai_R M (pc + 2) (a0 :: a1 :: a2 :: a3 :: a4 :: a5 :: a6 :: a7 :: a8 :: a9 :: a10 :: a11 :: a12 :: .int x :: l) st h r h') : ai_R M pc (a0 :: a1 :: a2 :: a3 :: a4 :: a5 :: a6 :: a7 :: a8 :: a9 :: a10 :: a11 :: a12 :: a13 :: l) (.int x :: st) h r h' :=
  rs_istore d hn (by first | rfl | (simp [ai_s1, ai_s2, hp]; done)) kk
theorem wk_lst13 {a0 a1 a2 a3 a4 a5 a6 a7 a8 a9 a10 a11 a12 a13 b : Value} {l : List Value} {x : Int64} (d : decode M.2.1 pc = .ok (.lstore 13, 2)) (hn : 13 + 1 < M.2.2.1) (hp : ai_kill a12 = a12) (kk : ai_R M (pc + 2) (a0 :: a1 :: a2 :: a3 :: a4 :: a5 :: a6 :: a7 :: a8 :: a9 :: a10 :: a11 :: a12 :: .long x :: .float 0 :: l) st h r h') : ai_R M pc (a0 :: a1 :: a2 :: a3 :: a4 :: a5 :: a6 :: a7 :: a8 :: a9 :: a10 :: a11 :: a12 :: a13 :: b :: l) (.long x :: st) h r h' :=
  rs_lstore d hn (by first | rfl | (simp [ai_s1, ai_s2, hp]; done)) kk
theorem wk_ast13 {a0 a1 a2 a3 a4 a5 a6 a7 a8 a9 a10 a11 a12 a13 : Value} {l : List Value} {x : Nat} (d : decode M.2.1 pc = .ok (.astore 13, 2)) (hn : 13 < M.2.2.1) (hp : ai_kill a12 = a12) (kk : ai_R M (pc + 2) (a0 :: a1 :: a2 :: a3 :: a4 :: a5 :: a6 :: a7 :: a8 :: a9 :: a10 :: a11 :: a12 :: .ref x :: l) st h r h') : ai_R M pc (a0 :: a1 :: a2 :: a3 :: a4 :: a5 :: a6 :: a7 :: a8 :: a9 :: a10 :: a11 :: a12 :: a13 :: l) (.ref x :: st) h r h' :=
  rs_astore d hn (by first | rfl | (simp [ai_s1, ai_s2, hp]; done)) kk
theorem wk_sst13 {a0 a1 a2 a3 a4 a5 a6 a7 a8 a9 a10 a11 a12 a13 : Value} {l : List Value} {x : Nat} (d : decode M.2.1 pc = .ok (.astore 13, 2)) (hn : 13 < M.2.2.1) (hp : ai_kill a12 = a12) (kk : ai_R M (pc + 2) (a0 :: a1 :: a2 :: a3 :: a4 :: a5 :: a6 :: a7 :: a8 :: a9 :: a10 :: a11 :: a12 :: .retAddr x :: l) st h r h') : ai_R M pc (a0 :: a1 :: a2 :: a3 :: a4 :: a5 :: a6 :: a7 :: a8 :: a9 :: a10 :: a11 :: a12 :: a13 :: l) (.retAddr x :: st) h r h' :=
  rs_astoreS d hn (by first | rfl | (simp [ai_s1, ai_s2, hp]; done)) kk
theorem wk_nst13 {a0 a1 a2 a3 a4 a5 a6 a7 a8 a9 a10 a11 a12 a13 : Value} {l : List Value}  (d : decode M.2.1 pc = .ok (.astore 13, 2)) (hn : 13 < M.2.2.1) (hp : ai_kill a12 = a12) (kk : ai_R M (pc + 2) (a0 :: a1 :: a2 :: a3 :: a4 :: a5 :: a6 :: a7 :: a8 :: a9 :: a10 :: a11 :: a12 :: .null :: l) st h r h') : ai_R M pc (a0 :: a1 :: a2 :: a3 :: a4 :: a5 :: a6 :: a7 :: a8 :: a9 :: a10 :: a11 :: a12 :: a13 :: l) (.null :: st) h r h' :=
  rs_astoreN d hn (by first | rfl | (simp [ai_s1, ai_s2, hp]; done)) kk
theorem wk_iinc13 {a0 a1 a2 a3 a4 a5 a6 a7 a8 a9 a10 a11 a12 : Value} {l : List Value} {n : Int} {x v : Int32} (d : decode M.2.1 pc = .ok (.iinc 13 n, 3)) (hn : 13 < M.2.2.1) (hp : ai_kill a12 = a12) (hv : x + Int32.ofInt n = v) (kk : ai_R M (pc + 3) (a0 :: a1 :: a2 :: a3 :: a4 :: a5 :: a6 :: a7 :: a8 :: a9 :: a10 :: a11 :: a12 :: .int v :: l) st h r h') : ai_R M pc (a0 :: a1 :: a2 :: a3 :: a4 :: a5 :: a6 :: a7 :: a8 :: a9 :: a10 :: a11 :: a12 :: .int x :: l) st h r h' :=
  rs_iinc d hn rfl hv (by first | rfl | (simp [ai_s1, hp]; done)) kk
theorem wk_ist14 {a0 a1 a2 a3 a4 a5 a6 a7 a8 a9 a10 a11 a12 a13 a14 : Value} {l : List Value} {x : Int32} (d : decode M.2.1 pc = .ok (.istore 14, 2)) (hn : 14 < M.2.2.1) (hp : ai_kill a13 = a13) (kk : ai_R M (pc + 2) (a0 :: a1 :: a2 :: a3 :: a4 :: a5 :: a6 :: a7 :: a8 :: a9 :: a10 :: a11 :: a12 :: a13 :: .int x :: l) st h r h') : ai_R M pc (a0 :: a1 :: a2 :: a3 :: a4 :: a5 :: a6 :: a7 :: a8 :: a9 :: a10 :: a11 :: a12 :: a13 :: a14 :: l) (.int x :: st) h r h' :=
  rs_istore d hn (by first | rfl | (simp [ai_s1, ai_s2, hp]; done)) kk
theorem wk_lst14 {a0 a1 a2 a3 a4 a5 a6 a7 a8 a9 a10 a11 a12 a13 a14 b : Value} {l : List Value} {x : Int64} (d : decode M.2.1 pc = .ok (.lstore 14, 2)) (hn : 14 + 1 < M.2.2.1) (hp : ai_kill a13 = a13) (kk : ai_R M (pc + 2) (a0 :: a1 :: a2 :: a3 :: a4 :: a5 :: a6 :: a7 :: a8 :: a9 :: a10 :: a11 :: a12 :: a13 :: .long x :: .float 0 :: l) st h r h') : ai_R M pc (a0 :: a1 :: a2 :: a3 :: a4 :: a5 :: a6 :: a7 :: a8 :: a9 :: a10 :: a11 :: a12 :: a13 :: a14 :: b :: l) (.long x :: st) h r h' :=
  rs_lstore d hn (by first | rfl | (simp [ai_s1, ai_s2, hp]; done)) kk
theorem wk_ast14 {a0 a1 a2 a3 a4 a5 a6 a7 a8 a9 a10 a11 a12 a13 a14 : Value} {l : List Value} {x : Nat} (d : decode M.2.1 pc = .ok (.astore 14, 2)) (hn : 14 < M.2.2.1) (hp : ai_kill a13 = a13) (kk : ai_R M (pc + 2) (a0 :: a1 :: a2 :: a3 :: a4 :: a5 :: a6 :: a7 :: a8 :: a9 :: a10 :: a11 :: a12 :: a13 :: .ref x :: l) st h r h') : ai_R M pc (a0 :: a1 :: a2 :: a3 :: a4 :: a5 :: a6 :: a7 :: a8 :: a9 :: a10 :: a11 :: a12 :: a13 :: a14 :: l) (.ref x :: st) h r h' :=
  rs_astore d hn (by first | rfl | (simp [ai_s1, ai_s2, hp]; done)) kk
theorem wk_sst14 {a0 a1 a2 a3 a4 a5 a6 a7 a8 a9 a10 a11 a12 a13 a14 : Value} {l : List Value} {x : Nat} (d : decode M.2.1 pc = .ok (.astore 14, 2)) (hn : 14 < M.2.2.1) (hp : ai_kill a13 = a13) (kk : ai_R M (pc + 2) (a0 :: a1 :: a2 :: a3 :: a4 :: a5 :: a6 :: a7 :: a8 :: a9 :: a10 :: a11 :: a12 :: a13 :: .retAddr x :: l) st h r h') : ai_R M pc (a0 :: a1 :: a2 :: a3 :: a4 :: a5 :: a6 :: a7 :: a8 :: a9 :: a10 :: a11 :: a12 :: a13 :: a14 :: l) (.retAddr x :: st) h r h' :=
  rs_astoreS d hn (by first | rfl | (simp [ai_s1, ai_s2, hp]; done)) kk
theorem wk_nst14 {a0 a1 a2 a3 a4 a5 a6 a7 a8 a9 a10 a11 a12 a13 a14 : Value} {l : List Value}  (d : decode M.2.1 pc = .ok (.astore 14, 2)) (hn : 14 < M.2.2.1) (hp : ai_kill a13 = a13) (kk : ai_R M (pc + 2) (a0 :: a1 :: a2 :: a3 :: a4 :: a5 :: a6 :: a7 :: a8 :: a9 :: a10 :: a11 :: a12 :: a13 :: .null :: l) st h r h') : ai_R M pc (a0 :: a1 :: a2 :: a3 :: a4 :: a5 :: a6 :: a7 :: a8 :: a9 :: a10 :: a11 :: a12 :: a13 :: a14 :: l) (.null :: st) h r h' :=
  rs_astoreN d hn (by first | rfl | (simp [ai_s1, ai_s2, hp]; done)) kk
theorem wk_iinc14 {a0 a1 a2 a3 a4 a5 a6 a7 a8 a9 a10 a11 a12 a13 : Value} {l : List Value} {n : Int} {x v : Int32} (d : decode M.2.1 pc = .ok (.iinc 14 n, 3)) (hn : 14 < M.2.2.1) (hp : ai_kill a13 = a13) (hv : x + Int32.ofInt n = v) (kk : ai_R M (pc + 3) (a0 :: a1 :: a2 :: a3 :: a4 :: a5 :: a6 :: a7 :: a8 :: a9 :: a10 :: a11 :: a12 :: a13 :: .int v :: l) st h r h') : ai_R M pc (a0 :: a1 :: a2 :: a3 :: a4 :: a5 :: a6 :: a7 :: a8 :: a9 :: a10 :: a11 :: a12 :: a13 :: .int x :: l) st h r h' :=
  rs_iinc d hn rfl hv (by first | rfl | (simp [ai_s1, hp]; done)) kk
theorem wk_ist15 {a0 a1 a2 a3 a4 a5 a6 a7 a8 a9 a10 a11 a12 a13 a14 a15 : Value} {l : List Value} {x : Int32} (d : decode M.2.1 pc = .ok (.istore 15, 2)) (hn : 15 < M.2.2.1) (hp : ai_kill a14 = a14) (kk : ai_R M (pc + 2) (a0 :: a1 :: a2 :: a3 :: a4 :: a5 :: a6 :: a7 :: a8 :: a9 :: a10 :: a11 :: a12 :: a13 :: a14 :: .int x :: l) st h r h') : ai_R M pc (a0 :: a1 :: a2 :: a3 :: a4 :: a5 :: a6 :: a7 :: a8 :: a9 :: a10 :: a11 :: a12 :: a13 :: a14 :: a15 :: l) (.int x :: st) h r h' :=
  rs_istore d hn (by first | rfl | (simp [ai_s1, ai_s2, hp]; done)) kk
theorem wk_lst15 {a0 a1 a2 a3 a4 a5 a6 a7 a8 a9 a10 a11 a12 a13 a14 a15 b : Value} {l : List Value} {x : Int64} (d : decode M.2.1 pc = .ok (.lstore 15, 2)) (hn : 15 + 1 < M.2.2.1) (hp : ai_kill a14 = a14) (kk : ai_R M (pc + 2) (a0 :: a1 :: a2 :: a3 :: a4 :: a5 :: a6 :: a7 :: a8 :: a9 :: a10 :: a11 :: a12 :: a13 :: a14 :: .long x :: .float 0 :: l) st h r h') : ai_R M pc (a0 :: a1 :: a2 :: a3 :: a4 :: a5 :: a6 :: a7 :: a8 :: a9 :: a10 :: a11 :: a12 :: a13 :: a14 :: a15 :: b :: l) (.long x :: st) h r h' :=
  rs_lstore d hn (by first | rfl | (simp [ai_s1, ai_s2, hp]; done)) kk
theorem wk_ast15 {a0 a1 a2 a3 a4 a5 a6 a7 a8 a9 a10 a11 a12 a13 a14 a15 : Value} {l : List Value} {x : Nat} (d : decode M.2.1 pc = .ok (.astore 15, 2)) (hn : 15 < M.2.2.1) (hp : ai_kill a14 = a14) (kk : ai_R M (pc + 2) (a0 :: a1 :: a2 :: a3 :: a4 :: a5 :: a6 :: a7 :: a8 :: a9 :: a10 :: a11 :: a12 :: a13 :: a14 :: .ref x :: l) st h r h') : ai_R M pc (a0 :: a1 :: a2 :: a3 :: a4 :: a5 :: a6 :: a7 :: a8 :: a9 :: a10 :: a11 :: a12 :: a13 :: a14 :: a15 :: l) (.ref x :: st) h r h' :=
  rs_astore d hn (by first | rfl | (simp [ai_s1, ai_s2, hp]; done)) kk
theorem wk_sst15 {a0 a1 a2 a3 a4 a5 a6 a7 a8 a9 a10 a11 a12 a13 a14 a15 : Value} {l : List Value} {x : Nat} (d : decode M.2.1 pc = .ok (.astore 15, 2)) (hn : 15 < M.2.2.1) (hp : ai_kill a14 = a14) (kk : ai_R M (pc + 2) (a0 :: a1 :: a2 :: a3 :: a4 :: a5 :: a6 :: a7 :: a8 :: a9 :: a10 :: a11 :: a12 :: a13 :: a14 :: .retAddr x :: l) st h r h') : ai_R M pc (a0 :: a1 :: a2 :: a3 :: a4 :: a5 :: a6 :: a7 :: a8 :: a9 :: a10 :: a11 :: a12 :: a13 :: a14 :: a15 :: l) (.retAddr x :: st) h r h' :=
  rs_astoreS d hn (by first | rfl | (simp [ai_s1, ai_s2, hp]; done)) kk
theorem wk_nst15 {a0 a1 a2 a3 a4 a5 a6 a7 a8 a9 a10 a11 a12 a13 a14 a15 : Value} {l : List Value}  (d : decode M.2.1 pc = .ok (.astore 15, 2)) (hn : 15 < M.2.2.1) (hp : ai_kill a14 = a14) (kk : ai_R M (pc + 2) (a0 :: a1 :: a2 :: a3 :: a4 :: a5 :: a6 :: a7 :: a8 :: a9 :: a10 :: a11 :: a12 :: a13 :: a14 :: .null :: l) st h r h') : ai_R M pc (a0 :: a1 :: a2 :: a3 :: a4 :: a5 :: a6 :: a7 :: a8 :: a9 :: a10 :: a11 :: a12 :: a13 :: a14 :: a15 :: l) (.null :: st) h r h' :=
  rs_astoreN d hn (by first | rfl | (simp [ai_s1, ai_s2, hp]; done)) kk
theorem wk_iinc15 {a0 a1 a2 a3 a4 a5 a6 a7 a8 a9 a10 a11 a12 a13 a14 : Value} {l : List Value} {n : Int} {x v : Int32} (d : decode M.2.1 pc = .ok (.iinc 15 n, 3)) (hn : 15 < M.2.2.1) (hp : ai_kill a14 = a14) (hv : x + Int32.ofInt n = v) (kk : ai_R M (pc + 3) (a0 :: a1 :: a2 :: a3 :: a4 :: a5 :: a6 :: a7 :: a8 :: a9 :: a10 :: a11 :: a12 :: a13 :: a14 :: .int v :: l) st h r h') : ai_R M pc (a0 :: a1 :: a2 :: a3 :: a4 :: a5 :: a6 :: a7 :: a8 :: a9 :: a10 :: a11 :: a12 :: a13 :: a14 :: .int x :: l) st h r h' :=
  rs_iinc d hn rfl hv (by first | rfl | (simp [ai_s1, hp]; done)) kk
theorem wk_ist16 {a0 a1 a2 a3 a4 a5 a6 a7 a8 a9 a10 a11 a12 a13 a14 a15 a16 : Value} {l : List Value} {x : Int32} (d : decode M.2.1 pc = .ok (.istore 16, 2)) (hn : 16 < M.2.2.1) (hp : ai_kill a15 = a15) (kk : ai_R M (pc + 2) (a0 :: a1 :: a2 :: a3 :: a4 :: a5 :: a6 :: a7 :: a8 :: a9 :: a10 :: a11 :: a12 :: a13 :: a14 :: a15 :: .int x :: l) st h r h') : ai_R M pc (a0 :: a1 :: a2 :: a3 :: a4 :: a5 :: a6 :: a7 :: a8 :: a9 :: a10 :: a11 :: a12 :: a13 :: a14 :: a15 :: a16 :: l) (.int x :: st) h r h' :=
  rs_istore d hn (by first | rfl | (simp [ai_s1, ai_s2, hp]; done)) kk
theorem wk_lst16 {a0 a1 a2 a3 a4 a5 a6 a7 a8 a9 a10 a11 a12 a13 a14 a15 a16 b : Value} {l : List Value} {x : Int64} (d : decode M.2.1 pc = .ok (.lstore 16, 2)) (hn : 16 + 1 < M.2.2.1) (hp : ai_kill a15 = a15) (kk : ai_R M (pc + 2) (a0 :: a1 :: a2 :: a3 :: a4 :: a5 :: a6 :: a7 :: a8 :: a9 :: a10 :: a11 :: a12 :: a13 :: a14 :: a15 :: .long x :: .float 0 :: l) st h r h') : ai_R M pc (a0 :: a1 :: a2 :: a3 :: a4 :: a5 :: a6 :: a7 :: a8 :: a9 :: a10 :: a11 :: a12 :: a13 :: a14 :: a15 :: a16 :: b :: l) (.long x :: st) h r h' :=
  rs_lstore d hn (by first | rfl | (simp [ai_s1, ai_s2, hp]; done)) kk
theorem wk_ast16 {a0 a1 a2 a3 a4 a5 a6 a7 a8 a9 a10 a11 a12 a13 a14 a15 a16 : Value} {l : List Value} {x : Nat} (d : decode M.2.1 pc = .ok (.astore 16, 2)) (hn : 16 < M.2.2.1) (hp : ai_kill a15 = a15) (kk : ai_R M (pc + 2) (a0 :: a1 :: a2 :: a3 :: a4 :: a5 :: a6 :: a7 :: a8 :: a9 :: a10 :: a11 :: a12 :: a13 :: a14 :: a15 :: .ref x :: l) st h r h') : ai_R M pc (a0 :: a1 :: a2 :: a3 :: a4 :: a5 :: a6 :: a7 :: a8 :: a9 :: a10 :: a11 :: a12 :: a13 :: a14 :: a15 :: a16 :: l) (.ref x :: st) h r h' :=
  rs_astore d hn (by first | rfl | (simp [ai_s1, ai_s2, hp]; done)) kk
theorem wk_sst16 {a0 a1 a2 a3 a4 a5 a6 a7 a8 a9 a10 a11 a12 a13 a14 a15 a16 : Value} {l : List Value} {x : Nat} (d : decode M.2.1 pc = .ok (.astore 16, 2)) (hn : 16 < M.2.2.1) (hp : ai_kill a15 = a15) (kk : ai_R M (pc + 2) (a0 :: a1 :: a2 :: a3 :: a4 :: a5 :: a6 :: a7 :: a8 :: a9 :: a10 :: a11 :: a12 :: a13 :: a14 :: a15 :: .retAddr x :: l) st h r h') : ai_R M pc (a0 :: a1 :: a2 :: a3 :: a4 :: a5 :: a6 :: a7 :: a8 :: a9 :: a10 :: a11 :: a12 :: a13 :: a14 :: a15 :: a16 :: l) (.retAddr x :: st) h r h' :=
  rs_astoreS d hn (by first | rfl | (simp [ai_s1, ai_s2, hp]; done)) kk
theorem wk_nst16 {a0 a1 a2 a3 a4 a5 a6 a7 a8 a9 a10 a11 a12 a13 a14 a15 a16 : Value} {l : List Value}  (d : decode M.2.1 pc = .ok (.astore 16, 2)) (hn : 16 < M.2.2.1) (hp : ai_kill a15 = a15) (kk : ai_R M (pc + 2) (a0 :: a1 :: a2 :: a3 :: a4 :: a5 :: a6 :: a7 :: a8 :: a9 :: a10 :: a11 :: a12 :: a13 :: a14 :: a15 :: .null :: l) st h r h') : ai_R M pc (a0 :: a1 :: a2 :: a3 :: a4 :: a5 :: a6 :: a7 :: a8 :: a9 :: a10 :: a11 :: a12 :: a13 :: a14 :: a15 :: a16 :: l) (.null :: st) h r h' :=
  rs_astoreN d hn (by first | rfl | (simp [ai_s1, ai_s2, hp]; done)) kk
theorem wk_iinc16 {a0 a1 a2 a3 a4 a5 a6 a7 a8 a9 a10 a11 a12 a13 a14 a15 : Value} {l : List Value} {n : Int} {x v : Int32} (d : decode M.2.1 pc = .ok (.iinc 16 n, 3)) (hn : 16 < M.2.2.1) (hp : ai_kill a15 = a15) (hv : x + Int32.ofInt n = v) (kk : ai_R M (pc + 3) (a0 :: a1 :: a2 :: a3 :: a4 :: a5 :: a6 :: a7 :: a8 :: a9 :: a10 :: a11 :: a12 :: a13 :: a14 :: a15 :: .int v :: l) st h r h') : ai_R M pc (a0 :: a1 :: a2 :: a3 :: a4 :: a5 :: a6 :: a7 :: a8 :: a9 :: a10 :: a11 :: a12 :: a13 :: a14 :: a15 :: .int x :: l) st h r h' :=
  rs_iinc d hn rfl hv (by first | rfl | (simp [ai_s1, hp]; done)) kk
theorem wk_ist17 {a0 a1 a2 a3 a4 a5 a6 a7 a8 a9 a10 a11 a12 a13 a14 a15 a16 a17 : Value} {l : List Value} {x : Int32} (d : decode M.2.1 pc = .ok (.istore 17, 2)) (hn : 17 < M.2.2.1) (hp : ai_kill a16 = a16) (kk : ai_R M (pc + 2) (a0 :: a1 :: a2 :: a3 :: a4 :: a5 :: a6 :: a7 :: a8 :: a9 :: a10 :: a11 :: a12 :: a13 :: a14 :: a15 :: a16 :: .int x :: l) st h r h') : ai_R M pc (a0 :: a1 :: a2 :: a3 :: a4 :: a5 :: a6 :: a7 :: a8 :: a9 :: a10 :: a11 :: a12 :: a13 :: a14 :: a15 :: a16 :: a17 :: l) (.int x :: st) h r h' :=
  rs_istore d hn (by first | rfl | (simp [ai_s1, ai_s2, hp]; done)) kk
theorem wk_lst17 {a0 a1 a2 a3 a4 a5 a6 a7 a8 a9 a10 a11 a12 a13 a14 a15 a16 a17 b : Value} {l : List Value} {x : Int64} (d : decode M.2.1 pc = .ok (.lstore 17, 2)) (hn : 17 + 1 < M.2.2.1) (hp : ai_kill a16 = a16) (kk : ai_R M (pc + 2) (a0 :: a1 :: a2 :: a3 :: a4 :: a5 :: a6 :: a7 :: a8 :: a9 :: a10 :: a11 :: a12 :: a13 :: a14 :: a15 :: a16 :: .long x :: .float 0 :: l) st h r h') : ai_R M pc (a0 :: a1 :: a2 :: a3 :: a4 :: a5 :: a6 :: a7 :: a8 :: a9 :: a10 :: a11 :: a12 :: a13 :: a14 :: a15 :: a16 :: a17 :: b :: l) (.long x :: st) h r h' :=
  rs_lstore d hn (by first | rfl | (simp [ai_s1, ai_s2, hp]; done)) kk
theorem wk_ast17 {a0 a1 a2 a3 a4 a5 a6 a7 a8 a9 a10 a11 a12 a13 a14 a15 a16 a17 : Value} {l : List Value} {x : Nat} (d : decode M.2.1 pc = .ok (.astore 17, 2)) (hn : 17 < M.2.2.1) (hp : ai_kill a16 = a16) (kk : ai_R M (pc + 2) (a0 :: a1 :: a2 :: a3 :: a4 :: a5 :: a6 :: a7 :: a8 :: a9 :: a10 :: a11 :: a12 :: a13 :: a14 :: a15 :: a16 :: .ref x :: l) st h r h') : ai_R M pc (a0 :: a1 :: a2 :: a3 :: a4 :: a5 :: a6 :: a7 :: a8 :: a9 :: a10 :: a11 :: a12 :: a13 :: a14 :: a15 :: a16 :: a17 :: l) (.ref x :: st) h r h' :=
  rs_astore d hn (by first | rfl | (simp [ai_s1, ai_s2, hp]; done)) kk
theorem wk_sst17 {a0 a1 a2 a3 a4 a5 a6 a7 a8 a9 a10 a11 a12 a13 a14 a15 a16 a17 : Value} {l : List Value} {x : Nat} (d : decode M.2.1 pc = .ok (.astore 17, 2)) (hn : 17 < M.2.2.1) (hp : ai_kill a16 = a16) (kk : ai_R M (pc + 2) (a0 :: a1 :: a2 :: a3 :: a4 :: a5 :: a6 :: a7 :: a8 :: a9 :: a10 :: a11 :: a12 :: a13 :: a14 :: a15 :: a16 :: .retAddr x :: l) st h r h') : ai_R M pc (a0 :: a1 :: a2 :: a3 :: a4 :: a5 :: a6 :: a7 :: a8 :: a9 :: a10 :: a11 :: a12 :: a13 :: a14 :: a15 :: a16 :: a17 :: l) (.retAddr x :: st) h r h' :=
  rs_astoreS d hn (by first | rfl | (simp [ai_s1, ai_s2, hp]; done)) kk
theorem wk_nst17 {a0 a1 a2 a3 a4 a5 a6 a7 a8 a9 a10 a11 a12 a13 a14 a15 a16 a17 : Value} {l : List Value}  (d : decode M.2.1 pc = .ok (.astore 17, 2)) (hn : 17 < M.2.2.1) (hp : ai_kill a16 = a16) (kk : ai_R M (pc + 2) (a0 :: a1 :: a2 :: a3 :: a4 :: a5 :: a6 :: a7 :: a8 :: a9 :: a10 :: a11 :: a12 :: a13 :: a14 :: a15 :: a16 :: .null :: l) st h r h') : ai_R M pc (a0 :: a1 :: a2 :: a3 :: a4 :: a5 :: a6 :: a7 :: a8 :: a9 :: a10 :: a11 :: a12 :: a13 :: a14 :: a15 :: a16 :: a17 :: l) (.null :: st) h r h' :=
  rs_astoreN d hn (by first | rfl | (simp [ai_s1, ai_s2, hp]; done)) kk
theorem wk_iinc17 {a0 a1 a2 a3 a4 a5 a6 a7 a8 a9 a10 a11 a12 a13 a14 a15 a16 : Value} {l : List Value} {n : Int} {x v : Int32} (d : decode M.2.1 pc = .ok (.iinc 17 n, 3)) (hn : 17 < M.2.2.1) (hp : ai_kill a16 = a16) (hv : x + Int32.ofInt n = v) (kk : ai_R M (pc + 3) (a0 :: a1 :: a2 :: a3 :: a4 :: a5 :: a6 :: a7 :: a8 :: a9 :: a10 :: a11 :: a12 :: a13 :: a14 :: a15 :: a16 :: .int v :: l) st h r h') : ai_R M pc (a0 :: a1 :: a2 :: a3 :: a4 :: a5 :: a6 :: a7 :: a8 :: a9 :: a10 :: a11 :: a12 :: a13 :: a14 :: a15 :: a16 :: .int x :: l) st h r h' :=
  rs_iinc d hn rfl hv (by first | rfl | (simp [ai_s1, hp]; done)) kk
end PLACES
