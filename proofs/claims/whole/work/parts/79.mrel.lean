/-! 79: the model's reader beside the machine -/
abbrev pZ (x : PS) : Nat := x.1
abbrev pP (x : PS) : Nat := x.2.1
abbrev pF (x : PS) : Nat := x.2.2.1
abbrev pPa (x : PS) : Nat := x.2.2.2.1
abbrev pDe (x : PS) : Nat := x.2.2.2.2.1
abbrev pBr (x : PS) : Nat := x.2.2.2.2.2.1
abbrev pD (x : PS) : List Cl := x.2.2.2.2.2.2.1
abbrev pA (x : PS) : List Tk := x.2.2.2.2.2.2.2.1
abbrev pB (x : PS) : List Tk := x.2.2.2.2.2.2.2.2.1
abbrev pL (x : PS) : List Nat := x.2.2.2.2.2.2.2.2.2
def pE (x : PS) : List Tk := ent (pD x) ++ pA x ++ pB x
def mo_on : List Nat → (Nat → Int32) → Prop
  | [], _ => True
  | x :: l, f => f l.length = nI x ∧ mo_on l f
theorem mo_on_cong : ∀ {l : List Nat} {f g : Nat → Int32}, (∀ i, i < l.length → g i = f i) → mo_on l f → mo_on l g
  | [], _, _, _, _ => trivial
  | x :: l, f, g, h, hs => ⟨(h l.length (by rw [List.length_cons]; omega)).trans hs.1, mo_on_cong (fun i hi => h i (by rw [List.length_cons]; omega)) hs.2⟩
/-- the model's fields: entries E, a place whose token is that of p, parts, depth, what is open -/
def mr (t : Nat → Nat) (n r : Nat) (E : List Tk) (p pa de : Nat) (O : List Nat) (S : Md) : Prop := S.1 24 = 0 ∧ (∃ q, S.1 23 = nI q ∧ q ≤ n ∧ tx_fr t n q = tx_fr t n p) ∧ (S.1 26 = nI E.length ∧ MT S r 0 E) ∧ S.1 27 = nI de ∧ S.1 28 = nI pa ∧ S.1 29 = nI O.length ∧ mo_on O (S.2.2.1 37)
/-- a fault was found -/
def ded (x : PS) (S : Md) : Prop := pF x ≠ 0 ∧ S.1 24 = nI (pF x) ∧ ∃ q, S.1 23 = nI q ∧ q ≤ 500
def pok (n : Nat) (x : PS) : Prop := py_inv n x ∧ py_fb x
theorem pok_rch {t : Nat → Nat} {n : Nat} (hn : n ≤ 400) {x y : PS} (h : py_rch t n x y) (hx : pok n x) : pok n y := h.inv (fun z a b c => ⟨py_inv_at a.1 b c, py_step_b (by have := tx_fr_le (t := t) ((a.1 b).2.2.2.2.2.2.1 c); omega) (by have := (a.1 b).2.2.2.2.2.2.2; omega)⟩) hx
theorem ded.ne {x : PS} {S : Md} {n : Nat} (h : ded x S) (hx : pok n x) : ¬ S.1 24 = 0 := by
  rw [h.2.1]
  exact nI_ne0 (Nat.pos_of_ne_zero h.1) (Nat.lt_of_le_of_lt hx.2 (by decide))
def bhs (st : Nat) : Nat := if st = 1 then 2 else if st = 6 then 7 else 5
/-- y is x with a value, or more, read behind it -/
def vl (x y : PS) : Prop := pF y = 0 ∧ pZ y = bhs (pZ x) ∧ pD y = pD x ∧ pDe y = pDe x ∧ pBr y = pBr x ∧ (pZ x ≠ 1 → pA y = pA x) ∧ pP x < pP y
/-- a value is wanted -/
def wl (t : Nat → Nat) (n r : Nat) (O : List Nat) (x : PS) (S : Md) : Prop := pF x = 0 ∧ (pZ x = 1 ∨ pZ x = 3 ∨ pZ x = 4 ∨ pZ x = 6) ∧ (pZ x = 3 → tx_k t n (tx_fr t n (pP x)) ≠ 9 ∧ tx_k t n (tx_fr t n (pP x)) ≠ 12) ∧ mr t n r (pE x) (pP x) (pPa x) (pDe x) O S
theorem py_put_at {t : Nat → Nat} {n : Nat} {x : PS} (h0 : pF x = 0) (hs : pZ x = 1 ∨ pZ x = 3 ∨ pZ x = 4 ∨ pZ x = 6) (h3 : pZ x = 3 → tx_k t n (tx_fr t n (pP x)) ≠ 9 ∧ tx_k t n (tx_fr t n (pP x)) ≠ 12) : py_at t n (pP x) x = py_put (bhs (pZ x)) (tx_k t n (tx_fr t n (pP x))) (tx_v t n (tx_fr t n (pP x))) (tx_fr t n (pP x)) (tx_e t n (tx_fr t n (pP x))) x := by
  obtain ⟨st, p, fl, pa, de, br, D, A, B, pl⟩ := x
  have hs' : st = 1 ∨ st = 3 ∨ st = 4 ∨ st = 6 := hs
  rcases hs' with rfl | rfl | rfl | rfl
  · rfl
  · unfold py_at
    show (if tx_k t n (tx_fr t n p) ≠ 9 ∧ tx_k t n (tx_fr t n p) ≠ 12 then _ else _) = _
    rw [if_pos (h3 rfl)]
    rfl
  · rfl
  · rfl
theorem c_value {t : Nat → Nat} {n r : Nat} {O : List Nat} {x : PS} {h : ai_H} {S : Md} (hmd : md_at h S) (htx : tx_m t n r S) (hx : pok n x) (hpre : ded x S ∨ wl t n r O x S) : ai_QM MX12_value [.ref 307] h (fun rv g => rv = none ∧ md_ext h g ∧ ∃ T y, md_at g T ∧ pfm r S T ∧ py_rch t n x y ∧ (ded y T ∨ (vl x y ∧ pL y = pL x ∧ mr t n r (pE y) (pP y) (pPa y) (pDe y) O T))) := by
  have hn4 := htx.2.1
  rcases hpre with hd | ⟨h0, hs, h3, m0, ⟨q, mq, mqn, mqf⟩, ⟨m26, mE⟩, m27, m28, m29, m37⟩
  · have hne := hd.ne hx
    obtain ⟨d1, d2, q, d3, d4⟩ := hd
    refine qm_mono ?_ (c_X12_value (E := []) hmd htx d3 d4 (fun z => absurd z hne) (fun z => absurd z hne))
    rintro rv g ⟨a1, a2, T, a3, a4, -, -, -, a8, a9, -⟩
    exact ⟨a1, a2, T, x, a3, a4, py_rch.rf, Or.inl ⟨d1, (a9 hne).trans d2, a8⟩⟩
  · have hI := hx.1 h0
    obtain ⟨ro1, ro2, ro3⟩ := py_room hn4 hI
    have hst9 : pZ x ≠ 9 := by omega
    have hbh : py_bh (pZ x) = 0 := by rcases hs with z | z | z | z <;> rw [z] <;> rfl
    have hElen : (pE x).length < 300 := by
      have : (pE x).length + py_op (pL x) + py_bh (pZ x) ≤ 253 := ro2
      omega
    refine qm_mono ?_ (c_X12_value (E := pE x) hmd htx mq (by omega) (fun _ => ⟨m26, mE, hElen⟩) (fun _ => ⟨pPa x, hI.1.1, m28⟩))
    rintro rv g ⟨a1, a2, T, a3, a4, a5, a6, a7, a8, a9, a10⟩
    have a10 := a10 m0
    rw [mqf] at a10
    have hfr : tx_fr t n (pP x) ≤ n := tx_fr_le (hI.2.2.2.2.2.2.1 hst9)
    have hre : py_rch t n x (py_at t n (pP x) x) := py_rch.one h0 hst9
    have hok := pok_rch hn4 hre hx
    rw [py_put_at h0 hs h3] at hre hok
    have htk := tx_tok (t := t) (n := n) (p := pP x) (hI.2.2.2.2.2.2.1 hst9)
    have hgt := tx_e_gt (t := t) (n := n) (a := tx_fr t n (pP x))
    have hge := tx_fr_ge (t := t) (n := n) (p := pP x)
    generalize tx_fr t n (pP x) = a at a10 hre hfr hok htk hgt hge
    have hp60 : S.1 28 = 60 ↔ pPa x = 60 := by
      rw [m28]
      exact ⟨fun z => tx_eq1 (b := 60) (show pPa x < 1000000 from Nat.lt_of_le_of_lt hI.1.1 (by decide)) (by decide) rfl z, fun z => by rw [z]; rfl⟩
    refine ⟨a1, a2, T, _, a3, a4, hre, ?_⟩
    revert hok
    obtain ⟨st, p, fl, pa, de, br, D, A, B, pl⟩ := x
    intro hok
    have fl0 : fl = 0 := h0
    subst fl0
    have hdead : ∀ c, c ≤ 9 → T.1 24 = nI (1 + 8 * a + c) → ded (py_fail c a (st, p, 0, pa, de, br, D, A, B, pl)) T := fun c _ hT => ⟨by show 1 + 8 * a + c ≠ 0; omega, hT, a8⟩
    have hput : ∀ s : Nat, py_put s (tx_k t n a) (tx_v t n a) a (tx_e t n a) (st, p, 0, pa, de, br, D, A, B, pl) = if tx_k t n a ≠ 0 ∧ tx_k t n a ≠ 1 then py_fail 0 a (st, p, 0, pa, de, br, D, A, B, pl) else if tx_k t n a = 0 ∧ 5 < tx_e t n a - a then py_fail 1 a (st, p, 0, pa, de, br, D, A, B, pl) else if pa = 60 then py_fail 3 a (st, p, 0, pa, de, br, D, A, B, pl) else if s = 2 then (s, tx_e t n a, 0, pa + 1, de, br, D, A ++ [(tx_k t n a, tx_v t n a)], B, pl) else (s, tx_e t n a, 0, pa + 1, de, br, D, A, B ++ [(tx_k t n a, tx_v t n a)], pl) := fun s => rfl
    rw [hput]
    by_cases c1 : tx_k t n a ≠ 0 ∧ tx_k t n a ≠ 1
    · rw [if_pos c1] at a10
      rw [if_pos c1]
      exact Or.inl (hdead 0 (by decide) a10)
    rw [if_neg c1] at a10
    rw [if_neg c1]
    by_cases c2 : tx_k t n a = 0 ∧ 5 < tx_e t n a - a
    · rw [if_pos c2] at a10
      rw [if_pos c2]
      exact Or.inl (hdead 1 (by decide) a10)
    rw [if_neg c2] at a10
    rw [if_neg c2]
    by_cases c3 : S.1 28 = 60
    · rw [if_pos c3] at a10
      have c3' : pa = 60 := hp60.mp c3
      rw [if_pos c3']
      exact Or.inl (hdead 3 (by decide) a10)
    rw [if_neg c3] at a10
    have c3' : ¬ pa = 60 := fun z => c3 (hp60.mpr z)
    rw [if_neg c3']
    right
    obtain ⟨b1, b2, b3, b4, b5⟩ := a10
    have hen : tx_e t n a ≤ n := htk.2.2.1 (by omega)
    have hpx : p ≤ a := hge
    have hm : ∀ E', E' = pE (st, p, 0, pa, de, br, D, A, B, pl) ++ [(tx_k t n a, tx_v t n a)] → mr t n r E' (tx_e t n a) (pa + 1) de O T := fun E' hE' => by
      rw [hE']
      exact ⟨b1, ⟨_, b2, hen, rfl⟩, ⟨b4, b5⟩, a5.trans m27, by rw [b3, m28]; exact nI_1 pa, a6.trans m29, by rw [a7]; exact m37⟩
    have hs' : st = 1 ∨ st = 3 ∨ st = 4 ∨ st = 6 := hs
    rcases hs' with rfl | rfl | rfl | rfl
    · have hB : B = [] := (hI.2.2.2.1.2.1 rfl).1
      subst hB
      rw [show bhs (pZ (1, p, 0, pa, de, br, D, A, ([] : List Tk), pl)) = 2 from rfl, if_pos rfl]
      exact ⟨⟨rfl, rfl, rfl, rfl, rfl, fun z => absurd rfl z, by show p < tx_e t n a; omega⟩, rfl, hm _ (by show ent D ++ (A ++ [(tx_k t n a, tx_v t n a)]) ++ [] = ent D ++ A ++ [] ++ [(tx_k t n a, tx_v t n a)]; simp)⟩
    · rw [show bhs (pZ (3, p, 0, pa, de, br, D, A, B, pl)) = 5 from rfl, if_neg (by decide)]
      exact ⟨⟨rfl, rfl, rfl, rfl, rfl, fun _ => rfl, by show p < tx_e t n a; omega⟩, rfl, hm _ (by simp [pE])⟩
    · rw [show bhs (pZ (4, p, 0, pa, de, br, D, A, B, pl)) = 5 from rfl, if_neg (by decide)]
      exact ⟨⟨rfl, rfl, rfl, rfl, rfl, fun _ => rfl, by show p < tx_e t n a; omega⟩, rfl, hm _ (by simp [pE])⟩
    · rw [show bhs (pZ (6, p, 0, pa, de, br, D, A, B, pl)) = 7 from rfl, if_neg (by decide)]
      exact ⟨⟨rfl, rfl, rfl, rfl, rfl, fun _ => rfl, by show p < tx_e t n a; omega⟩, rfl, hm _ (by simp [pE])⟩
/-- blanks -/
theorem c_bl {t : Nat → Nat} {n r : Nat} {E : List Tk} {p pa de : Nat} {O : List Nat} {x : PS} {h : ai_H} {S : Md} (hmd : md_at h S) (htx : tx_m t n r S) (hpre : ded x S ∨ mr t n r E p pa de O S) : ai_QM MX12_blanks [.ref 307] h (fun rv g => rv = none ∧ md_ext h g ∧ ∃ T, md_at g T ∧ pfm r S T ∧ ((ded x S ∧ ded x T) ∨ (mr t n r E p pa de O S ∧ mr t n r E p pa de O T ∧ T.1 23 = nI (tx_fr t n p) ∧ tx_fr t n p ≤ n))) := by
  have hn4 := htx.2.1
  rcases hpre with hd | hm
  · obtain ⟨d1, d2, q, d3, d4⟩ := id hd
    refine qm_mono ?_ (c_X12_blanks hmd htx d3 d4)
    rintro rv g ⟨a1, a2, T, a3, a4, a5⟩
    exact ⟨a1, a2, T, a3, a4.f (by decide), Or.inl ⟨hd, d1, by rw [a4.1 24 (by decide)]; exact d2, _, a5, tx_fr_500 hn4 d4⟩⟩
  · obtain ⟨m0, ⟨q, mq, mqn, mqf⟩, ⟨m26, mE⟩, m27, m28, m29, m37⟩ := id hm
    refine qm_mono ?_ (c_X12_blanks hmd htx mq (by omega))
    rintro rv g ⟨a1, a2, T, a3, a4, a5⟩
    rw [mqf] at a5
    have hle : tx_fr t n p ≤ n := by rw [← mqf]; exact tx_fr_le mqn
    refine ⟨a1, a2, T, a3, a4.f (by decide), Or.inr ⟨hm, ⟨by rw [a4.1 24 (by decide)]; exact m0, ⟨_, a5, hle, tx_fr_fr⟩, ⟨by rw [a4.1 26 (by decide)]; exact m26, MT_cong mE (fun k _ => by rw [a4.2]; exact ⟨rfl, rfl⟩)⟩, by rw [a4.1 27 (by decide)]; exact m27, by rw [a4.1 28 (by decide)]; exact m28, by rw [a4.1 29 (by decide)]; exact m29, by rw [a4.2]; exact m37⟩, a5, hle⟩⟩
/-- signs and kinds -/
theorem tx_sg_k {t : Nat → Nat} {n a : Nat} (h : a < n) (hc : ¬ (48 ≤ t a ∧ t a ≤ 57)) (hl : ¬ (97 ≤ t a ∧ t a ≤ 122)) : tx_k t n a = tx_sk (t a) (tx_ch t n (a + 1)) ∧ tx_e t n a = if tx_sk (t a) (tx_ch t n (a + 1)) = 5 ∨ tx_sk (t a) (tx_ch t n (a + 1)) = 7 then a + 2 else a + 1 := by
  have h1 : ¬ tx_dg t a = true := fun z => hc (of_decide_eq_true z)
  have h2 : ¬ tx_lt t a = true := fun z => hl (of_decide_eq_true z)
  refine ⟨?_, ?_⟩
  · unfold tx_k; rw [if_neg (by omega), if_neg h1, if_neg h2]
  · unfold tx_e; rw [if_neg (by omega), if_neg h1, if_neg h2]
theorem tx_k_sgn {t : Nat → Nat} {n a k : Nat} (h : tx_k t n a = k) (hk : k = 2 ∨ k = 3 ∨ (4 ≤ k ∧ k ≤ 8) ∨ k = 12 ∨ k = 13 ∨ k = 16 ∨ k = 17) : a < n ∧ tx_sk (t a) (tx_ch t n (a + 1)) = k := by
  unfold tx_k at h
  by_cases h1 : n ≤ a
  · rw [if_pos h1] at h; omega
  rw [if_neg h1] at h
  by_cases h2 : tx_dg t a = true
  · rw [if_pos h2] at h; omega
  rw [if_neg h2] at h
  by_cases h3 : tx_lt t a = true
  · rw [if_pos h3] at h
    exfalso
    revert h
    unfold tx_wk
    repeat' split
    all_goals omega
  · rw [if_neg h3] at h
    exact ⟨by omega, h⟩
theorem tx_sk_c {c d k : Nat} (h : tx_sk c d = k) : (k = 13 → c = 42) ∧ (k = 2 → c = 43) ∧ (k = 3 → c = 45) ∧ (4 ≤ k ∧ k ≤ 8 → c = 60 ∨ c = 61 ∨ c = 62) ∧ (k = 12 → c = 91) ∧ (k = 16 → c = 93) ∧ (k = 17 → c = 59) := by
  subst h
  unfold tx_sk
  repeat' split
  all_goals omega
/-- a join by arithmetic -/
theorem py_arj {t : Nat → Nat} {n : Nat} {y : PS} (hs : pZ y = 2 ∨ pZ y = 5 ∨ pZ y = 7) (hk : tx_k t n (tx_fr t n (pP y)) = 2 ∨ tx_k t n (tx_fr t n (pP y)) = 3 ∨ tx_k t n (tx_fr t n (pP y)) = 13) (hB : pZ y = 2 → pB y = []) : ∃ z, py_at t n (pP y) y = z ∧ pF z = 0 ∧ pZ z = (if pZ y = 2 then 1 else if pZ y = 5 then 4 else 6) ∧ pP z = tx_e t n (tx_fr t n (pP y)) ∧ pPa z = pPa y ∧ pDe z = pDe y - py_nt (py_tw (py_rk (tx_k t n (tx_fr t n (pP y)))) (pL y)) ∧ pBr z = pBr y ∧ pD z = pD y ∧ (pZ y ≠ 2 → pA z = pA y) ∧ pL z = tx_k t n (tx_fr t n (pP y)) :: py_dw (py_rk (tx_k t n (tx_fr t n (pP y)))) (pL y) ∧ pE z = pE y ++ py_tk (py_tw (py_rk (tx_k t n (tx_fr t n (pP y)))) (pL y)) := by
  obtain ⟨st, p, fl, pa, de, br, D, A, B, pl⟩ := y
  have hs' : st = 2 ∨ st = 5 ∨ st = 7 := hs
  unfold py_at
  generalize tx_k t n (tx_fr t n (pP (st, p, fl, pa, de, br, D, A, B, pl))) = k at hk ⊢
  rcases hs' with rfl | rfl | rfl
  · have hB' : B = [] := hB rfl
    subst hB'
    refine ⟨_, rfl, ?_⟩
    show pF (if k = 2 ∨ k = 3 ∨ k = 13 then _ else _) = 0 ∧ _
    rw [show py_step1 k (tx_v t n (tx_fr t n p)) (tx_fr t n p) (tx_e t n (tx_fr t n p)) (2, p, fl, pa, de, br, D, A, [], pl) = py_join 1 k (tx_e t n (tx_fr t n p)) (2, p, fl, pa, de, br, D, A, [], pl) from if_pos hk]
    rw [if_pos hk]
    refine ⟨rfl, rfl, rfl, rfl, rfl, rfl, rfl, fun z => absurd rfl z, rfl, ?_⟩
    show ent D ++ (A ++ py_tk (py_tw (py_rk k) pl)) ++ [] = ent D ++ A ++ [] ++ py_tk (py_tw (py_rk k) pl)
    simp
  · refine ⟨_, rfl, ?_⟩
    show pF (if k = 2 ∨ k = 3 ∨ k = 13 then _ else _) = 0 ∧ _
    rw [show py_step1 k (tx_v t n (tx_fr t n p)) (tx_fr t n p) (tx_e t n (tx_fr t n p)) (5, p, fl, pa, de, br, D, A, B, pl) = py_join 4 k (tx_e t n (tx_fr t n p)) (5, p, fl, pa, de, br, D, A, B, pl) from if_pos hk]
    rw [if_pos hk]
    refine ⟨rfl, rfl, rfl, rfl, rfl, rfl, rfl, fun _ => rfl, rfl, ?_⟩
    show ent D ++ A ++ (B ++ py_tk (py_tw (py_rk k) pl)) = ent D ++ A ++ B ++ py_tk (py_tw (py_rk k) pl)
    simp
  · refine ⟨_, rfl, ?_⟩
    show pF (if k = 2 ∨ k = 3 ∨ k = 13 then _ else _) = 0 ∧ _
    rw [show py_step1 k (tx_v t n (tx_fr t n p)) (tx_fr t n p) (tx_e t n (tx_fr t n p)) (7, p, fl, pa, de, br, D, A, B, pl) = py_join 6 k (tx_e t n (tx_fr t n p)) (7, p, fl, pa, de, br, D, A, B, pl) from if_pos hk]
    rw [if_pos hk]
    refine ⟨rfl, rfl, rfl, rfl, rfl, rfl, rfl, fun _ => rfl, rfl, ?_⟩
    show ent D ++ A ++ (B ++ py_tk (py_tw (py_rk k) pl)) = ent D ++ A ++ B ++ py_tk (py_tw (py_rk k) pl)
    simp
theorem py_nt_hi {r : Nat} (hr : 4 ≤ r) : ∀ l : List Nat, py_nt (py_tw r l) = 0
  | [] => rfl
  | x :: l => by
    by_cases hx : r ≤ py_rk x
    · rw [py_tw_y hx, py_nt_cons, py_nt_hi hr l, if_neg (fun z => by rw [z] at hx; exact absurd hx (by have : py_rk 9 = 3 := rfl; omega))]
    · rw [py_tw_n hx]; rfl
