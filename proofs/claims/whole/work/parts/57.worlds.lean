/-! 57: worlds drawn by seed, class (walks laid by wip/whole/p57.py) -/
/-- the record is drawn anew -/
def tkn (B : Bk) (wk a b : Int32) (k : Nat) : Bool := decide (¬ bk_known B (nI k) wk = 0 ∧ (bk_rat B (nI k) 3 = a ∨ bk_rat B (nI k) 3 = b) ∧ ¬ a = b ∧ ¬ (rK B k).2.2 = 3 ∧ 0 < zc B wk (rK B k) a ∧ 0 < zc B wk (rK B k) b)
theorem tkn_iff {B : Bk} {wk a b : Int32} {k : Nat} : tkn B wk a b k = true ↔ ¬ bk_known B (nI k) wk = 0 ∧ (bk_rat B (nI k) 3 = a ∨ bk_rat B (nI k) 3 = b) ∧ mK B wk a b (rK B k) := by
  unfold tkn mK
  rw [decide_eq_true_eq]
/-- an OBSERVER's own lean, in tenths -/
def leZ (B : Bk) (Ls : Nat → List Cl) (k : Nat) : Int := if bk_oat B (bk_rat B (nI k) 3) 1 = -1 then 0 else (hld (lwv (bkw B (nI k)) (Ls (bk_oat B (bk_rat B (nI k) 3) 1).toNatClampNeg))).toInt / 1000
theorem leZ_b (B : Bk) (Ls : Nat → List Cl) (k : Nat) : -1000 ≤ leZ B Ls k ∧ leZ B Ls k ≤ 999 := by
  unfold leZ
  split
  · omega
  · have := hld_b (lwv (bkw B (nI k)) (Ls (bk_oat B (bk_rat B (nI k) 3) 1).toNatClampNeg))
    omega
def lcZ (x : Int) : Int := (x * 1103515245 + 12345) % 2147483648
def xsZ (p : Nat → Bool) (x : Int) : Nat → Int
  | 0 => x
  | k + 1 => if p k = true then lcZ (xsZ p x k) else xsZ p x k
theorem xsZ_b {p : Nat → Bool} {x : Int} (h : 0 ≤ x ∧ x < 2147483648) : ∀ k, 0 ≤ xsZ p x k ∧ xsZ p x k < 2147483648
  | 0 => h
  | k + 1 => by
    have := xsZ_b (p := p) h k
    rw [xsZ]
    split
    · unfold lcZ; omega
    · exact this
def vaZ (le : Nat → Int) (p : Nat → Bool) (sl : Nat) (x : Int) (k : Nat) : Int := le k + xsZ p x (k + 1) / 65536 % (2 * (sl : Int) + 1) - (sl : Int)
theorem vaZ_b {le : Nat → Int} {p : Nat → Bool} {sl : Nat} {x : Int} (hs : sl ≤ 99) (hl : ∀ k, -1000 ≤ le k ∧ le k ≤ 999) (k : Nat) : -1100 ≤ vaZ le p sl x k ∧ vaZ le p sl x k ≤ 1100 := by
  have h1 := Int.emod_nonneg (xsZ p x (k + 1) / 65536) (show 2 * (sl : Int) + 1 ≠ 0 by omega)
  have h2 := Int.emod_lt_of_pos (xsZ p x (k + 1) / 65536) (show 0 < 2 * (sl : Int) + 1 by omega)
  have := hl k
  unfold vaZ
  omega
def wsZ (p q : Nat → Bool) (v : Nat → Int) : Nat → Int
  | 0 => 0
  | k + 1 => if p k = true ∧ q k = true then wsZ p q v k + v k else wsZ p q v k
theorem wsZ_b {p q : Nat → Bool} {v : Nat → Int} (h : ∀ k, -1100 ≤ v k ∧ v k ≤ 1100) : ∀ n : Nat, -(1100 * (n : Int)) ≤ wsZ p q v n ∧ wsZ p q v n ≤ 1100 * (n : Int)
  | 0 => by show _ ≤ (0 : Int) ∧ (0 : Int) ≤ _; omega
  | n + 1 => by
    have h1 := wsZ_b (p := p) (q := q) h n
    have h2 := h n
    rw [wsZ]
    split <;> omega
theorem aL_rem {a b : Int} (h1 : 0 ≤ a) (h2 : a ≤ 9223372036854775807) (h3 : 0 ≤ b) (h4 : b ≤ 9223372036854775807) : aL a - aL a / aL b * aL b = aL (a % b) := by
  rw [aL_quo h1 h2 h3 h4, aL_mul, aL_sub]
  have := Int.emod_add_mul_ediv a b
  exact congrArg aL (by rw [Int.mul_comm (a / b) b]; omega)
theorem lc_is {x : Int} (h : 0 ≤ x ∧ x < 2147483648) : aL x * 1103515245 + 12345 - (aL x * 1103515245 + 12345) / 2147483648 * 2147483648 = aL (lcZ x) := by
  rw [show (1103515245 : Int64) = aL 1103515245 from rfl, show (12345 : Int64) = aL 12345 from rfl, show (2147483648 : Int64) = aL 2147483648 from rfl, aL_mul, aL_add, aL_rem (by omega) (by omega) (by omega) (by omega)]
  rfl
theorem dr_is {x l : Int} {sl : Nat} (h : 0 ≤ x ∧ x < 2147483648) (hs : sl ≤ 99) : aL l + (aL x / 65536 - aL x / 65536 / (2 * nI sl + 1).toInt64 * (2 * nI sl + 1).toInt64) - (nI sl).toInt64 = aL (l + x / 65536 % (2 * (sl : Int) + 1) - (sl : Int)) := by
  rw [show (65536 : Int64) = aL 65536 from rfl, aL_quo (by omega) (by omega) (by omega) (by omega), nI_i2l (by omega), show (2 : Int32) * nI sl + 1 = aI (2 * (sl : Int) + 1) from by rw [← aI_nat, show (2 : Int32) = aI 2 from rfl, show (1 : Int32) = aI 1 from rfl, aI_mul, aI_add], aI_i2l (by omega) (by omega), aL_rem (by omega) (by omega) (by omega) (by omega), aL_add, aL_sub]
theorem dif_z {sa sb : Int} {na nb : Nat} (ha : 1 ≤ na) (ha2 : na ≤ 400) (hb : 1 ≤ nb) (hb2 : nb ≤ 400) (h1 : -440000 ≤ sa) (h2 : sa ≤ 440000) (h3 : -440000 ≤ sb) (h4 : sb ≤ 440000) : cl_less (aL sa) (nI na).toInt64 (aL sb) (nI nb).toInt64 = aL (zdif sa na sb nb) ∧ ms_dif (aL sa) (nI na) (aL sb) (nI nb) = aL (zdif sa na sb nb) ∧ -880000000 ≤ zdif sa na sb nb ∧ zdif sa na sb nb ≤ 880000000 := by
  have hz := zdif_b (M := 440000) (sa := sa) (na := na) (sb := sb) (nb := nb) (by omega) (by omega) (by omega) (by omega) (by omega) (by omega) (by omega)
  have hm : ((na : Int) * (nb : Int)) ≤ 160000 := by
    have : na * nb ≤ 400 * 400 := Nat.mul_le_mul ha2 hb2
    have e : ((na : Int) * (nb : Int)) = ((na * nb : Nat) : Int) := by rw [Int.natCast_mul]
    omega
  unfold cl_less ms_dif
  rw [nI_i2l (by omega), nI_i2l (by omega), show (1000 : Int64) = aL 1000 from rfl, aL_mul, aL_mul, aL_mul, aL_sub, aL_mul]
  have hne : ¬ aL ((na : Int) * (nb : Int)) = 0 := by
    rw [show (0 : Int64) = aL 0 from rfl, aL_eq (by omega) (by omega) (by omega) (by omega)]
    omega
  rw [if_neg hne, aL_fd (by omega) (by omega) (by omega) (by omega), aL_fl (by omega) (by omega) (by omega) (by omega)]
  exact ⟨rfl, rfl, by omega, by omega⟩
def qKo (B : Bk) (K : Int32 × Int32 × Int32) (o : Int32) (k : Nat) : Bool := decide (rK B k = K ∧ bk_rat B (nI k) 3 = o)
/-- of a world drawn from x: sums, and what two differ by at a key -/
def wKo (B : Bk) (Ls : Nat → List Cl) (wk a b : Int32) (sl : Nat) (x : Int) (n : Nat) (K : Int32 × Int32 × Int32) (o : Int32) : Int := wsZ (tkn B wk a b) (qKo B K o) (vaZ (leZ B Ls) (tkn B wk a b) sl x) n
theorem wKo_b {B : Bk} {Ls : Nat → List Cl} {wk a b : Int32} {sl : Nat} {x : Int} {n : Nat} {K : Int32 × Int32 × Int32} {o : Int32} (hs : sl ≤ 99) (hn : n ≤ 400) : -440000 ≤ wKo B Ls wk a b sl x n K o ∧ wKo B Ls wk a b sl x n K o ≤ 440000 := by
  have := wsZ_b (p := tkn B wk a b) (q := qKo B K o) (vaZ_b (le := leZ B Ls) (p := tkn B wk a b) (x := x) hs (leZ_b B Ls)) n
  unfold wKo
  omega
def fKo (B : Bk) (Ls : Nat → List Cl) (wk a b : Int32) (sl : Nat) (x : Int) (K : Int32 × Int32 × Int32) : Int := zdif (wKo B Ls wk a b sl x (nR B) K a) (zc B wk K a) (wKo B Ls wk a b sl x (nR B) K b) (zc B wk K b)
theorem wsZ_cong {p q q2 : Nat → Bool} {v : Nat → Int} : ∀ n, (∀ k, k < n → q k = q2 k) → wsZ p q v n = wsZ p q2 v n
  | 0, _ => rfl
  | n + 1, h => by rw [wsZ, wsZ, wsZ_cong n (fun k hk => h k (by omega)), h n (by omega)]
/-- how many of the worlds are good, and where the drawing stands -/
def drZ (B : Bk) (Ls : Nat → List Cl) (wk a b : Int32) (sl : Nat) (x : Int) (L : List (Int32 × Int32 × Int32)) : Nat → Nat × Int
  | 0 => (0, x)
  | w + 1 => ((drZ B Ls wk a b sl x L w).1 + (if 0 < zsum (L.map (fKo B Ls wk a b sl (drZ B Ls wk a b sl x L w).2)) / (L.length : Int) then 1 else 0), xsZ (tkn B wk a b) (drZ B Ls wk a b sl x L w).2 (nR B))
theorem drZ_b {B : Bk} {Ls : Nat → List Cl} {wk a b : Int32} {sl : Nat} {x : Int} {L : List (Int32 × Int32 × Int32)} (h : 0 ≤ x ∧ x < 2147483648) : ∀ w, (drZ B Ls wk a b sl x L w).1 ≤ w ∧ 0 ≤ (drZ B Ls wk a b sl x L w).2 ∧ (drZ B Ls wk a b sl x L w).2 < 2147483648
  | 0 => ⟨Nat.le_refl 0, h⟩
  | w + 1 => by
    have := drZ_b (B := B) (Ls := Ls) (wk := wk) (a := a) (b := b) (sl := sl) (L := L) h w
    refine ⟨?_, xsZ_b this.2 _⟩
    show (drZ B Ls wk a b sl x L w).1 + _ ≤ w + 1
    split <;> omega
theorem drZ_perm {B : Bk} {Ls : Nat → List Cl} {wk a b : Int32} {sl : Nat} {x : Int} {L M : List (Int32 × Int32 × Int32)} (h : L.Perm M) : ∀ w, drZ B Ls wk a b sl x L w = drZ B Ls wk a b sl x M w
  | 0 => rfl
  | w + 1 => by rw [drZ, drZ, drZ_perm h w, zsum_perm (h.map _), h.length_eq]
def uu_later (B : Bk) (Ls : Nat → List Cl) (wk a b : Int32) (sl n : Nat) (x : Int) (L : List (Int32 × Int32 × Int32)) : Int32 := if L = [] then -2 else nI (drZ B Ls wk a b sl x L n).1
theorem later_perm {B : Bk} {Ls : Nat → List Cl} {wk a b : Int32} {sl n : Nat} {x : Int} {L M : List (Int32 × Int32 × Int32)} (h : L.Perm M) : uu_later B Ls wk a b sl n x L = uu_later B Ls wk a b sl n x M := by
  unfold uu_later
  rw [drZ_perm h]
  by_cases c : L = []
  · rw [if_pos c, if_pos (by rw [c] at h; exact h.nil_eq.symm)]
  · rw [if_neg c, if_neg (fun z => c (by rw [z] at h; exact h.eq_nil))]
/-- taken, as the class keeps them -/
def WT (B : Bk) (Ls : Nat → List Cl) (wk a b : Int32) (Sc : Md) (z n : Nat) (S : Md) : Prop := S.1 1 = a ∧ S.1 2 = b ∧ S.1 3 = nI (cN (tkn B wk a b) n) ∧ ∀ r, r < n → tkn B wk a b r = true → ∃ c, c < z ∧ gm B Sc c r ∧ S.2.2.1 5 (cN (tkn B wk a b) r) = nI c ∧ S.2.2.1 6 (cN (tkn B wk a b) r) = aI (leZ B Ls r)
theorem cN_lt {p : Nat → Bool} {r : Nat} (hr : p r = true) : ∀ n, r < n → cN p r < cN p n
  | 0, h => absurd h (Nat.not_lt_zero r)
  | n + 1, h => by
    rw [cN]
    by_cases e : r = n
    · subst e; rw [if_pos hr]; omega
    · have := cN_lt hr n (by omega)
      split <;> omega
theorem WT_n {B : Bk} {Ls : Nat → List Cl} {wk a b : Int32} {Sc : Md} {z n : Nat} {S : Md} (h : WT B Ls wk a b Sc z n S) (hn : ¬ tkn B wk a b n = true) : WT B Ls wk a b Sc z (n + 1) S := by
  obtain ⟨h1, h2, h3, h4⟩ := h
  refine ⟨h1, h2, by rw [cN, if_neg hn]; exact h3, fun r hr hp => ?_⟩
  by_cases e : r = n
  · subst e; exact absurd hp hn
  · exact h4 r (by omega) hp
theorem WT_y {B : Bk} {Ls : Nat → List Cl} {wk a b : Int32} {Sc : Md} {z n c : Nat} {S T : Md} (h : WT B Ls wk a b Sc z n S) (hn : tkn B wk a b n = true) (hc : c < z) (hk : gm B Sc c n) (t1 : T.1 1 = S.1 1) (t2 : T.1 2 = S.1 2) (t3 : T.1 3 = nI (cN (tkn B wk a b) n + 1)) (t4 : T.2.2.1 5 = upd (S.2.2.1 5) (cN (tkn B wk a b) n) (nI c)) (t5 : T.2.2.1 6 = upd (S.2.2.1 6) (cN (tkn B wk a b) n) (aI (leZ B Ls n))) : WT B Ls wk a b Sc z (n + 1) T := by
  obtain ⟨h1, h2, h3, h4⟩ := h
  refine ⟨t1.trans h1, t2.trans h2, by rw [cN, if_pos hn]; exact t3, fun r hr hp => ?_⟩
  by_cases e : r = n
  · subst e
    refine ⟨c, hc, hk, ?_, ?_⟩
    · rw [t4]; exact if_pos rfl
    · rw [t5]; exact if_pos rfl
  · have hlt := cN_lt hp n (by omega)
    obtain ⟨d, d1, d2, d3, d4⟩ := h4 r (by omega) hp
    refine ⟨d, d1, d2, ?_, ?_⟩
    · rw [t4, show upd (S.2.2.1 5) (cN (tkn B wk a b) n) _ (cN (tkn B wk a b) r) = S.2.2.1 5 (cN (tkn B wk a b) r) from if_neg (by omega)]; exact d3
    · rw [t5, show upd (S.2.2.1 6) (cN (tkn B wk a b) n) _ (cN (tkn B wk a b) r) = S.2.2.1 6 (cN (tkn B wk a b) r) from if_neg (by omega)]; exact d4
/-- the sums of a world, as the class keeps them -/
def WSm (B : Bk) (Ls : Nat → List Cl) (wk a b : Int32) (sl : Nat) (x : Int) (Sc : Md) (z n : Nat) (S : Md) : Prop := S.2.1 = aL (xsZ (tkn B wk a b) x n) ∧ ∀ c, c < z → S.2.2.2 7 c = aL (wKo B Ls wk a b sl x n (kC Sc c) (Sc.2.2.1 7 c))
theorem WSm_n {B : Bk} {Ls : Nat → List Cl} {wk a b : Int32} {sl : Nat} {x : Int} {Sc : Md} {z n : Nat} {S : Md} (h : WSm B Ls wk a b sl x Sc z n S) (hn : ¬ tkn B wk a b n = true) : WSm B Ls wk a b sl x Sc z (n + 1) S := by
  refine ⟨by rw [xsZ, if_neg hn]; exact h.1, fun c hc => ?_⟩
  unfold wKo
  rw [wsZ, if_neg (fun z => hn z.1)]
  exact h.2 c hc
theorem WSm_y {B : Bk} {Ls : Nat → List Cl} {wk a b : Int32} {sl : Nat} {x : Int} {Sc : Md} {z n c : Nat} {S T : Md} (h : WSm B Ls wk a b sl x Sc z n S) (hinj : ∀ d, d < z → kC Sc d = kC Sc c → Sc.2.2.1 7 d = Sc.2.2.1 7 c → d = c) (hn : tkn B wk a b n = true) (hk : gm B Sc c n) (t1 : T.2.1 = aL (lcZ (xsZ (tkn B wk a b) x n))) (t2 : T.2.2.2 7 = vp_updL (S.2.2.2 7) c (S.2.2.2 7 c + aL (vaZ (leZ B Ls) (tkn B wk a b) sl x n))) : WSm B Ls wk a b sl x Sc z (n + 1) T := by
  refine ⟨by rw [xsZ, if_pos hn]; exact t1, fun d hd => ?_⟩
  have h1 := h.2 d hd
  unfold wKo at h1 ⊢
  rw [wsZ, t2]
  by_cases e : d = c
  · subst e
    rw [if_pos ⟨hn, decide_eq_true ⟨hk.1.symm, hk.2.symm⟩⟩, show vp_updL (S.2.2.2 7) d _ d = _ from if_pos rfl, h1, aL_add]
  · rw [if_neg (fun y => e ?_), show vp_updL (S.2.2.2 7) c _ d = S.2.2.2 7 d from if_neg e]
    · exact h1
    · have y2 := of_decide_eq_true y.2
      exact hinj d hd (y2.1.symm.trans hk.1.symm) (y2.2.symm.trans hk.2.symm)
/-- c is of oa: it has one beside it of ob just where both saw -/
theorem met_mK {B : Bk} {wk : Int32} {Sc : Md} {z c : Nat} {oa ob : Int32} (hG : GI B wk Sc (nR B) z) (hc : c < z) (e : Sc.2.2.1 7 c = oa) : ¬ cl_met Sc z c ob = -1 ↔ ¬ (kC Sc c).2.2 = 3 ∧ 0 < zc B wk (kC Sc c) oa ∧ 0 < zc B wk (kC Sc c) ob := by
  have hp := cell_pos hG hc
  rw [e] at hp
  unfold cl_met
  by_cases w : Sc.2.2.1 6 c = 3
  · rw [if_pos w]
    exact ⟨fun y => absurd rfl y, fun y => absurd w y.1⟩
  · rw [if_neg w, mo_zc hG]
    exact ⟨fun y => ⟨w, hp, y⟩, fun y => y.2.2⟩
theorem lessM_at {S : Md} {z c d : Nat} {a b : Int64} (hch : cl_ch S z) (hc : c < z) (hd : d < z) : cl_lessM S (nI c) a (nI d) b = cl_less a (S.2.2.1 8 c).toInt64 b (S.2.2.1 8 d).toInt64 := by
  have hz4 := hch.2.1
  unfold cl_lessM
  rw [has_1 hch.1 hz4 hc, has_1 hch.1 hz4 hd, if_neg (by decide), if_neg (by decide), nI_clamp (by omega), nI_clamp (by omega)]
def ow (h g : ai_H) : Prop := g.1 = h.1 ∧ g.2.1 = h.2.1 ∧ ∀ j, (j < 301 ∨ 305 < j) → g.2.2 j = h.2.2 j
theorem ow.rf {h : ai_H} : ow h h := ⟨rfl, rfl, fun _ _ => rfl⟩
theorem ow.trans {h g k : ai_H} (a : ow h g) (b : ow g k) : ow h k := ⟨b.1.trans a.1, b.2.1.trans a.2.1, fun j hj => (b.2.2 j hj).trans (a.2.2 j hj)⟩
theorem ow_of {h g : ai_H} {q : Nat} (m : g.1 = h.1) (s : g.2.1 = h.2.1) (o : ∀ j, j ≠ q → g.2.2 j = h.2.2 j) (hq : 301 ≤ q ∧ q ≤ 305) : ow h g := ⟨m, s, fun j hj => o j (by omega)⟩
def ov (h g : ai_H) : Prop := g.1 = h.1 ∧ g.2.1 = h.2.1 ∧ ∀ j, (j < 301 ∨ 304 < j) → g.2.2 j = h.2.2 j
theorem ov.rf {h : ai_H} : ov h h := ⟨rfl, rfl, fun _ _ => rfl⟩
theorem ov.trans {h g k : ai_H} (a : ov h g) (b : ov g k) : ov h k := ⟨b.1.trans a.1, b.2.1.trans a.2.1, fun j hj => (b.2.2 j hj).trans (a.2.2 j hj)⟩
theorem ov_of {h g : ai_H} {q : Nat} (m : g.1 = h.1) (s : g.2.1 = h.2.1) (o : ∀ j, j ≠ q → g.2.2 j = h.2.2 j) (hq : 301 ≤ q ∧ q ≤ 304) : ov h g := ⟨m, s, fun j hj => o j (by omega)⟩
theorem ov.w {h g : ai_H} (a : ov h g) : ow h g := ⟨a.1, a.2.1, fun j hj => a.2.2 j (by omega)⟩
theorem md_dl_i (S : Md) (v : Int64) : (md_dl S v).2.2.1 = S.2.2.1 := rfl
abbrev wq_at (h : ai_H) (S : Md) : Prop := wo_at (.ref 22) h S
theorem wo_c {c : Value} {h g : ai_H} {S : Md} (hm : wo_at c h S) (m : g.1 = h.1) (e : g.2.2 301 = .inr (10, (wo_fs c S).set 0 (.ref 22))) (o : ∀ j, j ≠ 301 → g.2.2 j = h.2.2 j) : wo_at (.ref 22) g S := ⟨by rw [m]; exact hm.1, e, fun d q hq => (o _ (by omega)).trans (hm.2.2 d q hq)⟩
theorem qw_add {h : ai_H} {c : Value} {S : Md} {t : Ty} (hwo : wo_at c h S) (hta : h.2.2 305 = ty_cell t) (hq : 305 < h.1) (x : Int64) : ai_QM MX9_add [.ref 305, .long x] h (fun r g => r = none ∧ fr 305 305 h g ∧ g.2.2 305 = ty_cell (ty_add t x)) :=
  ⟨none, ai_set h 305 (ty_cell (ty_add t x)), ⟨rfl, ⟨rfl, rfl, fun j hj => ai_set_ne (by omega)⟩, ai_set_get⟩, c_X9_add hq hta x⟩
theorem qw_clear {h : ai_H} {t : Ty} (hta : h.2.2 305 = ty_cell t) (hq : 305 < h.1) : ai_QM MX9_clear [.ref 305] h (fun r g => r = none ∧ fr 305 305 h g ∧ g.2.2 305 = ty_cell (0, 0, 0, 0)) :=
  ⟨none, ai_set h 305 (ty_cell (0, 0, 0, 0)), ⟨rfl, ⟨rfl, rfl, fun j hj => ai_set_ne (by omega)⟩, ai_set_get⟩, c_X9_clear hq hta⟩
theorem dX10_begin_0 : decode cX10_begin 0 = .ok (.aload_n 0, 1) := by decide +kernel
theorem dX10_begin_1 : decode cX10_begin 1 = .ok (.aload_n 1, 1) := by decide +kernel
theorem dX10_begin_2 : decode cX10_begin 2 = .ok (.putfield 9, 3) := by decide +kernel
theorem dX10_begin_5 : decode cX10_begin 5 = .ok (.aload_n 0, 1) := by decide +kernel
theorem dX10_begin_6 : decode cX10_begin 6 = .ok (.iload_n 2, 1) := by decide +kernel
theorem dX10_begin_7 : decode cX10_begin 7 = .ok (.putfield 15, 3) := by decide +kernel
theorem dX10_begin_10 : decode cX10_begin 10 = .ok (.aload_n 0, 1) := by decide +kernel
theorem dX10_begin_11 : decode cX10_begin 11 = .ok (.iload_n 3, 1) := by decide +kernel
theorem dX10_begin_12 : decode cX10_begin 12 = .ok (.putfield 19, 3) := by decide +kernel
theorem dX10_begin_15 : decode cX10_begin 15 = .ok (.aload_n 0, 1) := by decide +kernel
theorem dX10_begin_16 : decode cX10_begin 16 = .ok (.iconst 0, 1) := by decide +kernel
theorem dX10_begin_17 : decode cX10_begin 17 = .ok (.putfield 22, 3) := by decide +kernel
theorem dX10_begin_20 : decode cX10_begin 20 = .ok (.return_, 1) := by decide +kernel
set_option maxRecDepth 100000 in
set_option maxHeartbeats 4000000 in
theorem c_X10_begin {h : ai_H} {c : Value} {S : Md} (hwo : wo_at c h S) (a b : Int32) : ai_QM MX10_begin [.ref 301, .ref 22, .int a, .int b] h (fun r g => r = none ∧ ov h g ∧ ∃ S', wq_at g S' ∧ S'.1 1 = a ∧ S'.1 2 = b ∧ S'.1 3 = 0) := by
  refine qm_of (ls := [.ref 301, .ref 22, .int a, .int b]) (by decide) (by simp [ai_en, Value.category]) (by rfl) ?_
  refine wq (fun _ _ kk => rs_aload_n (pc := 0) dX10_begin_0 rfl kk) ?_
  refine wq (fun _ _ kk => rs_aload_n (pc := 1) dX10_begin_1 rfl kk) ?_
  refine wq (fun _ _ kk => rs_putf (pc := 2) dX10_begin_2 fX10_9 (mo_lt hwo (by decide)) hwo.2.1 rfl (Nat.le_of_ble_eq_true rfl) kk) ?_
  refine wq_gen (fun h_1 e_1 => ?_)
  obtain ⟨m_1, s_1, g_1, o_1⟩ := ai_e1 e_1
  replace g_1 : h_1.2.2 301 = .inr (10, [_, _, _, _, _, _, _, _, _]) := g_1
  replace hwo := wo_c hwo m_1 g_1 o_1
  have E_1 := (ov.rf).trans (ov_of m_1 s_1 o_1 (by decide))
  refine wq (fun _ _ kk => rs_aload_n (pc := 5) dX10_begin_5 rfl kk) ?_
  refine wq (fun _ _ kk => rs_iload_n (pc := 6) dX10_begin_6 rfl kk) ?_
  refine wq (fun _ _ kk => rs_putf (pc := 7) dX10_begin_7 fX10_15 (mo_lt hwo (by decide)) hwo.2.1 rfl (Nat.le_of_ble_eq_true rfl) kk) ?_
  refine wq_gen (fun h_2 e_2 => ?_)
  obtain ⟨m_2, s_2, g_2, o_2⟩ := ai_e1 e_2
  replace g_2 : h_2.2.2 301 = .inr (10, [_, _, _, _, _, _, _, _, _]) := g_2
  replace hwo := mo_si (k := 1) hwo m_2 g_2 o_2 rfl
  have E_2 := (E_1).trans (ov_of m_2 s_2 o_2 (by decide))
  refine wq (fun _ _ kk => rs_aload_n (pc := 10) dX10_begin_10 rfl kk) ?_
  refine wq (fun _ _ kk => rs_iload_n (pc := 11) dX10_begin_11 rfl kk) ?_
  refine wq (fun _ _ kk => rs_putf (pc := 12) dX10_begin_12 fX10_19 (mo_lt hwo (by decide)) hwo.2.1 rfl (Nat.le_of_ble_eq_true rfl) kk) ?_
  refine wq_gen (fun h_3 e_3 => ?_)
  obtain ⟨m_3, s_3, g_3, o_3⟩ := ai_e1 e_3
  replace g_3 : h_3.2.2 301 = .inr (10, [_, _, _, _, _, _, _, _, _]) := g_3
  replace hwo := mo_si (k := 2) hwo m_3 g_3 o_3 rfl
  have E_3 := (E_2).trans (ov_of m_3 s_3 o_3 (by decide))
  refine wq (fun _ _ kk => rs_aload_n (pc := 15) dX10_begin_15 rfl kk) ?_
  refine wq (fun _ _ kk => rs_iconst (v := 0) (pc := 16) dX10_begin_16 rfl kk) ?_
  refine wq (fun _ _ kk => rs_putf (pc := 17) dX10_begin_17 fX10_22 (mo_lt hwo (by decide)) hwo.2.1 rfl (Nat.le_of_ble_eq_true rfl) kk) ?_
  refine wq_gen (fun h_4 e_4 => ?_)
  obtain ⟨m_4, s_4, g_4, o_4⟩ := ai_e1 e_4
  replace g_4 : h_4.2.2 301 = .inr (10, [_, _, _, _, _, _, _, _, _]) := g_4
  replace hwo := mo_si (k := 3) hwo m_4 g_4 o_4 rfl
  have E_4 := (E_3).trans (ov_of m_4 s_4 o_4 (by decide))
  refine wq_ret ?_ (rs_vret (pc := 20) dX10_begin_20 rfl)
  exact ⟨rfl, E_4, _, hwo, rfl, rfl, rfl⟩
theorem dX10_take_0 : decode cX10_take 0 = .ok (.aload_n 0, 1) := by decide +kernel
theorem dX10_take_1 : decode cX10_take 1 = .ok (.getfield 9, 3) := by decide +kernel
theorem dX10_take_4 : decode cX10_take 4 = .ok (.ifnull 24, 3) := by decide +kernel
theorem dX10_take_7 : decode cX10_take 7 = .ok (.aload_n 0, 1) := by decide +kernel
theorem dX10_take_8 : decode cX10_take 8 = .ok (.getfield 22, 3) := by decide +kernel
theorem dX10_take_11 : decode cX10_take 11 = .ok (.sipush 400, 3) := by decide +kernel
theorem dX10_take_14 : decode cX10_take 14 = .ok (.if_icmp .ge 14, 3) := by decide +kernel
theorem dX10_take_17 : decode cX10_take 17 = .ok (.iload_n 1, 1) := by decide +kernel
theorem dX10_take_18 : decode cX10_take 18 = .ok (.iconst 0, 1) := by decide +kernel
theorem dX10_take_19 : decode cX10_take 19 = .ok (.sipush 399, 3) := by decide +kernel
theorem dX10_take_22 : decode cX10_take 22 = .ok (.invokestatic 47, 3) := by decide +kernel
theorem dX10_take_25 : decode cX10_take 25 = .ok (.ifCond .ne 4, 3) := by decide +kernel
theorem dX10_take_28 : decode cX10_take 28 = .ok (.return_, 1) := by decide +kernel
theorem dX10_take_29 : decode cX10_take 29 = .ok (.aload_n 0, 1) := by decide +kernel
theorem dX10_take_30 : decode cX10_take 30 = .ok (.getfield 9, 3) := by decide +kernel
theorem dX10_take_33 : decode cX10_take 33 = .ok (.getfield 51, 3) := by decide +kernel
theorem dX10_take_36 : decode cX10_take 36 = .ok (.iload_n 1, 1) := by decide +kernel
theorem dX10_take_37 : decode cX10_take 37 = .ok (.iaload, 1) := by decide +kernel
theorem dX10_take_38 : decode cX10_take 38 = .ok (.istore_n 3, 1) := by decide +kernel
theorem dX10_take_39 : decode cX10_take 39 = .ok (.aload_n 0, 1) := by decide +kernel
theorem dX10_take_40 : decode cX10_take 40 = .ok (.getfield 9, 3) := by decide +kernel
theorem dX10_take_43 : decode cX10_take 43 = .ok (.iload_n 3, 1) := by decide +kernel
theorem dX10_take_44 : decode cX10_take 44 = .ok (.aload_n 0, 1) := by decide +kernel
theorem dX10_take_45 : decode cX10_take 45 = .ok (.getfield 15, 3) := by decide +kernel
theorem dX10_take_48 : decode cX10_take 48 = .ok (.invokevirtual 56, 3) := by decide +kernel
theorem dX10_take_51 : decode cX10_take 51 = .ok (.ifCond .eq 19, 3) := by decide +kernel
theorem dX10_take_54 : decode cX10_take 54 = .ok (.aload_n 0, 1) := by decide +kernel
theorem dX10_take_55 : decode cX10_take 55 = .ok (.getfield 9, 3) := by decide +kernel
theorem dX10_take_58 : decode cX10_take 58 = .ok (.iload_n 3, 1) := by decide +kernel
theorem dX10_take_59 : decode cX10_take 59 = .ok (.aload_n 0, 1) := by decide +kernel
theorem dX10_take_60 : decode cX10_take 60 = .ok (.getfield 19, 3) := by decide +kernel
theorem dX10_take_63 : decode cX10_take 63 = .ok (.invokevirtual 60, 3) := by decide +kernel
theorem dX10_take_66 : decode cX10_take 66 = .ok (.iconst (-1), 1) := by decide +kernel
theorem dX10_take_67 : decode cX10_take 67 = .ok (.if_icmp .ne 34, 3) := by decide +kernel
theorem dX10_take_70 : decode cX10_take 70 = .ok (.aload_n 0, 1) := by decide +kernel
theorem dX10_take_71 : decode cX10_take 71 = .ok (.getfield 9, 3) := by decide +kernel
theorem dX10_take_74 : decode cX10_take 74 = .ok (.iload_n 3, 1) := by decide +kernel
theorem dX10_take_75 : decode cX10_take 75 = .ok (.aload_n 0, 1) := by decide +kernel
theorem dX10_take_76 : decode cX10_take 76 = .ok (.getfield 19, 3) := by decide +kernel
theorem dX10_take_79 : decode cX10_take 79 = .ok (.invokevirtual 56, 3) := by decide +kernel
theorem dX10_take_82 : decode cX10_take 82 = .ok (.ifCond .eq 23, 3) := by decide +kernel
theorem dX10_take_85 : decode cX10_take 85 = .ok (.aload_n 0, 1) := by decide +kernel
theorem dX10_take_86 : decode cX10_take 86 = .ok (.getfield 9, 3) := by decide +kernel
theorem dX10_take_89 : decode cX10_take 89 = .ok (.iload_n 3, 1) := by decide +kernel
theorem dX10_take_90 : decode cX10_take 90 = .ok (.aload_n 0, 1) := by decide +kernel
theorem dX10_take_91 : decode cX10_take 91 = .ok (.getfield 15, 3) := by decide +kernel
theorem dX10_take_94 : decode cX10_take 94 = .ok (.invokevirtual 60, 3) := by decide +kernel
theorem dX10_take_97 : decode cX10_take 97 = .ok (.iconst (-1), 1) := by decide +kernel
theorem dX10_take_98 : decode cX10_take 98 = .ok (.if_icmp .eq 7, 3) := by decide +kernel
theorem dX10_take_101 : decode cX10_take 101 = .ok (.iconst 1, 1) := by decide +kernel
theorem dX10_take_102 : decode cX10_take 102 = .ok (.goto 4, 3) := by decide +kernel
theorem dX10_take_105 : decode cX10_take 105 = .ok (.iconst 0, 1) := by decide +kernel
theorem dX10_take_106 : decode cX10_take 106 = .ok (.istore 4, 2) := by decide +kernel
theorem dX10_take_108 : decode cX10_take 108 = .ok (.iload 4, 2) := by decide +kernel
theorem dX10_take_110 : decode cX10_take 110 = .ok (.ifCond .eq 33, 3) := by decide +kernel
theorem dX10_take_113 : decode cX10_take 113 = .ok (.aload_n 0, 1) := by decide +kernel
theorem dX10_take_114 : decode cX10_take 114 = .ok (.getfield 29, 3) := by decide +kernel
theorem dX10_take_117 : decode cX10_take 117 = .ok (.aload_n 0, 1) := by decide +kernel
theorem dX10_take_118 : decode cX10_take 118 = .ok (.getfield 22, 3) := by decide +kernel
theorem dX10_take_121 : decode cX10_take 121 = .ok (.iload_n 3, 1) := by decide +kernel
theorem dX10_take_122 : decode cX10_take 122 = .ok (.iastore, 1) := by decide +kernel
theorem dX10_take_123 : decode cX10_take 123 = .ok (.aload_n 0, 1) := by decide +kernel
theorem dX10_take_124 : decode cX10_take 124 = .ok (.getfield 33, 3) := by decide +kernel
theorem dX10_take_127 : decode cX10_take 127 = .ok (.aload_n 0, 1) := by decide +kernel
theorem dX10_take_128 : decode cX10_take 128 = .ok (.getfield 22, 3) := by decide +kernel
theorem dX10_take_131 : decode cX10_take 131 = .ok (.iload_n 2, 1) := by decide +kernel
theorem dX10_take_132 : decode cX10_take 132 = .ok (.iastore, 1) := by decide +kernel
theorem dX10_take_133 : decode cX10_take 133 = .ok (.aload_n 0, 1) := by decide +kernel
theorem dX10_take_134 : decode cX10_take 134 = .ok (.dup, 1) := by decide +kernel
theorem dX10_take_135 : decode cX10_take 135 = .ok (.getfield 22, 3) := by decide +kernel
theorem dX10_take_138 : decode cX10_take 138 = .ok (.iconst 1, 1) := by decide +kernel
theorem dX10_take_139 : decode cX10_take 139 = .ok (.iadd, 1) := by decide +kernel
theorem dX10_take_140 : decode cX10_take 140 = .ok (.putfield 22, 3) := by decide +kernel
theorem dX10_take_143 : decode cX10_take 143 = .ok (.return_, 1) := by decide +kernel
set_option maxRecDepth 100000 in
set_option maxHeartbeats 4000000 in
theorem c_X10_take {h : ai_H} {B : Bk} {ln ia ib z n : Nat} {Ls : Nat → List Cl} {wk : Int32} {Sc : Md} (hok : bk_ok B ln) (hG : GI B wk Sc (nR B) z) (hia : ia < 16) (hib : ib < 16) (hij : ia ≠ ib) {S : Md} (hn : n < nR B) (hcl : cl_at h Sc) (hwo : wq_at h S) (hW : WT B Ls wk (nI ia) (nI ib) Sc z n S) : ai_QM MX10_take [.ref 301, .int (nI n), .int (aI (leZ B Ls n))] h (fun r g => r = none ∧ ov h g ∧ ∃ S', wq_at g S' ∧ WT B Ls wk (nI ia) (nI ib) Sc z (n + 1) S') := by
  have hr4 := hok.2.2.2.2.1.2.1
  have hcn := cN_le (tkn B wk (nI ia) (nI ib)) n
  have hz4 := hG.1.2.1
  have hab : ¬ nI ia = nI ib := fun y => hij (nI_inj (by omega) (by omega) y)
  refine qm_of (ls := [.ref 301, .int (nI n), .int (aI (leZ B Ls n)), .float 0, .float 0]) (by decide) (by simp [ai_en, Value.category]) (by rfl) ?_
  by_cases hkn : bk_known B (nI n) wk = 0
  · have ec := (hG.2.2.2.1 n hn).2 hkn
    refine wq (fun _ _ kk => rs_aload_n (pc := 0) dX10_take_0 rfl kk) ?_
    refine wq (fun _ _ kk => rs_getf (pc := 1) dX10_take_1 fX10_9 (mo_lt hwo (by decide)) hwo.2.1 rfl kk) ?_
    refine wq (fun _ _ kk => rs_ifnull (pc := 4) dX10_take_4 kk) ?_
    refine wq (fun _ _ kk => rs_aload_n (pc := 7) dX10_take_7 rfl kk) ?_
    refine wq (fun _ _ kk => rs_getf (pc := 8) dX10_take_8 fX10_22 (mo_lt hwo (by decide)) hwo.2.1 rfl kk) ?_
    refine wq (fun _ _ kk => rs_sipush (v := 400) (pc := 11) dX10_take_11 rfl kk) ?_
    refine wq_br (fun _ _ kt kf => rs_icmp_ge (tgt := 28) (pc := 14) dX10_take_14 rfl kt kf) (fun c_14 => absurd c_14 (fun y => by rw [i32_le, hW.2.2.1, nI_toInt (by omega), show (400 : Int32).toInt = 400 from rfl] at y; omega)) (fun c_14 => ?_)
    refine wq (fun _ _ kk => rs_iload_n (pc := 17) dX10_take_17 rfl kk) ?_
    refine wq (fun _ _ kk => rs_iconst (v := 0) (pc := 18) dX10_take_18 rfl kk) ?_
    refine wq (fun _ _ kk => rs_sipush (v := 399) (pc := 19) dX10_take_19 rfl kk) ?_
    refine wq (fun _ _ kk => rs_callS (as := [_, _, _]) (pc := 22) dX10_take_22 mk_X11_isWithin mlX10_47 st_X11_isWithin rfl rfl (Nat.le_of_ble_eq_true rfl) (c_X11_isWithin) kk) ?_
    refine wq_bn (fun _ _ kt kf => rs_if_ne (tgt := 29) (pc := 25) dX10_take_25 rfl kt kf) (fun c_25 => ?_) (fun c_25 => absurd c_25 (fun y => absurd y (by rw [show bi_in (nI n) 0 399 = 1 from bi_in_nI (z := 400) (by omega) (by decide)]; decide)))
    refine wq (fun _ _ kk => rs_aload_n (pc := 29) dX10_take_29 rfl kk) ?_
    refine wq (fun _ _ kk => rs_getf (pc := 30) dX10_take_30 fX10_9 (mo_lt hwo (by decide)) hwo.2.1 rfl kk) ?_
    refine wq (fun _ _ kk => rs_getf (pc := 33) dX10_take_33 fX10_51 (mo_lt hcl (by decide)) hcl.2.1 rfl kk) ?_
    refine wq (fun _ _ kk => rs_iload_n (pc := 36) dX10_take_36 rfl kk) ?_
    refine wq (fun _ _ kk => rs_iald (pc := 37) dX10_take_37 (mo_lt hcl (by decide)) (mo_geti (d := 11) (k := 12) (kd := 0) (l := 400) rfl (by decide) hcl) (vp_in_nI (n := n) (N := 400) (by omega) (by decide)) kk) ?_
    rw [nI_clamp (show n < 2 ^ 31 by omega), ec]
    refine wq (fun _ _ kk => wk_istn3 (pc := 38) dX10_take_38 (by decide) rfl kk) ?_
    refine wq (fun _ _ kk => rs_aload_n (pc := 39) dX10_take_39 rfl kk) ?_
    refine wq (fun _ _ kk => rs_getf (pc := 40) dX10_take_40 fX10_9 (mo_lt hwo (by decide)) hwo.2.1 rfl kk) ?_
    refine wq (fun _ _ kk => rs_iload_n (pc := 43) dX10_take_43 rfl kk) ?_
    refine wq (fun _ _ kk => rs_aload_n (pc := 44) dX10_take_44 rfl kk) ?_
    refine wq (fun _ _ kk => rs_getf (pc := 45) dX10_take_45 fX10_15 (mo_lt hwo (by decide)) hwo.2.1 rfl kk) ?_
    rw [hW.1]
    refine wq (fun _ _ kk => rs_callV (as := [_, _]) (pc := 48) dX10_take_48 mk_X2_isBy mlX10_56 in_X2_isBy se_X2_isBy rfl (mo_lt hcl (by decide)) hcl.2.1 rfl rfl (Nat.le_of_ble_eq_true rfl) (c_X2_isBy hcl hG.1.sz _ _) kk) ?_
    rw [by_m1]
    refine wq_br (fun _ _ kt kf => rs_if_eq (tgt := 70) (pc := 51) dX10_take_51 rfl kt kf) (fun c_51 => ?_) (fun c_51 => absurd c_51 (by decide))
    refine wq (fun _ _ kk => rs_aload_n (pc := 70) dX10_take_70 rfl kk) ?_
    refine wq (fun _ _ kk => rs_getf (pc := 71) dX10_take_71 fX10_9 (mo_lt hwo (by decide)) hwo.2.1 rfl kk) ?_
    refine wq (fun _ _ kk => rs_iload_n (pc := 74) dX10_take_74 rfl kk) ?_
    refine wq (fun _ _ kk => rs_aload_n (pc := 75) dX10_take_75 rfl kk) ?_
    refine wq (fun _ _ kk => rs_getf (pc := 76) dX10_take_76 fX10_19 (mo_lt hwo (by decide)) hwo.2.1 rfl kk) ?_
    rw [hW.2.1]
    refine wq (fun _ _ kk => rs_callV (as := [_, _]) (pc := 79) dX10_take_79 mk_X2_isBy mlX10_56 in_X2_isBy se_X2_isBy rfl (mo_lt hcl (by decide)) hcl.2.1 rfl rfl (Nat.le_of_ble_eq_true rfl) (c_X2_isBy hcl hG.1.sz _ _) kk) ?_
    rw [by_m1]
    refine wq_br (fun _ _ kt kf => rs_if_eq (tgt := 105) (pc := 82) dX10_take_82 rfl kt kf) (fun c_82 => ?_) (fun c_82 => absurd c_82 (by decide))
    refine wq (fun _ _ kk => rs_iconst (v := 0) (pc := 105) dX10_take_105 rfl kk) ?_
    refine wq (fun _ _ kk => wk_ist4 (pc := 106) dX10_take_106 (by decide) rfl kk) ?_
    refine wq (fun _ _ kk => rs_iload (pc := 108) dX10_take_108 rfl kk) ?_
    refine wq_br (fun _ _ kt kf => rs_if_eq (tgt := 143) (pc := 110) dX10_take_110 rfl kt kf) (fun c_110 => ?_) (fun c_110 => absurd c_110 (by decide))
    refine wq_ret ?_ (rs_vret (pc := 143) dX10_take_143 rfl)
    refine ⟨rfl, ov.rf, S, hwo, WT_n hW (fun y => ?_)⟩
    obtain ⟨y1, y2, y3⟩ := tkn_iff.1 y
    exact y1 hkn
  · obtain ⟨c, hc, ec, hgm⟩ := (hG.2.2.2.1 n hn).1 hkn
    by_cases hob : Sc.2.2.1 7 c = nI ia
    · have hnb : ¬ Sc.2.2.1 7 c = nI ib := fun y => hab (hob.symm.trans y)
      refine wq (fun _ _ kk => rs_aload_n (pc := 0) dX10_take_0 rfl kk) ?_
      refine wq (fun _ _ kk => rs_getf (pc := 1) dX10_take_1 fX10_9 (mo_lt hwo (by decide)) hwo.2.1 rfl kk) ?_
      refine wq (fun _ _ kk => rs_ifnull (pc := 4) dX10_take_4 kk) ?_
      refine wq (fun _ _ kk => rs_aload_n (pc := 7) dX10_take_7 rfl kk) ?_
      refine wq (fun _ _ kk => rs_getf (pc := 8) dX10_take_8 fX10_22 (mo_lt hwo (by decide)) hwo.2.1 rfl kk) ?_
      refine wq (fun _ _ kk => rs_sipush (v := 400) (pc := 11) dX10_take_11 rfl kk) ?_
      refine wq_br (fun _ _ kt kf => rs_icmp_ge (tgt := 28) (pc := 14) dX10_take_14 rfl kt kf) (fun c_14 => absurd c_14 (fun y => by rw [i32_le, hW.2.2.1, nI_toInt (by omega), show (400 : Int32).toInt = 400 from rfl] at y; omega)) (fun c_14 => ?_)
      refine wq (fun _ _ kk => rs_iload_n (pc := 17) dX10_take_17 rfl kk) ?_
      refine wq (fun _ _ kk => rs_iconst (v := 0) (pc := 18) dX10_take_18 rfl kk) ?_
      refine wq (fun _ _ kk => rs_sipush (v := 399) (pc := 19) dX10_take_19 rfl kk) ?_
      refine wq (fun _ _ kk => rs_callS (as := [_, _, _]) (pc := 22) dX10_take_22 mk_X11_isWithin mlX10_47 st_X11_isWithin rfl rfl (Nat.le_of_ble_eq_true rfl) (c_X11_isWithin) kk) ?_
      refine wq_bn (fun _ _ kt kf => rs_if_ne (tgt := 29) (pc := 25) dX10_take_25 rfl kt kf) (fun c_25 => ?_) (fun c_25 => absurd c_25 (fun y => absurd y (by rw [show bi_in (nI n) 0 399 = 1 from bi_in_nI (z := 400) (by omega) (by decide)]; decide)))
      refine wq (fun _ _ kk => rs_aload_n (pc := 29) dX10_take_29 rfl kk) ?_
      refine wq (fun _ _ kk => rs_getf (pc := 30) dX10_take_30 fX10_9 (mo_lt hwo (by decide)) hwo.2.1 rfl kk) ?_
      refine wq (fun _ _ kk => rs_getf (pc := 33) dX10_take_33 fX10_51 (mo_lt hcl (by decide)) hcl.2.1 rfl kk) ?_
      refine wq (fun _ _ kk => rs_iload_n (pc := 36) dX10_take_36 rfl kk) ?_
      refine wq (fun _ _ kk => rs_iald (pc := 37) dX10_take_37 (mo_lt hcl (by decide)) (mo_geti (d := 11) (k := 12) (kd := 0) (l := 400) rfl (by decide) hcl) (vp_in_nI (n := n) (N := 400) (by omega) (by decide)) kk) ?_
      rw [nI_clamp (show n < 2 ^ 31 by omega), ec]
      refine wq (fun _ _ kk => wk_istn3 (pc := 38) dX10_take_38 (by decide) rfl kk) ?_
      refine wq (fun _ _ kk => rs_aload_n (pc := 39) dX10_take_39 rfl kk) ?_
      refine wq (fun _ _ kk => rs_getf (pc := 40) dX10_take_40 fX10_9 (mo_lt hwo (by decide)) hwo.2.1 rfl kk) ?_
      refine wq (fun _ _ kk => rs_iload_n (pc := 43) dX10_take_43 rfl kk) ?_
      refine wq (fun _ _ kk => rs_aload_n (pc := 44) dX10_take_44 rfl kk) ?_
      refine wq (fun _ _ kk => rs_getf (pc := 45) dX10_take_45 fX10_15 (mo_lt hwo (by decide)) hwo.2.1 rfl kk) ?_
      rw [hW.1]
      refine wq (fun _ _ kk => rs_callV (as := [_, _]) (pc := 48) dX10_take_48 mk_X2_isBy mlX10_56 in_X2_isBy se_X2_isBy rfl (mo_lt hcl (by decide)) hcl.2.1 rfl rfl (Nat.le_of_ble_eq_true rfl) (c_X2_isBy hcl hG.1.sz _ _) kk) ?_
      rw [by_at hG.1 hc, if_pos hob]
      refine wq_br (fun _ _ kt kf => rs_if_eq (tgt := 70) (pc := 51) dX10_take_51 rfl kt kf) (fun c_51 => absurd c_51 (by decide)) (fun c_51 => ?_)
      refine wq (fun _ _ kk => rs_aload_n (pc := 54) dX10_take_54 rfl kk) ?_
      refine wq (fun _ _ kk => rs_getf (pc := 55) dX10_take_55 fX10_9 (mo_lt hwo (by decide)) hwo.2.1 rfl kk) ?_
      refine wq (fun _ _ kk => rs_iload_n (pc := 58) dX10_take_58 rfl kk) ?_
      refine wq (fun _ _ kk => rs_aload_n (pc := 59) dX10_take_59 rfl kk) ?_
      refine wq (fun _ _ kk => rs_getf (pc := 60) dX10_take_60 fX10_19 (mo_lt hwo (by decide)) hwo.2.1 rfl kk) ?_
      rw [hW.2.1]
      refine wq (fun _ _ kk => rs_callV (as := [_, _]) (pc := 63) dX10_take_63 mk_X2_met mlX10_60 in_X2_met se_X2_met rfl (mo_lt hcl (by decide)) hcl.2.1 rfl rfl (Nat.le_of_ble_eq_true rfl) (c_X2_met hcl hG.1 hc _) kk) ?_
      refine wq (fun _ _ kk => rs_iconst (v := -1) (pc := 66) dX10_take_66 rfl kk) ?_
      refine wq_bn (fun _ _ kt kf => rs_icmp_ne (tgt := 101) (pc := 67) dX10_take_67 rfl kt kf) (fun c_67 => ?_) (fun c_67 => ?_)
      · rw [met_mK hG hc hob] at c_67
        have htk : tkn B wk (nI ia) (nI ib) n = true := tkn_iff.2 ⟨hkn, Or.inl (hgm.2.symm.trans hob), by rw [← hgm.1]; exact ⟨hab, c_67⟩⟩
        refine wq (fun _ _ kk => rs_iconst (v := 1) (pc := 101) dX10_take_101 rfl kk) ?_
        refine wq (fun _ _ kk => rs_goto (tgt := 106) (pc := 102) dX10_take_102 rfl kk) ?_
        refine wq (fun _ _ kk => wk_ist4 (pc := 106) dX10_take_106 (by decide) rfl kk) ?_
        refine wq (fun _ _ kk => rs_iload (pc := 108) dX10_take_108 rfl kk) ?_
        refine wq_br (fun _ _ kt kf => rs_if_eq (tgt := 143) (pc := 110) dX10_take_110 rfl kt kf) (fun c_110 => absurd c_110 (by decide)) (fun c_110 => ?_)
        refine wq (fun _ _ kk => rs_aload_n (pc := 113) dX10_take_113 rfl kk) ?_
        refine wq (fun _ _ kk => rs_getf (pc := 114) dX10_take_114 fX10_29 (mo_lt hwo (by decide)) hwo.2.1 rfl kk) ?_
        refine wq (fun _ _ kk => rs_aload_n (pc := 117) dX10_take_117 rfl kk) ?_
        refine wq (fun _ _ kk => rs_getf (pc := 118) dX10_take_118 fX10_22 (mo_lt hwo (by decide)) hwo.2.1 rfl kk) ?_
        rw [hW.2.2.1]
        refine wq (fun _ _ kk => rs_iload_n (pc := 121) dX10_take_121 rfl kk) ?_
        refine wq (fun _ _ kk => rs_iast (pc := 122) dX10_take_122 (mo_lt hwo (by decide)) (mo_geti (d := 0) (k := 5) (kd := 0) (l := 400) rfl (by decide) hwo) (vp_in_nI (n := cN (tkn B wk (nI ia) (nI ib)) n) (N := 400) (by omega) (by decide)) kk) ?_
        refine wq_gen (fun h_1 e_1 => ?_)
        obtain ⟨m_1, s_1, g_1, o_1⟩ := ai_e1 e_1
        replace hcl := cl_keep hcl m_1 (fun j _ _ => o_1 j (by omega))
        replace hwo := mo_ai (tab := wo_tab) (d := 0) wo_nd rfl (by decide) (fun _ _ _ => rfl) hwo m_1 g_1 o_1
        have E_1 := (ov.rf).trans (ov_of m_1 s_1 o_1 (by decide))
        refine wq (fun _ _ kk => rs_aload_n (pc := 123) dX10_take_123 rfl kk) ?_
        refine wq (fun _ _ kk => rs_getf (pc := 124) dX10_take_124 fX10_33 (mo_lt hwo (by decide)) hwo.2.1 rfl kk) ?_
        refine wq (fun _ _ kk => rs_aload_n (pc := 127) dX10_take_127 rfl kk) ?_
        refine wq (fun _ _ kk => rs_getf (pc := 128) dX10_take_128 fX10_22 (mo_lt hwo (by decide)) hwo.2.1 rfl kk) ?_
        rw [show (md_ai S 5 _).1 3 = nI (cN (tkn B wk (nI ia) (nI ib)) n) from hW.2.2.1]
        refine wq (fun _ _ kk => rs_iload_n (pc := 131) dX10_take_131 rfl kk) ?_
        refine wq (fun _ _ kk => rs_iast (pc := 132) dX10_take_132 (mo_lt hwo (by decide)) (mo_geti (d := 1) (k := 6) (kd := 0) (l := 400) rfl (by decide) hwo) (vp_in_nI (n := cN (tkn B wk (nI ia) (nI ib)) n) (N := 400) (by omega) (by decide)) kk) ?_
        refine wq_gen (fun h_2 e_2 => ?_)
        obtain ⟨m_2, s_2, g_2, o_2⟩ := ai_e1 e_2
        replace hcl := cl_keep hcl m_2 (fun j _ _ => o_2 j (by omega))
        replace hwo := mo_ai (tab := wo_tab) (d := 1) wo_nd rfl (by decide) (fun _ _ _ => rfl) hwo m_2 g_2 o_2
        have E_2 := (E_1).trans (ov_of m_2 s_2 o_2 (by decide))
        refine wq (fun _ _ kk => rs_aload_n (pc := 133) dX10_take_133 rfl kk) ?_
        refine wq (fun _ _ kk => rs_dup (pc := 134) dX10_take_134 rfl kk) ?_
        refine wq (fun _ _ kk => rs_getf (pc := 135) dX10_take_135 fX10_22 (mo_lt hwo (by decide)) hwo.2.1 rfl kk) ?_
        rw [show (md_ai (md_ai S 5 _) 6 _).1 3 = nI (cN (tkn B wk (nI ia) (nI ib)) n) from hW.2.2.1]
        refine wq (fun _ _ kk => rs_iconst (v := 1) (pc := 138) dX10_take_138 rfl kk) ?_
        refine wq (fun _ _ kk => rs_iadd (pc := 139) dX10_take_139 kk) ?_
        rw [nI_1]
        refine wq (fun _ _ kk => rs_putf (pc := 140) dX10_take_140 fX10_22 (mo_lt hwo (by decide)) hwo.2.1 rfl (Nat.le_of_ble_eq_true rfl) kk) ?_
        refine wq_gen (fun h_3 e_3 => ?_)
        obtain ⟨m_3, s_3, g_3, o_3⟩ := ai_e1 e_3
        replace g_3 : h_3.2.2 301 = .inr (10, [_, _, _, _, _, _, _, _, _]) := g_3
        replace hcl := cl_keep hcl m_3 (fun j _ _ => o_3 j (by omega))
        replace hwo := mo_si (k := 3) hwo m_3 g_3 o_3 rfl
        have E_3 := (E_2).trans (ov_of m_3 s_3 o_3 (by decide))
        refine wq_ret ?_ (rs_vret (pc := 143) dX10_take_143 rfl)
        refine ⟨rfl, E_3, _, hwo, WT_y hW htk hc hgm rfl rfl rfl ?_ ?_⟩
        · show upd (S.2.2.1 5) (nI (cN (tkn B wk (nI ia) (nI ib)) n)).toNatClampNeg _ = _
          rw [nI_clamp (by omega)]
        · show upd (S.2.2.1 6) (nI (cN (tkn B wk (nI ia) (nI ib)) n)).toNatClampNeg _ = _
          rw [nI_clamp (by omega)]
      · refine wq (fun _ _ kk => rs_aload_n (pc := 70) dX10_take_70 rfl kk) ?_
        refine wq (fun _ _ kk => rs_getf (pc := 71) dX10_take_71 fX10_9 (mo_lt hwo (by decide)) hwo.2.1 rfl kk) ?_
        refine wq (fun _ _ kk => rs_iload_n (pc := 74) dX10_take_74 rfl kk) ?_
        refine wq (fun _ _ kk => rs_aload_n (pc := 75) dX10_take_75 rfl kk) ?_
        refine wq (fun _ _ kk => rs_getf (pc := 76) dX10_take_76 fX10_19 (mo_lt hwo (by decide)) hwo.2.1 rfl kk) ?_
        rw [hW.2.1]
        refine wq (fun _ _ kk => rs_callV (as := [_, _]) (pc := 79) dX10_take_79 mk_X2_isBy mlX10_56 in_X2_isBy se_X2_isBy rfl (mo_lt hcl (by decide)) hcl.2.1 rfl rfl (Nat.le_of_ble_eq_true rfl) (c_X2_isBy hcl hG.1.sz _ _) kk) ?_
        rw [by_at hG.1 hc, if_neg hnb]
        refine wq_br (fun _ _ kt kf => rs_if_eq (tgt := 105) (pc := 82) dX10_take_82 rfl kt kf) (fun c_82 => ?_) (fun c_82 => absurd c_82 (by decide))
        refine wq (fun _ _ kk => rs_iconst (v := 0) (pc := 105) dX10_take_105 rfl kk) ?_
        refine wq (fun _ _ kk => wk_ist4 (pc := 106) dX10_take_106 (by decide) rfl kk) ?_
        refine wq (fun _ _ kk => rs_iload (pc := 108) dX10_take_108 rfl kk) ?_
        refine wq_br (fun _ _ kt kf => rs_if_eq (tgt := 143) (pc := 110) dX10_take_110 rfl kt kf) (fun c_110 => ?_) (fun c_110 => absurd c_110 (by decide))
        refine wq_ret ?_ (rs_vret (pc := 143) dX10_take_143 rfl)
        refine ⟨rfl, ov.rf, S, hwo, WT_n hW (fun y => ?_)⟩
        obtain ⟨y1, y2, y3⟩ := tkn_iff.1 y
        rw [← hgm.1] at y3
        exact absurd c_67 ((met_mK hG hc hob).2 ⟨y3.2.1, y3.2.2.1, y3.2.2.2⟩)
    · have hna := hob
      clear hob
      by_cases hob : Sc.2.2.1 7 c = nI ib
      · refine wq (fun _ _ kk => rs_aload_n (pc := 0) dX10_take_0 rfl kk) ?_
        refine wq (fun _ _ kk => rs_getf (pc := 1) dX10_take_1 fX10_9 (mo_lt hwo (by decide)) hwo.2.1 rfl kk) ?_
        refine wq (fun _ _ kk => rs_ifnull (pc := 4) dX10_take_4 kk) ?_
        refine wq (fun _ _ kk => rs_aload_n (pc := 7) dX10_take_7 rfl kk) ?_
        refine wq (fun _ _ kk => rs_getf (pc := 8) dX10_take_8 fX10_22 (mo_lt hwo (by decide)) hwo.2.1 rfl kk) ?_
        refine wq (fun _ _ kk => rs_sipush (v := 400) (pc := 11) dX10_take_11 rfl kk) ?_
        refine wq_br (fun _ _ kt kf => rs_icmp_ge (tgt := 28) (pc := 14) dX10_take_14 rfl kt kf) (fun c_14 => absurd c_14 (fun y => by rw [i32_le, hW.2.2.1, nI_toInt (by omega), show (400 : Int32).toInt = 400 from rfl] at y; omega)) (fun c_14 => ?_)
        refine wq (fun _ _ kk => rs_iload_n (pc := 17) dX10_take_17 rfl kk) ?_
        refine wq (fun _ _ kk => rs_iconst (v := 0) (pc := 18) dX10_take_18 rfl kk) ?_
        refine wq (fun _ _ kk => rs_sipush (v := 399) (pc := 19) dX10_take_19 rfl kk) ?_
        refine wq (fun _ _ kk => rs_callS (as := [_, _, _]) (pc := 22) dX10_take_22 mk_X11_isWithin mlX10_47 st_X11_isWithin rfl rfl (Nat.le_of_ble_eq_true rfl) (c_X11_isWithin) kk) ?_
        refine wq_bn (fun _ _ kt kf => rs_if_ne (tgt := 29) (pc := 25) dX10_take_25 rfl kt kf) (fun c_25 => ?_) (fun c_25 => absurd c_25 (fun y => absurd y (by rw [show bi_in (nI n) 0 399 = 1 from bi_in_nI (z := 400) (by omega) (by decide)]; decide)))
        refine wq (fun _ _ kk => rs_aload_n (pc := 29) dX10_take_29 rfl kk) ?_
        refine wq (fun _ _ kk => rs_getf (pc := 30) dX10_take_30 fX10_9 (mo_lt hwo (by decide)) hwo.2.1 rfl kk) ?_
        refine wq (fun _ _ kk => rs_getf (pc := 33) dX10_take_33 fX10_51 (mo_lt hcl (by decide)) hcl.2.1 rfl kk) ?_
        refine wq (fun _ _ kk => rs_iload_n (pc := 36) dX10_take_36 rfl kk) ?_
        refine wq (fun _ _ kk => rs_iald (pc := 37) dX10_take_37 (mo_lt hcl (by decide)) (mo_geti (d := 11) (k := 12) (kd := 0) (l := 400) rfl (by decide) hcl) (vp_in_nI (n := n) (N := 400) (by omega) (by decide)) kk) ?_
        rw [nI_clamp (show n < 2 ^ 31 by omega), ec]
        refine wq (fun _ _ kk => wk_istn3 (pc := 38) dX10_take_38 (by decide) rfl kk) ?_
        refine wq (fun _ _ kk => rs_aload_n (pc := 39) dX10_take_39 rfl kk) ?_
        refine wq (fun _ _ kk => rs_getf (pc := 40) dX10_take_40 fX10_9 (mo_lt hwo (by decide)) hwo.2.1 rfl kk) ?_
        refine wq (fun _ _ kk => rs_iload_n (pc := 43) dX10_take_43 rfl kk) ?_
        refine wq (fun _ _ kk => rs_aload_n (pc := 44) dX10_take_44 rfl kk) ?_
        refine wq (fun _ _ kk => rs_getf (pc := 45) dX10_take_45 fX10_15 (mo_lt hwo (by decide)) hwo.2.1 rfl kk) ?_
        rw [hW.1]
        refine wq (fun _ _ kk => rs_callV (as := [_, _]) (pc := 48) dX10_take_48 mk_X2_isBy mlX10_56 in_X2_isBy se_X2_isBy rfl (mo_lt hcl (by decide)) hcl.2.1 rfl rfl (Nat.le_of_ble_eq_true rfl) (c_X2_isBy hcl hG.1.sz _ _) kk) ?_
        rw [by_at hG.1 hc, if_neg hna]
        refine wq_br (fun _ _ kt kf => rs_if_eq (tgt := 70) (pc := 51) dX10_take_51 rfl kt kf) (fun c_51 => ?_) (fun c_51 => absurd c_51 (by decide))
        refine wq (fun _ _ kk => rs_aload_n (pc := 70) dX10_take_70 rfl kk) ?_
        refine wq (fun _ _ kk => rs_getf (pc := 71) dX10_take_71 fX10_9 (mo_lt hwo (by decide)) hwo.2.1 rfl kk) ?_
        refine wq (fun _ _ kk => rs_iload_n (pc := 74) dX10_take_74 rfl kk) ?_
        refine wq (fun _ _ kk => rs_aload_n (pc := 75) dX10_take_75 rfl kk) ?_
        refine wq (fun _ _ kk => rs_getf (pc := 76) dX10_take_76 fX10_19 (mo_lt hwo (by decide)) hwo.2.1 rfl kk) ?_
        rw [hW.2.1]
        refine wq (fun _ _ kk => rs_callV (as := [_, _]) (pc := 79) dX10_take_79 mk_X2_isBy mlX10_56 in_X2_isBy se_X2_isBy rfl (mo_lt hcl (by decide)) hcl.2.1 rfl rfl (Nat.le_of_ble_eq_true rfl) (c_X2_isBy hcl hG.1.sz _ _) kk) ?_
        rw [by_at hG.1 hc, if_pos hob]
        refine wq_br (fun _ _ kt kf => rs_if_eq (tgt := 105) (pc := 82) dX10_take_82 rfl kt kf) (fun c_82 => absurd c_82 (by decide)) (fun c_82 => ?_)
        refine wq (fun _ _ kk => rs_aload_n (pc := 85) dX10_take_85 rfl kk) ?_
        refine wq (fun _ _ kk => rs_getf (pc := 86) dX10_take_86 fX10_9 (mo_lt hwo (by decide)) hwo.2.1 rfl kk) ?_
        refine wq (fun _ _ kk => rs_iload_n (pc := 89) dX10_take_89 rfl kk) ?_
        refine wq (fun _ _ kk => rs_aload_n (pc := 90) dX10_take_90 rfl kk) ?_
        refine wq (fun _ _ kk => rs_getf (pc := 91) dX10_take_91 fX10_15 (mo_lt hwo (by decide)) hwo.2.1 rfl kk) ?_
        rw [hW.1]
        refine wq (fun _ _ kk => rs_callV (as := [_, _]) (pc := 94) dX10_take_94 mk_X2_met mlX10_60 in_X2_met se_X2_met rfl (mo_lt hcl (by decide)) hcl.2.1 rfl rfl (Nat.le_of_ble_eq_true rfl) (c_X2_met hcl hG.1 hc _) kk) ?_
        refine wq (fun _ _ kk => rs_iconst (v := -1) (pc := 97) dX10_take_97 rfl kk) ?_
        refine wq_br (fun _ _ kt kf => rs_icmp_eq (tgt := 105) (pc := 98) dX10_take_98 rfl kt kf) (fun c_98 => ?_) (fun c_98 => ?_)
        · refine wq (fun _ _ kk => rs_iconst (v := 0) (pc := 105) dX10_take_105 rfl kk) ?_
          refine wq (fun _ _ kk => wk_ist4 (pc := 106) dX10_take_106 (by decide) rfl kk) ?_
          refine wq (fun _ _ kk => rs_iload (pc := 108) dX10_take_108 rfl kk) ?_
          refine wq_br (fun _ _ kt kf => rs_if_eq (tgt := 143) (pc := 110) dX10_take_110 rfl kt kf) (fun c_110 => ?_) (fun c_110 => absurd c_110 (by decide))
          refine wq_ret ?_ (rs_vret (pc := 143) dX10_take_143 rfl)
          refine ⟨rfl, ov.rf, S, hwo, WT_n hW (fun y => ?_)⟩
          obtain ⟨y1, y2, y3⟩ := tkn_iff.1 y
          rw [← hgm.1] at y3
          exact absurd c_98 ((met_mK hG hc hob).2 ⟨y3.2.1, y3.2.2.2, y3.2.2.1⟩)
        · rw [met_mK hG hc hob] at c_98
          have htk : tkn B wk (nI ia) (nI ib) n = true := tkn_iff.2 ⟨hkn, Or.inr (hgm.2.symm.trans hob), by rw [← hgm.1]; exact ⟨hab, c_98.1, c_98.2.2, c_98.2.1⟩⟩
          refine wq (fun _ _ kk => rs_iconst (v := 1) (pc := 101) dX10_take_101 rfl kk) ?_
          refine wq (fun _ _ kk => rs_goto (tgt := 106) (pc := 102) dX10_take_102 rfl kk) ?_
          refine wq (fun _ _ kk => wk_ist4 (pc := 106) dX10_take_106 (by decide) rfl kk) ?_
          refine wq (fun _ _ kk => rs_iload (pc := 108) dX10_take_108 rfl kk) ?_
          refine wq_br (fun _ _ kt kf => rs_if_eq (tgt := 143) (pc := 110) dX10_take_110 rfl kt kf) (fun c_110 => absurd c_110 (by decide)) (fun c_110 => ?_)
          refine wq (fun _ _ kk => rs_aload_n (pc := 113) dX10_take_113 rfl kk) ?_
          refine wq (fun _ _ kk => rs_getf (pc := 114) dX10_take_114 fX10_29 (mo_lt hwo (by decide)) hwo.2.1 rfl kk) ?_
          refine wq (fun _ _ kk => rs_aload_n (pc := 117) dX10_take_117 rfl kk) ?_
          refine wq (fun _ _ kk => rs_getf (pc := 118) dX10_take_118 fX10_22 (mo_lt hwo (by decide)) hwo.2.1 rfl kk) ?_
          rw [hW.2.2.1]
          refine wq (fun _ _ kk => rs_iload_n (pc := 121) dX10_take_121 rfl kk) ?_
          refine wq (fun _ _ kk => rs_iast (pc := 122) dX10_take_122 (mo_lt hwo (by decide)) (mo_geti (d := 0) (k := 5) (kd := 0) (l := 400) rfl (by decide) hwo) (vp_in_nI (n := cN (tkn B wk (nI ia) (nI ib)) n) (N := 400) (by omega) (by decide)) kk) ?_
          refine wq_gen (fun h_1 e_1 => ?_)
          obtain ⟨m_1, s_1, g_1, o_1⟩ := ai_e1 e_1
          replace hcl := cl_keep hcl m_1 (fun j _ _ => o_1 j (by omega))
          replace hwo := mo_ai (tab := wo_tab) (d := 0) wo_nd rfl (by decide) (fun _ _ _ => rfl) hwo m_1 g_1 o_1
          have E_1 := (ov.rf).trans (ov_of m_1 s_1 o_1 (by decide))
          refine wq (fun _ _ kk => rs_aload_n (pc := 123) dX10_take_123 rfl kk) ?_
          refine wq (fun _ _ kk => rs_getf (pc := 124) dX10_take_124 fX10_33 (mo_lt hwo (by decide)) hwo.2.1 rfl kk) ?_
          refine wq (fun _ _ kk => rs_aload_n (pc := 127) dX10_take_127 rfl kk) ?_
          refine wq (fun _ _ kk => rs_getf (pc := 128) dX10_take_128 fX10_22 (mo_lt hwo (by decide)) hwo.2.1 rfl kk) ?_
          rw [show (md_ai S 5 _).1 3 = nI (cN (tkn B wk (nI ia) (nI ib)) n) from hW.2.2.1]
          refine wq (fun _ _ kk => rs_iload_n (pc := 131) dX10_take_131 rfl kk) ?_
          refine wq (fun _ _ kk => rs_iast (pc := 132) dX10_take_132 (mo_lt hwo (by decide)) (mo_geti (d := 1) (k := 6) (kd := 0) (l := 400) rfl (by decide) hwo) (vp_in_nI (n := cN (tkn B wk (nI ia) (nI ib)) n) (N := 400) (by omega) (by decide)) kk) ?_
          refine wq_gen (fun h_2 e_2 => ?_)
          obtain ⟨m_2, s_2, g_2, o_2⟩ := ai_e1 e_2
          replace hcl := cl_keep hcl m_2 (fun j _ _ => o_2 j (by omega))
          replace hwo := mo_ai (tab := wo_tab) (d := 1) wo_nd rfl (by decide) (fun _ _ _ => rfl) hwo m_2 g_2 o_2
          have E_2 := (E_1).trans (ov_of m_2 s_2 o_2 (by decide))
          refine wq (fun _ _ kk => rs_aload_n (pc := 133) dX10_take_133 rfl kk) ?_
          refine wq (fun _ _ kk => rs_dup (pc := 134) dX10_take_134 rfl kk) ?_
          refine wq (fun _ _ kk => rs_getf (pc := 135) dX10_take_135 fX10_22 (mo_lt hwo (by decide)) hwo.2.1 rfl kk) ?_
          rw [show (md_ai (md_ai S 5 _) 6 _).1 3 = nI (cN (tkn B wk (nI ia) (nI ib)) n) from hW.2.2.1]
          refine wq (fun _ _ kk => rs_iconst (v := 1) (pc := 138) dX10_take_138 rfl kk) ?_
          refine wq (fun _ _ kk => rs_iadd (pc := 139) dX10_take_139 kk) ?_
          rw [nI_1]
          refine wq (fun _ _ kk => rs_putf (pc := 140) dX10_take_140 fX10_22 (mo_lt hwo (by decide)) hwo.2.1 rfl (Nat.le_of_ble_eq_true rfl) kk) ?_
          refine wq_gen (fun h_3 e_3 => ?_)
          obtain ⟨m_3, s_3, g_3, o_3⟩ := ai_e1 e_3
          replace g_3 : h_3.2.2 301 = .inr (10, [_, _, _, _, _, _, _, _, _]) := g_3
          replace hcl := cl_keep hcl m_3 (fun j _ _ => o_3 j (by omega))
          replace hwo := mo_si (k := 3) hwo m_3 g_3 o_3 rfl
          have E_3 := (E_2).trans (ov_of m_3 s_3 o_3 (by decide))
          refine wq_ret ?_ (rs_vret (pc := 143) dX10_take_143 rfl)
          refine ⟨rfl, E_3, _, hwo, WT_y hW htk hc hgm rfl rfl rfl ?_ ?_⟩
          · show upd (S.2.2.1 5) (nI (cN (tkn B wk (nI ia) (nI ib)) n)).toNatClampNeg _ = _
            rw [nI_clamp (by omega)]
          · show upd (S.2.2.1 6) (nI (cN (tkn B wk (nI ia) (nI ib)) n)).toNatClampNeg _ = _
            rw [nI_clamp (by omega)]
      · have hnb := hob
        refine wq (fun _ _ kk => rs_aload_n (pc := 0) dX10_take_0 rfl kk) ?_
        refine wq (fun _ _ kk => rs_getf (pc := 1) dX10_take_1 fX10_9 (mo_lt hwo (by decide)) hwo.2.1 rfl kk) ?_
        refine wq (fun _ _ kk => rs_ifnull (pc := 4) dX10_take_4 kk) ?_
        refine wq (fun _ _ kk => rs_aload_n (pc := 7) dX10_take_7 rfl kk) ?_
        refine wq (fun _ _ kk => rs_getf (pc := 8) dX10_take_8 fX10_22 (mo_lt hwo (by decide)) hwo.2.1 rfl kk) ?_
        refine wq (fun _ _ kk => rs_sipush (v := 400) (pc := 11) dX10_take_11 rfl kk) ?_
        refine wq_br (fun _ _ kt kf => rs_icmp_ge (tgt := 28) (pc := 14) dX10_take_14 rfl kt kf) (fun c_14 => absurd c_14 (fun y => by rw [i32_le, hW.2.2.1, nI_toInt (by omega), show (400 : Int32).toInt = 400 from rfl] at y; omega)) (fun c_14 => ?_)
        refine wq (fun _ _ kk => rs_iload_n (pc := 17) dX10_take_17 rfl kk) ?_
        refine wq (fun _ _ kk => rs_iconst (v := 0) (pc := 18) dX10_take_18 rfl kk) ?_
        refine wq (fun _ _ kk => rs_sipush (v := 399) (pc := 19) dX10_take_19 rfl kk) ?_
        refine wq (fun _ _ kk => rs_callS (as := [_, _, _]) (pc := 22) dX10_take_22 mk_X11_isWithin mlX10_47 st_X11_isWithin rfl rfl (Nat.le_of_ble_eq_true rfl) (c_X11_isWithin) kk) ?_
        refine wq_bn (fun _ _ kt kf => rs_if_ne (tgt := 29) (pc := 25) dX10_take_25 rfl kt kf) (fun c_25 => ?_) (fun c_25 => absurd c_25 (fun y => absurd y (by rw [show bi_in (nI n) 0 399 = 1 from bi_in_nI (z := 400) (by omega) (by decide)]; decide)))
        refine wq (fun _ _ kk => rs_aload_n (pc := 29) dX10_take_29 rfl kk) ?_
        refine wq (fun _ _ kk => rs_getf (pc := 30) dX10_take_30 fX10_9 (mo_lt hwo (by decide)) hwo.2.1 rfl kk) ?_
        refine wq (fun _ _ kk => rs_getf (pc := 33) dX10_take_33 fX10_51 (mo_lt hcl (by decide)) hcl.2.1 rfl kk) ?_
        refine wq (fun _ _ kk => rs_iload_n (pc := 36) dX10_take_36 rfl kk) ?_
        refine wq (fun _ _ kk => rs_iald (pc := 37) dX10_take_37 (mo_lt hcl (by decide)) (mo_geti (d := 11) (k := 12) (kd := 0) (l := 400) rfl (by decide) hcl) (vp_in_nI (n := n) (N := 400) (by omega) (by decide)) kk) ?_
        rw [nI_clamp (show n < 2 ^ 31 by omega), ec]
        refine wq (fun _ _ kk => wk_istn3 (pc := 38) dX10_take_38 (by decide) rfl kk) ?_
        refine wq (fun _ _ kk => rs_aload_n (pc := 39) dX10_take_39 rfl kk) ?_
        refine wq (fun _ _ kk => rs_getf (pc := 40) dX10_take_40 fX10_9 (mo_lt hwo (by decide)) hwo.2.1 rfl kk) ?_
        refine wq (fun _ _ kk => rs_iload_n (pc := 43) dX10_take_43 rfl kk) ?_
        refine wq (fun _ _ kk => rs_aload_n (pc := 44) dX10_take_44 rfl kk) ?_
        refine wq (fun _ _ kk => rs_getf (pc := 45) dX10_take_45 fX10_15 (mo_lt hwo (by decide)) hwo.2.1 rfl kk) ?_
        rw [hW.1]
        refine wq (fun _ _ kk => rs_callV (as := [_, _]) (pc := 48) dX10_take_48 mk_X2_isBy mlX10_56 in_X2_isBy se_X2_isBy rfl (mo_lt hcl (by decide)) hcl.2.1 rfl rfl (Nat.le_of_ble_eq_true rfl) (c_X2_isBy hcl hG.1.sz _ _) kk) ?_
        rw [by_at hG.1 hc, if_neg hna]
        refine wq_br (fun _ _ kt kf => rs_if_eq (tgt := 70) (pc := 51) dX10_take_51 rfl kt kf) (fun c_51 => ?_) (fun c_51 => absurd c_51 (by decide))
        refine wq (fun _ _ kk => rs_aload_n (pc := 70) dX10_take_70 rfl kk) ?_
        refine wq (fun _ _ kk => rs_getf (pc := 71) dX10_take_71 fX10_9 (mo_lt hwo (by decide)) hwo.2.1 rfl kk) ?_
        refine wq (fun _ _ kk => rs_iload_n (pc := 74) dX10_take_74 rfl kk) ?_
        refine wq (fun _ _ kk => rs_aload_n (pc := 75) dX10_take_75 rfl kk) ?_
        refine wq (fun _ _ kk => rs_getf (pc := 76) dX10_take_76 fX10_19 (mo_lt hwo (by decide)) hwo.2.1 rfl kk) ?_
        rw [hW.2.1]
        refine wq (fun _ _ kk => rs_callV (as := [_, _]) (pc := 79) dX10_take_79 mk_X2_isBy mlX10_56 in_X2_isBy se_X2_isBy rfl (mo_lt hcl (by decide)) hcl.2.1 rfl rfl (Nat.le_of_ble_eq_true rfl) (c_X2_isBy hcl hG.1.sz _ _) kk) ?_
        rw [by_at hG.1 hc, if_neg hnb]
        refine wq_br (fun _ _ kt kf => rs_if_eq (tgt := 105) (pc := 82) dX10_take_82 rfl kt kf) (fun c_82 => ?_) (fun c_82 => absurd c_82 (by decide))
        refine wq (fun _ _ kk => rs_iconst (v := 0) (pc := 105) dX10_take_105 rfl kk) ?_
        refine wq (fun _ _ kk => wk_ist4 (pc := 106) dX10_take_106 (by decide) rfl kk) ?_
        refine wq (fun _ _ kk => rs_iload (pc := 108) dX10_take_108 rfl kk) ?_
        refine wq_br (fun _ _ kt kf => rs_if_eq (tgt := 143) (pc := 110) dX10_take_110 rfl kt kf) (fun c_110 => ?_) (fun c_110 => absurd c_110 (by decide))
        refine wq_ret ?_ (rs_vret (pc := 143) dX10_take_143 rfl)
        refine ⟨rfl, ov.rf, S, hwo, WT_n hW (fun y => ?_)⟩
        obtain ⟨y1, y2, y3⟩ := tkn_iff.1 y
        rcases y2 with y2 | y2
        · exact hna (hgm.2.trans y2)
        · exact hnb (hgm.2.trans y2)
theorem dX10_areMet_0 : decode cX10_areMet 0 = .ok (.aload_n 0, 1) := by decide +kernel
theorem dX10_areMet_1 : decode cX10_areMet 1 = .ok (.getfield 22, 3) := by decide +kernel
theorem dX10_areMet_4 : decode cX10_areMet 4 = .ok (.ifCond .le 7, 3) := by decide +kernel
theorem dX10_areMet_7 : decode cX10_areMet 7 = .ok (.iconst 1, 1) := by decide +kernel
theorem dX10_areMet_8 : decode cX10_areMet 8 = .ok (.goto 4, 3) := by decide +kernel
theorem dX10_areMet_11 : decode cX10_areMet 11 = .ok (.iconst 0, 1) := by decide +kernel
theorem dX10_areMet_12 : decode cX10_areMet 12 = .ok (.ireturn, 1) := by decide +kernel
set_option maxRecDepth 100000 in
set_option maxHeartbeats 4000000 in
theorem c_X10_areMet {h : ai_H} {S : Md} (hwo : wq_at h S) : ai_Met MX10_areMet [.ref 301] h (some (.int (if S.1 3 ≤ 0 then 0 else 1))) h := by
  refine ai_met (ls := [.ref 301]) (by decide) (by simp [ai_en, Value.category]) (by rfl) ?_
  refine rs_aload_n (pc := 0) dX10_areMet_0 rfl ?_
  refine rs_getf (pc := 1) dX10_areMet_1 fX10_22 (mo_lt hwo (by decide)) hwo.2.1 rfl ?_
  refine rs_if_le (tgt := 11) (pc := 4) dX10_areMet_4 rfl (fun c_4 => ?_) (fun c_4 => ?_)
  · refine rs_iconst (v := 0) (pc := 11) dX10_areMet_11 rfl ?_
    exact wk_zret (pc := 12) dX10_areMet_12 rfl (Or.inl rfl) (by simp [c_4]) (rfl)
  · refine rs_iconst (v := 1) (pc := 7) dX10_areMet_7 rfl ?_
    refine rs_goto (tgt := 12) (pc := 8) dX10_areMet_8 rfl ?_
    exact wk_zret (pc := 12) dX10_areMet_12 rfl (Or.inr rfl) (by simp [c_4]) (rfl)
theorem dX10_drawWorld_0 : decode cX10_drawWorld 0 = .ok (.iconst 0, 1) := by decide +kernel
theorem dX10_drawWorld_1 : decode cX10_drawWorld 1 = .ok (.istore_n 2, 1) := by decide +kernel
theorem dX10_drawWorld_2 : decode cX10_drawWorld 2 = .ok (.iload_n 2, 1) := by decide +kernel
theorem dX10_drawWorld_3 : decode cX10_drawWorld 3 = .ok (.aload_n 0, 1) := by decide +kernel
theorem dX10_drawWorld_4 : decode cX10_drawWorld 4 = .ok (.getfield 36, 3) := by decide +kernel
theorem dX10_drawWorld_7 : decode cX10_drawWorld 7 = .ok (.arraylength, 1) := by decide +kernel
theorem dX10_drawWorld_8 : decode cX10_drawWorld 8 = .ok (.if_icmp .ge 16, 3) := by decide +kernel
theorem dX10_drawWorld_11 : decode cX10_drawWorld 11 = .ok (.aload_n 0, 1) := by decide +kernel
theorem dX10_drawWorld_12 : decode cX10_drawWorld 12 = .ok (.getfield 36, 3) := by decide +kernel
theorem dX10_drawWorld_15 : decode cX10_drawWorld 15 = .ok (.iload_n 2, 1) := by decide +kernel
theorem dX10_drawWorld_16 : decode cX10_drawWorld 16 = .ok (.lconst 0, 1) := by decide +kernel
theorem dX10_drawWorld_17 : decode cX10_drawWorld 17 = .ok (.lastore, 1) := by decide +kernel
theorem dX10_drawWorld_18 : decode cX10_drawWorld 18 = .ok (.iinc 2 1, 3) := by decide +kernel
theorem dX10_drawWorld_21 : decode cX10_drawWorld 21 = .ok (.goto (-19), 3) := by decide +kernel
theorem dX10_drawWorld_24 : decode cX10_drawWorld 24 = .ok (.iconst 0, 1) := by decide +kernel
theorem dX10_drawWorld_25 : decode cX10_drawWorld 25 = .ok (.istore_n 2, 1) := by decide +kernel
theorem dX10_drawWorld_26 : decode cX10_drawWorld 26 = .ok (.iload_n 2, 1) := by decide +kernel
theorem dX10_drawWorld_27 : decode cX10_drawWorld 27 = .ok (.aload_n 0, 1) := by decide +kernel
theorem dX10_drawWorld_28 : decode cX10_drawWorld 28 = .ok (.getfield 22, 3) := by decide +kernel
theorem dX10_drawWorld_31 : decode cX10_drawWorld 31 = .ok (.if_icmp .ge 69, 3) := by decide +kernel
theorem dX10_drawWorld_34 : decode cX10_drawWorld 34 = .ok (.aload_n 0, 1) := by decide +kernel
theorem dX10_drawWorld_35 : decode cX10_drawWorld 35 = .ok (.aload_n 0, 1) := by decide +kernel
theorem dX10_drawWorld_36 : decode cX10_drawWorld 36 = .ok (.getfield 25, 3) := by decide +kernel
theorem dX10_drawWorld_39 : decode cX10_drawWorld 39 = .ok (.ldc2_w 72, 3) := by decide +kernel
theorem dX10_drawWorld_42 : decode cX10_drawWorld 42 = .ok (.lmul, 1) := by decide +kernel
theorem dX10_drawWorld_43 : decode cX10_drawWorld 43 = .ok (.ldc2_w 74, 3) := by decide +kernel
theorem dX10_drawWorld_46 : decode cX10_drawWorld 46 = .ok (.ladd, 1) := by decide +kernel
theorem dX10_drawWorld_47 : decode cX10_drawWorld 47 = .ok (.ldc2_w 76, 3) := by decide +kernel
theorem dX10_drawWorld_50 : decode cX10_drawWorld 50 = .ok (.lrem, 1) := by decide +kernel
theorem dX10_drawWorld_51 : decode cX10_drawWorld 51 = .ok (.putfield 25, 3) := by decide +kernel
theorem dX10_drawWorld_54 : decode cX10_drawWorld 54 = .ok (.aload_n 0, 1) := by decide +kernel
theorem dX10_drawWorld_55 : decode cX10_drawWorld 55 = .ok (.getfield 36, 3) := by decide +kernel
theorem dX10_drawWorld_58 : decode cX10_drawWorld 58 = .ok (.aload_n 0, 1) := by decide +kernel
theorem dX10_drawWorld_59 : decode cX10_drawWorld 59 = .ok (.getfield 29, 3) := by decide +kernel
theorem dX10_drawWorld_62 : decode cX10_drawWorld 62 = .ok (.iload_n 2, 1) := by decide +kernel
theorem dX10_drawWorld_63 : decode cX10_drawWorld 63 = .ok (.iaload, 1) := by decide +kernel
theorem dX10_drawWorld_64 : decode cX10_drawWorld 64 = .ok (.dup2, 1) := by decide +kernel
theorem dX10_drawWorld_65 : decode cX10_drawWorld 65 = .ok (.laload, 1) := by decide +kernel
theorem dX10_drawWorld_66 : decode cX10_drawWorld 66 = .ok (.aload_n 0, 1) := by decide +kernel
theorem dX10_drawWorld_67 : decode cX10_drawWorld 67 = .ok (.getfield 33, 3) := by decide +kernel
theorem dX10_drawWorld_70 : decode cX10_drawWorld 70 = .ok (.iload_n 2, 1) := by decide +kernel
theorem dX10_drawWorld_71 : decode cX10_drawWorld 71 = .ok (.iaload, 1) := by decide +kernel
theorem dX10_drawWorld_72 : decode cX10_drawWorld 72 = .ok (.i2l, 1) := by decide +kernel
theorem dX10_drawWorld_73 : decode cX10_drawWorld 73 = .ok (.aload_n 0, 1) := by decide +kernel
theorem dX10_drawWorld_74 : decode cX10_drawWorld 74 = .ok (.getfield 25, 3) := by decide +kernel
theorem dX10_drawWorld_77 : decode cX10_drawWorld 77 = .ok (.ldc2_w 78, 3) := by decide +kernel
theorem dX10_drawWorld_80 : decode cX10_drawWorld 80 = .ok (.ldiv, 1) := by decide +kernel
theorem dX10_drawWorld_81 : decode cX10_drawWorld 81 = .ok (.iconst 2, 1) := by decide +kernel
theorem dX10_drawWorld_82 : decode cX10_drawWorld 82 = .ok (.iload_n 1, 1) := by decide +kernel
theorem dX10_drawWorld_83 : decode cX10_drawWorld 83 = .ok (.imul, 1) := by decide +kernel
theorem dX10_drawWorld_84 : decode cX10_drawWorld 84 = .ok (.iconst 1, 1) := by decide +kernel
theorem dX10_drawWorld_85 : decode cX10_drawWorld 85 = .ok (.iadd, 1) := by decide +kernel
theorem dX10_drawWorld_86 : decode cX10_drawWorld 86 = .ok (.i2l, 1) := by decide +kernel
theorem dX10_drawWorld_87 : decode cX10_drawWorld 87 = .ok (.lrem, 1) := by decide +kernel
theorem dX10_drawWorld_88 : decode cX10_drawWorld 88 = .ok (.ladd, 1) := by decide +kernel
theorem dX10_drawWorld_89 : decode cX10_drawWorld 89 = .ok (.iload_n 1, 1) := by decide +kernel
theorem dX10_drawWorld_90 : decode cX10_drawWorld 90 = .ok (.i2l, 1) := by decide +kernel
theorem dX10_drawWorld_91 : decode cX10_drawWorld 91 = .ok (.lsub, 1) := by decide +kernel
theorem dX10_drawWorld_92 : decode cX10_drawWorld 92 = .ok (.ladd, 1) := by decide +kernel
theorem dX10_drawWorld_93 : decode cX10_drawWorld 93 = .ok (.lastore, 1) := by decide +kernel
theorem dX10_drawWorld_94 : decode cX10_drawWorld 94 = .ok (.iinc 2 1, 3) := by decide +kernel
theorem dX10_drawWorld_97 : decode cX10_drawWorld 97 = .ok (.goto (-71), 3) := by decide +kernel
theorem dX10_drawWorld_100 : decode cX10_drawWorld 100 = .ok (.return_, 1) := by decide +kernel
set_option maxRecDepth 100000 in
set_option maxHeartbeats 4000000 in
theorem l1_X10_drawWorld {h : ai_H} {S : Md} {sp : Int32} {Q : Option Value → ai_H → Prop} (kx : ∀ (S1 : Md) (g : ai_H), ov h g → wq_at g S1 → (S1.1 = S.1 ∧ S1.2.1 = S.2.1 ∧ S1.2.2.1 = S.2.2.1 ∧ ∀ t, t < 400 → S1.2.2.2 7 t = 0) → ai_W MX10_drawWorld 24 [.ref 301, .int sp, .int (nI 400)] [] g Q) : ∀ (k i : Nat) (S1 : Md) (g : ai_H), i ≤ 400 → 401 ≤ i + k → ov h g → wq_at g S1 → (S1.1 = S.1 ∧ S1.2.1 = S.2.1 ∧ S1.2.2.1 = S.2.2.1 ∧ ∀ t, t < i → S1.2.2.2 7 t = 0) → ai_W MX10_drawWorld 2 [.ref 301, .int sp, .int (nI i)] [] g Q := by
  intro k
  induction k with
  | zero => intro i S1 g h1 h2; exact absurd h2 (by omega)
  | succ k ih =>
    intro i S1 g hi0 him E0 hwo hv
    refine wq (fun _ _ kk => rs_iload_n (pc := 2) dX10_drawWorld_2 rfl kk) ?_
    refine wq (fun _ _ kk => rs_aload_n (pc := 3) dX10_drawWorld_3 rfl kk) ?_
    refine wq (fun _ _ kk => rs_getf (pc := 4) dX10_drawWorld_4 fX10_36 (mo_lt hwo (by decide)) hwo.2.1 rfl kk) ?_
    refine wq (fun _ _ kk => rs_alen (pc := 7) dX10_drawWorld_7 (fun _ => rfl) (mo_lt hwo (by decide)) (mo_getl (d := 2) (k := 7) (kd := 1) (l := 400) rfl (by decide) hwo) rfl kk) ?_
    refine wq_br (fun _ _ kt kf => rs_icmp_ge (tgt := 24) (pc := 8) dX10_drawWorld_8 rfl kt kf) (fun c_8 => ?_) (fun c_8 => ?_)
    · have hie : i = 400 := by have y : nI 400 ≤ nI i := c_8; exact lp_exit rfl (by decide) hi0 y
      subst hie
      exact kx S1 g E0 hwo hv
    · have hi : i < 400 := by have y : ¬ nI 400 ≤ nI i := c_8; exact lp_go rfl (by omega) y
      refine wq (fun _ _ kk => rs_aload_n (pc := 11) dX10_drawWorld_11 rfl kk) ?_
      refine wq (fun _ _ kk => rs_getf (pc := 12) dX10_drawWorld_12 fX10_36 (mo_lt hwo (by decide)) hwo.2.1 rfl kk) ?_
      refine wq (fun _ _ kk => rs_iload_n (pc := 15) dX10_drawWorld_15 rfl kk) ?_
      refine wq (fun _ _ kk => rs_lconst (v := 0) (pc := 16) dX10_drawWorld_16 rfl kk) ?_
      refine wq (fun _ _ kk => rs_last (pc := 17) dX10_drawWorld_17 (mo_lt hwo (by decide)) (mo_getl (d := 2) (k := 7) (kd := 1) (l := 400) rfl (by decide) hwo) (vp_in_nI (n := i) (N := 400) (by omega) (by decide)) kk) ?_
      refine wq_gen (fun h_1 e_1 => ?_)
      obtain ⟨m_1, s_1, g_1, o_1⟩ := ai_e1 e_1
      replace hwo := mo_al (tab := wo_tab) (d := 2) wo_nd rfl (by decide) (fun _ _ _ => rfl) hwo m_1 g_1 o_1
      have E_1 := (E0).trans (ov_of m_1 s_1 o_1 (by decide))
      refine wq (fun _ _ kk => wk_iinc2 (v := nI (i + 1)) (pc := 18) dX10_drawWorld_18 (by decide) rfl (nI_1 i) kk) ?_
      refine wq (fun _ _ kk => rs_goto (tgt := 2) (pc := 21) dX10_drawWorld_21 rfl kk) ?_
      rw [nI_clamp (show i < 2 ^ 31 by omega)] at hwo
      refine ih (i + 1) _ _ (by omega) (by omega) (E_1) hwo ⟨hv.1, hv.2.1, hv.2.2.1, fun t ht => ?_⟩
      show vp_updL (S1.2.2.2 7) i 0 t = 0
      by_cases e : t = i
      · subst e; exact if_pos rfl
      · rw [show vp_updL (S1.2.2.2 7) i 0 t = S1.2.2.2 7 t from if_neg e]; exact hv.2.2.2 t (by omega)
set_option maxRecDepth 100000 in
set_option maxHeartbeats 4000000 in
theorem d_X10_drawWorld {h g : ai_H} {B : Bk} {ln ia ib z sl : Nat} {x : Int} {Ls : Nat → List Cl} {wk : Int32} {Sc : Md} (hok : bk_ok B ln) (hG : GI B wk Sc (nR B) z) (hia : ia < 16) (hib : ib < 16) (hij : ia ≠ ib) (hsl : sl ≤ 99) (hx0 : 0 ≤ x ∧ x < 2147483648) {S1 : Md} {r : Nat} {Q : Option Value → ai_H → Prop} (hr : r < nR B) (htk : tkn B wk (nI ia) (nI ib) r = true) (E0 : ov h g) (hwo : wq_at g S1) (hW : WT B Ls wk (nI ia) (nI ib) Sc z (nR B) S1) (hS : WSm B Ls wk (nI ia) (nI ib) sl x Sc z r S1) (kx : ∀ (S1 : Md) (g : ai_H), ov h g → wq_at g S1 → WT B Ls wk (nI ia) (nI ib) Sc z (nR B) S1 → WSm B Ls wk (nI ia) (nI ib) sl x Sc z (r + 1) S1 → ai_W MX10_drawWorld 26 [.ref 301, .int (nI sl), .int (nI (cN (tkn B wk (nI ia) (nI ib)) r + 1))] [] g Q) : ai_W MX10_drawWorld 26 [.ref 301, .int (nI sl), .int (nI (cN (tkn B wk (nI ia) (nI ib)) r))] [] g Q := by
  have hr4 := hok.2.2.2.2.1.2.1
  have hcn := cN_le (tkn B wk (nI ia) (nI ib)) (nR B)
  have hcl := cN_lt htk (nR B) hr
  have hxb := xsZ_b (p := tkn B wk (nI ia) (nI ib)) hx0 r
  have hxb2 : 0 ≤ lcZ (xsZ (tkn B wk (nI ia) (nI ib)) x r) ∧ lcZ (xsZ (tkn B wk (nI ia) (nI ib)) x r) < 2147483648 := by unfold lcZ; omega
  obtain ⟨c, hc, hgm, e5, e6⟩ := hW.2.2.2 r hr htk
  have hz4 := hG.1.2.1
  have hlb := leZ_b B Ls r
  refine wq (fun _ _ kk => rs_iload_n (pc := 26) dX10_drawWorld_26 rfl kk) ?_
  refine wq (fun _ _ kk => rs_aload_n (pc := 27) dX10_drawWorld_27 rfl kk) ?_
  refine wq (fun _ _ kk => rs_getf (pc := 28) dX10_drawWorld_28 fX10_22 (mo_lt hwo (by decide)) hwo.2.1 rfl kk) ?_
  rw [hW.2.2.1]
  refine wq_br (fun _ _ kt kf => rs_icmp_ge (tgt := 100) (pc := 31) dX10_drawWorld_31 rfl kt kf) (fun c_31 => absurd c_31 (fun y => by rw [i32_le, nI_toInt (by omega), nI_toInt (by omega)] at y; omega)) (fun c_31 => ?_)
  refine wq (fun _ _ kk => rs_aload_n (pc := 34) dX10_drawWorld_34 rfl kk) ?_
  refine wq (fun _ _ kk => rs_aload_n (pc := 35) dX10_drawWorld_35 rfl kk) ?_
  refine wq (fun _ _ kk => rs_getf (pc := 36) dX10_drawWorld_36 fX10_25 (mo_lt hwo (by decide)) hwo.2.1 rfl kk) ?_
  refine wq (fun _ _ kk => rs_ldc2 (pc := 39) dX10_drawWorld_39 cnX10_72 kk) ?_
  refine wq (fun _ _ kk => rs_lmul (pc := 42) dX10_drawWorld_42 kk) ?_
  refine wq (fun _ _ kk => rs_ldc2 (pc := 43) dX10_drawWorld_43 cnX10_74 kk) ?_
  refine wq (fun _ _ kk => rs_ladd (pc := 46) dX10_drawWorld_46 kk) ?_
  refine wq (fun _ _ kk => rs_ldc2 (pc := 47) dX10_drawWorld_47 cnX10_76 kk) ?_
  refine wq (fun _ _ kk => rs_lrem (pc := 50) dX10_drawWorld_50 (by decide) kk) ?_
  rw [hS.1, lc_is hxb]
  refine wq (fun _ _ kk => rs_putf (pc := 51) dX10_drawWorld_51 fX10_25 (mo_lt hwo (by decide)) hwo.2.1 rfl (Nat.le_of_ble_eq_true rfl) kk) ?_
  refine wq_gen (fun h_1 e_1 => ?_)
  obtain ⟨m_1, s_1, g_1, o_1⟩ := ai_e1 e_1
  replace g_1 : h_1.2.2 301 = .inr (10, [_, _, _, _, _, _, _, _, _]) := g_1
  replace hwo := mo_dl (k := 4) hwo m_1 g_1 o_1 rfl
  have E_1 := (E0).trans (ov_of m_1 s_1 o_1 (by decide))
  refine wq (fun _ _ kk => rs_aload_n (pc := 54) dX10_drawWorld_54 rfl kk) ?_
  refine wq (fun _ _ kk => rs_getf (pc := 55) dX10_drawWorld_55 fX10_36 (mo_lt hwo (by decide)) hwo.2.1 rfl kk) ?_
  refine wq (fun _ _ kk => rs_aload_n (pc := 58) dX10_drawWorld_58 rfl kk) ?_
  refine wq (fun _ _ kk => rs_getf (pc := 59) dX10_drawWorld_59 fX10_29 (mo_lt hwo (by decide)) hwo.2.1 rfl kk) ?_
  refine wq (fun _ _ kk => rs_iload_n (pc := 62) dX10_drawWorld_62 rfl kk) ?_
  refine wq (fun _ _ kk => rs_iald (pc := 63) dX10_drawWorld_63 (mo_lt hwo (by decide)) (mo_geti (d := 0) (k := 5) (kd := 0) (l := 400) rfl (by decide) hwo) (vp_in_nI (n := cN (tkn B wk (nI ia) (nI ib)) r) (N := 400) (by omega) (by decide)) kk) ?_
  rw [nI_clamp (show cN (tkn B wk (nI ia) (nI ib)) r < 2 ^ 31 by omega), md_dl_i, e5]
  refine wq (fun _ _ kk => rs_dup2 (pc := 64) dX10_drawWorld_64 rfl rfl kk) ?_
  refine wq (fun _ _ kk => rs_lald (pc := 65) dX10_drawWorld_65 (mo_lt hwo (by decide)) (mo_getl (d := 2) (k := 7) (kd := 1) (l := 400) rfl (by decide) hwo) (vp_in_nI (n := c) (N := 400) (by omega) (by decide)) kk) ?_
  rw [nI_clamp (show c < 2 ^ 31 by omega)]
  refine wq (fun _ _ kk => rs_aload_n (pc := 66) dX10_drawWorld_66 rfl kk) ?_
  refine wq (fun _ _ kk => rs_getf (pc := 67) dX10_drawWorld_67 fX10_33 (mo_lt hwo (by decide)) hwo.2.1 rfl kk) ?_
  refine wq (fun _ _ kk => rs_iload_n (pc := 70) dX10_drawWorld_70 rfl kk) ?_
  refine wq (fun _ _ kk => rs_iald (pc := 71) dX10_drawWorld_71 (mo_lt hwo (by decide)) (mo_geti (d := 1) (k := 6) (kd := 0) (l := 400) rfl (by decide) hwo) (vp_in_nI (n := cN (tkn B wk (nI ia) (nI ib)) r) (N := 400) (by omega) (by decide)) kk) ?_
  rw [nI_clamp (show cN (tkn B wk (nI ia) (nI ib)) r < 2 ^ 31 by omega), md_dl_i, e6]
  refine wq (fun _ _ kk => rs_i2l (pc := 72) dX10_drawWorld_72 kk) ?_
  rw [aI_i2l (by omega) (by omega)]
  refine wq (fun _ _ kk => rs_aload_n (pc := 73) dX10_drawWorld_73 rfl kk) ?_
  refine wq (fun _ _ kk => rs_getf (pc := 74) dX10_drawWorld_74 fX10_25 (mo_lt hwo (by decide)) hwo.2.1 rfl kk) ?_
  refine wq (fun _ _ kk => rs_ldc2 (pc := 77) dX10_drawWorld_77 cnX10_78 kk) ?_
  refine wq (fun _ _ kk => rs_ldiv (pc := 80) dX10_drawWorld_80 (by decide) kk) ?_
  refine wq (fun _ _ kk => rs_iconst (v := 2) (pc := 81) dX10_drawWorld_81 rfl kk) ?_
  refine wq (fun _ _ kk => rs_iload_n (pc := 82) dX10_drawWorld_82 rfl kk) ?_
  refine wq (fun _ _ kk => rs_imul (pc := 83) dX10_drawWorld_83 kk) ?_
  refine wq (fun _ _ kk => rs_iconst (v := 1) (pc := 84) dX10_drawWorld_84 rfl kk) ?_
  refine wq (fun _ _ kk => rs_iadd (pc := 85) dX10_drawWorld_85 kk) ?_
  refine wq (fun _ _ kk => rs_i2l (pc := 86) dX10_drawWorld_86 kk) ?_
  refine wq (fun _ _ kk => rs_lrem (pc := 87) dX10_drawWorld_87 (fun y => by rw [show (2 : Int32) * nI sl + 1 = aI (2 * (sl : Int) + 1) from by rw [← aI_nat, show (2 : Int32) = aI 2 from rfl, show (1 : Int32) = aI 1 from rfl, aI_mul, aI_add], aI_i2l (by omega) (by omega), show (0 : Int64) = aL 0 from rfl, aL_eq (by omega) (by omega) (by omega) (by omega)] at y; omega) kk) ?_
  refine wq (fun _ _ kk => rs_ladd (pc := 88) dX10_drawWorld_88 kk) ?_
  refine wq (fun _ _ kk => rs_iload_n (pc := 89) dX10_drawWorld_89 rfl kk) ?_
  refine wq (fun _ _ kk => rs_i2l (pc := 90) dX10_drawWorld_90 kk) ?_
  refine wq (fun _ _ kk => rs_lsub (pc := 91) dX10_drawWorld_91 kk) ?_
  rw [show (md_dl S1 (aL (lcZ (xsZ (tkn B wk (nI ia) (nI ib)) x r)))).2.1 = aL (lcZ (xsZ (tkn B wk (nI ia) (nI ib)) x r)) from rfl, dr_is hxb2 hsl]
  refine wq (fun _ _ kk => rs_ladd (pc := 92) dX10_drawWorld_92 kk) ?_
  refine wq (fun _ _ kk => rs_last (pc := 93) dX10_drawWorld_93 (mo_lt hwo (by decide)) (mo_getl (d := 2) (k := 7) (kd := 1) (l := 400) rfl (by decide) hwo) (vp_in_nI (n := c) (N := 400) (by omega) (by decide)) kk) ?_
  refine wq_gen (fun h_2 e_2 => ?_)
  obtain ⟨m_2, s_2, g_2, o_2⟩ := ai_e1 e_2
  replace hwo := mo_al (tab := wo_tab) (d := 2) wo_nd rfl (by decide) (fun _ _ _ => rfl) hwo m_2 g_2 o_2
  have E_2 := (E_1).trans (ov_of m_2 s_2 o_2 (by decide))
  refine wq (fun _ _ kk => wk_iinc2 (v := nI (cN (tkn B wk (nI ia) (nI ib)) r + 1)) (pc := 94) dX10_drawWorld_94 (by decide) rfl (nI_1 _) kk) ?_
  refine wq (fun _ _ kk => rs_goto (tgt := 26) (pc := 97) dX10_drawWorld_97 rfl kk) ?_
  rw [nI_clamp (show c < 2 ^ 31 by omega)] at hwo
  refine kx _ _ (E_2) hwo ⟨hW.1, hW.2.1, hW.2.2.1, hW.2.2.2⟩ (WSm_y hS (fun d hd e1 e2 => cell_inj hG hd hc e1 e2) htk hgm rfl ?_)
  show vp_updL (S1.2.2.2 7) c _ = _
  rw [show vaZ (leZ B Ls) (tkn B wk (nI ia) (nI ib)) sl x r = leZ B Ls r + lcZ (xsZ (tkn B wk (nI ia) (nI ib)) x r) / 65536 % (2 * (sl : Int) + 1) - (sl : Int) from by unfold vaZ; rw [xsZ, if_pos htk]]
  rfl
set_option maxRecDepth 100000 in
set_option maxHeartbeats 4000000 in
theorem e_X10_drawWorld {h g : ai_H} {B : Bk} {ln ia ib z sl : Nat} {x : Int} {Ls : Nat → List Cl} {wk : Int32} {Sc S1 : Md} (hok : bk_ok B ln) (E0 : ov h g) (hwo : wq_at g S1) (hW : WT B Ls wk (nI ia) (nI ib) Sc z (nR B) S1) (hS : WSm B Ls wk (nI ia) (nI ib) sl x Sc z (nR B) S1) : ai_W MX10_drawWorld 26 [.ref 301, .int (nI sl), .int (nI (cN (tkn B wk (nI ia) (nI ib)) (nR B)))] [] g (fun rr g => rr = none ∧ ov h g ∧ ∃ S', wq_at g S' ∧ WT B Ls wk (nI ia) (nI ib) Sc z (nR B) S' ∧ WSm B Ls wk (nI ia) (nI ib) sl x Sc z (nR B) S') := by
  refine wq (fun _ _ kk => rs_iload_n (pc := 26) dX10_drawWorld_26 rfl kk) ?_
  refine wq (fun _ _ kk => rs_aload_n (pc := 27) dX10_drawWorld_27 rfl kk) ?_
  refine wq (fun _ _ kk => rs_getf (pc := 28) dX10_drawWorld_28 fX10_22 (mo_lt hwo (by decide)) hwo.2.1 rfl kk) ?_
  rw [hW.2.2.1]
  refine wq_br (fun _ _ kt kf => rs_icmp_ge (tgt := 100) (pc := 31) dX10_drawWorld_31 rfl kt kf) (fun c_31 => ?_) (fun c_31 => absurd c_31 (fun y => y (by rw [i32_le]; omega)))
  refine wq_ret ?_ (rs_vret (pc := 100) dX10_drawWorld_100 rfl)
  exact ⟨rfl, E0, S1, hwo, hW, hS⟩
theorem l2_X10_drawWorld {h : ai_H} {B : Bk} {ln ia ib z sl : Nat} {x : Int} {Ls : Nat → List Cl} {wk : Int32} {Sc : Md} (hok : bk_ok B ln) (hG : GI B wk Sc (nR B) z) (hia : ia < 16) (hib : ib < 16) (hij : ia ≠ ib) (hsl : sl ≤ 99) (hx0 : 0 ≤ x ∧ x < 2147483648) : ∀ (m r : Nat) (S1 : Md) (g : ai_H), r + m = nR B → ov h g → wq_at g S1 → WT B Ls wk (nI ia) (nI ib) Sc z (nR B) S1 → WSm B Ls wk (nI ia) (nI ib) sl x Sc z r S1 → ai_W MX10_drawWorld 26 [.ref 301, .int (nI sl), .int (nI (cN (tkn B wk (nI ia) (nI ib)) r))] [] g (fun rr g => rr = none ∧ ov h g ∧ ∃ S', wq_at g S' ∧ WT B Ls wk (nI ia) (nI ib) Sc z (nR B) S' ∧ WSm B Ls wk (nI ia) (nI ib) sl x Sc z (nR B) S') := by
  intro m
  induction m with
  | zero =>
    intro r S1 g hr E0 hwo hW hS
    have hr : r = nR B := hr
    subst hr
    exact e_X10_drawWorld hok E0 hwo hW hS
  | succ m ih =>
    intro r S1 g hr E0 hwo hW hS
    by_cases c : tkn B wk (nI ia) (nI ib) r = true
    · refine d_X10_drawWorld hok hG hia hib hij hsl hx0 (by omega) c E0 hwo hW hS (fun S1 g E0 hwo hW hS => ?_)
      have := ih (r + 1) S1 g (by omega) E0 hwo hW hS
      rw [cN, if_pos c] at this
      exact this
    · have := ih (r + 1) S1 g (by omega) E0 hwo hW (WSm_n hS c)
      rw [cN, if_neg c] at this
      exact this
set_option maxRecDepth 100000 in
set_option maxHeartbeats 4000000 in
theorem c_X10_drawWorld {h : ai_H} {B : Bk} {ln ia ib z sl : Nat} {x : Int} {Ls : Nat → List Cl} {wk : Int32} {Sc : Md} (hok : bk_ok B ln) (hG : GI B wk Sc (nR B) z) (hia : ia < 16) (hib : ib < 16) (hij : ia ≠ ib) (hsl : sl ≤ 99) (hx0 : 0 ≤ x ∧ x < 2147483648) {S : Md} (hwo : wq_at h S) (hW : WT B Ls wk (nI ia) (nI ib) Sc z (nR B) S) (ex : S.2.1 = aL x) : ai_QM MX10_drawWorld [.ref 301, .int (nI sl)] h (fun rr g => rr = none ∧ ov h g ∧ ∃ S', wq_at g S' ∧ WT B Ls wk (nI ia) (nI ib) Sc z (nR B) S' ∧ WSm B Ls wk (nI ia) (nI ib) sl x Sc z (nR B) S') := by
  refine qm_of (ls := [.ref 301, .int (nI sl), .float 0]) (by decide) (by simp [ai_en, Value.category]) (by rfl) ?_
  refine wq (fun _ _ kk => rs_iconst (v := 0) (pc := 0) dX10_drawWorld_0 rfl kk) ?_
  refine wq (fun _ _ kk => wk_istn2 (pc := 1) dX10_drawWorld_1 (by decide) rfl kk) ?_
  refine l1_X10_drawWorld (h := h) (S := S) ?_ 401 0 S h (by omega) (by omega) ov.rf hwo ⟨rfl, rfl, rfl, fun t ht => absurd ht (Nat.not_lt_zero t)⟩
  intro S1 g E0 hwo hv
  refine wq (fun _ _ kk => rs_iconst (v := 0) (pc := 24) dX10_drawWorld_24 rfl kk) ?_
  refine wq (fun _ _ kk => wk_istn2 (pc := 25) dX10_drawWorld_25 (by decide) rfl kk) ?_
  have hz4 := hG.1.2.1
  exact l2_X10_drawWorld hok hG hia hib hij hsl hx0 (nR B) 0 S1 g (by omega) E0 hwo ⟨by rw [hv.1]; exact hW.1, by rw [hv.1]; exact hW.2.1, by rw [hv.1]; exact hW.2.2.1, fun r h1 h2 => by rw [hv.2.2.1]; exact hW.2.2.2 r h1 h2⟩ ⟨by rw [hv.2.1]; exact ex, fun c hc => hv.2.2.2 _ (by omega)⟩
theorem wo_keep3 {c : Value} {h g : ai_H} {S : Md} (hm : wo_at c h S) (e : fr 305 305 h g) : wo_at c g S := mo_keep hm e.1 (fun j h1 h2 => e.2.2 j (by have h2 : j ≤ 301 + 3 := h2; omega))
theorem fKo_b {B : Bk} {ln : Nat} (hok : bk_ok B ln) {Ls : Nat → List Cl} {wk a b : Int32} {sl : Nat} {x : Int} (hsl : sl ≤ 99) {K : Int32 × Int32 × Int32} (hm : mK B wk a b K) : -880000000 ≤ fKo B Ls wk a b sl x K ∧ fKo B Ls wk a b sl x K ≤ 880000000 := by
  have hr4 := hok.2.2.2.2.1.2.1
  have w1 := wKo_b (B := B) (Ls := Ls) (wk := wk) (a := a) (b := b) (x := x) (K := K) (o := a) hsl hr4
  have w2 := wKo_b (B := B) (Ls := Ls) (wk := wk) (a := a) (b := b) (x := x) (K := K) (o := b) hsl hr4
  exact (dif_z hm.2.2.1 (zc_le B hok wk K a) hm.2.2.2 (zc_le B hok wk K b) w1.1 w1.2 w2.1 w2.2).2.2
theorem ks_b {B : Bk} {ln : Nat} (hok : bk_ok B ln) {Ls : Nat → List Cl} {wk : Int32} {ia ib z sl : Nat} {x : Int} {Sc : Md} (hG : GI B wk Sc (nR B) z) (hia : ia < 16) (hib : ib < 16) (hsl : sl ≤ 99) : ∀ n, n ≤ z → (∀ y, y ∈ (lst (mt_p Sc z (ia * 16 + ib)) (kC Sc) n).map (fKo B Ls wk (nI ia) (nI ib) sl x) → -880000000 ≤ y ∧ y ≤ 880000000) ∧ ((lst (mt_p Sc z (ia * 16 + ib)) (kC Sc) n).map (fKo B Ls wk (nI ia) (nI ib) sl x)).length ≤ 400 := by
  intro n hn
  refine ⟨fun y hy => ?_, ?_⟩
  · obtain ⟨K, K1, K2⟩ := List.mem_map.1 hy
    obtain ⟨c, c1, c2, c3⟩ := (mem_lst _).1 K1
    have hm := ((mt_p_is hok hG (show c < z by omega) (show ia * 16 + ib < 256 by omega)).1 c2).1
    rw [show (ia * 16 + ib) / 16 = ia by omega, show (ia * 16 + ib) % 16 = ib by omega, c3] at hm
    rw [← K2]
    exact fKo_b hok hsl hm
  · rw [List.length_map, lst_len]
    have := cN_le (mt_p Sc z (ia * 16 + ib)) n
    have := hG.1.2.1
    omega
theorem ap_mean {B : Bk} {ln : Nat} (hok : bk_ok B ln) {Ls : Nat → List Cl} {wk : Int32} {ia ib z sl : Nat} {x : Int} {Sc : Md} (hG : GI B wk Sc (nR B) z) (hia : ia < 16) (hib : ib < 16) (hsl : sl ≤ 99) (hne : lst (mt_p Sc z (ia * 16 + ib)) (kC Sc) z ≠ []) : some (Value.long (ty_mean (tyl ((lst (mt_p Sc z (ia * 16 + ib)) (kC Sc) z).map (fKo B Ls wk (nI ia) (nI ib) sl x))).1 (tyl ((lst (mt_p Sc z (ia * 16 + ib)) (kC Sc) z).map (fKo B Ls wk (nI ia) (nI ib) sl x))).2.1)) = some (Value.long (aL (zsum ((lst (mt_p Sc z (ia * 16 + ib)) (kC Sc) z).map (fKo B Ls wk (nI ia) (nI ib) sl x)) / ((lst (mt_p Sc z (ia * 16 + ib)) (kC Sc) z).length : Int)))) := by
  obtain ⟨k1, k2⟩ := ks_b (Ls := Ls) (x := x) hok hG hia hib hsl z (Nat.le_refl z)
  have k3 := zsum_b k1
  rw [List.length_map] at k2 k3
  have hp : 1 ≤ (lst (mt_p Sc z (ia * 16 + ib)) (kC Sc) z).length := by
    cases e : lst (mt_p Sc z (ia * 16 + ib)) (kC Sc) z with
    | nil => exact absurd e hne
    | cons y l => rw [List.length_cons]; omega
  show some (Value.long (if nI ((lst (mt_p Sc z (ia * 16 + ib)) (kC Sc) z).map _).length = 0 then 0 else bi_fdL (aL _) (nI ((lst (mt_p Sc z (ia * 16 + ib)) (kC Sc) z).map _).length).toInt64)) = _
  rw [List.length_map, if_neg (by rw [nI_z (by omega)]; omega), nI_i2l (by omega), aL_fd (by omega) (by omega) (by omega) (by omega)]
theorem fr_ow {h g : ai_H} (a : fr 305 305 h g) : ow h g := ⟨a.1, a.2.1, fun j hj => a.2.2 j (by omega)⟩
theorem dX10_apartMean_0 : decode cX10_apartMean 0 = .ok (.aload_n 0, 1) := by decide +kernel
theorem dX10_apartMean_1 : decode cX10_apartMean 1 = .ok (.getfield 43, 3) := by decide +kernel
theorem dX10_apartMean_4 : decode cX10_apartMean 4 = .ok (.invokevirtual 80, 3) := by decide +kernel
theorem dX10_apartMean_7 : decode cX10_apartMean 7 = .ok (.iconst 0, 1) := by decide +kernel
theorem dX10_apartMean_8 : decode cX10_apartMean 8 = .ok (.istore_n 1, 1) := by decide +kernel
theorem dX10_apartMean_9 : decode cX10_apartMean 9 = .ok (.aload_n 0, 1) := by decide +kernel
theorem dX10_apartMean_10 : decode cX10_apartMean 10 = .ok (.getfield 9, 3) := by decide +kernel
theorem dX10_apartMean_13 : decode cX10_apartMean 13 = .ok (.ifnull 85, 3) := by decide +kernel
theorem dX10_apartMean_16 : decode cX10_apartMean 16 = .ok (.iload_n 1, 1) := by decide +kernel
theorem dX10_apartMean_17 : decode cX10_apartMean 17 = .ok (.aload_n 0, 1) := by decide +kernel
theorem dX10_apartMean_18 : decode cX10_apartMean 18 = .ok (.getfield 9, 3) := by decide +kernel
theorem dX10_apartMean_21 : decode cX10_apartMean 21 = .ok (.getfield 83, 3) := by decide +kernel
theorem dX10_apartMean_24 : decode cX10_apartMean 24 = .ok (.if_icmp .ge 74, 3) := by decide +kernel
theorem dX10_apartMean_27 : decode cX10_apartMean 27 = .ok (.aload_n 0, 1) := by decide +kernel
theorem dX10_apartMean_28 : decode cX10_apartMean 28 = .ok (.getfield 9, 3) := by decide +kernel
theorem dX10_apartMean_31 : decode cX10_apartMean 31 = .ok (.iload_n 1, 1) := by decide +kernel
theorem dX10_apartMean_32 : decode cX10_apartMean 32 = .ok (.aload_n 0, 1) := by decide +kernel
theorem dX10_apartMean_33 : decode cX10_apartMean 33 = .ok (.getfield 15, 3) := by decide +kernel
theorem dX10_apartMean_36 : decode cX10_apartMean 36 = .ok (.invokevirtual 56, 3) := by decide +kernel
theorem dX10_apartMean_39 : decode cX10_apartMean 39 = .ok (.ifCond .eq 18, 3) := by decide +kernel
theorem dX10_apartMean_42 : decode cX10_apartMean 42 = .ok (.aload_n 0, 1) := by decide +kernel
theorem dX10_apartMean_43 : decode cX10_apartMean 43 = .ok (.getfield 9, 3) := by decide +kernel
theorem dX10_apartMean_46 : decode cX10_apartMean 46 = .ok (.iload_n 1, 1) := by decide +kernel
theorem dX10_apartMean_47 : decode cX10_apartMean 47 = .ok (.aload_n 0, 1) := by decide +kernel
theorem dX10_apartMean_48 : decode cX10_apartMean 48 = .ok (.getfield 19, 3) := by decide +kernel
theorem dX10_apartMean_51 : decode cX10_apartMean 51 = .ok (.invokevirtual 60, 3) := by decide +kernel
theorem dX10_apartMean_54 : decode cX10_apartMean 54 = .ok (.goto 4, 3) := by decide +kernel
theorem dX10_apartMean_57 : decode cX10_apartMean 57 = .ok (.iconst (-1), 1) := by decide +kernel
theorem dX10_apartMean_58 : decode cX10_apartMean 58 = .ok (.istore_n 2, 1) := by decide +kernel
theorem dX10_apartMean_59 : decode cX10_apartMean 59 = .ok (.iload_n 2, 1) := by decide +kernel
theorem dX10_apartMean_60 : decode cX10_apartMean 60 = .ok (.iconst (-1), 1) := by decide +kernel
theorem dX10_apartMean_61 : decode cX10_apartMean 61 = .ok (.if_icmp .eq 31, 3) := by decide +kernel
theorem dX10_apartMean_64 : decode cX10_apartMean 64 = .ok (.aload_n 0, 1) := by decide +kernel
theorem dX10_apartMean_65 : decode cX10_apartMean 65 = .ok (.getfield 43, 3) := by decide +kernel
theorem dX10_apartMean_68 : decode cX10_apartMean 68 = .ok (.aload_n 0, 1) := by decide +kernel
theorem dX10_apartMean_69 : decode cX10_apartMean 69 = .ok (.getfield 9, 3) := by decide +kernel
theorem dX10_apartMean_72 : decode cX10_apartMean 72 = .ok (.iload_n 1, 1) := by decide +kernel
theorem dX10_apartMean_73 : decode cX10_apartMean 73 = .ok (.aload_n 0, 1) := by decide +kernel
theorem dX10_apartMean_74 : decode cX10_apartMean 74 = .ok (.getfield 36, 3) := by decide +kernel
theorem dX10_apartMean_77 : decode cX10_apartMean 77 = .ok (.iload_n 1, 1) := by decide +kernel
theorem dX10_apartMean_78 : decode cX10_apartMean 78 = .ok (.laload, 1) := by decide +kernel
theorem dX10_apartMean_79 : decode cX10_apartMean 79 = .ok (.iload_n 2, 1) := by decide +kernel
theorem dX10_apartMean_80 : decode cX10_apartMean 80 = .ok (.aload_n 0, 1) := by decide +kernel
theorem dX10_apartMean_81 : decode cX10_apartMean 81 = .ok (.getfield 36, 3) := by decide +kernel
theorem dX10_apartMean_84 : decode cX10_apartMean 84 = .ok (.iload_n 2, 1) := by decide +kernel
theorem dX10_apartMean_85 : decode cX10_apartMean 85 = .ok (.laload, 1) := by decide +kernel
theorem dX10_apartMean_86 : decode cX10_apartMean 86 = .ok (.invokevirtual 86, 3) := by decide +kernel
theorem dX10_apartMean_89 : decode cX10_apartMean 89 = .ok (.invokevirtual 90, 3) := by decide +kernel
theorem dX10_apartMean_92 : decode cX10_apartMean 92 = .ok (.iinc 1 1, 3) := by decide +kernel
theorem dX10_apartMean_95 : decode cX10_apartMean 95 = .ok (.goto (-86), 3) := by decide +kernel
theorem dX10_apartMean_98 : decode cX10_apartMean 98 = .ok (.aload_n 0, 1) := by decide +kernel
theorem dX10_apartMean_99 : decode cX10_apartMean 99 = .ok (.getfield 43, 3) := by decide +kernel
theorem dX10_apartMean_102 : decode cX10_apartMean 102 = .ok (.invokevirtual 94, 3) := by decide +kernel
theorem dX10_apartMean_105 : decode cX10_apartMean 105 = .ok (.lreturn, 1) := by decide +kernel
set_option maxRecDepth 100000 in
set_option maxHeartbeats 4000000 in
theorem l_X10_apartMean {h : ai_H} {B : Bk} {ln ia ib z sl : Nat} {x : Int} {Ls : Nat → List Cl} {wk : Int32} {Sc : Md} (hok : bk_ok B ln) (hG : GI B wk Sc (nR B) z) (hia : ia < 16) (hib : ib < 16) (hij : ia ≠ ib) (hsl : sl ≤ 99) (hx0 : 0 ≤ x ∧ x < 2147483648) {S1 : Md} (hne : (lst (mt_p Sc z (ia * 16 + ib)) (kC Sc) z) ≠ []) (hW : WT B Ls wk (nI ia) (nI ib) Sc z (nR B) S1) (hS : WSm B Ls wk (nI ia) (nI ib) sl x Sc z (nR B) S1) : ∀ (k c : Nat) (u2 : Value) (g : ai_H), c ≤ z → z + 1 ≤ c + k → ow h g → cl_at g Sc → wq_at g S1 → g.2.2 305 = ty_cell (tyl ((lst (mt_p Sc z (ia * 16 + ib)) (kC Sc) c).map (fKo B Ls wk (nI ia) (nI ib) sl x))) → 305 < g.1 → ai_W MX10_apartMean 9 [.ref 301, .int (nI c), u2] [] g (fun rr g => ow h g ∧ cl_at g Sc ∧ wq_at g S1 ∧ (∃ t, g.2.2 305 = ty_cell t) ∧ 305 < g.1 ∧ rr = some (.long (aL (zsum ((lst (mt_p Sc z (ia * 16 + ib)) (kC Sc) z).map (fKo B Ls wk (nI ia) (nI ib) sl x)) / ((lst (mt_p Sc z (ia * 16 + ib)) (kC Sc) z).length : Int))))) := by
  have hr4 := hok.2.2.2.2.1.2.1
  have hz4 := hG.1.2.1
  intro k
  induction k with
  | zero => intro c u2 g h1 h2; exact absurd h2 (by omega)
  | succ k ih =>
    intro c u2 g hc0 him E0 hcl hwo hta hq3
    refine wq (fun _ _ kk => rs_aload_n (pc := 9) dX10_apartMean_9 rfl kk) ?_
    refine wq (fun _ _ kk => rs_getf (pc := 10) dX10_apartMean_10 fX10_9 (mo_lt hwo (by decide)) hwo.2.1 rfl kk) ?_
    refine wq (fun _ _ kk => rs_ifnull (pc := 13) dX10_apartMean_13 kk) ?_
    refine wq (fun _ _ kk => rs_iload_n (pc := 16) dX10_apartMean_16 rfl kk) ?_
    refine wq (fun _ _ kk => rs_aload_n (pc := 17) dX10_apartMean_17 rfl kk) ?_
    refine wq (fun _ _ kk => rs_getf (pc := 18) dX10_apartMean_18 fX10_9 (mo_lt hwo (by decide)) hwo.2.1 rfl kk) ?_
    refine wq (fun _ _ kk => rs_getf (pc := 21) dX10_apartMean_21 fX10_83 (mo_lt hcl (by decide)) hcl.2.1 rfl kk) ?_
    rw [hG.1.1]
    refine wq_br (fun _ _ kt kf => rs_icmp_ge (tgt := 98) (pc := 24) dX10_apartMean_24 rfl kt kf) (fun c_24 => ?_) (fun c_24 => ?_)
    · have hce : c = z := lp_exit rfl (by omega) hc0 c_24
      subst hce
      refine wq (fun _ _ kk => rs_aload_n (pc := 98) dX10_apartMean_98 rfl kk) ?_
      refine wq (fun _ _ kk => rs_getf (pc := 99) dX10_apartMean_99 fX10_43 (mo_lt hwo (by decide)) hwo.2.1 rfl kk) ?_
      refine wq (fun _ _ kk => rs_callV (as := []) (pc := 102) dX10_apartMean_102 mk_X9_mean mlX10_94 in_X9_mean se_X9_mean rfl hq3 hta rfl rfl (Nat.le_of_ble_eq_true rfl) (c_X9_mean hq3 hta) kk) ?_
      refine wq_ret ?_ (rs_lret (pc := 105) dX10_apartMean_105 rfl)
      exact ⟨E0, hcl, hwo, ⟨_, hta⟩, hq3, ap_mean hok hG hia hib hsl hne⟩
    · have hc : c < z := lp_go rfl (by omega) c_24
      have hmp := met_p (S := Sc) (z := z) (n := c) hia hib hij
      refine wq (fun _ _ kk => rs_aload_n (pc := 27) dX10_apartMean_27 rfl kk) ?_
      refine wq (fun _ _ kk => rs_getf (pc := 28) dX10_apartMean_28 fX10_9 (mo_lt hwo (by decide)) hwo.2.1 rfl kk) ?_
      refine wq (fun _ _ kk => rs_iload_n (pc := 31) dX10_apartMean_31 rfl kk) ?_
      refine wq (fun _ _ kk => rs_aload_n (pc := 32) dX10_apartMean_32 rfl kk) ?_
      refine wq (fun _ _ kk => rs_getf (pc := 33) dX10_apartMean_33 fX10_15 (mo_lt hwo (by decide)) hwo.2.1 rfl kk) ?_
      rw [hW.1]
      refine wq (fun _ _ kk => rs_callV (as := [_, _]) (pc := 36) dX10_apartMean_36 mk_X2_isBy mlX10_56 in_X2_isBy se_X2_isBy rfl (mo_lt hcl (by decide)) hcl.2.1 rfl rfl (Nat.le_of_ble_eq_true rfl) (c_X2_isBy hcl hG.1.sz _ _) kk) ?_
      rw [by_at hG.1 hc]
      refine wq_br (fun _ _ kt kf => rs_if_eq (tgt := 57) (pc := 39) dX10_apartMean_39 rfl kt kf) (fun c_39 => ?_) (fun c_39 => ?_)
      · rw [ite10] at c_39
        refine wq (fun _ _ kk => rs_iconst (v := -1) (pc := 57) dX10_apartMean_57 rfl kk) ?_
        refine wq (fun _ _ kk => wk_istn2 (pc := 58) dX10_apartMean_58 (by decide) rfl kk) ?_
        refine wq (fun _ _ kk => rs_iload_n (pc := 59) dX10_apartMean_59 rfl kk) ?_
        refine wq (fun _ _ kk => rs_iconst (v := -1) (pc := 60) dX10_apartMean_60 rfl kk) ?_
        refine wq_br (fun _ _ kt kf => rs_icmp_eq (tgt := 92) (pc := 61) dX10_apartMean_61 rfl kt kf) (fun c_61 => ?_) (fun c_61 => absurd c_61 (by decide))
        refine wq (fun _ _ kk => wk_iinc1 (v := nI (c + 1)) (pc := 92) dX10_apartMean_92 (by decide) rfl (nI_1 c) kk) ?_
        refine wq (fun _ _ kk => rs_goto (tgt := 9) (pc := 95) dX10_apartMean_95 rfl kk) ?_
        exact ih (c + 1) _ g (by omega) (by omega) E0 hcl hwo (by rw [lst, if_neg (by rw [hmp]; first | exact fun y => c_39 y.1 | exact fun y => y.2 c_61)]; exact hta) hq3
      · rw [ite10, Classical.not_not] at c_39
        refine wq (fun _ _ kk => rs_aload_n (pc := 42) dX10_apartMean_42 rfl kk) ?_
        refine wq (fun _ _ kk => rs_getf (pc := 43) dX10_apartMean_43 fX10_9 (mo_lt hwo (by decide)) hwo.2.1 rfl kk) ?_
        refine wq (fun _ _ kk => rs_iload_n (pc := 46) dX10_apartMean_46 rfl kk) ?_
        refine wq (fun _ _ kk => rs_aload_n (pc := 47) dX10_apartMean_47 rfl kk) ?_
        refine wq (fun _ _ kk => rs_getf (pc := 48) dX10_apartMean_48 fX10_19 (mo_lt hwo (by decide)) hwo.2.1 rfl kk) ?_
        rw [hW.2.1]
        refine wq (fun _ _ kk => rs_callV (as := [_, _]) (pc := 51) dX10_apartMean_51 mk_X2_met mlX10_60 in_X2_met se_X2_met rfl (mo_lt hcl (by decide)) hcl.2.1 rfl rfl (Nat.le_of_ble_eq_true rfl) (c_X2_met hcl hG.1 hc _) kk) ?_
        refine wq (fun _ _ kk => rs_goto (tgt := 58) (pc := 54) dX10_apartMean_54 rfl kk) ?_
        refine wq (fun _ _ kk => wk_istn2 (pc := 58) dX10_apartMean_58 (by decide) rfl kk) ?_
        refine wq (fun _ _ kk => rs_iload_n (pc := 59) dX10_apartMean_59 rfl kk) ?_
        refine wq (fun _ _ kk => rs_iconst (v := -1) (pc := 60) dX10_apartMean_60 rfl kk) ?_
        refine wq_br (fun _ _ kt kf => rs_icmp_eq (tgt := 92) (pc := 61) dX10_apartMean_61 rfl kt kf) (fun c_61 => ?_) (fun c_61 => ?_)
        · refine wq (fun _ _ kk => wk_iinc1 (v := nI (c + 1)) (pc := 92) dX10_apartMean_92 (by decide) rfl (nI_1 c) kk) ?_
          refine wq (fun _ _ kk => rs_goto (tgt := 9) (pc := 95) dX10_apartMean_95 rfl kk) ?_
          exact ih (c + 1) _ g (by omega) (by omega) E0 hcl hwo (by rw [lst, if_neg (by rw [hmp]; first | exact fun y => c_39 y.1 | exact fun y => y.2 c_61)]; exact hta) hq3
        · have hmt1 := hmp.2 ⟨c_39, c_61⟩
          have hm := ((mt_p_is hok hG hc (show ia * 16 + ib < 256 by omega)).1 hmt1).1
          rw [show (ia * 16 + ib) / 16 = ia by omega, show (ia * 16 + ib) % 16 = ib by omega] at hm
          obtain ⟨d, hd, kd, od⟩ := cell_of hG hm.2.2.2
          rw [show cl_met Sc z c (nI ib) = nI d from (if_neg hm.2.1).trans (mo_is hG.1 hd kd od)]
          obtain ⟨k1, -⟩ := cl_at_cell hG hc
          obtain ⟨k2, -⟩ := cl_at_cell hG hd
          have b1 := zc_le B hok wk (kC Sc c) (nI ia)
          have b2 := zc_le B hok wk (kC Sc c) (nI ib)
          have s1 := hS.2 c hc
          have s2 := hS.2 d hd
          rw [c_39] at k1 s1
          rw [kd, od] at k2 s2
          have w1 := wKo_b (B := B) (Ls := Ls) (wk := wk) (a := nI ia) (b := nI ib) (x := x) (K := kC Sc c) (o := nI ia) hsl hr4
          have w2 := wKo_b (B := B) (Ls := Ls) (wk := wk) (a := nI ia) (b := nI ib) (x := x) (K := kC Sc c) (o := nI ib) hsl hr4
          obtain ⟨dz, -, db1, db2⟩ := dif_z (na := zc B wk (kC Sc c) (nI ia)) (nb := zc B wk (kC Sc c) (nI ib)) hm.2.2.1 b1 hm.2.2.2 b2 w1.1 w1.2 w2.1 w2.2
          refine wq (fun _ _ kk => rs_aload_n (pc := 64) dX10_apartMean_64 rfl kk) ?_
          refine wq (fun _ _ kk => rs_getf (pc := 65) dX10_apartMean_65 fX10_43 (mo_lt hwo (by decide)) hwo.2.1 rfl kk) ?_
          refine wq (fun _ _ kk => rs_aload_n (pc := 68) dX10_apartMean_68 rfl kk) ?_
          refine wq (fun _ _ kk => rs_getf (pc := 69) dX10_apartMean_69 fX10_9 (mo_lt hwo (by decide)) hwo.2.1 rfl kk) ?_
          refine wq (fun _ _ kk => rs_iload_n (pc := 72) dX10_apartMean_72 rfl kk) ?_
          refine wq (fun _ _ kk => rs_aload_n (pc := 73) dX10_apartMean_73 rfl kk) ?_
          refine wq (fun _ _ kk => rs_getf (pc := 74) dX10_apartMean_74 fX10_36 (mo_lt hwo (by decide)) hwo.2.1 rfl kk) ?_
          refine wq (fun _ _ kk => rs_iload_n (pc := 77) dX10_apartMean_77 rfl kk) ?_
          refine wq (fun _ _ kk => rs_lald (pc := 78) dX10_apartMean_78 (mo_lt hwo (by decide)) (mo_getl (d := 2) (k := 7) (kd := 1) (l := 400) rfl (by decide) hwo) (vp_in_nI (n := c) (N := 400) (by omega) (by decide)) kk) ?_
          rw [nI_clamp (show c < 2 ^ 31 by omega), s1]
          refine wq (fun _ _ kk => rs_iload_n (pc := 79) dX10_apartMean_79 rfl kk) ?_
          refine wq (fun _ _ kk => rs_aload_n (pc := 80) dX10_apartMean_80 rfl kk) ?_
          refine wq (fun _ _ kk => rs_getf (pc := 81) dX10_apartMean_81 fX10_36 (mo_lt hwo (by decide)) hwo.2.1 rfl kk) ?_
          refine wq (fun _ _ kk => rs_iload_n (pc := 84) dX10_apartMean_84 rfl kk) ?_
          refine wq (fun _ _ kk => rs_lald (pc := 85) dX10_apartMean_85 (mo_lt hwo (by decide)) (mo_getl (d := 2) (k := 7) (kd := 1) (l := 400) rfl (by decide) hwo) (vp_in_nI (n := d) (N := 400) (by omega) (by decide)) kk) ?_
          rw [nI_clamp (show d < 2 ^ 31 by omega), s2]
          refine wq (fun _ _ kk => rs_callV (as := [_, _, _, _]) (pc := 86) dX10_apartMean_86 mk_X2_lessMean mlX10_86 in_X2_lessMean se_X2_lessMean rfl (mo_lt hcl (by decide)) hcl.2.1 rfl rfl (Nat.le_of_ble_eq_true rfl) (c_X2_lessMean hcl hG.1.sz _ _ _ _) kk) ?_
          rw [lessM_at hG.1 hc hd, k1, k2, dz]
          obtain ⟨rv_89, hc_89, ⟨rfl, ee_97, hta_97⟩, hm_89⟩ := qw_add hwo hta hq3 _
          refine wq (fun _ _ kk => rs_callV (as := [_]) (pc := 89) dX10_apartMean_89 mk_X9_add mlX10_90 in_X9_add se_X9_add rfl hq3 hta rfl rfl (Nat.le_of_ble_eq_true rfl) (hm_89) kk) ?_
          have hwo_97 := wo_keep3 hwo ee_97
          have hcl_97 := cl_keep hcl ee_97.1 (fun j _ _ => ee_97.2.2 j (by omega))
          have hq3_97 : 305 < hc_89.1 := by rw [ee_97.1]; exact hq3
          refine wq (fun _ _ kk => wk_iinc1 (v := nI (c + 1)) (pc := 92) dX10_apartMean_92 (by decide) rfl (nI_1 c) kk) ?_
          refine wq (fun _ _ kk => rs_goto (tgt := 9) (pc := 95) dX10_apartMean_95 rfl kk) ?_
          refine ih (c + 1) _ _ (by omega) (by omega) (E0.trans (fr_ow ee_97)) hcl_97 hwo_97 ?_ hq3_97
          rw [hta_97, lst, if_pos hmt1, List.map_cons]
          obtain ⟨kk1, kk2⟩ := ks_b (Ls := Ls) (x := x) hok hG hia hib hsl c (by omega)
          exact congrArg ty_cell (tyl_cons (M := 880000000) (by decide) (by decide) (by omega) kk1 ⟨db1, db2⟩)
set_option maxRecDepth 100000 in
set_option maxHeartbeats 4000000 in
theorem c_X10_apartMean {h : ai_H} {B : Bk} {ln ia ib z sl : Nat} {x : Int} {Ls : Nat → List Cl} {wk : Int32} {Sc : Md} (hok : bk_ok B ln) (hG : GI B wk Sc (nR B) z) (hia : ia < 16) (hib : ib < 16) (hij : ia ≠ ib) (hsl : sl ≤ 99) (hx0 : 0 ≤ x ∧ x < 2147483648) {S1 : Md} (hne : (lst (mt_p Sc z (ia * 16 + ib)) (kC Sc) z) ≠ []) (hW : WT B Ls wk (nI ia) (nI ib) Sc z (nR B) S1) (hS : WSm B Ls wk (nI ia) (nI ib) sl x Sc z (nR B) S1) {t : Ty} (hcl : cl_at h Sc) (hwo : wq_at h S1) (hta : h.2.2 305 = ty_cell t) (hq3 : 305 < h.1) : ai_QM MX10_apartMean [.ref 301] h (fun rr g => ow h g ∧ cl_at g Sc ∧ wq_at g S1 ∧ (∃ t, g.2.2 305 = ty_cell t) ∧ 305 < g.1 ∧ rr = some (.long (aL (zsum ((lst (mt_p Sc z (ia * 16 + ib)) (kC Sc) z).map (fKo B Ls wk (nI ia) (nI ib) sl x)) / ((lst (mt_p Sc z (ia * 16 + ib)) (kC Sc) z).length : Int))))) := by
  refine qm_of (ls := [.ref 301, .float 0, .float 0]) (by decide) (by simp [ai_en, Value.category]) (by rfl) ?_
  refine wq (fun _ _ kk => rs_aload_n (pc := 0) dX10_apartMean_0 rfl kk) ?_
  refine wq (fun _ _ kk => rs_getf (pc := 1) dX10_apartMean_1 fX10_43 (mo_lt hwo (by decide)) hwo.2.1 rfl kk) ?_
  obtain ⟨rv_4, hc_4, ⟨rfl, ee_4, hta_4⟩, hm_4⟩ := qw_clear hta hq3
  refine wq (fun _ _ kk => rs_callV (as := []) (pc := 4) dX10_apartMean_4 mk_X9_clear mlX10_80 in_X9_clear se_X9_clear rfl hq3 hta rfl rfl (Nat.le_of_ble_eq_true rfl) (hm_4) kk) ?_
  replace hwo := wo_keep3 hwo ee_4
  replace hcl := cl_keep hcl ee_4.1 (fun j _ _ => ee_4.2.2 j (by omega))
  replace hq3 : 305 < hc_4.1 := by rw [ee_4.1]; exact hq3
  refine wq (fun _ _ kk => rs_iconst (v := 0) (pc := 7) dX10_apartMean_7 rfl kk) ?_
  refine wq (fun _ _ kk => wk_istn1 (pc := 8) dX10_apartMean_8 (by decide) rfl kk) ?_
  exact l_X10_apartMean hok hG hia hib hij hsl hx0 hne hW hS (z + 1) 0 _ _ (by omega) (by omega) (fr_ow ee_4) hcl hwo hta_4 hq3
theorem mean_b {s M : Int} {n : Nat} (hn : 1 ≤ n) (h1 : -M ≤ s) (h2 : s ≤ M) : -M ≤ s / (n : Int) ∧ s / (n : Int) ≤ M := by
  have hM : 0 ≤ M := by omega
  have e : M * 1 ≤ M * (n : Int) := Int.mul_le_mul_of_nonneg_left (by omega) hM
  refine ⟨?_, ?_⟩
  · apply Int.le_ediv_of_mul_le (by omega)
    rw [Int.neg_mul]
    omega
  · apply Int.le_of_lt_add_one
    apply Int.ediv_lt_of_lt_mul (by omega)
    rw [Int.add_mul]
    omega
theorem dX10_draw_0 : decode cX10_draw 0 = .ok (.aload_n 0, 1) := by decide +kernel
theorem dX10_draw_1 : decode cX10_draw 1 = .ok (.iload_n 1, 1) := by decide +kernel
theorem dX10_draw_2 : decode cX10_draw 2 = .ok (.i2l, 1) := by decide +kernel
theorem dX10_draw_3 : decode cX10_draw 3 = .ok (.putfield 25, 3) := by decide +kernel
theorem dX10_draw_6 : decode cX10_draw 6 = .ok (.iconst 0, 1) := by decide +kernel
theorem dX10_draw_7 : decode cX10_draw 7 = .ok (.istore 4, 2) := by decide +kernel
theorem dX10_draw_9 : decode cX10_draw 9 = .ok (.iconst 0, 1) := by decide +kernel
theorem dX10_draw_10 : decode cX10_draw 10 = .ok (.istore 5, 2) := by decide +kernel
theorem dX10_draw_12 : decode cX10_draw 12 = .ok (.iload 5, 2) := by decide +kernel
theorem dX10_draw_14 : decode cX10_draw 14 = .ok (.iload_n 3, 1) := by decide +kernel
theorem dX10_draw_15 : decode cX10_draw 15 = .ok (.if_icmp .ge 33, 3) := by decide +kernel
theorem dX10_draw_18 : decode cX10_draw 18 = .ok (.aload_n 0, 1) := by decide +kernel
theorem dX10_draw_19 : decode cX10_draw 19 = .ok (.iload_n 2, 1) := by decide +kernel
theorem dX10_draw_20 : decode cX10_draw 20 = .ok (.invokevirtual 64, 3) := by decide +kernel
theorem dX10_draw_23 : decode cX10_draw 23 = .ok (.iload 4, 2) := by decide +kernel
theorem dX10_draw_25 : decode cX10_draw 25 = .ok (.aload_n 0, 1) := by decide +kernel
theorem dX10_draw_26 : decode cX10_draw 26 = .ok (.invokevirtual 68, 3) := by decide +kernel
theorem dX10_draw_29 : decode cX10_draw 29 = .ok (.lconst 0, 1) := by decide +kernel
theorem dX10_draw_30 : decode cX10_draw 30 = .ok (.lcmp, 1) := by decide +kernel
theorem dX10_draw_31 : decode cX10_draw 31 = .ok (.ifCond .le 7, 3) := by decide +kernel
theorem dX10_draw_34 : decode cX10_draw 34 = .ok (.iconst 1, 1) := by decide +kernel
theorem dX10_draw_35 : decode cX10_draw 35 = .ok (.goto 4, 3) := by decide +kernel
theorem dX10_draw_38 : decode cX10_draw 38 = .ok (.iconst 0, 1) := by decide +kernel
theorem dX10_draw_39 : decode cX10_draw 39 = .ok (.iadd, 1) := by decide +kernel
theorem dX10_draw_40 : decode cX10_draw 40 = .ok (.istore 4, 2) := by decide +kernel
theorem dX10_draw_42 : decode cX10_draw 42 = .ok (.iinc 5 1, 3) := by decide +kernel
theorem dX10_draw_45 : decode cX10_draw 45 = .ok (.goto (-33), 3) := by decide +kernel
theorem dX10_draw_48 : decode cX10_draw 48 = .ok (.iload 4, 2) := by decide +kernel
theorem dX10_draw_50 : decode cX10_draw 50 = .ok (.ireturn, 1) := by decide +kernel
set_option maxRecDepth 100000 in
set_option maxHeartbeats 4000000 in
theorem l_X10_draw {h : ai_H} {B : Bk} {ln ia ib z sl : Nat} {x : Int} {Ls : Nat → List Cl} {wk : Int32} {Sc : Md} (hok : bk_ok B ln) (hG : GI B wk Sc (nR B) z) (hia : ia < 16) (hib : ib < 16) (hij : ia ≠ ib) (hsl : sl ≤ 99) (hx0 : 0 ≤ x ∧ x < 2147483648) {n : Nat} (hn : n ≤ 50) (hne : (lst (mt_p Sc z (ia * 16 + ib)) (kC Sc) z) ≠ []) {seed : Int32} : ∀ (k w : Nat) (S1 : Md) (t : Ty) (g : ai_H), w ≤ n → n + 1 ≤ w + k → ow h g → cl_at g Sc → wq_at g S1 → WT B Ls wk (nI ia) (nI ib) Sc z (nR B) S1 → S1.2.1 = aL (drZ B Ls wk (nI ia) (nI ib) sl x (lst (mt_p Sc z (ia * 16 + ib)) (kC Sc) z) w).2 → g.2.2 305 = ty_cell t → 305 < g.1 → ai_W MX10_draw 12 [.ref 301, .int seed, .int (nI sl), .int (nI n), .int (nI (drZ B Ls wk (nI ia) (nI ib) sl x (lst (mt_p Sc z (ia * 16 + ib)) (kC Sc) z) w).1), .int (nI w)] [] g (fun rr g => ow h g ∧ cl_at g Sc ∧ (∃ S, wq_at g S) ∧ (∃ t, g.2.2 305 = ty_cell t) ∧ 305 < g.1 ∧ rr = some (.int (nI (drZ B Ls wk (nI ia) (nI ib) sl x (lst (mt_p Sc z (ia * 16 + ib)) (kC Sc) z) n).1))) := by
  intro k
  induction k with
  | zero => intro w S1 t g h1 h2; exact absurd h2 (by omega)
  | succ k ih =>
    intro w S1 t g hw0 him E0 hcl hwo hW ex hta hq3
    refine wq (fun _ _ kk => rs_iload (pc := 12) dX10_draw_12 rfl kk) ?_
    refine wq (fun _ _ kk => rs_iload_n (pc := 14) dX10_draw_14 rfl kk) ?_
    refine wq_br (fun _ _ kt kf => rs_icmp_ge (tgt := 48) (pc := 15) dX10_draw_15 rfl kt kf) (fun c_15 => ?_) (fun c_15 => ?_)
    · have hwe : n = w := (lp_exit rfl (by omega) hw0 c_15).symm
      subst hwe
      refine wq (fun _ _ kk => rs_iload (pc := 48) dX10_draw_48 rfl kk) ?_
      refine wq_ret ?_ (rs_iret (pc := 50) dX10_draw_50 rfl)
      exact ⟨E0, hcl, ⟨S1, hwo⟩, ⟨t, hta⟩, hq3, rfl⟩
    · have hw : w < n := lp_go rfl (by omega) c_15
      have hdb := drZ_b (B := B) (Ls := Ls) (wk := wk) (a := nI ia) (b := nI ib) (sl := sl) (L := (lst (mt_p Sc z (ia * 16 + ib)) (kC Sc) z)) hx0 w
      refine wq (fun _ _ kk => rs_aload_n (pc := 18) dX10_draw_18 rfl kk) ?_
      refine wq (fun _ _ kk => rs_iload_n (pc := 19) dX10_draw_19 rfl kk) ?_
      obtain ⟨rv_20, hc_20, ⟨rfl, ee_20, S2, hwo_20, hW_20, hS_20⟩, hm_20⟩ := c_X10_drawWorld (x := (drZ B Ls wk (nI ia) (nI ib) sl x (lst (mt_p Sc z (ia * 16 + ib)) (kC Sc) z) w).2) hok hG hia hib hij hsl hdb.2 hwo hW ex
      refine wq (fun _ _ kk => rs_callV (as := [_]) (pc := 20) dX10_draw_20 mk_X10_drawWorld mlX10_64 in_X10_drawWorld se_X10_drawWorld rfl (mo_lt hwo (by decide)) hwo.2.1 rfl rfl (Nat.le_of_ble_eq_true rfl) (hm_20) kk) ?_
      replace hwo := hwo_20
      replace hcl := cl_keep hcl ee_20.1 (fun j _ _ => ee_20.2.2 j (by omega))
      replace hta := (ee_20.2.2 305 (by decide)).trans hta
      replace hq3 : 305 < hc_20.1 := by rw [ee_20.1]; exact hq3
      refine wq (fun _ _ kk => rs_iload (pc := 23) dX10_draw_23 rfl kk) ?_
      refine wq (fun _ _ kk => rs_aload_n (pc := 25) dX10_draw_25 rfl kk) ?_
      obtain ⟨rv_26, hc_26, ⟨ee_26, hcl_26, hwo_26, ⟨t3, hta_26⟩, hq3_26, rfl⟩, hm_26⟩ := c_X10_apartMean (x := (drZ B Ls wk (nI ia) (nI ib) sl x (lst (mt_p Sc z (ia * 16 + ib)) (kC Sc) z) w).2) hok hG hia hib hij hsl hdb.2 hne hW_20 hS_20 hcl hwo hta hq3
      refine wq (fun _ _ kk => rs_callV (as := []) (pc := 26) dX10_draw_26 mk_X10_apartMean mlX10_68 in_X10_apartMean se_X10_apartMean rfl (mo_lt hwo (by decide)) hwo.2.1 rfl rfl (Nat.le_of_ble_eq_true rfl) (hm_26) kk) ?_
      refine wq (fun _ _ kk => rs_lconst (v := 0) (pc := 29) dX10_draw_29 rfl kk) ?_
      obtain ⟨zk1, zk2⟩ := ks_b (Ls := Ls) (x := (drZ B Ls wk (nI ia) (nI ib) sl x (lst (mt_p Sc z (ia * 16 + ib)) (kC Sc) z) w).2) hok hG hia hib hsl z (Nat.le_refl z)
      have zk3 := zsum_b zk1
      rw [List.length_map] at zk2 zk3
      have hlp : 1 ≤ (lst (mt_p Sc z (ia * 16 + ib)) (kC Sc) z).length := by
        cases e : (lst (mt_p Sc z (ia * 16 + ib)) (kC Sc) z) with
        | nil => exact absurd e hne
        | cons y l => rw [List.length_cons]; omega
      have zq := mean_b (s := zsum ((lst (mt_p Sc z (ia * 16 + ib)) (kC Sc) z).map (fKo B Ls wk (nI ia) (nI ib) sl (drZ B Ls wk (nI ia) (nI ib) sl x (lst (mt_p Sc z (ia * 16 + ib)) (kC Sc) z) w).2))) (n := (lst (mt_p Sc z (ia * 16 + ib)) (kC Sc) z).length) (M := 352000000000) hlp (by omega) (by omega)
      refine wq_br (fun _ _ kt kf => wk_lcmp_le (tgt := 38) (pc := 30) dX10_draw_30 dX10_draw_31 rfl kt kf) (fun c_30 => ?_) (fun c_30 => ?_)
      · rw [show (0 : Int64) = aL 0 from rfl, aL_le (by omega) (by omega) (by omega) (by omega)] at c_30
        refine wq (fun _ _ kk => rs_iconst (v := 0) (pc := 38) dX10_draw_38 rfl kk) ?_
        refine wq (fun _ _ kk => rs_iadd (pc := 39) dX10_draw_39 kk) ?_
        refine wq (fun _ _ kk => wk_ist4 (pc := 40) dX10_draw_40 (by decide) rfl kk) ?_
        refine wq (fun _ _ kk => wk_iinc5 (v := nI (w + 1)) (pc := 42) dX10_draw_42 (by decide) rfl (nI_1 w) kk) ?_
        refine wq (fun _ _ kk => rs_goto (tgt := 12) (pc := 45) dX10_draw_45 rfl kk) ?_
        have e := fun t => ih (w + 1) S2 t _ (by omega) (by omega) ((E0.trans ee_20.w).trans ee_26) hcl_26 hwo_26 hW_20
        have ez : (drZ B Ls wk (nI ia) (nI ib) sl x (lst (mt_p Sc z (ia * 16 + ib)) (kC Sc) z) (w + 1)).2 = xsZ (tkn B wk (nI ia) (nI ib)) (drZ B Ls wk (nI ia) (nI ib) sl x (lst (mt_p Sc z (ia * 16 + ib)) (kC Sc) z) w).2 (nR B) := rfl
        have e := e t3 (by rw [ez]; exact hS_20.1) hta_26 hq3_26
        first
        | (rw [show (drZ B Ls wk (nI ia) (nI ib) sl x (lst (mt_p Sc z (ia * 16 + ib)) (kC Sc) z) (w + 1)).1 = (drZ B Ls wk (nI ia) (nI ib) sl x (lst (mt_p Sc z (ia * 16 + ib)) (kC Sc) z) w).1 from by rw [drZ]; show _ + (if 0 < zsum ((lst (mt_p Sc z (ia * 16 + ib)) (kC Sc) z).map (fKo B Ls wk (nI ia) (nI ib) sl (drZ B Ls wk (nI ia) (nI ib) sl x (lst (mt_p Sc z (ia * 16 + ib)) (kC Sc) z) w).2)) / ((lst (mt_p Sc z (ia * 16 + ib)) (kC Sc) z).length : Int) then 1 else 0) = _; rw [if_neg (by omega), Nat.add_zero]] at e
           rw [Int32.add_zero]; exact e)
        | (rw [show (drZ B Ls wk (nI ia) (nI ib) sl x (lst (mt_p Sc z (ia * 16 + ib)) (kC Sc) z) (w + 1)).1 = (drZ B Ls wk (nI ia) (nI ib) sl x (lst (mt_p Sc z (ia * 16 + ib)) (kC Sc) z) w).1 + 1 from by rw [drZ]; show _ + (if 0 < zsum ((lst (mt_p Sc z (ia * 16 + ib)) (kC Sc) z).map (fKo B Ls wk (nI ia) (nI ib) sl (drZ B Ls wk (nI ia) (nI ib) sl x (lst (mt_p Sc z (ia * 16 + ib)) (kC Sc) z) w).2)) / ((lst (mt_p Sc z (ia * 16 + ib)) (kC Sc) z).length : Int) then 1 else 0) = _; rw [if_pos (by omega)]] at e
           rw [nI_1]; exact e)
      · rw [show (0 : Int64) = aL 0 from rfl, aL_le (by omega) (by omega) (by omega) (by omega)] at c_30
        refine wq (fun _ _ kk => rs_iconst (v := 1) (pc := 34) dX10_draw_34 rfl kk) ?_
        refine wq (fun _ _ kk => rs_goto (tgt := 39) (pc := 35) dX10_draw_35 rfl kk) ?_
        refine wq (fun _ _ kk => rs_iadd (pc := 39) dX10_draw_39 kk) ?_
        refine wq (fun _ _ kk => wk_ist4 (pc := 40) dX10_draw_40 (by decide) rfl kk) ?_
        refine wq (fun _ _ kk => wk_iinc5 (v := nI (w + 1)) (pc := 42) dX10_draw_42 (by decide) rfl (nI_1 w) kk) ?_
        refine wq (fun _ _ kk => rs_goto (tgt := 12) (pc := 45) dX10_draw_45 rfl kk) ?_
        have e := fun t => ih (w + 1) S2 t _ (by omega) (by omega) ((E0.trans ee_20.w).trans ee_26) hcl_26 hwo_26 hW_20
        have ez : (drZ B Ls wk (nI ia) (nI ib) sl x (lst (mt_p Sc z (ia * 16 + ib)) (kC Sc) z) (w + 1)).2 = xsZ (tkn B wk (nI ia) (nI ib)) (drZ B Ls wk (nI ia) (nI ib) sl x (lst (mt_p Sc z (ia * 16 + ib)) (kC Sc) z) w).2 (nR B) := rfl
        have e := e t3 (by rw [ez]; exact hS_20.1) hta_26 hq3_26
        first
        | (rw [show (drZ B Ls wk (nI ia) (nI ib) sl x (lst (mt_p Sc z (ia * 16 + ib)) (kC Sc) z) (w + 1)).1 = (drZ B Ls wk (nI ia) (nI ib) sl x (lst (mt_p Sc z (ia * 16 + ib)) (kC Sc) z) w).1 from by rw [drZ]; show _ + (if 0 < zsum ((lst (mt_p Sc z (ia * 16 + ib)) (kC Sc) z).map (fKo B Ls wk (nI ia) (nI ib) sl (drZ B Ls wk (nI ia) (nI ib) sl x (lst (mt_p Sc z (ia * 16 + ib)) (kC Sc) z) w).2)) / ((lst (mt_p Sc z (ia * 16 + ib)) (kC Sc) z).length : Int) then 1 else 0) = _; rw [if_neg (by omega), Nat.add_zero]] at e
           rw [Int32.add_zero]; exact e)
        | (rw [show (drZ B Ls wk (nI ia) (nI ib) sl x (lst (mt_p Sc z (ia * 16 + ib)) (kC Sc) z) (w + 1)).1 = (drZ B Ls wk (nI ia) (nI ib) sl x (lst (mt_p Sc z (ia * 16 + ib)) (kC Sc) z) w).1 + 1 from by rw [drZ]; show _ + (if 0 < zsum ((lst (mt_p Sc z (ia * 16 + ib)) (kC Sc) z).map (fKo B Ls wk (nI ia) (nI ib) sl (drZ B Ls wk (nI ia) (nI ib) sl x (lst (mt_p Sc z (ia * 16 + ib)) (kC Sc) z) w).2)) / ((lst (mt_p Sc z (ia * 16 + ib)) (kC Sc) z).length : Int) then 1 else 0) = _; rw [if_pos (by omega)]] at e
           rw [nI_1]; exact e)
set_option maxRecDepth 100000 in
set_option maxHeartbeats 4000000 in
theorem c_X10_draw {h : ai_H} {B : Bk} {ln ia ib z sl : Nat} {x : Int} {Ls : Nat → List Cl} {wk : Int32} {Sc : Md} (hok : bk_ok B ln) (hG : GI B wk Sc (nR B) z) (hia : ia < 16) (hib : ib < 16) (hij : ia ≠ ib) (hsl : sl ≤ 99) (hx0 : 0 ≤ x ∧ x < 2147483648) {n : Nat} (hn : n ≤ 50) (hne : (lst (mt_p Sc z (ia * 16 + ib)) (kC Sc) z) ≠ []) {seed : Int32} {S1 : Md} {t : Ty} (es : seed.toInt64 = aL x) (hcl : cl_at h Sc) (hwo : wq_at h S1) (hW : WT B Ls wk (nI ia) (nI ib) Sc z (nR B) S1) (hta : h.2.2 305 = ty_cell t) (hq3 : 305 < h.1) : ai_QM MX10_draw [.ref 301, .int seed, .int (nI sl), .int (nI n)] h (fun rr g => ow h g ∧ cl_at g Sc ∧ (∃ S, wq_at g S) ∧ (∃ t, g.2.2 305 = ty_cell t) ∧ 305 < g.1 ∧ rr = some (.int (nI (drZ B Ls wk (nI ia) (nI ib) sl x (lst (mt_p Sc z (ia * 16 + ib)) (kC Sc) z) n).1))) := by
  refine qm_of (ls := [.ref 301, .int seed, .int (nI sl), .int (nI n), .float 0, .float 0]) (by decide) (by simp [ai_en, Value.category]) (by rfl) ?_
  refine wq (fun _ _ kk => rs_aload_n (pc := 0) dX10_draw_0 rfl kk) ?_
  refine wq (fun _ _ kk => rs_iload_n (pc := 1) dX10_draw_1 rfl kk) ?_
  refine wq (fun _ _ kk => rs_i2l (pc := 2) dX10_draw_2 kk) ?_
  rw [es]
  refine wq (fun _ _ kk => rs_putf (pc := 3) dX10_draw_3 fX10_25 (mo_lt hwo (by decide)) hwo.2.1 rfl (Nat.le_of_ble_eq_true rfl) kk) ?_
  refine wq_gen (fun h_1 e_1 => ?_)
  obtain ⟨m_1, s_1, g_1, o_1⟩ := ai_e1 e_1
  replace g_1 : h_1.2.2 301 = .inr (10, [_, _, _, _, _, _, _, _, _]) := g_1
  replace hcl := cl_keep hcl m_1 (fun j _ _ => o_1 j (by omega))
  replace hwo := mo_dl (k := 4) hwo m_1 g_1 o_1 rfl
  replace hta := (o_1 _ (by decide)).trans hta; replace hq3 := Nat.lt_of_lt_of_eq hq3 m_1.symm
  have E_1 := (ow.rf).trans (ow_of m_1 s_1 o_1 (by decide))
  refine wq (fun _ _ kk => rs_iconst (v := 0) (pc := 6) dX10_draw_6 rfl kk) ?_
  refine wq (fun _ _ kk => wk_ist4 (pc := 7) dX10_draw_7 (by decide) rfl kk) ?_
  refine wq (fun _ _ kk => rs_iconst (v := 0) (pc := 9) dX10_draw_9 rfl kk) ?_
  refine wq (fun _ _ kk => wk_ist5 (pc := 10) dX10_draw_10 (by decide) rfl kk) ?_
  exact l_X10_draw hok hG hia hib hij hsl hx0 hn hne (n + 1) 0 _ t _ (by omega) (by omega) E_1 hcl hwo ⟨hW.1, hW.2.1, hW.2.2.1, hW.2.2.2⟩ rfl hta hq3
