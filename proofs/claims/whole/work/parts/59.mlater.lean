/-! 59: later of the model (walks laid by wip/whole/p59.py) -/
/-- row 66 (meeting) and rows of longs have changed -/
def lq (T W : Md) : Prop := W.1 = T.1 ∧ ∀ k, k ≠ 66 → W.2.2.1 k = T.2.2.1 k
theorem lq.rf {T : Md} : lq T T := ⟨rfl, fun _ _ => rfl⟩
theorem lq.trans {T V W : Md} (a : lq T V) (b : lq V W) : lq T W := ⟨b.1.trans a.1, fun k hk => (b.2 k hk).trans (a.2 k hk)⟩
theorem lq.mq {T W : Md} (a : lq T W) : mq T W := ⟨fun k _ => by rw [a.1], fun k hk => a.2 k (by omega)⟩
theorem lq.ai {T W : Md} {f : Nat → Int32} (a : lq T W) : lq T (md_ai W 66 f) := ⟨a.1, fun k hk => by
  show va_up W.2.2.1 66 f k = _
  rw [show va_up W.2.2.1 66 f k = W.2.2.1 k from if_neg hk]
  exact a.2 k hk⟩
theorem gvq.lq {V W : Md} (a : gvq V W) : lq V W := ⟨a.1, fun k _ => by rw [a.2.2.1]⟩
/-- the SIGHTS that are drawn anew, when the pairs below n are told -/
def mtg (T : Md) (q k n c : Nat) : Bool := decide (0 < cN (fun t => mp T q k t && (decide (t / q = c) || decide (t % q = c))) n)
theorem mtg_iff {T : Md} {q k n c : Nat} : mtg T q k n c = true ↔ ∃ t, t < n ∧ mp T q k t = true ∧ (t / q = c ∨ t % q = c) := by
  unfold mtg
  rw [decide_eq_true_eq]
  constructor
  · intro h
    obtain ⟨t, t1, t2⟩ := cN_ex _ h
    rw [Bool.and_eq_true, Bool.or_eq_true, decide_eq_true_eq, decide_eq_true_eq] at t2
    exact ⟨t, t1, t2⟩
  · rintro ⟨t, t1, t2, t3⟩
    exact cN_pos (k := t) (by rw [Bool.and_eq_true, Bool.or_eq_true, decide_eq_true_eq, decide_eq_true_eq]; exact ⟨t2, t3⟩) n t1
def mrk (T : Md) (q k n : Nat) (f : Nat → Int32) : Prop := ∀ c, c < q → f c = if mtg T q k n c = true then 1 else 0
theorem mrk_0 {T : Md} {q k : Nat} {f : Nat → Int32} (h : ∀ c, c < q → f c = 0) : mrk T q k 0 f := fun c hc => by rw [h c hc, if_neg (fun z => by obtain ⟨t, t1, -⟩ := mtg_iff.1 z; omega)]
theorem mrk_n {T : Md} {q k n : Nat} {f : Nat → Int32} (h : mrk T q k n f) (hn : ¬ mp T q k n = true) : mrk T q k (n + 1) f := fun c hc => by
  rw [h c hc]
  have e : mtg T q k (n + 1) c = true ↔ mtg T q k n c = true := by
    rw [mtg_iff, mtg_iff]
    constructor
    · rintro ⟨t, t1, t2, t3⟩
      by_cases z : t = n
      · subst z; exact absurd t2 hn
      · exact ⟨t, by omega, t2, t3⟩
    · rintro ⟨t, t1, t2⟩; exact ⟨t, by omega, t2⟩
  by_cases z : mtg T q k n c = true
  · rw [if_pos z, if_pos (e.2 z)]
  · rw [if_neg z, if_neg (fun y => z (e.1 y))]
theorem mrk_y {T : Md} {q k i j : Nat} {f g : Nat → Int32} (h : mrk T q k (i * q + j) f) (hj : j < q) (hn : mp T q k (i * q + j) = true) (hg : ∀ c, g c = if c = j then 1 else if c = i then 1 else f c) : mrk T q k (i * q + j + 1) g := fun c hc => by
  obtain ⟨p1, p2⟩ := pair_mk (i := i) hj
  have e : mtg T q k (i * q + j + 1) c = true ↔ mtg T q k (i * q + j) c = true ∨ c = i ∨ c = j := by
    rw [mtg_iff, mtg_iff]
    constructor
    · rintro ⟨t, t1, t2, t3⟩
      by_cases z : t = i * q + j
      · subst z; rw [p1, p2] at t3; exact Or.inr (by omega)
      · exact Or.inl ⟨t, by omega, t2, t3⟩
    · rintro (⟨t, t1, t2⟩ | z)
      · exact ⟨t, by omega, t2⟩
      · exact ⟨i * q + j, by omega, hn, by rw [p1, p2]; omega⟩
  rw [hg c]
  by_cases z : mtg T q k (i * q + j + 1) c = true
  · rw [if_pos z]
    by_cases cj : c = j
    · rw [if_pos cj]
    · rw [if_neg cj]
      by_cases ci : c = i
      · rw [if_pos ci]
      · rw [if_neg ci, h c hc, if_pos ((e.1 z).resolve_right (by omega))]
  · rw [if_neg z, if_neg (fun y => z (e.2 (Or.inr (Or.inr y)))), if_neg (fun y => z (e.2 (Or.inr (Or.inl y)))), h c hc, if_neg (fun y => z (e.2 (Or.inl y)))]
theorem mtg_all {B : Bk} {wk : Int32} {T : Md} {q ia ib c : Nat} (hS : SI B wk T (nR B) (nR B) q) (hia : ia < 16) (hib : ib < 16) (hc : c < q) : mtg T q (ia * 16 + ib) (q * q) c = true ↔ (T.2.2.1 41 c = nI ia ∨ T.2.2.1 41 c = nI ib) ∧ mK B wk (nI ia) (nI ib) (kM T c) := by
  have e1 : (ia * 16 + ib) / 16 = ia := by omega
  have e2 : (ia * 16 + ib) % 16 = ib := by omega
  rw [mtg_iff]
  constructor
  · rintro ⟨t, t1, t2, t3⟩
    obtain ⟨m1, m2, m3, m4⟩ := mp_is hS t1 t2
    rw [e1] at m1 m3
    rw [e2] at m1 m4
    rcases t3 with t3 | t3
    · subst t3; exact ⟨Or.inl m3, m1⟩
    · subst t3; exact ⟨Or.inr m4, by rw [m2]; exact m1⟩
  · rintro ⟨h1, h2, h3, h4, h5⟩
    have key : ∀ i j, i < q → j < q → T.2.2.1 41 i = nI ia → T.2.2.1 41 j = nI ib → kM T i = kM T c → kM T j = kM T c → mp T q (ia * 16 + ib) (i * q + j) = true := by
      intro i j hi hj ei ej ki kj
      obtain ⟨p1, p2⟩ := pair_mk (i := i) hj
      unfold mp ms_meet
      rw [p1, p2, e1, e2]
      simp only [decide_eq_true_eq]
      have e5 := ki.trans kj.symm
      unfold kM at e5 ki
      simp only [Prod.mk.injEq] at e5 ki
      exact ⟨⟨by rw [ei, ej]; exact h2, e5.1, e5.2.1, e5.2.2, fun z => h3 (ki.2.2.symm.trans z)⟩, ei, ej⟩
    rcases h1 with h1 | h1
    · obtain ⟨j, j1, j2, j3⟩ := sight_of hS h5
      exact ⟨c * q + j, pair_bd hc j1, key c j hc j1 h1 j2 rfl j3, Or.inl (pair_mk (i := c) j1).1⟩
    · obtain ⟨i, i1, i2, i3⟩ := sight_of hS h4
      exact ⟨i * q + c, pair_bd i1 hc, key i c i1 hc i2 h1 i3 rfl, Or.inr (pair_mk (i := i) hc).2⟩
theorem tkn_sight {B : Bk} {wk : Int32} {T : Md} {q ia ib k c : Nat} (hS : SI B wk T (nR B) (nR B) q) (hia : ia < 16) (hib : ib < 16) (hk : k < nR B) (hn : ¬ bk_known B (nI k) wk = 0) (hc : c < q) (hs : sk B k (T.2.2.1 41 c) (T.2.2.1 42 c) (T.2.2.1 43 c) (T.2.2.1 44 c)) : mtg T q (ia * 16 + ib) (q * q) c = true ↔ tkn B wk (nI ia) (nI ib) k = true := by
  rw [mtg_all hS hia hib hc, tkn_iff]
  have e : rK B k = kM T c := Prod.ext hs.2.1 (Prod.ext hs.2.2.1 hs.2.2.2)
  rw [e, hs.1]
  exact ⟨fun z => ⟨hn, z⟩, fun z => z.2⟩
/-- the sums of a world, as the model keeps them -/
def MSm (B : Bk) (Ls : Nat → List Cl) (wk a b : Int32) (sl : Nat) (x : Int) (T : Md) (q n : Nat) (W : Md) : Prop := W.2.1 = aL (xsZ (tkn B wk a b) x n) ∧ ∀ c, c < q → W.2.2.2 48 c = aL (wKo B Ls wk a b sl x n (kM T c) (T.2.2.1 41 c))
theorem MSm_n {B : Bk} {Ls : Nat → List Cl} {wk a b : Int32} {sl : Nat} {x : Int} {T : Md} {q n : Nat} {W : Md} (h : MSm B Ls wk a b sl x T q n W) (hn : ¬ tkn B wk a b n = true) : MSm B Ls wk a b sl x T q (n + 1) W := by
  refine ⟨by rw [xsZ, if_neg hn]; exact h.1, fun c hc => ?_⟩
  unfold wKo
  rw [wsZ, if_neg (fun z => hn z.1)]
  exact h.2 c hc
theorem MSm_y {B : Bk} {Ls : Nat → List Cl} {wk a b : Int32} {sl : Nat} {x : Int} {T : Md} {q n c : Nat} {S W : Md} (h : MSm B Ls wk a b sl x T q n S) (hS : SI B wk T (nR B) (nR B) q) (hn : tkn B wk a b n = true) (hc : c < q) (hs : sk B n (T.2.2.1 41 c) (T.2.2.1 42 c) (T.2.2.1 43 c) (T.2.2.1 44 c)) (t1 : W.2.1 = aL (lcZ (xsZ (tkn B wk a b) x n))) (t2 : ∀ d, W.2.2.2 48 d = if d = c then S.2.2.2 48 c + aL (vaZ (leZ B Ls) (tkn B wk a b) sl x n) else S.2.2.2 48 d) : MSm B Ls wk a b sl x T q (n + 1) W := by
  have hk : rK B n = kM T c := Prod.ext hs.2.1 (Prod.ext hs.2.2.1 hs.2.2.2)
  refine ⟨by rw [xsZ, if_pos hn]; exact t1, fun d hd => ?_⟩
  rw [t2 d]
  unfold wKo
  rw [wsZ]
  by_cases e : d = c
  · subst e
    rw [if_pos rfl, if_pos ⟨hn, decide_eq_true ⟨hk, hs.1⟩⟩, h.2 d hd, aL_add]
    rfl
  · rw [if_neg e, if_neg (fun y => e ?_)]
    · exact h.2 d hd
    · have y2 := of_decide_eq_true y.2
      exact sight_inj hS hd hc (y2.2.symm.trans hs.1) (y2.1.symm.trans hk)
theorem dX12_draws_0 : decode cX12_draws 0 = .ok (.iconst 0, 1) := by decide +kernel
theorem dX12_draws_1 : decode cX12_draws 1 = .ok (.istore_n 2, 1) := by decide +kernel
theorem dX12_draws_2 : decode cX12_draws 2 = .ok (.iload_n 2, 1) := by decide +kernel
theorem dX12_draws_3 : decode cX12_draws 3 = .ok (.aload_n 0, 1) := by decide +kernel
theorem dX12_draws_4 : decode cX12_draws 4 = .ok (.getfield 398, 3) := by decide +kernel
theorem dX12_draws_7 : decode cX12_draws 7 = .ok (.if_icmp .ge 16, 3) := by decide +kernel
theorem dX12_draws_10 : decode cX12_draws 10 = .ok (.aload_n 0, 1) := by decide +kernel
theorem dX12_draws_11 : decode cX12_draws 11 = .ok (.getfield 111, 3) := by decide +kernel
theorem dX12_draws_14 : decode cX12_draws 14 = .ok (.iload_n 2, 1) := by decide +kernel
theorem dX12_draws_15 : decode cX12_draws 15 = .ok (.lconst 0, 1) := by decide +kernel
theorem dX12_draws_16 : decode cX12_draws 16 = .ok (.lastore, 1) := by decide +kernel
theorem dX12_draws_17 : decode cX12_draws 17 = .ok (.iinc 2 1, 3) := by decide +kernel
theorem dX12_draws_20 : decode cX12_draws 20 = .ok (.goto (-18), 3) := by decide +kernel
theorem dX12_draws_23 : decode cX12_draws 23 = .ok (.iconst 0, 1) := by decide +kernel
theorem dX12_draws_24 : decode cX12_draws 24 = .ok (.istore_n 2, 1) := by decide +kernel
theorem dX12_draws_25 : decode cX12_draws 25 = .ok (.iload_n 2, 1) := by decide +kernel
theorem dX12_draws_26 : decode cX12_draws 26 = .ok (.aload_n 0, 1) := by decide +kernel
theorem dX12_draws_27 : decode cX12_draws 27 = .ok (.getfield 197, 3) := by decide +kernel
theorem dX12_draws_30 : decode cX12_draws 30 = .ok (.if_icmp .ge 114, 3) := by decide +kernel
theorem dX12_draws_33 : decode cX12_draws 33 = .ok (.aload_n 0, 1) := by decide +kernel
theorem dX12_draws_34 : decode cX12_draws 34 = .ok (.getfield 108, 3) := by decide +kernel
theorem dX12_draws_37 : decode cX12_draws 37 = .ok (.iload_n 2, 1) := by decide +kernel
theorem dX12_draws_38 : decode cX12_draws 38 = .ok (.iaload, 1) := by decide +kernel
theorem dX12_draws_39 : decode cX12_draws 39 = .ok (.istore_n 3, 1) := by decide +kernel
theorem dX12_draws_40 : decode cX12_draws 40 = .ok (.iload_n 3, 1) := by decide +kernel
theorem dX12_draws_41 : decode cX12_draws 41 = .ok (.iconst (-1), 1) := by decide +kernel
theorem dX12_draws_42 : decode cX12_draws 42 = .ok (.if_icmp .eq 96, 3) := by decide +kernel
theorem dX12_draws_45 : decode cX12_draws 45 = .ok (.aload_n 0, 1) := by decide +kernel
theorem dX12_draws_46 : decode cX12_draws 46 = .ok (.getfield 162, 3) := by decide +kernel
theorem dX12_draws_49 : decode cX12_draws 49 = .ok (.iload_n 3, 1) := by decide +kernel
theorem dX12_draws_50 : decode cX12_draws 50 = .ok (.baload, 1) := by decide +kernel
theorem dX12_draws_51 : decode cX12_draws 51 = .ok (.ifCond .eq 87, 3) := by decide +kernel
theorem dX12_draws_54 : decode cX12_draws 54 = .ok (.aload_n 0, 1) := by decide +kernel
theorem dX12_draws_55 : decode cX12_draws 55 = .ok (.getfield 13, 3) := by decide +kernel
theorem dX12_draws_58 : decode cX12_draws 58 = .ok (.aload_n 0, 1) := by decide +kernel
theorem dX12_draws_59 : decode cX12_draws 59 = .ok (.getfield 40, 3) := by decide +kernel
theorem dX12_draws_62 : decode cX12_draws 62 = .ok (.iload_n 2, 1) := by decide +kernel
theorem dX12_draws_63 : decode cX12_draws 63 = .ok (.iaload, 1) := by decide +kernel
theorem dX12_draws_64 : decode cX12_draws 64 = .ok (.iaload, 1) := by decide +kernel
theorem dX12_draws_65 : decode cX12_draws 65 = .ok (.istore 4, 2) := by decide +kernel
theorem dX12_draws_67 : decode cX12_draws 67 = .ok (.aload_n 0, 1) := by decide +kernel
theorem dX12_draws_68 : decode cX12_draws 68 = .ok (.aload_n 0, 1) := by decide +kernel
theorem dX12_draws_69 : decode cX12_draws 69 = .ok (.getfield 481, 3) := by decide +kernel
theorem dX12_draws_72 : decode cX12_draws 72 = .ok (.ldc2_w 488, 3) := by decide +kernel
theorem dX12_draws_75 : decode cX12_draws 75 = .ok (.lmul, 1) := by decide +kernel
theorem dX12_draws_76 : decode cX12_draws 76 = .ok (.ldc2_w 490, 3) := by decide +kernel
theorem dX12_draws_79 : decode cX12_draws 79 = .ok (.ladd, 1) := by decide +kernel
theorem dX12_draws_80 : decode cX12_draws 80 = .ok (.ldc2_w 492, 3) := by decide +kernel
theorem dX12_draws_83 : decode cX12_draws 83 = .ok (.lrem, 1) := by decide +kernel
theorem dX12_draws_84 : decode cX12_draws 84 = .ok (.putfield 481, 3) := by decide +kernel
theorem dX12_draws_87 : decode cX12_draws 87 = .ok (.aload_n 0, 1) := by decide +kernel
theorem dX12_draws_88 : decode cX12_draws 88 = .ok (.getfield 111, 3) := by decide +kernel
theorem dX12_draws_91 : decode cX12_draws 91 = .ok (.iload_n 3, 1) := by decide +kernel
theorem dX12_draws_92 : decode cX12_draws 92 = .ok (.dup2, 1) := by decide +kernel
theorem dX12_draws_93 : decode cX12_draws 93 = .ok (.laload, 1) := by decide +kernel
theorem dX12_draws_94 : decode cX12_draws 94 = .ok (.iload 4, 2) := by decide +kernel
theorem dX12_draws_96 : decode cX12_draws 96 = .ok (.iconst (-1), 1) := by decide +kernel
theorem dX12_draws_97 : decode cX12_draws 97 = .ok (.if_icmp .ne 7, 3) := by decide +kernel
theorem dX12_draws_100 : decode cX12_draws 100 = .ok (.lconst 0, 1) := by decide +kernel
theorem dX12_draws_101 : decode cX12_draws 101 = .ok (.goto 16, 3) := by decide +kernel
theorem dX12_draws_104 : decode cX12_draws 104 = .ok (.aload_n 0, 1) := by decide +kernel
theorem dX12_draws_105 : decode cX12_draws 105 = .ok (.iload 4, 2) := by decide +kernel
theorem dX12_draws_107 : decode cX12_draws 107 = .ok (.iload_n 2, 1) := by decide +kernel
theorem dX12_draws_108 : decode cX12_draws 108 = .ok (.invokevirtual 393, 3) := by decide +kernel
theorem dX12_draws_111 : decode cX12_draws 111 = .ok (.ldc2_w 401, 3) := by decide +kernel
theorem dX12_draws_114 : decode cX12_draws 114 = .ok (.invokestatic 403, 3) := by decide +kernel
theorem dX12_draws_117 : decode cX12_draws 117 = .ok (.aload_n 0, 1) := by decide +kernel
theorem dX12_draws_118 : decode cX12_draws 118 = .ok (.getfield 481, 3) := by decide +kernel
theorem dX12_draws_121 : decode cX12_draws 121 = .ok (.ldc2_w 494, 3) := by decide +kernel
theorem dX12_draws_124 : decode cX12_draws 124 = .ok (.ldiv, 1) := by decide +kernel
theorem dX12_draws_125 : decode cX12_draws 125 = .ok (.iconst 2, 1) := by decide +kernel
theorem dX12_draws_126 : decode cX12_draws 126 = .ok (.iload_n 1, 1) := by decide +kernel
theorem dX12_draws_127 : decode cX12_draws 127 = .ok (.imul, 1) := by decide +kernel
theorem dX12_draws_128 : decode cX12_draws 128 = .ok (.iconst 1, 1) := by decide +kernel
theorem dX12_draws_129 : decode cX12_draws 129 = .ok (.iadd, 1) := by decide +kernel
theorem dX12_draws_130 : decode cX12_draws 130 = .ok (.i2l, 1) := by decide +kernel
theorem dX12_draws_131 : decode cX12_draws 131 = .ok (.lrem, 1) := by decide +kernel
theorem dX12_draws_132 : decode cX12_draws 132 = .ok (.ladd, 1) := by decide +kernel
theorem dX12_draws_133 : decode cX12_draws 133 = .ok (.iload_n 1, 1) := by decide +kernel
theorem dX12_draws_134 : decode cX12_draws 134 = .ok (.i2l, 1) := by decide +kernel
theorem dX12_draws_135 : decode cX12_draws 135 = .ok (.lsub, 1) := by decide +kernel
theorem dX12_draws_136 : decode cX12_draws 136 = .ok (.ladd, 1) := by decide +kernel
theorem dX12_draws_137 : decode cX12_draws 137 = .ok (.lastore, 1) := by decide +kernel
theorem dX12_draws_138 : decode cX12_draws 138 = .ok (.iinc 2 1, 3) := by decide +kernel
theorem dX12_draws_141 : decode cX12_draws 141 = .ok (.goto (-116), 3) := by decide +kernel
theorem dX12_draws_144 : decode cX12_draws 144 = .ok (.return_, 1) := by decide +kernel
set_option maxRecDepth 100000 in
set_option maxHeartbeats 4000000 in
theorem l1_X12_draws {h : ai_H} {T : Md} {ia ib q : Nat} {x : Int} {sp : Int32} {u3 u4 : Value} {Q : Option Value → ai_H → Prop} (hq4 : q ≤ 400) (ec : T.1 40 = nI q) (kx : ∀ (W : Md) (g : ai_H), md_ext h g → md_at g W → lq T W → mrk T q (ia * 16 + ib) (q * q) (W.2.2.1 66) → W.2.1 = aL x → (∀ t, t < q → W.2.2.2 48 t = 0) → ai_W MX12_draws 23 [.ref 307, .int sp, .int (nI q), u3, u4] [] g Q) : ∀ (k i : Nat) (W : Md) (g : ai_H), i ≤ q → q + 1 ≤ i + k → md_ext h g → md_at g W → lq T W → mrk T q (ia * 16 + ib) (q * q) (W.2.2.1 66) → W.2.1 = aL x → (∀ t, t < i → W.2.2.2 48 t = 0) → ai_W MX12_draws 2 [.ref 307, .int sp, .int (nI i), u3, u4] [] g Q := by
  intro k
  induction k with
  | zero => intro i W g h1 h2; exact absurd h2 (by omega)
  | succ k ih =>
    intro i W g hi0 him E0 hmd hl hm hd hv
    refine wq (fun _ _ kk => rs_iload_n (pc := 2) dX12_draws_2 rfl kk) ?_
    refine wq (fun _ _ kk => rs_aload_n (pc := 3) dX12_draws_3 rfl kk) ?_
    refine wq (fun _ _ kk => rs_getf (pc := 4) dX12_draws_4 fX12_398 (md_lt hmd (by decide)) hmd.2.1 rfl kk) ?_
    rw [hl.1, ec]
    refine wq_br (fun _ _ kt kf => rs_icmp_ge (tgt := 23) (pc := 7) dX12_draws_7 rfl kt kf) (fun c_7 => ?_) (fun c_7 => ?_)
    · have hie : q = i := (lp_exit rfl (by omega) hi0 c_7).symm
      subst hie
      exact kx W g E0 hmd hl hm hd hv
    · have hi : i < q := lp_go rfl (by omega) c_7
      refine wq (fun _ _ kk => rs_aload_n (pc := 10) dX12_draws_10 rfl kk) ?_
      refine wq (fun _ _ kk => rs_getf (pc := 11) dX12_draws_11 fX12_111 (md_lt hmd (by decide)) hmd.2.1 rfl kk) ?_
      refine wq (fun _ _ kk => rs_iload_n (pc := 14) dX12_draws_14 rfl kk) ?_
      refine wq (fun _ _ kk => rs_lconst (v := 0) (pc := 15) dX12_draws_15 rfl kk) ?_
      refine wq (fun _ _ kk => rs_last (pc := 16) dX12_draws_16 (md_lt hmd (by decide)) (md_getl (d := 33) (k := 48) (kd := 1) (n := 400) rfl (by decide) hmd) (vp_in_nI (n := i) (N := 400) (by omega) (by decide)) kk) ?_
      refine wq_gen (fun h_1 e_1 => ?_)
      obtain ⟨m_1, s_1, g_1, o_1⟩ := ai_e1 e_1
      replace hmd := md_at_al (d := 33) rfl (by decide) hmd m_1 g_1 o_1
      have E_1 := (E0).trans (md_ext_of m_1 s_1 o_1 (by decide))
      refine wq (fun _ _ kk => wk_iinc2 (v := nI (i + 1)) (pc := 17) dX12_draws_17 (by decide) rfl (nI_1 i) kk) ?_
      refine wq (fun _ _ kk => rs_goto (tgt := 2) (pc := 20) dX12_draws_20 rfl kk) ?_
      rw [nI_clamp (show i < 2 ^ 31 by omega)] at hmd
      refine ih (i + 1) _ _ (by omega) (by omega) (E_1) hmd hl hm hd (fun t ht => ?_)
      show vp_updL (W.2.2.2 48) i 0 t = 0
      by_cases e : t = i
      · subst e; exact if_pos rfl
      · rw [show vp_updL (W.2.2.2 48) i 0 t = W.2.2.2 48 t from if_neg e]; exact hv t (by omega)
theorem MC_ofr {S W : Md} {r : Nat} (e : ∀ k, 31 ≤ k ∧ k ≤ 36 → W.2.2.1 k = S.2.2.1 k) : ∀ {D : List Cl} {c0 o : Nat}, MC S r c0 o D → MC W r c0 o D
  | [], _, _, _ => trivial
  | c :: D, c0, o, h => by
    obtain ⟨h1, h2, h3, h4, h5, h6⟩ := h
    refine ⟨by rw [e 34 (by decide)]; exact h1, by rw [e 35 (by decide)]; exact h2, by rw [e 36 (by decide)]; exact h3, ?_, ?_, MC_ofr e h6⟩
    · intro k t hk; rw [e 31 (by decide), e 32 (by decide)]; exact h4 k t hk
    · intro k t hk; rw [e 31 (by decide), e 32 (by decide)]; exact h5 k t hk
set_option maxRecDepth 100000 in
set_option maxHeartbeats 4000000 in
theorem l2_X12_draws {h : ai_H} {T : Md} {B : Bk} {nl ia ib q sl : Nat} {x : Int} {Ls : Nat → List Cl} {wk : Int32} (hok : bk_ok B nl) (hRB : RB B T) (hML : MLS T nl Ls) (hS : SI B wk T (nR B) (nR B) q) (hq4 : q ≤ 400) (ec : T.1 40 = nI q) (hia : ia < 16) (hib : ib < 16) (hij : ia ≠ ib) (hsl : sl ≤ 99) (hx0 : 0 ≤ x ∧ x < 2147483648) : ∀ (m k : Nat) (u3 u4 : Value) (W : Md) (g : ai_H), k ≤ nR B → nR B + 1 ≤ k + m → md_ext h g → md_at g W → lq T W → mrk T q (ia * 16 + ib) (q * q) (W.2.2.1 66) → MSm B Ls wk (nI ia) (nI ib) sl x T q k W → ai_W MX12_draws 25 [.ref 307, .int (nI sl), .int (nI k), u3, u4] [] g (fun rr g => rr = none ∧ md_ext h g ∧ ∃ W, md_at g W ∧ lq T W ∧ mrk T q (ia * 16 + ib) (q * q) (W.2.2.1 66) ∧ MSm B Ls wk (nI ia) (nI ib) sl x T q (nR B) W) := by
  have hr4 := hok.2.2.2.2.1.2.1
  have hn16 := hok.2.1.2.1
  intro m
  induction m with
  | zero => intro k u3 u4 W g h1 h2; exact absurd h2 (by omega)
  | succ m ih =>
    intro k u3 u4 W g hk0 him E0 hmd hl hm hM
    refine wq (fun _ _ kk => rs_iload_n (pc := 25) dX12_draws_25 rfl kk) ?_
    refine wq (fun _ _ kk => rs_aload_n (pc := 26) dX12_draws_26 rfl kk) ?_
    refine wq (fun _ _ kk => rs_getf (pc := 27) dX12_draws_27 fX12_197 (md_lt hmd (by decide)) hmd.2.1 rfl kk) ?_
    rw [hl.1, hRB.1.2.2.2.2.1, hok.2.2.2.2.1.1]
    refine wq_br (fun _ _ kt kf => rs_icmp_ge (tgt := 144) (pc := 30) dX12_draws_30 rfl kt kf) (fun c_30 => ?_) (fun c_30 => ?_)
    · have hke : k = nR B := lp_exit rfl (by omega) hk0 c_30
      subst hke
      refine wq_ret ?_ (rs_vret (pc := 144) dX12_draws_144 rfl)
      exact ⟨rfl, E0, W, hmd, hl, hm, hM⟩
    · have hk : k < nR B := lp_go rfl (by omega) c_30
      have hxb := xsZ_b (p := tkn B wk (nI ia) (nI ib)) hx0 k
      have hxb2 : 0 ≤ lcZ (xsZ (tkn B wk (nI ia) (nI ib)) x k) ∧ lcZ (xsZ (tkn B wk (nI ia) (nI ib)) x k) < 2147483648 := by unfold lcZ; omega
      have hlb := leZ_b B Ls k
      have hRW := hRB.of hl.mq.sb
      obtain ⟨-, -, -, q4, -⟩ := hRW.2.2.2.2.1 k hk
      obtain ⟨-, -, -, -, -, -, k7, k8, -⟩ := hok.2.2.2.2.1.2.2 k hk
      obtain ⟨o, ho, eo⟩ := i32_ex k7 k8
      obtain ⟨-, o2⟩ := hRW.2.1 o ho
      obtain ⟨-, -, l1, l2⟩ := hok.2.1.2.2 o ho
      refine wq (fun _ _ kk => rs_aload_n (pc := 33) dX12_draws_33 rfl kk) ?_
      refine wq (fun _ _ kk => rs_getf (pc := 34) dX12_draws_34 fX12_108 (md_lt hmd (by decide)) hmd.2.1 rfl kk) ?_
      refine wq (fun _ _ kk => rs_iload_n (pc := 37) dX12_draws_37 rfl kk) ?_
      refine wq (fun _ _ kk => rs_iald (pc := 38) dX12_draws_38 (md_lt hmd (by decide)) (md_geti (d := 32) (k := 47) (kd := 0) (n := 400) rfl (by decide) hmd) (vp_in_nI (n := k) (N := 400) (by omega) (by decide)) kk) ?_
      rw [nI_clamp (show k < 2 ^ 31 by omega), hl.2 47 (by decide)]
      refine wq (fun _ _ kk => wk_istn3 (pc := 39) dX12_draws_39 (by decide) rfl kk) ?_
      refine wq (fun _ _ kk => rs_iload_n (pc := 40) dX12_draws_40 rfl kk) ?_
      refine wq (fun _ _ kk => rs_iconst (v := -1) (pc := 41) dX12_draws_41 rfl kk) ?_
      refine wq_br (fun _ _ kt kf => rs_icmp_eq (tgt := 138) (pc := 42) dX12_draws_42 rfl kt kf) (fun c_42 => ?_) (fun c_42 => ?_)
      · have hno : ¬ tkn B wk (nI ia) (nI ib) k = true := fun y => by
          obtain ⟨c, c1, c2, -⟩ := (hS.2.2.1 k hk).1 (tkn_iff.1 y).1
          rw [c2] at c_42
          exact nI_m1 (by omega) c_42
        refine wq (fun _ _ kk => wk_iinc2 (v := nI (k + 1)) (pc := 138) dX12_draws_138 (by decide) rfl (nI_1 k) kk) ?_
        refine wq (fun _ _ kk => rs_goto (tgt := 25) (pc := 141) dX12_draws_141 rfl kk) ?_
        exact ih (k + 1) _ _ W g (by omega) (by omega) E0 hmd hl hm (MSm_n hM hno)
      · have hkn : ¬ bk_known B (nI k) wk = 0 := fun y => c_42 ((hS.2.2.1 k hk).2 y)
        obtain ⟨c, hc, e47, hsk⟩ := (hS.2.2.1 k hk).1 hkn
        rw [e47]
        have hmt := tkn_sight hS hia hib hk hkn hc hsk
        refine wq (fun _ _ kk => rs_aload_n (pc := 45) dX12_draws_45 rfl kk) ?_
        refine wq (fun _ _ kk => rs_getf (pc := 46) dX12_draws_46 fX12_162 (md_lt hmd (by decide)) hmd.2.1 rfl kk) ?_
        refine wq (fun _ _ kk => rs_iload_n (pc := 49) dX12_draws_49 rfl kk) ?_
        refine wq (fun _ _ kk => rs_zald (pc := 50) dX12_draws_50 (md_lt hmd (by decide)) (md_geti (d := 50) (k := 66) (kd := 2) (n := 400) rfl (by decide) hmd) (vp_in_nI (n := c) (N := 400) (by omega) (by decide)) kk) ?_
        rw [nI_clamp (show c < 2 ^ 31 by omega), hm c hc]
        refine wq_br (fun _ _ kt kf => rs_if_eq (tgt := 138) (pc := 51) dX12_draws_51 rfl kt kf) (fun c_51 => ?_) (fun c_51 => ?_)
        · have hno : ¬ tkn B wk (nI ia) (nI ib) k = true := fun y => by rw [if_pos (hmt.2 y)] at c_51; exact absurd c_51 (by decide)
          refine wq (fun _ _ kk => wk_iinc2 (v := nI (k + 1)) (pc := 138) dX12_draws_138 (by decide) rfl (nI_1 k) kk) ?_
          refine wq (fun _ _ kk => rs_goto (tgt := 25) (pc := 141) dX12_draws_141 rfl kk) ?_
          exact ih (k + 1) _ _ W g (by omega) (by omega) E0 hmd hl hm (MSm_n hM hno)
        · have htk : tkn B wk (nI ia) (nI ib) k = true := by
            by_cases y : mtg T q (ia * 16 + ib) (q * q) c = true
            · exact hmt.1 y
            · rw [if_neg y] at c_51; exact absurd rfl c_51
          refine wq (fun _ _ kk => rs_aload_n (pc := 54) dX12_draws_54 rfl kk) ?_
          refine wq (fun _ _ kk => rs_getf (pc := 55) dX12_draws_55 fX12_13 (md_lt hmd (by decide)) hmd.2.1 rfl kk) ?_
          refine wq (fun _ _ kk => rs_aload_n (pc := 58) dX12_draws_58 rfl kk) ?_
          refine wq (fun _ _ kk => rs_getf (pc := 59) dX12_draws_59 fX12_40 (md_lt hmd (by decide)) hmd.2.1 rfl kk) ?_
          refine wq (fun _ _ kk => rs_iload_n (pc := 62) dX12_draws_62 rfl kk) ?_
          refine wq (fun _ _ kk => rs_iald (pc := 63) dX12_draws_63 (md_lt hmd (by decide)) (md_geti (d := 10) (k := 16) (kd := 0) (n := 400) rfl (by decide) hmd) (vp_in_nI (n := k) (N := 400) (by omega) (by decide)) kk) ?_
          rw [nI_clamp (show k < 2 ^ 31 by omega), q4, eo]
          refine wq (fun _ _ kk => rs_iald (pc := 64) dX12_draws_64 (md_lt hmd (by decide)) (md_geti (d := 1) (k := 7) (kd := 0) (n := 16) rfl (by decide) hmd) (vp_in_nI (n := o) (N := 16) (by omega) (by decide)) kk) ?_
          rw [nI_clamp (show o < 2 ^ 31 by omega), o2]
          refine wq (fun _ _ kk => wk_ist4 (pc := 65) dX12_draws_65 (by decide) rfl kk) ?_
          refine wq (fun _ _ kk => rs_aload_n (pc := 67) dX12_draws_67 rfl kk) ?_
          refine wq (fun _ _ kk => rs_aload_n (pc := 68) dX12_draws_68 rfl kk) ?_
          refine wq (fun _ _ kk => rs_getf (pc := 69) dX12_draws_69 fX12_481 (md_lt hmd (by decide)) hmd.2.1 rfl kk) ?_
          refine wq (fun _ _ kk => rs_ldc2 (pc := 72) dX12_draws_72 cnX12_488 kk) ?_
          refine wq (fun _ _ kk => rs_lmul (pc := 75) dX12_draws_75 kk) ?_
          refine wq (fun _ _ kk => rs_ldc2 (pc := 76) dX12_draws_76 cnX12_490 kk) ?_
          refine wq (fun _ _ kk => rs_ladd (pc := 79) dX12_draws_79 kk) ?_
          refine wq (fun _ _ kk => rs_ldc2 (pc := 80) dX12_draws_80 cnX12_492 kk) ?_
          refine wq (fun _ _ kk => rs_lrem (pc := 83) dX12_draws_83 (by decide) kk) ?_
          rw [hM.1, lc_is hxb]
          refine wq (fun _ _ kk => rs_putf (pc := 84) dX12_draws_84 fX12_481 (md_lt hmd (by decide)) hmd.2.1 rfl (Nat.le_of_ble_eq_true rfl) kk) ?_
          refine wq_gen (fun h_1 e_1 => ?_)
          obtain ⟨m_1, s_1, g_1, o_1⟩ := ai_e1 e_1
          replace hmd := md_at_dl hmd m_1 g_1 o_1 rfl
          have E_1 := (E0).trans (md_ext_of m_1 s_1 o_1 (by decide))
          refine wq (fun _ _ kk => rs_aload_n (pc := 87) dX12_draws_87 rfl kk) ?_
          refine wq (fun _ _ kk => rs_getf (pc := 88) dX12_draws_88 fX12_111 (md_lt hmd (by decide)) hmd.2.1 rfl kk) ?_
          refine wq (fun _ _ kk => rs_iload_n (pc := 91) dX12_draws_91 rfl kk) ?_
          refine wq (fun _ _ kk => rs_dup2 (pc := 92) dX12_draws_92 rfl rfl kk) ?_
          refine wq (fun _ _ kk => rs_lald (pc := 93) dX12_draws_93 (md_lt hmd (by decide)) (md_getl (d := 33) (k := 48) (kd := 1) (n := 400) rfl (by decide) hmd) (vp_in_nI (n := c) (N := 400) (by omega) (by decide)) kk) ?_
          rw [nI_clamp (show c < 2 ^ 31 by omega)]
          refine wq (fun _ _ kk => rs_iload (pc := 94) dX12_draws_94 rfl kk) ?_
          refine wq (fun _ _ kk => rs_iconst (v := -1) (pc := 96) dX12_draws_96 rfl kk) ?_
          refine wq_bn (fun _ _ kt kf => rs_icmp_ne (tgt := 104) (pc := 97) dX12_draws_97 rfl kt kf) (fun c_97 => ?_) (fun c_97 => ?_)
          · refine wq (fun _ _ kk => rs_aload_n (pc := 104) dX12_draws_104 rfl kk) ?_
            refine wq (fun _ _ kk => rs_iload (pc := 105) dX12_draws_105 rfl kk) ?_
            refine wq (fun _ _ kk => rs_iload_n (pc := 107) dX12_draws_107 rfl kk) ?_
            have hr0 : ∃ r, r < nl ∧ bk_oat B (nI o) 1 = nI r := i32_ex (n := nl) (by have y : ¬ (bk_oat B (nI o) 1).toInt = -1 := fun y => c_97 (Int32.toInt_inj.mp y); omega) (by omega)
            obtain ⟨r, hr, er⟩ := hr0
            rw [er]
            have hn10 := hML.2.1
            obtain ⟨rv_108, hc_108, ⟨ee_108, ⟨W2, hmd_108, hq2⟩, rfl⟩, hm_108⟩ := c_X12_given (V := md_dl W (aL (lcZ (xsZ (tkn B wk (nI ia) (nI ib)) x k)))) hok hRW (show r < 10 by omega) hk (hML.2.2 r hr).2 (by obtain ⟨y1, y2⟩ := (hML.2.2 r hr).1; exact ⟨by rw [md_dl_i, hl.2 33 (by decide)]; exact y1, MC_ofr (fun k hk => by rw [md_dl_i]; exact hl.2 k (by omega)) y2⟩) hmd
            refine wq (fun _ _ kk => rs_callV (as := [_, _]) (pc := 108) dX12_draws_108 mk_X12_given mlX12_393 in_X12_given se_X12_given rfl (md_lt hmd (by decide)) hmd.2.1 rfl rfl (Nat.le_of_ble_eq_true rfl) (hm_108) kk) ?_
            replace hmd := hmd_108
            have E_108 := (E_1).trans ee_108
            refine wq (fun _ _ kk => rs_ldc2 (pc := 111) dX12_draws_111 cnX12_401 kk) ?_
            refine wq (fun _ _ kk => rs_callS (as := [_, _]) (pc := 114) dX12_draws_114 mk_X12_floorOf mlX12_403 st_X12_floorOf rfl rfl (Nat.le_of_ble_eq_true rfl) (c_X12_floorOf (by decide)) kk) ?_
            first
            | refine wq_tl (show (0 : Int64) = aL (leZ B Ls k) from by unfold leZ; rw [eo, if_pos c_97]; rfl) ?_
            | refine wq_tl (show bi_fl (hld (lwv (bkw B (nI k)) (Ls r))) 1000 = aL (leZ B Ls k) from by
                have hb := hld_b (lwv (bkw B (nI k)) (Ls r))
                unfold leZ
                rw [eo, er, if_neg (nI_m1 (by omega)), nI_clamp (by omega)]
                conv => lhs; rw [← aL_to (hld (lwv (bkw B (nI k)) (Ls r)))]
                rw [show (1000 : Int64) = aL 1000 from rfl, aL_fl (by omega) (by omega) (by omega) (by omega)]) ?_
            refine wq (fun _ _ kk => rs_aload_n (pc := 117) dX12_draws_117 rfl kk) ?_
            refine wq (fun _ _ kk => rs_getf (pc := 118) dX12_draws_118 fX12_481 (md_lt hmd (by decide)) hmd.2.1 rfl kk) ?_
            refine wq (fun _ _ kk => rs_ldc2 (pc := 121) dX12_draws_121 cnX12_494 kk) ?_
            refine wq (fun _ _ kk => rs_ldiv (pc := 124) dX12_draws_124 (by decide) kk) ?_
            refine wq (fun _ _ kk => rs_iconst (v := 2) (pc := 125) dX12_draws_125 rfl kk) ?_
            refine wq (fun _ _ kk => rs_iload_n (pc := 126) dX12_draws_126 rfl kk) ?_
            refine wq (fun _ _ kk => rs_imul (pc := 127) dX12_draws_127 kk) ?_
            refine wq (fun _ _ kk => rs_iconst (v := 1) (pc := 128) dX12_draws_128 rfl kk) ?_
            refine wq (fun _ _ kk => rs_iadd (pc := 129) dX12_draws_129 kk) ?_
            refine wq (fun _ _ kk => rs_i2l (pc := 130) dX12_draws_130 kk) ?_
            refine wq (fun _ _ kk => rs_lrem (pc := 131) dX12_draws_131 (fun y => by rw [show (2 : Int32) * nI sl + 1 = aI (2 * (sl : Int) + 1) from by rw [← aI_nat, show (2 : Int32) = aI 2 from rfl, show (1 : Int32) = aI 1 from rfl, aI_mul, aI_add], aI_i2l (by omega) (by omega), show (0 : Int64) = aL 0 from rfl, aL_eq (by omega) (by omega) (by omega) (by omega)] at y; omega) kk) ?_
            refine wq (fun _ _ kk => rs_ladd (pc := 132) dX12_draws_132 kk) ?_
            refine wq (fun _ _ kk => rs_iload_n (pc := 133) dX12_draws_133 rfl kk) ?_
            refine wq (fun _ _ kk => rs_i2l (pc := 134) dX12_draws_134 kk) ?_
            refine wq (fun _ _ kk => rs_lsub (pc := 135) dX12_draws_135 kk) ?_
            first | rw [show (md_dl W (aL (lcZ (xsZ (tkn B wk (nI ia) (nI ib)) x k)))).2.1 = aL (lcZ (xsZ (tkn B wk (nI ia) (nI ib)) x k)) from rfl, dr_is hxb2 hsl] | rw [show W2.2.1 = aL (lcZ (xsZ (tkn B wk (nI ia) (nI ib)) x k)) from hq2.2.1, dr_is hxb2 hsl]
            refine wq (fun _ _ kk => rs_ladd (pc := 136) dX12_draws_136 kk) ?_
            refine wq (fun _ _ kk => rs_last (pc := 137) dX12_draws_137 (md_lt hmd (by decide)) (md_getl (d := 33) (k := 48) (kd := 1) (n := 400) rfl (by decide) hmd) (vp_in_nI (n := c) (N := 400) (by omega) (by decide)) kk) ?_
            refine wq_gen (fun h_2 e_2 => ?_)
            obtain ⟨m_2, s_2, g_2, o_2⟩ := ai_e1 e_2
            replace hmd := md_at_al (d := 33) rfl (by decide) hmd m_2 g_2 o_2
            have E_2 := (E_108).trans (md_ext_of m_2 s_2 o_2 (by decide))
            refine wq (fun _ _ kk => wk_iinc2 (v := nI (k + 1)) (pc := 138) dX12_draws_138 (by decide) rfl (nI_1 k) kk) ?_
            refine wq (fun _ _ kk => rs_goto (tgt := 25) (pc := 141) dX12_draws_141 rfl kk) ?_
            rw [nI_clamp (show c < 2 ^ 31 by omega)] at hmd
            have ev : vaZ (leZ B Ls) (tkn B wk (nI ia) (nI ib)) sl x k = leZ B Ls k + lcZ (xsZ (tkn B wk (nI ia) (nI ib)) x k) / 65536 % (2 * (sl : Int) + 1) - (sl : Int) := by unfold vaZ; rw [xsZ, if_pos htk]
            first
            | exact ih (k + 1) _ _ _ _ (by omega) (by omega) (E_2) hmd hl hm (MSm_y hM hS htk hc hsk rfl (fun d => by rw [ev]; rfl))
            | exact ih (k + 1) _ _ _ _ (by omega) (by omega) (E_2) hmd (hl.trans hq2.lq) (by intro d hd; show W2.2.2.1 66 d = _; rw [hq2.2.2.1]; exact hm d hd) (MSm_y hM hS htk hc hsk hq2.2.1 (fun d => by
                rw [ev]
                show vp_updL (W2.2.2.2 48) c _ d = _
                rw [hq2.2.2.2 48 (by decide) (by decide)]
                rfl))
          · refine wq (fun _ _ kk => rs_lconst (v := 0) (pc := 100) dX12_draws_100 rfl kk) ?_
            refine wq (fun _ _ kk => rs_goto (tgt := 117) (pc := 101) dX12_draws_101 rfl kk) ?_
            first
            | refine wq_tl (show (0 : Int64) = aL (leZ B Ls k) from by unfold leZ; rw [eo, if_pos c_97]; rfl) ?_
            | refine wq_tl (show bi_fl (hld (lwv (bkw B (nI k)) (Ls r))) 1000 = aL (leZ B Ls k) from by
                have hb := hld_b (lwv (bkw B (nI k)) (Ls r))
                unfold leZ
                rw [eo, er, if_neg (nI_m1 (by omega)), nI_clamp (by omega)]
                conv => lhs; rw [← aL_to (hld (lwv (bkw B (nI k)) (Ls r)))]
                rw [show (1000 : Int64) = aL 1000 from rfl, aL_fl (by omega) (by omega) (by omega) (by omega)]) ?_
            refine wq (fun _ _ kk => rs_aload_n (pc := 117) dX12_draws_117 rfl kk) ?_
            refine wq (fun _ _ kk => rs_getf (pc := 118) dX12_draws_118 fX12_481 (md_lt hmd (by decide)) hmd.2.1 rfl kk) ?_
            refine wq (fun _ _ kk => rs_ldc2 (pc := 121) dX12_draws_121 cnX12_494 kk) ?_
            refine wq (fun _ _ kk => rs_ldiv (pc := 124) dX12_draws_124 (by decide) kk) ?_
            refine wq (fun _ _ kk => rs_iconst (v := 2) (pc := 125) dX12_draws_125 rfl kk) ?_
            refine wq (fun _ _ kk => rs_iload_n (pc := 126) dX12_draws_126 rfl kk) ?_
            refine wq (fun _ _ kk => rs_imul (pc := 127) dX12_draws_127 kk) ?_
            refine wq (fun _ _ kk => rs_iconst (v := 1) (pc := 128) dX12_draws_128 rfl kk) ?_
            refine wq (fun _ _ kk => rs_iadd (pc := 129) dX12_draws_129 kk) ?_
            refine wq (fun _ _ kk => rs_i2l (pc := 130) dX12_draws_130 kk) ?_
            refine wq (fun _ _ kk => rs_lrem (pc := 131) dX12_draws_131 (fun y => by rw [show (2 : Int32) * nI sl + 1 = aI (2 * (sl : Int) + 1) from by rw [← aI_nat, show (2 : Int32) = aI 2 from rfl, show (1 : Int32) = aI 1 from rfl, aI_mul, aI_add], aI_i2l (by omega) (by omega), show (0 : Int64) = aL 0 from rfl, aL_eq (by omega) (by omega) (by omega) (by omega)] at y; omega) kk) ?_
            refine wq (fun _ _ kk => rs_ladd (pc := 132) dX12_draws_132 kk) ?_
            refine wq (fun _ _ kk => rs_iload_n (pc := 133) dX12_draws_133 rfl kk) ?_
            refine wq (fun _ _ kk => rs_i2l (pc := 134) dX12_draws_134 kk) ?_
            refine wq (fun _ _ kk => rs_lsub (pc := 135) dX12_draws_135 kk) ?_
            first | rw [show (md_dl W (aL (lcZ (xsZ (tkn B wk (nI ia) (nI ib)) x k)))).2.1 = aL (lcZ (xsZ (tkn B wk (nI ia) (nI ib)) x k)) from rfl, dr_is hxb2 hsl] | rw [show W2.2.1 = aL (lcZ (xsZ (tkn B wk (nI ia) (nI ib)) x k)) from hq2.2.1, dr_is hxb2 hsl]
            refine wq (fun _ _ kk => rs_ladd (pc := 136) dX12_draws_136 kk) ?_
            refine wq (fun _ _ kk => rs_last (pc := 137) dX12_draws_137 (md_lt hmd (by decide)) (md_getl (d := 33) (k := 48) (kd := 1) (n := 400) rfl (by decide) hmd) (vp_in_nI (n := c) (N := 400) (by omega) (by decide)) kk) ?_
            refine wq_gen (fun h_3 e_3 => ?_)
            obtain ⟨m_3, s_3, g_3, o_3⟩ := ai_e1 e_3
            replace hmd := md_at_al (d := 33) rfl (by decide) hmd m_3 g_3 o_3
            have E_3 := (E_1).trans (md_ext_of m_3 s_3 o_3 (by decide))
            refine wq (fun _ _ kk => wk_iinc2 (v := nI (k + 1)) (pc := 138) dX12_draws_138 (by decide) rfl (nI_1 k) kk) ?_
            refine wq (fun _ _ kk => rs_goto (tgt := 25) (pc := 141) dX12_draws_141 rfl kk) ?_
            rw [nI_clamp (show c < 2 ^ 31 by omega)] at hmd
            have ev : vaZ (leZ B Ls) (tkn B wk (nI ia) (nI ib)) sl x k = leZ B Ls k + lcZ (xsZ (tkn B wk (nI ia) (nI ib)) x k) / 65536 % (2 * (sl : Int) + 1) - (sl : Int) := by unfold vaZ; rw [xsZ, if_pos htk]
            first
            | exact ih (k + 1) _ _ _ _ (by omega) (by omega) (E_3) hmd hl hm (MSm_y hM hS htk hc hsk rfl (fun d => by rw [ev]; rfl))
            | exact ih (k + 1) _ _ _ _ (by omega) (by omega) (E_3) hmd (hl.trans hq2.lq) (by intro d hd; show W2.2.2.1 66 d = _; rw [hq2.2.2.1]; exact hm d hd) (MSm_y hM hS htk hc hsk hq2.2.1 (fun d => by
                rw [ev]
                show vp_updL (W2.2.2.2 48) c _ d = _
                rw [hq2.2.2.2 48 (by decide) (by decide)]
                rfl))
set_option maxRecDepth 100000 in
set_option maxHeartbeats 4000000 in
theorem c_X12_draws {h : ai_H} {T : Md} {B : Bk} {nl ia ib q sl : Nat} {x : Int} {Ls : Nat → List Cl} {wk : Int32} (hok : bk_ok B nl) (hRB : RB B T) (hML : MLS T nl Ls) (hS : SI B wk T (nR B) (nR B) q) (hq4 : q ≤ 400) (ec : T.1 40 = nI q) (hia : ia < 16) (hib : ib < 16) (hij : ia ≠ ib) (hsl : sl ≤ 99) (hx0 : 0 ≤ x ∧ x < 2147483648) {W : Md} (hmd : md_at h W) (hl : lq T W) (hm : mrk T q (ia * 16 + ib) (q * q) (W.2.2.1 66)) (hd : W.2.1 = aL x) : ai_QM MX12_draws [.ref 307, .int (nI sl)] h (fun rr g => rr = none ∧ md_ext h g ∧ ∃ W, md_at g W ∧ lq T W ∧ mrk T q (ia * 16 + ib) (q * q) (W.2.2.1 66) ∧ MSm B Ls wk (nI ia) (nI ib) sl x T q (nR B) W) := by
  refine qm_of (ls := [.ref 307, .int (nI sl), .float 0, .float 0, .float 0]) (by decide) (by simp [ai_en, Value.category]) (by rfl) ?_
  refine wq (fun _ _ kk => rs_iconst (v := 0) (pc := 0) dX12_draws_0 rfl kk) ?_
  refine wq (fun _ _ kk => wk_istn2 (pc := 1) dX12_draws_1 (by decide) rfl kk) ?_
  refine l1_X12_draws (h := h) (T := T) (ia := ia) (ib := ib) (x := x) hq4 ec ?_ (q + 1) 0 W h (by omega) (by omega) md_ext.rf hmd hl hm hd (fun t ht => absurd ht (Nat.not_lt_zero t))
  clear hmd hl hm hd
  intro W g E0 hmd hl hm hd hv
  refine wq (fun _ _ kk => rs_iconst (v := 0) (pc := 23) dX12_draws_23 rfl kk) ?_
  refine wq (fun _ _ kk => wk_istn2 (pc := 24) dX12_draws_24 (by decide) rfl kk) ?_
  exact l2_X12_draws (h := h) hok hRB hML hS hq4 ec hia hib hij hsl hx0 (nR B + 1) 0 _ _ W g (by omega) (by omega) E0 hmd hl hm ⟨hd, hv⟩
theorem dX12_later_0 : decode cX12_later 0 = .ok (.aload_n 0, 1) := by decide +kernel
theorem dX12_later_1 : decode cX12_later 1 = .ok (.iload_n 1, 1) := by decide +kernel
theorem dX12_later_2 : decode cX12_later 2 = .ok (.invokevirtual 217, 3) := by decide +kernel
theorem dX12_later_5 : decode cX12_later 5 = .ok (.ifCond .eq 46, 3) := by decide +kernel
theorem dX12_later_8 : decode cX12_later 8 = .ok (.aload_n 0, 1) := by decide +kernel
theorem dX12_later_9 : decode cX12_later 9 = .ok (.iload_n 2, 1) := by decide +kernel
theorem dX12_later_10 : decode cX12_later 10 = .ok (.invokevirtual 217, 3) := by decide +kernel
theorem dX12_later_13 : decode cX12_later 13 = .ok (.ifCond .eq 38, 3) := by decide +kernel
theorem dX12_later_16 : decode cX12_later 16 = .ok (.iload_n 1, 1) := by decide +kernel
theorem dX12_later_17 : decode cX12_later 17 = .ok (.iload_n 2, 1) := by decide +kernel
theorem dX12_later_18 : decode cX12_later 18 = .ok (.if_icmp .eq 33, 3) := by decide +kernel
theorem dX12_later_21 : decode cX12_later 21 = .ok (.iload_n 3, 1) := by decide +kernel
theorem dX12_later_22 : decode cX12_later 22 = .ok (.ifCond .lt 29, 3) := by decide +kernel
theorem dX12_later_25 : decode cX12_later 25 = .ok (.iload 4, 2) := by decide +kernel
theorem dX12_later_27 : decode cX12_later 27 = .ok (.i2l, 1) := by decide +kernel
theorem dX12_later_28 : decode cX12_later 28 = .ok (.lconst 0, 1) := by decide +kernel
theorem dX12_later_29 : decode cX12_later 29 = .ok (.ldc2_w 206, 3) := by decide +kernel
theorem dX12_later_32 : decode cX12_later 32 = .ok (.invokestatic 181, 3) := by decide +kernel
theorem dX12_later_35 : decode cX12_later 35 = .ok (.ifCond .eq 16, 3) := by decide +kernel
theorem dX12_later_38 : decode cX12_later 38 = .ok (.iload 5, 2) := by decide +kernel
theorem dX12_later_40 : decode cX12_later 40 = .ok (.i2l, 1) := by decide +kernel
theorem dX12_later_41 : decode cX12_later 41 = .ok (.lconst 1, 1) := by decide +kernel
theorem dX12_later_42 : decode cX12_later 42 = .ok (.ldc2_w 479, 3) := by decide +kernel
theorem dX12_later_45 : decode cX12_later 45 = .ok (.invokestatic 181, 3) := by decide +kernel
theorem dX12_later_48 : decode cX12_later 48 = .ok (.ifCond .ne 5, 3) := by decide +kernel
theorem dX12_later_51 : decode cX12_later 51 = .ok (.iconst (-1), 1) := by decide +kernel
theorem dX12_later_52 : decode cX12_later 52 = .ok (.ireturn, 1) := by decide +kernel
theorem dX12_later_53 : decode cX12_later 53 = .ok (.aload_n 0, 1) := by decide +kernel
theorem dX12_later_54 : decode cX12_later 54 = .ok (.aload_n 0, 1) := by decide +kernel
theorem dX12_later_55 : decode cX12_later 55 = .ok (.getfield 185, 3) := by decide +kernel
theorem dX12_later_58 : decode cX12_later 58 = .ok (.invokevirtual 407, 3) := by decide +kernel
theorem dX12_later_61 : decode cX12_later 61 = .ok (.iconst 0, 1) := by decide +kernel
theorem dX12_later_62 : decode cX12_later 62 = .ok (.istore 6, 2) := by decide +kernel
theorem dX12_later_64 : decode cX12_later 64 = .ok (.iconst 0, 1) := by decide +kernel
theorem dX12_later_65 : decode cX12_later 65 = .ok (.istore 7, 2) := by decide +kernel
theorem dX12_later_67 : decode cX12_later 67 = .ok (.iload 7, 2) := by decide +kernel
theorem dX12_later_69 : decode cX12_later 69 = .ok (.aload_n 0, 1) := by decide +kernel
theorem dX12_later_70 : decode cX12_later 70 = .ok (.getfield 398, 3) := by decide +kernel
theorem dX12_later_73 : decode cX12_later 73 = .ok (.if_icmp .ge 17, 3) := by decide +kernel
theorem dX12_later_76 : decode cX12_later 76 = .ok (.aload_n 0, 1) := by decide +kernel
theorem dX12_later_77 : decode cX12_later 77 = .ok (.getfield 162, 3) := by decide +kernel
theorem dX12_later_80 : decode cX12_later 80 = .ok (.iload 7, 2) := by decide +kernel
theorem dX12_later_82 : decode cX12_later 82 = .ok (.iconst 0, 1) := by decide +kernel
theorem dX12_later_83 : decode cX12_later 83 = .ok (.bastore, 1) := by decide +kernel
theorem dX12_later_84 : decode cX12_later 84 = .ok (.iinc 7 1, 3) := by decide +kernel
theorem dX12_later_87 : decode cX12_later 87 = .ok (.goto (-20), 3) := by decide +kernel
theorem dX12_later_90 : decode cX12_later 90 = .ok (.iconst 0, 1) := by decide +kernel
theorem dX12_later_91 : decode cX12_later 91 = .ok (.istore 7, 2) := by decide +kernel
theorem dX12_later_93 : decode cX12_later 93 = .ok (.iload 7, 2) := by decide +kernel
theorem dX12_later_95 : decode cX12_later 95 = .ok (.aload_n 0, 1) := by decide +kernel
theorem dX12_later_96 : decode cX12_later 96 = .ok (.getfield 398, 3) := by decide +kernel
theorem dX12_later_99 : decode cX12_later 99 = .ok (.if_icmp .ge 79, 3) := by decide +kernel
theorem dX12_later_102 : decode cX12_later 102 = .ok (.iconst 0, 1) := by decide +kernel
theorem dX12_later_103 : decode cX12_later 103 = .ok (.istore 8, 2) := by decide +kernel
theorem dX12_later_105 : decode cX12_later 105 = .ok (.iload 8, 2) := by decide +kernel
theorem dX12_later_107 : decode cX12_later 107 = .ok (.aload_n 0, 1) := by decide +kernel
theorem dX12_later_108 : decode cX12_later 108 = .ok (.getfield 398, 3) := by decide +kernel
theorem dX12_later_111 : decode cX12_later 111 = .ok (.if_icmp .ge 61, 3) := by decide +kernel
theorem dX12_later_114 : decode cX12_later 114 = .ok (.aload_n 0, 1) := by decide +kernel
theorem dX12_later_115 : decode cX12_later 115 = .ok (.getfield 90, 3) := by decide +kernel
theorem dX12_later_118 : decode cX12_later 118 = .ok (.iload 7, 2) := by decide +kernel
theorem dX12_later_120 : decode cX12_later 120 = .ok (.iaload, 1) := by decide +kernel
theorem dX12_later_121 : decode cX12_later 121 = .ok (.iload_n 1, 1) := by decide +kernel
theorem dX12_later_122 : decode cX12_later 122 = .ok (.if_icmp .ne 44, 3) := by decide +kernel
theorem dX12_later_125 : decode cX12_later 125 = .ok (.aload_n 0, 1) := by decide +kernel
theorem dX12_later_126 : decode cX12_later 126 = .ok (.getfield 90, 3) := by decide +kernel
theorem dX12_later_129 : decode cX12_later 129 = .ok (.iload 8, 2) := by decide +kernel
theorem dX12_later_131 : decode cX12_later 131 = .ok (.iaload, 1) := by decide +kernel
theorem dX12_later_132 : decode cX12_later 132 = .ok (.iload_n 2, 1) := by decide +kernel
theorem dX12_later_133 : decode cX12_later 133 = .ok (.if_icmp .ne 33, 3) := by decide +kernel
theorem dX12_later_136 : decode cX12_later 136 = .ok (.aload_n 0, 1) := by decide +kernel
theorem dX12_later_137 : decode cX12_later 137 = .ok (.iload 7, 2) := by decide +kernel
theorem dX12_later_139 : decode cX12_later 139 = .ok (.iload 8, 2) := by decide +kernel
theorem dX12_later_141 : decode cX12_later 141 = .ok (.invokevirtual 410, 3) := by decide +kernel
theorem dX12_later_144 : decode cX12_later 144 = .ok (.ifCond .eq 22, 3) := by decide +kernel
theorem dX12_later_147 : decode cX12_later 147 = .ok (.aload_n 0, 1) := by decide +kernel
theorem dX12_later_148 : decode cX12_later 148 = .ok (.getfield 162, 3) := by decide +kernel
theorem dX12_later_151 : decode cX12_later 151 = .ok (.iload 7, 2) := by decide +kernel
theorem dX12_later_153 : decode cX12_later 153 = .ok (.iconst 1, 1) := by decide +kernel
theorem dX12_later_154 : decode cX12_later 154 = .ok (.bastore, 1) := by decide +kernel
theorem dX12_later_155 : decode cX12_later 155 = .ok (.aload_n 0, 1) := by decide +kernel
theorem dX12_later_156 : decode cX12_later 156 = .ok (.getfield 162, 3) := by decide +kernel
theorem dX12_later_159 : decode cX12_later 159 = .ok (.iload 8, 2) := by decide +kernel
theorem dX12_later_161 : decode cX12_later 161 = .ok (.iconst 1, 1) := by decide +kernel
theorem dX12_later_162 : decode cX12_later 162 = .ok (.bastore, 1) := by decide +kernel
theorem dX12_later_163 : decode cX12_later 163 = .ok (.iinc 6 1, 3) := by decide +kernel
theorem dX12_later_166 : decode cX12_later 166 = .ok (.iinc 8 1, 3) := by decide +kernel
theorem dX12_later_169 : decode cX12_later 169 = .ok (.goto (-64), 3) := by decide +kernel
theorem dX12_later_172 : decode cX12_later 172 = .ok (.iinc 7 1, 3) := by decide +kernel
theorem dX12_later_175 : decode cX12_later 175 = .ok (.goto (-82), 3) := by decide +kernel
theorem dX12_later_178 : decode cX12_later 178 = .ok (.iload 6, 2) := by decide +kernel
theorem dX12_later_180 : decode cX12_later 180 = .ok (.ifCond .ne 6, 3) := by decide +kernel
theorem dX12_later_183 : decode cX12_later 183 = .ok (.bipush (-2), 2) := by decide +kernel
theorem dX12_later_185 : decode cX12_later 185 = .ok (.ireturn, 1) := by decide +kernel
theorem dX12_later_186 : decode cX12_later 186 = .ok (.aload_n 0, 1) := by decide +kernel
theorem dX12_later_187 : decode cX12_later 187 = .ok (.iload_n 3, 1) := by decide +kernel
theorem dX12_later_188 : decode cX12_later 188 = .ok (.i2l, 1) := by decide +kernel
theorem dX12_later_189 : decode cX12_later 189 = .ok (.putfield 481, 3) := by decide +kernel
theorem dX12_later_192 : decode cX12_later 192 = .ok (.iconst 0, 1) := by decide +kernel
theorem dX12_later_193 : decode cX12_later 193 = .ok (.istore 7, 2) := by decide +kernel
theorem dX12_later_195 : decode cX12_later 195 = .ok (.iconst 0, 1) := by decide +kernel
theorem dX12_later_196 : decode cX12_later 196 = .ok (.istore 8, 2) := by decide +kernel
theorem dX12_later_198 : decode cX12_later 198 = .ok (.iload 8, 2) := by decide +kernel
theorem dX12_later_200 : decode cX12_later 200 = .ok (.iload 5, 2) := by decide +kernel
theorem dX12_later_202 : decode cX12_later 202 = .ok (.if_icmp .ge 150, 3) := by decide +kernel
theorem dX12_later_205 : decode cX12_later 205 = .ok (.aload_n 0, 1) := by decide +kernel
theorem dX12_later_206 : decode cX12_later 206 = .ok (.iload 4, 2) := by decide +kernel
theorem dX12_later_208 : decode cX12_later 208 = .ok (.invokevirtual 485, 3) := by decide +kernel
theorem dX12_later_211 : decode cX12_later 211 = .ok (.lconst 0, 1) := by decide +kernel
theorem dX12_later_212 : decode cX12_later 212 = .ok (.lstore 9, 2) := by decide +kernel
theorem dX12_later_214 : decode cX12_later 214 = .ok (.iconst 0, 1) := by decide +kernel
theorem dX12_later_215 : decode cX12_later 215 = .ok (.istore 11, 2) := by decide +kernel
theorem dX12_later_217 : decode cX12_later 217 = .ok (.iload 11, 2) := by decide +kernel
theorem dX12_later_219 : decode cX12_later 219 = .ok (.aload_n 0, 1) := by decide +kernel
theorem dX12_later_220 : decode cX12_later 220 = .ok (.getfield 398, 3) := by decide +kernel
theorem dX12_later_223 : decode cX12_later 223 = .ok (.if_icmp .ge 100, 3) := by decide +kernel
theorem dX12_later_226 : decode cX12_later 226 = .ok (.iconst 0, 1) := by decide +kernel
theorem dX12_later_227 : decode cX12_later 227 = .ok (.istore 12, 2) := by decide +kernel
theorem dX12_later_229 : decode cX12_later 229 = .ok (.iload 12, 2) := by decide +kernel
theorem dX12_later_231 : decode cX12_later 231 = .ok (.aload_n 0, 1) := by decide +kernel
theorem dX12_later_232 : decode cX12_later 232 = .ok (.getfield 398, 3) := by decide +kernel
theorem dX12_later_235 : decode cX12_later 235 = .ok (.if_icmp .ge 82, 3) := by decide +kernel
theorem dX12_later_238 : decode cX12_later 238 = .ok (.lload 9, 2) := by decide +kernel
theorem dX12_later_240 : decode cX12_later 240 = .ok (.aload_n 0, 1) := by decide +kernel
theorem dX12_later_241 : decode cX12_later 241 = .ok (.getfield 90, 3) := by decide +kernel
theorem dX12_later_244 : decode cX12_later 244 = .ok (.iload 11, 2) := by decide +kernel
theorem dX12_later_246 : decode cX12_later 246 = .ok (.iaload, 1) := by decide +kernel
theorem dX12_later_247 : decode cX12_later 247 = .ok (.iload_n 1, 1) := by decide +kernel
theorem dX12_later_248 : decode cX12_later 248 = .ok (.if_icmp .ne 59, 3) := by decide +kernel
theorem dX12_later_251 : decode cX12_later 251 = .ok (.aload_n 0, 1) := by decide +kernel
theorem dX12_later_252 : decode cX12_later 252 = .ok (.getfield 90, 3) := by decide +kernel
theorem dX12_later_255 : decode cX12_later 255 = .ok (.iload 12, 2) := by decide +kernel
theorem dX12_later_257 : decode cX12_later 257 = .ok (.iaload, 1) := by decide +kernel
theorem dX12_later_258 : decode cX12_later 258 = .ok (.iload_n 2, 1) := by decide +kernel
theorem dX12_later_259 : decode cX12_later 259 = .ok (.if_icmp .ne 48, 3) := by decide +kernel
theorem dX12_later_262 : decode cX12_later 262 = .ok (.aload_n 0, 1) := by decide +kernel
theorem dX12_later_263 : decode cX12_later 263 = .ok (.iload 11, 2) := by decide +kernel
theorem dX12_later_265 : decode cX12_later 265 = .ok (.iload 12, 2) := by decide +kernel
theorem dX12_later_267 : decode cX12_later 267 = .ok (.invokevirtual 410, 3) := by decide +kernel
theorem dX12_later_270 : decode cX12_later 270 = .ok (.ifCond .eq 37, 3) := by decide +kernel
theorem dX12_later_273 : decode cX12_later 273 = .ok (.aload_n 0, 1) := by decide +kernel
theorem dX12_later_274 : decode cX12_later 274 = .ok (.getfield 111, 3) := by decide +kernel
theorem dX12_later_277 : decode cX12_later 277 = .ok (.iload 11, 2) := by decide +kernel
theorem dX12_later_279 : decode cX12_later 279 = .ok (.laload, 1) := by decide +kernel
theorem dX12_later_280 : decode cX12_later 280 = .ok (.aload_n 0, 1) := by decide +kernel
theorem dX12_later_281 : decode cX12_later 281 = .ok (.getfield 102, 3) := by decide +kernel
theorem dX12_later_284 : decode cX12_later 284 = .ok (.iload 11, 2) := by decide +kernel
theorem dX12_later_286 : decode cX12_later 286 = .ok (.iaload, 1) := by decide +kernel
theorem dX12_later_287 : decode cX12_later 287 = .ok (.aload_n 0, 1) := by decide +kernel
theorem dX12_later_288 : decode cX12_later 288 = .ok (.getfield 111, 3) := by decide +kernel
theorem dX12_later_291 : decode cX12_later 291 = .ok (.iload 12, 2) := by decide +kernel
theorem dX12_later_293 : decode cX12_later 293 = .ok (.laload, 1) := by decide +kernel
theorem dX12_later_294 : decode cX12_later 294 = .ok (.aload_n 0, 1) := by decide +kernel
theorem dX12_later_295 : decode cX12_later 295 = .ok (.getfield 102, 3) := by decide +kernel
theorem dX12_later_298 : decode cX12_later 298 = .ok (.iload 12, 2) := by decide +kernel
theorem dX12_later_300 : decode cX12_later 300 = .ok (.iaload, 1) := by decide +kernel
theorem dX12_later_301 : decode cX12_later 301 = .ok (.invokestatic 413, 3) := by decide +kernel
theorem dX12_later_304 : decode cX12_later 304 = .ok (.goto 4, 3) := by decide +kernel
theorem dX12_later_307 : decode cX12_later 307 = .ok (.lconst 0, 1) := by decide +kernel
theorem dX12_later_308 : decode cX12_later 308 = .ok (.ladd, 1) := by decide +kernel
theorem dX12_later_309 : decode cX12_later 309 = .ok (.lstore 9, 2) := by decide +kernel
theorem dX12_later_311 : decode cX12_later 311 = .ok (.iinc 12 1, 3) := by decide +kernel
theorem dX12_later_314 : decode cX12_later 314 = .ok (.goto (-85), 3) := by decide +kernel
theorem dX12_later_317 : decode cX12_later 317 = .ok (.iinc 11 1, 3) := by decide +kernel
theorem dX12_later_320 : decode cX12_later 320 = .ok (.goto (-103), 3) := by decide +kernel
theorem dX12_later_323 : decode cX12_later 323 = .ok (.iload 7, 2) := by decide +kernel
theorem dX12_later_325 : decode cX12_later 325 = .ok (.lload 9, 2) := by decide +kernel
theorem dX12_later_327 : decode cX12_later 327 = .ok (.iload 6, 2) := by decide +kernel
theorem dX12_later_329 : decode cX12_later 329 = .ok (.i2l, 1) := by decide +kernel
theorem dX12_later_330 : decode cX12_later 330 = .ok (.invokestatic 403, 3) := by decide +kernel
theorem dX12_later_333 : decode cX12_later 333 = .ok (.lconst 0, 1) := by decide +kernel
theorem dX12_later_334 : decode cX12_later 334 = .ok (.lcmp, 1) := by decide +kernel
theorem dX12_later_335 : decode cX12_later 335 = .ok (.ifCond .le 7, 3) := by decide +kernel
theorem dX12_later_338 : decode cX12_later 338 = .ok (.iconst 1, 1) := by decide +kernel
theorem dX12_later_339 : decode cX12_later 339 = .ok (.goto 4, 3) := by decide +kernel
theorem dX12_later_342 : decode cX12_later 342 = .ok (.iconst 0, 1) := by decide +kernel
theorem dX12_later_343 : decode cX12_later 343 = .ok (.iadd, 1) := by decide +kernel
theorem dX12_later_344 : decode cX12_later 344 = .ok (.istore 7, 2) := by decide +kernel
theorem dX12_later_346 : decode cX12_later 346 = .ok (.iinc 8 1, 3) := by decide +kernel
theorem dX12_later_349 : decode cX12_later 349 = .ok (.goto (-151), 3) := by decide +kernel
theorem dX12_later_352 : decode cX12_later 352 = .ok (.iload 7, 2) := by decide +kernel
theorem dX12_later_354 : decode cX12_later 354 = .ok (.ireturn, 1) := by decide +kernel
set_option maxRecDepth 100000 in
set_option maxHeartbeats 4000000 in
theorem l1_X12_later {h : ai_H} {T : Md} {ia ib q sl nw : Nat} {v3 : Int32} {u8 u9 u10 u11 u12 : Value} {Q : Option Value → ai_H → Prop} (hq4 : q ≤ 400) (ec : T.1 40 = nI q) (kx : ∀ (W : Md) (g : ai_H), md_ext h g → md_at g W → lq T W → (∀ t, t < q → W.2.2.1 66 t = 0) → ai_W MX12_later 90 [.ref 307, .int (nI ia), .int (nI ib), .int v3, .int (nI sl), .int (nI nw), .int 0, .int (nI q), u8, u9, u10, u11, u12] [] g Q) : ∀ (k i : Nat) (W : Md) (g : ai_H), i ≤ q → q + 1 ≤ i + k → md_ext h g → md_at g W → lq T W → (∀ t, t < i → W.2.2.1 66 t = 0) → ai_W MX12_later 67 [.ref 307, .int (nI ia), .int (nI ib), .int v3, .int (nI sl), .int (nI nw), .int 0, .int (nI i), u8, u9, u10, u11, u12] [] g Q := by
  intro k
  induction k with
  | zero => intro i W g h1 h2; exact absurd h2 (by omega)
  | succ k ih =>
    intro i W g hi0 him E0 hmd hl hv
    refine wq (fun _ _ kk => rs_iload (pc := 67) dX12_later_67 rfl kk) ?_
    refine wq (fun _ _ kk => rs_aload_n (pc := 69) dX12_later_69 rfl kk) ?_
    refine wq (fun _ _ kk => rs_getf (pc := 70) dX12_later_70 fX12_398 (md_lt hmd (by decide)) hmd.2.1 rfl kk) ?_
    rw [hl.1, ec]
    refine wq_br (fun _ _ kt kf => rs_icmp_ge (tgt := 90) (pc := 73) dX12_later_73 rfl kt kf) (fun c_73 => ?_) (fun c_73 => ?_)
    · have hie : q = i := (lp_exit rfl (by omega) hi0 c_73).symm
      subst hie
      exact kx W g E0 hmd hl hv
    · have hi : i < q := lp_go rfl (by omega) c_73
      refine wq (fun _ _ kk => rs_aload_n (pc := 76) dX12_later_76 rfl kk) ?_
      refine wq (fun _ _ kk => rs_getf (pc := 77) dX12_later_77 fX12_162 (md_lt hmd (by decide)) hmd.2.1 rfl kk) ?_
      refine wq (fun _ _ kk => rs_iload (pc := 80) dX12_later_80 rfl kk) ?_
      refine wq (fun _ _ kk => rs_iconst (v := 0) (pc := 82) dX12_later_82 rfl kk) ?_
      refine wq (fun _ _ kk => rs_zast (pc := 83) dX12_later_83 (md_lt hmd (by decide)) (md_geti (d := 50) (k := 66) (kd := 2) (n := 400) rfl (by decide) hmd) (vp_in_nI (n := i) (N := 400) (by omega) (by decide)) kk) ?_
      refine wq_gen (fun h_1 e_1 => ?_)
      obtain ⟨m_1, s_1, g_1, o_1⟩ := ai_e1 e_1
      replace hmd := md_at_ai (d := 50) rfl (by decide) hmd m_1 g_1 o_1
      have E_1 := (E0).trans (md_ext_of m_1 s_1 o_1 (by decide))
      refine wq (fun _ _ kk => wk_iinc7 (v := nI (i + 1)) (pc := 84) dX12_later_84 (by decide) rfl (nI_1 i) kk) ?_
      refine wq (fun _ _ kk => rs_goto (tgt := 67) (pc := 87) dX12_later_87 rfl kk) ?_
      rw [nI_clamp (show i < 2 ^ 31 by omega)] at hmd
      refine ih (i + 1) _ _ (by omega) (by omega) (E_1) hmd hl.ai (fun t ht => ?_)
      by_cases e : t = i
      · subst e; exact if_pos rfl
      · refine Eq.trans (if_neg e) (hv t (by omega))
set_option maxRecDepth 100000 in
set_option maxHeartbeats 4000000 in
theorem l2_X12_later {h : ai_H} {T : Md} {ia ib q sl nw i : Nat} {v3 : Int32} {u9 u10 u11 u12 : Value} {Q : Option Value → ai_H → Prop} (hq4 : q ≤ 400) (ec : T.1 40 = nI q) (hia : ia < 16) (hib : ib < 16) (hi : i < q) (kx : ∀ (W : Md) (g : ai_H), md_ext h g → md_at g W → lq T W → mrk T q (ia * 16 + ib) (i * q + q) (W.2.2.1 66) → ai_W MX12_later 172 [.ref 307, .int (nI ia), .int (nI ib), .int v3, .int (nI sl), .int (nI nw), .int (nI (cN (mp T q (ia * 16 + ib)) (i * q + q))), .int (nI i), .int (nI q), u9, u10, u11, u12] [] g Q) : ∀ (k j : Nat) (W : Md) (g : ai_H), j ≤ q → q + 1 ≤ j + k → md_ext h g → md_at g W → lq T W → mrk T q (ia * 16 + ib) (i * q + j) (W.2.2.1 66) → ai_W MX12_later 105 [.ref 307, .int (nI ia), .int (nI ib), .int v3, .int (nI sl), .int (nI nw), .int (nI (cN (mp T q (ia * 16 + ib)) (i * q + j))), .int (nI i), .int (nI j), u9, u10, u11, u12] [] g Q := by
  have e1 : (ia * 16 + ib) / 16 = ia := by omega
  have e2 : (ia * 16 + ib) % 16 = ib := by omega
  intro k
  induction k with
  | zero => intro j W g h1 h2; exact absurd h2 (by omega)
  | succ k ih =>
    intro j W g hj0 him E0 hmd hl hm
    refine wq (fun _ _ kk => rs_iload (pc := 105) dX12_later_105 rfl kk) ?_
    refine wq (fun _ _ kk => rs_aload_n (pc := 107) dX12_later_107 rfl kk) ?_
    refine wq (fun _ _ kk => rs_getf (pc := 108) dX12_later_108 fX12_398 (md_lt hmd (by decide)) hmd.2.1 rfl kk) ?_
    rw [hl.1, ec]
    refine wq_br (fun _ _ kt kf => rs_icmp_ge (tgt := 172) (pc := 111) dX12_later_111 rfl kt kf) (fun c_111 => ?_) (fun c_111 => ?_)
    · have hje : q = j := (lp_exit rfl (by omega) hj0 c_111).symm
      subst hje
      exact kx W g E0 hmd hl hm
    · have hj : j < q := lp_go rfl (by omega) c_111
      obtain ⟨p1, p2⟩ := pair_mk (i := i) hj
      refine wq (fun _ _ kk => rs_aload_n (pc := 114) dX12_later_114 rfl kk) ?_
      refine wq (fun _ _ kk => rs_getf (pc := 115) dX12_later_115 fX12_90 (md_lt hmd (by decide)) hmd.2.1 rfl kk) ?_
      refine wq (fun _ _ kk => rs_iload (pc := 118) dX12_later_118 rfl kk) ?_
      refine wq (fun _ _ kk => rs_iald (pc := 120) dX12_later_120 (md_lt hmd (by decide)) (md_geti (d := 26) (k := 41) (kd := 0) (n := 400) rfl (by decide) hmd) (vp_in_nI (n := i) (N := 400) (by omega) (by decide)) kk) ?_
      rw [nI_clamp (show i < 2 ^ 31 by omega), hl.2 41 (by decide)]
      refine wq (fun _ _ kk => rs_iload_n (pc := 121) dX12_later_121 rfl kk) ?_
      refine wq_bn (fun _ _ kt kf => rs_icmp_ne (tgt := 166) (pc := 122) dX12_later_122 rfl kt kf) (fun c_122 => ?_) (fun c_122 => ?_)
      · have hno : ¬ mp T q (ia * 16 + ib) (i * q + j) = true := fun y => by
          have y := of_decide_eq_true y
          rw [p1, p2, e1, e2] at y
          exact c_122 y.2.1
        refine wq (fun _ _ kk => wk_iinc8 (v := nI (j + 1)) (pc := 166) dX12_later_166 (by decide) rfl (nI_1 j) kk) ?_
        refine wq (fun _ _ kk => rs_goto (tgt := 105) (pc := 169) dX12_later_169 rfl kk) ?_
        have e := ih (j + 1) W g (by omega) (by omega) E0 hmd hl (mrk_n hm hno)
        rw [← Nat.add_assoc, cN, if_neg hno] at e
        exact e
      · refine wq (fun _ _ kk => rs_aload_n (pc := 125) dX12_later_125 rfl kk) ?_
        refine wq (fun _ _ kk => rs_getf (pc := 126) dX12_later_126 fX12_90 (md_lt hmd (by decide)) hmd.2.1 rfl kk) ?_
        refine wq (fun _ _ kk => rs_iload (pc := 129) dX12_later_129 rfl kk) ?_
        refine wq (fun _ _ kk => rs_iald (pc := 131) dX12_later_131 (md_lt hmd (by decide)) (md_geti (d := 26) (k := 41) (kd := 0) (n := 400) rfl (by decide) hmd) (vp_in_nI (n := j) (N := 400) (by omega) (by decide)) kk) ?_
        rw [nI_clamp (show j < 2 ^ 31 by omega), hl.2 41 (by decide)]
        refine wq (fun _ _ kk => rs_iload_n (pc := 132) dX12_later_132 rfl kk) ?_
        refine wq_bn (fun _ _ kt kf => rs_icmp_ne (tgt := 166) (pc := 133) dX12_later_133 rfl kt kf) (fun c_133 => ?_) (fun c_133 => ?_)
        · have hno : ¬ mp T q (ia * 16 + ib) (i * q + j) = true := fun y => by
            have y := of_decide_eq_true y
            rw [p1, p2, e1, e2] at y
            exact c_133 y.2.2
          refine wq (fun _ _ kk => wk_iinc8 (v := nI (j + 1)) (pc := 166) dX12_later_166 (by decide) rfl (nI_1 j) kk) ?_
          refine wq (fun _ _ kk => rs_goto (tgt := 105) (pc := 169) dX12_later_169 rfl kk) ?_
          have e := ih (j + 1) W g (by omega) (by omega) E0 hmd hl (mrk_n hm hno)
          rw [← Nat.add_assoc, cN, if_neg hno] at e
          exact e
        · refine wq (fun _ _ kk => rs_aload_n (pc := 136) dX12_later_136 rfl kk) ?_
          refine wq (fun _ _ kk => rs_iload (pc := 137) dX12_later_137 rfl kk) ?_
          refine wq (fun _ _ kk => rs_iload (pc := 139) dX12_later_139 rfl kk) ?_
          refine wq (fun _ _ kk => rs_callV (as := [_, _]) (pc := 141) dX12_later_141 mk_X12_meet mlX12_410 in_X12_meet se_X12_meet rfl (md_lt hmd (by decide)) hmd.2.1 rfl rfl (Nat.le_of_ble_eq_true rfl) (c_X12_meet hmd (show i < 400 by omega) (show j < 400 by omega)) kk) ?_
          rw [show ms_meet W i j = ms_meet T i j from by unfold ms_meet; rw [hl.2 41 (by decide), hl.2 42 (by decide), hl.2 43 (by decide), hl.2 44 (by decide)]]
          refine wq_br (fun _ _ kt kf => rs_if_eq (tgt := 166) (pc := 144) dX12_later_144 rfl kt kf) (fun c_144 => ?_) (fun c_144 => ?_)
          · have hno : ¬ mp T q (ia * 16 + ib) (i * q + j) = true := fun y => by
              have y := of_decide_eq_true y
              rw [p1, p2, e1, e2] at y
              rw [y.1] at c_144; exact absurd c_144 (by decide)
            refine wq (fun _ _ kk => wk_iinc8 (v := nI (j + 1)) (pc := 166) dX12_later_166 (by decide) rfl (nI_1 j) kk) ?_
            refine wq (fun _ _ kk => rs_goto (tgt := 105) (pc := 169) dX12_later_169 rfl kk) ?_
            have e := ih (j + 1) W g (by omega) (by omega) E0 hmd hl (mrk_n hm hno)
            rw [← Nat.add_assoc, cN, if_neg hno] at e
            exact e
          · have hyes : mp T q (ia * 16 + ib) (i * q + j) = true := by
              refine decide_eq_true ?_
              rw [p1, p2, e1, e2]
              refine ⟨?_, c_122, c_133⟩
              cases hb : ms_meet T i j with
              | true => rfl
              | false => rw [hb] at c_144; exact absurd rfl c_144
            refine wq (fun _ _ kk => rs_aload_n (pc := 147) dX12_later_147 rfl kk) ?_
            refine wq (fun _ _ kk => rs_getf (pc := 148) dX12_later_148 fX12_162 (md_lt hmd (by decide)) hmd.2.1 rfl kk) ?_
            refine wq (fun _ _ kk => rs_iload (pc := 151) dX12_later_151 rfl kk) ?_
            refine wq (fun _ _ kk => rs_iconst (v := 1) (pc := 153) dX12_later_153 rfl kk) ?_
            refine wq (fun _ _ kk => rs_zast (pc := 154) dX12_later_154 (md_lt hmd (by decide)) (md_geti (d := 50) (k := 66) (kd := 2) (n := 400) rfl (by decide) hmd) (vp_in_nI (n := i) (N := 400) (by omega) (by decide)) kk) ?_
            refine wq_gen (fun h_1 e_1 => ?_)
            obtain ⟨m_1, s_1, g_1, o_1⟩ := ai_e1 e_1
            replace hmd := md_at_ai (d := 50) rfl (by decide) hmd m_1 g_1 o_1
            have E_1 := (E0).trans (md_ext_of m_1 s_1 o_1 (by decide))
            refine wq (fun _ _ kk => rs_aload_n (pc := 155) dX12_later_155 rfl kk) ?_
            refine wq (fun _ _ kk => rs_getf (pc := 156) dX12_later_156 fX12_162 (md_lt hmd (by decide)) hmd.2.1 rfl kk) ?_
            refine wq (fun _ _ kk => rs_iload (pc := 159) dX12_later_159 rfl kk) ?_
            refine wq (fun _ _ kk => rs_iconst (v := 1) (pc := 161) dX12_later_161 rfl kk) ?_
            refine wq (fun _ _ kk => rs_zast (pc := 162) dX12_later_162 (md_lt hmd (by decide)) (md_geti (d := 50) (k := 66) (kd := 2) (n := 400) rfl (by decide) hmd) (vp_in_nI (n := j) (N := 400) (by omega) (by decide)) kk) ?_
            refine wq_gen (fun h_2 e_2 => ?_)
            obtain ⟨m_2, s_2, g_2, o_2⟩ := ai_e1 e_2
            replace hmd := md_at_ai (d := 50) rfl (by decide) hmd m_2 g_2 o_2
            have E_2 := (E_1).trans (md_ext_of m_2 s_2 o_2 (by decide))
            refine wq (fun _ _ kk => wk_iinc6 (v := nI (cN (mp T q (ia * 16 + ib)) (i * q + j) + 1)) (pc := 163) dX12_later_163 (by decide) rfl (nI_1 _) kk) ?_
            refine wq (fun _ _ kk => wk_iinc8 (v := nI (j + 1)) (pc := 166) dX12_later_166 (by decide) rfl (nI_1 j) kk) ?_
            refine wq (fun _ _ kk => rs_goto (tgt := 105) (pc := 169) dX12_later_169 rfl kk) ?_
            rw [nI_clamp (show i < 2 ^ 31 by omega), nI_clamp (show j < 2 ^ 31 by omega)] at hmd
            have e := ih (j + 1) _ _ (by omega) (by omega) (E_2) hmd hl.ai.ai (by rw [← Nat.add_assoc]; exact mrk_y hm hj hyes (fun c => rfl))
            rw [← Nat.add_assoc, cN, if_pos hyes] at e
            exact e
set_option maxRecDepth 100000 in
set_option maxHeartbeats 4000000 in
theorem l3_X12_later {h : ai_H} {T : Md} {ia ib q sl nw : Nat} {v3 : Int32} {u9 u10 u11 u12 : Value} {Q : Option Value → ai_H → Prop} (hq4 : q ≤ 400) (ec : T.1 40 = nI q) (hia : ia < 16) (hib : ib < 16) (kx : ∀ (u8 : Value) (W : Md) (g : ai_H), md_ext h g → md_at g W → lq T W → mrk T q (ia * 16 + ib) (q * q) (W.2.2.1 66) → ai_W MX12_later 178 [.ref 307, .int (nI ia), .int (nI ib), .int v3, .int (nI sl), .int (nI nw), .int (nI (cN (mp T q (ia * 16 + ib)) (q * q))), .int (nI q), u8, u9, u10, u11, u12] [] g Q) : ∀ (k i : Nat) (u8 : Value) (W : Md) (g : ai_H), i ≤ q → q + 1 ≤ i + k → md_ext h g → md_at g W → lq T W → mrk T q (ia * 16 + ib) (i * q) (W.2.2.1 66) → ai_W MX12_later 93 [.ref 307, .int (nI ia), .int (nI ib), .int v3, .int (nI sl), .int (nI nw), .int (nI (cN (mp T q (ia * 16 + ib)) (i * q))), .int (nI i), u8, u9, u10, u11, u12] [] g Q := by
  intro k
  induction k with
  | zero => intro i u8 W g h1 h2; exact absurd h2 (by omega)
  | succ k ih =>
    intro i u8 W g hi0 him E0 hmd hl hm
    refine wq (fun _ _ kk => rs_iload (pc := 93) dX12_later_93 rfl kk) ?_
    refine wq (fun _ _ kk => rs_aload_n (pc := 95) dX12_later_95 rfl kk) ?_
    refine wq (fun _ _ kk => rs_getf (pc := 96) dX12_later_96 fX12_398 (md_lt hmd (by decide)) hmd.2.1 rfl kk) ?_
    rw [hl.1, ec]
    refine wq_br (fun _ _ kt kf => rs_icmp_ge (tgt := 178) (pc := 99) dX12_later_99 rfl kt kf) (fun c_99 => ?_) (fun c_99 => ?_)
    · have hie : q = i := (lp_exit rfl (by omega) hi0 c_99).symm
      subst hie
      exact kx _ W g E0 hmd hl hm
    · have hi : i < q := lp_go rfl (by omega) c_99
      refine wq (fun _ _ kk => rs_iconst (v := 0) (pc := 102) dX12_later_102 rfl kk) ?_
      refine wq (fun _ _ kk => wk_ist8 (pc := 103) dX12_later_103 (by decide) rfl kk) ?_
      refine l2_X12_later (h := h) (T := T) hq4 ec hia hib hi ?_ (q + 1) 0 W g (by omega) (by omega) E0 hmd hl hm
      clear E0 hmd hl hm
      intro W g E0 hmd hl hm
      refine wq (fun _ _ kk => wk_iinc7 (v := nI (i + 1)) (pc := 172) dX12_later_172 (by decide) rfl (nI_1 i) kk) ?_
      refine wq (fun _ _ kk => rs_goto (tgt := 93) (pc := 175) dX12_later_175 rfl kk) ?_
      have e := ih (i + 1) (.int (nI q)) W g (by omega) (by omega) E0 hmd hl (by rw [Nat.add_mul, Nat.one_mul]; exact hm)
      rw [Nat.add_mul, Nat.one_mul] at e
      exact e
set_option maxRecDepth 100000 in
set_option maxHeartbeats 4000000 in
theorem l4_X12_later {h : ai_H} {T W : Md} {B : Bk} {nl ia ib q sl nw : Nat} {x : Int} {Ls : Nat → List Cl} {v3 wk v6 v7 v8 : Int32} (hok : bk_ok B nl) (hS : SI B wk T (nR B) (nR B) q) (hq4 : q ≤ 400) (ec : T.1 40 = nI q) (hia : ia < 16) (hib : ib < 16) (hsl : sl ≤ 99) (hmd : md_at h W) (hl : lq T W) (hM : MSm B Ls wk (nI ia) (nI ib) sl x T q (nR B) W) {i : Nat} (hi : i < q) {Q : Option Value → ai_H → Prop} (kx : ai_W MX12_later 317 [.ref 307, .int (nI ia), .int (nI ib), .int v3, .int (nI sl), .int (nI nw), .int v6, .int v7, .int v8, .long (aL (zsum ((lst (mp T q (ia * 16 + ib)) (fun t => kM T (t / q)) (i * q + q)).map (fKo B Ls wk (nI ia) (nI ib) sl x)))), .float 0, .int (nI i), .int (nI q)] [] h Q) : ∀ (k j : Nat), j ≤ q → q + 1 ≤ j + k → ai_W MX12_later 229 [.ref 307, .int (nI ia), .int (nI ib), .int v3, .int (nI sl), .int (nI nw), .int v6, .int v7, .int v8, .long (aL (zsum ((lst (mp T q (ia * 16 + ib)) (fun t => kM T (t / q)) (i * q + j)).map (fKo B Ls wk (nI ia) (nI ib) sl x)))), .float 0, .int (nI i), .int (nI j)] [] h Q := by
  have e1 : (ia * 16 + ib) / 16 = ia := by omega
  have e2 : (ia * 16 + ib) % 16 = ib := by omega
  have hr4 := hok.2.2.2.2.1.2.1
  intro k
  induction k with
  | zero => intro j h1 h2; exact absurd h2 (by omega)
  | succ k ih =>
    intro j hj0 him
    refine wq (fun _ _ kk => rs_iload (pc := 229) dX12_later_229 rfl kk) ?_
    refine wq (fun _ _ kk => rs_aload_n (pc := 231) dX12_later_231 rfl kk) ?_
    refine wq (fun _ _ kk => rs_getf (pc := 232) dX12_later_232 fX12_398 (md_lt hmd (by decide)) hmd.2.1 rfl kk) ?_
    rw [hl.1, ec]
    refine wq_br (fun _ _ kt kf => rs_icmp_ge (tgt := 317) (pc := 235) dX12_later_235 rfl kt kf) (fun c_235 => ?_) (fun c_235 => ?_)
    · have hje : q = j := (lp_exit rfl (by omega) hj0 c_235).symm
      subst hje
      exact kx
    · have hj : j < q := lp_go rfl (by omega) c_235
      obtain ⟨p1, p2⟩ := pair_mk (i := i) hj
      refine wq (fun _ _ kk => rs_lload (pc := 238) dX12_later_238 rfl kk) ?_
      refine wq (fun _ _ kk => rs_aload_n (pc := 240) dX12_later_240 rfl kk) ?_
      refine wq (fun _ _ kk => rs_getf (pc := 241) dX12_later_241 fX12_90 (md_lt hmd (by decide)) hmd.2.1 rfl kk) ?_
      refine wq (fun _ _ kk => rs_iload (pc := 244) dX12_later_244 rfl kk) ?_
      refine wq (fun _ _ kk => rs_iald (pc := 246) dX12_later_246 (md_lt hmd (by decide)) (md_geti (d := 26) (k := 41) (kd := 0) (n := 400) rfl (by decide) hmd) (vp_in_nI (n := i) (N := 400) (by omega) (by decide)) kk) ?_
      rw [nI_clamp (show i < 2 ^ 31 by omega), hl.2 41 (by decide)]
      refine wq (fun _ _ kk => rs_iload_n (pc := 247) dX12_later_247 rfl kk) ?_
      refine wq_bn (fun _ _ kt kf => rs_icmp_ne (tgt := 307) (pc := 248) dX12_later_248 rfl kt kf) (fun c_248 => ?_) (fun c_248 => ?_)
      · have hno : ¬ mp T q (ia * 16 + ib) (i * q + j) = true := fun y => by
          have y := of_decide_eq_true y
          rw [p1, p2, e1, e2] at y
          exact c_248 y.2.1
        refine wq (fun _ _ kk => rs_lconst (v := 0) (pc := 307) dX12_later_307 rfl kk) ?_
        refine wq (fun _ _ kk => rs_ladd (pc := 308) dX12_later_308 kk) ?_
        try rw [Int64.add_zero]
        refine wq (fun _ _ kk => wk_lst9 (pc := 309) dX12_later_309 (by decide) rfl kk) ?_
        refine wq (fun _ _ kk => wk_iinc12 (v := nI (j + 1)) (pc := 311) dX12_later_311 (by decide) rfl (nI_1 j) kk) ?_
        refine wq (fun _ _ kk => rs_goto (tgt := 229) (pc := 314) dX12_later_314 rfl kk) ?_
        have e := ih (j + 1) (by omega) (by omega)
        first
        | (rw [← Nat.add_assoc, lst, if_neg hno] at e; exact e)
        | (rw [← Nat.add_assoc, lst, if_pos hyes, List.map_cons, zsum_cons, p1, Int.add_comm] at e
           rw [aL_add]
           exact e)
      · refine wq (fun _ _ kk => rs_aload_n (pc := 251) dX12_later_251 rfl kk) ?_
        refine wq (fun _ _ kk => rs_getf (pc := 252) dX12_later_252 fX12_90 (md_lt hmd (by decide)) hmd.2.1 rfl kk) ?_
        refine wq (fun _ _ kk => rs_iload (pc := 255) dX12_later_255 rfl kk) ?_
        refine wq (fun _ _ kk => rs_iald (pc := 257) dX12_later_257 (md_lt hmd (by decide)) (md_geti (d := 26) (k := 41) (kd := 0) (n := 400) rfl (by decide) hmd) (vp_in_nI (n := j) (N := 400) (by omega) (by decide)) kk) ?_
        rw [nI_clamp (show j < 2 ^ 31 by omega), hl.2 41 (by decide)]
        refine wq (fun _ _ kk => rs_iload_n (pc := 258) dX12_later_258 rfl kk) ?_
        refine wq_bn (fun _ _ kt kf => rs_icmp_ne (tgt := 307) (pc := 259) dX12_later_259 rfl kt kf) (fun c_259 => ?_) (fun c_259 => ?_)
        · have hno : ¬ mp T q (ia * 16 + ib) (i * q + j) = true := fun y => by
            have y := of_decide_eq_true y
            rw [p1, p2, e1, e2] at y
            exact c_259 y.2.2
          refine wq (fun _ _ kk => rs_lconst (v := 0) (pc := 307) dX12_later_307 rfl kk) ?_
          refine wq (fun _ _ kk => rs_ladd (pc := 308) dX12_later_308 kk) ?_
          try rw [Int64.add_zero]
          refine wq (fun _ _ kk => wk_lst9 (pc := 309) dX12_later_309 (by decide) rfl kk) ?_
          refine wq (fun _ _ kk => wk_iinc12 (v := nI (j + 1)) (pc := 311) dX12_later_311 (by decide) rfl (nI_1 j) kk) ?_
          refine wq (fun _ _ kk => rs_goto (tgt := 229) (pc := 314) dX12_later_314 rfl kk) ?_
          have e := ih (j + 1) (by omega) (by omega)
          first
          | (rw [← Nat.add_assoc, lst, if_neg hno] at e; exact e)
          | (rw [← Nat.add_assoc, lst, if_pos hyes, List.map_cons, zsum_cons, p1, Int.add_comm] at e
             rw [aL_add]
             exact e)
        · refine wq (fun _ _ kk => rs_aload_n (pc := 262) dX12_later_262 rfl kk) ?_
          refine wq (fun _ _ kk => rs_iload (pc := 263) dX12_later_263 rfl kk) ?_
          refine wq (fun _ _ kk => rs_iload (pc := 265) dX12_later_265 rfl kk) ?_
          refine wq (fun _ _ kk => rs_callV (as := [_, _]) (pc := 267) dX12_later_267 mk_X12_meet mlX12_410 in_X12_meet se_X12_meet rfl (md_lt hmd (by decide)) hmd.2.1 rfl rfl (Nat.le_of_ble_eq_true rfl) (c_X12_meet hmd (show i < 400 by omega) (show j < 400 by omega)) kk) ?_
          rw [show ms_meet W i j = ms_meet T i j from by unfold ms_meet; rw [hl.2 41 (by decide), hl.2 42 (by decide), hl.2 43 (by decide), hl.2 44 (by decide)]]
          refine wq_br (fun _ _ kt kf => rs_if_eq (tgt := 307) (pc := 270) dX12_later_270 rfl kt kf) (fun c_270 => ?_) (fun c_270 => ?_)
          · have hno : ¬ mp T q (ia * 16 + ib) (i * q + j) = true := fun y => by
              have y := of_decide_eq_true y
              rw [p1, p2, e1, e2] at y
              rw [y.1] at c_270; exact absurd c_270 (by decide)
            refine wq (fun _ _ kk => rs_lconst (v := 0) (pc := 307) dX12_later_307 rfl kk) ?_
            refine wq (fun _ _ kk => rs_ladd (pc := 308) dX12_later_308 kk) ?_
            try rw [Int64.add_zero]
            refine wq (fun _ _ kk => wk_lst9 (pc := 309) dX12_later_309 (by decide) rfl kk) ?_
            refine wq (fun _ _ kk => wk_iinc12 (v := nI (j + 1)) (pc := 311) dX12_later_311 (by decide) rfl (nI_1 j) kk) ?_
            refine wq (fun _ _ kk => rs_goto (tgt := 229) (pc := 314) dX12_later_314 rfl kk) ?_
            have e := ih (j + 1) (by omega) (by omega)
            first
            | (rw [← Nat.add_assoc, lst, if_neg hno] at e; exact e)
            | (rw [← Nat.add_assoc, lst, if_pos hyes, List.map_cons, zsum_cons, p1, Int.add_comm] at e
               rw [aL_add]
               exact e)
          · have hyes : mp T q (ia * 16 + ib) (i * q + j) = true := by
              refine decide_eq_true ?_
              rw [p1, p2, e1, e2]
              refine ⟨?_, c_248, c_259⟩
              cases hb : ms_meet T i j with
              | true => rfl
              | false => rw [hb] at c_270; exact absurd rfl c_270
            obtain ⟨m1, m2, -, -⟩ := mp_is hS (pair_bd hi hj) hyes
            rw [p1] at m1 m2
            rw [p2] at m2
            rw [e1, e2] at m1
            obtain ⟨n1, -⟩ := sight_num hS hi
            obtain ⟨n2, -⟩ := sight_num hS hj
            rw [c_248] at n1
            rw [c_259, m2] at n2
            have s1 := hM.2 i hi
            have s2 := hM.2 j hj
            rw [c_248] at s1
            rw [c_259, m2] at s2
            have b1 := zc_le B hok wk (kM T i) (nI ia)
            have b2 := zc_le B hok wk (kM T i) (nI ib)
            have w1 := wKo_b (B := B) (Ls := Ls) (wk := wk) (a := nI ia) (b := nI ib) (x := x) (K := kM T i) (o := nI ia) hsl hr4
            have w2 := wKo_b (B := B) (Ls := Ls) (wk := wk) (a := nI ia) (b := nI ib) (x := x) (K := kM T i) (o := nI ib) hsl hr4
            obtain ⟨-, dz, -⟩ := dif_z (na := zc B wk (kM T i) (nI ia)) (nb := zc B wk (kM T i) (nI ib)) m1.2.2.1 b1 m1.2.2.2 b2 w1.1 w1.2 w2.1 w2.2
            refine wq (fun _ _ kk => rs_aload_n (pc := 273) dX12_later_273 rfl kk) ?_
            refine wq (fun _ _ kk => rs_getf (pc := 274) dX12_later_274 fX12_111 (md_lt hmd (by decide)) hmd.2.1 rfl kk) ?_
            refine wq (fun _ _ kk => rs_iload (pc := 277) dX12_later_277 rfl kk) ?_
            refine wq (fun _ _ kk => rs_lald (pc := 279) dX12_later_279 (md_lt hmd (by decide)) (md_getl (d := 33) (k := 48) (kd := 1) (n := 400) rfl (by decide) hmd) (vp_in_nI (n := i) (N := 400) (by omega) (by decide)) kk) ?_
            rw [nI_clamp (show i < 2 ^ 31 by omega), s1]
            refine wq (fun _ _ kk => rs_aload_n (pc := 280) dX12_later_280 rfl kk) ?_
            refine wq (fun _ _ kk => rs_getf (pc := 281) dX12_later_281 fX12_102 (md_lt hmd (by decide)) hmd.2.1 rfl kk) ?_
            refine wq (fun _ _ kk => rs_iload (pc := 284) dX12_later_284 rfl kk) ?_
            refine wq (fun _ _ kk => rs_iald (pc := 286) dX12_later_286 (md_lt hmd (by decide)) (md_geti (d := 30) (k := 45) (kd := 0) (n := 400) rfl (by decide) hmd) (vp_in_nI (n := i) (N := 400) (by omega) (by decide)) kk) ?_
            rw [nI_clamp (show i < 2 ^ 31 by omega), hl.2 45 (by decide), n1]
            refine wq (fun _ _ kk => rs_aload_n (pc := 287) dX12_later_287 rfl kk) ?_
            refine wq (fun _ _ kk => rs_getf (pc := 288) dX12_later_288 fX12_111 (md_lt hmd (by decide)) hmd.2.1 rfl kk) ?_
            refine wq (fun _ _ kk => rs_iload (pc := 291) dX12_later_291 rfl kk) ?_
            refine wq (fun _ _ kk => rs_lald (pc := 293) dX12_later_293 (md_lt hmd (by decide)) (md_getl (d := 33) (k := 48) (kd := 1) (n := 400) rfl (by decide) hmd) (vp_in_nI (n := j) (N := 400) (by omega) (by decide)) kk) ?_
            rw [nI_clamp (show j < 2 ^ 31 by omega), s2]
            refine wq (fun _ _ kk => rs_aload_n (pc := 294) dX12_later_294 rfl kk) ?_
            refine wq (fun _ _ kk => rs_getf (pc := 295) dX12_later_295 fX12_102 (md_lt hmd (by decide)) hmd.2.1 rfl kk) ?_
            refine wq (fun _ _ kk => rs_iload (pc := 298) dX12_later_298 rfl kk) ?_
            refine wq (fun _ _ kk => rs_iald (pc := 300) dX12_later_300 (md_lt hmd (by decide)) (md_geti (d := 30) (k := 45) (kd := 0) (n := 400) rfl (by decide) hmd) (vp_in_nI (n := j) (N := 400) (by omega) (by decide)) kk) ?_
            rw [nI_clamp (show j < 2 ^ 31 by omega), hl.2 45 (by decide), n2]
            refine wq (fun _ _ kk => rs_callS (as := [_, _, _, _]) (pc := 301) dX12_later_301 mk_X12_differ mlX12_413 st_X12_differ rfl rfl (Nat.le_of_ble_eq_true rfl) (c_X12_differ (nI_mul_ne m1.2.2.1 b1 m1.2.2.2 b2)) kk) ?_
            rw [dz]
            refine wq (fun _ _ kk => rs_goto (tgt := 308) (pc := 304) dX12_later_304 rfl kk) ?_
            refine wq (fun _ _ kk => rs_ladd (pc := 308) dX12_later_308 kk) ?_
            try rw [Int64.add_zero]
            refine wq (fun _ _ kk => wk_lst9 (pc := 309) dX12_later_309 (by decide) rfl kk) ?_
            refine wq (fun _ _ kk => wk_iinc12 (v := nI (j + 1)) (pc := 311) dX12_later_311 (by decide) rfl (nI_1 j) kk) ?_
            refine wq (fun _ _ kk => rs_goto (tgt := 229) (pc := 314) dX12_later_314 rfl kk) ?_
            have e := ih (j + 1) (by omega) (by omega)
            first
            | (rw [← Nat.add_assoc, lst, if_neg hno] at e; exact e)
            | (rw [← Nat.add_assoc, lst, if_pos hyes, List.map_cons, zsum_cons, p1, Int.add_comm] at e
               rw [aL_add]
               exact e)
set_option maxRecDepth 100000 in
set_option maxHeartbeats 4000000 in
theorem l5_X12_later {h : ai_H} {T W : Md} {B : Bk} {nl ia ib q sl nw : Nat} {x : Int} {Ls : Nat → List Cl} {v3 wk v6 v7 v8 : Int32} (hok : bk_ok B nl) (hS : SI B wk T (nR B) (nR B) q) (hq4 : q ≤ 400) (ec : T.1 40 = nI q) (hia : ia < 16) (hib : ib < 16) (hsl : sl ≤ 99) (hmd : md_at h W) (hl : lq T W) (hM : MSm B Ls wk (nI ia) (nI ib) sl x T q (nR B) W) {Q : Option Value → ai_H → Prop} (kx : ∀ (u12 : Value), ai_W MX12_later 323 [.ref 307, .int (nI ia), .int (nI ib), .int v3, .int (nI sl), .int (nI nw), .int v6, .int v7, .int v8, .long (aL (zsum ((lst (mp T q (ia * 16 + ib)) (fun t => kM T (t / q)) (q * q)).map (fKo B Ls wk (nI ia) (nI ib) sl x)))), .float 0, .int (nI q), u12] [] h Q) : ∀ (k i n : Nat) (u12 : Value), n = i * q → i ≤ q → q + 1 ≤ i + k → ai_W MX12_later 217 [.ref 307, .int (nI ia), .int (nI ib), .int v3, .int (nI sl), .int (nI nw), .int v6, .int v7, .int v8, .long (aL (zsum ((lst (mp T q (ia * 16 + ib)) (fun t => kM T (t / q)) n).map (fKo B Ls wk (nI ia) (nI ib) sl x)))), .float 0, .int (nI i), u12] [] h Q := by
  intro k
  induction k with
  | zero => intro i n u12 h0 h1 h2; exact absurd h2 (by omega)
  | succ k ih =>
    intro i n u12 hni hi0 him
    subst hni
    refine wq (fun _ _ kk => rs_iload (pc := 217) dX12_later_217 rfl kk) ?_
    refine wq (fun _ _ kk => rs_aload_n (pc := 219) dX12_later_219 rfl kk) ?_
    refine wq (fun _ _ kk => rs_getf (pc := 220) dX12_later_220 fX12_398 (md_lt hmd (by decide)) hmd.2.1 rfl kk) ?_
    rw [hl.1, ec]
    refine wq_br (fun _ _ kt kf => rs_icmp_ge (tgt := 323) (pc := 223) dX12_later_223 rfl kt kf) (fun c_223 => ?_) (fun c_223 => ?_)
    · have hie : q = i := (lp_exit rfl (by omega) hi0 c_223).symm
      subst hie
      exact kx _
    · have hi : i < q := lp_go rfl (by omega) c_223
      refine wq (fun _ _ kk => rs_iconst (v := 0) (pc := 226) dX12_later_226 rfl kk) ?_
      refine wq (fun _ _ kk => wk_ist12 (pc := 227) dX12_later_227 (by decide) rfl kk) ?_
      refine l4_X12_later hok hS hq4 ec hia hib hsl hmd hl hM hi ?_ (q + 1) 0 (by omega) (by omega)
      refine wq (fun _ _ kk => wk_iinc11 (v := nI (i + 1)) (pc := 317) dX12_later_317 (by decide) rfl (nI_1 i) kk) ?_
      refine wq (fun _ _ kk => rs_goto (tgt := 217) (pc := 320) dX12_later_320 rfl kk) ?_
      exact ih (i + 1) (i * q + q) (.int (nI q)) (by rw [Nat.add_mul, Nat.one_mul]) (by omega) (by omega)
theorem km_b {B : Bk} {ln : Nat} (hok : bk_ok B ln) {Ls : Nat → List Cl} {wk : Int32} {ia ib q sl : Nat} {x : Int} {T : Md} (hS : SI B wk T (nR B) (nR B) q) (hia : ia < 16) (hib : ib < 16) (hsl : sl ≤ 99) : ∀ y, y ∈ (lst (mp T q (ia * 16 + ib)) (fun t => kM T (t / q)) (q * q)).map (fKo B Ls wk (nI ia) (nI ib) sl x) → -880000000 ≤ y ∧ y ≤ 880000000 := by
  intro y hy
  obtain ⟨K, K1, K2⟩ := List.mem_map.1 hy
  obtain ⟨t, t1, t2, t3⟩ := (mem_lst _).1 K1
  obtain ⟨hm, -⟩ := mp_is hS t1 t2
  rw [show (ia * 16 + ib) / 16 = ia by omega, show (ia * 16 + ib) % 16 = ib by omega, show kM T (t / q) = K from t3] at hm
  rw [← K2]
  exact fKo_b hok hsl hm
set_option maxRecDepth 100000 in
set_option maxHeartbeats 4000000 in
theorem e_X12_later {h : ai_H} {T : Md} {B : Bk} {nl ia ib q sl nw w : Nat} {Ls : Nat → List Cl} {v3 wk : Int32} {u11 u12 : Value} (hok : bk_ok B nl) (hS : SI B wk T (nR B) (nR B) q) (hq4 : q ≤ 400) (hia : ia < 16) (hib : ib < 16) (hsl : sl ≤ 99) (hne : 1 ≤ (lst (mp T q (ia * 16 + ib)) (fun t => kM T (t / q)) (q * q)).length) {Q : Option Value → ai_H → Prop} (kx : ∀ (u9 u10 u11 u12 : Value), ai_W MX12_later 198 [.ref 307, .int (nI ia), .int (nI ib), .int v3, .int (nI sl), .int (nI nw), .int (nI (cN (mp T q (ia * 16 + ib)) (q * q))), .int (nI (drZ B Ls wk (nI ia) (nI ib) sl v3.toInt (lst (mp T q (ia * 16 + ib)) (fun t => kM T (t / q)) (q * q)) (w + 1)).1), .int (nI (w + 1)), u9, u10, u11, u12] [] h Q) : ai_W MX12_later 323 [.ref 307, .int (nI ia), .int (nI ib), .int v3, .int (nI sl), .int (nI nw), .int (nI (cN (mp T q (ia * 16 + ib)) (q * q))), .int (nI (drZ B Ls wk (nI ia) (nI ib) sl v3.toInt (lst (mp T q (ia * 16 + ib)) (fun t => kM T (t / q)) (q * q)) w).1), .int (nI w), .long (aL (zsum ((lst (mp T q (ia * 16 + ib)) (fun t => kM T (t / q)) (q * q)).map (fKo B Ls wk (nI ia) (nI ib) sl (drZ B Ls wk (nI ia) (nI ib) sl v3.toInt (lst (mp T q (ia * 16 + ib)) (fun t => kM T (t / q)) (q * q)) w).2)))), .float 0, u11, u12] [] h Q := by
  have zk := zsum_b (km_b (Ls := Ls) (x := (drZ B Ls wk (nI ia) (nI ib) sl v3.toInt (lst (mp T q (ia * 16 + ib)) (fun t => kM T (t / q)) (q * q)) w).2) hok hS hia hib hsl)
  rw [List.length_map] at zk
  have hqq : q * q ≤ 400 * 400 := Nat.mul_le_mul hq4 hq4
  have zl : (lst (mp T q (ia * 16 + ib)) (fun t => kM T (t / q)) (q * q)).length ≤ 160000 := by rw [lst_len]; exact Nat.le_trans (cN_le _ _) hqq
  have zq := mean_b (s := zsum ((lst (mp T q (ia * 16 + ib)) (fun t => kM T (t / q)) (q * q)).map (fKo B Ls wk (nI ia) (nI ib) sl (drZ B Ls wk (nI ia) (nI ib) sl v3.toInt (lst (mp T q (ia * 16 + ib)) (fun t => kM T (t / q)) (q * q)) w).2))) (n := (lst (mp T q (ia * 16 + ib)) (fun t => kM T (t / q)) (q * q)).length) (M := 140800000000000) hne (by omega) (by omega)
  refine wq (fun _ _ kk => rs_iload (pc := 323) dX12_later_323 rfl kk) ?_
  refine wq (fun _ _ kk => rs_lload (pc := 325) dX12_later_325 rfl kk) ?_
  refine wq (fun _ _ kk => rs_iload (pc := 327) dX12_later_327 rfl kk) ?_
  refine wq (fun _ _ kk => rs_i2l (pc := 329) dX12_later_329 kk) ?_
  refine wq_tl (show (nI (cN (mp T q (ia * 16 + ib)) (q * q))).toInt64 = aL ((lst (mp T q (ia * 16 + ib)) (fun t => kM T (t / q)) (q * q)).length : Int) from by rw [← lst_len (f := fun t => kM T (t / q)), nI_i2l (by omega)]) ?_
  refine wq (fun _ _ kk => rs_callS (as := [_, _]) (pc := 330) dX12_later_330 mk_X12_floorOf mlX12_403 st_X12_floorOf rfl rfl (Nat.le_of_ble_eq_true rfl) (c_X12_floorOf (fun z => by rw [show (0 : Int64) = aL 0 from rfl, aL_eq (by omega) (by omega) (by omega) (by omega)] at z; omega)) kk) ?_
  rw [aL_fl (by omega) (by omega) (by omega) (by omega)]
  refine wq (fun _ _ kk => rs_lconst (v := 0) (pc := 333) dX12_later_333 rfl kk) ?_
  refine wq_br (fun _ _ kt kf => wk_lcmp_le (tgt := 342) (pc := 334) dX12_later_334 dX12_later_335 rfl kt kf) (fun c_334 => ?_) (fun c_334 => ?_)
  · rw [show (0 : Int64) = aL 0 from rfl, aL_le (by omega) (by omega) (by omega) (by omega)] at c_334
    refine wq (fun _ _ kk => rs_iconst (v := 0) (pc := 342) dX12_later_342 rfl kk) ?_
    refine wq (fun _ _ kk => rs_iadd (pc := 343) dX12_later_343 kk) ?_
    refine wq (fun _ _ kk => wk_ist7 (pc := 344) dX12_later_344 (by decide) rfl kk) ?_
    refine wq (fun _ _ kk => wk_iinc8 (v := nI (w + 1)) (pc := 346) dX12_later_346 (by decide) rfl (nI_1 w) kk) ?_
    refine wq (fun _ _ kk => rs_goto (tgt := 198) (pc := 349) dX12_later_349 rfl kk) ?_
    have e := kx
    rw [drZ] at e
    first
    | (rw [show ∀ y z : Nat, (if 0 < zsum ((lst (mp T q (ia * 16 + ib)) (fun t => kM T (t / q)) (q * q)).map (fKo B Ls wk (nI ia) (nI ib) sl (drZ B Ls wk (nI ia) (nI ib) sl v3.toInt (lst (mp T q (ia * 16 + ib)) (fun t => kM T (t / q)) (q * q)) w).2)) / ((lst (mp T q (ia * 16 + ib)) (fun t => kM T (t / q)) (q * q)).length : Int) then y else z) = z from fun y z => if_neg (by omega), Nat.add_zero] at e
       rw [Int32.add_zero]
       exact e _ _ _ _)
    | (rw [show ∀ y z : Nat, (if 0 < zsum ((lst (mp T q (ia * 16 + ib)) (fun t => kM T (t / q)) (q * q)).map (fKo B Ls wk (nI ia) (nI ib) sl (drZ B Ls wk (nI ia) (nI ib) sl v3.toInt (lst (mp T q (ia * 16 + ib)) (fun t => kM T (t / q)) (q * q)) w).2)) / ((lst (mp T q (ia * 16 + ib)) (fun t => kM T (t / q)) (q * q)).length : Int) then y else z) = y from fun y z => if_pos (by omega)] at e
       rw [nI_1]
       exact e _ _ _ _)
  · rw [show (0 : Int64) = aL 0 from rfl, aL_le (by omega) (by omega) (by omega) (by omega)] at c_334
    refine wq (fun _ _ kk => rs_iconst (v := 1) (pc := 338) dX12_later_338 rfl kk) ?_
    refine wq (fun _ _ kk => rs_goto (tgt := 343) (pc := 339) dX12_later_339 rfl kk) ?_
    refine wq (fun _ _ kk => rs_iadd (pc := 343) dX12_later_343 kk) ?_
    refine wq (fun _ _ kk => wk_ist7 (pc := 344) dX12_later_344 (by decide) rfl kk) ?_
    refine wq (fun _ _ kk => wk_iinc8 (v := nI (w + 1)) (pc := 346) dX12_later_346 (by decide) rfl (nI_1 w) kk) ?_
    refine wq (fun _ _ kk => rs_goto (tgt := 198) (pc := 349) dX12_later_349 rfl kk) ?_
    have e := kx
    rw [drZ] at e
    first
    | (rw [show ∀ y z : Nat, (if 0 < zsum ((lst (mp T q (ia * 16 + ib)) (fun t => kM T (t / q)) (q * q)).map (fKo B Ls wk (nI ia) (nI ib) sl (drZ B Ls wk (nI ia) (nI ib) sl v3.toInt (lst (mp T q (ia * 16 + ib)) (fun t => kM T (t / q)) (q * q)) w).2)) / ((lst (mp T q (ia * 16 + ib)) (fun t => kM T (t / q)) (q * q)).length : Int) then y else z) = z from fun y z => if_neg (by omega), Nat.add_zero] at e
       rw [Int32.add_zero]
       exact e _ _ _ _)
    | (rw [show ∀ y z : Nat, (if 0 < zsum ((lst (mp T q (ia * 16 + ib)) (fun t => kM T (t / q)) (q * q)).map (fKo B Ls wk (nI ia) (nI ib) sl (drZ B Ls wk (nI ia) (nI ib) sl v3.toInt (lst (mp T q (ia * 16 + ib)) (fun t => kM T (t / q)) (q * q)) w).2)) / ((lst (mp T q (ia * 16 + ib)) (fun t => kM T (t / q)) (q * q)).length : Int) then y else z) = y from fun y z => if_pos (by omega)] at e
       rw [nI_1]
       exact e _ _ _ _)
set_option maxRecDepth 100000 in
set_option maxHeartbeats 4000000 in
theorem l6_X12_later {h : ai_H} {T : Md} {B : Bk} {nl ia ib q sl nw : Nat} {Ls : Nat → List Cl} {v3 wk : Int32} (hok : bk_ok B nl) (hRB : RB B T) (hML : MLS T nl Ls) (hS : SI B wk T (nR B) (nR B) q) (hq4 : q ≤ 400) (ec : T.1 40 = nI q) (hia : ia < 16) (hib : ib < 16) (hij : ia ≠ ib) (hsl : sl ≤ 99) (hnw : nw ≤ 50) (hsd : 0 ≤ v3.toInt) (hne : 1 ≤ (lst (mp T q (ia * 16 + ib)) (fun t => kM T (t / q)) (q * q)).length) : ∀ (k w : Nat) (u9 u10 u11 u12 : Value) (W : Md) (g : ai_H), w ≤ nw → nw + 1 ≤ w + k → md_ext h g → md_at g W → lq T W → mrk T q (ia * 16 + ib) (q * q) (W.2.2.1 66) → W.2.1 = aL (drZ B Ls wk (nI ia) (nI ib) sl v3.toInt (lst (mp T q (ia * 16 + ib)) (fun t => kM T (t / q)) (q * q)) w).2 → ai_W MX12_later 198 [.ref 307, .int (nI ia), .int (nI ib), .int v3, .int (nI sl), .int (nI nw), .int (nI (cN (mp T q (ia * 16 + ib)) (q * q))), .int (nI (drZ B Ls wk (nI ia) (nI ib) sl v3.toInt (lst (mp T q (ia * 16 + ib)) (fun t => kM T (t / q)) (q * q)) w).1), .int (nI w), u9, u10, u11, u12] [] g (fun r g => md_ext h g ∧ (∃ W, md_at g W ∧ lq T W) ∧ r = some (.int (nI (drZ B Ls wk (nI ia) (nI ib) sl v3.toInt (lst (mp T q (ia * 16 + ib)) (fun t => kM T (t / q)) (q * q)) nw).1))) := by
  intro k
  induction k with
  | zero => intro w u9 u10 u11 u12 W g h1 h2; exact absurd h2 (by omega)
  | succ k ih =>
    intro w u9 u10 u11 u12 W g hw0 him E0 hmd hl hm hd
    refine wq (fun _ _ kk => rs_iload (pc := 198) dX12_later_198 rfl kk) ?_
    refine wq (fun _ _ kk => rs_iload (pc := 200) dX12_later_200 rfl kk) ?_
    refine wq_br (fun _ _ kt kf => rs_icmp_ge (tgt := 352) (pc := 202) dX12_later_202 rfl kt kf) (fun c_202 => ?_) (fun c_202 => ?_)
    · have hwe : nw = w := (lp_exit rfl (by omega) hw0 c_202).symm
      subst hwe
      refine wq (fun _ _ kk => rs_iload (pc := 352) dX12_later_352 rfl kk) ?_
      refine wq_ret ?_ (rs_iret (pc := 354) dX12_later_354 rfl)
      exact ⟨E0, ⟨W, hmd, hl⟩, rfl⟩
    · have hw : w < nw := lp_go rfl (by omega) c_202
      have hdb := drZ_b (B := B) (Ls := Ls) (wk := wk) (a := nI ia) (b := nI ib) (sl := sl) (L := (lst (mp T q (ia * 16 + ib)) (fun t => kM T (t / q)) (q * q))) (x := v3.toInt) ⟨hsd, Int32.toInt_lt v3⟩ w
      refine wq (fun _ _ kk => rs_aload_n (pc := 205) dX12_later_205 rfl kk) ?_
      refine wq (fun _ _ kk => rs_iload (pc := 206) dX12_later_206 rfl kk) ?_
      obtain ⟨rv_208, hc_208, ⟨rfl, ee_208, W2, hmd_208, hl2, hm2, hM2⟩, hm_208⟩ := c_X12_draws (x := (drZ B Ls wk (nI ia) (nI ib) sl v3.toInt (lst (mp T q (ia * 16 + ib)) (fun t => kM T (t / q)) (q * q)) w).2) hok hRB hML hS hq4 ec hia hib hij hsl hdb.2 hmd hl hm hd
      refine wq (fun _ _ kk => rs_callV (as := [_]) (pc := 208) dX12_later_208 mk_X12_draws mlX12_485 in_X12_draws se_X12_draws rfl (md_lt hmd (by decide)) hmd.2.1 rfl rfl (Nat.le_of_ble_eq_true rfl) (hm_208) kk) ?_
      replace hmd := hmd_208
      have E_208 := (E0).trans ee_208
      refine wq (fun _ _ kk => rs_lconst (v := 0) (pc := 211) dX12_later_211 rfl kk) ?_
      refine wq (fun _ _ kk => wk_lst9 (pc := 212) dX12_later_212 (by decide) rfl kk) ?_
      refine wq (fun _ _ kk => rs_iconst (v := 0) (pc := 214) dX12_later_214 rfl kk) ?_
      refine wq (fun _ _ kk => wk_ist11 (pc := 215) dX12_later_215 (by decide) rfl kk) ?_
      refine l5_X12_later (x := (drZ B Ls wk (nI ia) (nI ib) sl v3.toInt (lst (mp T q (ia * 16 + ib)) (fun t => kM T (t / q)) (q * q)) w).2) hok hS hq4 ec hia hib hsl hmd hl2 hM2 ?_ (q + 1) 0 0 _ (by rw [Nat.zero_mul]) (by omega) (by omega)
      intro u12
      exact e_X12_later hok hS hq4 hia hib hsl hne (fun u9 u10 u11 u12 => ih (w + 1) u9 u10 u11 u12 W2 _ (by omega) (by omega) E_208 hmd hl2 hm2 hM2.1)
set_option maxRecDepth 100000 in
set_option maxHeartbeats 4000000 in
theorem t_X12_later {h g : ai_H} {T W : Md} {B : Bk} {nl ia ib q sl nw : Nat} {Ls : Nat → List Cl} {v3 wk : Int32} (hok : bk_ok B nl) (hRB : RB B T) (hML : MLS T nl Ls) (hS : SI B wk T (nR B) (nR B) q) (hq4 : q ≤ 400) (ec : T.1 40 = nI q) (hia : ia < 16) (hib : ib < 16) (hij : ia ≠ ib) (hsl : sl ≤ 99) (hnw : nw ≤ 50) (hsd : 0 ≤ v3.toInt) {u7 u8 u9 u10 u11 u12 : Value} (E0 : md_ext h g) (hmd : md_at g W) (hl : lq T W) (hm : mrk T q (ia * 16 + ib) (q * q) (W.2.2.1 66)) : ai_W MX12_later 178 [.ref 307, .int (nI ia), .int (nI ib), .int v3, .int (nI sl), .int (nI nw), .int (nI (cN (mp T q (ia * 16 + ib)) (q * q))), u7, u8, u9, u10, u11, u12] [] g (fun r g => md_ext h g ∧ (∃ W, md_at g W ∧ lq T W) ∧ r = some (.int (uu_later B Ls wk (nI ia) (nI ib) sl nw v3.toInt (lst (mp T q (ia * 16 + ib)) (fun t => kM T (t / q)) (q * q))))) := by
  have hqq : q * q ≤ 400 * 400 := Nat.mul_le_mul hq4 hq4
  have hcn := cN_le (mp T q (ia * 16 + ib)) (q * q)
  refine wq (fun _ _ kk => rs_iload (pc := 178) dX12_later_178 rfl kk) ?_
  refine wq_bn (fun _ _ kt kf => rs_if_ne (tgt := 186) (pc := 180) dX12_later_180 rfl kt kf) (fun c_180 => ?_) (fun c_180 => ?_)
  · rw [nI_z (by omega), ← lst_len (f := fun t => kM T (t / q))] at c_180
    refine wq (fun _ _ kk => rs_aload_n (pc := 186) dX12_later_186 rfl kk) ?_
    refine wq (fun _ _ kk => rs_iload_n (pc := 187) dX12_later_187 rfl kk) ?_
    refine wq (fun _ _ kk => rs_i2l (pc := 188) dX12_later_188 kk) ?_
    rw [i2l_to]
    refine wq (fun _ _ kk => rs_putf (pc := 189) dX12_later_189 fX12_481 (md_lt hmd (by decide)) hmd.2.1 rfl (Nat.le_of_ble_eq_true rfl) kk) ?_
    refine wq_gen (fun h_1 e_1 => ?_)
    obtain ⟨m_1, s_1, g_1, o_1⟩ := ai_e1 e_1
    replace hmd := md_at_dl hmd m_1 g_1 o_1 rfl
    have E_1 := (E0).trans (md_ext_of m_1 s_1 o_1 (by decide))
    refine wq (fun _ _ kk => rs_iconst (v := 0) (pc := 192) dX12_later_192 rfl kk) ?_
    refine wq (fun _ _ kk => wk_ist7 (pc := 193) dX12_later_193 (by decide) rfl kk) ?_
    refine wq (fun _ _ kk => rs_iconst (v := 0) (pc := 195) dX12_later_195 rfl kk) ?_
    refine wq (fun _ _ kk => wk_ist8 (pc := 196) dX12_later_196 (by decide) rfl kk) ?_
    refine wq_mono ?_ (l6_X12_later (h := h) (T := T) (Ls := Ls) (sl := sl) (nw := nw) (v3 := v3) hok hRB hML hS hq4 ec hia hib hij hsl hnw hsd (by omega) (nw + 1) 0 _ _ _ _ _ _ (by omega) (by omega) (E_1) hmd hl hm rfl)
    rintro r g ⟨a1, a2, a3⟩
    exact ⟨a1, a2, by rw [a3]; unfold uu_later; rw [if_neg (fun z => c_180 (by rw [z]; rfl))]⟩
  · rw [nI_z (by omega), ← lst_len (f := fun t => kM T (t / q))] at c_180
    refine wq (fun _ _ kk => rs_bipush (v := -2) (pc := 183) dX12_later_183 rfl kk) ?_
    refine wq_ret ?_ (rs_iret (pc := 185) dX12_later_185 rfl)
    exact ⟨E0, ⟨W, hmd, hl⟩, by unfold uu_later; rw [if_pos (List.length_eq_zero_iff.1 c_180)]⟩
theorem pair_0 {B : Bk} {a b : Int32} : xs_pair B a b = 0 ↔ tb_has (bk_o B).1 a = 0 ∨ tb_has (bk_o B).1 b = 0 ∨ a = b := by
  unfold xs_pair xs_both
  by_cases c1 : tb_has (bk_o B).1 a = 0
  · simp [c1]
  · by_cases c2 : tb_has (bk_o B).1 b = 0
    · simp [c1, c2]
    · by_cases c3 : a = b
      · simp [c1, c2, c3]
      · simp [c1, c2, c3]
theorem MLS.sg {S W : Md} {nl : Nat} {Ls : Nat → List Cl} (a : MLS S nl Ls) (q : sg S W) : MLS W nl Ls := by
  refine ⟨by rw [q.1 25 (by decide)]; exact a.1, a.2.1, fun r hr => ?_⟩
  obtain ⟨⟨b1, b2⟩, b3⟩ := a.2.2 r hr
  exact ⟨⟨by rw [q.2.2.1 33 (by decide)]; exact b1, MC_ofr (fun k hk => q.2.2.1 k (by omega)) b2⟩, b3⟩
set_option maxRecDepth 100000 in
set_option maxHeartbeats 4000000 in
theorem c_X12_later {h : ai_H} {S : Md} {B : Bk} {nl : Nat} {Ls : Nat → List Cl} (hok : bk_ok B nl) (hRB : RB B S) (hML : MLS S nl Ls) (hmd : md_at h S) (a b sd sp n : Int32) : ai_QM MX12_later [.ref 307, .int a, .int b, .int sd, .int sp, .int n] h (fun r g => md_ext h g ∧ (∃ V, md_at g V ∧ mq S V) ∧ (((xs_pair B a b = 0 ∨ sd < 0 ∨ bi_in sp 0 99 = 0 ∨ bi_in n 1 50 = 0) ∧ r = some (.int (-1))) ∨ (¬ (xs_pair B a b = 0 ∨ sd < 0 ∨ bi_in sp 0 99 = 0 ∨ bi_in n 1 50 = 0) ∧ ∃ ia ib sl nw, ia < nO B ∧ ib < nO B ∧ ia ≠ ib ∧ a = nI ia ∧ b = nI ib ∧ sl ≤ 99 ∧ sp = nI sl ∧ nw ≤ 50 ∧ n = nI nw ∧ ∃ T q, q ≤ 400 ∧ SI B (bk_now B) T (nR B) (nR B) q ∧ r = some (.int (uu_later B Ls (bk_now B) (nI ia) (nI ib) sl nw sd.toInt (lst (mp T q (ia * 16 + ib)) (fun t => kM T (t / q)) (q * q))))))) := by
  have hn16 := hok.2.1.2.1
  refine qm_of (ls := [.ref 307, .int a, .int b, .int sd, .int sp, .int n, .float 0, .float 0, .float 0, .float 0, .float 0, .float 0, .float 0]) (by decide) (by simp [ai_en, Value.category]) (by rfl) ?_
  refine wq (fun _ _ kk => rs_aload_n (pc := 0) dX12_later_0 rfl kk) ?_
  refine wq (fun _ _ kk => rs_iload_n (pc := 1) dX12_later_1 rfl kk) ?_
  refine wq (fun _ _ kk => rs_callV (as := [_]) (pc := 2) dX12_later_2 mk_X12_isObserver mlX12_217 in_X12_isObserver se_X12_isObserver rfl (md_lt hmd (by decide)) hmd.2.1 rfl rfl (Nat.le_of_ble_eq_true rfl) (c_X12_isObserver hmd _) kk) ?_
  rw [rb_obs hok hRB]
  refine wq_br (fun _ _ kt kf => rs_if_eq (tgt := 51) (pc := 5) dX12_later_5 rfl kt kf) (fun c_5 => ?_) (fun c_5 => ?_)
  · refine wq (fun _ _ kk => rs_iconst (v := -1) (pc := 51) dX12_later_51 rfl kk) ?_
    refine wq_ret ?_ (rs_iret (pc := 52) dX12_later_52 rfl)
    exact ⟨md_ext.rf, ⟨S, hmd, mq.rf⟩, Or.inl ⟨by first | exact Or.inl (pair_0.2 (Or.inl c_5)) | exact Or.inl (pair_0.2 (Or.inr (Or.inl c_13))) | exact Or.inl (pair_0.2 (Or.inr (Or.inr c_18))) | exact Or.inr (Or.inl c_22) | exact Or.inr (Or.inr (Or.inl c_35)) | exact Or.inr (Or.inr (Or.inr c_48)), rfl⟩⟩
  · refine wq (fun _ _ kk => rs_aload_n (pc := 8) dX12_later_8 rfl kk) ?_
    refine wq (fun _ _ kk => rs_iload_n (pc := 9) dX12_later_9 rfl kk) ?_
    refine wq (fun _ _ kk => rs_callV (as := [_]) (pc := 10) dX12_later_10 mk_X12_isObserver mlX12_217 in_X12_isObserver se_X12_isObserver rfl (md_lt hmd (by decide)) hmd.2.1 rfl rfl (Nat.le_of_ble_eq_true rfl) (c_X12_isObserver hmd _) kk) ?_
    rw [rb_obs hok hRB]
    refine wq_br (fun _ _ kt kf => rs_if_eq (tgt := 51) (pc := 13) dX12_later_13 rfl kt kf) (fun c_13 => ?_) (fun c_13 => ?_)
    · refine wq (fun _ _ kk => rs_iconst (v := -1) (pc := 51) dX12_later_51 rfl kk) ?_
      refine wq_ret ?_ (rs_iret (pc := 52) dX12_later_52 rfl)
      exact ⟨md_ext.rf, ⟨S, hmd, mq.rf⟩, Or.inl ⟨by first | exact Or.inl (pair_0.2 (Or.inl c_5)) | exact Or.inl (pair_0.2 (Or.inr (Or.inl c_13))) | exact Or.inl (pair_0.2 (Or.inr (Or.inr c_18))) | exact Or.inr (Or.inl c_22) | exact Or.inr (Or.inr (Or.inl c_35)) | exact Or.inr (Or.inr (Or.inr c_48)), rfl⟩⟩
    · refine wq (fun _ _ kk => rs_iload_n (pc := 16) dX12_later_16 rfl kk) ?_
      refine wq (fun _ _ kk => rs_iload_n (pc := 17) dX12_later_17 rfl kk) ?_
      refine wq_br (fun _ _ kt kf => rs_icmp_eq (tgt := 51) (pc := 18) dX12_later_18 rfl kt kf) (fun c_18 => ?_) (fun c_18 => ?_)
      · refine wq (fun _ _ kk => rs_iconst (v := -1) (pc := 51) dX12_later_51 rfl kk) ?_
        refine wq_ret ?_ (rs_iret (pc := 52) dX12_later_52 rfl)
        exact ⟨md_ext.rf, ⟨S, hmd, mq.rf⟩, Or.inl ⟨by first | exact Or.inl (pair_0.2 (Or.inl c_5)) | exact Or.inl (pair_0.2 (Or.inr (Or.inl c_13))) | exact Or.inl (pair_0.2 (Or.inr (Or.inr c_18))) | exact Or.inr (Or.inl c_22) | exact Or.inr (Or.inr (Or.inl c_35)) | exact Or.inr (Or.inr (Or.inr c_48)), rfl⟩⟩
      · refine wq (fun _ _ kk => rs_iload_n (pc := 21) dX12_later_21 rfl kk) ?_
        refine wq_br (fun _ _ kt kf => rs_if_lt (tgt := 51) (pc := 22) dX12_later_22 rfl kt kf) (fun c_22 => ?_) (fun c_22 => ?_)
        · refine wq (fun _ _ kk => rs_iconst (v := -1) (pc := 51) dX12_later_51 rfl kk) ?_
          refine wq_ret ?_ (rs_iret (pc := 52) dX12_later_52 rfl)
          exact ⟨md_ext.rf, ⟨S, hmd, mq.rf⟩, Or.inl ⟨by first | exact Or.inl (pair_0.2 (Or.inl c_5)) | exact Or.inl (pair_0.2 (Or.inr (Or.inl c_13))) | exact Or.inl (pair_0.2 (Or.inr (Or.inr c_18))) | exact Or.inr (Or.inl c_22) | exact Or.inr (Or.inr (Or.inl c_35)) | exact Or.inr (Or.inr (Or.inr c_48)), rfl⟩⟩
        · refine wq (fun _ _ kk => rs_iload (pc := 25) dX12_later_25 rfl kk) ?_
          refine wq (fun _ _ kk => rs_i2l (pc := 27) dX12_later_27 kk) ?_
          refine wq (fun _ _ kk => rs_lconst (v := 0) (pc := 28) dX12_later_28 rfl kk) ?_
          refine wq (fun _ _ kk => rs_ldc2 (pc := 29) dX12_later_29 cnX12_206 kk) ?_
          refine wq (fun _ _ kk => rs_callS (as := [_, _, _]) (pc := 32) dX12_later_32 mk_X12_in mlX12_181 st_X12_in rfl rfl (Nat.le_of_ble_eq_true rfl) (c_X12_inI sp 0 99) kk) ?_
          refine wq_br (fun _ _ kt kf => rs_if_eq (tgt := 51) (pc := 35) dX12_later_35 rfl kt kf) (fun c_35 => ?_) (fun c_35 => ?_)
          · refine wq (fun _ _ kk => rs_iconst (v := -1) (pc := 51) dX12_later_51 rfl kk) ?_
            refine wq_ret ?_ (rs_iret (pc := 52) dX12_later_52 rfl)
            exact ⟨md_ext.rf, ⟨S, hmd, mq.rf⟩, Or.inl ⟨by first | exact Or.inl (pair_0.2 (Or.inl c_5)) | exact Or.inl (pair_0.2 (Or.inr (Or.inl c_13))) | exact Or.inl (pair_0.2 (Or.inr (Or.inr c_18))) | exact Or.inr (Or.inl c_22) | exact Or.inr (Or.inr (Or.inl c_35)) | exact Or.inr (Or.inr (Or.inr c_48)), rfl⟩⟩
          · refine wq (fun _ _ kk => rs_iload (pc := 38) dX12_later_38 rfl kk) ?_
            refine wq (fun _ _ kk => rs_i2l (pc := 40) dX12_later_40 kk) ?_
            refine wq (fun _ _ kk => rs_lconst (v := 1) (pc := 41) dX12_later_41 rfl kk) ?_
            refine wq (fun _ _ kk => rs_ldc2 (pc := 42) dX12_later_42 cnX12_479 kk) ?_
            refine wq (fun _ _ kk => rs_callS (as := [_, _, _]) (pc := 45) dX12_later_45 mk_X12_in mlX12_181 st_X12_in rfl rfl (Nat.le_of_ble_eq_true rfl) (c_X12_inI n 1 50) kk) ?_
            refine wq_bn (fun _ _ kt kf => rs_if_ne (tgt := 53) (pc := 48) dX12_later_48 rfl kt kf) (fun c_48 => ?_) (fun c_48 => ?_)
            · refine wq (fun _ _ kk => rs_aload_n (pc := 53) dX12_later_53 rfl kk) ?_
              refine wq (fun _ _ kk => rs_aload_n (pc := 54) dX12_later_54 rfl kk) ?_
              refine wq (fun _ _ kk => rs_getf (pc := 55) dX12_later_55 fX12_185 (md_lt hmd (by decide)) hmd.2.1 rfl kk) ?_
              rw [hRB.1.1]
              have hgu : ¬ (xs_pair B a b = 0 ∨ sd < 0 ∨ bi_in sp 0 99 = 0 ∨ bi_in n 1 50 = 0) := by
                rintro (z | z | z | z)
                · rcases pair_0.1 z with z | z | z
                  · exact c_5 z
                  · exact c_13 z
                  · exact c_18 z
                · exact c_22 z
                · exact c_35 z
                · exact c_48 z
              obtain ⟨ia, ib, hi, hj, hij, rfl, rfl⟩ := pair_ex hok (fun z => hgu (Or.inl z))
              obtain ⟨sl, -, hsl, rfl⟩ := bi_in_rng (lo := 0) (hi := 99) (by decide) (by decide) c_35
              obtain ⟨nw, -, hnw, rfl⟩ := bi_in_rng (lo := 1) (hi := 50) (by decide) (by decide) c_48
              obtain ⟨rv_58, hc_58, ⟨rfl, ee_58, T, q, hqR, hmd_58, ec, hsg, hSI⟩, hm_58⟩ := c_X12_gathers (wk := bk_now B) hok hRB hok.1.2 hmd
              refine wq (fun _ _ kk => rs_callV (as := [_]) (pc := 58) dX12_later_58 mk_X12_gathers mlX12_407 in_X12_gathers se_X12_gathers rfl (md_lt hmd (by decide)) hmd.2.1 rfl rfl (Nat.le_of_ble_eq_true rfl) (hm_58) kk) ?_
              replace hmd := hmd_58
              have E_58 := (md_ext.rf).trans ee_58
              have hq4 : q ≤ 400 := Nat.le_trans hqR hok.2.2.2.2.1.2.1
              refine wq (fun _ _ kk => rs_iconst (v := 0) (pc := 61) dX12_later_61 rfl kk) ?_
              refine wq (fun _ _ kk => wk_ist6 (pc := 62) dX12_later_62 (by decide) rfl kk) ?_
              refine wq (fun _ _ kk => rs_iconst (v := 0) (pc := 64) dX12_later_64 rfl kk) ?_
              refine wq (fun _ _ kk => wk_ist7 (pc := 65) dX12_later_65 (by decide) rfl kk) ?_
              refine l1_X12_later (h := h) (T := T) (ia := ia) (ib := ib) hq4 ec ?_ (q + 1) 0 T _ (by omega) (by omega) E_58 hmd lq.rf (fun t ht => absurd ht (Nat.not_lt_zero t))
              intro W g E0 hmd hl hv
              refine wq (fun _ _ kk => rs_iconst (v := 0) (pc := 90) dX12_later_90 rfl kk) ?_
              refine wq (fun _ _ kk => wk_ist7 (pc := 91) dX12_later_91 (by decide) rfl kk) ?_
              have e := l3_X12_later (h := h) (T := T) (sl := sl) (nw := nw) (v3 := sd) (u9 := .float 0) (u10 := .float 0) (u11 := .float 0) (u12 := .float 0) hq4 ec (show ia < 16 by omega) (show ib < 16 by omega) (fun u8 W g E0 hmd hl hm => t_X12_later (Ls := Ls) hok (hRB.of hsg.sb) (hML.sg hsg) hSI hq4 ec (show ia < 16 by omega) (show ib < 16 by omega) hij hsl hnw (by rw [i32_lt, i32_0] at c_22; omega) E0 hmd hl hm) (q + 1) 0 (.float 0) W g (by omega) (by omega) E0 hmd hl (by rw [Nat.zero_mul]; exact mrk_0 hv)
              rw [Nat.zero_mul] at e
              refine wq_mono ?_ e
              rintro r g ⟨a1, ⟨W, a2, a3⟩, a4⟩
              exact ⟨a1, ⟨W, a2, hsg.mq.trans a3.mq⟩, Or.inr ⟨hgu, ia, ib, sl, nw, hi, hj, hij, rfl, rfl, hsl, rfl, hnw, rfl, T, q, hq4, hSI, a4⟩⟩
            · refine wq (fun _ _ kk => rs_iconst (v := -1) (pc := 51) dX12_later_51 rfl kk) ?_
              refine wq_ret ?_ (rs_iret (pc := 52) dX12_later_52 rfl)
              exact ⟨md_ext.rf, ⟨S, hmd, mq.rf⟩, Or.inl ⟨by first | exact Or.inl (pair_0.2 (Or.inl c_5)) | exact Or.inl (pair_0.2 (Or.inr (Or.inl c_13))) | exact Or.inl (pair_0.2 (Or.inr (Or.inr c_18))) | exact Or.inr (Or.inl c_22) | exact Or.inr (Or.inr (Or.inl c_35)) | exact Or.inr (Or.inr (Or.inr c_48)), rfl⟩⟩
