/-! 51: said (walks laid by wip/whole/p51.py) -/
def bin : Nat → Nat → Nat
  | 0, 0 => 1
  | 0, _ + 1 => 0
  | _ + 1, 0 => 1
  | n + 1, k + 1 => bin n k + bin n (k + 1)
theorem bin_0 (n : Nat) : bin n 0 = 1 := by cases n <;> rfl
theorem bin_A : ∀ n k, bin n k * n = bin n k * k + bin n (k + 1) * (k + 1) := by
  intro n
  induction n with
  | zero => intro k; cases k <;> simp [bin]
  | succ n ih =>
    intro k
    cases k with
    | zero =>
      have h : bin n 0 * n = bin n 0 * 0 + bin n 1 * 1 := ih 0
      rw [bin_0] at h
      show bin (n + 1) 0 * (n + 1) = bin (n + 1) 0 * 0 + (bin n 0 + bin n 1) * 1
      rw [bin_0, bin_0]
      omega
    | succ k =>
      have h1 := ih k
      have h2 := ih (k + 1)
      show (bin n k + bin n (k + 1)) * (n + 1) = (bin n k + bin n (k + 1)) * (k + 1) + (bin n (k + 1) + bin n (k + 1 + 1)) * (k + 1 + 1)
      grind
theorem bin_B (n k : Nat) : bin (n + 1) (k + 1) * (k + 1) = (n + 1) * bin n k := by
  have h := bin_A n k
  show (bin n k + bin n (k + 1)) * (k + 1) = _
  grind
theorem bin_up (n k : Nat) : bin n k ≤ bin (n + 1) k := by
  cases k with
  | zero => rw [bin_0, bin_0]; exact Nat.le_refl _
  | succ k => show _ ≤ bin n k + bin n (k + 1); omega
theorem bin_mono (k : Nat) : ∀ d n, bin n k ≤ bin (n + d) k
  | 0, n => Nat.le_refl _
  | d + 1, n => Nat.le_trans (bin_mono k d n) (bin_up (n + d) k)
theorem bin_0k : ∀ n k, n < k → bin n k = 0
  | 0, k + 1, _ => rfl
  | n + 1, k + 1, h => by show bin n k + bin n (k + 1) = 0; rw [bin_0k n k (by omega), bin_0k n (k + 1) (by omega)]
def nxr (p : Nat) : List Nat → List Nat
  | [] => [p]
  | x :: l => (p + x) :: nxr x l
def prow : Nat → List Nat
  | 0 => [1]
  | n + 1 => nxr 0 (prow n)
theorem nxr_at : ∀ (l : List Nat) (p k : Nat), (nxr p l).getD k 0 = (if k = 0 then p else l.getD (k - 1) 0) + l.getD k 0
  | [], p, 0 => rfl
  | [], p, k + 1 => by simp [nxr]
  | x :: l, p, 0 => by simp [nxr]
  | x :: l, p, k + 1 => by
    have := nxr_at l x k
    simp only [nxr, List.getD_cons_succ, this]
    cases k <;> simp
theorem prow_at : ∀ n k, (prow n).getD k 0 = bin n k
  | 0, 0 => rfl
  | 0, k + 1 => by simp [prow, bin]
  | n + 1, 0 => by
    show (nxr 0 (prow n)).getD 0 0 = 1
    rw [nxr_at, prow_at n 0, bin_0]; rfl
  | n + 1, k + 1 => by
    show (nxr 0 (prow n)).getD (k + 1) 0 = bin n k + bin n (k + 1)
    rw [nxr_at, if_neg (by omega), prow_at n (k + 1), Nat.add_sub_cancel, prow_at n k]
theorem prow_59 : (prow 59).all (fun x => Nat.ble x 100000000000000000) = true := by decide +kernel
theorem bin_59 (k : Nat) : bin 59 k ≤ 100000000000000000 := by
  rw [← prow_at]
  have h := List.all_eq_true.1 prow_59
  rw [List.getD_eq_getElem?_getD]
  cases e : (prow 59)[k]? with
  | none => simp
  | some x => exact Nat.le_of_ble_eq_true (h x (List.mem_of_getElem? e))
theorem bin_le {n k : Nat} (hn : n ≤ 59) : bin n k ≤ 100000000000000000 := by
  have h := bin_mono k (59 - n) n
  rw [show n + (59 - n) = 59 by omega] at h
  exact Nat.le_trans h (bin_59 k)
/-- the next one, without leaving 64 bits -/
theorem bin_next {n k : Nat} (hn : n ≤ 60) (hk : k ≤ n) : bin n k * (n - k) ≤ 6000000000000000000 ∧ bin n k * (n - k) / (k + 1) = bin n (k + 1) := by
  have h := bin_A n k
  have e : bin n k * (n - k) = bin n (k + 1) * (k + 1) := by
    rw [Nat.mul_sub]
    omega
  rw [e]
  refine ⟨?_, Nat.mul_div_cancel _ (by omega)⟩
  cases n with
  | zero => rw [show bin 0 (k + 1) = 0 from rfl]; omega
  | succ n =>
    rw [bin_B]
    have h1 := bin_le (n := n) (k := k) (by omega)
    have h2 : (n + 1) * bin n k ≤ 60 * 100000000000000000 := Nat.mul_le_mul hn h1
    omega
/-- how many ways with at least so many heads -/
def wS (n hd : Nat) : Nat → Nat
  | 0 => 0
  | k + 1 => if hd ≤ k then wS n hd k + bin n k else wS n hd k
theorem wS_0 (n hd : Nat) : ∀ k, k ≤ hd → wS n hd k = 0
  | 0, _ => rfl
  | k + 1, h => by rw [wS, if_neg (by omega), wS_0 n hd k (by omega)]
def lne (l : List Int) : Nat := (l.filter (fun x => decide (¬ x = 0))).length
def lpo (l : List Int) : Nat := (l.filter (fun x => decide (¬ x ≤ 0))).length
theorem lne_le {l : List Int} : lne l ≤ l.length := List.length_filter_le _ _
theorem lpo_le {l : List Int} : lpo l ≤ l.length := List.length_filter_le _ _
def uu_said (l : List Int) (x : Int32) : Int64 := if 60 < lne l then -2 else if x = 1 then 1 <<< ((nI (lne l)).toInt64 &&& 63) else aL (wS (lne l) (lpo l) (lne l + 1))
/-- the model's counts are those of the class's lists -/
theorem unlike_same {B : Bk} {lm : Nat} (hok : bk_ok B lm) {wk : Int32} {S T : Md} {z q k : Nat} (hG : GI B wk S (nR B) z) (hS : SI B wk T (nR B) (nR B) q) (hk : k < 256) : cN (mNe T q k) (q * q) = lne (LM B wk S z k) ∧ cN (mPo T q k) (q * q) = lpo (LM B wk S z k) := by
  have hp := (keys_perm hok hG hS hk).map (dK B wk (nI (k / 16)) (nI (k % 16)))
  rw [← lst_map (h := fun t => dK B wk (nI (k / 16)) (nI (k % 16)) (kM T (t / q))) (q * q) (fun _ _ _ => rfl)] at hp
  have bd : ∀ t, t < q * q → mp T q k t = true → -20394000 ≤ dK B wk (nI (k / 16)) (nI (k % 16)) (kM T (t / q)) ∧ dK B wk (nI (k / 16)) (nI (k % 16)) (kM T (t / q)) ≤ 20394000 := fun t ht h => by
    obtain ⟨hm, -⟩ := mp_is hS ht h
    exact dK_b hok hm.2.2.1 hm.2.2.2
  unfold lne lpo LM
  refine ⟨?_, ?_⟩
  · rw [(hp.filter _).length_eq, ← lst_filter (q := mNe T q k) (q * q) (fun t ht => ?_), lst_len]
    unfold mNe
    cases e : mp T q k t with
    | false => rfl
    | true =>
      have b := bd t ht e
      rw [mdf_is hok hS ht e, show (0 : Int64) = aL 0 from rfl, Bool.true_and, Bool.true_and, decide_eq_decide, aL_eq (by omega) (by omega) (by omega) (by omega)]
  · rw [(hp.filter _).length_eq, ← lst_filter (q := mPo T q k) (q * q) (fun t ht => ?_), lst_len]
    unfold mPo
    cases e : mp T q k t with
    | false => rfl
    | true =>
      have b := bd t ht e
      rw [mdf_is hok hS ht e, show (0 : Int64) = aL 0 from rfl, Bool.true_and, Bool.true_and, decide_eq_decide, aL_le (by omega) (by omega) (by omega) (by omega)]
theorem bi_in_lt {c z : Nat} (hz : z < 2 ^ 31) (hc : c < z) : bi_in (nI c) 0 (nI z - 1) = 1 := by
  rw [show nI z - 1 = nI (z - 1) from nI_sb (b := 1) (by omega)]
  unfold bi_in
  rw [if_neg (by rw [i32_lt, i32_0, nI_toInt (by omega)]; omega), if_neg (by rw [i32_lt, nI_toInt (by omega), nI_toInt (by omega)]; omega)]
theorem nI_dec (q : Nat) : nI (q + 1) + (-1) = nI q := by
  rw [← aI_nat, show (-1 : Int32) = aI (-1) from rfl, aI_add, ← aI_nat]
  exact congrArg aI (by omega)
theorem cnt_step {L : List Int} {d : Int} {x : Int64} (hx : x = aL d) (h1 : -20394000 ≤ d) (h2 : d ≤ 20394000) : nI (lne L) + (if 0 < x then 1 else if 0 ≤ x then 0 else if (0 : Int32) = 0 then 1 else 0) = nI (lne (d :: L)) ∧ nI (lpo L) + (if 0 < x then 1 else if 0 ≤ x then 0 else if (1 : Int32) = 0 then 1 else 0) = nI (lpo (d :: L)) := by
  subst hx
  have x1 := aL_lt (a := 0) (b := d) (by omega) (by omega) (by omega) (by omega)
  have x2 := aL_le (a := 0) (b := d) (by omega) (by omega) (by omega) (by omega)
  have e1 : lne (d :: L) = if ¬ d = 0 then lne L + 1 else lne L := by
    unfold lne
    rw [List.filter_cons]
    by_cases c : d = 0
    · rw [if_neg (by rw [decide_eq_true_eq]; exact fun z => z c), if_neg (fun z => z c)]
    · rw [if_pos (decide_eq_true c), if_pos c, List.length_cons]
  have e2 : lpo (d :: L) = if ¬ d ≤ 0 then lpo L + 1 else lpo L := by
    unfold lpo
    rw [List.filter_cons]
    by_cases c : d ≤ 0
    · rw [if_neg (by rw [decide_eq_true_eq]; exact fun z => z c), if_neg (fun z => z c)]
    · rw [if_pos (decide_eq_true c), if_pos c, List.length_cons]
  generalize lne L = n1 at *
  generalize lpo L = n2 at *
  rw [e1, e2, show (0 : Int64) = aL 0 from rfl]
  by_cases d1 : aL 0 < aL d
  · have y := x1.1 d1
    rw [if_pos d1, if_pos (show ¬ d = 0 by omega), if_pos (show ¬ d ≤ 0 by omega), if_pos d1, nI_1, nI_1]
    exact ⟨rfl, rfl⟩
  · have y : ¬ 0 < d := fun w => d1 (x1.2 w)
    rw [if_neg d1, if_neg d1, if_neg (show ¬ ¬ d ≤ 0 by omega)]
    by_cases d2 : aL 0 ≤ aL d
    · have y2 := x2.1 d2
      rw [if_pos d2, if_pos d2, if_neg (show ¬ ¬ d = 0 by omega), Int32.add_zero, Int32.add_zero]
      exact ⟨rfl, rfl⟩
    · have y2 : ¬ 0 ≤ d := fun w => d2 (x2.2 w)
      rw [if_neg d2, if_neg d2, if_pos rfl, if_neg (show ¬ (1 : Int32) = 0 by decide), if_pos (show ¬ d = 0 by omega), Int32.add_zero, nI_1]
      exact ⟨rfl, rfl⟩
theorem met_p {S : Md} {z n i j : Nat} (hi : i < 16) (hj : j < 16) (hij : i ≠ j) : mt_p S z (i * 16 + j) n = true ↔ S.2.2.1 7 n = nI i ∧ ¬ cl_met S z n (nI j) = -1 := by
  have e1 : (i * 16 + j) / 16 = i := by omega
  have e2 : (i * 16 + j) % 16 = j := by omega
  unfold mt_p cl_met
  rw [decide_eq_true_eq, e1, e2]
  by_cases c : S.2.2.1 6 n = 3
  · rw [if_pos c]
    exact ⟨fun y => absurd c y.1, fun y => absurd rfl y.2⟩
  · rw [if_neg c]
    exact ⟨fun y => ⟨y.2.1, y.2.2.2⟩, fun y => ⟨c, y.1, fun q => hij q.symm, y.2⟩⟩
def cl_cnt (S : Md) (z : Nat) (a b u : Int32) : Nat → Int32
  | 0 => 0
  | n + 1 => if S.2.2.1 7 n = a ∧ ¬ cl_met S z n b = -1 then cl_cnt S z a b u n + (if 0 < cl_diff S (nI n) (cl_met S z n b) then 1 else if 0 ≤ cl_diff S (nI n) (cl_met S z n b) then 0 else if u = 0 then 1 else 0) else cl_cnt S z a b u n
theorem lpv9 {M : ai_M} {pc : Nat} {a b c d e f g k l : Value} {st : List Value} {h h' : ai_H} {r : Option Value} {e' : Value} (x : ai_R M pc [a, b, c, d, e', f, g, k, l] st h r h') (he : e = e') : ai_R M pc [a, b, c, d, e, f, g, k, l] st h r h' := by
  rw [he]; exact x
theorem cnt_is {B : Bk} {lm : Nat} (hok : bk_ok B lm) {wk : Int32} {S : Md} {z i j : Nat} (hG : GI B wk S (nR B) z) (hi : i < 16) (hj : j < 16) (hij : i ≠ j) : cl_cnt S z (nI i) (nI j) 0 z = nI (lne (LM B wk S z (i * 16 + j))) ∧ cl_cnt S z (nI i) (nI j) 1 z = nI (lpo (LM B wk S z (i * 16 + j))) := by
  have e1 : (i * 16 + j) / 16 = i := by omega
  have e2 : (i * 16 + j) % 16 = j := by omega
  have key : ∀ n, n ≤ z → cl_cnt S z (nI i) (nI j) 0 n = nI (lne ((lst (mt_p S z (i * 16 + j)) (kC S) n).map (dK B wk (nI i) (nI j)))) ∧ cl_cnt S z (nI i) (nI j) 1 n = nI (lpo ((lst (mt_p S z (i * 16 + j)) (kC S) n).map (dK B wk (nI i) (nI j)))) := by
    intro n
    induction n with
    | zero => intro _; exact ⟨rfl, rfl⟩
    | succ n ih =>
      intro hn
      obtain ⟨i1, i2⟩ := ih (by omega)
      have hm := met_p (S := S) (z := z) (n := n) hi hj hij
      rw [cl_cnt, cl_cnt, lst, i1, i2]
      by_cases c : mt_p S z (i * 16 + j) n = true
      · have hk := (mt_p_is hok hG (show n < z by omega) (show i * 16 + j < 256 by omega)).1 c
        have hd := mc_d_is hok hG (show n < z by omega) (show i * 16 + j < 256 by omega) hk
        have b := dK_b hok hk.1.2.2.1 hk.1.2.2.2
        unfold mc_d at hd
        rw [e1, e2] at hd b
        rw [e2] at hk
        have em : cl_met S z n (nI j) = mo S z n (nI j) := if_neg hk.1.2.1
        rw [if_pos c, if_pos (hm.1 c), if_pos (hm.1 c), List.map_cons, em]
        exact cnt_step hd b.1 b.2
      · rw [if_neg c, if_neg (fun y => c (hm.2 y)), if_neg (fun y => c (hm.2 y))]
        exact ⟨rfl, rfl⟩
  have := key z (Nat.le_refl z)
  unfold LM
  rw [e1, e2]
  exact this
theorem dX2_differences_0 : decode cX2_differences 0 = .ok (.iconst 0, 1) := by decide +kernel
theorem dX2_differences_1 : decode cX2_differences 1 = .ok (.istore 4, 2) := by decide +kernel
theorem dX2_differences_3 : decode cX2_differences 3 = .ok (.iconst 0, 1) := by decide +kernel
theorem dX2_differences_4 : decode cX2_differences 4 = .ok (.istore 5, 2) := by decide +kernel
theorem dX2_differences_6 : decode cX2_differences 6 = .ok (.iload 5, 2) := by decide +kernel
theorem dX2_differences_8 : decode cX2_differences 8 = .ok (.aload_n 0, 1) := by decide +kernel
theorem dX2_differences_9 : decode cX2_differences 9 = .ok (.getfield 9, 3) := by decide +kernel
theorem dX2_differences_12 : decode cX2_differences 12 = .ok (.if_icmp .ge 76, 3) := by decide +kernel
theorem dX2_differences_15 : decode cX2_differences 15 = .ok (.aload_n 0, 1) := by decide +kernel
theorem dX2_differences_16 : decode cX2_differences 16 = .ok (.iload 5, 2) := by decide +kernel
theorem dX2_differences_18 : decode cX2_differences 18 = .ok (.iload_n 1, 1) := by decide +kernel
theorem dX2_differences_19 : decode cX2_differences 19 = .ok (.invokevirtual 114, 3) := by decide +kernel
theorem dX2_differences_22 : decode cX2_differences 22 = .ok (.ifCond .eq 13, 3) := by decide +kernel
theorem dX2_differences_25 : decode cX2_differences 25 = .ok (.aload_n 0, 1) := by decide +kernel
theorem dX2_differences_26 : decode cX2_differences 26 = .ok (.iload 5, 2) := by decide +kernel
theorem dX2_differences_28 : decode cX2_differences 28 = .ok (.iload_n 2, 1) := by decide +kernel
theorem dX2_differences_29 : decode cX2_differences 29 = .ok (.invokevirtual 117, 3) := by decide +kernel
theorem dX2_differences_32 : decode cX2_differences 32 = .ok (.goto 4, 3) := by decide +kernel
theorem dX2_differences_35 : decode cX2_differences 35 = .ok (.iconst (-1), 1) := by decide +kernel
theorem dX2_differences_36 : decode cX2_differences 36 = .ok (.istore 6, 2) := by decide +kernel
theorem dX2_differences_38 : decode cX2_differences 38 = .ok (.iload 6, 2) := by decide +kernel
theorem dX2_differences_40 : decode cX2_differences 40 = .ok (.iconst (-1), 1) := by decide +kernel
theorem dX2_differences_41 : decode cX2_differences 41 = .ok (.if_icmp .eq 41, 3) := by decide +kernel
theorem dX2_differences_44 : decode cX2_differences 44 = .ok (.aload_n 0, 1) := by decide +kernel
theorem dX2_differences_45 : decode cX2_differences 45 = .ok (.iload 5, 2) := by decide +kernel
theorem dX2_differences_47 : decode cX2_differences 47 = .ok (.iload 6, 2) := by decide +kernel
theorem dX2_differences_49 : decode cX2_differences 49 = .ok (.invokevirtual 120, 3) := by decide +kernel
theorem dX2_differences_52 : decode cX2_differences 52 = .ok (.lstore 7, 2) := by decide +kernel
theorem dX2_differences_54 : decode cX2_differences 54 = .ok (.iload 4, 2) := by decide +kernel
theorem dX2_differences_56 : decode cX2_differences 56 = .ok (.lload 7, 2) := by decide +kernel
theorem dX2_differences_58 : decode cX2_differences 58 = .ok (.lconst 0, 1) := by decide +kernel
theorem dX2_differences_59 : decode cX2_differences 59 = .ok (.lcmp, 1) := by decide +kernel
theorem dX2_differences_60 : decode cX2_differences 60 = .ok (.ifCond .gt 14, 3) := by decide +kernel
theorem dX2_differences_63 : decode cX2_differences 63 = .ok (.lload 7, 2) := by decide +kernel
theorem dX2_differences_65 : decode cX2_differences 65 = .ok (.lconst 0, 1) := by decide +kernel
theorem dX2_differences_66 : decode cX2_differences 66 = .ok (.lcmp, 1) := by decide +kernel
theorem dX2_differences_67 : decode cX2_differences 67 = .ok (.ifCond .ge 11, 3) := by decide +kernel
theorem dX2_differences_70 : decode cX2_differences 70 = .ok (.iload_n 3, 1) := by decide +kernel
theorem dX2_differences_71 : decode cX2_differences 71 = .ok (.ifCond .ne 7, 3) := by decide +kernel
theorem dX2_differences_74 : decode cX2_differences 74 = .ok (.iconst 1, 1) := by decide +kernel
theorem dX2_differences_75 : decode cX2_differences 75 = .ok (.goto 4, 3) := by decide +kernel
theorem dX2_differences_78 : decode cX2_differences 78 = .ok (.iconst 0, 1) := by decide +kernel
theorem dX2_differences_79 : decode cX2_differences 79 = .ok (.iadd, 1) := by decide +kernel
theorem dX2_differences_80 : decode cX2_differences 80 = .ok (.istore 4, 2) := by decide +kernel
theorem dX2_differences_82 : decode cX2_differences 82 = .ok (.iinc 5 1, 3) := by decide +kernel
theorem dX2_differences_85 : decode cX2_differences 85 = .ok (.goto (-79), 3) := by decide +kernel
theorem dX2_differences_88 : decode cX2_differences 88 = .ok (.iload 4, 2) := by decide +kernel
theorem dX2_differences_90 : decode cX2_differences 90 = .ok (.ireturn, 1) := by decide +kernel
set_option maxRecDepth 100000 in
set_option maxHeartbeats 4000000 in
theorem l_X2_differences {h : ai_H} {S : Md} (hcl : cl_at h S) {z : Nat} (hch : cl_ch S z) (a b u : Int32) : ∀ (m i : Nat) (v w y : Value), i ≤ z → z + 1 ≤ i + m → ai_R MX2_differences 6 [.ref 22, .int a, .int b, .int u, .int (cl_cnt S z a b u i), .int (nI i), v, w, y] [] h (some (.int (cl_cnt S z a b u z))) h := by
  have hz4 := hch.2.1
  intro m
  induction m with
  | zero => intro i v w y h1 h2; exact absurd h2 (by omega)
  | succ m ih =>
    intro i v w y hi him
    refine rs_iload (pc := 6) dX2_differences_6 rfl ?_
    refine rs_aload_n (pc := 8) dX2_differences_8 rfl ?_
    refine rs_getf (pc := 9) dX2_differences_9 fX2_9 (mo_lt hcl (by decide)) hcl.2.1 rfl ?_
    refine rs_icmp_ge (tgt := 88) (pc := 12) dX2_differences_12 rfl (fun c_12 => ?_) (fun c_12 => ?_)
    · have hie : i = z := lp_exit hch.1 (by omega) hi c_12
      subst hie
      refine rs_iload (pc := 88) dX2_differences_88 rfl ?_
      exact wk_iret (pc := 90) dX2_differences_90 rfl (rfl) (rfl)
    · have hlt : i < z := lp_go hch.1 (by omega) c_12
      refine rs_aload_n (pc := 15) dX2_differences_15 rfl ?_
      refine rs_iload (pc := 16) dX2_differences_16 rfl ?_
      refine rs_iload_n (pc := 18) dX2_differences_18 rfl ?_
      refine rs_callV (as := [_, _]) (pc := 19) dX2_differences_19 mk_X2_isBy mlX2_114 in_X2_isBy se_X2_isBy rfl (mo_lt hcl (by decide)) hcl.2.1 rfl rfl (Nat.le_of_ble_eq_true rfl) (c_X2_isBy hcl hch.sz _ _) ?_
      rw [by_at hch hlt]
      refine rs_if_eq (tgt := 35) (pc := 22) dX2_differences_22 rfl (fun c_22 => ?_) (fun c_22 => ?_)
      · rw [ite10] at c_22
        refine rs_iconst (v := -1) (pc := 35) dX2_differences_35 rfl ?_
        refine wk_ist6 (pc := 36) dX2_differences_36 (by decide) rfl ?_
        refine rs_iload (pc := 38) dX2_differences_38 rfl ?_
        refine rs_iconst (v := -1) (pc := 40) dX2_differences_40 rfl ?_
        refine rs_icmp_eq (tgt := 82) (pc := 41) dX2_differences_41 rfl (fun c_41 => ?_) (fun c_41 => absurd c_41 (by decide))
        refine wk_iinc5 (v := nI (i + 1)) (pc := 82) dX2_differences_82 (by decide) rfl (nI_1 i) ?_
        refine rs_goto (tgt := 6) (pc := 85) dX2_differences_85 rfl ?_
        refine lpv9 (ih (i + 1) _ _ _ (by omega) (by omega)) ?_
        simp [cl_cnt, c_12, c_22]
      · rw [ite10, Classical.not_not] at c_22
        refine rs_aload_n (pc := 25) dX2_differences_25 rfl ?_
        refine rs_iload (pc := 26) dX2_differences_26 rfl ?_
        refine rs_iload_n (pc := 28) dX2_differences_28 rfl ?_
        refine rs_callV (as := [_, _]) (pc := 29) dX2_differences_29 mk_X2_met mlX2_117 in_X2_met se_X2_met rfl (mo_lt hcl (by decide)) hcl.2.1 rfl rfl (Nat.le_of_ble_eq_true rfl) (c_X2_met hcl hch hlt _) ?_
        refine rs_goto (tgt := 36) (pc := 32) dX2_differences_32 rfl ?_
        refine wk_ist6 (pc := 36) dX2_differences_36 (by decide) rfl ?_
        refine rs_iload (pc := 38) dX2_differences_38 rfl ?_
        refine rs_iconst (v := -1) (pc := 40) dX2_differences_40 rfl ?_
        refine rs_icmp_eq (tgt := 82) (pc := 41) dX2_differences_41 rfl (fun c_41 => ?_) (fun c_41 => ?_)
        · refine wk_iinc5 (v := nI (i + 1)) (pc := 82) dX2_differences_82 (by decide) rfl (nI_1 i) ?_
          refine rs_goto (tgt := 6) (pc := 85) dX2_differences_85 rfl ?_
          refine lpv9 (ih (i + 1) _ _ _ (by omega) (by omega)) ?_
          simp [cl_cnt, c_12, c_22, c_41]
        · refine rs_aload_n (pc := 44) dX2_differences_44 rfl ?_
          refine rs_iload (pc := 45) dX2_differences_45 rfl ?_
          refine rs_iload (pc := 47) dX2_differences_47 rfl ?_
          refine rs_callV (as := [_, _]) (pc := 49) dX2_differences_49 mk_X2_difference mlX2_120 in_X2_difference se_X2_difference rfl (mo_lt hcl (by decide)) hcl.2.1 rfl rfl (Nat.le_of_ble_eq_true rfl) (c_X2_difference hcl hch.sz _ _) ?_
          refine wk_lst7 (pc := 52) dX2_differences_52 (by decide) rfl ?_
          refine rs_iload (pc := 54) dX2_differences_54 rfl ?_
          refine rs_lload (pc := 56) dX2_differences_56 rfl ?_
          refine rs_lconst (v := 0) (pc := 58) dX2_differences_58 rfl ?_
          refine wk_lcmp_gt (tgt := 74) (pc := 59) dX2_differences_59 dX2_differences_60 rfl (fun c_59 => ?_) (fun c_59 => ?_)
          · refine rs_iconst (v := 1) (pc := 74) dX2_differences_74 rfl ?_
            refine rs_goto (tgt := 79) (pc := 75) dX2_differences_75 rfl ?_
            refine rs_iadd (pc := 79) dX2_differences_79 ?_
            refine wk_ist4 (pc := 80) dX2_differences_80 (by decide) rfl ?_
            refine wk_iinc5 (v := nI (i + 1)) (pc := 82) dX2_differences_82 (by decide) rfl (nI_1 i) ?_
            refine rs_goto (tgt := 6) (pc := 85) dX2_differences_85 rfl ?_
            refine lpv9 (ih (i + 1) _ _ _ (by omega) (by omega)) ?_
            simp [cl_cnt, c_12, c_22, c_41, c_59]
          · refine rs_lload (pc := 63) dX2_differences_63 rfl ?_
            refine rs_lconst (v := 0) (pc := 65) dX2_differences_65 rfl ?_
            refine wk_lcmp_ge (tgt := 78) (pc := 66) dX2_differences_66 dX2_differences_67 rfl (fun c_66 => ?_) (fun c_66 => ?_)
            · refine rs_iconst (v := 0) (pc := 78) dX2_differences_78 rfl ?_
              refine rs_iadd (pc := 79) dX2_differences_79 ?_
              refine wk_ist4 (pc := 80) dX2_differences_80 (by decide) rfl ?_
              refine wk_iinc5 (v := nI (i + 1)) (pc := 82) dX2_differences_82 (by decide) rfl (nI_1 i) ?_
              refine rs_goto (tgt := 6) (pc := 85) dX2_differences_85 rfl ?_
              refine lpv9 (ih (i + 1) _ _ _ (by omega) (by omega)) ?_
              simp [cl_cnt, c_12, c_22, c_41, c_59, c_66]
            · refine rs_iload_n (pc := 70) dX2_differences_70 rfl ?_
              refine rs_if_ne (tgt := 78) (pc := 71) dX2_differences_71 rfl (fun c_71 => ?_) (fun c_71 => ?_)
              · refine rs_iconst (v := 0) (pc := 78) dX2_differences_78 rfl ?_
                refine rs_iadd (pc := 79) dX2_differences_79 ?_
                refine wk_ist4 (pc := 80) dX2_differences_80 (by decide) rfl ?_
                refine wk_iinc5 (v := nI (i + 1)) (pc := 82) dX2_differences_82 (by decide) rfl (nI_1 i) ?_
                refine rs_goto (tgt := 6) (pc := 85) dX2_differences_85 rfl ?_
                refine lpv9 (ih (i + 1) _ _ _ (by omega) (by omega)) ?_
                simp [cl_cnt, c_12, c_22, c_41, c_59, c_66, c_71]
              · refine rs_iconst (v := 1) (pc := 74) dX2_differences_74 rfl ?_
                refine rs_goto (tgt := 79) (pc := 75) dX2_differences_75 rfl ?_
                refine rs_iadd (pc := 79) dX2_differences_79 ?_
                refine wk_ist4 (pc := 80) dX2_differences_80 (by decide) rfl ?_
                refine wk_iinc5 (v := nI (i + 1)) (pc := 82) dX2_differences_82 (by decide) rfl (nI_1 i) ?_
                refine rs_goto (tgt := 6) (pc := 85) dX2_differences_85 rfl ?_
                refine lpv9 (ih (i + 1) _ _ _ (by omega) (by omega)) ?_
                simp [cl_cnt, c_12, c_22, c_41, c_59, c_66, c_71]
set_option maxRecDepth 100000 in
set_option maxHeartbeats 4000000 in
theorem c_X2_differences {h : ai_H} {S : Md} (hcl : cl_at h S) {z : Nat} (hch : cl_ch S z) (a b u : Int32) : ai_Met MX2_differences [.ref 22, .int a, .int b, .int u] h (some (.int (cl_cnt S z a b u z))) h := by
  refine ai_met (ls := [.ref 22, .int a, .int b, .int u, .float 0, .float 0, .float 0, .float 0, .float 0]) (by decide) (by simp [ai_en, Value.category]) (by rfl) ?_
  refine rs_iconst (v := 0) (pc := 0) dX2_differences_0 rfl ?_
  refine wk_ist4 (pc := 1) dX2_differences_1 (by decide) rfl ?_
  refine rs_iconst (v := 0) (pc := 3) dX2_differences_3 rfl ?_
  refine wk_ist5 (pc := 4) dX2_differences_4 (by decide) rfl ?_
  exact l_X2_differences hcl hch a b u (z + 1) 0 _ _ _ (by omega) (by omega)
theorem dX11_waysWithHeads_0 : decode cX11_waysWithHeads 0 = .ok (.lconst 0, 1) := by decide +kernel
theorem dX11_waysWithHeads_1 : decode cX11_waysWithHeads 1 = .ok (.lstore_n 2, 1) := by decide +kernel
theorem dX11_waysWithHeads_2 : decode cX11_waysWithHeads 2 = .ok (.lconst 1, 1) := by decide +kernel
theorem dX11_waysWithHeads_3 : decode cX11_waysWithHeads 3 = .ok (.lstore 4, 2) := by decide +kernel
theorem dX11_waysWithHeads_5 : decode cX11_waysWithHeads 5 = .ok (.iconst 0, 1) := by decide +kernel
theorem dX11_waysWithHeads_6 : decode cX11_waysWithHeads 6 = .ok (.istore 6, 2) := by decide +kernel
theorem dX11_waysWithHeads_8 : decode cX11_waysWithHeads 8 = .ok (.iload 6, 2) := by decide +kernel
theorem dX11_waysWithHeads_10 : decode cX11_waysWithHeads 10 = .ok (.iload_n 0, 1) := by decide +kernel
theorem dX11_waysWithHeads_11 : decode cX11_waysWithHeads 11 = .ok (.if_icmp .gt 36, 3) := by decide +kernel
theorem dX11_waysWithHeads_14 : decode cX11_waysWithHeads 14 = .ok (.iload 6, 2) := by decide +kernel
theorem dX11_waysWithHeads_16 : decode cX11_waysWithHeads 16 = .ok (.iload_n 1, 1) := by decide +kernel
theorem dX11_waysWithHeads_17 : decode cX11_waysWithHeads 17 = .ok (.if_icmp .lt 8, 3) := by decide +kernel
theorem dX11_waysWithHeads_20 : decode cX11_waysWithHeads 20 = .ok (.lload_n 2, 1) := by decide +kernel
theorem dX11_waysWithHeads_21 : decode cX11_waysWithHeads 21 = .ok (.lload 4, 2) := by decide +kernel
theorem dX11_waysWithHeads_23 : decode cX11_waysWithHeads 23 = .ok (.ladd, 1) := by decide +kernel
theorem dX11_waysWithHeads_24 : decode cX11_waysWithHeads 24 = .ok (.lstore_n 2, 1) := by decide +kernel
theorem dX11_waysWithHeads_25 : decode cX11_waysWithHeads 25 = .ok (.lload 4, 2) := by decide +kernel
theorem dX11_waysWithHeads_27 : decode cX11_waysWithHeads 27 = .ok (.iload_n 0, 1) := by decide +kernel
theorem dX11_waysWithHeads_28 : decode cX11_waysWithHeads 28 = .ok (.iload 6, 2) := by decide +kernel
theorem dX11_waysWithHeads_30 : decode cX11_waysWithHeads 30 = .ok (.isub, 1) := by decide +kernel
theorem dX11_waysWithHeads_31 : decode cX11_waysWithHeads 31 = .ok (.i2l, 1) := by decide +kernel
theorem dX11_waysWithHeads_32 : decode cX11_waysWithHeads 32 = .ok (.lmul, 1) := by decide +kernel
theorem dX11_waysWithHeads_33 : decode cX11_waysWithHeads 33 = .ok (.iload 6, 2) := by decide +kernel
theorem dX11_waysWithHeads_35 : decode cX11_waysWithHeads 35 = .ok (.iconst 1, 1) := by decide +kernel
theorem dX11_waysWithHeads_36 : decode cX11_waysWithHeads 36 = .ok (.iadd, 1) := by decide +kernel
theorem dX11_waysWithHeads_37 : decode cX11_waysWithHeads 37 = .ok (.i2l, 1) := by decide +kernel
theorem dX11_waysWithHeads_38 : decode cX11_waysWithHeads 38 = .ok (.ldiv, 1) := by decide +kernel
theorem dX11_waysWithHeads_39 : decode cX11_waysWithHeads 39 = .ok (.lstore 4, 2) := by decide +kernel
theorem dX11_waysWithHeads_41 : decode cX11_waysWithHeads 41 = .ok (.iinc 6 1, 3) := by decide +kernel
theorem dX11_waysWithHeads_44 : decode cX11_waysWithHeads 44 = .ok (.goto (-36), 3) := by decide +kernel
theorem dX11_waysWithHeads_47 : decode cX11_waysWithHeads 47 = .ok (.lload_n 2, 1) := by decide +kernel
theorem dX11_waysWithHeads_48 : decode cX11_waysWithHeads 48 = .ok (.lreturn, 1) := by decide +kernel
set_option maxRecDepth 100000 in
set_option maxHeartbeats 4000000 in
theorem l_X11_waysWithHeads {h : ai_H} {n hd : Nat} (hn : n ≤ 60) (hh2 : hd ≤ 400) : ∀ (m k : Nat), k ≤ n + 1 → n + 2 ≤ k + m → ai_R MX11_waysWithHeads 8 [.int (nI n), .int (nI hd), .long (aL (wS n hd k)), .float 0, .long (aL (bin n k)), .float 0, .int (nI k)] [] h (some (.long (aL (wS n hd (n + 1))))) h := by
  intro m
  induction m with
  | zero => intro k h1 h2; exact absurd h2 (by omega)
  | succ m ih =>
    intro k hk0 him
    refine rs_iload (pc := 8) dX11_waysWithHeads_8 rfl ?_
    refine rs_iload_n (pc := 10) dX11_waysWithHeads_10 rfl ?_
    refine rs_icmp_gt (tgt := 47) (pc := 11) dX11_waysWithHeads_11 rfl (fun c_11 => ?_) (fun c_11 => ?_)
    · have hke : n + 1 = k := by rw [i32_lt, nI_toInt (by omega), nI_toInt (by omega)] at c_11; omega
      subst hke
      refine rs_lload_n (pc := 47) dX11_waysWithHeads_47 rfl ?_
      exact wk_lret (pc := 48) dX11_waysWithHeads_48 rfl (rfl) (rfl)
    · have hk : k ≤ n := by rw [i32_lt, nI_toInt (by omega), nI_toInt (by omega)] at c_11; omega
      obtain ⟨b1, b2⟩ := bin_next hn hk
      refine rs_iload (pc := 14) dX11_waysWithHeads_14 rfl ?_
      refine rs_iload_n (pc := 16) dX11_waysWithHeads_16 rfl ?_
      refine rs_icmp_lt (tgt := 25) (pc := 17) dX11_waysWithHeads_17 rfl (fun c_17 => ?_) (fun c_17 => ?_)
      · have hh : ¬ hd ≤ k := by rw [i32_lt, nI_toInt (by omega), nI_toInt (by omega)] at c_17; omega
        refine rs_lload (pc := 25) dX11_waysWithHeads_25 rfl ?_
        refine rs_iload_n (pc := 27) dX11_waysWithHeads_27 rfl ?_
        refine rs_iload (pc := 28) dX11_waysWithHeads_28 rfl ?_
        refine rs_isub (pc := 30) dX11_waysWithHeads_30 ?_
        rw [nI_sb hk]
        refine rs_i2l (pc := 31) dX11_waysWithHeads_31 ?_
        rw [nI_i2l (by omega)]
        refine rs_lmul (pc := 32) dX11_waysWithHeads_32 ?_
        rw [aL_mul]
        refine rs_iload (pc := 33) dX11_waysWithHeads_33 rfl ?_
        refine rs_iconst (v := 1) (pc := 35) dX11_waysWithHeads_35 rfl ?_
        refine rs_iadd (pc := 36) dX11_waysWithHeads_36 ?_
        rw [nI_1]
        refine rs_i2l (pc := 37) dX11_waysWithHeads_37 ?_
        rw [nI_i2l (show k + 1 < 2 ^ 31 by omega)]
        refine rs_ldiv (pc := 38) dX11_waysWithHeads_38 (fun z => by rw [show (0 : Int64) = aL 0 from rfl, aL_eq (by omega) (by omega) (by omega) (by omega)] at z; omega) ?_
        rw [← Int.natCast_mul, aL_quo (by omega) (by omega) (by omega) (by omega), ← Int.natCast_ediv, b2]
        refine wk_lst4 (pc := 39) dX11_waysWithHeads_39 (by decide) rfl ?_
        refine wk_iinc6 (v := nI (k + 1)) (pc := 41) dX11_waysWithHeads_41 (by decide) rfl (nI_1 k) ?_
        refine rs_goto (tgt := 8) (pc := 44) dX11_waysWithHeads_44 rfl ?_
        have e := ih (k + 1) (by omega) (by omega)
        rw [wS] at e
        first
        | (rw [if_pos hh, Int.natCast_add] at e; exact e)
        | (rw [if_neg hh] at e; exact e)
      · have hh : hd ≤ k := by rw [i32_lt, nI_toInt (by omega), nI_toInt (by omega)] at c_17; omega
        refine rs_lload_n (pc := 20) dX11_waysWithHeads_20 rfl ?_
        refine rs_lload (pc := 21) dX11_waysWithHeads_21 rfl ?_
        refine rs_ladd (pc := 23) dX11_waysWithHeads_23 ?_
        rw [aL_add]
        refine wk_lstn2 (pc := 24) dX11_waysWithHeads_24 (by decide) rfl ?_
        refine rs_lload (pc := 25) dX11_waysWithHeads_25 rfl ?_
        refine rs_iload_n (pc := 27) dX11_waysWithHeads_27 rfl ?_
        refine rs_iload (pc := 28) dX11_waysWithHeads_28 rfl ?_
        refine rs_isub (pc := 30) dX11_waysWithHeads_30 ?_
        rw [nI_sb hk]
        refine rs_i2l (pc := 31) dX11_waysWithHeads_31 ?_
        rw [nI_i2l (by omega)]
        refine rs_lmul (pc := 32) dX11_waysWithHeads_32 ?_
        rw [aL_mul]
        refine rs_iload (pc := 33) dX11_waysWithHeads_33 rfl ?_
        refine rs_iconst (v := 1) (pc := 35) dX11_waysWithHeads_35 rfl ?_
        refine rs_iadd (pc := 36) dX11_waysWithHeads_36 ?_
        rw [nI_1]
        refine rs_i2l (pc := 37) dX11_waysWithHeads_37 ?_
        rw [nI_i2l (show k + 1 < 2 ^ 31 by omega)]
        refine rs_ldiv (pc := 38) dX11_waysWithHeads_38 (fun z => by rw [show (0 : Int64) = aL 0 from rfl, aL_eq (by omega) (by omega) (by omega) (by omega)] at z; omega) ?_
        rw [← Int.natCast_mul, aL_quo (by omega) (by omega) (by omega) (by omega), ← Int.natCast_ediv, b2]
        refine wk_lst4 (pc := 39) dX11_waysWithHeads_39 (by decide) rfl ?_
        refine wk_iinc6 (v := nI (k + 1)) (pc := 41) dX11_waysWithHeads_41 (by decide) rfl (nI_1 k) ?_
        refine rs_goto (tgt := 8) (pc := 44) dX11_waysWithHeads_44 rfl ?_
        have e := ih (k + 1) (by omega) (by omega)
        rw [wS] at e
        first
        | (rw [if_pos hh, Int.natCast_add] at e; exact e)
        | (rw [if_neg hh] at e; exact e)
set_option maxRecDepth 100000 in
set_option maxHeartbeats 4000000 in
theorem c_X11_waysWithHeads {h : ai_H} {n hd : Nat} (hn : n ≤ 60) (hh2 : hd ≤ 400) : ai_Met MX11_waysWithHeads [.int (nI n), .int (nI hd)] h (some (.long (aL (wS n hd (n + 1))))) h := by
  refine ai_met (ls := [.int (nI n), .int (nI hd), .float 0, .float 0, .float 0, .float 0, .float 0]) (by decide) (by simp [ai_en, Value.category]) (by rfl) ?_
  refine rs_lconst (v := 0) (pc := 0) dX11_waysWithHeads_0 rfl ?_
  refine wk_lstn2 (pc := 1) dX11_waysWithHeads_1 (by decide) rfl ?_
  refine rs_lconst (v := 1) (pc := 2) dX11_waysWithHeads_2 rfl ?_
  refine wk_lst4 (pc := 3) dX11_waysWithHeads_3 (by decide) rfl ?_
  refine rs_iconst (v := 0) (pc := 5) dX11_waysWithHeads_5 rfl ?_
  refine wk_ist6 (pc := 6) dX11_waysWithHeads_6 (by decide) rfl ?_
  have e := l_X11_waysWithHeads (h := h) hn hh2 (n + 2) 0 (by omega) (by omega)
  rw [bin_0] at e
  exact e
theorem dX11_said_0 : decode cX11_said 0 = .ok (.aload_n 0, 1) := by decide +kernel
theorem dX11_said_1 : decode cX11_said 1 = .ok (.iload_n 1, 1) := by decide +kernel
theorem dX11_said_2 : decode cX11_said 2 = .ok (.iload_n 2, 1) := by decide +kernel
theorem dX11_said_3 : decode cX11_said 3 = .ok (.invokevirtual 178, 3) := by decide +kernel
theorem dX11_said_6 : decode cX11_said 6 = .ok (.ifCond .eq 20, 3) := by decide +kernel
theorem dX11_said_9 : decode cX11_said 9 = .ok (.iload_n 3, 1) := by decide +kernel
theorem dX11_said_10 : decode cX11_said 10 = .ok (.invokestatic 97, 3) := by decide +kernel
theorem dX11_said_13 : decode cX11_said 13 = .ok (.ifCond .eq 13, 3) := by decide +kernel
theorem dX11_said_16 : decode cX11_said 16 = .ok (.iload 4, 2) := by decide +kernel
theorem dX11_said_18 : decode cX11_said 18 = .ok (.iconst 0, 1) := by decide +kernel
theorem dX11_said_19 : decode cX11_said 19 = .ok (.iconst 1, 1) := by decide +kernel
theorem dX11_said_20 : decode cX11_said 20 = .ok (.invokestatic 104, 3) := by decide +kernel
theorem dX11_said_23 : decode cX11_said 23 = .ok (.ifCond .ne 7, 3) := by decide +kernel
theorem dX11_said_26 : decode cX11_said 26 = .ok (.ldc2_w 233, 3) := by decide +kernel
theorem dX11_said_29 : decode cX11_said 29 = .ok (.lreturn, 1) := by decide +kernel
theorem dX11_said_30 : decode cX11_said 30 = .ok (.aload_n 0, 1) := by decide +kernel
theorem dX11_said_31 : decode cX11_said 31 = .ok (.getfield 58, 3) := by decide +kernel
theorem dX11_said_34 : decode cX11_said 34 = .ok (.aload_n 0, 1) := by decide +kernel
theorem dX11_said_35 : decode cX11_said 35 = .ok (.getfield 10, 3) := by decide +kernel
theorem dX11_said_38 : decode cX11_said 38 = .ok (.iload_n 3, 1) := by decide +kernel
theorem dX11_said_39 : decode cX11_said 39 = .ok (.invokevirtual 248, 3) := by decide +kernel
theorem dX11_said_42 : decode cX11_said 42 = .ok (.aload_n 0, 1) := by decide +kernel
theorem dX11_said_43 : decode cX11_said 43 = .ok (.getfield 58, 3) := by decide +kernel
theorem dX11_said_46 : decode cX11_said 46 = .ok (.iload_n 1, 1) := by decide +kernel
theorem dX11_said_47 : decode cX11_said 47 = .ok (.iload_n 2, 1) := by decide +kernel
theorem dX11_said_48 : decode cX11_said 48 = .ok (.iconst 0, 1) := by decide +kernel
theorem dX11_said_49 : decode cX11_said 49 = .ok (.invokevirtual 289, 3) := by decide +kernel
theorem dX11_said_52 : decode cX11_said 52 = .ok (.istore 5, 2) := by decide +kernel
theorem dX11_said_54 : decode cX11_said 54 = .ok (.iload 5, 2) := by decide +kernel
theorem dX11_said_56 : decode cX11_said 56 = .ok (.bipush 60, 2) := by decide +kernel
theorem dX11_said_58 : decode cX11_said 58 = .ok (.if_icmp .le 7, 3) := by decide +kernel
theorem dX11_said_61 : decode cX11_said 61 = .ok (.ldc2_w 255, 3) := by decide +kernel
theorem dX11_said_64 : decode cX11_said 64 = .ok (.lreturn, 1) := by decide +kernel
theorem dX11_said_65 : decode cX11_said 65 = .ok (.iload 4, 2) := by decide +kernel
theorem dX11_said_67 : decode cX11_said 67 = .ok (.iconst 1, 1) := by decide +kernel
theorem dX11_said_68 : decode cX11_said 68 = .ok (.if_icmp .ne 10, 3) := by decide +kernel
theorem dX11_said_71 : decode cX11_said 71 = .ok (.lconst 1, 1) := by decide +kernel
theorem dX11_said_72 : decode cX11_said 72 = .ok (.iload 5, 2) := by decide +kernel
theorem dX11_said_74 : decode cX11_said 74 = .ok (.lshl, 1) := by decide +kernel
theorem dX11_said_75 : decode cX11_said 75 = .ok (.goto 18, 3) := by decide +kernel
theorem dX11_said_78 : decode cX11_said 78 = .ok (.iload 5, 2) := by decide +kernel
theorem dX11_said_80 : decode cX11_said 80 = .ok (.aload_n 0, 1) := by decide +kernel
theorem dX11_said_81 : decode cX11_said 81 = .ok (.getfield 58, 3) := by decide +kernel
theorem dX11_said_84 : decode cX11_said 84 = .ok (.iload_n 1, 1) := by decide +kernel
theorem dX11_said_85 : decode cX11_said 85 = .ok (.iload_n 2, 1) := by decide +kernel
theorem dX11_said_86 : decode cX11_said 86 = .ok (.iconst 1, 1) := by decide +kernel
theorem dX11_said_87 : decode cX11_said 87 = .ok (.invokevirtual 289, 3) := by decide +kernel
theorem dX11_said_90 : decode cX11_said 90 = .ok (.invokestatic 293, 3) := by decide +kernel
theorem dX11_said_93 : decode cX11_said 93 = .ok (.lreturn, 1) := by decide +kernel
set_option maxRecDepth 100000 in
set_option maxHeartbeats 4000000 in
theorem c_X11_said {h : ai_H} {tb lm : Int32} {B : Bk} {ln : Nat} (hx : x_at h tb lm) (hB : bk_at h 1 B) (hok : bk_ok B ln) (hs : scr h) (a b k x : Int32) : ai_QM MX11_said [.ref 0, .int a, .int b, .int k, .int x] h (fun r g => fr 22 306 h g ∧ scr g ∧ (((xs_pair B a b = 0 ∨ bi_in k 0 9999 = 0 ∨ bi_in x 0 1 = 0) ∧ r = some (.long (-1))) ∨ (¬ (xs_pair B a b = 0 ∨ bi_in k 0 9999 = 0 ∨ bi_in x 0 1 = 0) ∧ (∃ i j, i < nO B ∧ j < nO B ∧ a = nI i ∧ b = nI j ∧ ∃ S z, GI B k S (nR B) z ∧ r = some (.long (uu_said (LM B k S z (i * 16 + j)) x)))))) := by
  obtain ⟨-, -, -, ⟨S0, hcl⟩, -⟩ := id hs
  have hn16 := hok.2.1.2.1
  refine qm_of (ls := [.ref 0, .int a, .int b, .int k, .int x, .float 0]) (by decide) (by simp [ai_en, Value.category]) (by rfl) ?_
  refine wq (fun _ _ kk => rs_aload_n (pc := 0) dX11_said_0 rfl kk) ?_
  refine wq (fun _ _ kk => rs_iload_n (pc := 1) dX11_said_1 rfl kk) ?_
  refine wq (fun _ _ kk => rs_iload_n (pc := 2) dX11_said_2 rfl kk) ?_
  refine wq (fun _ _ kk => rs_callV (as := [_, _]) (pc := 3) dX11_said_3 mk_X11_isPair mlX11_178 in_X11_isPair se_X11_isPair rfl (x_lt hx (by decide)) hx.2 rfl rfl (Nat.le_of_ble_eq_true rfl) (c_X11_isPair hx hB a b) kk) ?_
  refine wq_br (fun _ _ kt kf => rs_if_eq (tgt := 26) (pc := 6) dX11_said_6 rfl kt kf) (fun c_6 => ?_) (fun c_6 => ?_)
  · refine wq (fun _ _ kk => rs_ldc2 (pc := 26) dX11_said_26 cnX11_233 kk) ?_
    refine wq_ret ?_ (rs_lret (pc := 29) dX11_said_29 rfl)
    exact ⟨fr.rf, hs, Or.inl ⟨by simp [c_6], rfl⟩⟩
  · refine wq (fun _ _ kk => rs_iload_n (pc := 9) dX11_said_9 rfl kk) ?_
    refine wq (fun _ _ kk => rs_callS (as := [_]) (pc := 10) dX11_said_10 mk_X11_isWeek mlX11_97 st_X11_isWeek rfl rfl (Nat.le_of_ble_eq_true rfl) (c_X11_isWeek _) kk) ?_
    refine wq_br (fun _ _ kt kf => rs_if_eq (tgt := 26) (pc := 13) dX11_said_13 rfl kt kf) (fun c_13 => ?_) (fun c_13 => ?_)
    · refine wq (fun _ _ kk => rs_ldc2 (pc := 26) dX11_said_26 cnX11_233 kk) ?_
      refine wq_ret ?_ (rs_lret (pc := 29) dX11_said_29 rfl)
      exact ⟨fr.rf, hs, Or.inl ⟨by simp [c_6, c_13], rfl⟩⟩
    · refine wq (fun _ _ kk => rs_iload (pc := 16) dX11_said_16 rfl kk) ?_
      refine wq (fun _ _ kk => rs_iconst (v := 0) (pc := 18) dX11_said_18 rfl kk) ?_
      refine wq (fun _ _ kk => rs_iconst (v := 1) (pc := 19) dX11_said_19 rfl kk) ?_
      refine wq (fun _ _ kk => rs_callS (as := [_, _, _]) (pc := 20) dX11_said_20 mk_X11_isWithin mlX11_104 st_X11_isWithin rfl rfl (Nat.le_of_ble_eq_true rfl) (c_X11_isWithin) kk) ?_
      refine wq_bn (fun _ _ kt kf => rs_if_ne (tgt := 30) (pc := 23) dX11_said_23 rfl kt kf) (fun c_23 => ?_) (fun c_23 => ?_)
      · refine wq (fun _ _ kk => rs_aload_n (pc := 30) dX11_said_30 rfl kk) ?_
        refine wq (fun _ _ kk => rs_getf (pc := 31) dX11_said_31 fX11_58 (x_lt hx (by decide)) hx.2 rfl kk) ?_
        refine wq (fun _ _ kk => rs_aload_n (pc := 34) dX11_said_34 rfl kk) ?_
        refine wq (fun _ _ kk => rs_getf (pc := 35) dX11_said_35 fX11_10 (x_lt hx (by decide)) hx.2 rfl kk) ?_
        refine wq (fun _ _ kk => rs_iload_n (pc := 38) dX11_said_38 rfl kk) ?_
        have hgu : ¬ (xs_pair B a b = 0 ∨ bi_in k 0 9999 = 0 ∨ bi_in x 0 1 = 0) := by simp [c_6, c_13, c_23]
        obtain ⟨i, j, hi, hj, hij, rfl, rfl⟩ := pair_ex hok c_6
        obtain ⟨rv_39, hc_39, ⟨rfl, ee_39, S, z, hzR, hG, hcl_39⟩, hm_39⟩ := c_X2_gather hcl hB (bk_ok_rows hok) (sz := nR B) hok.2.2.2.2.1.2.1 hok.2.2.2.2.1.1 k
        refine wq (fun _ _ kk => rs_callV (as := [_, _]) (pc := 39) dX11_said_39 mk_X2_gather mlX11_248 in_X2_gather se_X2_gather rfl (mo_lt hcl (by decide)) hcl.2.1 rfl rfl (Nat.le_of_ble_eq_true rfl) (hm_39) kk) ?_
        replace hcl := hcl_39
        replace hx := x_at.keep hx ee_39.1 (ee_39.2.2 0 (by decide))
        replace hB := hB.keep ee_39.1 (fun j _ _ => ee_39.2.2 j (by omega))
        have hz4 := hG.1.2.1
        obtain ⟨cn1, cn2⟩ := cnt_is hok hG (show i < 16 by omega) (show j < 16 by omega) hij
        have hlr := ((LM_rows hok hG).1 (i * 16 + j) (by omega)).1
        have hle := lne_le (l := (LM B k S z (i * 16 + j)))
        have hlp := lpo_le (l := (LM B k S z (i * 16 + j)))
        refine wq (fun _ _ kk => rs_aload_n (pc := 42) dX11_said_42 rfl kk) ?_
        refine wq (fun _ _ kk => rs_getf (pc := 43) dX11_said_43 fX11_58 (x_lt hx (by decide)) hx.2 rfl kk) ?_
        refine wq (fun _ _ kk => rs_iload_n (pc := 46) dX11_said_46 rfl kk) ?_
        refine wq (fun _ _ kk => rs_iload_n (pc := 47) dX11_said_47 rfl kk) ?_
        refine wq (fun _ _ kk => rs_iconst (v := 0) (pc := 48) dX11_said_48 rfl kk) ?_
        refine wq (fun _ _ kk => rs_callV (as := [_, _, _]) (pc := 49) dX11_said_49 mk_X2_differences mlX11_289 in_X2_differences se_X2_differences rfl (mo_lt hcl (by decide)) hcl.2.1 rfl rfl (Nat.le_of_ble_eq_true rfl) (c_X2_differences hcl hG.1 _ _ _) kk) ?_
        rw [cn1]
        refine wq (fun _ _ kk => wk_ist5 (pc := 52) dX11_said_52 (by decide) rfl kk) ?_
        refine wq (fun _ _ kk => rs_iload (pc := 54) dX11_said_54 rfl kk) ?_
        refine wq (fun _ _ kk => rs_bipush (v := 60) (pc := 56) dX11_said_56 rfl kk) ?_
        refine wq_br (fun _ _ kt kf => rs_icmp_le (tgt := 65) (pc := 58) dX11_said_58 rfl kt kf) (fun c_58 => ?_) (fun c_58 => ?_)
        · rw [i32_le, nI_toInt (by omega), show (60 : Int32).toInt = 60 from rfl] at c_58
          refine wq (fun _ _ kk => rs_iload (pc := 65) dX11_said_65 rfl kk) ?_
          refine wq (fun _ _ kk => rs_iconst (v := 1) (pc := 67) dX11_said_67 rfl kk) ?_
          refine wq_bn (fun _ _ kt kf => rs_icmp_ne (tgt := 78) (pc := 68) dX11_said_68 rfl kt kf) (fun c_68 => ?_) (fun c_68 => ?_)
          · refine wq (fun _ _ kk => rs_iload (pc := 78) dX11_said_78 rfl kk) ?_
            refine wq (fun _ _ kk => rs_aload_n (pc := 80) dX11_said_80 rfl kk) ?_
            refine wq (fun _ _ kk => rs_getf (pc := 81) dX11_said_81 fX11_58 (x_lt hx (by decide)) hx.2 rfl kk) ?_
            refine wq (fun _ _ kk => rs_iload_n (pc := 84) dX11_said_84 rfl kk) ?_
            refine wq (fun _ _ kk => rs_iload_n (pc := 85) dX11_said_85 rfl kk) ?_
            refine wq (fun _ _ kk => rs_iconst (v := 1) (pc := 86) dX11_said_86 rfl kk) ?_
            refine wq (fun _ _ kk => rs_callV (as := [_, _, _]) (pc := 87) dX11_said_87 mk_X2_differences mlX11_289 in_X2_differences se_X2_differences rfl (mo_lt hcl (by decide)) hcl.2.1 rfl rfl (Nat.le_of_ble_eq_true rfl) (c_X2_differences hcl hG.1 _ _ _) kk) ?_
            rw [cn2]
            refine wq (fun _ _ kk => rs_callS (as := [_, _]) (pc := 90) dX11_said_90 mk_X11_waysWithHeads mlX11_293 st_X11_waysWithHeads rfl rfl (Nat.le_of_ble_eq_true rfl) (c_X11_waysWithHeads (by omega) (by omega)) kk) ?_
            refine wq_ret ?_ (rs_lret (pc := 93) dX11_said_93 rfl)
            exact ⟨fr.up (lo := 22) (hi := 34) ee_39 (by decide) (by decide), hs.gath ee_39 ⟨_, hcl⟩, Or.inr ⟨hgu, i, j, hi, hj, rfl, rfl, S, z, hG, by unfold uu_said; rw [if_neg (by omega)]; first | rw [if_pos c_68] | rw [if_neg c_68]⟩⟩
          · refine wq (fun _ _ kk => rs_lconst (v := 1) (pc := 71) dX11_said_71 rfl kk) ?_
            refine wq (fun _ _ kk => rs_iload (pc := 72) dX11_said_72 rfl kk) ?_
            refine wq (fun _ _ kk => rs_lshl (pc := 74) dX11_said_74 kk) ?_
            refine wq (fun _ _ kk => rs_goto (tgt := 93) (pc := 75) dX11_said_75 rfl kk) ?_
            refine wq_ret ?_ (rs_lret (pc := 93) dX11_said_93 rfl)
            exact ⟨fr.up (lo := 22) (hi := 34) ee_39 (by decide) (by decide), hs.gath ee_39 ⟨_, hcl⟩, Or.inr ⟨hgu, i, j, hi, hj, rfl, rfl, S, z, hG, by unfold uu_said; rw [if_neg (by omega)]; first | rw [if_pos c_68] | rw [if_neg c_68]⟩⟩
        · rw [i32_le, nI_toInt (by omega), show (60 : Int32).toInt = 60 from rfl] at c_58
          refine wq (fun _ _ kk => rs_ldc2 (pc := 61) dX11_said_61 cnX11_255 kk) ?_
          refine wq_ret ?_ (rs_lret (pc := 64) dX11_said_64 rfl)
          exact ⟨fr.up (lo := 22) (hi := 34) ee_39 (by decide) (by decide), hs.gath ee_39 ⟨_, hcl⟩, Or.inr ⟨hgu, i, j, hi, hj, rfl, rfl, S, z, hG, by unfold uu_said; rw [if_pos (by omega)]⟩⟩
      · refine wq (fun _ _ kk => rs_ldc2 (pc := 26) dX11_said_26 cnX11_233 kk) ?_
        refine wq_ret ?_ (rs_lret (pc := 29) dX11_said_29 rfl)
        exact ⟨fr.rf, hs, Or.inl ⟨by simp [c_6, c_13, c_23], rfl⟩⟩
/-- the row of ways alone has changed -/
def rww (V W : Md) : Prop := W.1 = V.1 ∧ W.2.1 = V.2.1 ∧ W.2.2.1 = V.2.2.1
theorem rww.rf {V : Md} : rww V V := ⟨rfl, rfl, rfl⟩
theorem rww.al {V W : Md} {j : Nat} {f : Nat → Int64} (a : rww V W) : rww V (md_al W j f) := a
theorem rww.mq {V W : Md} (a : rww V W) : mq V W := ⟨fun k _ => by rw [a.1], fun k _ => by rw [a.2.2]⟩
def rw0 (i : Nat) (W : Md) : Prop := ∀ t, t < i → W.2.2.2 65 t = aL (bin 0 t)
theorem rw0_1 {i : Nat} {W : Md} {x : Int64} (h : rw0 i W) (hx : x = aL (bin 0 i)) : rw0 (i + 1) (md_al W 65 (vp_updL (W.2.2.2 65) i x)) := by
  intro t ht
  show vp_updL (W.2.2.2 65) i x t = _
  by_cases e : t = i
  · subst e; rw [show vp_updL (W.2.2.2 65) t x t = x from if_pos rfl]; exact hx
  · rw [show vp_updL (W.2.2.2 65) i x t = W.2.2.2 65 t from if_neg e]; exact h t (by omega)
/-- places above k are of the next row, the others of row i -/
def rwk (i k : Nat) (W : Md) : Prop := ∀ t, t < 62 → W.2.2.2 65 t = aL (if k < t then bin (i + 1) t else bin i t)
theorem rwk_s {i k : Nat} {W : Md} {x : Int64} (h : rwk i (k + 1) W) (hk : k + 1 < 62) (hx : x = W.2.2.2 65 (k + 1) + W.2.2.2 65 k) : rwk i k (md_al W 65 (vp_updL (W.2.2.2 65) (k + 1) x)) := by
  intro t ht
  show vp_updL (W.2.2.2 65) (k + 1) x t = _
  by_cases e : t = k + 1
  · subst e
    rw [show vp_updL (W.2.2.2 65) (k + 1) x (k + 1) = x from if_pos rfl, hx, h (k + 1) ht, h k (by omega), if_neg (by omega), if_neg (by omega), if_pos (by omega), aL_add, ← Int.natCast_add]
    congr 2
    show _ = bin i k + bin i (k + 1)
    omega
  · rw [show vp_updL (W.2.2.2 65) (k + 1) x t = W.2.2.2 65 t from if_neg e, h t ht]
    by_cases c : k + 1 < t
    · rw [if_pos c, if_pos (by omega)]
    · rw [if_neg c, if_neg (by omega)]
theorem rwk_0 {i : Nat} {W : Md} (h : ∀ t, t < 62 → W.2.2.2 65 t = aL (bin i t)) : rwk i (i + 1) W := by
  intro t ht
  rw [h t ht]
  by_cases c : i + 1 < t
  · rw [if_pos c, bin_0k i t (by omega), bin_0k (i + 1) t c]
  · rw [if_neg c]
theorem rwk_e {i : Nat} {W : Md} (h : rwk i 0 W) : ∀ t, t < 62 → W.2.2.2 65 t = aL (bin (i + 1) t) := by
  intro t ht
  rw [h t ht]
  by_cases c : 0 < t
  · rw [if_pos c]
  · rw [if_neg c, show t = 0 by omega, bin_0, bin_0]
theorem dX12_said_0 : decode cX12_said 0 = .ok (.aload_n 0, 1) := by decide +kernel
theorem dX12_said_1 : decode cX12_said 1 = .ok (.iload_n 1, 1) := by decide +kernel
theorem dX12_said_2 : decode cX12_said 2 = .ok (.iload_n 2, 1) := by decide +kernel
theorem dX12_said_3 : decode cX12_said 3 = .ok (.iload_n 3, 1) := by decide +kernel
theorem dX12_said_4 : decode cX12_said 4 = .ok (.invokevirtual 421, 3) := by decide +kernel
theorem dX12_said_7 : decode cX12_said 7 = .ok (.ifCond .eq 19, 3) := by decide +kernel
theorem dX12_said_10 : decode cX12_said 10 = .ok (.iload_n 1, 1) := by decide +kernel
theorem dX12_said_11 : decode cX12_said 11 = .ok (.iload_n 2, 1) := by decide +kernel
theorem dX12_said_12 : decode cX12_said 12 = .ok (.if_icmp .eq 14, 3) := by decide +kernel
theorem dX12_said_15 : decode cX12_said 15 = .ok (.iload 4, 2) := by decide +kernel
theorem dX12_said_17 : decode cX12_said 17 = .ok (.i2l, 1) := by decide +kernel
theorem dX12_said_18 : decode cX12_said 18 = .ok (.lconst 0, 1) := by decide +kernel
theorem dX12_said_19 : decode cX12_said 19 = .ok (.lconst 1, 1) := by decide +kernel
theorem dX12_said_20 : decode cX12_said 20 = .ok (.invokestatic 181, 3) := by decide +kernel
theorem dX12_said_23 : decode cX12_said 23 = .ok (.ifCond .ne 7, 3) := by decide +kernel
theorem dX12_said_26 : decode cX12_said 26 = .ok (.ldc2_w 446, 3) := by decide +kernel
theorem dX12_said_29 : decode cX12_said 29 = .ok (.lreturn, 1) := by decide +kernel
theorem dX12_said_30 : decode cX12_said 30 = .ok (.aload_n 0, 1) := by decide +kernel
theorem dX12_said_31 : decode cX12_said 31 = .ok (.iload_n 3, 1) := by decide +kernel
theorem dX12_said_32 : decode cX12_said 32 = .ok (.invokevirtual 426, 3) := by decide +kernel
theorem dX12_said_35 : decode cX12_said 35 = .ok (.aload_n 0, 1) := by decide +kernel
theorem dX12_said_36 : decode cX12_said 36 = .ok (.getfield 120, 3) := by decide +kernel
theorem dX12_said_39 : decode cX12_said 39 = .ok (.bipush 16, 2) := by decide +kernel
theorem dX12_said_41 : decode cX12_said 41 = .ok (.iload_n 1, 1) := by decide +kernel
theorem dX12_said_42 : decode cX12_said 42 = .ok (.imul, 1) := by decide +kernel
theorem dX12_said_43 : decode cX12_said 43 = .ok (.iload_n 2, 1) := by decide +kernel
theorem dX12_said_44 : decode cX12_said 44 = .ok (.iadd, 1) := by decide +kernel
theorem dX12_said_45 : decode cX12_said 45 = .ok (.iaload, 1) := by decide +kernel
theorem dX12_said_46 : decode cX12_said 46 = .ok (.istore 5, 2) := by decide +kernel
theorem dX12_said_48 : decode cX12_said 48 = .ok (.iload 5, 2) := by decide +kernel
theorem dX12_said_50 : decode cX12_said 50 = .ok (.bipush 60, 2) := by decide +kernel
theorem dX12_said_52 : decode cX12_said 52 = .ok (.if_icmp .le 7, 3) := by decide +kernel
theorem dX12_said_55 : decode cX12_said 55 = .ok (.ldc2_w 460, 3) := by decide +kernel
theorem dX12_said_58 : decode cX12_said 58 = .ok (.lreturn, 1) := by decide +kernel
theorem dX12_said_59 : decode cX12_said 59 = .ok (.iload 4, 2) := by decide +kernel
theorem dX12_said_61 : decode cX12_said 61 = .ok (.iconst 1, 1) := by decide +kernel
theorem dX12_said_62 : decode cX12_said 62 = .ok (.if_icmp .ne 8, 3) := by decide +kernel
theorem dX12_said_65 : decode cX12_said 65 = .ok (.lconst 1, 1) := by decide +kernel
theorem dX12_said_66 : decode cX12_said 66 = .ok (.iload 5, 2) := by decide +kernel
theorem dX12_said_68 : decode cX12_said 68 = .ok (.lshl, 1) := by decide +kernel
theorem dX12_said_69 : decode cX12_said 69 = .ok (.lreturn, 1) := by decide +kernel
theorem dX12_said_70 : decode cX12_said 70 = .ok (.iconst 0, 1) := by decide +kernel
theorem dX12_said_71 : decode cX12_said 71 = .ok (.istore 6, 2) := by decide +kernel
theorem dX12_said_73 : decode cX12_said 73 = .ok (.iload 6, 2) := by decide +kernel
theorem dX12_said_75 : decode cX12_said 75 = .ok (.bipush 62, 2) := by decide +kernel
theorem dX12_said_77 : decode cX12_said 77 = .ok (.if_icmp .ge 26, 3) := by decide +kernel
theorem dX12_said_80 : decode cX12_said 80 = .ok (.aload_n 0, 1) := by decide +kernel
theorem dX12_said_81 : decode cX12_said 81 = .ok (.getfield 159, 3) := by decide +kernel
theorem dX12_said_84 : decode cX12_said 84 = .ok (.iload 6, 2) := by decide +kernel
theorem dX12_said_86 : decode cX12_said 86 = .ok (.iload 6, 2) := by decide +kernel
theorem dX12_said_88 : decode cX12_said 88 = .ok (.ifCond .ne 7, 3) := by decide +kernel
theorem dX12_said_91 : decode cX12_said 91 = .ok (.lconst 1, 1) := by decide +kernel
theorem dX12_said_92 : decode cX12_said 92 = .ok (.goto 4, 3) := by decide +kernel
theorem dX12_said_95 : decode cX12_said 95 = .ok (.lconst 0, 1) := by decide +kernel
theorem dX12_said_96 : decode cX12_said 96 = .ok (.lastore, 1) := by decide +kernel
theorem dX12_said_97 : decode cX12_said 97 = .ok (.iinc 6 1, 3) := by decide +kernel
theorem dX12_said_100 : decode cX12_said 100 = .ok (.goto (-27), 3) := by decide +kernel
theorem dX12_said_103 : decode cX12_said 103 = .ok (.iconst 0, 1) := by decide +kernel
theorem dX12_said_104 : decode cX12_said 104 = .ok (.istore 6, 2) := by decide +kernel
theorem dX12_said_106 : decode cX12_said 106 = .ok (.iload 6, 2) := by decide +kernel
theorem dX12_said_108 : decode cX12_said 108 = .ok (.iload 5, 2) := by decide +kernel
theorem dX12_said_110 : decode cX12_said 110 = .ok (.if_icmp .ge 45, 3) := by decide +kernel
theorem dX12_said_113 : decode cX12_said 113 = .ok (.iload 6, 2) := by decide +kernel
theorem dX12_said_115 : decode cX12_said 115 = .ok (.iconst 1, 1) := by decide +kernel
theorem dX12_said_116 : decode cX12_said 116 = .ok (.iadd, 1) := by decide +kernel
theorem dX12_said_117 : decode cX12_said 117 = .ok (.istore 7, 2) := by decide +kernel
theorem dX12_said_119 : decode cX12_said 119 = .ok (.iload 7, 2) := by decide +kernel
theorem dX12_said_121 : decode cX12_said 121 = .ok (.ifCond .le 28, 3) := by decide +kernel
theorem dX12_said_124 : decode cX12_said 124 = .ok (.aload_n 0, 1) := by decide +kernel
theorem dX12_said_125 : decode cX12_said 125 = .ok (.getfield 159, 3) := by decide +kernel
theorem dX12_said_128 : decode cX12_said 128 = .ok (.iload 7, 2) := by decide +kernel
theorem dX12_said_130 : decode cX12_said 130 = .ok (.dup2, 1) := by decide +kernel
theorem dX12_said_131 : decode cX12_said 131 = .ok (.laload, 1) := by decide +kernel
theorem dX12_said_132 : decode cX12_said 132 = .ok (.aload_n 0, 1) := by decide +kernel
theorem dX12_said_133 : decode cX12_said 133 = .ok (.getfield 159, 3) := by decide +kernel
theorem dX12_said_136 : decode cX12_said 136 = .ok (.iload 7, 2) := by decide +kernel
theorem dX12_said_138 : decode cX12_said 138 = .ok (.iconst 1, 1) := by decide +kernel
theorem dX12_said_139 : decode cX12_said 139 = .ok (.isub, 1) := by decide +kernel
theorem dX12_said_140 : decode cX12_said 140 = .ok (.laload, 1) := by decide +kernel
theorem dX12_said_141 : decode cX12_said 141 = .ok (.ladd, 1) := by decide +kernel
theorem dX12_said_142 : decode cX12_said 142 = .ok (.lastore, 1) := by decide +kernel
theorem dX12_said_143 : decode cX12_said 143 = .ok (.iinc 7 (-1), 3) := by decide +kernel
theorem dX12_said_146 : decode cX12_said 146 = .ok (.goto (-27), 3) := by decide +kernel
theorem dX12_said_149 : decode cX12_said 149 = .ok (.iinc 6 1, 3) := by decide +kernel
theorem dX12_said_152 : decode cX12_said 152 = .ok (.goto (-46), 3) := by decide +kernel
theorem dX12_said_155 : decode cX12_said 155 = .ok (.lconst 0, 1) := by decide +kernel
theorem dX12_said_156 : decode cX12_said 156 = .ok (.lstore 6, 2) := by decide +kernel
theorem dX12_said_158 : decode cX12_said 158 = .ok (.aload_n 0, 1) := by decide +kernel
theorem dX12_said_159 : decode cX12_said 159 = .ok (.getfield 123, 3) := by decide +kernel
theorem dX12_said_162 : decode cX12_said 162 = .ok (.bipush 16, 2) := by decide +kernel
theorem dX12_said_164 : decode cX12_said 164 = .ok (.iload_n 1, 1) := by decide +kernel
theorem dX12_said_165 : decode cX12_said 165 = .ok (.imul, 1) := by decide +kernel
theorem dX12_said_166 : decode cX12_said 166 = .ok (.iload_n 2, 1) := by decide +kernel
theorem dX12_said_167 : decode cX12_said 167 = .ok (.iadd, 1) := by decide +kernel
theorem dX12_said_168 : decode cX12_said 168 = .ok (.iaload, 1) := by decide +kernel
theorem dX12_said_169 : decode cX12_said 169 = .ok (.istore 8, 2) := by decide +kernel
theorem dX12_said_171 : decode cX12_said 171 = .ok (.iload 8, 2) := by decide +kernel
theorem dX12_said_173 : decode cX12_said 173 = .ok (.iload 5, 2) := by decide +kernel
theorem dX12_said_175 : decode cX12_said 175 = .ok (.if_icmp .gt 21, 3) := by decide +kernel
theorem dX12_said_178 : decode cX12_said 178 = .ok (.lload 6, 2) := by decide +kernel
theorem dX12_said_180 : decode cX12_said 180 = .ok (.aload_n 0, 1) := by decide +kernel
theorem dX12_said_181 : decode cX12_said 181 = .ok (.getfield 159, 3) := by decide +kernel
theorem dX12_said_184 : decode cX12_said 184 = .ok (.iload 8, 2) := by decide +kernel
theorem dX12_said_186 : decode cX12_said 186 = .ok (.laload, 1) := by decide +kernel
theorem dX12_said_187 : decode cX12_said 187 = .ok (.ladd, 1) := by decide +kernel
theorem dX12_said_188 : decode cX12_said 188 = .ok (.lstore 6, 2) := by decide +kernel
theorem dX12_said_190 : decode cX12_said 190 = .ok (.iinc 8 1, 3) := by decide +kernel
theorem dX12_said_193 : decode cX12_said 193 = .ok (.goto (-22), 3) := by decide +kernel
theorem dX12_said_196 : decode cX12_said 196 = .ok (.lload 6, 2) := by decide +kernel
theorem dX12_said_198 : decode cX12_said 198 = .ok (.lreturn, 1) := by decide +kernel
set_option maxRecDepth 100000 in
set_option maxHeartbeats 4000000 in
theorem l1_X12_said {h : ai_H} {V : Md} {i j n : Nat} {k x : Int32} {u7 u8 : Value} {Q : Option Value → ai_H → Prop} (kx : ∀ (W : Md) (g : ai_H), md_ext h g → md_at g W → rww V W → rw0 62 W → ai_W MX12_said 103 [.ref 307, .int (nI i), .int (nI j), .int k, .int x, .int (nI n), .int (nI 62), u7, u8] [] g Q) : ∀ (m t : Nat) (W : Md) (g : ai_H), t ≤ 62 → 63 ≤ t + m → md_ext h g → md_at g W → rww V W → rw0 t W → ai_W MX12_said 73 [.ref 307, .int (nI i), .int (nI j), .int k, .int x, .int (nI n), .int (nI t), u7, u8] [] g Q := by
  intro m
  induction m with
  | zero => intro t W g h1 h2; exact absurd h2 (by omega)
  | succ m ih =>
    intro t W g ht0 him E0 hmd hrW hv
    refine wq (fun _ _ kk => rs_iload (pc := 73) dX12_said_73 rfl kk) ?_
    refine wq (fun _ _ kk => rs_bipush (v := 62) (pc := 75) dX12_said_75 rfl kk) ?_
    refine wq_br (fun _ _ kt kf => rs_icmp_ge (tgt := 103) (pc := 77) dX12_said_77 rfl kt kf) (fun c_77 => ?_) (fun c_77 => ?_)
    · have hte : t = 62 := lp_exit (x := 62) rfl (by decide) ht0 c_77
      subst hte
      exact kx W g E0 hmd hrW hv
    · have ht : t < 62 := lp_go (x := 62) rfl (by omega) c_77
      refine wq (fun _ _ kk => rs_aload_n (pc := 80) dX12_said_80 rfl kk) ?_
      refine wq (fun _ _ kk => rs_getf (pc := 81) dX12_said_81 fX12_159 (md_lt hmd (by decide)) hmd.2.1 rfl kk) ?_
      refine wq (fun _ _ kk => rs_iload (pc := 84) dX12_said_84 rfl kk) ?_
      refine wq (fun _ _ kk => rs_iload (pc := 86) dX12_said_86 rfl kk) ?_
      refine wq_bn (fun _ _ kt kf => rs_if_ne (tgt := 95) (pc := 88) dX12_said_88 rfl kt kf) (fun c_88 => ?_) (fun c_88 => ?_)
      · rw [nI_z (by omega)] at c_88
        refine wq (fun _ _ kk => rs_lconst (v := 0) (pc := 95) dX12_said_95 rfl kk) ?_
        refine wq (fun _ _ kk => rs_last (pc := 96) dX12_said_96 (md_lt hmd (by decide)) (md_getl (d := 49) (k := 65) (kd := 1) (n := 62) rfl (by decide) hmd) (vp_in_nI (n := t) (N := 62) (by omega) (by decide)) kk) ?_
        refine wq_gen (fun h_1 e_1 => ?_)
        obtain ⟨m_1, s_1, g_1, o_1⟩ := ai_e1 e_1
        replace hmd := md_at_al (d := 49) rfl (by decide) hmd m_1 g_1 o_1
        have E_1 := (E0).trans (md_ext_of m_1 s_1 o_1 (by decide))
        refine wq (fun _ _ kk => wk_iinc6 (v := nI (t + 1)) (pc := 97) dX12_said_97 (by decide) rfl (nI_1 t) kk) ?_
        refine wq (fun _ _ kk => rs_goto (tgt := 73) (pc := 100) dX12_said_100 rfl kk) ?_
        rw [nI_clamp (show t < 2 ^ 31 by omega)] at hmd
        exact ih (t + 1) _ _ (by omega) (by omega) (E_1) hmd hrW.al (rw0_1 hv (by first | (rw [c_88]; rfl) | (cases t with | zero => exact absurd rfl c_88 | succ t => rfl)))
      · rw [nI_z (by omega)] at c_88
        refine wq (fun _ _ kk => rs_lconst (v := 1) (pc := 91) dX12_said_91 rfl kk) ?_
        refine wq (fun _ _ kk => rs_goto (tgt := 96) (pc := 92) dX12_said_92 rfl kk) ?_
        refine wq (fun _ _ kk => rs_last (pc := 96) dX12_said_96 (md_lt hmd (by decide)) (md_getl (d := 49) (k := 65) (kd := 1) (n := 62) rfl (by decide) hmd) (vp_in_nI (n := t) (N := 62) (by omega) (by decide)) kk) ?_
        refine wq_gen (fun h_2 e_2 => ?_)
        obtain ⟨m_2, s_2, g_2, o_2⟩ := ai_e1 e_2
        replace hmd := md_at_al (d := 49) rfl (by decide) hmd m_2 g_2 o_2
        have E_2 := (E0).trans (md_ext_of m_2 s_2 o_2 (by decide))
        refine wq (fun _ _ kk => wk_iinc6 (v := nI (t + 1)) (pc := 97) dX12_said_97 (by decide) rfl (nI_1 t) kk) ?_
        refine wq (fun _ _ kk => rs_goto (tgt := 73) (pc := 100) dX12_said_100 rfl kk) ?_
        rw [nI_clamp (show t < 2 ^ 31 by omega)] at hmd
        exact ih (t + 1) _ _ (by omega) (by omega) (E_2) hmd hrW.al (rw0_1 hv (by first | (rw [c_88]; rfl) | (cases t with | zero => exact absurd rfl c_88 | succ t => rfl)))
set_option maxRecDepth 100000 in
set_option maxHeartbeats 4000000 in
theorem l2_X12_said {h : ai_H} {V : Md} {i j n : Nat} {k x : Int32} {s : Nat} {u8 : Value} {Q : Option Value → ai_H → Prop} (kx : ∀ (W : Md) (g : ai_H), md_ext h g → md_at g W → rww V W → rwk s 0 W → ai_W MX12_said 149 [.ref 307, .int (nI i), .int (nI j), .int k, .int x, .int (nI n), .int (nI s), .int (nI 0), u8] [] g Q) : ∀ (m t : Nat) (W : Md) (g : ai_H), t ≤ 61 → t + 1 ≤ m → md_ext h g → md_at g W → rww V W → rwk s t W → ai_W MX12_said 119 [.ref 307, .int (nI i), .int (nI j), .int k, .int x, .int (nI n), .int (nI s), .int (nI t), u8] [] g Q := by
  intro m
  induction m with
  | zero => intro t W g h1 h2; exact absurd h2 (by omega)
  | succ m ih =>
    intro t W g ht0 him E0 hmd hrW hv
    refine wq (fun _ _ kk => rs_iload (pc := 119) dX12_said_119 rfl kk) ?_
    refine wq_br (fun _ _ kt kf => rs_if_le (tgt := 149) (pc := 121) dX12_said_121 rfl kt kf) (fun c_121 => ?_) (fun c_121 => ?_)
    · have hte : t = 0 := (i32_le0 (by omega)).1 c_121
      subst hte
      exact kx W g E0 hmd hrW hv
    · obtain ⟨q, rfl⟩ : ∃ q, t = q + 1 := ⟨t - 1, by have := mt (i32_le0 (n := t) (by omega)).2 c_121; omega⟩
      refine wq (fun _ _ kk => rs_aload_n (pc := 124) dX12_said_124 rfl kk) ?_
      refine wq (fun _ _ kk => rs_getf (pc := 125) dX12_said_125 fX12_159 (md_lt hmd (by decide)) hmd.2.1 rfl kk) ?_
      refine wq (fun _ _ kk => rs_iload (pc := 128) dX12_said_128 rfl kk) ?_
      refine wq (fun _ _ kk => rs_dup2 (pc := 130) dX12_said_130 rfl rfl kk) ?_
      refine wq (fun _ _ kk => rs_lald (pc := 131) dX12_said_131 (md_lt hmd (by decide)) (md_getl (d := 49) (k := 65) (kd := 1) (n := 62) rfl (by decide) hmd) (vp_in_nI (n := q + 1) (N := 62) (by omega) (by decide)) kk) ?_
      rw [nI_clamp (show q + 1 < 2 ^ 31 by omega)]
      refine wq (fun _ _ kk => rs_aload_n (pc := 132) dX12_said_132 rfl kk) ?_
      refine wq (fun _ _ kk => rs_getf (pc := 133) dX12_said_133 fX12_159 (md_lt hmd (by decide)) hmd.2.1 rfl kk) ?_
      refine wq (fun _ _ kk => rs_iload (pc := 136) dX12_said_136 rfl kk) ?_
      refine wq (fun _ _ kk => rs_iconst (v := 1) (pc := 138) dX12_said_138 rfl kk) ?_
      refine wq (fun _ _ kk => rs_isub (pc := 139) dX12_said_139 kk) ?_
      rw [show nI (q + 1) - 1 = nI q from nI_sb (b := 1) (by omega)]
      refine wq (fun _ _ kk => rs_lald (pc := 140) dX12_said_140 (md_lt hmd (by decide)) (md_getl (d := 49) (k := 65) (kd := 1) (n := 62) rfl (by decide) hmd) (vp_in_nI (n := q) (N := 62) (by omega) (by decide)) kk) ?_
      rw [nI_clamp (show q < 2 ^ 31 by omega)]
      refine wq (fun _ _ kk => rs_ladd (pc := 141) dX12_said_141 kk) ?_
      refine wq (fun _ _ kk => rs_last (pc := 142) dX12_said_142 (md_lt hmd (by decide)) (md_getl (d := 49) (k := 65) (kd := 1) (n := 62) rfl (by decide) hmd) (vp_in_nI (n := q + 1) (N := 62) (by omega) (by decide)) kk) ?_
      refine wq_gen (fun h_1 e_1 => ?_)
      obtain ⟨m_1, s_1, g_1, o_1⟩ := ai_e1 e_1
      replace hmd := md_at_al (d := 49) rfl (by decide) hmd m_1 g_1 o_1
      have E_1 := (E0).trans (md_ext_of m_1 s_1 o_1 (by decide))
      refine wq (fun _ _ kk => wk_iinc7 (v := nI q) (pc := 143) dX12_said_143 (by decide) rfl (nI_dec q) kk) ?_
      refine wq (fun _ _ kk => rs_goto (tgt := 119) (pc := 146) dX12_said_146 rfl kk) ?_
      rw [nI_clamp (show q + 1 < 2 ^ 31 by omega)] at hmd
      exact ih q _ _ (by omega) (by omega) (E_1) hmd hrW.al (rwk_s hv (by omega) rfl)
set_option maxRecDepth 100000 in
set_option maxHeartbeats 4000000 in
theorem l3_X12_said {h : ai_H} {V : Md} {i j n : Nat} {k x : Int32} (hn : n ≤ 60) {u8 : Value} {Q : Option Value → ai_H → Prop} (kx : ∀ (u7 : Value) (W : Md) (g : ai_H), md_ext h g → md_at g W → rww V W → (∀ t, t < 62 → W.2.2.2 65 t = aL (bin n t)) → ai_W MX12_said 155 [.ref 307, .int (nI i), .int (nI j), .int k, .int x, .int (nI n), .int (nI n), u7, u8] [] g Q) : ∀ (m s : Nat) (u7 : Value) (W : Md) (g : ai_H), s ≤ n → n + 1 ≤ s + m → md_ext h g → md_at g W → rww V W → (∀ t, t < 62 → W.2.2.2 65 t = aL (bin s t)) → ai_W MX12_said 106 [.ref 307, .int (nI i), .int (nI j), .int k, .int x, .int (nI n), .int (nI s), u7, u8] [] g Q := by
  intro m
  induction m with
  | zero => intro s u7 W g h1 h2; exact absurd h2 (by omega)
  | succ m ih =>
    intro s u7 W g hs0 him E0 hmd hrW hv
    refine wq (fun _ _ kk => rs_iload (pc := 106) dX12_said_106 rfl kk) ?_
    refine wq (fun _ _ kk => rs_iload (pc := 108) dX12_said_108 rfl kk) ?_
    refine wq_br (fun _ _ kt kf => rs_icmp_ge (tgt := 155) (pc := 110) dX12_said_110 rfl kt kf) (fun c_110 => ?_) (fun c_110 => ?_)
    · have hse : n = s := (lp_exit rfl (by omega) hs0 c_110).symm
      subst hse
      exact kx _ W g E0 hmd hrW hv
    · have hs : s < n := lp_go rfl (by omega) c_110
      refine wq (fun _ _ kk => rs_iload (pc := 113) dX12_said_113 rfl kk) ?_
      refine wq (fun _ _ kk => rs_iconst (v := 1) (pc := 115) dX12_said_115 rfl kk) ?_
      refine wq (fun _ _ kk => rs_iadd (pc := 116) dX12_said_116 kk) ?_
      rw [nI_1]
      refine wq (fun _ _ kk => wk_ist7 (pc := 117) dX12_said_117 (by decide) rfl kk) ?_
      refine l2_X12_said (h := h) (V := V) ?_ (s + 2) (s + 1) W g (by omega) (by omega) E0 hmd hrW (rwk_0 hv)
      clear E0 hmd hrW hv
      intro W g E0 hmd hrW hv
      refine wq (fun _ _ kk => wk_iinc6 (v := nI (s + 1)) (pc := 149) dX12_said_149 (by decide) rfl (nI_1 s) kk) ?_
      refine wq (fun _ _ kk => rs_goto (tgt := 106) (pc := 152) dX12_said_152 rfl kk) ?_
      exact ih (s + 1) _ W g (by omega) (by omega) E0 hmd hrW (rwk_e hv)
theorem wS_end {n hd t : Nat} (h1 : hd ≤ t) (h2 : t ≤ n + 1 ∨ t = hd) (h3 : n < t) : wS n hd (n + 1) = wS n hd t := by
  rcases h2 with h2 | h2
  · rw [show t = n + 1 by omega]
  · subst h2
    rw [wS_0 n t t (Nat.le_refl t), wS_0 n t (n + 1) (by omega)]
set_option maxRecDepth 100000 in
set_option maxHeartbeats 4000000 in
theorem l4_X12_said {h : ai_H} {W : Md} {i j n hd : Nat} {k x : Int32} (hn : n ≤ 60) (hd4 : hd ≤ 400) (hmd : md_at h W) (hv : ∀ t, t < 62 → W.2.2.2 65 t = aL (bin n t)) : ∀ (m t : Nat), hd ≤ t → (t ≤ n + 1 ∨ t = hd) → n + hd + 2 ≤ t + m → ai_R MX12_said 171 [.ref 307, .int (nI i), .int (nI j), .int k, .int x, .int (nI n), .long (aL (wS n hd t)), .float 0, .int (nI t)] [] h (some (.long (aL (wS n hd (n + 1))))) h := by
  intro m
  induction m with
  | zero => intro t h1 h2 h3; exact absurd h3 (by omega)
  | succ m ih =>
    intro t hth hh0 him
    refine rs_iload (pc := 171) dX12_said_171 rfl ?_
    refine rs_iload (pc := 173) dX12_said_173 rfl ?_
    refine rs_icmp_gt (tgt := 196) (pc := 175) dX12_said_175 rfl (fun c_175 => ?_) (fun c_175 => ?_)
    · have hte : n < t := by rw [i32_lt, nI_toInt (by omega), nI_toInt (by omega)] at c_175; omega
      refine rs_lload (pc := 196) dX12_said_196 rfl ?_
      exact wk_lret (pc := 198) dX12_said_198 rfl (by rw [wS_end hth hh0 hte]) (rfl)
    · have ht : t ≤ n := by rw [i32_lt, nI_toInt (by omega), nI_toInt (by omega)] at c_175; omega
      refine rs_lload (pc := 178) dX12_said_178 rfl ?_
      refine rs_aload_n (pc := 180) dX12_said_180 rfl ?_
      refine rs_getf (pc := 181) dX12_said_181 fX12_159 (md_lt hmd (by decide)) hmd.2.1 rfl ?_
      refine rs_iload (pc := 184) dX12_said_184 rfl ?_
      refine rs_lald (pc := 186) dX12_said_186 (md_lt hmd (by decide)) (md_getl (d := 49) (k := 65) (kd := 1) (n := 62) rfl (by decide) hmd) (vp_in_nI (n := t) (N := 62) (by omega) (by decide)) ?_
      rw [nI_clamp (show t < 2 ^ 31 by omega), hv t (by omega)]
      refine rs_ladd (pc := 187) dX12_said_187 ?_
      rw [aL_add]
      refine wk_lst6 (pc := 188) dX12_said_188 (by decide) rfl ?_
      refine wk_iinc8 (v := nI (t + 1)) (pc := 190) dX12_said_190 (by decide) rfl (nI_1 t) ?_
      refine rs_goto (tgt := 171) (pc := 193) dX12_said_193 rfl ?_
      have e := ih (t + 1) (by omega) (by omega) (by omega)
      rw [wS, if_pos hth, Int.natCast_add] at e
      exact e
set_option maxRecDepth 100000 in
set_option maxHeartbeats 4000000 in
theorem t_X12_said {h g : ai_H} {S W : Md} {B : Bk} {U : Nat → List Int} {k x : Int32} {i j : Nat} {u6 u7 u8 : Value} (hgu : ¬ (xs_pair B (nI i) (nI j) = 0 ∨ bi_in k 0 9999 = 0 ∨ bi_in x 0 1 = 0)) (hi : i < nO B) (hj : j < nO B) (hn16 : nO B ≤ 16) (hx1 : ¬ x = 1) (hlr : (U (i * 16 + j)).length ≤ 400) (hlp : lpo (U (i * 16 + j)) ≤ (U (i * 16 + j)).length) (h60 : lne (U (i * 16 + j)) ≤ 60) (E0 : md_ext h g) (hmd : md_at g W) (hSV : mq S W) (m2 : W.2.2.1 52 (i * 16 + j) = nI (lpo (U (i * 16 + j)))) (hv : ∀ t, t < 62 → W.2.2.2 65 t = aL (bin (lne (U (i * 16 + j))) t)) : ai_W MX12_said 155 [.ref 307, .int (nI i), .int (nI j), .int k, .int x, .int (nI (lne (U (i * 16 + j)))), u6, u7, u8] [] g (fun r g => md_ext h g ∧ (∃ V, md_at g V ∧ mq S V) ∧ (((xs_pair B (nI i) (nI j) = 0 ∨ bi_in k 0 9999 = 0 ∨ bi_in x 0 1 = 0) ∧ r = some (.long (-1))) ∨ (¬ (xs_pair B (nI i) (nI j) = 0 ∨ bi_in k 0 9999 = 0 ∨ bi_in x 0 1 = 0) ∧ ∃ i' j', i' < nO B ∧ j' < nO B ∧ (nI i) = nI i' ∧ (nI j) = nI j' ∧ r = some (.long (uu_said (U (i' * 16 + j')) x))))) := by
  refine wq (fun _ _ kk => rs_lconst (v := 0) (pc := 155) dX12_said_155 rfl kk) ?_
  refine wq (fun _ _ kk => wk_lst6 (pc := 156) dX12_said_156 (by decide) rfl kk) ?_
  refine wq (fun _ _ kk => rs_aload_n (pc := 158) dX12_said_158 rfl kk) ?_
  refine wq (fun _ _ kk => rs_getf (pc := 159) dX12_said_159 fX12_123 (md_lt hmd (by decide)) hmd.2.1 rfl kk) ?_
  refine wq (fun _ _ kk => rs_bipush (v := 16) (pc := 162) dX12_said_162 rfl kk) ?_
  refine wq (fun _ _ kk => rs_iload_n (pc := 164) dX12_said_164 rfl kk) ?_
  refine wq (fun _ _ kk => rs_imul (pc := 165) dX12_said_165 kk) ?_
  rw [show (16 : Int32) * nI i = nI (i * 16) from by rw [Nat.mul_comm]; exact pk_mul 16 i]
  refine wq (fun _ _ kk => rs_iload_n (pc := 166) dX12_said_166 rfl kk) ?_
  refine wq (fun _ _ kk => rs_iadd (pc := 167) dX12_said_167 kk) ?_
  rw [nI_add]
  refine wq (fun _ _ kk => rs_iald (pc := 168) dX12_said_168 (md_lt hmd (by decide)) (md_geti (d := 37) (k := 52) (kd := 0) (n := 256) rfl (by decide) hmd) (vp_in_nI (n := i * 16 + j) (N := 256) (by omega) (by decide)) kk) ?_
  rw [nI_clamp (show i * 16 + j < 2 ^ 31 by omega), m2]
  refine wq (fun _ _ kk => wk_ist8 (pc := 169) dX12_said_169 (by decide) rfl kk) ?_
  exact ⟨_, _, ⟨E0, ⟨W, hmd, hSV⟩, Or.inr ⟨hgu, i, j, hi, hj, rfl, rfl, by unfold uu_said; rw [if_neg (by omega), if_neg hx1]⟩⟩, by
    have e := l4_X12_said (i := i) (j := j) (k := k) (x := x) (n := lne (U (i * 16 + j))) (hd := lpo (U (i * 16 + j))) h60 (by omega) hmd hv (lne (U (i * 16 + j)) + 2) (lpo (U (i * 16 + j))) (by omega) (Or.inr rfl) (by omega)
    rw [wS_0 _ _ _ (Nat.le_refl _)] at e
    exact e⟩
set_option maxRecDepth 100000 in
set_option maxHeartbeats 4000000 in
theorem c_X12_said {h : ai_H} {S : Md} {B : Bk} {ln : Nat} {U : Nat → List Int} {k : Int32} (hok : bk_ok B ln) (hRB : RB B S) (hl : lrow U) (hU : ∀ T V q, q ≤ 400 → SI B k T (nR B) (nR B) q → MI T q (q * q) V → mrow V U) (hN : ∀ T q c, c < 256 → SI B k T (nR B) (nR B) q → cN (mNe T q c) (q * q) = lne (U c) ∧ cN (mPo T q c) (q * q) = lpo (U c)) (hmd : md_at h S) (a b x : Int32) : ai_QM MX12_said [.ref 307, .int a, .int b, .int k, .int x] h (fun r g => md_ext h g ∧ (∃ V, md_at g V ∧ mq S V) ∧ (((xs_pair B a b = 0 ∨ bi_in k 0 9999 = 0 ∨ bi_in x 0 1 = 0) ∧ r = some (.long (-1))) ∨ (¬ (xs_pair B a b = 0 ∨ bi_in k 0 9999 = 0 ∨ bi_in x 0 1 = 0) ∧ ∃ i' j', i' < nO B ∧ j' < nO B ∧ a = nI i' ∧ b = nI j' ∧ r = some (.long (uu_said (U (i' * 16 + j')) x))))) := by
  have hn16 := hok.2.1.2.1
  refine qm_of (ls := [.ref 307, .int a, .int b, .int k, .int x, .float 0, .float 0, .float 0, .float 0]) (by decide) (by simp [ai_en, Value.category]) (by rfl) ?_
  refine wq (fun _ _ kk => rs_aload_n (pc := 0) dX12_said_0 rfl kk) ?_
  refine wq (fun _ _ kk => rs_iload_n (pc := 1) dX12_said_1 rfl kk) ?_
  refine wq (fun _ _ kk => rs_iload_n (pc := 2) dX12_said_2 rfl kk) ?_
  refine wq (fun _ _ kk => rs_iload_n (pc := 3) dX12_said_3 rfl kk) ?_
  refine wq (fun _ _ kk => rs_callV (as := [_, _, _]) (pc := 4) dX12_said_4 mk_X12_areTwo mlX12_421 in_X12_areTwo se_X12_areTwo rfl (md_lt hmd (by decide)) hmd.2.1 rfl rfl (Nat.le_of_ble_eq_true rfl) (c_X12_areTwo hok hRB hmd _ _ _) kk) ?_
  refine wq_br (fun _ _ kt kf => rs_if_eq (tgt := 26) (pc := 7) dX12_said_7 rfl kt kf) (fun c_7 => ?_) (fun c_7 => ?_)
  · rw [b32_0, Classical.not_not] at c_7
    refine wq (fun _ _ kk => rs_ldc2 (pc := 26) dX12_said_26 cnX12_446 kk) ?_
    refine wq_ret ?_ (rs_lret (pc := 29) dX12_said_29 rfl)
    exact ⟨md_ext.rf, ⟨S, hmd, mq.rf⟩, Or.inl ⟨by first | exact Or.inl hab | exact Or.inr (Or.inr c_23) | (rcases c_7 with z | z; exact Or.inl (by simp [xs_pair, z]); exact Or.inr (Or.inl z)), rfl⟩⟩
  · rw [b32_0, Classical.not_not] at c_7
    rw [not_or] at c_7
    refine wq (fun _ _ kk => rs_iload_n (pc := 10) dX12_said_10 rfl kk) ?_
    refine wq (fun _ _ kk => rs_iload_n (pc := 11) dX12_said_11 rfl kk) ?_
    refine wq_br (fun _ _ kt kf => rs_icmp_eq (tgt := 26) (pc := 12) dX12_said_12 rfl kt kf) (fun c_12 => ?_) (fun c_12 => ?_)
    · have hab : xs_pair B a b = 0 := by simp [xs_pair, c_12]
      refine wq (fun _ _ kk => rs_ldc2 (pc := 26) dX12_said_26 cnX12_446 kk) ?_
      refine wq_ret ?_ (rs_lret (pc := 29) dX12_said_29 rfl)
      exact ⟨md_ext.rf, ⟨S, hmd, mq.rf⟩, Or.inl ⟨by first | exact Or.inl hab | exact Or.inr (Or.inr c_23) | (rcases c_7 with z | z; exact Or.inl (by simp [xs_pair, z]); exact Or.inr (Or.inl z)), rfl⟩⟩
    · refine wq (fun _ _ kk => rs_iload (pc := 15) dX12_said_15 rfl kk) ?_
      refine wq (fun _ _ kk => rs_i2l (pc := 17) dX12_said_17 kk) ?_
      refine wq (fun _ _ kk => rs_lconst (v := 0) (pc := 18) dX12_said_18 rfl kk) ?_
      refine wq (fun _ _ kk => rs_lconst (v := 1) (pc := 19) dX12_said_19 rfl kk) ?_
      refine wq (fun _ _ kk => rs_callS (as := [_, _, _]) (pc := 20) dX12_said_20 mk_X12_in mlX12_181 st_X12_in rfl rfl (Nat.le_of_ble_eq_true rfl) (c_X12_inI x 0 1) kk) ?_
      refine wq_bn (fun _ _ kt kf => rs_if_ne (tgt := 30) (pc := 23) dX12_said_23 rfl kt kf) (fun c_23 => ?_) (fun c_23 => ?_)
      · refine wq (fun _ _ kk => rs_aload_n (pc := 30) dX12_said_30 rfl kk) ?_
        refine wq (fun _ _ kk => rs_iload_n (pc := 31) dX12_said_31 rfl kk) ?_
        have hgu : ¬ (xs_pair B a b = 0 ∨ bi_in k 0 9999 = 0 ∨ bi_in x 0 1 = 0) := by
          rintro (z | z | z)
          · unfold xs_pair at z
            rw [if_neg c_7.1, if_neg c_12] at z
            exact absurd z (by decide)
          · exact c_7.2 z
          · exact c_23 z
        obtain ⟨i, j, hi, hj, hij, rfl, rfl⟩ := pair_ex hok (fun z => hgu (Or.inl z))
        obtain ⟨rv_32, hc_32, ⟨rfl, ee_32, T, V, q, hqR, ec, hsg, hSI, hmd_32, hmg, hMI⟩, hm_32⟩ := c_X12_meets hok hRB (bi_in_9 c_7.2).2 hmd
        refine wq (fun _ _ kk => rs_callV (as := [_]) (pc := 32) dX12_said_32 mk_X12_meets mlX12_426 in_X12_meets se_X12_meets rfl (md_lt hmd (by decide)) hmd.2.1 rfl rfl (Nat.le_of_ble_eq_true rfl) (hm_32) kk) ?_
        replace hmd := hmd_32
        have E_32 := (md_ext.rf).trans ee_32
        obtain ⟨n1, n2⟩ := hN T q (i * 16 + j) (by omega) hSI
        obtain ⟨-, -, -, m1, m2⟩ := hMI (i * 16 + j) (by omega)
        rw [n1] at m1
        rw [n2] at m2
        have hlr := (hl (i * 16 + j) (by omega)).1
        have hle := lne_le (l := U (i * 16 + j))
        have hlp := lpo_le (l := U (i * 16 + j))
        have hSV := hsg.mq.trans hmg.mq
        refine wq (fun _ _ kk => rs_aload_n (pc := 35) dX12_said_35 rfl kk) ?_
        refine wq (fun _ _ kk => rs_getf (pc := 36) dX12_said_36 fX12_120 (md_lt hmd (by decide)) hmd.2.1 rfl kk) ?_
        refine wq (fun _ _ kk => rs_bipush (v := 16) (pc := 39) dX12_said_39 rfl kk) ?_
        refine wq (fun _ _ kk => rs_iload_n (pc := 41) dX12_said_41 rfl kk) ?_
        refine wq (fun _ _ kk => rs_imul (pc := 42) dX12_said_42 kk) ?_
        rw [show (16 : Int32) * nI i = nI (i * 16) from by rw [Nat.mul_comm]; exact pk_mul 16 i]
        refine wq (fun _ _ kk => rs_iload_n (pc := 43) dX12_said_43 rfl kk) ?_
        refine wq (fun _ _ kk => rs_iadd (pc := 44) dX12_said_44 kk) ?_
        rw [nI_add]
        refine wq (fun _ _ kk => rs_iald (pc := 45) dX12_said_45 (md_lt hmd (by decide)) (md_geti (d := 36) (k := 51) (kd := 0) (n := 256) rfl (by decide) hmd) (vp_in_nI (n := i * 16 + j) (N := 256) (by omega) (by decide)) kk) ?_
        rw [nI_clamp (show i * 16 + j < 2 ^ 31 by omega), m1]
        refine wq (fun _ _ kk => wk_ist5 (pc := 46) dX12_said_46 (by decide) rfl kk) ?_
        refine wq (fun _ _ kk => rs_iload (pc := 48) dX12_said_48 rfl kk) ?_
        refine wq (fun _ _ kk => rs_bipush (v := 60) (pc := 50) dX12_said_50 rfl kk) ?_
        refine wq_br (fun _ _ kt kf => rs_icmp_le (tgt := 59) (pc := 52) dX12_said_52 rfl kt kf) (fun c_52 => ?_) (fun c_52 => ?_)
        · rw [i32_le, nI_toInt (by omega), show (60 : Int32).toInt = 60 from rfl] at c_52
          refine wq (fun _ _ kk => rs_iload (pc := 59) dX12_said_59 rfl kk) ?_
          refine wq (fun _ _ kk => rs_iconst (v := 1) (pc := 61) dX12_said_61 rfl kk) ?_
          refine wq_bn (fun _ _ kt kf => rs_icmp_ne (tgt := 70) (pc := 62) dX12_said_62 rfl kt kf) (fun c_62 => ?_) (fun c_62 => ?_)
          · refine wq (fun _ _ kk => rs_iconst (v := 0) (pc := 70) dX12_said_70 rfl kk) ?_
            refine wq (fun _ _ kk => wk_ist6 (pc := 71) dX12_said_71 (by decide) rfl kk) ?_
            refine l1_X12_said (h := h) (V := V) ?_ 63 0 V _ (by omega) (by omega) E_32 hmd rww.rf (fun t ht => absurd ht (Nat.not_lt_zero t))
            intro W g E0 hmd hrW hv
            refine wq (fun _ _ kk => rs_iconst (v := 0) (pc := 103) dX12_said_103 rfl kk) ?_
            refine wq (fun _ _ kk => wk_ist6 (pc := 104) dX12_said_104 (by decide) rfl kk) ?_
            refine l3_X12_said (h := h) (V := V) (by omega) ?_ (lne (U (i * 16 + j)) + 1) 0 _ W g (by omega) (by omega) E0 hmd hrW hv
            intro u7 W g E0 hmd hrW hv
            exact t_X12_said hgu hi hj (by omega) c_62 hlr hlp (by omega) E0 hmd (hSV.trans hrW.mq) (by rw [hrW.2.2]; exact m2) hv
          · refine wq (fun _ _ kk => rs_lconst (v := 1) (pc := 65) dX12_said_65 rfl kk) ?_
            refine wq (fun _ _ kk => rs_iload (pc := 66) dX12_said_66 rfl kk) ?_
            refine wq (fun _ _ kk => rs_lshl (pc := 68) dX12_said_68 kk) ?_
            refine wq_ret ?_ (rs_lret (pc := 69) dX12_said_69 rfl)
            exact ⟨E_32, ⟨V, hmd, hSV⟩, Or.inr ⟨hgu, i, j, hi, hj, rfl, rfl, by unfold uu_said; rw [if_neg (by omega), if_pos c_62]⟩⟩
        · rw [i32_le, nI_toInt (by omega), show (60 : Int32).toInt = 60 from rfl] at c_52
          refine wq (fun _ _ kk => rs_ldc2 (pc := 55) dX12_said_55 cnX12_460 kk) ?_
          refine wq_ret ?_ (rs_lret (pc := 58) dX12_said_58 rfl)
          exact ⟨E_32, ⟨V, hmd, hSV⟩, Or.inr ⟨hgu, i, j, hi, hj, rfl, rfl, by unfold uu_said; rw [if_pos (by omega)]⟩⟩
      · refine wq (fun _ _ kk => rs_ldc2 (pc := 26) dX12_said_26 cnX12_446 kk) ?_
        refine wq_ret ?_ (rs_lret (pc := 29) dX12_said_29 rfl)
        exact ⟨md_ext.rf, ⟨S, hmd, mq.rf⟩, Or.inl ⟨by first | exact Or.inl hab | exact Or.inr (Or.inr c_23) | (rcases c_7 with z | z; exact Or.inl (by simp [xs_pair, z]); exact Or.inr (Or.inl z)), rfl⟩⟩
