/-! 88: law of the model (walks laid by wip/whole/p88.py) -/
/-- where the clauses lie -/
def CA (S : Md) (r : Nat) (D : List Cl) : Prop := ∀ i c, D[i]? = some c → S.2.2.1 34 (12 * r + i) = nI (ent (D.take i)).length ∧ S.2.2.1 35 (12 * r + i) = nI ((ent (D.take i)).length + c.1.length) ∧ S.2.2.1 36 (12 * r + i) = nI ((ent (D.take i)).length + c.1.length + c.2.length)
theorem CA_MC {S : Md} {r : Nat} : ∀ (D : List Cl) (c0 o : Nat), MT S r o (ent D) → (∀ i c, D[i]? = some c → S.2.2.1 34 (12 * r + (c0 + i)) = nI (o + (ent (D.take i)).length) ∧ S.2.2.1 35 (12 * r + (c0 + i)) = nI (o + (ent (D.take i)).length + c.1.length) ∧ S.2.2.1 36 (12 * r + (c0 + i)) = nI (o + (ent (D.take i)).length + c.1.length + c.2.length)) → MC S r c0 o D
  | [], _, _, _, _ => trivial
  | c :: D, c0, o, hT, hC => by
    have h0 := hC 0 c rfl
    have e0 : (ent ((c :: D).take 0)).length = 0 := rfl
    rw [e0] at h0
    refine ⟨h0.1, h0.2.1, h0.2.2, fun k t hk => ?_, fun k t hk => ?_, ?_⟩
    · refine hT k t ?_
      have hl := (List.getElem?_eq_some_iff.mp hk).1
      show (c.1 ++ c.2 ++ ent D)[k]? = some t
      rw [List.append_assoc, List.getElem?_append_left hl]
      exact hk
    · have hl := (List.getElem?_eq_some_iff.mp hk).1
      have := hT (c.1.length + k) t (by
        show (c.1 ++ c.2 ++ ent D)[c.1.length + k]? = some t
        rw [List.append_assoc, List.getElem?_append_right (Nat.le_add_right _ _), Nat.add_sub_cancel_left, List.getElem?_append_left hl]
        exact hk)
      rw [show o + c.1.length + k = o + (c.1.length + k) by omega]
      exact this
    · refine CA_MC D (c0 + 1) (o + c.1.length + c.2.length) (fun k t hk => ?_) (fun i d hd => ?_)
      · have := hT (c.1.length + c.2.length + k) t (by
          show (c.1 ++ c.2 ++ ent D)[c.1.length + c.2.length + k]? = some t
          rw [List.getElem?_append_right (by rw [List.length_append]; omega), List.length_append, Nat.add_sub_cancel_left]
          exact hk)
        rw [show o + c.1.length + c.2.length + k = o + (c.1.length + c.2.length + k) by omega]
        exact this
      · have := hC (i + 1) d hd
        have e : (ent ((c :: D).take (i + 1))).length = c.1.length + c.2.length + (ent (D.take i)).length := by
          show (c.1 ++ c.2 ++ ent (D.take i)).length = _
          rw [List.length_append, List.length_append]
        rw [e, show c0 + (i + 1) = c0 + 1 + i by omega, show o + (c.1.length + c.2.length + (ent (D.take i)).length) = o + c.1.length + c.2.length + (ent (D.take i)).length by omega] at this
        exact this
theorem CA_snoc {S T : Md} {r : Nat} {D : List Cl} {c : Cl} (h : CA S r D) (e : ∀ i, i ≠ 12 * r + D.length → T.2.2.1 34 i = S.2.2.1 34 i ∧ T.2.2.1 35 i = S.2.2.1 35 i ∧ T.2.2.1 36 i = S.2.2.1 36 i) (h1 : T.2.2.1 34 (12 * r + D.length) = nI (ent D).length) (h2 : T.2.2.1 35 (12 * r + D.length) = nI ((ent D).length + c.1.length)) (h3 : T.2.2.1 36 (12 * r + D.length) = nI ((ent D).length + c.1.length + c.2.length)) : CA T r (D ++ [c]) := by
  intro i d hd
  by_cases hi : i < D.length
  · rw [List.getElem?_append_left hi] at hd
    rw [(e _ (by omega)).1, (e _ (by omega)).2.1, (e _ (by omega)).2.2, List.take_append_of_le_length (by omega)]
    exact h i d hd
  · have hl := (List.getElem?_eq_some_iff.mp hd).1
    rw [List.length_append] at hl
    have hi2 : i = D.length := by
      have : [c].length = 1 := rfl
      omega
    subst hi2
    rw [List.getElem?_append_right (Nat.le_refl _), Nat.sub_self] at hd
    cases hd
    rw [List.take_left]
    exact ⟨h1, h2, h3⟩
theorem CA.cong {S T : Md} {r : Nat} {D : List Cl} (h : CA S r D) (e : T.2 = S.2) : CA T r D := by
  intro i c hc
  rw [e]
  exact h i c hc
/-- what reading a law changes -/
def lfr (r : Nat) (S T : Md) : Prop := (∀ j, j < 22 ∨ 29 < j → T.1 j = S.1 j) ∧ T.2.1 = S.2.1 ∧ T.2.2.2 = S.2.2.2 ∧ (∀ j, j < 31 ∨ 37 < j → T.2.2.1 j = S.2.2.1 j) ∧ (∀ i, i < 300 * r → T.2.2.1 31 i = S.2.2.1 31 i ∧ T.2.2.1 32 i = S.2.2.1 32 i) ∧ (∀ i, i ≠ r → T.2.2.1 33 i = S.2.2.1 33 i) ∧ ∀ i, i < 12 * r → T.2.2.1 34 i = S.2.2.1 34 i ∧ T.2.2.1 35 i = S.2.2.1 35 i ∧ T.2.2.1 36 i = S.2.2.1 36 i
theorem lfr.rf {r : Nat} {S : Md} : lfr r S S := ⟨fun _ _ => rfl, rfl, rfl, fun _ _ => rfl, fun _ _ => ⟨rfl, rfl⟩, fun _ _ => rfl, fun _ _ => ⟨rfl, rfl, rfl⟩⟩
theorem lfr.trans {r : Nat} {S T V : Md} (a : lfr r S T) (b : lfr r T V) : lfr r S V := ⟨fun j hj => (b.1 j hj).trans (a.1 j hj), b.2.1.trans a.2.1, b.2.2.1.trans a.2.2.1, fun j hj => (b.2.2.2.1 j hj).trans (a.2.2.2.1 j hj), fun i hi => ⟨(b.2.2.2.2.1 i hi).1.trans (a.2.2.2.2.1 i hi).1, (b.2.2.2.2.1 i hi).2.trans (a.2.2.2.2.1 i hi).2⟩, fun i hi => (b.2.2.2.2.2.1 i hi).trans (a.2.2.2.2.2.1 i hi), fun i hi => ⟨(b.2.2.2.2.2.2 i hi).1.trans (a.2.2.2.2.2.2 i hi).1, (b.2.2.2.2.2.2 i hi).2.1.trans (a.2.2.2.2.2.2 i hi).2.1, (b.2.2.2.2.2.2 i hi).2.2.trans (a.2.2.2.2.2.2 i hi).2.2⟩⟩
theorem pfc.l {r c : Nat} {S T : Md} (a : pfc r c S T) : lfr r S T := ⟨fun j hj => a.1 j (by omega) (by omega) (by omega) (by omega) (by omega) (by omega), a.2.1, a.2.2.1, fun j hj => a.2.2.2.1 j (by omega) (by omega) (by omega) (by omega) (by omega) (by omega), a.2.2.2.2.1, fun i _ => by rw [a.2.2.2.1 33 (by decide) (by decide) (by decide) (by decide) (by decide) (by decide)], fun i hi => a.2.2.2.2.2 i (by omega)⟩
theorem put_l {r k : Nat} {S T : Md} (hk : 22 ≤ k ∧ k ≤ 29) (e : ∀ j, j ≠ k → T.1 j = S.1 j) (s : T.2 = S.2) : lfr r S T := ⟨fun j hj => e j (by omega), by rw [s], by rw [s], fun j _ => by rw [s], fun i _ => by rw [s]; exact ⟨rfl, rfl⟩, fun i _ => by rw [s], fun i _ => by rw [s]; exact ⟨rfl, rfl, rfl⟩⟩
theorem close_step {k a e : Nat} {y : PS} (hk : k = 17 ∨ k = 18) (hB : pZ y = 2 → pB y = []) : ∃ z, py_close k a e y = z ∧ pF z = 0 ∧ pZ z = (if k = 18 then 9 else 0) ∧ pP z = e ∧ pPa z = pPa y ∧ pDe z = pDe y - py_nt (py_tw 1 (pL y)) ∧ pD z = pD y ++ [cn y] ∧ pE z = pE y ++ py_tk (py_tw 1 (pL y)) := by
  obtain ⟨st, p, fl, pa, de, br, D, A, B, pl⟩ := y
  refine ⟨_, rfl, ?_⟩
  rw [show py_close k a e (st, p, fl, pa, de, br, D, A, B, pl) = (if k = 18 then 9 else 0, e, 0, pa, de - py_nt (py_tw 1 pl), br, D ++ [if st = 2 then (A ++ py_tk (py_tw 1 pl), B) else (A, B ++ py_tk (py_tw 1 pl))], [], [], py_dw 1 pl) from if_neg (by omega)]
  refine ⟨rfl, rfl, rfl, rfl, rfl, rfl, ?_⟩
  show ent (D ++ [if st = 2 then (A ++ py_tk (py_tw 1 pl), B) else (A, B ++ py_tk (py_tw 1 pl))]) ++ [] ++ [] = ent D ++ A ++ B ++ py_tk (py_tw 1 pl)
  rw [ent_app, List.append_nil, List.append_nil]
  by_cases h : st = 2
  · have hB' : B = [] := hB h
    subst hB'
    rw [if_pos h]
    simp
  · rw [if_neg h]
    simp
theorem close_fail {k a e : Nat} {y : PS} (hk : k ≠ 17 ∧ k ≠ 18) : py_close k a e y = py_fail 0 a y := by
  obtain ⟨st, p, fl, pa, de, br, D, A, B, pl⟩ := y
  exact if_pos hk
/-- the reading is at its end -/
def lfin (r : Nat) (y : PS) (S : Md) : Prop := (pF y ≠ 0 ∧ S.1 24 = nI (pF y)) ∨ (pF y = 0 ∧ pZ y = 9 ∧ S.1 24 = 0 ∧ MT S r 0 (ent (pD y)) ∧ CA S r (pD y))
theorem dX12_law_0 : decode cX12_law 0 = .ok (.aload_n 0, 1) := by decide +kernel
theorem dX12_law_1 : decode cX12_law 1 = .ok (.getfield 294, 3) := by decide +kernel
theorem dX12_law_4 : decode cX12_law 4 = .ok (.bipush 10, 2) := by decide +kernel
theorem dX12_law_6 : decode cX12_law 6 = .ok (.if_icmp .ne 5, 3) := by decide +kernel
theorem dX12_law_9 : decode cX12_law 9 = .ok (.iconst (-1), 1) := by decide +kernel
theorem dX12_law_10 : decode cX12_law 10 = .ok (.ireturn, 1) := by decide +kernel
theorem dX12_law_11 : decode cX12_law 11 = .ok (.aload_n 0, 1) := by decide +kernel
theorem dX12_law_12 : decode cX12_law 12 = .ok (.iconst 0, 1) := by decide +kernel
theorem dX12_law_13 : decode cX12_law 13 = .ok (.putfield 267, 3) := by decide +kernel
theorem dX12_law_16 : decode cX12_law 16 = .ok (.aload_n 0, 1) := by decide +kernel
theorem dX12_law_17 : decode cX12_law 17 = .ok (.iconst 0, 1) := by decide +kernel
theorem dX12_law_18 : decode cX12_law 18 = .ok (.putfield 264, 3) := by decide +kernel
theorem dX12_law_21 : decode cX12_law 21 = .ok (.aload_n 0, 1) := by decide +kernel
theorem dX12_law_22 : decode cX12_law 22 = .ok (.iconst 0, 1) := by decide +kernel
theorem dX12_law_23 : decode cX12_law 23 = .ok (.putfield 297, 3) := by decide +kernel
theorem dX12_law_26 : decode cX12_law 26 = .ok (.aload_n 0, 1) := by decide +kernel
theorem dX12_law_27 : decode cX12_law 27 = .ok (.iconst 0, 1) := by decide +kernel
theorem dX12_law_28 : decode cX12_law 28 = .ok (.putfield 337, 3) := by decide +kernel
theorem dX12_law_31 : decode cX12_law 31 = .ok (.aload_n 0, 1) := by decide +kernel
theorem dX12_law_32 : decode cX12_law 32 = .ok (.iconst 0, 1) := by decide +kernel
theorem dX12_law_33 : decode cX12_law 33 = .ok (.putfield 300, 3) := by decide +kernel
theorem dX12_law_36 : decode cX12_law 36 = .ok (.iconst 0, 1) := by decide +kernel
theorem dX12_law_37 : decode cX12_law 37 = .ok (.istore_n 1, 1) := by decide +kernel
theorem dX12_law_38 : decode cX12_law 38 = .ok (.iconst 1, 1) := by decide +kernel
theorem dX12_law_39 : decode cX12_law 39 = .ok (.istore_n 2, 1) := by decide +kernel
theorem dX12_law_40 : decode cX12_law 40 = .ok (.iload_n 2, 1) := by decide +kernel
theorem dX12_law_41 : decode cX12_law 41 = .ok (.ifCond .eq 88, 3) := by decide +kernel
theorem dX12_law_44 : decode cX12_law 44 = .ok (.aload_n 0, 1) := by decide +kernel
theorem dX12_law_45 : decode cX12_law 45 = .ok (.iload_n 1, 1) := by decide +kernel
theorem dX12_law_46 : decode cX12_law 46 = .ok (.invokevirtual 371, 3) := by decide +kernel
theorem dX12_law_49 : decode cX12_law 49 = .ok (.iinc 1 1, 3) := by decide +kernel
theorem dX12_law_52 : decode cX12_law 52 = .ok (.aload_n 0, 1) := by decide +kernel
theorem dX12_law_53 : decode cX12_law 53 = .ok (.invokevirtual 287, 3) := by decide +kernel
theorem dX12_law_56 : decode cX12_law 56 = .ok (.aload_n 0, 1) := by decide +kernel
theorem dX12_law_57 : decode cX12_law 57 = .ok (.getfield 264, 3) := by decide +kernel
theorem dX12_law_60 : decode cX12_law 60 = .ok (.ifCond .ne 32, 3) := by decide +kernel
theorem dX12_law_63 : decode cX12_law 63 = .ok (.aload_n 0, 1) := by decide +kernel
theorem dX12_law_64 : decode cX12_law 64 = .ok (.getfield 267, 3) := by decide +kernel
theorem dX12_law_67 : decode cX12_law 67 = .ok (.aload_n 0, 1) := by decide +kernel
theorem dX12_law_68 : decode cX12_law 68 = .ok (.getfield 241, 3) := by decide +kernel
theorem dX12_law_71 : decode cX12_law 71 = .ok (.if_icmp .ge 21, 3) := by decide +kernel
theorem dX12_law_74 : decode cX12_law 74 = .ok (.aload_n 0, 1) := by decide +kernel
theorem dX12_law_75 : decode cX12_law 75 = .ok (.invokevirtual 270, 3) := by decide +kernel
theorem dX12_law_78 : decode cX12_law 78 = .ok (.bipush 59, 2) := by decide +kernel
theorem dX12_law_80 : decode cX12_law 80 = .ok (.if_icmp .eq 12, 3) := by decide +kernel
theorem dX12_law_83 : decode cX12_law 83 = .ok (.aload_n 0, 1) := by decide +kernel
theorem dX12_law_84 : decode cX12_law 84 = .ok (.iconst 0, 1) := by decide +kernel
theorem dX12_law_85 : decode cX12_law 85 = .ok (.aload_n 0, 1) := by decide +kernel
theorem dX12_law_86 : decode cX12_law 86 = .ok (.getfield 267, 3) := by decide +kernel
theorem dX12_law_89 : decode cX12_law 89 = .ok (.invokevirtual 303, 3) := by decide +kernel
theorem dX12_law_92 : decode cX12_law 92 = .ok (.aload_n 0, 1) := by decide +kernel
theorem dX12_law_93 : decode cX12_law 93 = .ok (.getfield 264, 3) := by decide +kernel
theorem dX12_law_96 : decode cX12_law 96 = .ok (.ifCond .ne 18, 3) := by decide +kernel
theorem dX12_law_99 : decode cX12_law 99 = .ok (.aload_n 0, 1) := by decide +kernel
theorem dX12_law_100 : decode cX12_law 100 = .ok (.getfield 267, 3) := by decide +kernel
theorem dX12_law_103 : decode cX12_law 103 = .ok (.aload_n 0, 1) := by decide +kernel
theorem dX12_law_104 : decode cX12_law 104 = .ok (.getfield 241, 3) := by decide +kernel
theorem dX12_law_107 : decode cX12_law 107 = .ok (.if_icmp .ge 7, 3) := by decide +kernel
theorem dX12_law_110 : decode cX12_law 110 = .ok (.iconst 1, 1) := by decide +kernel
theorem dX12_law_111 : decode cX12_law 111 = .ok (.goto 4, 3) := by decide +kernel
theorem dX12_law_114 : decode cX12_law 114 = .ok (.iconst 0, 1) := by decide +kernel
theorem dX12_law_115 : decode cX12_law 115 = .ok (.istore_n 2, 1) := by decide +kernel
theorem dX12_law_116 : decode cX12_law 116 = .ok (.aload_n 0, 1) := by decide +kernel
theorem dX12_law_117 : decode cX12_law 117 = .ok (.dup, 1) := by decide +kernel
theorem dX12_law_118 : decode cX12_law 118 = .ok (.getfield 267, 3) := by decide +kernel
theorem dX12_law_121 : decode cX12_law 121 = .ok (.iconst 1, 1) := by decide +kernel
theorem dX12_law_122 : decode cX12_law 122 = .ok (.iadd, 1) := by decide +kernel
theorem dX12_law_123 : decode cX12_law 123 = .ok (.putfield 267, 3) := by decide +kernel
theorem dX12_law_126 : decode cX12_law 126 = .ok (.goto (-86), 3) := by decide +kernel
theorem dX12_law_129 : decode cX12_law 129 = .ok (.aload_n 0, 1) := by decide +kernel
theorem dX12_law_130 : decode cX12_law 130 = .ok (.iconst 0, 1) := by decide +kernel
theorem dX12_law_131 : decode cX12_law 131 = .ok (.putfield 241, 3) := by decide +kernel
theorem dX12_law_134 : decode cX12_law 134 = .ok (.aload_n 0, 1) := by decide +kernel
theorem dX12_law_135 : decode cX12_law 135 = .ok (.getfield 264, 3) := by decide +kernel
theorem dX12_law_138 : decode cX12_law 138 = .ok (.ifCond .le 11, 3) := by decide +kernel
theorem dX12_law_141 : decode cX12_law 141 = .ok (.bipush (-2), 2) := by decide +kernel
theorem dX12_law_143 : decode cX12_law 143 = .ok (.aload_n 0, 1) := by decide +kernel
theorem dX12_law_144 : decode cX12_law 144 = .ok (.getfield 264, 3) := by decide +kernel
theorem dX12_law_147 : decode cX12_law 147 = .ok (.isub, 1) := by decide +kernel
theorem dX12_law_148 : decode cX12_law 148 = .ok (.ireturn, 1) := by decide +kernel
theorem dX12_law_149 : decode cX12_law 149 = .ok (.aload_n 0, 1) := by decide +kernel
theorem dX12_law_150 : decode cX12_law 150 = .ok (.getfield 68, 3) := by decide +kernel
theorem dX12_law_153 : decode cX12_law 153 = .ok (.aload_n 0, 1) := by decide +kernel
theorem dX12_law_154 : decode cX12_law 154 = .ok (.getfield 294, 3) := by decide +kernel
theorem dX12_law_157 : decode cX12_law 157 = .ok (.iload_n 1, 1) := by decide +kernel
theorem dX12_law_158 : decode cX12_law 158 = .ok (.iastore, 1) := by decide +kernel
theorem dX12_law_159 : decode cX12_law 159 = .ok (.aload_n 0, 1) := by decide +kernel
theorem dX12_law_160 : decode cX12_law 160 = .ok (.dup, 1) := by decide +kernel
theorem dX12_law_161 : decode cX12_law 161 = .ok (.getfield 294, 3) := by decide +kernel
theorem dX12_law_164 : decode cX12_law 164 = .ok (.iconst 1, 1) := by decide +kernel
theorem dX12_law_165 : decode cX12_law 165 = .ok (.iadd, 1) := by decide +kernel
theorem dX12_law_166 : decode cX12_law 166 = .ok (.putfield 294, 3) := by decide +kernel
theorem dX12_law_169 : decode cX12_law 169 = .ok (.aload_n 0, 1) := by decide +kernel
theorem dX12_law_170 : decode cX12_law 170 = .ok (.getfield 294, 3) := by decide +kernel
theorem dX12_law_173 : decode cX12_law 173 = .ok (.iconst 1, 1) := by decide +kernel
theorem dX12_law_174 : decode cX12_law 174 = .ok (.isub, 1) := by decide +kernel
theorem dX12_law_175 : decode cX12_law 175 = .ok (.ireturn, 1) := by decide +kernel
set_option maxRecDepth 100000 in
set_option maxHeartbeats 4000000 in
theorem l1_X12_law {t : Nat → Nat} {n r cc : Nat} {y : PS} {h g : ai_H} {S0 S : Md} {u : Value} (hmd : md_at g S) (hE : md_ext h g) (h25 : S.1 25 = nI r) (hr9 : r < 10) (hre : py_rch t n py_x0 y) (hy : pok n y) (hlf : lfr r S0 S) (hfin : lfin r y S) (hcn : pF y = 0 → cc = (pD y).length) : ai_W MX12_law 129 [.ref 307, .int (nI cc), u] [] g (fun rv g' => md_ext h g' ∧ ∃ T y, md_at g' T ∧ py_rch t n py_x0 y ∧ py_stop y ∧ pok n y ∧ lfr r S0 T ∧ T.1 22 = 0 ∧ ((pF y ≠ 0 ∧ rv = some (.int (-2 - nI (pF y))) ∧ T.1 25 = nI r) ∨ (pF y = 0 ∧ rv = some (.int (nI r)) ∧ T.1 25 = nI (r + 1) ∧ ML T r (pD y)))) := by
  refine wq (fun _ _ kk => rs_aload_n (pc := 129) dX12_law_129 rfl kk) ?_
  refine wq (fun _ _ kk => rs_iconst (v := 0) (pc := 130) dX12_law_130 rfl kk) ?_
  refine wq (fun _ _ kk => rs_putf (pc := 131) dX12_law_131 fX12_241 (md_lt hmd (by decide)) hmd.2.1 rfl (Nat.le_of_ble_eq_true rfl) kk) ?_
  refine wq_gen (fun h_1 e_1 => ?_)
  obtain ⟨m_1, s_1, g_1, o_1⟩ := ai_e1 e_1
  replace hmd := md_at_si (k := 22) hmd m_1 g_1 o_1 rfl
  have E_1 := (md_ext.rf).trans (md_ext_of m_1 s_1 o_1 (by decide))
  obtain ⟨S_131, hmd, k_131, r_131, s_131⟩ := md_new hmd
  replace hlf := hlf.trans (put_l (by decide) r_131 s_131)
  refine wq (fun _ _ kk => rs_aload_n (pc := 134) dX12_law_134 rfl kk) ?_
  refine wq (fun _ _ kk => rs_getf (pc := 135) dX12_law_135 fX12_264 (md_lt hmd (by decide)) hmd.2.1 rfl kk) ?_
  rw [r_131 24 (by decide)]
  refine wq_br (fun _ _ kt kf => rs_if_le (tgt := 149) (pc := 138) dX12_law_138 rfl kt kf) (fun c_138 => ?_) (fun c_138 => ?_)
  · have hf : pF y = 0 ∧ pZ y = 9 ∧ S.1 24 = 0 ∧ MT S r 0 (ent (pD y)) ∧ CA S r (pD y) := hfin.resolve_left (fun w => absurd c_138 (by rw [w.2]; exact nI_nle (Nat.pos_of_ne_zero w.1) (Nat.lt_of_le_of_lt hy.2 (by decide))))
    refine wq (fun _ _ kk => rs_aload_n (pc := 149) dX12_law_149 rfl kk) ?_
    refine wq (fun _ _ kk => rs_getf (pc := 150) dX12_law_150 fX12_68 (md_lt hmd (by decide)) hmd.2.1 rfl kk) ?_
    refine wq (fun _ _ kk => rs_aload_n (pc := 153) dX12_law_153 rfl kk) ?_
    refine wq (fun _ _ kk => rs_getf (pc := 154) dX12_law_154 fX12_294 (md_lt hmd (by decide)) hmd.2.1 rfl kk) ?_
    rw [r_131 25 (by decide), h25]
    refine wq (fun _ _ kk => rs_iload_n (pc := 157) dX12_law_157 rfl kk) ?_
    refine wq (fun _ _ kk => rs_iast (pc := 158) dX12_law_158 (md_lt hmd (by decide)) (md_geti (d := 19) (k := 33) (kd := 0) (n := 10) rfl (by decide) hmd) (vp_in_nI (n := r) (N := 10) hr9 (by decide)) kk) ?_
    refine wq_gen (fun h_2 e_2 => ?_)
    obtain ⟨m_2, s_2, g_2, o_2⟩ := ai_e1 e_2
    replace hmd := md_at_ai (d := 19) rfl (by decide) hmd m_2 g_2 o_2
    have E_2 := (E_1).trans (md_ext_of m_2 s_2 o_2 (by decide))
    rw [nI_clamp (show r < 2 ^ 31 by omega)] at hmd
    obtain ⟨S_158, hmd, k_158, a_158, b_158, c_158, d_158⟩ := md_row hmd
    refine wq (fun _ _ kk => rs_aload_n (pc := 159) dX12_law_159 rfl kk) ?_
    refine wq (fun _ _ kk => rs_dup (pc := 160) dX12_law_160 rfl kk) ?_
    refine wq (fun _ _ kk => rs_getf (pc := 161) dX12_law_161 fX12_294 (md_lt hmd (by decide)) hmd.2.1 rfl kk) ?_
    rw [a_158, r_131 25 (by decide), h25]
    refine wq (fun _ _ kk => rs_iconst (v := 1) (pc := 164) dX12_law_164 rfl kk) ?_
    refine wq (fun _ _ kk => rs_iadd (pc := 165) dX12_law_165 kk) ?_
    refine wq (fun _ _ kk => rs_putf (pc := 166) dX12_law_166 fX12_294 (md_lt hmd (by decide)) hmd.2.1 rfl (Nat.le_of_ble_eq_true rfl) kk) ?_
    refine wq_gen (fun h_3 e_3 => ?_)
    obtain ⟨m_3, s_3, g_3, o_3⟩ := ai_e1 e_3
    replace hmd := md_at_si (k := 25) hmd m_3 g_3 o_3 rfl
    have E_3 := (E_2).trans (md_ext_of m_3 s_3 o_3 (by decide))
    obtain ⟨S_166, hmd, k_166, r_166, s_166⟩ := md_new hmd
    rw [nI_1] at k_166
    refine wq (fun _ _ kk => rs_aload_n (pc := 169) dX12_law_169 rfl kk) ?_
    refine wq (fun _ _ kk => rs_getf (pc := 170) dX12_law_170 fX12_294 (md_lt hmd (by decide)) hmd.2.1 rfl kk) ?_
    rw [k_166]
    refine wq (fun _ _ kk => rs_iconst (v := 1) (pc := 173) dX12_law_173 rfl kk) ?_
    refine wq (fun _ _ kk => rs_isub (pc := 174) dX12_law_174 kk) ?_
    rw [show nI (r + 1) - 1 = nI r from nI_pred r]
    refine wq_ret ?_ (rs_iret (pc := 175) dX12_law_175 rfl)
    have hrw : ∀ j, j ≠ 33 → S_166.2.2.1 j = S.2.2.1 j := fun j hj => by rw [s_166, d_158 j hj, s_131]
    refine ⟨hE.trans (E_3), _, y, hmd, hre, Or.inr hf.2.1, hy, hlf.trans ⟨fun j hj => by rw [r_166 j (by omega), a_158], by rw [s_166, b_158], by rw [s_166, c_158], fun j hj => by rw [s_166, d_158 j (by omega)], fun i _ => by rw [s_166, d_158 31 (by decide), d_158 32 (by decide)]; exact ⟨rfl, rfl⟩, fun i hi => by rw [s_166, k_158]; exact pk_un hi, fun i _ => by rw [s_166, d_158 34 (by decide), d_158 35 (by decide), d_158 36 (by decide)]; exact ⟨rfl, rfl, rfl⟩⟩, by rw [r_166 22 (by decide), a_158]; exact k_131, Or.inr ⟨hf.1, rfl, k_166, by rw [s_166, k_158]; exact pk_us.trans (by rw [hcn hf.1]), ?_⟩⟩
    refine CA_MC (pD y) 0 0 (MT_cong hf.2.2.2.1 (fun k _ => by rw [hrw 31 (by decide), hrw 32 (by decide)]; exact ⟨rfl, rfl⟩)) (fun i c hc => ?_)
    rw [hrw 34 (by decide), hrw 35 (by decide), hrw 36 (by decide), Nat.zero_add, Nat.zero_add]
    exact hf.2.2.2.2 i c hc
  · have hf : pF y ≠ 0 ∧ S.1 24 = nI (pF y) := hfin.resolve_right (fun w => c_138 (by rw [w.2.2.1]; decide))
    refine wq (fun _ _ kk => rs_bipush (v := -2) (pc := 141) dX12_law_141 rfl kk) ?_
    refine wq (fun _ _ kk => rs_aload_n (pc := 143) dX12_law_143 rfl kk) ?_
    refine wq (fun _ _ kk => rs_getf (pc := 144) dX12_law_144 fX12_264 (md_lt hmd (by decide)) hmd.2.1 rfl kk) ?_
    rw [r_131 24 (by decide), hf.2]
    refine wq (fun _ _ kk => rs_isub (pc := 147) dX12_law_147 kk) ?_
    refine wq_ret ?_ (rs_iret (pc := 148) dX12_law_148 rfl)
    exact ⟨hE.trans (E_1), _, y, hmd, hre, Or.inl hf.1, hy, hlf, k_131, Or.inl ⟨hf.1, rfl, (r_131 25 (by decide)).trans h25⟩⟩
theorem tx_k_18 {t : Nat → Nat} {n a : Nat} (h : a < n) (hk : tx_k t n a = 18) : False := by
  unfold tx_k at hk
  rw [if_neg (by omega)] at hk
  by_cases h2 : tx_dg t a = true
  · rw [if_pos h2] at hk; cases hk
  rw [if_neg h2] at hk
  by_cases h3 : tx_lt t a = true
  · rw [if_pos h3] at hk; exact (tx_wk_no hk).2 rfl
  · rw [if_neg h3] at hk; exact (tx_sk_no hk).2.2.2.2.2.2.2 rfl
set_option maxRecDepth 100000 in
set_option maxHeartbeats 4000000 in
theorem l2_X12_law {t : Nat → Nat} {n r : Nat} {h : ai_H} {S0 : Md} (hn4 : n ≤ 400) (hr9 : r < 10) : ∀ (m cc : Nat) (O : List Nat) (x : PS) (g : ai_H) (S : Md), cc ≤ 12 → n + 1 ≤ pP x + m → md_at g S → tx_m t n r S → md_ext h g → lfr r S0 S → py_rch t n py_x0 x → pok n x → pF x = 0 → pZ x = 0 → cc = (pD x).length → mr t n r (pE x) (pP x) (pPa x) (pDe x) O S → CA S r (pD x) → ai_W MX12_law 40 [.ref 307, .int (nI cc), .int 1] [] g (fun rv g' => md_ext h g' ∧ ∃ T y, md_at g' T ∧ py_rch t n py_x0 y ∧ py_stop y ∧ pok n y ∧ lfr r S0 T ∧ T.1 22 = 0 ∧ ((pF y ≠ 0 ∧ rv = some (.int (-2 - nI (pF y))) ∧ T.1 25 = nI r) ∨ (pF y = 0 ∧ rv = some (.int (nI r)) ∧ T.1 25 = nI (r + 1) ∧ ML T r (pD y)))) := by
  intro m
  induction m with
  | zero =>
    intro cc O x g S hc12 hfu hmd htx hE hlf hre hx h0 hz0
    have hpx : pP x ≤ n := (hx.1 h0).2.2.2.2.2.2.1 (show pZ x ≠ 9 by rw [hz0]; decide)
    exact absurd hfu (by omega)
  | succ m ih =>
    intro cc O x g S hc12 hfu hmd htx hE hlf hre hx h0 hz0 hcc hm hCAx
    obtain ⟨x22, -, x25, -, xt⟩ := id htx
    refine wq (fun _ _ kk => rs_iload_n (pc := 40) dX12_law_40 rfl kk) ?_
    refine wq_br (fun _ _ kt kf => rs_if_eq (tgt := 129) (pc := 41) dX12_law_41 rfl kt kf) (fun c_41 => absurd c_41 (by decide)) (fun c_41 => ?_)
    refine wq (fun _ _ kk => rs_aload_n (pc := 44) dX12_law_44 rfl kk) ?_
    refine wq (fun _ _ kk => rs_iload_n (pc := 45) dX12_law_45 rfl kk) ?_
    obtain ⟨rv_46, hc_46, ⟨rfl, ee_46, T_46, y, hmd_46, pc_46, re_46, hs_46⟩, hm_46⟩ := c_clause (c := cc) hmd htx hx h0 hz0 hcc hm
    refine wq (fun _ _ kk => rs_callV (as := [_]) (pc := 46) dX12_law_46 mk_X12_clause mlX12_371 in_X12_clause se_X12_clause rfl (md_lt hmd (by decide)) hmd.2.1 rfl rfl (Nat.le_of_ble_eq_true rfl) (hm_46) kk) ?_
    replace hmd := hmd_46
    have htx : tx_m t n r T_46 := ⟨(pc_46.1 22 (by decide) (by decide) (by decide) (by decide) (by decide) (by decide)).trans x22, hn4, (pc_46.1 25 (by decide) (by decide) (by decide) (by decide) (by decide) (by decide)).trans x25, hr9, fun q hq => ⟨(xt q hq).1, by rw [pc_46.2.2.2.1 30 (by decide) (by decide) (by decide) (by decide) (by decide) (by decide)]; exact (xt q hq).2⟩⟩
    replace hlf := hlf.trans pc_46.l
    have hy := pok_rch hn4 re_46 hx
    have hpre : ded y T_46 ∨ ∃ O, mr t n r (pE y ++ py_tk (py_tw 1 (pL y))) (pP y) (pPa y) (pDe y - py_nt (py_tw 1 (pL y))) O T_46 := hs_46.imp id (fun w => w.2.2.2.2.2.1)
    obtain ⟨O2, hpre2⟩ : ∃ O, ded y T_46 ∨ mr t n r (pE y ++ py_tk (py_tw 1 (pL y))) (pP y) (pPa y) (pDe y - py_nt (py_tw 1 (pL y))) O T_46 := by
      rcases hpre with w | ⟨O, w⟩
      · exact ⟨[], Or.inl w⟩
      · exact ⟨O, Or.inr w⟩
    have E_46 := (md_ext.rf).trans ee_46
    refine wq (fun _ _ kk => wk_iinc1 (v := nI (cc + 1)) (pc := 49) dX12_law_49 (by decide) rfl (nI_1 cc) kk) ?_
    refine wq (fun _ _ kk => rs_aload_n (pc := 52) dX12_law_52 rfl kk) ?_
    obtain ⟨rv_53, hc_53, ⟨rfl, ee_53, T_53, hmd_53, pf_53, hb_53⟩, hm_53⟩ := c_bl (x := y) hmd htx hpre2
    refine wq (fun _ _ kk => rs_callV (as := []) (pc := 53) dX12_law_53 mk_X12_blanks mlX12_287 in_X12_blanks se_X12_blanks rfl (md_lt hmd (by decide)) hmd.2.1 rfl rfl (Nat.le_of_ble_eq_true rfl) (hm_53) kk) ?_
    replace hmd := hmd_53
    replace htx := htx.of pf_53
    replace hlf := hlf.trans (pf_53.c (c := cc)).l
    obtain ⟨x22, -, x25, -, xt⟩ := id htx
    have E_53 := (E_46).trans ee_53
    refine wq (fun _ _ kk => rs_aload_n (pc := 56) dX12_law_56 rfl kk) ?_
    refine wq (fun _ _ kk => rs_getf (pc := 57) dX12_law_57 fX12_264 (md_lt hmd (by decide)) hmd.2.1 rfl kk) ?_
    refine wq_bn (fun _ _ kt kf => rs_if_ne (tgt := 92) (pc := 60) dX12_law_60 rfl kt kf) (fun c_60 => ?_) (fun c_60 => ?_)
    · have hd : ded y T_53 := hb_53.elim (fun w => w.2) (fun w => absurd w.2.1.1 c_60)
      refine wq (fun _ _ kk => rs_aload_n (pc := 92) dX12_law_92 rfl kk) ?_
      refine wq (fun _ _ kk => rs_getf (pc := 93) dX12_law_93 fX12_264 (md_lt hmd (by decide)) hmd.2.1 rfl kk) ?_
      refine wq_bn (fun _ _ kt kf => rs_if_ne (tgt := 114) (pc := 96) dX12_law_96 rfl kt kf) (fun c_96 => ?_) (fun c_96 => absurd c_96 (fun w => hd.ne hy w))
      refine wq (fun _ _ kk => rs_iconst (v := 0) (pc := 114) dX12_law_114 rfl kk) ?_
      refine wq (fun _ _ kk => wk_istn2 (pc := 115) dX12_law_115 (by decide) rfl kk) ?_
      refine wq (fun _ _ kk => rs_aload_n (pc := 116) dX12_law_116 rfl kk) ?_
      refine wq (fun _ _ kk => rs_dup (pc := 117) dX12_law_117 rfl kk) ?_
      refine wq (fun _ _ kk => rs_getf (pc := 118) dX12_law_118 fX12_267 (md_lt hmd (by decide)) hmd.2.1 rfl kk) ?_
      refine wq (fun _ _ kk => rs_iconst (v := 1) (pc := 121) dX12_law_121 rfl kk) ?_
      refine wq (fun _ _ kk => rs_iadd (pc := 122) dX12_law_122 kk) ?_
      refine wq (fun _ _ kk => rs_putf (pc := 123) dX12_law_123 fX12_267 (md_lt hmd (by decide)) hmd.2.1 rfl (Nat.le_of_ble_eq_true rfl) kk) ?_
      refine wq_gen (fun h_1 e_1 => ?_)
      obtain ⟨m_1, s_1, g_1, o_1⟩ := ai_e1 e_1
      replace hmd := md_at_si (k := 23) hmd m_1 g_1 o_1 rfl
      have E_1 := (E_53).trans (md_ext_of m_1 s_1 o_1 (by decide))
      obtain ⟨S_p, hmd, k_p, r_p, s_p⟩ := md_new hmd
      refine wq (fun _ _ kk => rs_goto (tgt := 40) (pc := 126) dX12_law_126 rfl kk) ?_
      refine wq (fun _ _ kk => rs_iload_n (pc := 40) dX12_law_40 rfl kk) ?_
      refine wq_br (fun _ _ kt kf => rs_if_eq (tgt := 129) (pc := 41) dX12_law_41 rfl kt kf) (fun c_41 => ?_) (fun c_41 => absurd c_41 (by decide))
      exact l1_X12_law hmd (hE.trans (E_1)) ((r_p 25 (by decide)).trans x25) hr9 (hre.trans re_46) hy (hlf.trans (put_l (by decide) r_p s_p)) (Or.inl ⟨hd.1, (r_p 24 (by decide)).trans hd.2.1⟩) (fun w => absurd w hd.1)
    · obtain ⟨hm46, hmO, hq, hqn⟩ := hb_53.resolve_left (fun w => w.2.ne hy c_60)
      obtain ⟨e0, ez, eat, hD, edw, -, c34, c35, c36, epp⟩ := hs_46.resolve_left (fun w => w.ne hy hm46.1)
      have hB2 : pZ y = 2 → pB y = [] := fun w => py_B2 (hy.1 e0) (Or.inr w)
      have h9 : pZ y ≠ 9 := by rcases ez with w | w | w <;> rw [w] <;> decide
      have hCA : CA T_53 r (pD x ++ [cn y]) := by
        have hCA1 : CA T_46 r (pD x ++ [cn y]) := CA_snoc hCAx (by rw [← hcc]; exact pc_46.2.2.2.2.2) (by rw [← hcc]; exact c34) (by rw [← hcc]; exact c35) (by rw [← hcc]; exact c36)
        intro i c hc
        rw [pf_53.2.2.2.1 34 (by decide) (by decide) (by decide), pf_53.2.2.2.1 35 (by decide) (by decide) (by decide), pf_53.2.2.2.1 36 (by decide) (by decide) (by decide)]
        exact hCA1 i c hc
      refine wq (fun _ _ kk => rs_aload_n (pc := 63) dX12_law_63 rfl kk) ?_
      refine wq (fun _ _ kk => rs_getf (pc := 64) dX12_law_64 fX12_267 (md_lt hmd (by decide)) hmd.2.1 rfl kk) ?_
      rw [hq]
      refine wq (fun _ _ kk => rs_aload_n (pc := 67) dX12_law_67 rfl kk) ?_
      refine wq (fun _ _ kk => rs_getf (pc := 68) dX12_law_68 fX12_241 (md_lt hmd (by decide)) hmd.2.1 rfl kk) ?_
      rw [x22]
      refine wq_br (fun _ _ kt kf => rs_icmp_ge (tgt := 92) (pc := 71) dX12_law_71 rfl kt kf) (fun c_71 => ?_) (fun c_71 => ?_)
      · have g1 : n ≤ (tx_fr t n (pP y)) := tx_le1 (by omega) (by omega) rfl c_71
        have kk : tx_k t n (tx_fr t n (pP y)) = 18 := by unfold tx_k; rw [if_pos g1]
        obtain ⟨z, hz, z0, z1, z2, z3, z4, z5, z6⟩ := close_step (a := (tx_fr t n (pP y))) (e := tx_e t n (tx_fr t n (pP y))) (k := 18) (y := y) (Or.inr rfl) hB2
        rw [kk] at eat
        rw [← eat] at hz
        have zr : py_rch t n y z := by rw [← hz]; exact py_rch.one e0 h9
        have hyz := pok_rch hn4 zr hy
        refine wq (fun _ _ kk => rs_aload_n (pc := 92) dX12_law_92 rfl kk) ?_
        refine wq (fun _ _ kk => rs_getf (pc := 93) dX12_law_93 fX12_264 (md_lt hmd (by decide)) hmd.2.1 rfl kk) ?_
        refine wq_bn (fun _ _ kt kf => rs_if_ne (tgt := 114) (pc := 96) dX12_law_96 rfl kt kf) (fun c_96 => absurd c_96 (fun w => w hmO.1)) (fun c_96 => ?_)
        refine wq (fun _ _ kk => rs_aload_n (pc := 99) dX12_law_99 rfl kk) ?_
        refine wq (fun _ _ kk => rs_getf (pc := 100) dX12_law_100 fX12_267 (md_lt hmd (by decide)) hmd.2.1 rfl kk) ?_
        rw [hq]
        refine wq (fun _ _ kk => rs_aload_n (pc := 103) dX12_law_103 rfl kk) ?_
        refine wq (fun _ _ kk => rs_getf (pc := 104) dX12_law_104 fX12_241 (md_lt hmd (by decide)) hmd.2.1 rfl kk) ?_
        rw [x22]
        refine wq_br (fun _ _ kt kf => rs_icmp_ge (tgt := 114) (pc := 107) dX12_law_107 rfl kt kf) (fun c_107 => ?_) (fun c_107 => absurd c_107 (fun w => w (nI_le g1 (by omega))))
        refine wq (fun _ _ kk => rs_iconst (v := 0) (pc := 114) dX12_law_114 rfl kk) ?_
        refine wq (fun _ _ kk => wk_istn2 (pc := 115) dX12_law_115 (by decide) rfl kk) ?_
        refine wq (fun _ _ kk => rs_aload_n (pc := 116) dX12_law_116 rfl kk) ?_
        refine wq (fun _ _ kk => rs_dup (pc := 117) dX12_law_117 rfl kk) ?_
        refine wq (fun _ _ kk => rs_getf (pc := 118) dX12_law_118 fX12_267 (md_lt hmd (by decide)) hmd.2.1 rfl kk) ?_
        refine wq (fun _ _ kk => rs_iconst (v := 1) (pc := 121) dX12_law_121 rfl kk) ?_
        refine wq (fun _ _ kk => rs_iadd (pc := 122) dX12_law_122 kk) ?_
        refine wq (fun _ _ kk => rs_putf (pc := 123) dX12_law_123 fX12_267 (md_lt hmd (by decide)) hmd.2.1 rfl (Nat.le_of_ble_eq_true rfl) kk) ?_
        refine wq_gen (fun h_2 e_2 => ?_)
        obtain ⟨m_2, s_2, g_2, o_2⟩ := ai_e1 e_2
        replace hmd := md_at_si (k := 23) hmd m_2 g_2 o_2 rfl
        have E_2 := (E_53).trans (md_ext_of m_2 s_2 o_2 (by decide))
        obtain ⟨S_p, hmd, k_p, r_p, s_p⟩ := md_new hmd
        refine wq (fun _ _ kk => rs_goto (tgt := 40) (pc := 126) dX12_law_126 rfl kk) ?_
        refine wq (fun _ _ kk => rs_iload_n (pc := 40) dX12_law_40 rfl kk) ?_
        refine wq_br (fun _ _ kt kf => rs_if_eq (tgt := 129) (pc := 41) dX12_law_41 rfl kt kf) (fun c_41 => ?_) (fun c_41 => absurd c_41 (by decide))
        exact l1_X12_law hmd (hE.trans (E_2)) ((r_p 25 (by decide)).trans x25) hr9 (hre.trans (re_46.trans zr)) hyz (hlf.trans (put_l (by decide) r_p s_p)) (Or.inr ⟨z0, z1, (r_p 24 (by decide)).trans hmO.1, by
          have hEz : pE z = ent (pD z) := by
            obtain ⟨eA, eB, -⟩ := (hyz.1 z0).2.2.2.1.1 (Or.inr z1)
            unfold pE
            rw [show pA z = [] from eA, show pB z = [] from eB, List.append_nil, List.append_nil]
          rw [← hEz, z6]
          exact MT_cong hmO.2.2.1.2 (fun k _ => by rw [s_p]; exact ⟨rfl, rfl⟩), by rw [z5, hD]; exact hCA.cong s_p⟩) (fun _ => by rw [z5, hD, List.length_append, hcc]; rfl)
      · have g1 : (tx_fr t n (pP y)) < n := tx_le2 (by omega) (by omega) rfl c_71
        refine wq (fun _ _ kk => rs_aload_n (pc := 74) dX12_law_74 rfl kk) ?_
        refine wq (fun _ _ kk => rs_callV (as := []) (pc := 75) dX12_law_75 mk_X12_sign mlX12_270 in_X12_sign se_X12_sign rfl (md_lt hmd (by decide)) hmd.2.1 rfl rfl (Nat.le_of_ble_eq_true rfl) (c_X12_sign hmd htx hq (by omega)) kk) ?_
        refine wq (fun _ _ kk => rs_bipush (v := 59) (pc := 78) dX12_law_78 rfl kk) ?_
        refine wq_br (fun _ _ kt kf => rs_icmp_eq (tgt := 92) (pc := 80) dX12_law_80 rfl kt kf) (fun c_80 => ?_) (fun c_80 => ?_)
        · have g9 := (tx_s_eq (c := 59) (fun w => (xt _ w).1) (by decide)).mp c_80
          obtain ⟨kk, ke⟩ := tx_sg_k (t := t) g9.1 (by omega) (by omega)
          rw [g9.2] at kk ke
          replace kk : tx_k t n (tx_fr t n (pP y)) = 17 := kk
          replace ke : tx_e t n (tx_fr t n (pP y)) = (tx_fr t n (pP y)) + 1 := ke
          obtain ⟨z, hz, z0, z1, z2, z3, z4, z5, z6⟩ := close_step (a := (tx_fr t n (pP y))) (e := tx_e t n (tx_fr t n (pP y))) (k := 17) (y := y) (Or.inl rfl) hB2
          rw [kk] at eat
          rw [← eat] at hz
          have zr : py_rch t n y z := by rw [← hz]; exact py_rch.one e0 h9
          have hyz := pok_rch hn4 zr hy
          refine wq (fun _ _ kk => rs_aload_n (pc := 92) dX12_law_92 rfl kk) ?_
          refine wq (fun _ _ kk => rs_getf (pc := 93) dX12_law_93 fX12_264 (md_lt hmd (by decide)) hmd.2.1 rfl kk) ?_
          refine wq_bn (fun _ _ kt kf => rs_if_ne (tgt := 114) (pc := 96) dX12_law_96 rfl kt kf) (fun c_96 => absurd c_96 (fun w => w hmO.1)) (fun c_96 => ?_)
          refine wq (fun _ _ kk => rs_aload_n (pc := 99) dX12_law_99 rfl kk) ?_
          refine wq (fun _ _ kk => rs_getf (pc := 100) dX12_law_100 fX12_267 (md_lt hmd (by decide)) hmd.2.1 rfl kk) ?_
          rw [hq]
          refine wq (fun _ _ kk => rs_aload_n (pc := 103) dX12_law_103 rfl kk) ?_
          refine wq (fun _ _ kk => rs_getf (pc := 104) dX12_law_104 fX12_241 (md_lt hmd (by decide)) hmd.2.1 rfl kk) ?_
          rw [x22]
          refine wq_br (fun _ _ kt kf => rs_icmp_ge (tgt := 114) (pc := 107) dX12_law_107 rfl kt kf) (fun c_107 => absurd c_107 (fun w => absurd (tx_le1 (by omega) (by omega) rfl w) (by omega))) (fun c_107 => ?_)
          refine wq (fun _ _ kk => rs_iconst (v := 1) (pc := 110) dX12_law_110 rfl kk) ?_
          refine wq (fun _ _ kk => rs_goto (tgt := 115) (pc := 111) dX12_law_111 rfl kk) ?_
          refine wq (fun _ _ kk => wk_istn2 (pc := 115) dX12_law_115 (by decide) rfl kk) ?_
          refine wq (fun _ _ kk => rs_aload_n (pc := 116) dX12_law_116 rfl kk) ?_
          refine wq (fun _ _ kk => rs_dup (pc := 117) dX12_law_117 rfl kk) ?_
          refine wq (fun _ _ kk => rs_getf (pc := 118) dX12_law_118 fX12_267 (md_lt hmd (by decide)) hmd.2.1 rfl kk) ?_
          rw [hq]
          refine wq (fun _ _ kk => rs_iconst (v := 1) (pc := 121) dX12_law_121 rfl kk) ?_
          refine wq (fun _ _ kk => rs_iadd (pc := 122) dX12_law_122 kk) ?_
          refine wq (fun _ _ kk => rs_putf (pc := 123) dX12_law_123 fX12_267 (md_lt hmd (by decide)) hmd.2.1 rfl (Nat.le_of_ble_eq_true rfl) kk) ?_
          refine wq_gen (fun h_3 e_3 => ?_)
          obtain ⟨m_3, s_3, g_3, o_3⟩ := ai_e1 e_3
          replace hmd := md_at_si (k := 23) hmd m_3 g_3 o_3 rfl
          have E_3 := (E_53).trans (md_ext_of m_3 s_3 o_3 (by decide))
          obtain ⟨S_p, hmd, k_p, r_p, s_p⟩ := md_new hmd
          rw [nI_1] at k_p
          have pfp : pfm r T_53 S_p := pfm.put (by decide) r_p s_p
          refine wq (fun _ _ kk => rs_goto (tgt := 40) (pc := 126) dX12_law_126 rfl kk) ?_
          have hcz : cc + 1 = (pD z).length := by rw [z5, hD, List.length_append, hcc]; rfl
          have hc2 : (pD z).length ≤ 12 := (py_room hn4 (hyz.1 z0)).2.2
          have hfr := tx_fr_ge (t := t) (n := n) (p := pP y)
          have hpz : pP z = tx_fr t n (pP y) + 1 := z2.trans ke
          refine ih (cc + 1) O2 z _ _ (by omega) (by omega) hmd (htx.of pfp) (hE.trans (E_3)) (hlf.trans (put_l (by decide) r_p s_p)) (hre.trans (re_46.trans zr)) hyz z0 z1 hcz ?_ (by rw [z5, hD]; exact hCA.cong s_p)
          rw [z6, z2, z3, z4]
          exact mv_mr hmO r_p s_p k_p (by omega) (by rw [ke])
        · have kk : tx_k t n (tx_fr t n (pP y)) ≠ 17 ∧ tx_k t n (tx_fr t n (pP y)) ≠ 18 := ⟨fun w => by
            obtain ⟨k1, k2⟩ := tx_k_sgn w (by omega)
            exact c_80 ((tx_s_eq (c := 59) (fun w => (xt _ w).1) (by decide)).mpr ⟨k1, (tx_sk_c k2).2.2.2.2.2.2 rfl⟩), fun w => tx_k_18 g1 w⟩
          rw [close_fail kk] at eat
          have zr : py_rch t n y (py_fail 0 (tx_fr t n (pP y)) y) := by rw [← eat]; exact py_rch.one e0 h9
          have hyz := pok_rch hn4 zr hy
          refine wq (fun _ _ kk => rs_aload_n (pc := 83) dX12_law_83 rfl kk) ?_
          refine wq (fun _ _ kk => rs_iconst (v := 0) (pc := 84) dX12_law_84 rfl kk) ?_
          refine wq (fun _ _ kk => rs_aload_n (pc := 85) dX12_law_85 rfl kk) ?_
          refine wq (fun _ _ kk => rs_getf (pc := 86) dX12_law_86 fX12_267 (md_lt hmd (by decide)) hmd.2.1 rfl kk) ?_
          rw [hq]
          obtain ⟨rv_89, hc_89, ⟨rfl, ee_89, T_89, hmd_89, q0, q3⟩, hm_89⟩ := c_X12_fails (c := 0) (a := (tx_fr t n (pP y))) hmd
          refine wq (fun _ _ kk => rs_callV (as := [_, _]) (pc := 89) dX12_law_89 mk_X12_fails mlX12_303 in_X12_fails se_X12_fails rfl (md_lt hmd (by decide)) hmd.2.1 rfl rfl (Nat.le_of_ble_eq_true rfl) (hm_89) kk) ?_
          replace hmd := hmd_89
          rw [hmO.1, if_pos rfl] at q3
          have E_89 := (E_53).trans ee_89
          refine wq (fun _ _ kk => rs_aload_n (pc := 92) dX12_law_92 rfl kk) ?_
          refine wq (fun _ _ kk => rs_getf (pc := 93) dX12_law_93 fX12_264 (md_lt hmd (by decide)) hmd.2.1 rfl kk) ?_
          refine wq_bn (fun _ _ kt kf => rs_if_ne (tgt := 114) (pc := 96) dX12_law_96 rfl kt kf) (fun c_96 => ?_) (fun c_96 => absurd c_96 (by rw [q3]; exact nI_ne0 (by omega) (by omega)))
          refine wq (fun _ _ kk => rs_iconst (v := 0) (pc := 114) dX12_law_114 rfl kk) ?_
          refine wq (fun _ _ kk => wk_istn2 (pc := 115) dX12_law_115 (by decide) rfl kk) ?_
          refine wq (fun _ _ kk => rs_aload_n (pc := 116) dX12_law_116 rfl kk) ?_
          refine wq (fun _ _ kk => rs_dup (pc := 117) dX12_law_117 rfl kk) ?_
          refine wq (fun _ _ kk => rs_getf (pc := 118) dX12_law_118 fX12_267 (md_lt hmd (by decide)) hmd.2.1 rfl kk) ?_
          refine wq (fun _ _ kk => rs_iconst (v := 1) (pc := 121) dX12_law_121 rfl kk) ?_
          refine wq (fun _ _ kk => rs_iadd (pc := 122) dX12_law_122 kk) ?_
          refine wq (fun _ _ kk => rs_putf (pc := 123) dX12_law_123 fX12_267 (md_lt hmd (by decide)) hmd.2.1 rfl (Nat.le_of_ble_eq_true rfl) kk) ?_
          refine wq_gen (fun h_4 e_4 => ?_)
          obtain ⟨m_4, s_4, g_4, o_4⟩ := ai_e1 e_4
          replace hmd := md_at_si (k := 23) hmd m_4 g_4 o_4 rfl
          have E_4 := (E_89).trans (md_ext_of m_4 s_4 o_4 (by decide))
          obtain ⟨S_p, hmd, k_p, r_p, s_p⟩ := md_new hmd
          refine wq (fun _ _ kk => rs_goto (tgt := 40) (pc := 126) dX12_law_126 rfl kk) ?_
          refine wq (fun _ _ kk => rs_iload_n (pc := 40) dX12_law_40 rfl kk) ?_
          refine wq_br (fun _ _ kt kf => rs_if_eq (tgt := 129) (pc := 41) dX12_law_41 rfl kt kf) (fun c_41 => ?_) (fun c_41 => absurd c_41 (by decide))
          exact l1_X12_law hmd (hE.trans (E_4)) (by rw [r_p 25 (by decide), q0.1 25 (by decide)]; exact x25) hr9 (hre.trans (re_46.trans zr)) hyz (hlf.trans (((q0.f (by decide) : pfm r _ _).c (c := cc)).l.trans (put_l (by decide) r_p s_p))) (Or.inl ⟨by rw [pF_fail]; omega, by rw [pF_fail, r_p 24 (by decide)]; exact q3⟩) (fun w => absurd w (by rw [pF_fail]; omega))
theorem nI_sur (v : Int32) : ∃ k, v = nI k := by
  refine ⟨v.toBitVec.toNat, ?_⟩
  apply Int32.toBitVec_inj.mp
  show v.toBitVec = BitVec.ofNat 32 v.toBitVec.toNat
  simp
theorem ex_O (f : Nat → Int32) : ∀ k, ∃ O : List Nat, O.length = k ∧ mo_on O f
  | 0 => ⟨[], rfl, trivial⟩
  | k + 1 => by
    obtain ⟨O, h1, h2⟩ := ex_O f k
    obtain ⟨x, hx⟩ := nI_sur (f k)
    exact ⟨x :: O, by rw [List.length_cons, h1], by rw [h1]; exact hx, h2⟩
set_option maxRecDepth 100000 in
set_option maxHeartbeats 4000000 in
theorem c_X12_law {t : Nat → Nat} {n nl : Nat} {h : ai_H} {S : Md} (hmd : md_at h S) (h22 : S.1 22 = nI n) (hn4 : n ≤ 400) (h25 : S.1 25 = nI nl) (hnl : nl ≤ 10) (ht : ∀ q, q < n → t q < 256 ∧ S.2.2.1 30 q = by8 (t q)) : ai_QM MX12_law [.ref 307] h (fun rv g' => (nl = 10 ∧ rv = some (.int (-1)) ∧ g' = h) ∨ (nl < 10 ∧ md_ext h g' ∧ ∃ T y, md_at g' T ∧ py_rch t n py_x0 y ∧ py_stop y ∧ pok n y ∧ lfr nl S T ∧ T.1 22 = 0 ∧ ((pF y ≠ 0 ∧ rv = some (.int (-2 - nI (pF y))) ∧ T.1 25 = nI nl) ∨ (pF y = 0 ∧ rv = some (.int (nI nl)) ∧ T.1 25 = nI (nl + 1) ∧ ML T nl (pD y))))) := by
  refine qm_of (ls := [.ref 307, .float 0, .float 0]) (by decide) (by simp [ai_en, Value.category]) (by rfl) ?_
  refine wq (fun _ _ kk => rs_aload_n (pc := 0) dX12_law_0 rfl kk) ?_
  refine wq (fun _ _ kk => rs_getf (pc := 1) dX12_law_1 fX12_294 (md_lt hmd (by decide)) hmd.2.1 rfl kk) ?_
  rw [h25]
  refine wq (fun _ _ kk => rs_bipush (v := 10) (pc := 4) dX12_law_4 rfl kk) ?_
  refine wq_bn (fun _ _ kt kf => rs_icmp_ne (tgt := 11) (pc := 6) dX12_law_6 rfl kt kf) (fun c_6 => ?_) (fun c_6 => ?_)
  · have g10 : nl ≠ 10 := fun z => c_6 (by rw [z]; rfl)
    have hr9 : nl < 10 := by omega
    refine wq (fun _ _ kk => rs_aload_n (pc := 11) dX12_law_11 rfl kk) ?_
    refine wq (fun _ _ kk => rs_iconst (v := 0) (pc := 12) dX12_law_12 rfl kk) ?_
    refine wq (fun _ _ kk => rs_putf (pc := 13) dX12_law_13 fX12_267 (md_lt hmd (by decide)) hmd.2.1 rfl (Nat.le_of_ble_eq_true rfl) kk) ?_
    refine wq_gen (fun h_1 e_1 => ?_)
    obtain ⟨m_1, s_1, g_1, o_1⟩ := ai_e1 e_1
    replace hmd := md_at_si (k := 23) hmd m_1 g_1 o_1 rfl
    have E_1 := (md_ext.rf).trans (md_ext_of m_1 s_1 o_1 (by decide))
    obtain ⟨S_13, hmd, k_13, r_13, s_13⟩ := md_new hmd
    refine wq (fun _ _ kk => rs_aload_n (pc := 16) dX12_law_16 rfl kk) ?_
    refine wq (fun _ _ kk => rs_iconst (v := 0) (pc := 17) dX12_law_17 rfl kk) ?_
    refine wq (fun _ _ kk => rs_putf (pc := 18) dX12_law_18 fX12_264 (md_lt hmd (by decide)) hmd.2.1 rfl (Nat.le_of_ble_eq_true rfl) kk) ?_
    refine wq_gen (fun h_2 e_2 => ?_)
    obtain ⟨m_2, s_2, g_2, o_2⟩ := ai_e1 e_2
    replace hmd := md_at_si (k := 24) hmd m_2 g_2 o_2 rfl
    have E_2 := (E_1).trans (md_ext_of m_2 s_2 o_2 (by decide))
    obtain ⟨S_18, hmd, k_18, r_18, s_18⟩ := md_new hmd
    refine wq (fun _ _ kk => rs_aload_n (pc := 21) dX12_law_21 rfl kk) ?_
    refine wq (fun _ _ kk => rs_iconst (v := 0) (pc := 22) dX12_law_22 rfl kk) ?_
    refine wq (fun _ _ kk => rs_putf (pc := 23) dX12_law_23 fX12_297 (md_lt hmd (by decide)) hmd.2.1 rfl (Nat.le_of_ble_eq_true rfl) kk) ?_
    refine wq_gen (fun h_3 e_3 => ?_)
    obtain ⟨m_3, s_3, g_3, o_3⟩ := ai_e1 e_3
    replace hmd := md_at_si (k := 26) hmd m_3 g_3 o_3 rfl
    have E_3 := (E_2).trans (md_ext_of m_3 s_3 o_3 (by decide))
    obtain ⟨S_23, hmd, k_23, r_23, s_23⟩ := md_new hmd
    refine wq (fun _ _ kk => rs_aload_n (pc := 26) dX12_law_26 rfl kk) ?_
    refine wq (fun _ _ kk => rs_iconst (v := 0) (pc := 27) dX12_law_27 rfl kk) ?_
    refine wq (fun _ _ kk => rs_putf (pc := 28) dX12_law_28 fX12_337 (md_lt hmd (by decide)) hmd.2.1 rfl (Nat.le_of_ble_eq_true rfl) kk) ?_
    refine wq_gen (fun h_4 e_4 => ?_)
    obtain ⟨m_4, s_4, g_4, o_4⟩ := ai_e1 e_4
    replace hmd := md_at_si (k := 27) hmd m_4 g_4 o_4 rfl
    have E_4 := (E_3).trans (md_ext_of m_4 s_4 o_4 (by decide))
    obtain ⟨S_28, hmd, k_28, r_28, s_28⟩ := md_new hmd
    refine wq (fun _ _ kk => rs_aload_n (pc := 31) dX12_law_31 rfl kk) ?_
    refine wq (fun _ _ kk => rs_iconst (v := 0) (pc := 32) dX12_law_32 rfl kk) ?_
    refine wq (fun _ _ kk => rs_putf (pc := 33) dX12_law_33 fX12_300 (md_lt hmd (by decide)) hmd.2.1 rfl (Nat.le_of_ble_eq_true rfl) kk) ?_
    refine wq_gen (fun h_5 e_5 => ?_)
    obtain ⟨m_5, s_5, g_5, o_5⟩ := ai_e1 e_5
    replace hmd := md_at_si (k := 28) hmd m_5 g_5 o_5 rfl
    have E_5 := (E_4).trans (md_ext_of m_5 s_5 o_5 (by decide))
    obtain ⟨S_33, hmd, k_33, r_33, s_33⟩ := md_new hmd
    refine wq (fun _ _ kk => rs_iconst (v := 0) (pc := 36) dX12_law_36 rfl kk) ?_
    refine wq (fun _ _ kk => wk_istn1 (pc := 37) dX12_law_37 (by decide) rfl kk) ?_
    refine wq (fun _ _ kk => rs_iconst (v := 1) (pc := 38) dX12_law_38 rfl kk) ?_
    refine wq (fun _ _ kk => wk_istn2 (pc := 39) dX12_law_39 (by decide) rfl kk) ?_
    have hlf : lfr nl S S_33 := (put_l (by decide) r_13 s_13).trans ((put_l (by decide) r_18 s_18).trans ((put_l (by decide) r_23 s_23).trans ((put_l (by decide) r_28 s_28).trans (put_l (by decide) r_33 s_33))))
    have hs2 : S_33.2 = S.2 := by rw [s_33, s_28, s_23, s_18, s_13]
    have htx : tx_m t n nl S_33 := ⟨by rw [r_33 22 (by decide), r_28 22 (by decide), r_23 22 (by decide), r_18 22 (by decide), r_13 22 (by decide)]; exact h22, hn4, by rw [r_33 25 (by decide), r_28 25 (by decide), r_23 25 (by decide), r_18 25 (by decide), r_13 25 (by decide)]; exact h25, hr9, fun q hq => ⟨(ht q hq).1, by rw [hs2]; exact (ht q hq).2⟩⟩
    obtain ⟨k29, e29⟩ := nI_sur (S_33.1 29)
    obtain ⟨O, hO1, hO2⟩ := ex_O (S_33.2.2.1 37) k29
    have hx0 : pok n py_x0 := ⟨py_inv_0 n, Nat.zero_le _⟩
    have hw := l2_X12_law hn4 hr9 (n + 1) 0 O py_x0 _ S_33 (by omega) (by omega) hmd htx (E_5) hlf py_rch.rf hx0 rfl rfl rfl ⟨by rw [r_33 24 (by decide), r_28 24 (by decide), r_23 24 (by decide), k_18], ⟨0, by rw [r_33 23 (by decide), r_28 23 (by decide), r_23 23 (by decide), r_18 23 (by decide), k_13]; rfl, Nat.zero_le _, rfl⟩, ⟨by rw [r_33 26 (by decide), r_28 26 (by decide), k_23]; rfl, fun k u hk => by cases hk⟩, by rw [r_33 27 (by decide), k_28]; rfl, k_33, by rw [hO1]; exact e29, hO2⟩ (fun i c hc => by cases hc)
    exact wq_mono (fun rv gg q => Or.inr ⟨hr9, q⟩) hw
  · have g10 : nl = 10 := tx_eq1 (b := 10) (by omega) (by decide) rfl c_6
    refine wq (fun _ _ kk => rs_iconst (v := -1) (pc := 9) dX12_law_9 rfl kk) ?_
    refine wq_ret ?_ (rs_iret (pc := 10) dX12_law_10 rfl)
    exact Or.inl ⟨g10, rfl, rfl⟩
