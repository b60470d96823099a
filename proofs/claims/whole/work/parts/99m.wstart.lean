/-! 99m: the world at the law's entry (laid by wip/whole/p99m.py) -/
theorem lt_1 {w : Cond} (i : Nat) (h : tables_1_1[i]? = some w) : w ∈ lw_tbl := List.mem_append_right _ (List.mem_append_left _ (List.mem_of_getElem? h))
theorem lt_2 {w : Cond} (i : Nat) (h : tables_1_2[i]? = some w) : w ∈ lw_tbl := List.mem_append_right _ (List.mem_append_right _ (List.mem_append_left _ (List.mem_of_getElem? h)))
theorem lt_3 {w : Cond} (i : Nat) (h : tables_1_3[i]? = some w) : w ∈ lw_tbl := List.mem_append_right _ (List.mem_append_right _ (List.mem_append_right _ (List.mem_append_left _ (List.mem_of_getElem? h))))
theorem lt_4 {w : Cond} (i : Nat) (h : tables_1_4[i]? = some w) : w ∈ lw_tbl := List.mem_append_right _ (List.mem_append_right _ (List.mem_append_right _ (List.mem_append_right _ (List.mem_append_left _ (List.mem_of_getElem? h)))))
theorem lt_5 {w : Cond} (i : Nat) (h : tables_1_5[i]? = some w) : w ∈ lw_tbl := List.mem_append_right _ (List.mem_append_right _ (List.mem_append_right _ (List.mem_append_right _ (List.mem_append_right _ (List.mem_append_left _ (List.mem_of_getElem? h))))))
theorem lt_6 {w : Cond} (i : Nat) (h : tables_1_6[i]? = some w) : w ∈ lw_tbl := List.mem_append_right _ (List.mem_append_right _ (List.mem_append_right _ (List.mem_append_right _ (List.mem_append_right _ (List.mem_append_right _ (List.mem_append_left _ (List.mem_of_getElem? h)))))))
theorem lt_7 {w : Cond} (i : Nat) (h : tables_1_7[i]? = some w) : w ∈ lw_tbl := List.mem_append_right _ (List.mem_append_right _ (List.mem_append_right _ (List.mem_append_right _ (List.mem_append_right _ (List.mem_append_right _ (List.mem_append_right _ (List.mem_append_left _ (List.mem_of_getElem? h))))))))
theorem lt_8 {w : Cond} (i : Nat) (h : tables_1_8[i]? = some w) : w ∈ lw_tbl := List.mem_append_right _ (List.mem_append_right _ (List.mem_append_right _ (List.mem_append_right _ (List.mem_append_right _ (List.mem_append_right _ (List.mem_append_right _ (List.mem_append_right _ ((List.mem_of_getElem? h)))))))))
set_option maxRecDepth 20000 in
theorem wl_cmp : Cond.laysStatic "java/lang/String" "COMPACT_STRINGS" "Z" ∈ lw_tbl := lt_3 44 rfl
set_option maxRecDepth 20000 in
theorem wl_fmt : Cond.laysStatic "jdk/internal/util/Preconditions" "SIOOBE_FORMATTER" "Ljava/util/function/BiFunction;" ∈ lw_tbl := lt_3 60 rfl
set_option maxRecDepth 20000 in
theorem wi_str : Cond.initialized "java/lang/String" ∈ lw_tbl := lt_1 14 rfl
set_option maxRecDepth 20000 in
theorem wi_pre : Cond.initialized "jdk/internal/util/Preconditions" ∈ lw_tbl := lt_1 16 rfl
set_option maxRecDepth 20000 in
theorem wo_Tally : Cond.arrayOver (.object "EachLater$Tally") ∈ lw_tbl := lt_1 223 rfl
set_option maxRecDepth 20000 in
theorem wo_Law : Cond.arrayOver (.object "EachLater$Law") ∈ lw_tbl := lt_1 86 rfl
set_option maxRecDepth 20000 in
theorem wo_Book : Cond.arrayOver (.object "EachLater$Book") ∈ lw_tbl := lt_1 84 rfl
set_option maxRecDepth 20000 in
theorem sr_0 : Cond.stringRef "EachLater$Reader" 116 "lean" ∈ lw_tbl := lt_3 30 rfl
set_option maxRecDepth 20000 in
theorem sr_1 : Cond.stringRef "EachLater$Reader" 123 "if" ∈ lw_tbl := lt_3 84 rfl
set_option maxRecDepth 20000 in
theorem sr_2 : Cond.stringRef "EachLater$Reader" 126 "or" ∈ lw_tbl := lt_3 86 rfl
set_option maxRecDepth 20000 in
theorem sr_3 : Cond.stringRef "EachLater$Reader" 129 "and" ∈ lw_tbl := lt_3 88 rfl
set_option maxRecDepth 20000 in
theorem sr_4 : Cond.stringRef "EachLater$Reader" 132 "not" ∈ lw_tbl := lt_3 90 rfl
set_option maxRecDepth 20000 in
theorem sr_5 : Cond.stringRef "EachLater$Reader" 139 "bright" ∈ lw_tbl := lt_3 99 rfl
set_option maxRecDepth 20000 in
theorem sr_6 : Cond.stringRef "EachLater$Reader" 141 "pace" ∈ lw_tbl := lt_3 100 rfl
set_option maxRecDepth 20000 in
theorem sr_7 : Cond.stringRef "EachLater$Reader" 143 "side" ∈ lw_tbl := lt_3 101 rfl
set_option maxRecDepth 20000 in
theorem sr_8 : Cond.stringRef "EachLater$Reader" 145 "star" ∈ lw_tbl := lt_3 102 rfl
set_option maxRecDepth 20000 in
theorem sr_9 : Cond.stringRef "EachLater$Reader" 147 "thread" ∈ lw_tbl := lt_3 103 rfl
set_option maxRecDepth 20000 in
theorem sr_10 : Cond.stringRef "EachLater$Reader" 149 "way" ∈ lw_tbl := lt_3 104 rfl
set_option maxRecDepth 20000 in
theorem sr_11 : Cond.stringRef "EachLater$Reader" 151 "week" ∈ lw_tbl := lt_3 105 rfl
set_option maxRecDepth 20000 in
theorem sr_12 : Cond.stringRef "EachLater$Reader" 153 "year" ∈ lw_tbl := lt_3 106 rfl
set_option maxRecDepth 20000 in
theorem sr_13 : Cond.stringRef "EachLater$Reader" 155 "house" ∈ lw_tbl := lt_3 107 rfl
set_option maxRecDepth 20000 in
theorem sr_14 : Cond.stringRef "EachLater$Reader" 157 "age" ∈ lw_tbl := lt_3 108 rfl
set_option maxRecDepth 20000 in
theorem sr_15 : Cond.stringRef "EachLaterModel" 361 "lean" ∈ lw_tbl := lt_7 51 rfl
set_option maxRecDepth 20000 in
theorem sr_16 : Cond.stringRef "EachLaterModel" 363 "if" ∈ lw_tbl := lt_7 106 rfl
set_option maxRecDepth 20000 in
theorem sr_17 : Cond.stringRef "EachLaterModel" 359 "or" ∈ lw_tbl := lt_7 137 rfl
set_option maxRecDepth 20000 in
theorem sr_18 : Cond.stringRef "EachLaterModel" 357 "and" ∈ lw_tbl := lt_7 136 rfl
set_option maxRecDepth 20000 in
theorem sr_19 : Cond.stringRef "EachLaterModel" 343 "not" ∈ lw_tbl := lt_7 119 rfl
set_option maxRecDepth 20000 in
theorem sr_20 : Cond.stringRef "EachLaterModel" 248 "bright" ∈ lw_tbl := lt_7 96 rfl
set_option maxRecDepth 20000 in
theorem sr_21 : Cond.stringRef "EachLaterModel" 249 "pace" ∈ lw_tbl := lt_7 97 rfl
set_option maxRecDepth 20000 in
theorem sr_22 : Cond.stringRef "EachLaterModel" 250 "side" ∈ lw_tbl := lt_7 98 rfl
set_option maxRecDepth 20000 in
theorem sr_23 : Cond.stringRef "EachLaterModel" 251 "star" ∈ lw_tbl := lt_7 99 rfl
set_option maxRecDepth 20000 in
theorem sr_24 : Cond.stringRef "EachLaterModel" 253 "thread" ∈ lw_tbl := lt_7 100 rfl
set_option maxRecDepth 20000 in
theorem sr_25 : Cond.stringRef "EachLaterModel" 255 "way" ∈ lw_tbl := lt_7 101 rfl
set_option maxRecDepth 20000 in
theorem sr_26 : Cond.stringRef "EachLaterModel" 257 "week" ∈ lw_tbl := lt_7 102 rfl
set_option maxRecDepth 20000 in
theorem sr_27 : Cond.stringRef "EachLaterModel" 259 "year" ∈ lw_tbl := lt_7 103 rfl
set_option maxRecDepth 20000 in
theorem sr_28 : Cond.stringRef "EachLaterModel" 261 "house" ∈ lw_tbl := lt_7 104 rfl
set_option maxRecDepth 20000 in
theorem sr_29 : Cond.stringRef "EachLaterModel" 262 "age" ∈ lw_tbl := lt_7 105 rfl
theorem sr_ok : ∀ q ∈ ai_sx, Cond.stringRef q.1 q.2.1 q.2.2.1 ∈ lw_tbl := List.forall_mem_cons.mpr ⟨sr_0, List.forall_mem_cons.mpr ⟨sr_1, List.forall_mem_cons.mpr ⟨sr_2, List.forall_mem_cons.mpr ⟨sr_3, List.forall_mem_cons.mpr ⟨sr_4, List.forall_mem_cons.mpr ⟨sr_5, List.forall_mem_cons.mpr ⟨sr_6, List.forall_mem_cons.mpr ⟨sr_7, List.forall_mem_cons.mpr ⟨sr_8, List.forall_mem_cons.mpr ⟨sr_9, List.forall_mem_cons.mpr ⟨sr_10, List.forall_mem_cons.mpr ⟨sr_11, List.forall_mem_cons.mpr ⟨sr_12, List.forall_mem_cons.mpr ⟨sr_13, List.forall_mem_cons.mpr ⟨sr_14, List.forall_mem_cons.mpr ⟨sr_15, List.forall_mem_cons.mpr ⟨sr_16, List.forall_mem_cons.mpr ⟨sr_17, List.forall_mem_cons.mpr ⟨sr_18, List.forall_mem_cons.mpr ⟨sr_19, List.forall_mem_cons.mpr ⟨sr_20, List.forall_mem_cons.mpr ⟨sr_21, List.forall_mem_cons.mpr ⟨sr_22, List.forall_mem_cons.mpr ⟨sr_23, List.forall_mem_cons.mpr ⟨sr_24, List.forall_mem_cons.mpr ⟨sr_25, List.forall_mem_cons.mpr ⟨sr_26, List.forall_mem_cons.mpr ⟨sr_27, List.forall_mem_cons.mpr ⟨sr_28, List.forall_mem_cons.mpr ⟨sr_29, fun _ h => absurd h List.not_mem_nil⟩⟩⟩⟩⟩⟩⟩⟩⟩⟩⟩⟩⟩⟩⟩⟩⟩⟩⟩⟩⟩⟩⟩⟩⟩⟩⟩⟩⟩⟩
def ai_rk : List Nat := [116, 123, 126, 129, 132, 139, 141, 143, 145, 147, 149, 151, 153, 155, 157]
def tms (i : Nat) : Term := .string "EachLater$Reader" (ai_rk.getD i 0)
def nrw : List Cond := flatC (Jvm.Cond.and given_1 narrow_1)
theorem n_sx : ∀ q ∈ ai_sx, q.2.2.2 < 15 ∧ (Term.string q.1 q.2.1 = tms q.2.2.2 ∨ Cond.eq (tms q.2.2.2) (Term.string q.1 q.2.1) ∈ nrw) := by decide +kernel
theorem n_ex : ∀ i, i < 15 → Cond.exactly (tms i) "java/lang/String" ∈ nrw := by decide +kernel
theorem n_co : ∀ i, i < 15 → Cond.eq (.field (tms i) "java/lang/String" "coder" "B") (.int 0) ∈ nrw := by decide +kernel
theorem n_ar : ∀ i, i < 15 → Cond.arrayOf (.field (tms i) "java/lang/String" "value" "[B") .byte ∈ nrw := by decide +kernel
theorem n_le : ∀ i, i < 15 → Cond.eq (.length (.field (tms i) "java/lang/String" "value" "[B")) (.int (Int32.ofNat (ai_sl.getD i 0))) ∈ nrw := by decide +kernel
theorem n_el : ∀ i, i < 15 → ∀ j, j < ai_sl.getD i 0 → Cond.eq (.elem (.field (tms i) "java/lang/String" "value" "[B") (.int (Int32.ofNat j))) (.int ((ai_sb.getD i []).getD j 0)) ∈ nrw := by decide +kernel
theorem n_cmp : Cond.eq (.static "java/lang/String" "COMPACT_STRINGS" "Z") (.int 1) ∈ nrw := by decide +kernel
theorem n_fmt : Cond.isRef (.static "jdk/internal/util/Preconditions" "SIOOBE_FORMATTER" "Ljava/util/function/BiFunction;") ∈ nrw := by decide +kernel
theorem n_len : ∀ i, i < 15 → ai_sl.getD i 0 < 100 := by decide +kernel
theorem sb_inj : ∀ i, i < 15 → ∀ j, j < 15 → ai_sl.getD i 0 = ai_sl.getD j 0 → (∀ k, k < ai_sl.getD i 0 → (ai_sb.getD i []).getD k 0 = (ai_sb.getD j []).getD k 0) → i = j := by decide +kernel
def z_str (s : State) (args : Array Value) (A : Nat → Prop) (i : Nat) (q : Nat × Nat) : Prop := (tms i).eval args s none [] s = some (.ref q.1) ∧ va_O "java/lang/String" q.1 A s s.heap ∧ va_OF "java/lang/String" "coder" "B" (.int 0) q.1 A s s.heap ∧ va_OF "java/lang/String" "value" "[B" (.ref q.2) q.1 A s s.heap ∧ va_T .byte q.2 (ai_sl.getD i 0) (fun j => .int ((ai_sb.getD i []).getD j 0)) A s s.heap
theorem z_one {args : Array Value} {s : State} {A : Nat → Prop} (hs : ∀ c ∈ nrw, c.before args s = true) (hA : ∀ a : Nat, a < s.heap.size → ¬ A a) {i : Nat} (hi : i < 15) : ∃ q, z_str s args A i q := by
  have hl := n_len i hi
  obtain ⟨adK, adV, h1, h2⟩ := vk_Sof (args := args) (s := s) (N := 1) (tm := fun _ => tms i) (len := [ai_sl.getD i 0]) (byt := [ai_sb.getD i []]) (A := A)
    (fun k hk => by
      have e : k = 0 := by omega
      subst e
      show ai_sl.getD i 0 < 2 ^ 31
      omega)
    (fun _ _ => hs _ (n_ex i hi)) (fun _ _ => hs _ (n_co i hi)) (fun _ _ => hs _ (n_ar i hi))
    (fun k hk => by
      have e : k = 0 := by omega
      subst e
      exact hs _ (n_le i hi))
    (fun k hk j hj => by
      have e : k = 0 := by omega
      subst e
      exact hs _ (n_el i hi j hj))
    (fun k j hk hj hne => absurd (show k = j by omega) hne) hA
  exact ⟨(adK 0, adV 0), h2 0 (by omega), h1.1 0 (by omega)⟩
theorem z_inj {args : Array Value} {s : State} {A : Nat → Prop} {i j : Nat} {q r : Nat × Nat} (hi : i < 15) (hj : j < 15) (a : z_str s args A i q) (b : z_str s args A j r) (e : q.1 = r.1) : i = j := by
  obtain ⟨-, -, -, ⟨cf, k, fi, f, cell, a1, -, a2, -, a3, -⟩, ⟨ct, t1, -, -, -, t2, t3, -⟩⟩ := a
  obtain ⟨-, -, -, ⟨cf', k', fi', f', cell', b1, -, b2, -, b3, -⟩, ⟨ct', u1, -, -, -, u2, u3, -⟩⟩ := b
  have ef : f = f' := by
    have z := Option.some.inj (a1.symm.trans b1)
    injection z with _ z
    injection z with _ z
    injection z with _ z
  rw [e] at a2
  have ec : cell = cell' := Option.some.inj (a2.symm.trans b2)
  subst ef ec
  have ev : q.2 = r.2 := by
    have z := Option.some.inj (a3.symm.trans b3)
    injection z
  rw [ev] at t1
  have et : ct = ct' := Option.some.inj (t1.symm.trans u1)
  subst et
  have el : ai_sl.getD i 0 = ai_sl.getD j 0 := nI_inj (by have := n_len i hi; omega) (by have := n_len j hj; omega) (t2.symm.trans u2)
  refine sb_inj i hi j hj el (fun k hk => ?_)
  have z := Option.some.inj ((t3 k hk).symm.trans (u3 k (by rw [← el]; exact hk)))
  injection z
theorem z_Z {p : Program} {s : State} {mid : MethodId} {meth : Method} {c : Code} {b L : Nat} {xs : Nat → Int32} (C0 : lw_At p s mid meth c b L xs) : ∃ aK aV : Nat → Nat, aK 31 = b ∧ ai_Z aK aV (fun q => s.heap.size ≤ q) s := by
  have hs : ∀ c ∈ nrw, c.before #[Value.ref b] s = true := flat_of_before _ C0.2.2.2.2.2.2.2.2.2
  have hts := C0.2.2.2.2.2.1
  have hA : ∀ a : Nat, a < s.heap.size → ¬ (fun q : Nat => s.heap.size ≤ q) a := fun a h => Nat.not_le.mpr h
  have h0 : ∀ i : Nat, ∃ q : Nat × Nat, i < 15 → z_str s #[Value.ref b] (fun q => s.heap.size ≤ q) i q := fun i => by
    by_cases hi : i < 15
    · obtain ⟨q, hq⟩ := z_one hs hA hi
      exact ⟨q, fun _ => hq⟩
    · exact ⟨(0, 0), fun h => absurd h hi⟩
  obtain ⟨ad, had⟩ := Classical.axiomOfChoice h0
  obtain ⟨t, ht⟩ : ∃ t : Nat, va_Z "jdk/internal/util/Preconditions" "SIOOBE_FORMATTER" "Ljava/util/function/BiFunction;" .null (fun q => s.heap.size ≤ q) s s.heap ∨ va_Z "jdk/internal/util/Preconditions" "SIOOBE_FORMATTER" "Ljava/util/function/BiFunction;" (.ref t) (fun q => s.heap.size ≤ q) s s.heap := by
    rcases va_Zqof (hts _ wl_fmt) (hts _ wi_pre) (hs _ n_fmt) hA with z | ⟨t, z⟩
    · exact ⟨0, Or.inl z⟩
    · exact ⟨t, Or.inr z⟩
  obtain ⟨aK, eK⟩ : ∃ aK : Nat → Nat, aK = fun j => if j < 15 then (ad j).1 else if j < 30 then (ad (j - 15)).2 else if j = 30 then t else b := ⟨_, rfl⟩
  have k1 : ∀ j, j < 15 → aK j = (ad j).1 := fun j hj => by rw [eK]; exact if_pos hj
  have k2 : ∀ j, j < 15 → aK (15 + j) = (ad j).2 := fun j hj => by
    rw [eK]
    show (if 15 + j < 15 then (ad (15 + j)).1 else if 15 + j < 30 then (ad (15 + j - 15)).2 else if 15 + j = 30 then t else b) = _
    rw [if_neg (by omega), if_pos (by omega), Nat.add_sub_cancel_left]
  have k3 : aK 30 = t := by rw [eK]; rfl
  have k4 : aK 31 = b := by rw [eK]; rfl
  refine ⟨aK, fun j => (ad j).2, k4, fun q hq => ?_, ⟨fun i hi => ?_, fun i j hi hj e => ?_⟩, va_Zof (hts _ wl_cmp) (hts _ wi_str) (va_eqt (hs _ n_cmp)) hA, by rw [k3]; exact ht, fun j hj => (k2 j hj).symm⟩
  · obtain ⟨hl, h1⟩ := n_sx q hq
    rw [k1 _ hl]
    refine vk_R.of (hts _ (sr_ok q hq)) ?_
    rcases h1 with h1 | h1
    · rw [h1]
      exact (had _ hl).1
    · exact va_eqR (hs _ h1) (had _ hl).1
  · rw [k1 i hi]
    exact (had i hi).2
  · rw [k1 i hi, k1 j hj] at e
    exact z_inj hi hj (had i hi) (had j hj) e
theorem z_N {p : Program} {s : State} {mid : MethodId} {meth : Method} {c : Code} {b L : Nat} {xs : Nat → Int32} (C0 : lw_At p s mid meth c b L xs) : ai_N s := by
  have hts := C0.2.2.2.2.2.1
  refine ⟨fun w hw => ?_, va_AO.of (hts _ wo_Tally), va_AO.of (hts _ wo_Law), va_AO.of (hts _ wo_Book)⟩
  have h1 := hts w (List.mem_filter.mp hw).1
  have h2 := (List.mem_filter.mp hw).2
  cases w with
  | fieldLinkNest a i b n d h => exact va_Nw.of rfl h1
  | methodLinkNest a i x h => exact va_Nw.of rfl h1
  | _ => exact absurd h2 Bool.false_ne_true
theorem z_arp {s : State} {args : Array Value} {ty : FieldType} (h : (Cond.arrayClass ty).before args s = true) : ∃ c, ArrOfT s c ty ∧ s.vm.findClass ("[" ++ ty.toString) = some c := by
  obtain ⟨c, k, comp, h1, h2, h3⟩ := Cond.arrayClass_spec h
  exact ⟨c, fun n z => ⟨fun k h => (by cases h), k, h2, comp, h3⟩, h1⟩
theorem z_aro {s : State} {args : Array Value} {C : String} (h : (Cond.arrayOver (.object C)).before args s = true) : ∃ c, ArrOfT s c (.object C) ∧ va_RA s c (.object C) := by
  obtain ⟨comp, c, k, h1, h2, h3, h4, h5⟩ := Cond.arrayOver_spec h
  exact ⟨c, fun n z => ⟨fun k h => (by cases h), k, h3, comp, h4⟩, k, comp, h3, h4, h1, h5⟩
theorem z_kn {p : Program} {s : State} {mid : MethodId} {meth : Method} {c : Code} {b L : Nat} {xs : Nat → Int32} (C0 : lw_At p s mid meth c b L xs) {ci N : Nat} {C : String} {T : u_T} (hk : ai_K1 ci C T N) (hn : Cond.instantiable C N ∈ ai_T ∧ Cond.initialized C ∈ ai_T) : ∃ (cC : ClassId) (iS : Nat → Nat), u_Kn s C T N cC iS := u_known (lz_T C0) hk.2.1 (lz_T C0 _ hn.1)
theorem z_K {p : Program} {s : State} {mid : MethodId} {meth : Method} {c : Code} {b L : Nat} {xs : Nat → Int32} (C0 : lw_At p s mid meth c b L xs) : ∃ (dC : Nat → ClassId) (dI : Nat → Nat → Nat) (cK : Nat → Nat), va_K (dC, dI) ai_cl (ai_tys cK) s := by
  have hts := C0.2.2.2.2.2.1
  have hall : ∀ r ∈ ai_cl, ∃ q : ClassId × (Nat → Nat), u_Kn s r.1 r.2.1 r.2.2 q.1 q.2 := by
    have one : ∀ {ci N : Nat} {C : String} {T : u_T}, ai_K1 ci C T N → (Cond.instantiable C N ∈ ai_T ∧ Cond.initialized C ∈ ai_T) → ∃ q : ClassId × (Nat → Nat), u_Kn s C T N q.1 q.2 := fun hk hn => by
      obtain ⟨cC, iS, h⟩ := z_kn C0 hk hn
      exact ⟨(cC, iS), h⟩
    exact List.forall_mem_cons.mpr ⟨one kX0 nX0, List.forall_mem_cons.mpr ⟨one kX1 nX1, List.forall_mem_cons.mpr ⟨one kX2 nX2, List.forall_mem_cons.mpr ⟨one kX3 nX3, List.forall_mem_cons.mpr ⟨one kX4 nX4, List.forall_mem_cons.mpr ⟨one kX5 nX5, List.forall_mem_cons.mpr ⟨one kX6 nX6, List.forall_mem_cons.mpr ⟨one kX7 nX7, List.forall_mem_cons.mpr ⟨one kX8 nX8, List.forall_mem_cons.mpr ⟨one kX9 nX9, List.forall_mem_cons.mpr ⟨one kX10 nX10, List.forall_mem_cons.mpr ⟨one kX11 nX11, List.forall_mem_cons.mpr ⟨one kX12 nX12, fun _ h => absurd h List.not_mem_nil⟩⟩⟩⟩⟩⟩⟩⟩⟩⟩⟩⟩⟩
  have h0 : ∀ k : Nat, ∃ q : ClassId × (Nat → Nat), ∀ r : vw_C, ai_cl[k]? = some r → u_Kn s r.1 r.2.1 r.2.2 q.1 q.2 := fun k => by
    cases hk : ai_cl[k]? with
    | none => exact ⟨(0, fun _ => 0), fun r hr => by cases hr⟩
    | some r =>
      obtain ⟨q, hq⟩ := hall r (List.mem_of_getElem? hk)
      exact ⟨q, fun r' hr' => by cases hr'; exact hq⟩
  obtain ⟨D, hD⟩ := Classical.axiomOfChoice h0
  obtain ⟨c0, i1, i2⟩ := z_arp (lz_T C0 _ ac_int)
  obtain ⟨c1, j1, j2⟩ := z_arp (lz_T C0 _ ac_long)
  obtain ⟨c2, l1, l2⟩ := z_arp (lz_T C0 _ ac_boolean)
  obtain ⟨c3, m1, m2⟩ := z_arp (lz_T C0 _ ac_byte)
  obtain ⟨c4, n1, n2⟩ := z_aro (hts _ wo_Tally)
  obtain ⟨c5, o1, o2⟩ := z_aro (hts _ wo_Law)
  obtain ⟨c6, p1, p2⟩ := z_aro (hts _ wo_Book)
  refine ⟨fun k => (D k).1, fun k => (D k).2, fun k => [c0, c1, c2, c3, c4, c5, c6].getD k 0, fun k r hr => hD k r hr, fun k q hq => ?_⟩
  match k, hq with
  | 0, hq => cases hq; exact ⟨i1, i2⟩
  | 1, hq => cases hq; exact ⟨j1, j2⟩
  | 2, hq => cases hq; exact ⟨l1, l2⟩
  | 3, hq => cases hq; exact ⟨m1, m2⟩
  | 4, hq => cases hq; exact ⟨n1, n2⟩
  | 5, hq => cases hq; exact ⟨o1, o2⟩
  | 6, hq => cases hq; exact ⟨p1, p2⟩
  | k + 7, hq => simp [ai_tys] at hq
