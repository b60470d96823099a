/-! 99i: the law's own walk: its rules (the heads are the skeleton's) -/
theorem rm_c : 600000 ≤ room_1.cells := by decide
theorem rm_s : 5502250 ≤ room_1.slots := by decide
def R_law : String := "EachLaterLaw"
def lw_P (b : Addr) (xs : List Int32) (args : Array Value) (s : State) : Prop := args = #[.ref b] ∧ s.IntsAt b xs ∧ xs.length ≤ 4096 ∧ (Jvm.Cond.and given_1 narrow_1).before args s = true
def lw_Q (_ : Array Value) (s : State) (o : Outcome) (t : State) : Prop := o = .returned (some (.int 1)) ∧ Framed s o t [] room_1.cells room_1.slots
def lw_Z (below : List Frame) (a : Array Value) (s : State) : State → Prop := fun t => ∃ o, t.status = .running ∧ Ended t below o ∧ lw_Q a s o t
/-- the law's own end, with 1 on the stack, nothing written that was there before, its room as the claim has it -/
theorem lw_ret {p : Program} {l : Launch} {e : Env} {s : State} {m : MethodId} {below : List Frame} {meth : Method} {c : Code} {b : Nat} (hx : p.tables.exec = Jvm.exec) (hb : c.code = code) (hr : meth.sig.returnType = ret) (hlocks : meth.locks = false) {pc : Nat} {H : Heap} {ls : Array Slot} (hdg : decode code pc = .ok (.ireturn, 1)) : W p l e room_1 s m #[Value.ref b] below meth c H [] room_1.cells room_1.slots (lw_Z below #[Value.ref b] s) (F0 m pc ls [.int 1]) := by
  intro T hT X
  obtain ⟨fs, hret, hrun, hended, hW, hframe⟩ := X.leave (v := some (.int 1)) (hlocks := hlocks) (fun h => by rw [hr] at h; cases h)
  have hmeth' : T.vm.method? m = some meth := X.method'
  refine ⟨T.setFrames fs, ?_, .returned (some (.int 1)), hrun, hended, rfl, ⟨_, rfl⟩, hW, hframe⟩
  jvm_step X.here [X.here.top, hx, hb, hdg, hmeth', hr, ret, narrow_b1]
  (try refine ⟨rfl, ?_⟩); (try refine ⟨rfl, ?_⟩)
  first | (intro acts; rw [hret _ acts rfl rfl rfl]) | rw [hret _ _ rfl rfl rfl]
  exact Steps.refl _
/-- what holds at the law's entry: the machine, the code, the tables' words (any of lw_tbl by 'hts w (by decide +kernel)'), the script of L ints xs at the cell b, what the Statement gives of the start (any of its parts by flat_of_before) -/
def lw_At (p : Program) (s : State) (m : MethodId) (meth : Method) (c : Code) (b L : Nat) (xs : Nat → Int32) : Prop :=
  p.tables.exec = Jvm.exec ∧ c.code = code ∧ meth.sig.returnType = ret ∧ c.maxLocals = 4 ∧ s.vm.findClass R_law = some m.cls ∧ (∀ w ∈ lw_tbl, w.before #[Value.ref b] s = true) ∧ va_X b L xs s s.heap ∧ b < s.heap.size ∧ meth.locks = false ∧ (Jvm.Cond.and given_1 narrow_1).before #[Value.ref b] s = true
/-- the law at pc, with these locals, this stack, this heap, comes to its end with true; .retAddr 31 is its script -/
def lz_R (b L : Nat) (xs : Nat → Int32) (pc : Nat) (ls st : List Value) (h : ai_H) : Prop :=
  ∀ (p : Program) (l : Launch) (e : Env) (s : State) (mid : MethodId) (below : List Frame) (meth : Method) (c : Code) (dC : Nat → ClassId) (dI : Nat → Nat → Nat) (cK aK aV ad : Nat → Nat) (H : Heap) (locs : List Loc) (lsm : Array Slot),
    lw_At p s mid meth c b L xs → aK 31 = b → ai_G dC dI cK aK aV ad 0 0 (fun q => s.heap.size ≤ q) s ad h H locs → ai_L lsm 4 h.1 ad aK ls → (∀ v ∈ st, ai_b h.1 v) →
    W p l e room_1 s mid #[Value.ref b] below meth c H locs h.1 h.2.1 (lw_Z below #[Value.ref b] s) (F0 mid pc lsm (st.map (ai_v ad aK)))
section LZ
variable {b L : Nat} {xs : Nat → Int32} {pc : Nat} {ls st : List Value} {h : ai_H}
theorem lz_T {p : Program} {s : State} {mid : MethodId} {meth : Method} {c : Code} (C0 : lw_At p s mid meth c b L xs) : ∀ w ∈ ai_T, w.before #[Value.ref b] s = true := fun w hw => C0.2.2.2.2.2.1 w (List.mem_filter.mp hw).1
theorem lz_st {pc' : Nat} {st' : List Value} (hb : ∀ (n : Nat) (lsm : Array Slot) (ad aK : Nat → Nat), ai_L lsm 4 n ad aK ls → (∀ v ∈ st, ai_b n v) → ∀ v ∈ st', ai_b n v)
    (hs : ∀ (p : Program) (l : Launch) (e : Env) (R : Room) (s : State) (mid : MethodId) (args : Array Value) (below : List Frame) (meth : Method) (c : Code) (H : Heap) (locs : List Loc) (cells slots : Nat) (Q : State → Prop) (lsm : Array Slot) (ad aK : Nat → Nat) (n : Nat), p.tables.exec = Jvm.exec → c.code = code → ai_L lsm 4 n ad aK ls → W p l e R s mid args below meth c H locs cells slots Q (F0 mid pc' lsm (st'.map (ai_v ad aK))) → W p l e R s mid args below meth c H locs cells slots Q (F0 mid pc lsm (st.map (ai_v ad aK))))
    (kk : lz_R b L xs pc' ls st' h) : lz_R b L xs pc ls st h := by
  intro p l e s mid below meth c dC dI cK aK aV ad H locs lsm C0 h31 hG hL hst
  exact hs p l e _ s mid _ below meth c H locs _ _ _ lsm ad aK h.1 C0.1 C0.2.1 hL (kk p l e s mid below meth c dC dI cK aK aV ad H locs lsm C0 h31 hG hL (hb h.1 lsm ad aK hL hst))
theorem lz_ald {k : Fin 4} {q : Nat} (d : decode code pc = .ok (.aload_n k, 1)) (hl : ls[(k : Nat)]? = some (.ref q)) (kk : lz_R b L xs (pc + 1) ls (.ref q :: st) h) : lz_R b L xs pc ls st h :=
  lz_st (st := st) (st' := .ref q :: st) (fun n lsm ad aK hL hst => ai_bt hst (hL.2.2 _ _ hl (by intro q; cases q)).2) (fun p l e R s mid args below meth c H locs cells slots Q lsm ad aK n hx hb hL k => lv_aload_n hx hb d rfl (hL.2.2 _ _ hl (by intro q; cases q)).1 k) kk
theorem lz_iconst {n : Int} {v : Int32} (d : decode code pc = .ok (.iconst n, 1)) (hv : Int32.ofInt n = v) (kk : lz_R b L xs (pc + 1) ls (.int v :: st) h) : lz_R b L xs pc ls st h :=
  lz_st (st := st) (st' := .int v :: st) (fun n lsm ad aK _ hst => ai_bt hst trivial) (fun p l e R s mid args below meth c H locs cells slots Q lsm ad aK n hx hb hL k => lv_iconst hx hb d hv k) kk
theorem lz_dup {v : Value} (d : decode code pc = .ok (.dup, 1)) (hc : v.category = 1) (kk : lz_R b L xs (pc + 1) ls (v :: v :: st) h) : lz_R b L xs pc ls (v :: st) h :=
  lz_st (st := v :: st) (st' := v :: v :: st) (fun n lsm ad aK hL hst => ai_bt hst (hst v List.mem_cons_self)) (fun p l e R s mid args below meth c H locs cells slots Q lsm ad aK n hx hb hL k => lv_dup hx hb d (by rw [ai_v_cat]; exact hc) k) kk
theorem lz_goto {off : Int} {tgt : Nat} (d : decode code pc = .ok (.goto off, 3)) (ht : (pc : Int) + off = (tgt : Int)) (kk : lz_R b L xs tgt ls st h) : lz_R b L xs pc ls st h :=
  lz_st (st := st) (st' := st) (fun n lsm ad aK hL hst => hst) (fun p l e R s mid args below meth c H locs cells slots Q lsm ad aK n hx hb hL k => lv_goto hx hb d ht k) kk
theorem lz_eqI {v : Int32} {off : Int} {tgt : Nat} (d : decode code pc = .ok (.if_icmp .eq off, 3)) (ht : (pc : Int) + off = (tgt : Int)) (kk : lz_R b L xs tgt ls st h) : lz_R b L xs pc ls (.int v :: .int v :: st) h :=
  lz_st (st := .int v :: .int v :: st) (st' := st) (fun n lsm ad aK hL hst => ai_b2 hst) (fun p l e R s mid args below meth c H locs cells slots Q lsm ad aK n hx hb hL k => lv_icmp_eq hx hb d ht (fun _ => k) (fun z => absurd rfl z)) kk
theorem lg_cmp_self (v : Int64) : lg_cmp v v = 0 := by
  unfold lg_cmp
  rw [if_neg (Int64.lt_irrefl), if_pos rfl]
theorem lz_eqL {v : Int64} {off : Int} {tgt : Nat} (d0 : decode code pc = .ok (.lcmp, 1)) (d : decode code (pc + 1) = .ok (.ifCond .eq off, 3)) (ht : ((pc + 1 : Nat) : Int) + off = (tgt : Int)) (kk : lz_R b L xs tgt ls st h) : lz_R b L xs pc ls (.long v :: .long v :: st) h :=
  lz_st (st := .long v :: .long v :: st) (st' := st) (fun n lsm ad aK hL hst => ai_b2 hst) (fun p l e R s mid args below meth c H locs cells slots Q lsm ad aK n hx hb hL k => W.lcmp hx hb d0 (lv_if_eq hx hb d ht (fun _ => k) (fun z => absurd (lg_cmp_self v) z))) kk
theorem lz_tab {dflt lo hi : Int} {offs : Array Int} {len : Nat} {x : Int32} {off : Int} {tgt : Nat} (d : decode code pc = .ok (.tableswitch dflt lo hi offs, len)) (h1 : ¬ x.toInt < lo) (h2 : ¬ hi < x.toInt) (ho : offs[(x.toInt - lo).toNat]? = some off) (ht : (pc : Int) + off = (tgt : Int)) (kk : lz_R b L xs tgt ls st h) : lz_R b L xs pc ls (.int x :: st) h :=
  lz_st (st := .int x :: st) (st' := st) (fun n lsm ad aK hL hst => ai_b1 hst) (fun p l e R s mid args below meth c H locs cells slots Q lsm ad aK n hx hb hL k => lv_tableIn hx hb d h1 h2 ho ht k) kk
theorem lz_ast {k : Fin 4} {q : Nat} {ls' : List Value} (d : decode code pc = .ok (.astore_n k, 1)) (hl : ai_s1 ls (k : Nat) (.ref q) = ls') (kk : lz_R b L xs (pc + 1) ls' st h) : lz_R b L xs pc ls (.ref q :: st) h := by
  intro p l e s mid below meth c dC dI cK aK aV ad H locs lsm C0 h31 hG hL hst
  exact lv_astore_n C0.1 C0.2.1 d rfl (ai_pr_has hL) k.2 rfl (fun lsm' hl' => kk p l e s mid below meth c dC dI cK aK aV ad H locs lsm' C0 h31 hG (ai_L1 (fun i v a b => (hL.2.2 i v a b).2) (hst _ List.mem_cons_self) hl' hl) (ai_b1 hst))
theorem lz_ist {k : Fin 4} {x : Int32} {ls' : List Value} (d : decode code pc = .ok (.istore_n k, 1)) (hl : ai_s1 ls (k : Nat) (.int x) = ls') (kk : lz_R b L xs (pc + 1) ls' st h) : lz_R b L xs pc ls (.int x :: st) h := by
  intro p l e s mid below meth c dC dI cK aK aV ad H locs lsm C0 h31 hG hL hst
  exact lv_istore_n C0.1 C0.2.1 d rfl (ai_pr_has hL) k.2 rfl (fun lsm' hl' => kk p l e s mid below meth c dC dI cK aK aV ad H locs lsm' C0 h31 hG (ai_L1 (fun i v a b => (hL.2.2 i v a b).2) (hst _ List.mem_cons_self) hl' hl) (ai_b1 hst))
/-- the script's element at place i + v -/
theorem lz_arg {i v : Int32} {k : Int} {q1 q2 : Value} (d0 : decode code pc = .ok (.aload_n 0, 1)) (d1 : decode code (pc + 1) = .ok (.iload_n 3, 1)) (d2 : decode code (pc + 2) = .ok (.iconst k, 1)) (d3 : decode code (pc + 3) = .ok (.iadd, 1)) (d4 : decode code (pc + 4) = .ok (.iaload, 1)) (hk : Int32.ofInt k = v) (hin : vp_in (i + v) L) (kk : lz_R b L xs (pc + 5) [.retAddr 31, q1, q2, .int i] (.int (xs (i + v).toNatClampNeg) :: st) h) : lz_R b L xs pc [.retAddr 31, q1, q2, .int i] st h := by
  intro p l e s mid below meth c dC dI cK aK aV ad H locs lsm C0 h31 hG hL hst
  have key := kk p l e s mid below meth c dC dI cK aK aV ad H locs lsm C0 h31 hG hL (ai_bt hst trivial)
  have l0 : lsm[0]? = some (.val (.ref (aK 31))) := (hL.2.2 0 (.retAddr 31) rfl (by intro q; cases q)).1
  have l3 : lsm[3]? = some (.val (.int i)) := (hL.2.2 3 (.int i) rfl (by intro q; cases q)).1
  refine lv_aload_n C0.1 C0.2.1 d0 rfl l0 ?_
  refine lv_iload_n C0.1 C0.2.1 d1 rfl l3 ?_
  refine lv_iconst C0.1 C0.2.1 d2 hk ?_
  refine lv_iadd C0.1 C0.2.1 d3 ?_
  rw [h31]
  exact va_sld C0.1 C0.2.1 C0.2.2.2.2.2.2.1 C0.2.2.2.2.2.2.2.1 (Nat.not_le.mpr C0.2.2.2.2.2.2.2.1) hG.2.2.2.2.2.1 hin d4 key
theorem lz_arg2 {i v : Int32} {k : Int} {q1 q2 : Value} (d0 : decode code pc = .ok (.aload_n 0, 1)) (d1 : decode code (pc + 1) = .ok (.iload_n 3, 1)) (d2 : decode code (pc + 2) = .ok (.bipush k, 2)) (d3 : decode code (pc + 4) = .ok (.iadd, 1)) (d4 : decode code (pc + 5) = .ok (.iaload, 1)) (hk : (Int8.ofInt k).toInt32 = v) (hin : vp_in (i + v) L) (kk : lz_R b L xs (pc + 6) [.retAddr 31, q1, q2, .int i] (.int (xs (i + v).toNatClampNeg) :: st) h) : lz_R b L xs pc [.retAddr 31, q1, q2, .int i] st h := by
  intro p l e s mid below meth c dC dI cK aK aV ad H locs lsm C0 h31 hG hL hst
  have key := kk p l e s mid below meth c dC dI cK aK aV ad H locs lsm C0 h31 hG hL (ai_bt hst trivial)
  have l0 : lsm[0]? = some (.val (.ref (aK 31))) := (hL.2.2 0 (.retAddr 31) rfl (by intro q; cases q)).1
  have l3 : lsm[3]? = some (.val (.int i)) := (hL.2.2 3 (.int i) rfl (by intro q; cases q)).1
  refine lv_aload_n C0.1 C0.2.1 d0 rfl l0 ?_
  refine lv_iload_n C0.1 C0.2.1 d1 rfl l3 ?_
  refine lv_bipush C0.1 C0.2.1 d2 hk ?_
  refine lv_iadd C0.1 C0.2.1 d3 ?_
  rw [h31]
  exact va_sld C0.1 C0.2.1 C0.2.2.2.2.2.2.1 C0.2.2.2.2.2.2.2.1 (Nat.not_le.mpr C0.2.2.2.2.2.2.2.1) hG.2.2.2.2.2.1 hin d4 key
/-- behind a call -/
theorem lz_go {rv : Option Value} {h1 : ai_H} {pc0 : Nat} {st0 : List Value} (hm : h.1 ≤ h1.1 ∧ h.2.1 ≤ h1.2.1) (kk : lz_R b L xs (pc0 + 3) ls (rv.toList ++ st) h1)
    {p : Program} {l : Launch} {e : Env} {s : State} {mid : MethodId} {a : Array Value} {below : List Frame} {meth : Method} {c : Code} {dC : Nat → ClassId} {dI : Nat → Nat → Nat} {cK aK aV : Nat → Nat} {ad : Nat → Nat} {H : Heap} {locs : List Loc} {lsm : Array Slot}
    (C0 : lw_At p s mid meth c b L xs) (h31 : aK 31 = b) (hG : ai_G dC dI cK aK aV ad 0 0 (fun q => s.heap.size ≤ q) s ad h H locs) (hL : ai_L lsm 4 h.1 ad aK ls) (hst : ∀ w ∈ st, ai_b h.1 w)
    (run : va_Run p l e room_1 s mid #[Value.ref b] below meth c H locs h.1 h.2.1 (h1.1 - h.1) (h1.2.1 - h.2.1) (F0 mid pc0 lsm st0) (st.map (ai_v ad aK)) (ai_Q dC dI cK aK ad h.1 (va_A (ai_w cK ad aK h) H.size) rv h1 a) (va_A (ai_w cK ad aK h) H.size)) :
    W p l e room_1 s mid #[Value.ref b] below meth c H locs h.1 h.2.1 (lw_Z below #[Value.ref b] s) (F0 mid pc0 lsm st0) := by
  have hfree := ai_free hG
  obtain ⟨hK, hN, hZ, hP, hD, hS, hA, hc, hag, hwf⟩ := hG
  intro T hT X
  obtain ⟨v, st₀, t, T', Lc, h0, X', hLc, e1, e2, ⟨⟨ad1, hag1, hv, hP1, hD1, hw1, hb1⟩, hz, hk⟩, stp⟩ := run T hT X
  have hv' : v = rv.map (ai_v ad1 aK) := by cases hv; rfl
  subst hv'
  rw [h0] at hz hk
  have key := kk p l e s mid below meth c dC dI cK aK aV ad1 T'.heap (locs ++ Lc) lsm C0 h31
    ⟨hK, hN, hZ, by rw [e1]; exact hP1, hD1.weaken (fun k q _ z => hfree q.1 z), ⟨Nat.le_trans hS.1 (by rw [e1]; exact hz), fun q g1 g2 => by rw [e1, hk q (Nat.lt_of_lt_of_le g1 hS.1) (fun z => g2 (hfree q z))]; exact hS.2.1 q g1 g2, fun q hq => by
      rcases List.mem_append.mp hq with z | z
      · exact hS.2.2 q z
      · exact hfree _ (hLc q z)⟩, hA, ⟨Nat.zero_le _, Nat.zero_le _⟩, fun k z => absurd z (Nat.not_lt_zero k), hw1⟩
    (ai_L.grow hm.1 hag1 hL) (fun w hw => by
      rcases List.mem_append.mp hw with z | z
      · cases rv with
        | none => cases z
        | some x =>
          have : w = x := by simpa using z
          subst this
          exact hb1 _ rfl
      · exact (hst w z).le hm.1)
  rw [show h1.1 = h.1 + (h1.1 - h.1) from by omega, show h1.2.1 = h.2.1 + (h1.2.1 - h.2.1) from by omega, List.map_append, ai_map_eq hag1 hst] at key
  have e3 : rv.toList.map (ai_v ad1 aK) = (rv.map (ai_v ad1 aK)).toList := by cases rv <;> rfl
  rw [e3] at key
  obtain ⟨t2, a1, b1⟩ := key T' rfl X'
  exact ⟨t2, stp t2 a1, b1⟩
def lz_fits (N : ai_M) : Bool := decide (N.2.2.2.2.1 + 1 ≤ 16 ∧ 8 + (N.2.2.1 + 11) + N.2.2.2.2.2 ≤ 614)
theorem lz_call {idx n q ci : Nat} {N : ai_M} {as : List Value} {rv : Option Value} {h1 : ai_H} {T : u_T} {k : Nat} {fs : List Value} (d : decode code pc = .ok (.invokevirtual idx, 3)) (hMK : ai_MK N n) (hl : ai_ML RL idx N.1) (hin : Cond.instanceMethod N.1 ∈ ai_T) (hsel : Cond.selects N.1.cls N.1 N.1 ∈ ai_T) (hci : ai_cl[ci]? = some (N.1.cls, T, k)) (hq : q < h.1) (he : h.2.2 q = .inr (ci, fs)) (hn : as.length = n) (hfit : lz_fits N = true) (hW : (st.map fun v => v.category).sum ≤ 8) (hc : ai_Met N (.ref q :: as) h rv h1) (hr1 : h1.1 ≤ room_1.cells) (hr2 : h1.2.1 ≤ room_1.slots) (kk : lz_R b L xs (pc + 3) ls (rv.toList ++ st) h1) : lz_R b L xs pc ls (as.reverse ++ .ref q :: st) h := by
  have m1 := hc.1
  intro p l e s mid below meth c dC dI cK aK aV ad H locs lsm C0 h31 hG hL hst
  have hT := lz_T C0
  have hR := of_decide_eq_true hfit
  have hst1 : ∀ w ∈ st, ai_b h.1 w := fun w hw => hst w (by simp [hw])
  have hstA : ∀ v ∈ Value.ref q :: as, ai_b h.1 v := fun v hv => by
    rcases List.mem_cons.mp hv with rfl | hv
    · exact hq
    · exact hst v (by simp [hv])
  have hM := hc.2 l dC dI cK aK aV ad H.size hG.2.2.2.2.2.2.2.2.2 hstA
  have hw : (ai_w cK ad aK h)[q]? = some (ad q, .inr (ci, fs.map (ai_v ad aK))) := by rw [ai_w_get hq, he]; rfl
  have hpv : PreV s H N.1.cls (ad q) (ai_Pc dC dI cK aK aV ad H.size (.ref q :: as) h) (as.map (ai_v ad aK)) := ⟨ai_pc_blind, va_recv hG.1 hG.2.2.2.1 (ci := ci) (q0 := q) hci hw, ai_pre hG⟩
  have hsk : ((as.reverse ++ .ref q :: st).map (ai_v ad aK)) = (as.map (ai_v ad aK)).reverse ++ .ref (ad q) :: st.map (ai_v ad aK) := by
    rw [List.map_append, List.map_reverse]; rfl
  have hlen : (as.map (ai_v ad aK)).length = n := by rw [List.length_map]; exact hn
  have hWm : 2 * (F0 mid pc lsm ((as.reverse ++ .ref q :: st).map (ai_v ad aK))).monitorRoom + ((st.map (ai_v ad aK)).map fun v => v.category).sum ≤ 8 := by
    rw [ai_cat_sum]
    exact lv_room (m := mid) (pc := pc) (ls := lsm) (rest := (as.reverse ++ .ref q :: st).map (ai_v ad aK)) hW
  have hfr : h.1 + (h1.1 - h.1) ≤ room_1.cells ∧ h.2.1 + (h1.2.1 - h.2.1) ≤ room_1.slots := ⟨by omega, by omega⟩
  refine lz_go (st := st) (rv := rv) (h1 := h1) m1 kk C0 h31 hG hL hst1 (a := (.ref (ad q) :: as.map (ai_v ad aK)).toArray) ?_
  rcases hl with hl | ⟨host, hl⟩
  · exact va_runV (cc := code) (nL := 4) (Ts := ai_T) (own := RL) (As := as.map (ai_v ad aK)) (rest := st.map (ai_v ad aK)) ⟨C0.1, C0.2.1, C0.2.2.2.1, C0.2.2.2.2.1, hT⟩ hM ⟨callB_of n hT (ai_good hMK) rfl rfl rfl (hT _ hMK.2.1) (hT _ hl) hMK.2.2 hR, hT _ hin, hT _ hsel⟩ hpv rfl hlen hL.1 hsk hWm d hfr
  · exact va_runVN (cc := code) (nL := 4) (Ts := ai_T) (own := RL) (As := as.map (ai_v ad aK)) (rest := st.map (ai_v ad aK)) ⟨C0.1, C0.2.1, C0.2.2.2.1, C0.2.2.2.2.1, hT⟩ hM ⟨va_cnB n hT (ai_good hMK) rfl rfl rfl (hG.2.1.1 _ hl) (hT _ hMK.2.1) hMK.2.2 hR, hT _ hin, hT _ hsel⟩ hpv rfl hlen hL.1 hsk hWm d hfr
theorem lz_callI {idx n q : Nat} {N : ai_M} {as : List Value} {h1 : ai_H} (d : decode code pc = .ok (.invokespecial idx, 3)) (hMK : ai_MK N n) (hvoid : N.2.2.2.1 = none) (hl : Cond.methodLink RL idx N.1 ∈ ai_T) (hin : Cond.instanceMethod N.1 ∈ ai_T) (hnm : N.1.name = "<init>") (hq : q < h.1) (hn : as.length = n) (hfit : lz_fits N = true) (hW : (st.map fun v => v.category).sum ≤ 8) (hc : ai_Met N (.ref q :: as) h none h1) (hr1 : h1.1 ≤ room_1.cells) (hr2 : h1.2.1 ≤ room_1.slots) (kk : lz_R b L xs (pc + 3) ls st h1) : lz_R b L xs pc ls (as.reverse ++ .ref q :: st) h := by
  have m1 := hc.1
  intro p l e s mid below meth c dC dI cK aK aV ad H locs lsm C0 h31 hG hL hst
  have hT := lz_T C0
  have hR := of_decide_eq_true hfit
  have hst1 : ∀ w ∈ st, ai_b h.1 w := fun w hw => hst w (by simp [hw])
  have hstA : ∀ v ∈ Value.ref q :: as, ai_b h.1 v := fun v hv => by
    rcases List.mem_cons.mp hv with rfl | hv
    · exact hq
    · exact hst v (by simp [hv])
  have hM := hc.2 l dC dI cK aK aV ad H.size hG.2.2.2.2.2.2.2.2.2 hstA
  have hpv : PreS s H (ai_Pc dC dI cK aK aV ad H.size (.ref q :: as) h) (.ref (ad q) :: as.map (ai_v ad aK)) := ⟨ai_pc_blind, ai_pre hG⟩
  have hsk : ((as.reverse ++ .ref q :: st).map (ai_v ad aK)) = (as.map (ai_v ad aK)).reverse ++ .ref (ad q) :: st.map (ai_v ad aK) := by
    rw [List.map_append, List.map_reverse]; rfl
  have hlen : (as.map (ai_v ad aK)).length = n := by rw [List.length_map]; exact hn
  have hWm : 2 * (F0 mid pc lsm ((as.reverse ++ .ref q :: st).map (ai_v ad aK))).monitorRoom + ((st.map (ai_v ad aK)).map fun v => v.category).sum ≤ 8 := by
    rw [ai_cat_sum]
    exact lv_room (m := mid) (pc := pc) (ls := lsm) (rest := (as.reverse ++ .ref q :: st).map (ai_v ad aK)) hW
  have hfr : h.1 + (h1.1 - h.1) ≤ room_1.cells ∧ h.2.1 + (h1.2.1 - h.2.1) ≤ room_1.slots := ⟨by omega, by omega⟩
  refine lz_go (st := st) (rv := none) (h1 := h1) m1 kk C0 h31 hG hL hst1 (a := (.ref (ad q) :: as.map (ai_v ad aK)).toArray) ?_
  exact va_runI (cc := code) (nL := 4) (Ts := ai_T) (own := RL) (As := as.map (ai_v ad aK)) (rest := st.map (ai_v ad aK)) ⟨C0.1, C0.2.1, C0.2.2.2.1, C0.2.2.2.2.1, hT⟩ hM ⟨callB_of n hT (ai_good hMK) (by rw [ai_ws, hvoid]) rfl rfl (hT _ hMK.2.1) (hT _ hl) hMK.2.2 hR, hnm, hT _ hin⟩ hpv rfl hlen hL.1 hsk hWm d hfr
theorem lz_new {idx ci N : Nat} {C : String} {T : u_T} (fs : List Value) (d : decode code pc = .ok (.new idx, 3)) (hk1 : ai_K1 ci C T N) (hw : Cond.classLink RL idx C ∈ ai_T) (hw2 : Cond.instantiable C N ∈ ai_T ∧ Cond.initialized C ∈ ai_T) (hfs : ∀ j, j < N → defaultValue (ai_ty ci j) = vp_V fs j) (hpl : fs.all ai_plain = true) (hr1 : h.1 + 1 ≤ room_1.cells) (hr2 : h.2.1 + N ≤ room_1.slots) (kk : lz_R b L xs (pc + 3) ls (.ref h.1 :: st) (ai_add h N (.inr (ci, fs)))) : lz_R b L xs pc ls st h := by
  intro p l e s mid below meth c dC dI cK aK aV ad H locs lsm C0 h31 hG hL hst
  have hT := lz_T C0
  refine va_new (D := (dC, dI)) C0.1 C0.2.1 hT hk1.2.1 (ai_ty ci) hk1.2.2.1 C0.2.2.2.2.1 (hT _ hw) (hT _ hw2.1) (hT _ hw2.2) hG.1 hG.2.2.2.1 hG.2.2.2.2.1 hG.2.2.2.2.2.1 hG.2.2.2.2.2.2.1 hk1.1 hfs hr1 hr2 d ?_
  intro q H1 hP hD hS
  have hall := List.all_eq_true.mp hpl
  have e1 : fs.map (ai_v ad aK) = fs := by
    have : fs.map (ai_v ad aK) = fs.map id := List.map_congr_left fun v hv => ai_plain_v ad aK (hall v hv)
    rw [this, List.map_id]
  have ex : (.inr (ci, fs) : va_E) = ai_e cK ad aK (.inr (ci, fs)) := by simp only [ai_e, e1]
  have hx : ai_eb h.1 (.inr (ci, fs)) := fun v hv => ai_plain_b _ (hall v hv)
  have hwf := hG.2.2.2.2.2.2.2.2.2
  have hag : ∀ k, k < h.1 → va_up ad h.1 q k = ad k := fun k hk => by simp [va_up, Nat.ne_of_lt hk]
  rw [ex, ai_w_push _ N hwf hx] at hP hD
  have key := kk p l e s mid below meth c dC dI cK aK aV (va_up ad h.1 q) H1 locs lsm C0 h31
    ⟨hG.1, hG.2.1, hG.2.2.1, hP, hD, hS, hG.2.2.2.2.2.2.1, ⟨Nat.zero_le _, Nat.zero_le _⟩, fun k hk => absurd hk (Nat.not_lt_zero k), ai_wf_add hwf hx⟩ (ai_L.grow (Nat.le_succ _) hag hL)
    (ai_bt (fun w hw => (hst w hw).le (Nat.le_succ _)) (Nat.lt_succ_self _))
  rw [List.map_cons, ai_map_eq hag hst] at key
  have e2 : ai_v (va_up ad h.1 q) aK (.ref h.1) = .ref q := by simp [ai_v, va_up]
  rw [e2] at key
  exact key
/-- the law's end -/
theorem lz_end (d0 : decode code pc = .ok (.iconst 1, 1)) (d1 : decode code (pc + 1) = .ok (.ireturn, 1)) (hr1 : h.1 ≤ room_1.cells) (hr2 : h.2.1 ≤ room_1.slots) : lz_R b L xs pc ls [] h := by
  intro p l e s mid below meth c dC dI cK aK aV ad H locs lsm C0 h31 hG hL hst
  refine lv_iconst (v := 1) C0.1 C0.2.1 d0 (by decide) ?_
  refine va_forget hG.2.2.2.2.2.1.2.2 ?_
  refine W.widen (k := room_1.cells) (n := room_1.slots) hr1 hr2 ?_
  exact lw_ret C0.1 C0.2.1 C0.2.2.1 C0.2.2.2.2.2.2.2.2.1 d1
/-- the law's loop: its head -/
theorem lz_head {i : Int32} {q1 q2 : Value} (d0 : decode code pc = .ok (.iload_n 3, 1)) (d1 : decode code (pc + 1) = .ok (.aload_n 0, 1)) (d2 : decode code (pc + 2) = .ok (.arraylength, 1)) (d3 : decode code (pc + 3) = .ok (.bipush 8, 2)) (d4 : decode code (pc + 5) = .ok (.isub, 1)) {off : Int} {tgt : Nat} (d5 : decode code (pc + 6) = .ok (.if_icmp .gt off, 3)) (ht : ((pc + 6 : Nat) : Int) + off = (tgt : Int)) (kt : Int32.ofNat L - 8 < i → lz_R b L xs tgt [.retAddr 31, q1, q2, .int i] st h) (kf : ¬ Int32.ofNat L - 8 < i → lz_R b L xs (pc + 9) [.retAddr 31, q1, q2, .int i] st h) : lz_R b L xs pc [.retAddr 31, q1, q2, .int i] st h := by
  intro p l e s mid below meth c dC dI cK aK aV ad H locs lsm C0 h31 hG hL hst
  have l0 : lsm[0]? = some (.val (.ref (aK 31))) := (hL.2.2 0 (.retAddr 31) rfl (by intro q; cases q)).1
  have l3 : lsm[3]? = some (.val (.int i)) := (hL.2.2 3 (.int i) rfl (by intro q; cases q)).1
  refine lv_iload_n C0.1 C0.2.1 d0 rfl l3 ?_
  refine lv_aload_n C0.1 C0.2.1 d1 rfl l0 ?_
  rw [h31]
  refine va_slen C0.1 C0.2.1 C0.2.2.2.2.2.2.1 C0.2.2.2.2.2.2.2.1 (Nat.not_le.mpr C0.2.2.2.2.2.2.2.1) hG.2.2.2.2.2.1 d2 ?_
  refine lv_bipush (v := 8) C0.1 C0.2.1 d3 (by decide) ?_
  refine lv_isub C0.1 C0.2.1 d4 ?_
  exact lv_icmp_gt C0.1 C0.2.1 d5 ht (fun z => kt z p l e s mid below meth c dC dI cK aK aV ad H locs lsm C0 h31 hG hL hst) (fun z => kf z p l e s mid below meth c dC dI cK aK aV ad H locs lsm C0 h31 hG hL hst)
/-- which call it is -/
theorem lz_which {i : Int32} {q1 q2 : Value} (d0 : decode code pc = .ok (.aload_n 0, 1)) (d1 : decode code (pc + 1) = .ok (.iload_n 3, 1)) (d2 : decode code (pc + 2) = .ok (.iaload, 1)) (d3 : decode code (pc + 3) = .ok (.bipush 31, 2)) (d4 : decode code (pc + 5) = .ok (.iand, 1)) (hin : vp_in i L) (kk : lz_R b L xs (pc + 6) [.retAddr 31, q1, q2, .int i] (.int (xs i.toNatClampNeg &&& 31) :: st) h) : lz_R b L xs pc [.retAddr 31, q1, q2, .int i] st h := by
  intro p l e s mid below meth c dC dI cK aK aV ad H locs lsm C0 h31 hG hL hst
  have key := kk p l e s mid below meth c dC dI cK aK aV ad H locs lsm C0 h31 hG hL (ai_bt hst trivial)
  have l0 : lsm[0]? = some (.val (.ref (aK 31))) := (hL.2.2 0 (.retAddr 31) rfl (by intro q; cases q)).1
  have l3 : lsm[3]? = some (.val (.int i)) := (hL.2.2 3 (.int i) rfl (by intro q; cases q)).1
  refine lv_aload_n C0.1 C0.2.1 d0 rfl l0 ?_
  refine lv_iload_n C0.1 C0.2.1 d1 rfl l3 ?_
  rw [h31]
  refine va_sld C0.1 C0.2.1 C0.2.2.2.2.2.2.1 C0.2.2.2.2.2.2.2.1 (Nat.not_le.mpr C0.2.2.2.2.2.2.2.1) hG.2.2.2.2.2.1 hin d2 ?_
  refine lv_bipush (v := 31) C0.1 C0.2.1 d3 (by decide) ?_
  exact lv_iand C0.1 C0.2.1 d4 key
/-- on to the next call -/
theorem lz_next {i v : Int32} {q1 q2 : Value} {off : Int} {tgt : Nat} (d0 : decode code pc = .ok (.iinc 3 8, 3)) (d1 : decode code (pc + 3) = .ok (.goto off, 3)) (ht : ((pc + 3 : Nat) : Int) + off = (tgt : Int)) (hv : i + Int32.ofInt 8 = v) (hs : ai_s1 [.retAddr 31, q1, q2, .int i] 3 (.int v) = [.retAddr 31, q1, q2, .int v]) (kk : lz_R b L xs tgt [.retAddr 31, q1, q2, .int v] st h) : lz_R b L xs pc [.retAddr 31, q1, q2, .int i] st h := by
  intro p l e s mid below meth c dC dI cK aK aV ad H locs lsm C0 h31 hG hL hst
  obtain ⟨j, hj⟩ := List.getElem?_of_mem (ai_pr_mem (ad := ad) (aK := aK) (ls := [.retAddr 31, q1, q2, .int i]) (i := 3) (v := .int i) rfl (by intro q; cases q))
  refine lv_iinc C0.1 C0.2.1 d0 (ai_pr_has hL) hj hv (by decide) rfl (fun lsm' hl' => ?_)
  refine lv_goto C0.1 C0.2.1 d1 ht ?_
  exact kk p l e s mid below meth c dC dI cK aK aV ad H locs lsm' C0 h31 hG (ai_L1 (v := .int v) (fun i v a b => (hL.2.2 i v a b).2) trivial hl' hs) hst
end LZ
