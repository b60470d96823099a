/-! 05: the rules: stack, locals, branches -/
section STEPS
variable {M : ai_M} {pc : Nat} {ls st : List Value} {h h' : ai_H} {r : Option Value}
theorem ai_st {pc' : Nat} {st' : List Value} (hb : ∀ (n : Nat) (lsm : Array Slot) (ad aK : Nat → Nat), ai_L lsm M.2.2.1 n ad aK ls → (∀ v ∈ st, ai_b n v) → ∀ v ∈ st', ai_b n v)
    (hs : ∀ (p : Program) (l : Launch) (e : Env) (R : Room) (s : State) (mid : MethodId) (args : Array Value) (below : List Frame) (meth : Method) (c : Code) (H : Heap) (locs : List Loc) (cells slots : Nat) (Q : State → Prop) (lsm : Array Slot) (ad aK : Nat → Nat) (n : Nat), ai_C M p s mid args meth c → ai_L lsm M.2.2.1 n ad aK ls → (∀ q ∈ ai_sx, vk_R q.1 q.2.1 q.2.2.1 (aK q.2.2.2) s) → W p l e R s mid args below meth c H locs cells slots Q (F0 mid pc' lsm (st'.map (ai_v ad aK))) → W p l e R s mid args below meth c H locs cells slots Q (F0 mid pc lsm (st.map (ai_v ad aK))))
    (kk : ai_R M pc' ls st' h r h') : ai_R M pc ls st h r h' := by
  refine ⟨kk.1, fun p l e s mid args below meth c dC dI cK aK aV ad0 c0 s0 A ad H locs lsm hC hG hL hst => ?_⟩
  exact hs p l e _ s mid args below meth c H locs _ _ _ lsm ad aK h.1 hC hL hG.2.2.1.1 (kk.2 p l e s mid args below meth c dC dI cK aK aV ad0 c0 s0 A ad H locs lsm hC hG hL (hb h.1 lsm ad aK hL hst))
theorem ai_bt {n : Nat} {st : List Value} {v : Value} (h : ∀ w ∈ st, ai_b n w) (hv : ai_b n v) : ∀ w ∈ v :: st, ai_b n w := fun w hw => by
  rcases List.mem_cons.mp hw with rfl | hw
  · exact hv
  · exact h w hw
theorem ai_b1 {n : Nat} {st : List Value} {v : Value} (h : ∀ w ∈ v :: st, ai_b n w) : ∀ w ∈ st, ai_b n w := fun w hw => h w (List.mem_cons_of_mem _ hw)
theorem ai_b2 {n : Nat} {st : List Value} {v u : Value} (h : ∀ w ∈ v :: u :: st, ai_b n w) : ∀ w ∈ st, ai_b n w := ai_b1 (ai_b1 h)
theorem rs_iconst {n : Int} {v : Int32} (d : decode M.2.1 pc = .ok (.iconst n, 1)) (hv : Int32.ofInt n = v) (kk : ai_R M (pc + 1) ls (.int v :: st) h r h') : ai_R M pc ls (st) h r h' :=
  ai_st (st := st) (st' := .int v :: st) (fun n lsm ad aK _ hst => ai_bt hst trivial) (fun p l e R s mid args below meth c H locs cells slots Q lsm ad aK n hC hL hX k => lv_iconst hC.1 hC.2.1 d hv k) kk
theorem rs_bipush {n : Int} {v : Int32} (d : decode M.2.1 pc = .ok (.bipush n, 2)) (hv : (Int8.ofInt n).toInt32 = v) (kk : ai_R M (pc + 2) ls (.int v :: st) h r h') : ai_R M pc ls (st) h r h' :=
  ai_st (st := st) (st' := .int v :: st) (fun n lsm ad aK _ hst => ai_bt hst trivial) (fun p l e R s mid args below meth c H locs cells slots Q lsm ad aK n hC hL hX k => lv_bipush hC.1 hC.2.1 d hv k) kk
theorem rs_sipush {n : Int} {v : Int32} (d : decode M.2.1 pc = .ok (.sipush n, 3)) (hv : (Int16.ofInt n).toInt32 = v) (kk : ai_R M (pc + 3) ls (.int v :: st) h r h') : ai_R M pc ls (st) h r h' :=
  ai_st (st := st) (st' := .int v :: st) (fun n lsm ad aK _ hst => ai_bt hst trivial) (fun p l e R s mid args below meth c H locs cells slots Q lsm ad aK n hC hL hX k => lv_sipush hC.1 hC.2.1 d hv k) kk
theorem rs_lconst {n : Fin 2} {v : Int64} (d : decode M.2.1 pc = .ok (.lconst n, 1)) (hv : Int64.ofNat (n : Nat) = v) (kk : ai_R M (pc + 1) ls (.long v :: st) h r h') : ai_R M pc ls (st) h r h' :=
  ai_st (st := st) (st' := .long v :: st) (fun n lsm ad aK _ hst => ai_bt hst trivial) (fun p l e R s mid args below meth c H locs cells slots Q lsm ad aK n hC hL hX k => lv_lconst hC.1 hC.2.1 d hv k) kk
theorem rs_null (d : decode M.2.1 pc = .ok (.aconst_null, 1)) (kk : ai_R M (pc + 1) ls (.null :: st) h r h') : ai_R M pc ls (st) h r h' :=
  ai_st (st := st) (st' := .null :: st) (fun n lsm ad aK _ hst => ai_bt hst trivial) (fun p l e R s mid args below meth c H locs cells slots Q lsm ad aK n hC hL hX k => lv_null hC.1 hC.2.1 d k) kk
theorem rs_ldc {i : Nat} {v : Int32} (d : decode M.2.1 pc = .ok (.ldc i, 2)) (hw : Cond.constant M.1.cls i v ∈ ai_T) (kk : ai_R M (pc + 2) ls (.int v :: st) h r h') : ai_R M pc ls (st) h r h' :=
  ai_st (st := st) (st' := .int v :: st) (fun n lsm ad aK _ hst => ai_bt hst trivial) (fun p l e R s mid args below meth c H locs cells slots Q lsm ad aK n hC hL hX k => lv_ldc hC.1 hC.2.1 hC.2.2.2.2.1 (hC.2.2.2.2.2.1 _ hw) d k) kk
theorem rs_ldcw {i : Nat} {v : Int32} (d : decode M.2.1 pc = .ok (.ldc_w i, 3)) (hw : Cond.constant M.1.cls i v ∈ ai_T) (kk : ai_R M (pc + 3) ls (.int v :: st) h r h') : ai_R M pc ls (st) h r h' :=
  ai_st (st := st) (st' := .int v :: st) (fun n lsm ad aK _ hst => ai_bt hst trivial) (fun p l e R s mid args below meth c H locs cells slots Q lsm ad aK n hC hL hX k => lv_ldcw hC.1 hC.2.1 hC.2.2.2.2.1 (hC.2.2.2.2.2.1 _ hw) d k) kk
theorem rs_ldc2 {i : Nat} {v : Int64} (d : decode M.2.1 pc = .ok (.ldc2_w i, 3)) (hw : Cond.constantLong M.1.cls i v ∈ ai_T) (kk : ai_R M (pc + 3) ls (.long v :: st) h r h') : ai_R M pc ls (st) h r h' :=
  ai_st (st := st) (st' := .long v :: st) (fun n lsm ad aK _ hst => ai_bt hst trivial) (fun p l e R s mid args below meth c H locs cells slots Q lsm ad aK n hC hL hX k => lv_ldc2 hC.1 hC.2.1 hC.2.2.2.2.1 (hC.2.2.2.2.2.1 _ hw) d k) kk
theorem rs_ldcS {i j : Nat} {tx : String} (d : decode M.2.1 pc = .ok (.ldc i, 2)) (hw : (M.1.cls, i, tx, j) ∈ ai_sx) (kk : ai_R M (pc + 2) ls (.retAddr j :: st) h r h') : ai_R M pc ls (st) h r h' :=
  ai_st (st := st) (st' := .retAddr j :: st) (fun n lsm ad aK _ hst => ai_bt hst trivial) (fun p l e R s mid args below meth c H locs cells slots Q lsm ad aK n hC hL hX k => va_ldcS hC.1 hC.2.1 hC.2.2.2.2.1 (hX _ hw) d k) kk
theorem rs_iload_n {k : Fin 4} {x : Int32} (d : decode M.2.1 pc = .ok (.iload_n k, 1)) (hl : ls[(k : Nat)]? = some (.int x)) (kk : ai_R M (pc + 1) ls (.int x :: st) h r h') : ai_R M pc ls (st) h r h' :=
  ai_st (st := st) (st' := .int x :: st) (fun n lsm ad aK hL hst => ai_bt hst trivial) (fun p l e R s mid args below meth c H locs cells slots Q lsm ad aK n hC hL hX k => lv_iload_n hC.1 hC.2.1 d rfl (hL.2.2 _ _ hl (by intro q; cases q)).1 k) kk
theorem rs_iload {i : Nat} {x : Int32} (d : decode M.2.1 pc = .ok (.iload i, 2)) (hl : ls[i]? = some (.int x)) (kk : ai_R M (pc + 2) ls (.int x :: st) h r h') : ai_R M pc ls (st) h r h' :=
  ai_st (st := st) (st' := .int x :: st) (fun n lsm ad aK hL hst => ai_bt hst trivial) (fun p l e R s mid args below meth c H locs cells slots Q lsm ad aK n hC hL hX k => lv_iload hC.1 hC.2.1 d (hL.2.2 _ _ hl (by intro q; cases q)).1 k) kk
theorem rs_lload_n {k : Fin 4} {x : Int64} (d : decode M.2.1 pc = .ok (.lload_n k, 1)) (hl : ls[(k : Nat)]? = some (.long x)) (kk : ai_R M (pc + 1) ls (.long x :: st) h r h') : ai_R M pc ls (st) h r h' :=
  ai_st (st := st) (st' := .long x :: st) (fun n lsm ad aK hL hst => ai_bt hst trivial) (fun p l e R s mid args below meth c H locs cells slots Q lsm ad aK n hC hL hX k => lv_lload_n hC.1 hC.2.1 d rfl (hL.2.2 _ _ hl (by intro q; cases q)).1 k) kk
theorem rs_lload {i : Nat} {x : Int64} (d : decode M.2.1 pc = .ok (.lload i, 2)) (hl : ls[i]? = some (.long x)) (kk : ai_R M (pc + 2) ls (.long x :: st) h r h') : ai_R M pc ls (st) h r h' :=
  ai_st (st := st) (st' := .long x :: st) (fun n lsm ad aK hL hst => ai_bt hst trivial) (fun p l e R s mid args below meth c H locs cells slots Q lsm ad aK n hC hL hX k => lv_lload hC.1 hC.2.1 d (hL.2.2 _ _ hl (by intro q; cases q)).1 k) kk
theorem rs_aload_n {k : Fin 4} {q : Nat} (d : decode M.2.1 pc = .ok (.aload_n k, 1)) (hl : ls[(k : Nat)]? = some (.ref q)) (kk : ai_R M (pc + 1) ls (.ref q :: st) h r h') : ai_R M pc ls (st) h r h' :=
  ai_st (st := st) (st' := .ref q :: st) (fun n lsm ad aK hL hst => ai_bt hst (hL.2.2 _ _ hl (by intro q; cases q)).2) (fun p l e R s mid args below meth c H locs cells slots Q lsm ad aK n hC hL hX k => lv_aload_n hC.1 hC.2.1 d rfl (hL.2.2 _ _ hl (by intro q; cases q)).1 k) kk
theorem rs_aload_nS {k : Fin 4} {q : Nat} (d : decode M.2.1 pc = .ok (.aload_n k, 1)) (hl : ls[(k : Nat)]? = some (.retAddr q)) (kk : ai_R M (pc + 1) ls (.retAddr q :: st) h r h') : ai_R M pc ls (st) h r h' :=
  ai_st (st := st) (st' := .retAddr q :: st) (fun n lsm ad aK hL hst => ai_bt hst trivial) (fun p l e R s mid args below meth c H locs cells slots Q lsm ad aK n hC hL hX k => lv_aload_n hC.1 hC.2.1 d rfl (hL.2.2 _ _ hl (by intro q; cases q)).1 k) kk
theorem rs_aload_nN {k : Fin 4} (d : decode M.2.1 pc = .ok (.aload_n k, 1)) (hl : ls[(k : Nat)]? = some .null) (kk : ai_R M (pc + 1) ls (.null :: st) h r h') : ai_R M pc ls (st) h r h' :=
  ai_st (st := st) (st' := .null :: st) (fun n lsm ad aK hL hst => ai_bt hst trivial) (fun p l e R s mid args below meth c H locs cells slots Q lsm ad aK n hC hL hX k => lv_aload_nN hC.1 hC.2.1 d rfl (hL.2.2 _ _ hl (by intro q; cases q)).1 k) kk
theorem rs_aload {k : Nat} {q : Nat} (d : decode M.2.1 pc = .ok (.aload k, 2)) (hl : ls[k]? = some (.ref q)) (kk : ai_R M (pc + 2) ls (.ref q :: st) h r h') : ai_R M pc ls (st) h r h' :=
  ai_st (st := st) (st' := .ref q :: st) (fun n lsm ad aK hL hst => ai_bt hst (hL.2.2 _ _ hl (by intro q; cases q)).2) (fun p l e R s mid args below meth c H locs cells slots Q lsm ad aK n hC hL hX k => lv_aload hC.1 hC.2.1 d (hL.2.2 _ _ hl (by intro q; cases q)).1 k) kk
theorem rs_aloadS {k : Nat} {q : Nat} (d : decode M.2.1 pc = .ok (.aload k, 2)) (hl : ls[k]? = some (.retAddr q)) (kk : ai_R M (pc + 2) ls (.retAddr q :: st) h r h') : ai_R M pc ls (st) h r h' :=
  ai_st (st := st) (st' := .retAddr q :: st) (fun n lsm ad aK hL hst => ai_bt hst trivial) (fun p l e R s mid args below meth c H locs cells slots Q lsm ad aK n hC hL hX k => lv_aload hC.1 hC.2.1 d (hL.2.2 _ _ hl (by intro q; cases q)).1 k) kk
theorem rs_aloadN {k : Nat} (d : decode M.2.1 pc = .ok (.aload k, 2)) (hl : ls[k]? = some .null) (kk : ai_R M (pc + 2) ls (.null :: st) h r h') : ai_R M pc ls (st) h r h' :=
  ai_st (st := st) (st' := .null :: st) (fun n lsm ad aK hL hst => ai_bt hst trivial) (fun p l e R s mid args below meth c H locs cells slots Q lsm ad aK n hC hL hX k => lv_aloadN hC.1 hC.2.1 d (hL.2.2 _ _ hl (by intro q; cases q)).1 k) kk
theorem rs_iadd {x y : Int32} (d : decode M.2.1 pc = .ok (.iadd, 1)) (kk : ai_R M (pc + 1) ls (.int (x + y) :: st) h r h') : ai_R M pc ls (.int y :: .int x :: st) h r h' :=
  ai_st (st := .int y :: .int x :: st) (st' := .int (x + y) :: st) (fun n lsm ad aK hL hst => ai_bt (ai_b2 hst) trivial) (fun p l e R s mid args below meth c H locs cells slots Q lsm ad aK n hC hL hX k => lv_iadd hC.1 hC.2.1 d k) kk
theorem rs_isub {x y : Int32} (d : decode M.2.1 pc = .ok (.isub, 1)) (kk : ai_R M (pc + 1) ls (.int (x - y) :: st) h r h') : ai_R M pc ls (.int y :: .int x :: st) h r h' :=
  ai_st (st := .int y :: .int x :: st) (st' := .int (x - y) :: st) (fun n lsm ad aK hL hst => ai_bt (ai_b2 hst) trivial) (fun p l e R s mid args below meth c H locs cells slots Q lsm ad aK n hC hL hX k => lv_isub hC.1 hC.2.1 d k) kk
theorem rs_imul {x y : Int32} (d : decode M.2.1 pc = .ok (.imul, 1)) (kk : ai_R M (pc + 1) ls (.int (x * y) :: st) h r h') : ai_R M pc ls (.int y :: .int x :: st) h r h' :=
  ai_st (st := .int y :: .int x :: st) (st' := .int (x * y) :: st) (fun n lsm ad aK hL hst => ai_bt (ai_b2 hst) trivial) (fun p l e R s mid args below meth c H locs cells slots Q lsm ad aK n hC hL hX k => lv_imul hC.1 hC.2.1 d k) kk
theorem rs_iand {x y : Int32} (d : decode M.2.1 pc = .ok (.iand, 1)) (kk : ai_R M (pc + 1) ls (.int (x &&& y) :: st) h r h') : ai_R M pc ls (.int y :: .int x :: st) h r h' :=
  ai_st (st := .int y :: .int x :: st) (st' := .int (x &&& y) :: st) (fun n lsm ad aK hL hst => ai_bt (ai_b2 hst) trivial) (fun p l e R s mid args below meth c H locs cells slots Q lsm ad aK n hC hL hX k => lv_iand hC.1 hC.2.1 d k) kk
theorem rs_ior {x y : Int32} (d : decode M.2.1 pc = .ok (.ior, 1)) (kk : ai_R M (pc + 1) ls (.int (x ||| y) :: st) h r h') : ai_R M pc ls (.int y :: .int x :: st) h r h' :=
  ai_st (st := .int y :: .int x :: st) (st' := .int (x ||| y) :: st) (fun n lsm ad aK hL hst => ai_bt (ai_b2 hst) trivial) (fun p l e R s mid args below meth c H locs cells slots Q lsm ad aK n hC hL hX k => lv_ior hC.1 hC.2.1 d k) kk
theorem rs_ixor {x y : Int32} (d : decode M.2.1 pc = .ok (.ixor, 1)) (kk : ai_R M (pc + 1) ls (.int (x ^^^ y) :: st) h r h') : ai_R M pc ls (.int y :: .int x :: st) h r h' :=
  ai_st (st := .int y :: .int x :: st) (st' := .int (x ^^^ y) :: st) (fun n lsm ad aK hL hst => ai_bt (ai_b2 hst) trivial) (fun p l e R s mid args below meth c H locs cells slots Q lsm ad aK n hC hL hX k => lv_ixor hC.1 hC.2.1 d k) kk
theorem rs_ishl {x y : Int32} (d : decode M.2.1 pc = .ok (.ishl, 1)) (kk : ai_R M (pc + 1) ls (.int (x <<< (y &&& 31)) :: st) h r h') : ai_R M pc ls (.int y :: .int x :: st) h r h' :=
  ai_st (st := .int y :: .int x :: st) (st' := .int (x <<< (y &&& 31)) :: st) (fun n lsm ad aK hL hst => ai_bt (ai_b2 hst) trivial) (fun p l e R s mid args below meth c H locs cells slots Q lsm ad aK n hC hL hX k => lv_ishl hC.1 hC.2.1 d k) kk
theorem rs_ishr {x y : Int32} (d : decode M.2.1 pc = .ok (.ishr, 1)) (kk : ai_R M (pc + 1) ls (.int (x >>> (y &&& 31)) :: st) h r h') : ai_R M pc ls (.int y :: .int x :: st) h r h' :=
  ai_st (st := .int y :: .int x :: st) (st' := .int (x >>> (y &&& 31)) :: st) (fun n lsm ad aK hL hst => ai_bt (ai_b2 hst) trivial) (fun p l e R s mid args below meth c H locs cells slots Q lsm ad aK n hC hL hX k => lv_ishr hC.1 hC.2.1 d k) kk
theorem rs_iushr {x y : Int32} (d : decode M.2.1 pc = .ok (.iushr, 1)) (kk : ai_R M (pc + 1) ls (.int (x.toUInt32 >>> (y.toUInt32 &&& Int32.toUInt32 31)).toInt32 :: st) h r h') : ai_R M pc ls (.int y :: .int x :: st) h r h' :=
  ai_st (st := .int y :: .int x :: st) (st' := .int (x.toUInt32 >>> (y.toUInt32 &&& Int32.toUInt32 31)).toInt32 :: st) (fun n lsm ad aK hL hst => ai_bt (ai_b2 hst) trivial) (fun p l e R s mid args below meth c H locs cells slots Q lsm ad aK n hC hL hX k => lv_iushr hC.1 hC.2.1 d rfl k) kk
theorem rs_idiv {x y : Int32} (d : decode M.2.1 pc = .ok (.idiv, 1)) (hne : ¬ y = 0) (kk : ai_R M (pc + 1) ls (.int (x / y) :: st) h r h') : ai_R M pc ls (.int y :: .int x :: st) h r h' :=
  ai_st (st := .int y :: .int x :: st) (st' := .int (x / y) :: st) (fun n lsm ad aK hL hst => ai_bt (ai_b2 hst) trivial) (fun p l e R s mid args below meth c H locs cells slots Q lsm ad aK n hC hL hX k => lv_idiv hC.1 hC.2.1 d hne k) kk
theorem rs_ladd {x y : Int64} (d : decode M.2.1 pc = .ok (.ladd, 1)) (kk : ai_R M (pc + 1) ls (.long (x + y) :: st) h r h') : ai_R M pc ls (.long y :: .long x :: st) h r h' :=
  ai_st (st := .long y :: .long x :: st) (st' := .long (x + y) :: st) (fun n lsm ad aK hL hst => ai_bt (ai_b2 hst) trivial) (fun p l e R s mid args below meth c H locs cells slots Q lsm ad aK n hC hL hX k => lv_ladd hC.1 hC.2.1 d k) kk
theorem rs_lsub {x y : Int64} (d : decode M.2.1 pc = .ok (.lsub, 1)) (kk : ai_R M (pc + 1) ls (.long (x - y) :: st) h r h') : ai_R M pc ls (.long y :: .long x :: st) h r h' :=
  ai_st (st := .long y :: .long x :: st) (st' := .long (x - y) :: st) (fun n lsm ad aK hL hst => ai_bt (ai_b2 hst) trivial) (fun p l e R s mid args below meth c H locs cells slots Q lsm ad aK n hC hL hX k => lv_lsub hC.1 hC.2.1 d k) kk
theorem rs_lmul {x y : Int64} (d : decode M.2.1 pc = .ok (.lmul, 1)) (kk : ai_R M (pc + 1) ls (.long (x * y) :: st) h r h') : ai_R M pc ls (.long y :: .long x :: st) h r h' :=
  ai_st (st := .long y :: .long x :: st) (st' := .long (x * y) :: st) (fun n lsm ad aK hL hst => ai_bt (ai_b2 hst) trivial) (fun p l e R s mid args below meth c H locs cells slots Q lsm ad aK n hC hL hX k => lv_lmul hC.1 hC.2.1 d k) kk
theorem rs_land {x y : Int64} (d : decode M.2.1 pc = .ok (.land, 1)) (kk : ai_R M (pc + 1) ls (.long (x &&& y) :: st) h r h') : ai_R M pc ls (.long y :: .long x :: st) h r h' :=
  ai_st (st := .long y :: .long x :: st) (st' := .long (x &&& y) :: st) (fun n lsm ad aK hL hst => ai_bt (ai_b2 hst) trivial) (fun p l e R s mid args below meth c H locs cells slots Q lsm ad aK n hC hL hX k => lv_land hC.1 hC.2.1 d k) kk
theorem rs_lor {x y : Int64} (d : decode M.2.1 pc = .ok (.lor, 1)) (kk : ai_R M (pc + 1) ls (.long (x ||| y) :: st) h r h') : ai_R M pc ls (.long y :: .long x :: st) h r h' :=
  ai_st (st := .long y :: .long x :: st) (st' := .long (x ||| y) :: st) (fun n lsm ad aK hL hst => ai_bt (ai_b2 hst) trivial) (fun p l e R s mid args below meth c H locs cells slots Q lsm ad aK n hC hL hX k => lv_lor hC.1 hC.2.1 d k) kk
theorem rs_lxor {x y : Int64} (d : decode M.2.1 pc = .ok (.lxor, 1)) (kk : ai_R M (pc + 1) ls (.long (x ^^^ y) :: st) h r h') : ai_R M pc ls (.long y :: .long x :: st) h r h' :=
  ai_st (st := .long y :: .long x :: st) (st' := .long (x ^^^ y) :: st) (fun n lsm ad aK hL hst => ai_bt (ai_b2 hst) trivial) (fun p l e R s mid args below meth c H locs cells slots Q lsm ad aK n hC hL hX k => lv_lxor hC.1 hC.2.1 d k) kk
theorem rs_ldiv {x y : Int64} (d : decode M.2.1 pc = .ok (.ldiv, 1)) (hne : ¬ y = 0) (kk : ai_R M (pc + 1) ls (.long (x / y) :: st) h r h') : ai_R M pc ls (.long y :: .long x :: st) h r h' :=
  ai_st (st := .long y :: .long x :: st) (st' := .long (x / y) :: st) (fun n lsm ad aK hL hst => ai_bt (ai_b2 hst) trivial) (fun p l e R s mid args below meth c H locs cells slots Q lsm ad aK n hC hL hX k => lv_ldiv hC.1 hC.2.1 d hne k) kk
theorem rs_lrem {x y : Int64} (d : decode M.2.1 pc = .ok (.lrem, 1)) (hne : ¬ y = 0) (kk : ai_R M (pc + 1) ls (.long (x - x / y * y) :: st) h r h') : ai_R M pc ls (.long y :: .long x :: st) h r h' :=
  ai_st (st := .long y :: .long x :: st) (st' := .long (x - x / y * y) :: st) (fun n lsm ad aK hL hst => ai_bt (ai_b2 hst) trivial) (fun p l e R s mid args below meth c H locs cells slots Q lsm ad aK n hC hL hX k => lv_lrem hC.1 hC.2.1 d hne k) kk
theorem rs_lneg {x : Int64} (d : decode M.2.1 pc = .ok (.lneg, 1)) (kk : ai_R M (pc + 1) ls (.long (-x) :: st) h r h') : ai_R M pc ls (.long x :: st) h r h' :=
  ai_st (st := .long x :: st) (st' := .long (-x) :: st) (fun n lsm ad aK hL hst => ai_bt (ai_b1 hst) trivial) (fun p l e R s mid args below meth c H locs cells slots Q lsm ad aK n hC hL hX k => lv_lneg hC.1 hC.2.1 d k) kk
theorem rs_lshl {x : Int64} {y : Int32} (d : decode M.2.1 pc = .ok (.lshl, 1)) (kk : ai_R M (pc + 1) ls (.long (x <<< (y.toInt64 &&& 63)) :: st) h r h') : ai_R M pc ls (.int y :: .long x :: st) h r h' :=
  ai_st (st := .int y :: .long x :: st) (st' := .long (x <<< (y.toInt64 &&& 63)) :: st) (fun n lsm ad aK hL hst => ai_bt (ai_b2 hst) trivial) (fun p l e R s mid args below meth c H locs cells slots Q lsm ad aK n hC hL hX k => lv_lshl hC.1 hC.2.1 d rfl k) kk
theorem rs_lcmp {x y : Int64} (d : decode M.2.1 pc = .ok (.lcmp, 1)) (kk : ai_R M (pc + 1) ls (.int (lg_cmp x y) :: st) h r h') : ai_R M pc ls (.long y :: .long x :: st) h r h' :=
  ai_st (st := .long y :: .long x :: st) (st' := .int (lg_cmp x y) :: st) (fun n lsm ad aK hL hst => ai_bt (ai_b2 hst) trivial) (fun p l e R s mid args below meth c H locs cells slots Q lsm ad aK n hC hL hX k => W.lcmp hC.1 hC.2.1 d k) kk
theorem rs_i2l {x : Int32} (d : decode M.2.1 pc = .ok (.i2l, 1)) (kk : ai_R M (pc + 1) ls (.long x.toInt64 :: st) h r h') : ai_R M pc ls (.int x :: st) h r h' :=
  ai_st (st := .int x :: st) (st' := .long x.toInt64 :: st) (fun n lsm ad aK hL hst => ai_bt (ai_b1 hst) trivial) (fun p l e R s mid args below meth c H locs cells slots Q lsm ad aK n hC hL hX k => lv_i2l hC.1 hC.2.1 d rfl k) kk
theorem rs_l2i {x : Int64} (d : decode M.2.1 pc = .ok (.l2i, 1)) (kk : ai_R M (pc + 1) ls (.int x.toInt32 :: st) h r h') : ai_R M pc ls (.long x :: st) h r h' :=
  ai_st (st := .long x :: st) (st' := .int x.toInt32 :: st) (fun n lsm ad aK hL hst => ai_bt (ai_b1 hst) trivial) (fun p l e R s mid args below meth c H locs cells slots Q lsm ad aK n hC hL hX k => lv_l2i hC.1 hC.2.1 d rfl k) kk
theorem rs_i2b {x : Int32} (d : decode M.2.1 pc = .ok (.i2b, 1)) (kk : ai_R M (pc + 1) ls (.int x.toInt8.toInt32 :: st) h r h') : ai_R M pc ls (.int x :: st) h r h' :=
  ai_st (st := .int x :: st) (st' := .int x.toInt8.toInt32 :: st) (fun n lsm ad aK hL hst => ai_bt (ai_b1 hst) trivial) (fun p l e R s mid args below meth c H locs cells slots Q lsm ad aK n hC hL hX k => lv_i2b hC.1 hC.2.1 d rfl k) kk
theorem rs_dup {v : Value} (d : decode M.2.1 pc = .ok (.dup, 1)) (hc : v.category = 1) (kk : ai_R M (pc + 1) ls (v :: v :: st) h r h') : ai_R M pc ls (v :: st) h r h' :=
  ai_st (st := v :: st) (st' := v :: v :: st) (fun n lsm ad aK hL hst => ai_bt hst (hst v List.mem_cons_self)) (fun p l e R s mid args below meth c H locs cells slots Q lsm ad aK n hC hL hX k => lv_dup hC.1 hC.2.1 d (by rw [ai_v_cat]; exact hc) k) kk
theorem rs_dup2 {v u : Value} (d : decode M.2.1 pc = .ok (.dup2, 1)) (hc : v.category = 1) (hu : u.category = 1) (kk : ai_R M (pc + 1) ls (v :: u :: v :: u :: st) h r h') : ai_R M pc ls (v :: u :: st) h r h' :=
  ai_st (st := v :: u :: st) (st' := v :: u :: v :: u :: st) (fun n lsm ad aK hL hst => ai_bt (ai_bt hst (hst u (List.mem_cons_of_mem _ List.mem_cons_self))) (hst v List.mem_cons_self)) (fun p l e R s mid args below meth c H locs cells slots Q lsm ad aK n hC hL hX k => lv_dup2_11 hC.1 hC.2.1 d (by rw [ai_v_cat]; exact hc) (by rw [ai_v_cat]; exact hu) k) kk
theorem rs_dup2l {v : Value} (d : decode M.2.1 pc = .ok (.dup2, 1)) (hc : v.category = 2) (kk : ai_R M (pc + 1) ls (v :: v :: st) h r h') : ai_R M pc ls (v :: st) h r h' :=
  ai_st (st := v :: st) (st' := v :: v :: st) (fun n lsm ad aK hL hst => ai_bt hst (hst v List.mem_cons_self)) (fun p l e R s mid args below meth c H locs cells slots Q lsm ad aK n hC hL hX k => lv_dup2_2 hC.1 hC.2.1 d (by rw [ai_v_cat]; exact hc) k) kk
theorem rs_pop {v : Value} (d : decode M.2.1 pc = .ok (.pop, 1)) (hc : v.category = 1) (kk : ai_R M (pc + 1) ls (st) h r h') : ai_R M pc ls (v :: st) h r h' :=
  ai_st (st := v :: st) (st' := st) (fun n lsm ad aK hL hst => ai_b1 hst) (fun p l e R s mid args below meth c H locs cells slots Q lsm ad aK n hC hL hX k => lv_pop hC.1 hC.2.1 d (by rw [ai_v_cat]; exact hc) k) kk
theorem rs_goto {off : Int} {tgt : Nat} (d : decode M.2.1 pc = .ok (.goto off, 3)) (ht : (pc : Int) + off = (tgt : Int)) (kk : ai_R M (tgt) ls (st) h r h') : ai_R M pc ls (st) h r h' :=
  ai_st (st := st) (st' := st) (fun n lsm ad aK hL hst => hst) (fun p l e R s mid args below meth c H locs cells slots Q lsm ad aK n hC hL hX k => lv_goto hC.1 hC.2.1 d ht k) kk
theorem rs_if_eq {x : Int32} {off : Int} {tgt : Nat} (d : decode M.2.1 pc = .ok (.ifCond .eq off, 3)) (ht : (pc : Int) + off = (tgt : Int)) (kt : (x = 0) → ai_R M tgt ls st h r h') (kf : ¬ (x = 0) → ai_R M (pc + 3) ls st h r h') : ai_R M pc ls (.int x :: st) h r h' := by
  by_cases hc : (x = 0)
  · exact ai_st (fun n lsm ad aK hL hst => ai_b1 hst) (fun p l e R s mid args below meth c H locs cells slots Q lsm ad aK n hC hL hX k => lv_if_eq hC.1 hC.2.1 d ht (fun _ => k) (fun z => absurd hc z)) (kt hc)
  · exact ai_st (fun n lsm ad aK hL hst => ai_b1 hst) (fun p l e R s mid args below meth c H locs cells slots Q lsm ad aK n hC hL hX k => lv_if_eq hC.1 hC.2.1 d ht (fun z => absurd z hc) (fun _ => k)) (kf hc)
theorem rs_if_ne {x : Int32} {off : Int} {tgt : Nat} (d : decode M.2.1 pc = .ok (.ifCond .ne off, 3)) (ht : (pc : Int) + off = (tgt : Int)) (kt : ¬ (x = 0) → ai_R M tgt ls st h r h') (kf : (x = 0) → ai_R M (pc + 3) ls st h r h') : ai_R M pc ls (.int x :: st) h r h' := by
  by_cases hc : (x = 0)
  · exact ai_st (fun n lsm ad aK hL hst => ai_b1 hst) (fun p l e R s mid args below meth c H locs cells slots Q lsm ad aK n hC hL hX k => lv_if_ne hC.1 hC.2.1 d ht (fun z => absurd hc z) (fun _ => k)) (kf hc)
  · exact ai_st (fun n lsm ad aK hL hst => ai_b1 hst) (fun p l e R s mid args below meth c H locs cells slots Q lsm ad aK n hC hL hX k => lv_if_ne hC.1 hC.2.1 d ht (fun _ => k) (fun z => absurd z hc)) (kt hc)
theorem rs_if_lt {x : Int32} {off : Int} {tgt : Nat} (d : decode M.2.1 pc = .ok (.ifCond .lt off, 3)) (ht : (pc : Int) + off = (tgt : Int)) (kt : (x < 0) → ai_R M tgt ls st h r h') (kf : ¬ (x < 0) → ai_R M (pc + 3) ls st h r h') : ai_R M pc ls (.int x :: st) h r h' := by
  by_cases hc : (x < 0)
  · exact ai_st (fun n lsm ad aK hL hst => ai_b1 hst) (fun p l e R s mid args below meth c H locs cells slots Q lsm ad aK n hC hL hX k => lv_if_lt hC.1 hC.2.1 d ht (fun _ => k) (fun z => absurd hc z)) (kt hc)
  · exact ai_st (fun n lsm ad aK hL hst => ai_b1 hst) (fun p l e R s mid args below meth c H locs cells slots Q lsm ad aK n hC hL hX k => lv_if_lt hC.1 hC.2.1 d ht (fun z => absurd z hc) (fun _ => k)) (kf hc)
theorem rs_if_ge {x : Int32} {off : Int} {tgt : Nat} (d : decode M.2.1 pc = .ok (.ifCond .ge off, 3)) (ht : (pc : Int) + off = (tgt : Int)) (kt : (0 ≤ x) → ai_R M tgt ls st h r h') (kf : ¬ (0 ≤ x) → ai_R M (pc + 3) ls st h r h') : ai_R M pc ls (.int x :: st) h r h' := by
  by_cases hc : (0 ≤ x)
  · exact ai_st (fun n lsm ad aK hL hst => ai_b1 hst) (fun p l e R s mid args below meth c H locs cells slots Q lsm ad aK n hC hL hX k => lv_if_ge hC.1 hC.2.1 d ht (fun _ => k) (fun z => absurd hc z)) (kt hc)
  · exact ai_st (fun n lsm ad aK hL hst => ai_b1 hst) (fun p l e R s mid args below meth c H locs cells slots Q lsm ad aK n hC hL hX k => lv_if_ge hC.1 hC.2.1 d ht (fun z => absurd z hc) (fun _ => k)) (kf hc)
theorem rs_if_gt {x : Int32} {off : Int} {tgt : Nat} (d : decode M.2.1 pc = .ok (.ifCond .gt off, 3)) (ht : (pc : Int) + off = (tgt : Int)) (kt : (0 < x) → ai_R M tgt ls st h r h') (kf : ¬ (0 < x) → ai_R M (pc + 3) ls st h r h') : ai_R M pc ls (.int x :: st) h r h' := by
  by_cases hc : (0 < x)
  · exact ai_st (fun n lsm ad aK hL hst => ai_b1 hst) (fun p l e R s mid args below meth c H locs cells slots Q lsm ad aK n hC hL hX k => lv_if_gt hC.1 hC.2.1 d ht (fun _ => k) (fun z => absurd hc z)) (kt hc)
  · exact ai_st (fun n lsm ad aK hL hst => ai_b1 hst) (fun p l e R s mid args below meth c H locs cells slots Q lsm ad aK n hC hL hX k => lv_if_gt hC.1 hC.2.1 d ht (fun z => absurd z hc) (fun _ => k)) (kf hc)
theorem rs_if_le {x : Int32} {off : Int} {tgt : Nat} (d : decode M.2.1 pc = .ok (.ifCond .le off, 3)) (ht : (pc : Int) + off = (tgt : Int)) (kt : (x ≤ 0) → ai_R M tgt ls st h r h') (kf : ¬ (x ≤ 0) → ai_R M (pc + 3) ls st h r h') : ai_R M pc ls (.int x :: st) h r h' := by
  by_cases hc : (x ≤ 0)
  · exact ai_st (fun n lsm ad aK hL hst => ai_b1 hst) (fun p l e R s mid args below meth c H locs cells slots Q lsm ad aK n hC hL hX k => lv_if_le hC.1 hC.2.1 d ht (fun _ => k) (fun z => absurd hc z)) (kt hc)
  · exact ai_st (fun n lsm ad aK hL hst => ai_b1 hst) (fun p l e R s mid args below meth c H locs cells slots Q lsm ad aK n hC hL hX k => lv_if_le hC.1 hC.2.1 d ht (fun z => absurd z hc) (fun _ => k)) (kf hc)
theorem rs_icmp_eq {x y : Int32} {off : Int} {tgt : Nat} (d : decode M.2.1 pc = .ok (.if_icmp .eq off, 3)) (ht : (pc : Int) + off = (tgt : Int)) (kt : (x = y) → ai_R M tgt ls st h r h') (kf : ¬ (x = y) → ai_R M (pc + 3) ls st h r h') : ai_R M pc ls (.int y :: .int x :: st) h r h' := by
  by_cases hc : (x = y)
  · exact ai_st (fun n lsm ad aK hL hst => ai_b2 hst) (fun p l e R s mid args below meth c H locs cells slots Q lsm ad aK n hC hL hX k => lv_icmp_eq hC.1 hC.2.1 d ht (fun _ => k) (fun z => absurd hc z)) (kt hc)
  · exact ai_st (fun n lsm ad aK hL hst => ai_b2 hst) (fun p l e R s mid args below meth c H locs cells slots Q lsm ad aK n hC hL hX k => lv_icmp_eq hC.1 hC.2.1 d ht (fun z => absurd z hc) (fun _ => k)) (kf hc)
theorem rs_icmp_ne {x y : Int32} {off : Int} {tgt : Nat} (d : decode M.2.1 pc = .ok (.if_icmp .ne off, 3)) (ht : (pc : Int) + off = (tgt : Int)) (kt : ¬ (x = y) → ai_R M tgt ls st h r h') (kf : (x = y) → ai_R M (pc + 3) ls st h r h') : ai_R M pc ls (.int y :: .int x :: st) h r h' := by
  by_cases hc : (x = y)
  · exact ai_st (fun n lsm ad aK hL hst => ai_b2 hst) (fun p l e R s mid args below meth c H locs cells slots Q lsm ad aK n hC hL hX k => lv_icmp_ne hC.1 hC.2.1 d ht (fun z => absurd hc z) (fun _ => k)) (kf hc)
  · exact ai_st (fun n lsm ad aK hL hst => ai_b2 hst) (fun p l e R s mid args below meth c H locs cells slots Q lsm ad aK n hC hL hX k => lv_icmp_ne hC.1 hC.2.1 d ht (fun _ => k) (fun z => absurd z hc)) (kt hc)
theorem rs_icmp_lt {x y : Int32} {off : Int} {tgt : Nat} (d : decode M.2.1 pc = .ok (.if_icmp .lt off, 3)) (ht : (pc : Int) + off = (tgt : Int)) (kt : (x < y) → ai_R M tgt ls st h r h') (kf : ¬ (x < y) → ai_R M (pc + 3) ls st h r h') : ai_R M pc ls (.int y :: .int x :: st) h r h' := by
  by_cases hc : (x < y)
  · exact ai_st (fun n lsm ad aK hL hst => ai_b2 hst) (fun p l e R s mid args below meth c H locs cells slots Q lsm ad aK n hC hL hX k => lv_icmp_lt hC.1 hC.2.1 d ht (fun _ => k) (fun z => absurd hc z)) (kt hc)
  · exact ai_st (fun n lsm ad aK hL hst => ai_b2 hst) (fun p l e R s mid args below meth c H locs cells slots Q lsm ad aK n hC hL hX k => lv_icmp_lt hC.1 hC.2.1 d ht (fun z => absurd z hc) (fun _ => k)) (kf hc)
theorem rs_icmp_ge {x y : Int32} {off : Int} {tgt : Nat} (d : decode M.2.1 pc = .ok (.if_icmp .ge off, 3)) (ht : (pc : Int) + off = (tgt : Int)) (kt : (y ≤ x) → ai_R M tgt ls st h r h') (kf : ¬ (y ≤ x) → ai_R M (pc + 3) ls st h r h') : ai_R M pc ls (.int y :: .int x :: st) h r h' := by
  by_cases hc : (y ≤ x)
  · exact ai_st (fun n lsm ad aK hL hst => ai_b2 hst) (fun p l e R s mid args below meth c H locs cells slots Q lsm ad aK n hC hL hX k => lv_icmp_ge hC.1 hC.2.1 d ht (fun _ => k) (fun z => absurd hc z)) (kt hc)
  · exact ai_st (fun n lsm ad aK hL hst => ai_b2 hst) (fun p l e R s mid args below meth c H locs cells slots Q lsm ad aK n hC hL hX k => lv_icmp_ge hC.1 hC.2.1 d ht (fun z => absurd z hc) (fun _ => k)) (kf hc)
theorem rs_icmp_gt {x y : Int32} {off : Int} {tgt : Nat} (d : decode M.2.1 pc = .ok (.if_icmp .gt off, 3)) (ht : (pc : Int) + off = (tgt : Int)) (kt : (y < x) → ai_R M tgt ls st h r h') (kf : ¬ (y < x) → ai_R M (pc + 3) ls st h r h') : ai_R M pc ls (.int y :: .int x :: st) h r h' := by
  by_cases hc : (y < x)
  · exact ai_st (fun n lsm ad aK hL hst => ai_b2 hst) (fun p l e R s mid args below meth c H locs cells slots Q lsm ad aK n hC hL hX k => lv_icmp_gt hC.1 hC.2.1 d ht (fun _ => k) (fun z => absurd hc z)) (kt hc)
  · exact ai_st (fun n lsm ad aK hL hst => ai_b2 hst) (fun p l e R s mid args below meth c H locs cells slots Q lsm ad aK n hC hL hX k => lv_icmp_gt hC.1 hC.2.1 d ht (fun z => absurd z hc) (fun _ => k)) (kf hc)
theorem rs_icmp_le {x y : Int32} {off : Int} {tgt : Nat} (d : decode M.2.1 pc = .ok (.if_icmp .le off, 3)) (ht : (pc : Int) + off = (tgt : Int)) (kt : (x ≤ y) → ai_R M tgt ls st h r h') (kf : ¬ (x ≤ y) → ai_R M (pc + 3) ls st h r h') : ai_R M pc ls (.int y :: .int x :: st) h r h' := by
  by_cases hc : (x ≤ y)
  · exact ai_st (fun n lsm ad aK hL hst => ai_b2 hst) (fun p l e R s mid args below meth c H locs cells slots Q lsm ad aK n hC hL hX k => lv_icmp_le hC.1 hC.2.1 d ht (fun _ => k) (fun z => absurd hc z)) (kt hc)
  · exact ai_st (fun n lsm ad aK hL hst => ai_b2 hst) (fun p l e R s mid args below meth c H locs cells slots Q lsm ad aK n hC hL hX k => lv_icmp_le hC.1 hC.2.1 d ht (fun z => absurd z hc) (fun _ => k)) (kf hc)
theorem rs_ifnull {q : Nat} {off : Int} (d : decode M.2.1 pc = .ok (.ifnull off, 3)) (kk : ai_R M (pc + 3) ls (st) h r h') : ai_R M pc ls (.ref q :: st) h r h' :=
  ai_st (st := .ref q :: st) (st' := st) (fun n lsm ad aK hL hst => ai_b1 hst) (fun p l e R s mid args below meth c H locs cells slots Q lsm ad aK n hC hL hX k => lv_ifnull hC.1 hC.2.1 d k) kk
theorem rs_ifnonnull {q : Nat} {off : Int} {tgt : Nat} (d : decode M.2.1 pc = .ok (.ifnonnull off, 3)) (ht : (pc : Int) + off = (tgt : Int)) (kk : ai_R M (tgt) ls (st) h r h') : ai_R M pc ls (.ref q :: st) h r h' :=
  ai_st (st := .ref q :: st) (st' := st) (fun n lsm ad aK hL hst => ai_b1 hst) (fun p l e R s mid args below meth c H locs cells slots Q lsm ad aK n hC hL hX k => lv_ifnonnull hC.1 hC.2.1 d ht k) kk
theorem rs_ifnullN {off : Int} {tgt : Nat} (d : decode M.2.1 pc = .ok (.ifnull off, 3)) (ht : (pc : Int) + off = (tgt : Int)) (kk : ai_R M (tgt) ls (st) h r h') : ai_R M pc ls (.null :: st) h r h' :=
  ai_st (st := .null :: st) (st' := st) (fun n lsm ad aK hL hst => ai_b1 hst) (fun p l e R s mid args below meth c H locs cells slots Q lsm ad aK n hC hL hX k => lv_ifnullN hC.1 hC.2.1 d ht k) kk
theorem rs_ifnonnullN {off : Int} (d : decode M.2.1 pc = .ok (.ifnonnull off, 3)) (kk : ai_R M (pc + 3) ls (st) h r h') : ai_R M pc ls (.null :: st) h r h' :=
  ai_st (st := .null :: st) (st' := st) (fun n lsm ad aK hL hst => ai_b1 hst) (fun p l e R s mid args below meth c H locs cells slots Q lsm ad aK n hC hL hX k => lv_ifnonnullN hC.1 hC.2.1 d k) kk
theorem rs_lookup {dflt : Int} {ps : Array (Int × Int)} {len : Nat} {x : Int32} {off : Int} {tgt : Nat} (d : decode M.2.1 pc = .ok (.lookupswitch dflt ps, len)) (hp : (ps.toList.zip (ps.toList.drop 1)).all (fun (a, next) => a.1 < next.1) = true) (ho : Op.lookupswitch.offset ps.toList dflt x.toInt = off) (ht : (pc : Int) + off = (tgt : Int)) (kk : ai_R M (tgt) ls (st) h r h') : ai_R M pc ls (.int x :: st) h r h' :=
  ai_st (st := .int x :: st) (st' := st) (fun n lsm ad aK hL hst => ai_b1 hst) (fun p l e R s mid args below meth c H locs cells slots Q lsm ad aK n hC hL hX k => lv_lookup hC.1 hC.2.1 d hp ho ht k) kk
theorem rs_tableIn {dflt lo hi : Int} {offs : Array Int} {len : Nat} {x : Int32} {off : Int} {tgt : Nat} (d : decode M.2.1 pc = .ok (.tableswitch dflt lo hi offs, len)) (h1 : ¬ x.toInt < lo) (h2 : ¬ hi < x.toInt) (ho : offs[(x.toInt - lo).toNat]? = some off) (ht : (pc : Int) + off = (tgt : Int)) (kk : ai_R M (tgt) ls (st) h r h') : ai_R M pc ls (.int x :: st) h r h' :=
  ai_st (st := .int x :: st) (st' := st) (fun n lsm ad aK hL hst => ai_b1 hst) (fun p l e R s mid args below meth c H locs cells slots Q lsm ad aK n hC hL hX k => lv_tableIn hC.1 hC.2.1 d h1 h2 ho ht k) kk
theorem rs_tableOut {dflt lo hi : Int} {offs : Array Int} {len : Nat} {x : Int32} {tgt : Nat} (d : decode M.2.1 pc = .ok (.tableswitch dflt lo hi offs, len)) (h1 : x.toInt < lo ∨ hi < x.toInt) (ht : (pc : Int) + dflt = (tgt : Int)) (kk : ai_R M (tgt) ls (st) h r h') : ai_R M pc ls (.int x :: st) h r h' :=
  ai_st (st := .int x :: st) (st' := st) (fun n lsm ad aK hL hst => ai_b1 hst) (fun p l e R s mid args below meth c H locs cells slots Q lsm ad aK n hC hL hX k => lv_tableOut hC.1 hC.2.1 d h1 ht k) kk
/-- a local's store: what stood there goes, and a long or double that reached into it -/
def ai_kill : Value → Value
  | .long _ => .float 0
  | .double _ => .float 0
  | v => v
def ai_s1 : List Value → Nat → Value → List Value
  | [], _, _ => []
  | _ :: l, 0, v => v :: l
  | a :: l, 1, v => ai_kill a :: l.set 0 v
  | a :: l, i + 2, v => a :: ai_s1 l (i + 1) v
def ai_s2 : List Value → Nat → Value → List Value
  | [], _, _ => []
  | _ :: l, 0, v => v :: l.set 0 (.float 0)
  | a :: l, 1, v => ai_kill a :: (l.set 0 v).set 1 (.float 0)
  | a :: l, i + 2, v => a :: ai_s2 l (i + 1) v
theorem ai_kill_ne {a v : Value} (h : ai_kill a = v) (hv : v ≠ .float 0) : a = v ∧ ¬ a.category = 2 := by
  cases a <;> first | exact absurd h.symm hv | exact ⟨h, by decide⟩ | exact ⟨h, fun q => by cases q⟩
theorem ai_s1_at {v w : Value} : ∀ (l : List Value) (i j : Nat), (ai_s1 l i v)[j]? = some w → w ≠ .float 0 → (j = i ∧ w = v) ∨ (l[j]? = some w ∧ ¬ j = i ∧ ¬ (j + 1 = i ∧ w.category = 2))
  | [], _, _, h, _ => by simp [ai_s1] at h
  | a :: l, 0, 0, h, _ => by simp [ai_s1] at h; exact Or.inl ⟨rfl, h.symm⟩
  | a :: l, 0, j + 1, h, _ => by simp [ai_s1] at h; exact Or.inr ⟨by simpa using h, by omega, by omega⟩
  | a :: l, 1, 0, h, hw => by
    simp [ai_s1] at h
    obtain ⟨e, hc⟩ := ai_kill_ne h hw
    exact Or.inr ⟨by simp [e], by omega, fun q => hc (by rw [e]; exact q.2)⟩
  | a :: l, 1, j + 1, h, _ => by
    simp only [ai_s1, List.getElem?_cons_succ, List.getElem?_set] at h
    by_cases hj : 0 = j
    · subst hj
      rw [if_pos rfl] at h
      split at h
      · exact Or.inl ⟨rfl, (Option.some.inj h).symm⟩
      · cases h
    · rw [if_neg hj] at h
      exact Or.inr ⟨by simpa using h, by omega, by omega⟩
  | a :: l, i + 2, 0, h, _ => by simp [ai_s1] at h; exact Or.inr ⟨by simp [h], by omega, by omega⟩
  | a :: l, i + 2, j + 1, h, hw => by
    simp only [ai_s1, List.getElem?_cons_succ] at h
    rcases ai_s1_at l (i + 1) j h hw with ⟨q1, q2⟩ | ⟨q1, q2, q3⟩
    · exact Or.inl ⟨by omega, q2⟩
    · exact Or.inr ⟨by simpa using q1, by omega, fun z => q3 ⟨by omega, z.2⟩⟩
theorem ai_s2_at {v w : Value} : ∀ (l : List Value) (i j : Nat), (ai_s2 l i v)[j]? = some w → w ≠ .float 0 → (j = i ∧ w = v) ∨ (l[j]? = some w ∧ ¬ j = i ∧ ¬ j = i + 1 ∧ ¬ (j + 1 = i ∧ w.category = 2))
  | [], _, _, h, _ => by simp [ai_s2] at h
  | a :: l, 0, 0, h, _ => by simp [ai_s2] at h; exact Or.inl ⟨rfl, h.symm⟩
  | a :: l, 0, j + 1, h, hw => by
    simp only [ai_s2, List.getElem?_cons_succ, List.getElem?_set] at h
    by_cases hj : 0 = j
    · subst hj
      rw [if_pos rfl] at h
      split at h
      · exact absurd (Option.some.inj h).symm hw
      · cases h
    · rw [if_neg hj] at h
      exact Or.inr ⟨by simpa using h, by omega, by omega, by omega⟩
  | a :: l, 1, 0, h, hw => by
    simp [ai_s2] at h
    obtain ⟨e, hc⟩ := ai_kill_ne h hw
    exact Or.inr ⟨by simp [e], by omega, by omega, fun q => hc (by rw [e]; exact q.2)⟩
  | a :: l, 1, j + 1, h, hw => by
    simp only [ai_s2, List.getElem?_cons_succ, List.getElem?_set] at h
    by_cases hj : 1 = j
    · subst hj
      rw [if_pos rfl] at h
      split at h
      · exact absurd (Option.some.inj h).symm hw
      · cases h
    · rw [if_neg hj] at h
      by_cases hj0 : 0 = j
      · subst hj0
        rw [if_pos rfl] at h
        split at h
        · exact Or.inl ⟨rfl, (Option.some.inj h).symm⟩
        · cases h
      · rw [if_neg hj0] at h
        exact Or.inr ⟨by simpa using h, by omega, by omega, by omega⟩
  | a :: l, i + 2, 0, h, _ => by simp [ai_s2] at h; exact Or.inr ⟨by simp [h], by omega, by omega, by omega⟩
  | a :: l, i + 2, j + 1, h, hw => by
    simp only [ai_s2, List.getElem?_cons_succ] at h
    rcases ai_s2_at l (i + 1) j h hw with ⟨q1, q2⟩ | ⟨q1, q2, q3, q4⟩
    · exact Or.inl ⟨by omega, q2⟩
    · exact Or.inr ⟨by simpa using q1, by omega, by omega, fun z => q4 ⟨by omega, z.2⟩⟩
/-- the pairs of a list of locals -/
def ai_pr (ad aK : Nat → Nat) (ls : List Value) : List (Nat × Value) := (List.range ls.length).filterMap (fun i => match ls[i]? with
  | some v => if v = .float 0 then none else some (i, ai_v ad aK v)
  | none => none)
theorem ai_pr_mem {ad aK : Nat → Nat} {ls : List Value} {i : Nat} {v : Value} (h : ls[i]? = some v) (hv : v ≠ .float 0) : (i, ai_v ad aK v) ∈ ai_pr ad aK ls := by
  refine List.mem_filterMap.mpr ⟨i, List.mem_range.mpr (List.getElem?_eq_some_iff.mp h).1, ?_⟩
  simp [h, hv]
theorem ai_pr_has {lsm : Array Slot} {nL n : Nat} {ad aK : Nat → Nat} {ls : List Value} (h : ai_L lsm nL n ad aK ls) : lv_has lsm nL (ai_pr ad aK ls) := by
  refine ⟨h.1, h.2.1, fun q hq => ?_⟩
  obtain ⟨i, -, hi⟩ := List.mem_filterMap.mp hq
  cases hx : ls[i]? with
  | none => rw [hx] at hi; cases hi
  | some v =>
    rw [hx] at hi
    by_cases hv : v = .float 0
    · simp [hv] at hi
    · simp [hv] at hi
      rw [← hi]
      exact (h.2.2 i v hx hv).1
theorem ai_L1 {lsm : Array Slot} {nL n i : Nat} {ad aK : Nat → Nat} {ls ls' : List Value} {v : Value} (h0 : ∀ (i : Nat) (v : Value), ls[i]? = some v → v ≠ .float 0 → ai_b n v) (hv : ai_b n v) (h : lv_has lsm nL ((i, ai_v ad aK v) :: (ai_pr ad aK ls).filter (fun q => !(q.1 == i) && !(q.1 + 1 == i && q.2.category == 2)))) (hl : ai_s1 ls i v = ls') : ai_L lsm nL n ad aK ls' := by
  refine ⟨h.1, h.2.1, fun j w hj hw => ?_⟩
  rw [← hl] at hj
  rcases ai_s1_at ls i j hj hw with ⟨q1, q2⟩ | ⟨q1, q2, q3⟩
  · subst q1; subst q2
    exact ⟨h.2.2 _ List.mem_cons_self, hv⟩
  · refine ⟨h.2.2 (j, ai_v ad aK w) (List.mem_cons_of_mem _ (List.mem_filter.mpr ⟨ai_pr_mem q1 hw, ?_⟩)), h0 j w q1 hw⟩
    simp only [Bool.and_eq_true, Bool.not_eq_true', beq_eq_false_iff_ne, ne_eq, Bool.and_eq_false_iff, ai_v_cat]
    refine ⟨q2, ?_⟩
    by_cases z : j + 1 = i
    · exact Or.inr fun y => q3 ⟨z, y⟩
    · exact Or.inl z
theorem ai_L2 {lsm : Array Slot} {nL n i : Nat} {ad aK : Nat → Nat} {ls ls' : List Value} {v : Value} (h0 : ∀ (i : Nat) (v : Value), ls[i]? = some v → v ≠ .float 0 → ai_b n v) (hv : ai_b n v) (h : lv_has lsm nL ((i, ai_v ad aK v) :: (ai_pr ad aK ls).filter (fun q => !(q.1 == i) && (!(q.1 == i + 1) && !(q.1 + 1 == i && q.2.category == 2))))) (hl : ai_s2 ls i v = ls') : ai_L lsm nL n ad aK ls' := by
  refine ⟨h.1, h.2.1, fun j w hj hw => ?_⟩
  rw [← hl] at hj
  rcases ai_s2_at ls i j hj hw with ⟨q1, q2⟩ | ⟨q1, q2, q2b, q3⟩
  · subst q1; subst q2
    exact ⟨h.2.2 _ List.mem_cons_self, hv⟩
  · refine ⟨h.2.2 (j, ai_v ad aK w) (List.mem_cons_of_mem _ (List.mem_filter.mpr ⟨ai_pr_mem q1 hw, ?_⟩)), h0 j w q1 hw⟩
    simp only [Bool.and_eq_true, Bool.not_eq_true', beq_eq_false_iff_ne, ne_eq, Bool.and_eq_false_iff, ai_v_cat]
    refine ⟨q2, q2b, ?_⟩
    by_cases z : j + 1 = i
    · exact Or.inr fun y => q3 ⟨z, y⟩
    · exact Or.inl z
theorem rs_istore_n {k : Fin 4} {x : Int32} {ls' : List Value} (d : decode M.2.1 pc = .ok (.istore_n k, 1)) (hn : (k : Nat) < M.2.2.1) (hl : ai_s1 ls (k : Nat) (.int x) = ls') (kk : ai_R M (pc + 1) ls' st h r h') : ai_R M pc ls (.int x :: st) h r h' := by
  refine ⟨kk.1, fun p l e s mid args below meth c dC dI cK aK aV ad0 c0 s0 A ad H locs lsm hC hG hL hst => ?_⟩
  exact lv_istore_n hC.1 hC.2.1 d rfl (ai_pr_has hL) hn rfl (fun lsm' hl' => kk.2 p l e s mid args below meth c dC dI cK aK aV ad0 c0 s0 A ad H locs lsm' hC hG (ai_L1 (fun i v a b => (hL.2.2 i v a b).2) (hst _ List.mem_cons_self) hl' hl) (ai_b1 hst))
theorem rs_istore {k : Nat} {x : Int32} {ls' : List Value} (d : decode M.2.1 pc = .ok (.istore k, 2)) (hn : k < M.2.2.1) (hl : ai_s1 ls k (.int x) = ls') (kk : ai_R M (pc + 2) ls' st h r h') : ai_R M pc ls (.int x :: st) h r h' := by
  refine ⟨kk.1, fun p l e s mid args below meth c dC dI cK aK aV ad0 c0 s0 A ad H locs lsm hC hG hL hst => ?_⟩
  exact lv_istore hC.1 hC.2.1 d (ai_pr_has hL) hn rfl (fun lsm' hl' => kk.2 p l e s mid args below meth c dC dI cK aK aV ad0 c0 s0 A ad H locs lsm' hC hG (ai_L1 (fun i v a b => (hL.2.2 i v a b).2) (hst _ List.mem_cons_self) hl' hl) (ai_b1 hst))
theorem rs_lstore_n {k : Fin 4} {x : Int64} {ls' : List Value} (d : decode M.2.1 pc = .ok (.lstore_n k, 1)) (hn : (k : Nat) + 1 < M.2.2.1) (hl : ai_s2 ls (k : Nat) (.long x) = ls') (kk : ai_R M (pc + 1) ls' st h r h') : ai_R M pc ls (.long x :: st) h r h' := by
  refine ⟨kk.1, fun p l e s mid args below meth c dC dI cK aK aV ad0 c0 s0 A ad H locs lsm hC hG hL hst => ?_⟩
  exact lv_lstore_n hC.1 hC.2.1 d rfl (ai_pr_has hL) hn rfl (fun lsm' hl' => kk.2 p l e s mid args below meth c dC dI cK aK aV ad0 c0 s0 A ad H locs lsm' hC hG (ai_L2 (fun i v a b => (hL.2.2 i v a b).2) (hst _ List.mem_cons_self) hl' hl) (ai_b1 hst))
theorem rs_lstore {k : Nat} {x : Int64} {ls' : List Value} (d : decode M.2.1 pc = .ok (.lstore k, 2)) (hn : k + 1 < M.2.2.1) (hl : ai_s2 ls k (.long x) = ls') (kk : ai_R M (pc + 2) ls' st h r h') : ai_R M pc ls (.long x :: st) h r h' := by
  refine ⟨kk.1, fun p l e s mid args below meth c dC dI cK aK aV ad0 c0 s0 A ad H locs lsm hC hG hL hst => ?_⟩
  exact lv_lstore hC.1 hC.2.1 d (ai_pr_has hL) hn rfl (fun lsm' hl' => kk.2 p l e s mid args below meth c dC dI cK aK aV ad0 c0 s0 A ad H locs lsm' hC hG (ai_L2 (fun i v a b => (hL.2.2 i v a b).2) (hst _ List.mem_cons_self) hl' hl) (ai_b1 hst))
theorem rs_astore_n {k : Fin 4} {q : Nat} {ls' : List Value} (d : decode M.2.1 pc = .ok (.astore_n k, 1)) (hn : (k : Nat) < M.2.2.1) (hl : ai_s1 ls (k : Nat) (.ref q) = ls') (kk : ai_R M (pc + 1) ls' st h r h') : ai_R M pc ls (.ref q :: st) h r h' := by
  refine ⟨kk.1, fun p l e s mid args below meth c dC dI cK aK aV ad0 c0 s0 A ad H locs lsm hC hG hL hst => ?_⟩
  exact lv_astore_n hC.1 hC.2.1 d rfl (ai_pr_has hL) hn rfl (fun lsm' hl' => kk.2 p l e s mid args below meth c dC dI cK aK aV ad0 c0 s0 A ad H locs lsm' hC hG (ai_L1 (fun i v a b => (hL.2.2 i v a b).2) (hst _ List.mem_cons_self) hl' hl) (ai_b1 hst))
theorem rs_astore {k : Nat} {q : Nat} {ls' : List Value} (d : decode M.2.1 pc = .ok (.astore k, 2)) (hn : k < M.2.2.1) (hl : ai_s1 ls k (.ref q) = ls') (kk : ai_R M (pc + 2) ls' st h r h') : ai_R M pc ls (.ref q :: st) h r h' := by
  refine ⟨kk.1, fun p l e s mid args below meth c dC dI cK aK aV ad0 c0 s0 A ad H locs lsm hC hG hL hst => ?_⟩
  exact lv_astore hC.1 hC.2.1 d (ai_pr_has hL) hn rfl (fun lsm' hl' => kk.2 p l e s mid args below meth c dC dI cK aK aV ad0 c0 s0 A ad H locs lsm' hC hG (ai_L1 (fun i v a b => (hL.2.2 i v a b).2) (hst _ List.mem_cons_self) hl' hl) (ai_b1 hst))
theorem rs_astore_nS {k : Fin 4} {q : Nat} {ls' : List Value} (d : decode M.2.1 pc = .ok (.astore_n k, 1)) (hn : (k : Nat) < M.2.2.1) (hl : ai_s1 ls (k : Nat) (.retAddr q) = ls') (kk : ai_R M (pc + 1) ls' st h r h') : ai_R M pc ls (.retAddr q :: st) h r h' := by
  refine ⟨kk.1, fun p l e s mid args below meth c dC dI cK aK aV ad0 c0 s0 A ad H locs lsm hC hG hL hst => ?_⟩
  exact lv_astore_n hC.1 hC.2.1 d rfl (ai_pr_has hL) hn rfl (fun lsm' hl' => kk.2 p l e s mid args below meth c dC dI cK aK aV ad0 c0 s0 A ad H locs lsm' hC hG (ai_L1 (fun i v a b => (hL.2.2 i v a b).2) (hst _ List.mem_cons_self) hl' hl) (ai_b1 hst))
theorem rs_astoreS {k : Nat} {q : Nat} {ls' : List Value} (d : decode M.2.1 pc = .ok (.astore k, 2)) (hn : k < M.2.2.1) (hl : ai_s1 ls k (.retAddr q) = ls') (kk : ai_R M (pc + 2) ls' st h r h') : ai_R M pc ls (.retAddr q :: st) h r h' := by
  refine ⟨kk.1, fun p l e s mid args below meth c dC dI cK aK aV ad0 c0 s0 A ad H locs lsm hC hG hL hst => ?_⟩
  exact lv_astore hC.1 hC.2.1 d (ai_pr_has hL) hn rfl (fun lsm' hl' => kk.2 p l e s mid args below meth c dC dI cK aK aV ad0 c0 s0 A ad H locs lsm' hC hG (ai_L1 (fun i v a b => (hL.2.2 i v a b).2) (hst _ List.mem_cons_self) hl' hl) (ai_b1 hst))
theorem rs_astore_nN {k : Fin 4}  {ls' : List Value} (d : decode M.2.1 pc = .ok (.astore_n k, 1)) (hn : (k : Nat) < M.2.2.1) (hl : ai_s1 ls (k : Nat) (.null) = ls') (kk : ai_R M (pc + 1) ls' st h r h') : ai_R M pc ls (.null :: st) h r h' := by
  refine ⟨kk.1, fun p l e s mid args below meth c dC dI cK aK aV ad0 c0 s0 A ad H locs lsm hC hG hL hst => ?_⟩
  exact lv_astore_nN hC.1 hC.2.1 d rfl (ai_pr_has hL) hn rfl (fun lsm' hl' => kk.2 p l e s mid args below meth c dC dI cK aK aV ad0 c0 s0 A ad H locs lsm' hC hG (ai_L1 (fun i v a b => (hL.2.2 i v a b).2) (hst _ List.mem_cons_self) hl' hl) (ai_b1 hst))
theorem rs_astoreN {k : Nat}  {ls' : List Value} (d : decode M.2.1 pc = .ok (.astore k, 2)) (hn : k < M.2.2.1) (hl : ai_s1 ls k (.null) = ls') (kk : ai_R M (pc + 2) ls' st h r h') : ai_R M pc ls (.null :: st) h r h' := by
  refine ⟨kk.1, fun p l e s mid args below meth c dC dI cK aK aV ad0 c0 s0 A ad H locs lsm hC hG hL hst => ?_⟩
  exact lv_astoreN hC.1 hC.2.1 d (ai_pr_has hL) hn rfl (fun lsm' hl' => kk.2 p l e s mid args below meth c dC dI cK aK aV ad0 c0 s0 A ad H locs lsm' hC hG (ai_L1 (fun i v a b => (hL.2.2 i v a b).2) (hst _ List.mem_cons_self) hl' hl) (ai_b1 hst))
theorem rs_iinc {k : Nat} {n : Int} {x v : Int32} {ls' : List Value} (d : decode M.2.1 pc = .ok (.iinc k n, 3)) (hn : k < M.2.2.1) (hx : ls[k]? = some (.int x)) (hv : x + Int32.ofInt n = v) (hl : ai_s1 ls k (.int v) = ls') (kk : ai_R M (pc + 3) ls' st h r h') : ai_R M pc ls st h r h' := by
  refine ⟨kk.1, fun p l e s mid args below meth c dC dI cK aK aV ad0 c0 s0 A ad H locs lsm hC hG hL hst => ?_⟩
  obtain ⟨j, hj⟩ := List.getElem?_of_mem (ai_pr_mem (ad := ad) (aK := aK) hx (by intro q; cases q))
  exact lv_iinc hC.1 hC.2.1 d (ai_pr_has hL) hj hv hn rfl (fun lsm' hl' => kk.2 p l e s mid args below meth c dC dI cK aK aV ad0 c0 s0 A ad H locs lsm' hC hG (ai_L1 (v := .int v) (fun i v a b => (hL.2.2 i v a b).2) trivial hl' hl) hst)
end STEPS
