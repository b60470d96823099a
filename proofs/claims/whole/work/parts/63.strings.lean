/-! 63: string constants: their fields, their bytes; String.length, charAt -/
theorem sl_val : Cond.fieldLink "java/lang/String" 9 "java/lang/String" "value" "[B" ∈ ai_T := (ai_in8 103 rfl rfl)
theorem sl_cod : Cond.fieldLink "java/lang/String" 15 "java/lang/String" "coder" "B" ∈ ai_T := (ai_in8 104 rfl rfl)
theorem sl_cmp : Cond.fieldLink "java/lang/String" 38 "java/lang/String" "COMPACT_STRINGS" "Z" ∈ ai_T := (ai_in3 43 rfl rfl)
theorem sl_fmt : Cond.fieldLink "java/lang/String" 1053 "jdk/internal/util/Preconditions" "SIOOBE_FORMATTER" "Ljava/util/function/BiFunction;" ∈ ai_T := (ai_in3 59 rfl rfl)
theorem va_ldcwS {p : Program} {l : Launch} {e : Env} {R : Room} {s : State} {m : MethodId} {args : Array Value} {below : List Frame} {meth : Method} {c : Code} {H : Heap} {locs : List Loc} {cells slots : Nat} {Q : State → Prop} {pc : Nat} {ls : Array Slot} {rest : List Value} {cc : ByteArray} (hexec : p.tables.exec = Jvm.exec) (hb : c.code = cc) {own tx : String} {index q : Nat} (hown : s.vm.findClass own = some m.cls) (hZ : vk_R own index tx q s) (hdg : decode cc pc = .ok (.ldc_w index, 3))
    (k : W p l e R s m args below meth c H locs cells slots Q (F0 m (pc + 3) ls (.ref q :: rest))) : W p l e R s m args below meth c H locs cells slots Q (F0 m pc ls rest) := by
  intro T hT X
  obtain ⟨t, a1, b1⟩ := k T hT X
  refine ⟨t, ?_, b1⟩
  obtain ⟨kc, cf, i, a', hk, hcf, hcp, -, hr, hev'⟩ := Cond.stringRef_spec (args := #[]) hown hZ.1
  have ea : q = a' := by
    have := hZ.2.symm.trans hev'
    cases this
    rfl
  subst ea
  obtain ⟨k', hk', he⟩ := X.warmed.alike.2.2 _ _ hk
  have hr' : k'.resolved[index]? = some (some (.string q)) := by
    rcases X.warmed.entry hk hk' index with h | ⟨h, -⟩
    · rw [h]; exact hr
    · rw [hr] at h; cases h
  have hdg' : decode c.code (F0 m pc ls rest).pc = .ok (.ldc_w index, 3) := by rw [hb]; exact hdg
  jvm_step X.here [hexec, hdg', ldc_w.wp_string (e := e) (s := T) (f := F0 m pc ls rest) X.here.top hk' (by rw [he]; exact hcf) hcp hr']
  exact a1
section STRS
variable {M : ai_M} {pc : Nat} {ls st : List Value} {h h' : ai_H} {r : Option Value}
theorem rs_ldcwS {i j : Nat} {tx : String} (d : decode M.2.1 pc = .ok (.ldc_w i, 3)) (hw : (M.1.cls, i, tx, j) ∈ ai_sx) (kk : ai_R M (pc + 3) ls (.retAddr j :: st) h r h') : ai_R M pc ls (st) h r h' :=
  ai_st (st := st) (st' := .retAddr j :: st) (fun n lsm ad aK _ hst => ai_bt hst trivial) (fun p l e R s mid args below meth c H locs cells slots Q lsm ad aK n hC hL hX k => va_ldcwS hC.1 hC.2.1 hC.2.2.2.2.1 (hX _ hw) d k) kk
theorem rs_i2c {x : Int32} (d : decode M.2.1 pc = .ok (.i2c, 1)) (kk : ai_R M (pc + 1) ls (.int (x.toUInt32 % 65536).toInt32 :: st) h r h') : ai_R M pc ls (.int x :: st) h r h' :=
  ai_st (st := .int x :: st) (st' := .int (x.toUInt32 % 65536).toInt32 :: st) (fun n lsm ad aK hL hst => ai_bt (ai_b1 hst) trivial) (fun p l e R s mid args below meth c H locs cells slots Q lsm ad aK n hC hL hX k => lv_i2c hC.1 hC.2.1 d rfl k) kk
theorem rs_nret {x : Int32} {ty : FieldType} (d : decode M.2.1 pc = .ok (.ireturn, 1)) (hr : M.2.2.2.1 = some ty) (hn : narrow ty (.int x) = .int x) (ht : ty = .char ∨ ty = .byte) : ai_R M pc ls [.int x] h (some (.int x)) h := by
  refine ⟨⟨Nat.le_refl _, Nat.le_refl _⟩, fun p l e s mid args below meth c dC dI cK aK aV ad0 c0 s0 A ad H locs lsm hC hG hL hst => ?_⟩
  obtain ⟨hK, hN, hZ, hP, hD, hS, hA, hc, hag, hwf⟩ := hG
  rcases ht with rfl | rfl
  · exact W.zret (ty := .char) hC.1 hC.2.1 (hC.2.2.1.trans hr) hn (fun t ht hW => ⟨⟨ad, hag, rfl, by rw [ht]; exact hP, hD, hwf, fun v hv => by cases hv; trivial⟩, hS.F ht⟩) hS.2.2 d hC.2.2.2.2.2.2.1
  · exact W.zret (ty := .byte) hC.1 hC.2.1 (hC.2.2.1.trans hr) hn (fun t ht hW => ⟨⟨ad, hag, rfl, by rw [ht]; exact hP, hD, hwf, fun v hv => by cases hv; trivial⟩, hS.F ht⟩) hS.2.2 d hC.2.2.2.2.2.2.1
theorem rs_sval {idx j : Nat} (d : decode M.2.1 pc = .ok (.getfield idx, 3)) (hw : Cond.fieldLink M.1.cls idx "java/lang/String" "value" "[B" ∈ ai_T) (hj : j < 15) (kk : ai_R M (pc + 3) ls (.retAddr (15 + j) :: st) h r h') : ai_R M pc ls (.retAddr j :: st) h r h' := by
  refine ⟨kk.1, fun p l e s mid args below meth c dC dI cK aK aV ad0 c0 s0 A ad H locs lsm hC hG hL hst => ?_⟩
  have key := kk.2 p l e s mid args below meth c dC dI cK aK aV ad0 c0 s0 A ad H locs lsm hC hG hL (ai_bt (ai_b1 hst) trivial)
  have hE := (hG.2.2.1.2.1.1 j hj).2.2.1
  rw [hG.2.2.1.2.2.2.2 j hj] at hE
  exact vk_getf hC.1 hC.2.1 hE hG.2.2.2.2.2.1 hC.2.2.2.2.1 (hC.2.2.2.2.2.1 _ hw) (fun _ z => z) d key
theorem rs_scod {idx j : Nat} (d : decode M.2.1 pc = .ok (.getfield idx, 3)) (hw : Cond.fieldLink M.1.cls idx "java/lang/String" "coder" "B" ∈ ai_T) (hj : j < 15) (kk : ai_R M (pc + 3) ls (.int 0 :: st) h r h') : ai_R M pc ls (.retAddr j :: st) h r h' := by
  refine ⟨kk.1, fun p l e s mid args below meth c dC dI cK aK aV ad0 c0 s0 A ad H locs lsm hC hG hL hst => ?_⟩
  have key := kk.2 p l e s mid args below meth c dC dI cK aK aV ad0 c0 s0 A ad H locs lsm hC hG hL (ai_bt (ai_b1 hst) trivial)
  exact vk_getf hC.1 hC.2.1 (hG.2.2.1.2.1.1 j hj).2.1 hG.2.2.2.2.2.1 hC.2.2.2.2.1 (hC.2.2.2.2.2.1 _ hw) (fun _ z => z) d key
theorem rs_scmp {idx : Nat} (d : decode M.2.1 pc = .ok (.getstatic idx, 3)) (hw : Cond.fieldLink M.1.cls idx "java/lang/String" "COMPACT_STRINGS" "Z" ∈ ai_T) (kk : ai_R M (pc + 3) ls (.int 1 :: st) h r h') : ai_R M pc ls st h r h' := by
  refine ⟨kk.1, fun p l e s mid args below meth c dC dI cK aK aV ad0 c0 s0 A ad H locs lsm hC hG hL hst => ?_⟩
  have key := kk.2 p l e s mid args below meth c dC dI cK aK aV ad0 c0 s0 A ad H locs lsm hC hG hL (ai_bt hst trivial)
  exact va_gets hC.1 hC.2.1 hG.2.2.1.2.2.1 hG.2.2.2.2.2.1 hC.2.2.2.2.1 (hC.2.2.2.2.2.1 _ hw) (fun _ z => z) d key
theorem rs_sfmt {idx : Nat} (d : decode M.2.1 pc = .ok (.getstatic idx, 3)) (hw : Cond.fieldLink M.1.cls idx "jdk/internal/util/Preconditions" "SIOOBE_FORMATTER" "Ljava/util/function/BiFunction;" ∈ ai_T) (kk : ai_R M (pc + 3) ls (.retAddr 30 :: st) h r h') (kn : ai_R M (pc + 3) ls (.null :: st) h r h') : ai_R M pc ls st h r h' := by
  refine ⟨kk.1, fun p l e s mid args below meth c dC dI cK aK aV ad0 c0 s0 A ad H locs lsm hC hG hL hst => ?_⟩
  rcases hG.2.2.1.2.2.2.1 with hz | hz
  · have key := kn.2 p l e s mid args below meth c dC dI cK aK aV ad0 c0 s0 A ad H locs lsm hC hG hL (ai_bt hst trivial)
    exact va_gets hC.1 hC.2.1 hz hG.2.2.2.2.2.1 hC.2.2.2.2.1 (hC.2.2.2.2.2.1 _ hw) (fun _ z => z) d key
  · have key := kk.2 p l e s mid args below meth c dC dI cK aK aV ad0 c0 s0 A ad H locs lsm hC hG hL (ai_bt hst trivial)
    exact va_gets hC.1 hC.2.1 hz hG.2.2.2.2.2.1 hC.2.2.2.2.1 (hC.2.2.2.2.2.1 _ hw) (fun _ z => z) d key
theorem rs_slen {j : Nat} (d : decode M.2.1 pc = .ok (.arraylength, 1)) (hj : j < 15) (kk : ai_R M (pc + 1) ls (.int (nI (ai_sl.getD j 0)) :: st) h r h') : ai_R M pc ls (.retAddr (15 + j) :: st) h r h' := by
  refine ⟨kk.1, fun p l e s mid args below meth c dC dI cK aK aV ad0 c0 s0 A ad H locs lsm hC hG hL hst => ?_⟩
  have key := kk.2 p l e s mid args below meth c dC dI cK aK aV ad0 c0 s0 A ad H locs lsm hC hG hL (ai_bt (ai_b1 hst) trivial)
  have hT := (hG.2.2.1.2.1.1 j hj).2.2.2
  rw [hG.2.2.1.2.2.2.2 j hj] at hT
  exact va_tlen hC.1 hC.2.1 hT hG.2.2.2.2.2.1 rfl d key
theorem rs_sbal {j : Nat} {i : Int32} (d : decode M.2.1 pc = .ok (.baload, 1)) (hj : j < 15) (hin : vp_in i (ai_sl.getD j 0)) (kk : ai_R M (pc + 1) ls (.int ((ai_sb.getD j []).getD i.toNatClampNeg 0) :: st) h r h') : ai_R M pc ls (.int i :: .retAddr (15 + j) :: st) h r h' := by
  refine ⟨kk.1, fun p l e s mid args below meth c dC dI cK aK aV ad0 c0 s0 A ad H locs lsm hC hG hL hst => ?_⟩
  have key := kk.2 p l e s mid args below meth c dC dI cK aK aV ad0 c0 s0 A ad H locs lsm hC hG hL (ai_bt (ai_b2 hst) trivial)
  have hT := (hG.2.2.1.2.1.1 j hj).2.2.2
  rw [hG.2.2.1.2.2.2.2 j hj] at hT
  exact va_tb hC.1 hC.2.1 hT hG.2.2.2.2.2.1 hin rfl d key
theorem rs_callVS {idx n j : Nat} {N : ai_M} {as : List Value} {rv : Option Value} {h1 : ai_H} (d : decode M.2.1 pc = .ok (.invokevirtual idx, 3)) (hMK : ai_MK N n) (hl : ai_ML M.1.cls idx N.1) (hin : Cond.instanceMethod N.1 ∈ ai_T) (hsel : Cond.selects N.1.cls N.1 N.1 ∈ ai_T) (hcls : N.1.cls = "java/lang/String") (hj : j < 15) (hn : as.length = n) (hfit : ai_fits N M = true) (hW : (st.map fun v => v.category).sum ≤ 8) (hc : ai_Met N (.retAddr j :: as) h rv h1) (kk : ai_R M (pc + 3) ls (rv.toList ++ st) h1 r h') : ai_R M pc ls (as.reverse ++ .retAddr j :: st) h r h' := by
  have m1 := hc.1
  have m2 := kk.1
  refine ⟨⟨by omega, by omega⟩, fun p l e s mid args below meth c dC dI cK aK aV ad0 c0 s0 A ad H locs lsm hC hG hL hst => ?_⟩
  have hcc := hG.2.2.2.2.2.2.2.1
  have hT := hC.2.2.2.2.2.1
  have hR := of_decide_eq_true hfit
  have hst1 : ∀ w ∈ st, ai_b h.1 w := fun w hw => hst w (by simp [hw])
  have hstA : ∀ v ∈ Value.retAddr j :: as, ai_b h.1 v := fun v hv => by
    rcases List.mem_cons.mp hv with rfl | hv
    · trivial
    · exact hst v (by simp [hv])
  have hM := hc.2 l dC dI cK aK aV ad H.size hG.2.2.2.2.2.2.2.2.2 hstA
  have hpv : PreV s H N.1.cls (aK j) (ai_Pc dC dI cK aK aV ad H.size (.retAddr j :: as) h) (as.map (ai_v ad aK)) := ⟨ai_pc_blind, by rw [hcls]; exact vk_recv hG.2.2.1.2.1 hj hG.2.2.2.2.2.1, ai_pre hG⟩
  have hsk : ((as.reverse ++ .retAddr j :: st).map (ai_v ad aK)) = (as.map (ai_v ad aK)).reverse ++ .ref (aK j) :: st.map (ai_v ad aK) := by
    rw [List.map_append, List.map_reverse]; rfl
  have hlen : (as.map (ai_v ad aK)).length = n := by rw [List.length_map]; exact hn
  have hWm : 2 * (F0 mid pc lsm ((as.reverse ++ .retAddr j :: st).map (ai_v ad aK))).monitorRoom + ((st.map (ai_v ad aK)).map fun v => v.category).sum ≤ 8 := by
    rw [ai_cat_sum]
    exact lv_room (m := mid) (pc := pc) (ls := lsm) (rest := (as.reverse ++ .retAddr j :: st).map (ai_v ad aK)) hW
  have hfr : h.1 - c0 + (h1.1 - h.1) ≤ h'.1 - c0 ∧ h.2.1 - s0 + (h1.2.1 - h.2.1) ≤ h'.2.1 - s0 := ⟨by omega, by omega⟩
  refine ai_go (st := st) (rv := rv) (h1 := h1) (as := as) m1 kk hC hG hL hst1 (a := (.ref (aK j) :: as.map (ai_v ad aK)).toArray) ?_
  rcases hl with hl | ⟨host, hl⟩
  · exact va_runV (cc := M.2.1) (nL := M.2.2.1) (Ts := ai_T) (own := M.1.cls) (As := as.map (ai_v ad aK)) (rest := st.map (ai_v ad aK)) ⟨hC.1, hC.2.1, hC.2.2.2.1, hC.2.2.2.2.1, hT⟩ hM ⟨callB_of n hT (ai_good hMK) rfl rfl rfl (hT _ hMK.2.1) (hT _ hl) hMK.2.2 hR, hT _ hin, hT _ hsel⟩ hpv rfl hlen hL.1 hsk hWm d hfr
  · exact va_runVN (cc := M.2.1) (nL := M.2.2.1) (Ts := ai_T) (own := M.1.cls) (As := as.map (ai_v ad aK)) (rest := st.map (ai_v ad aK)) ⟨hC.1, hC.2.1, hC.2.2.2.1, hC.2.2.2.2.1, hT⟩ hM ⟨va_cnB n hT (ai_good hMK) rfl rfl rfl (hG.2.1.1 _ hl) (hT _ hMK.2.1) hMK.2.2 hR, hT _ hin, hT _ hsel⟩ hpv rfl hlen hL.1 hsk hWm d hfr
end STRS
def sby (j i : Nat) : Int32 := (ai_sb.getD j []).getD i 0
theorem sl_ok : ∀ j, j < 15 → ai_sl.getD j 0 ≤ 6 := by decide
theorem sb_ok : ∀ j, j < 15 → ∀ i, i < 6 → ((sby j i &&& 255).toUInt32 % 65536).toInt32 = sby j i := by decide +kernel
theorem nar_c (x : Int32) : narrow .char (.int x) = .int x.toUInt32.toUInt16.toUInt32.toInt32 := rfl
theorem sb_nar : ∀ j, j < 15 → ∀ i, i < 6 → (sby j i).toUInt32.toUInt16.toUInt32.toInt32 = sby j i := by decide +kernel
