/-! 63: string constants: their fields, their bytes; String.length, charAt -/
theorem sl_val : Cond.fieldLink "java/lang/String" 9 "java/lang/String" "value" "[B" ∈ ai_T := (ai_in8 84 rfl rfl)
theorem sl_cod : Cond.fieldLink "java/lang/String" 15 "java/lang/String" "coder" "B" ∈ ai_T := (ai_in8 85 rfl rfl)
theorem sl_cmp : Cond.fieldLink "java/lang/String" 38 "java/lang/String" "COMPACT_STRINGS" "Z" ∈ ai_T := (ai_in3 35 rfl rfl)
theorem sl_fmt : Cond.fieldLink "java/lang/String" 1053 "jdk/internal/util/Preconditions" "SIOOBE_FORMATTER" "Ljava/util/function/BiFunction;" ∈ ai_T := (ai_in3 51 rfl rfl)
theorem va_ldcwS {p : Program} {l : Launch} {e : Env} {R : Room} {s : State} {m : MethodId} {args : Array Value} {below : List Frame} {meth : Method} {c : Code} {H : Heap} {locs : List Loc} {cells slots : Nat} {Q : State → Prop} {pc : Nat} {ls : Array Slot} {rest : List Value} {cc : ByteArray} (hexec : p.tables.exec = Jvm.exec) (hb : c.code = cc) {own tx : String} {index q : Nat} (hown : s.vm.findClass own = some m.cls) (hZ : vk_R own index tx q s) (hdg : decode cc pc = .ok (.ldc_w index, 3))
    (k : W p l e R s m args below meth c H locs cells slots Q (F0 m (pc + 3) ls (.ref q :: rest))) : W p l e R s m args below meth c H locs cells slots Q (F0 m pc ls rest) := by
  intro T hT X
  obtain ⟨t, a1, b1⟩ := k T hT X
  refine ⟨t, ?_, b1⟩
  obtain ⟨kc, cf, i, a', hk, hcf, hcp, -, hr, hev'⟩ := Cond.stringRef_spec (args := #[]) hown hZ.1
  have ea : q = a' := by
    have := hZ.2.symm.trans hev'
    cases this
    rfl
  subst ea
  obtain ⟨k', hk', he⟩ := X.warmed.alike.2.2 _ _ hk
  have hr' : k'.resolved[index]? = some (some (.string q)) := by
    rcases X.warmed.entry hk hk' index with h | ⟨h, -⟩
    · rw [h]; exact hr
    · rw [hr] at h; cases h
  have hdg' : decode c.code (F0 m pc ls rest).pc = .ok (.ldc_w index, 3) := by rw [hb]; exact hdg
  jvm_step X.here [hexec, hdg', ldc_w.wp_string (e := e) (s := T) (f := F0 m pc ls rest) X.here.top hk' (by rw [he]; exact hcf) hcp hr']
  exact a1
section STRS
variable {M : ai_M} {pc : Nat} {ls st : List Value} {h h' : ai_H} {r : Option Value}
theorem rs_ldcwS {i j : Nat} {tx : String} (d : decode M.2.1 pc = .ok (.ldc_w i, 3)) (hw : (M.1.cls, i, tx, j) ∈ ai_sx) (kk : ai_R M (pc + 3) ls (.retAddr j :: st) h r h') : ai_R M pc ls (st) h r h' :=
  ai_st (st := st) (st' := .retAddr j :: st) (fun n lsm ad aK _ hst => ai_bt hst trivial) (fun p l e R s mid args below meth c H locs cells slots Q lsm ad aK n hC hL hX k => va_ldcwS hC.1 hC.2.1 hC.2.2.2.2.1 (hX _ hw) d k) kk
theorem rs_i2c {x : Int32} (d : decode M.2.1 pc = .ok (.i2c, 1)) (kk : ai_R M (pc + 1) ls (.int (x.toUInt32 % 65536).toInt32 :: st) h r h') : ai_R M pc ls (.int x :: st) h r h' :=
  ai_st (st := .int x :: st) (st' := .int (x.toUInt32 % 65536).toInt32 :: st) (fun n lsm ad aK hL hst => ai_bt (ai_b1 hst) trivial) (fun p l e R s mid args below meth c H locs cells slots Q lsm ad aK n hC hL hX k => lv_i2c hC.1 hC.2.1 d rfl k) kk
theorem rs_nret {x : Int32} {ty : FieldType} (d : decode M.2.1 pc = .ok (.ireturn, 1)) (hr : M.2.2.2.1 = some ty) (hn : narrow ty (.int x) = .int x) (ht : ty = .char ∨ ty = .byte) : ai_R M pc ls [.int x] h (some (.int x)) h := by
  refine ⟨⟨Nat.le_refl _, Nat.le_refl _⟩, fun p l e s mid args below meth c dC dI cK aK aV ad0 c0 s0 A ad H locs lsm hC hG hL hst => ?_⟩
  obtain ⟨hK, hN, hZ, hP, hD, hS, hA, hc, hag, hwf⟩ := hG
  rcases ht with rfl | rfl
  · exact W.zret (ty := .char) hC.1 hC.2.1 (hC.2.2.1.trans hr) hn (fun t ht hW => ⟨⟨ad, hag, rfl, by rw [ht]; exact hP, hD, hwf, fun v hv => by cases hv; trivial⟩, hS.F ht⟩) hS.2.2 d hC.2.2.2.2.2.2.1
  · exact W.zret (ty := .byte) hC.1 hC.2.1 (hC.2.2.1.trans hr) hn (fun t ht hW => ⟨⟨ad, hag, rfl, by rw [ht]; exact hP, hD, hwf, fun v hv => by cases hv; trivial⟩, hS.F ht⟩) hS.2.2 d hC.2.2.2.2.2.2.1
theorem rs_sval {idx j : Nat} (d : decode M.2.1 pc = .ok (.getfield idx, 3)) (hw : Cond.fieldLink M.1.cls idx "java/lang/String" "value" "[B" ∈ ai_T) (hj : j < 15) (kk : ai_R M (pc + 3) ls (.retAddr (15 + j) :: st) h r h') : ai_R M pc ls (.retAddr j :: st) h r h' := by
  refine ⟨kk.1, fun p l e s mid args below meth c dC dI cK aK aV ad0 c0 s0 A ad H locs lsm hC hG hL hst => ?_⟩
  have key := kk.2 p l e s mid args below meth c dC dI cK aK aV ad0 c0 s0 A ad H locs lsm hC hG hL (ai_bt (ai_b1 hst) trivial)
  have hE := (hG.2.2.1.2.1.1 j hj).2.2.1
  rw [hG.2.2.1.2.2.2.2 j hj] at hE
  exact vk_getf hC.1 hC.2.1 hE hG.2.2.2.2.2.1 hC.2.2.2.2.1 (hC.2.2.2.2.2.1 _ hw) (fun _ z => z) d key
theorem rs_scod {idx j : Nat} (d : decode M.2.1 pc = .ok (.getfield idx, 3)) (hw : Cond.fieldLink M.1.cls idx "java/lang/String" "coder" "B" ∈ ai_T) (hj : j < 15) (kk : ai_R M (pc + 3) ls (.int 0 :: st) h r h') : ai_R M pc ls (.retAddr j :: st) h r h' := by
  refine ⟨kk.1, fun p l e s mid args below meth c dC dI cK aK aV ad0 c0 s0 A ad H locs lsm hC hG hL hst => ?_⟩
  have key := kk.2 p l e s mid args below meth c dC dI cK aK aV ad0 c0 s0 A ad H locs lsm hC hG hL (ai_bt (ai_b1 hst) trivial)
  exact vk_getf hC.1 hC.2.1 (hG.2.2.1.2.1.1 j hj).2.1 hG.2.2.2.2.2.1 hC.2.2.2.2.1 (hC.2.2.2.2.2.1 _ hw) (fun _ z => z) d key
theorem rs_scmp {idx : Nat} (d : decode M.2.1 pc = .ok (.getstatic idx, 3)) (hw : Cond.fieldLink M.1.cls idx "java/lang/String" "COMPACT_STRINGS" "Z" ∈ ai_T) (kk : ai_R M (pc + 3) ls (.int 1 :: st) h r h') : ai_R M pc ls st h r h' := by
  refine ⟨kk.1, fun p l e s mid args below meth c dC dI cK aK aV ad0 c0 s0 A ad H locs lsm hC hG hL hst => ?_⟩
  have key := kk.2 p l e s mid args below meth c dC dI cK aK aV ad0 c0 s0 A ad H locs lsm hC hG hL (ai_bt hst trivial)
  exact va_gets hC.1 hC.2.1 hG.2.2.1.2.2.1 hG.2.2.2.2.2.1 hC.2.2.2.2.1 (hC.2.2.2.2.2.1 _ hw) (fun _ z => z) d key
theorem rs_sfmt {idx : Nat} (d : decode M.2.1 pc = .ok (.getstatic idx, 3)) (hw : Cond.fieldLink M.1.cls idx "jdk/internal/util/Preconditions" "SIOOBE_FORMATTER" "Ljava/util/function/BiFunction;" ∈ ai_T) (kk : ai_R M (pc + 3) ls (.retAddr 30 :: st) h r h') : ai_R M pc ls st h r h' := by
  refine ⟨kk.1, fun p l e s mid args below meth c dC dI cK aK aV ad0 c0 s0 A ad H locs lsm hC hG hL hst => ?_⟩
  have key := kk.2 p l e s mid args below meth c dC dI cK aK aV ad0 c0 s0 A ad H locs lsm hC hG hL (ai_bt hst trivial)
  exact va_gets hC.1 hC.2.1 hG.2.2.1.2.2.2.1 hG.2.2.2.2.2.1 hC.2.2.2.2.1 (hC.2.2.2.2.2.1 _ hw) (fun _ z => z) d key
theorem rs_slen {j : Nat} (d : decode M.2.1 pc = .ok (.arraylength, 1)) (hj : j < 15) (kk : ai_R M (pc + 1) ls (.int (nI (ai_sl.getD j 0)) :: st) h r h') : ai_R M pc ls (.retAddr (15 + j) :: st) h r h' := by
  refine ⟨kk.1, fun p l e s mid args below meth c dC dI cK aK aV ad0 c0 s0 A ad H locs lsm hC hG hL hst => ?_⟩
  have key := kk.2 p l e s mid args below meth c dC dI cK aK aV ad0 c0 s0 A ad H locs lsm hC hG hL (ai_bt (ai_b1 hst) trivial)
  have hT := (hG.2.2.1.2.1.1 j hj).2.2.2
  rw [hG.2.2.1.2.2.2.2 j hj] at hT
  exact va_tlen hC.1 hC.2.1 hT hG.2.2.2.2.2.1 rfl d key
theorem rs_sbal {j : Nat} {i : Int32} (d : decode M.2.1 pc = .ok (.baload, 1)) (hj : j < 15) (hin : vp_in i (ai_sl.getD j 0)) (kk : ai_R M (pc + 1) ls (.int ((ai_sb.getD j []).getD i.toNatClampNeg 0) :: st) h r h') : ai_R M pc ls (.int i :: .retAddr (15 + j) :: st) h r h' := by
  refine ⟨kk.1, fun p l e s mid args below meth c dC dI cK aK aV ad0 c0 s0 A ad H locs lsm hC hG hL hst => ?_⟩
  have key := kk.2 p l e s mid args below meth c dC dI cK aK aV ad0 c0 s0 A ad H locs lsm hC hG hL (ai_bt (ai_b2 hst) trivial)
  have hT := (hG.2.2.1.2.1.1 j hj).2.2.2
  rw [hG.2.2.1.2.2.2.2 j hj] at hT
  exact va_tb hC.1 hC.2.1 hT hG.2.2.2.2.2.1 hin rfl d key
theorem rs_callVS {idx n j : Nat} {N : ai_M} {as : List Value} {rv : Option Value} {h1 : ai_H} (d : decode M.2.1 pc = .ok (.invokevirtual idx, 3)) (hMK : ai_MK N n) (hl : ai_ML M.1.cls idx N.1) (hin : Cond.instanceMethod N.1 ∈ ai_T) (hsel : Cond.selects N.1.cls N.1 N.1 ∈ ai_T) (hcls : N.1.cls = "java/lang/String") (hj : j < 15) (hn : as.length = n) (hfit : ai_fits N M = true) (hW : (st.map fun v => v.category).sum ≤ 8) (hc : ai_Met N (.retAddr j :: as) h rv h1) (kk : ai_R M (pc + 3) ls (rv.toList ++ st) h1 r h') : ai_R M pc ls (as.reverse ++ .retAddr j :: st) h r h' := by
  have m1 := hc.1
  have m2 := kk.1
  refine ⟨⟨by omega, by omega⟩, fun p l e s mid args below meth c dC dI cK aK aV ad0 c0 s0 A ad H locs lsm hC hG hL hst => ?_⟩
  have hcc := hG.2.2.2.2.2.2.2.1
  have hT := hC.2.2.2.2.2.1
  have hR := of_decide_eq_true hfit
  have hst1 : ∀ w ∈ st, ai_b h.1 w := fun w hw => hst w (by simp [hw])
  have hstA : ∀ v ∈ Value.retAddr j :: as, ai_b h.1 v := fun v hv => by
    rcases List.mem_cons.mp hv with rfl | hv
    · trivial
    · exact hst v (by simp [hv])
  have hM := hc.2 l dC dI cK aK aV ad H.size hG.2.2.2.2.2.2.2.2.2 hstA
  have hpv : PreV s H N.1.cls (aK j) (ai_Pc dC dI cK aK aV ad H.size (.retAddr j :: as) h) (as.map (ai_v ad aK)) := ⟨ai_pc_blind, by rw [hcls]; exact vk_recv hG.2.2.1.2.1 hj hG.2.2.2.2.2.1, ai_pre hG⟩
  have hsk : ((as.reverse ++ .retAddr j :: st).map (ai_v ad aK)) = (as.map (ai_v ad aK)).reverse ++ .ref (aK j) :: st.map (ai_v ad aK) := by
    rw [List.map_append, List.map_reverse]; rfl
  have hlen : (as.map (ai_v ad aK)).length = n := by rw [List.length_map]; exact hn
  have hWm : 2 * (F0 mid pc lsm ((as.reverse ++ .retAddr j :: st).map (ai_v ad aK))).monitorRoom + ((st.map (ai_v ad aK)).map fun v => v.category).sum ≤ 8 := by
    rw [ai_cat_sum]
    exact lv_room (m := mid) (pc := pc) (ls := lsm) (rest := (as.reverse ++ .retAddr j :: st).map (ai_v ad aK)) hW
  have hfr : h.1 - c0 + (h1.1 - h.1) ≤ h'.1 - c0 ∧ h.2.1 - s0 + (h1.2.1 - h.2.1) ≤ h'.2.1 - s0 := ⟨by omega, by omega⟩
  refine ai_go (st := st) (rv := rv) (h1 := h1) (as := as) m1 kk hC hG hL hst1 (a := (.ref (aK j) :: as.map (ai_v ad aK)).toArray) ?_
  rcases hl with hl | ⟨host, hl⟩
  · exact va_runV (cc := M.2.1) (nL := M.2.2.1) (Ts := ai_T) (own := M.1.cls) (As := as.map (ai_v ad aK)) (rest := st.map (ai_v ad aK)) ⟨hC.1, hC.2.1, hC.2.2.2.1, hC.2.2.2.2.1, hT⟩ hM ⟨callB_of n hT (ai_good hMK) rfl rfl rfl (hT _ hMK.2.1) (hT _ hl) hMK.2.2 hR, hT _ hin, hT _ hsel⟩ hpv rfl hlen hL.1 hsk hWm d hfr
  · exact va_runVN (cc := M.2.1) (nL := M.2.2.1) (Ts := ai_T) (own := M.1.cls) (As := as.map (ai_v ad aK)) (rest := st.map (ai_v ad aK)) ⟨hC.1, hC.2.1, hC.2.2.2.1, hC.2.2.2.2.1, hT⟩ hM ⟨va_cnB n hT (ai_good hMK) rfl rfl rfl (hG.2.1.1 _ hl) (hT _ hMK.2.1) hMK.2.2 hR, hT _ hin, hT _ hsel⟩ hpv rfl hlen hL.1 hsk hWm d hfr
end STRS
def sby (j i : Nat) : Int32 := (ai_sb.getD j []).getD i 0
theorem sl_ok : ∀ j, j < 15 → ai_sl.getD j 0 ≤ 6 := by decide
theorem sb_ok : ∀ j, j < 15 → ∀ i, i < 6 → ((sby j i &&& 255).toUInt32 % 65536).toInt32 = sby j i := by decide
theorem nar_c (x : Int32) : narrow .char (.int x) = .int (x.toUInt32 % 65536).toInt32 := rfl
theorem sb_nar : ∀ j, j < 15 → ∀ i, i < 6 → ((sby j i).toUInt32 % 65536).toInt32 = sby j i := by decide
theorem dJ0_length_8abf5_0 : decode cJ0_length_8abf5 0 = .ok (.aload_n 0, 1) := by decide +kernel
theorem dJ0_length_8abf5_1 : decode cJ0_length_8abf5 1 = .ok (.getfield 9, 3) := by decide +kernel
theorem dJ0_length_8abf5_4 : decode cJ0_length_8abf5 4 = .ok (.arraylength, 1) := by decide +kernel
theorem dJ0_length_8abf5_5 : decode cJ0_length_8abf5 5 = .ok (.aload_n 0, 1) := by decide +kernel
theorem dJ0_length_8abf5_6 : decode cJ0_length_8abf5 6 = .ok (.invokevirtual 335, 3) := by decide +kernel
theorem dJ0_length_8abf5_9 : decode cJ0_length_8abf5 9 = .ok (.ishr, 1) := by decide +kernel
theorem dJ0_length_8abf5_10 : decode cJ0_length_8abf5 10 = .ok (.ireturn, 1) := by decide +kernel
theorem dJ0_coder_7d493_0 : decode cJ0_coder_7d493 0 = .ok (.getstatic 38, 3) := by decide +kernel
theorem dJ0_coder_7d493_3 : decode cJ0_coder_7d493 3 = .ok (.ifCond .eq 10, 3) := by decide +kernel
theorem dJ0_coder_7d493_6 : decode cJ0_coder_7d493 6 = .ok (.aload_n 0, 1) := by decide +kernel
theorem dJ0_coder_7d493_7 : decode cJ0_coder_7d493 7 = .ok (.getfield 15, 3) := by decide +kernel
theorem dJ0_coder_7d493_10 : decode cJ0_coder_7d493 10 = .ok (.goto 4, 3) := by decide +kernel
theorem dJ0_coder_7d493_13 : decode cJ0_coder_7d493 13 = .ok (.iconst 1, 1) := by decide +kernel
theorem dJ0_coder_7d493_14 : decode cJ0_coder_7d493 14 = .ok (.ireturn, 1) := by decide +kernel
theorem dJ0_charAt_5068e_0 : decode cJ0_charAt_5068e 0 = .ok (.aload_n 0, 1) := by decide +kernel
theorem dJ0_charAt_5068e_1 : decode cJ0_charAt_5068e 1 = .ok (.invokevirtual 492, 3) := by decide +kernel
theorem dJ0_charAt_5068e_4 : decode cJ0_charAt_5068e 4 = .ok (.ifCond .eq 12, 3) := by decide +kernel
theorem dJ0_charAt_5068e_7 : decode cJ0_charAt_5068e 7 = .ok (.aload_n 0, 1) := by decide +kernel
theorem dJ0_charAt_5068e_8 : decode cJ0_charAt_5068e 8 = .ok (.getfield 9, 3) := by decide +kernel
theorem dJ0_charAt_5068e_11 : decode cJ0_charAt_5068e 11 = .ok (.iload_n 1, 1) := by decide +kernel
theorem dJ0_charAt_5068e_12 : decode cJ0_charAt_5068e 12 = .ok (.invokestatic 495, 3) := by decide +kernel
theorem dJ0_charAt_5068e_15 : decode cJ0_charAt_5068e 15 = .ok (.ireturn, 1) := by decide +kernel
theorem dJ0_charAt_5068e_16 : decode cJ0_charAt_5068e 16 = .ok (.aload_n 0, 1) := by decide +kernel
theorem dJ0_charAt_5068e_17 : decode cJ0_charAt_5068e 17 = .ok (.getfield 9, 3) := by decide +kernel
theorem dJ0_charAt_5068e_20 : decode cJ0_charAt_5068e 20 = .ok (.iload_n 1, 1) := by decide +kernel
theorem dJ0_charAt_5068e_21 : decode cJ0_charAt_5068e 21 = .ok (.invokestatic 498, 3) := by decide +kernel
theorem dJ0_charAt_5068e_24 : decode cJ0_charAt_5068e 24 = .ok (.ireturn, 1) := by decide +kernel
theorem dJ0_isLatin1_aae02_0 : decode cJ0_isLatin1_aae02 0 = .ok (.getstatic 38, 3) := by decide +kernel
theorem dJ0_isLatin1_aae02_3 : decode cJ0_isLatin1_aae02 3 = .ok (.ifCond .eq 14, 3) := by decide +kernel
theorem dJ0_isLatin1_aae02_6 : decode cJ0_isLatin1_aae02 6 = .ok (.aload_n 0, 1) := by decide +kernel
theorem dJ0_isLatin1_aae02_7 : decode cJ0_isLatin1_aae02 7 = .ok (.getfield 15, 3) := by decide +kernel
theorem dJ0_isLatin1_aae02_10 : decode cJ0_isLatin1_aae02 10 = .ok (.ifCond .ne 7, 3) := by decide +kernel
theorem dJ0_isLatin1_aae02_13 : decode cJ0_isLatin1_aae02 13 = .ok (.iconst 1, 1) := by decide +kernel
theorem dJ0_isLatin1_aae02_14 : decode cJ0_isLatin1_aae02 14 = .ok (.goto 4, 3) := by decide +kernel
theorem dJ0_isLatin1_aae02_17 : decode cJ0_isLatin1_aae02 17 = .ok (.iconst 0, 1) := by decide +kernel
theorem dJ0_isLatin1_aae02_18 : decode cJ0_isLatin1_aae02 18 = .ok (.ireturn, 1) := by decide +kernel
theorem dJ1_charAt_3b067_0 : decode cJ1_charAt_3b067 0 = .ok (.iload_n 1, 1) := by decide +kernel
theorem dJ1_charAt_3b067_1 : decode cJ1_charAt_3b067 1 = .ok (.aload_n 0, 1) := by decide +kernel
theorem dJ1_charAt_3b067_2 : decode cJ1_charAt_3b067 2 = .ok (.arraylength, 1) := by decide +kernel
theorem dJ1_charAt_3b067_3 : decode cJ1_charAt_3b067 3 = .ok (.invokestatic 9, 3) := by decide +kernel
theorem dJ1_charAt_3b067_6 : decode cJ1_charAt_3b067 6 = .ok (.aload_n 0, 1) := by decide +kernel
theorem dJ1_charAt_3b067_7 : decode cJ1_charAt_3b067 7 = .ok (.iload_n 1, 1) := by decide +kernel
theorem dJ1_charAt_3b067_8 : decode cJ1_charAt_3b067 8 = .ok (.baload, 1) := by decide +kernel
theorem dJ1_charAt_3b067_9 : decode cJ1_charAt_3b067 9 = .ok (.sipush 255, 3) := by decide +kernel
theorem dJ1_charAt_3b067_12 : decode cJ1_charAt_3b067 12 = .ok (.iand, 1) := by decide +kernel
theorem dJ1_charAt_3b067_13 : decode cJ1_charAt_3b067 13 = .ok (.i2c, 1) := by decide +kernel
theorem dJ1_charAt_3b067_14 : decode cJ1_charAt_3b067 14 = .ok (.ireturn, 1) := by decide +kernel
theorem dJ0_checkIndex_df160_0 : decode cJ0_checkIndex_df160 0 = .ok (.iload_n 0, 1) := by decide +kernel
theorem dJ0_checkIndex_df160_1 : decode cJ0_checkIndex_df160 1 = .ok (.iload_n 1, 1) := by decide +kernel
theorem dJ0_checkIndex_df160_2 : decode cJ0_checkIndex_df160 2 = .ok (.getstatic 1053, 3) := by decide +kernel
theorem dJ0_checkIndex_df160_5 : decode cJ0_checkIndex_df160 5 = .ok (.invokestatic 1059, 3) := by decide +kernel
theorem dJ0_checkIndex_df160_8 : decode cJ0_checkIndex_df160 8 = .ok (.pop, 1) := by decide +kernel
theorem dJ0_checkIndex_df160_9 : decode cJ0_checkIndex_df160 9 = .ok (.return_, 1) := by decide +kernel
theorem dJ3_checkIndex_8e157_0 : decode cJ3_checkIndex_8e157 0 = .ok (.iload_n 0, 1) := by decide +kernel
theorem dJ3_checkIndex_8e157_1 : decode cJ3_checkIndex_8e157 1 = .ok (.ifCond .lt 8, 3) := by decide +kernel
theorem dJ3_checkIndex_8e157_4 : decode cJ3_checkIndex_8e157 4 = .ok (.iload_n 0, 1) := by decide +kernel
theorem dJ3_checkIndex_8e157_5 : decode cJ3_checkIndex_8e157 5 = .ok (.iload_n 1, 1) := by decide +kernel
theorem dJ3_checkIndex_8e157_6 : decode cJ3_checkIndex_8e157 6 = .ok (.if_icmp .lt 10, 3) := by decide +kernel
theorem dJ3_checkIndex_8e157_9 : decode cJ3_checkIndex_8e157 9 = .ok (.aload_n 2, 1) := by decide +kernel
theorem dJ3_checkIndex_8e157_10 : decode cJ3_checkIndex_8e157 10 = .ok (.iload_n 0, 1) := by decide +kernel
theorem dJ3_checkIndex_8e157_11 : decode cJ3_checkIndex_8e157 11 = .ok (.iload_n 1, 1) := by decide +kernel
theorem dJ3_checkIndex_8e157_12 : decode cJ3_checkIndex_8e157 12 = .ok (.invokestatic 95, 3) := by decide +kernel
theorem dJ3_checkIndex_8e157_15 : decode cJ3_checkIndex_8e157 15 = .ok (.athrow, 1) := by decide +kernel
theorem dJ3_checkIndex_8e157_16 : decode cJ3_checkIndex_8e157 16 = .ok (.iload_n 0, 1) := by decide +kernel
theorem dJ3_checkIndex_8e157_17 : decode cJ3_checkIndex_8e157 17 = .ok (.ireturn, 1) := by decide +kernel
set_option maxRecDepth 100000 in
set_option maxHeartbeats 4000000 in
theorem c_coder {h : ai_H} {j : Nat} (hj : j < 15) : ai_Met MJ0_coder_7d493 [.retAddr j] h (some (.int 0)) h := by
  refine ai_metF (ls := _) (by decide +kernel) (by simp [ai_en, Value.category]) rfl ?_
  refine rs_scmp (pc := 0) dJ0_coder_7d493_0 sl_cmp ?_
  refine rs_if_eq (tgt := 13) (pc := 3) dJ0_coder_7d493_3 rfl (fun c => absurd c (by decide)) (fun c => ?_)
  refine rs_aload_nS (pc := 6) dJ0_coder_7d493_6 rfl ?_
  refine rs_scod (pc := 7) dJ0_coder_7d493_7 sl_cod hj ?_
  refine rs_goto (tgt := 14) (pc := 10) dJ0_coder_7d493_10 rfl ?_
  exact rs_nret (pc := 14) dJ0_coder_7d493_14 rfl rfl (Or.inr rfl)
set_option maxRecDepth 100000 in
set_option maxHeartbeats 4000000 in
theorem c_isLatin1 {h : ai_H} {j : Nat} (hj : j < 15) : ai_Met MJ0_isLatin1_aae02 [.retAddr j] h (some (.int 1)) h := by
  refine ai_metF (ls := _) (by decide +kernel) (by simp [ai_en, Value.category]) rfl ?_
  refine rs_scmp (pc := 0) dJ0_isLatin1_aae02_0 sl_cmp ?_
  refine rs_if_eq (tgt := 17) (pc := 3) dJ0_isLatin1_aae02_3 rfl (fun c => absurd c (by decide)) (fun c => ?_)
  refine rs_aload_nS (pc := 6) dJ0_isLatin1_aae02_6 rfl ?_
  refine rs_scod (pc := 7) dJ0_isLatin1_aae02_7 sl_cod hj ?_
  refine rs_if_ne (tgt := 17) (pc := 10) dJ0_isLatin1_aae02_10 rfl (fun c => absurd rfl c) (fun c => ?_)
  refine rs_iconst (v := 1) (pc := 13) dJ0_isLatin1_aae02_13 rfl ?_
  refine rs_goto (tgt := 18) (pc := 14) dJ0_isLatin1_aae02_14 rfl ?_
  exact rs_zret (pc := 18) dJ0_isLatin1_aae02_18 rfl (Or.inr rfl)
set_option maxRecDepth 100000 in
set_option maxHeartbeats 4000000 in
theorem c_length {h : ai_H} {j : Nat} (hj : j < 15) : ai_Met MJ0_length_8abf5 [.retAddr j] h (some (.int (nI (ai_sl.getD j 0)))) h := by
  refine ai_metF (ls := _) (by decide +kernel) (by simp [ai_en, Value.category]) rfl ?_
  refine rs_aload_nS (pc := 0) dJ0_length_8abf5_0 rfl ?_
  refine rs_sval (pc := 1) dJ0_length_8abf5_1 sl_val hj ?_
  refine rs_slen (pc := 4) dJ0_length_8abf5_4 hj ?_
  refine rs_aload_nS (pc := 5) dJ0_length_8abf5_5 rfl ?_
  refine rs_callVS (as := []) (pc := 6) dJ0_length_8abf5_6 mk_J0_coder_7d493 mlJ0_335 in_J0_coder_7d493 se_J0_coder_7d493 rfl hj rfl rfl (Nat.le_of_ble_eq_true rfl) (c_coder hj) ?_
  refine rs_ishr (pc := 9) dJ0_length_8abf5_9 ?_
  refine wk_iret (pc := 10) dJ0_length_8abf5_10 rfl ?_ rfl
  revert j
  decide
set_option maxRecDepth 100000 in
set_option maxHeartbeats 4000000 in
theorem c_check3 {h : ai_H} {i n : Nat} (hi : i < n) (hn : n < 100) : ai_Met MJ3_checkIndex_8e157 [.int (nI i), .int (nI n), .retAddr 30] h (some (.int (nI i))) h := by
  refine ai_metF (ls := _) (by decide +kernel) (by simp [ai_en, Value.category]) rfl ?_
  refine rs_iload_n (pc := 0) dJ3_checkIndex_8e157_0 rfl ?_
  refine rs_if_lt (tgt := 9) (pc := 1) dJ3_checkIndex_8e157_1 rfl (fun c => absurd c (nI_pos (by omega))) (fun c => ?_)
  refine rs_iload_n (pc := 4) dJ3_checkIndex_8e157_4 rfl ?_
  refine rs_iload_n (pc := 5) dJ3_checkIndex_8e157_5 rfl ?_
  refine rs_icmp_lt (tgt := 16) (pc := 6) dJ3_checkIndex_8e157_6 rfl (fun c => ?_) (fun c => absurd (nI_lt hi (by omega)) c)
  refine rs_iload_n (pc := 16) dJ3_checkIndex_8e157_16 rfl ?_
  exact wk_iret (pc := 17) dJ3_checkIndex_8e157_17 rfl rfl rfl
set_option maxRecDepth 100000 in
set_option maxHeartbeats 4000000 in
theorem c_check0 {h : ai_H} {i n : Nat} (hi : i < n) (hn : n < 100) : ai_Met MJ0_checkIndex_df160 [.int (nI i), .int (nI n)] h none h := by
  refine ai_metF (ls := _) (by decide +kernel) (by simp [ai_en, Value.category]) rfl ?_
  refine rs_iload_n (pc := 0) dJ0_checkIndex_df160_0 rfl ?_
  refine rs_iload_n (pc := 1) dJ0_checkIndex_df160_1 rfl ?_
  refine rs_sfmt (pc := 2) dJ0_checkIndex_df160_2 sl_fmt ?_
  refine rs_callS (as := [_, _, _]) (pc := 5) dJ0_checkIndex_df160_5 mk_J3_checkIndex_8e157 mlJ0_1059 st_J3_checkIndex_8e157 rfl rfl (Nat.le_of_ble_eq_true rfl) (c_check3 hi hn) ?_
  refine rs_pop (pc := 8) dJ0_checkIndex_df160_8 rfl ?_
  exact wk_vret (pc := 9) dJ0_checkIndex_df160_9 rfl rfl rfl
set_option maxRecDepth 100000 in
set_option maxHeartbeats 4000000 in
theorem c_char1 {h : ai_H} {i j : Nat} (hj : j < 15) (hi : i < ai_sl.getD j 0) : ai_Met MJ1_charAt_3b067 [.retAddr (15 + j), .int (nI i)] h (some (.int (sby j i))) h := by
  have hl := sl_ok j hj
  refine ai_metF (ls := _) (by decide +kernel) (by simp [ai_en, Value.category]) rfl ?_
  refine rs_iload_n (pc := 0) dJ1_charAt_3b067_0 rfl ?_
  refine rs_aload_nS (pc := 1) dJ1_charAt_3b067_1 rfl ?_
  refine rs_slen (pc := 2) dJ1_charAt_3b067_2 hj ?_
  refine rs_callS (as := [_, _]) (pc := 3) dJ1_charAt_3b067_3 mk_J0_checkIndex_df160 mlJ1_9 st_J0_checkIndex_df160 rfl rfl (Nat.le_of_ble_eq_true rfl) (c_check0 hi (by omega)) ?_
  refine rs_aload_nS (pc := 6) dJ1_charAt_3b067_6 rfl ?_
  refine rs_iload_n (pc := 7) dJ1_charAt_3b067_7 rfl ?_
  refine rs_sbal (pc := 8) dJ1_charAt_3b067_8 hj (vp_in_nI (n := i) hi (by omega)) ?_
  rw [nI_clamp (show i < 2 ^ 31 by omega)]
  refine rs_sipush (v := 255) (pc := 9) dJ1_charAt_3b067_9 rfl ?_
  refine rs_iand (pc := 12) dJ1_charAt_3b067_12 ?_
  refine rs_i2c (pc := 13) dJ1_charAt_3b067_13 ?_
  have e := sb_ok j hj i (by omega)
  unfold sby at e
  rw [e]
  exact rs_nret (pc := 14) dJ1_charAt_3b067_14 rfl ((nar_c _).trans (congrArg Value.int (sb_nar j hj i (by omega)))) (Or.inl rfl)
set_option maxRecDepth 100000 in
set_option maxHeartbeats 4000000 in
theorem c_charAt {h : ai_H} {i j : Nat} (hj : j < 15) (hi : i < ai_sl.getD j 0) : ai_Met MJ0_charAt_5068e [.retAddr j, .int (nI i)] h (some (.int (sby j i))) h := by
  have hl := sl_ok j hj
  refine ai_metF (ls := _) (by decide +kernel) (by simp [ai_en, Value.category]) rfl ?_
  refine rs_aload_nS (pc := 0) dJ0_charAt_5068e_0 rfl ?_
  refine rs_callVS (as := []) (pc := 1) dJ0_charAt_5068e_1 mk_J0_isLatin1_aae02 mlJ0_492 in_J0_isLatin1_aae02 se_J0_isLatin1_aae02 rfl hj rfl rfl (Nat.le_of_ble_eq_true rfl) (c_isLatin1 hj) ?_
  refine rs_if_eq (tgt := 16) (pc := 4) dJ0_charAt_5068e_4 rfl (fun c => absurd c (by decide)) (fun c => ?_)
  refine rs_aload_nS (pc := 7) dJ0_charAt_5068e_7 rfl ?_
  refine rs_sval (pc := 8) dJ0_charAt_5068e_8 sl_val hj ?_
  refine rs_iload_n (pc := 11) dJ0_charAt_5068e_11 rfl ?_
  refine rs_callS (as := [_, _]) (pc := 12) dJ0_charAt_5068e_12 mk_J1_charAt_3b067 mlJ0_495 st_J1_charAt_3b067 rfl rfl (Nat.le_of_ble_eq_true rfl) (c_char1 hj hi) ?_
  exact rs_nret (pc := 15) dJ0_charAt_5068e_15 rfl ((nar_c _).trans (congrArg Value.int (sb_nar j hj i (by omega)))) (Or.inl rfl)
