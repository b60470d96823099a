/-! 10b: methods of the JDK whose class has natives, but not in their place -/
/-- Met.ofW, of a method that has no native row, whatever its class's name -/
theorem ai_ofWF {l : Launch} {y : MethodName} {ws ws' : List Cond} {rm : Room} {Pc : Array Value → State → Prop} {Qc : Array Value → State → Outcome → State → Prop} {mc ms : Nat} {free : Addr → Prop} {cc : ByteArray} {maxL : Nat} {ret : Option FieldType}
    (hy : plainFor y = true) (hw : ws = Cond.code y cc maxL ret :: ws')
    (body : ∀ p e s m args below meth c s₁, BodyLoose p l y (headSpec ws rm) cc maxL ret e s m args below meth c s₁ → c.maxLocals = maxL → Pc args s →
      W p l e (headSpec ws rm).room s m args below meth c s.heap [] 0 0 (MQ below Qc args s mc ms free) (entryFrame m args maxL)) : Met l y ws rm Pc Qc mc ms free := by
  refine MetFree.of_bodySF (code := cc) (maxLocals := maxL) (ret := ret) hy ?_ ?_
  · intro args s m h hn
    obtain ⟨meth, c, h1, h2, h3, h4, h5, h6, -, -⟩ := Cond.code_spec hn (atoms_spec (ws := ws) h _ (by rw [hw]; exact List.mem_cons_self))
    exact ⟨meth, c, h1, h2, h3, h4, h5, h6⟩
  · intro p e s m args below meth c s₁ B hml hP _
    have hh0 : s₁.heap = s.heap := by rw [B.state]; rfl
    obtain ⟨t, a1, o, b1, b2, b3⟩ := body p e s m args below meth c s₁ B hml hP s₁ hh0 (Stand.of_body B)
    exact ⟨t, o, a1, b1, b2, ⟨b3.1, b3.2⟩⟩
theorem ai_metF {M : ai_M} {as ls : List Value} {h : ai_H} {r : Option Value} {h' : ai_H} (hy : plainFor M.1 = true) (hn : (ai_en as).length ≤ M.2.2.1) (hls : ls = ai_en as ++ List.replicate (M.2.2.1 - (ai_en as).length) (.float 0)) (hr : ai_R M 0 ls [] h r h') : ai_Met M as h r h' := by
  refine ⟨hr.1, fun l dC dI cK aK aV ad sz hwf hab => ?_⟩
  refine ai_ofWF (cc := M.2.1) (maxL := M.2.2.1) (ret := M.2.2.2.1) hy rfl ?_
  intro p e s m args below meth c s₁ B hml hv
  obtain ⟨rfl, hsz, hK, hN, hZ, hP, hD0⟩ := hv
  have hts := atoms_spec (ws := ai_ws M) B.pre
  have hown : s.vm.findClass M.1.cls = some m.cls := findClass_of_methodNamed B.named
  have hin : meth.name = M.1.name := (name_of_methodNamed B.named B.method).1
  subst hsz
  have hD := hD0.self (sz := s.heap.size)
  have hl := lv_entry (as.map (ai_v ad aK)) (n := M.2.2.1) (by rw [ai_en_len]; exact hn)
  rw [lg_entry_eq]
  generalize (lg_sl (as.map (ai_v ad aK)) ++ List.replicate (M.2.2.1 - (lg_sl (as.map (ai_v ad aK))).length) Slot.unset).toArray = lsm at hl ⊢
  have hL : ai_L lsm M.2.2.1 h.1 ad aK ls := by
    refine ⟨hl.1, hl.2.1, fun i v hi hne => ?_⟩
    rw [hls] at hi
    by_cases hlt : i < (ai_en as).length
    · rw [List.getElem?_append_left hlt] at hi
      obtain ⟨q1, q2⟩ := ai_en_at (ad := ad) (aK := aK) as 0 i v hi hne
      rw [Nat.zero_add] at q1
      exact ⟨hl.2.2 _ q1, hab v q2⟩
    · rw [List.getElem?_append_right (by omega)] at hi
      have : v = .float 0 := (List.mem_replicate.mp (List.mem_of_getElem? hi)).2
      exact absurd this hne
  have key := hr.2 p l e s m (as.map (ai_v ad aK)).toArray below meth c dC dI cK aK aV ad h.1 h.2.1 (va_A (ai_w cK ad aK h) s.heap.size) ad s.heap [] lsm
    ⟨B.exec, B.bytes, B.returns, hml, hown, fun w hw => hts w (List.mem_cons_of_mem _ hw), B.notSynchronized, hin⟩
    ⟨hK, hN, hZ, hP, hD, va_S.rf, fun q hq => Or.inr hq, ⟨Nat.le_refl _, Nat.le_refl _⟩, fun _ _ => rfl, hwf⟩ hL (fun v hv => by cases hv)
  simp only [Nat.sub_self] at key
  exact key
