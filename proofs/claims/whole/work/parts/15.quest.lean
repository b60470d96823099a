/-! 15: runs told by what holds at their end -/
def ai_W (M : ai_M) (pc : Nat) (ls st : List Value) (h : ai_H) (Q : Option Value → ai_H → Prop) : Prop := ∃ (r : Option Value) (h' : ai_H), Q r h' ∧ ai_R M pc ls st h r h'
/-- a contract told by what holds at its end -/
def ai_QM (M : ai_M) (as : List Value) (h : ai_H) (Q : Option Value → ai_H → Prop) : Prop := ∃ (r : Option Value) (h' : ai_H), Q r h' ∧ ai_Met M as h r h'
section QUEST
variable {M : ai_M} {pc pc' : Nat} {ls ls' st st' : List Value} {h h1 : ai_H} {Q : Option Value → ai_H → Prop}
theorem wq (hs : ∀ (r : Option Value) (h' : ai_H), ai_R M pc' ls' st' h1 r h' → ai_R M pc ls st h r h') (k : ai_W M pc' ls' st' h1 Q) : ai_W M pc ls st h Q := by
  obtain ⟨r, h', q, k⟩ := k
  exact ⟨r, h', q, hs r h' k⟩
theorem wq_br {c : Prop} {tgt nx : Nat} (hs : ∀ (r : Option Value) (h' : ai_H), (c → ai_R M tgt ls st h r h') → (¬ c → ai_R M nx ls st h r h') → ai_R M pc ls st' h r h') (kt : c → ai_W M tgt ls st h Q) (kf : ¬ c → ai_W M nx ls st h Q) : ai_W M pc ls st' h Q := by
  by_cases hc : c
  · exact wq (fun r h' k => hs r h' (fun _ => k) (fun z => absurd hc z)) (kt hc)
  · exact wq (fun r h' k => hs r h' (fun z => absurd z hc) (fun _ => k)) (kf hc)
theorem wq_bn {c : Prop} {tgt nx : Nat} (hs : ∀ (r : Option Value) (h' : ai_H), (¬ c → ai_R M tgt ls st h r h') → (c → ai_R M nx ls st h r h') → ai_R M pc ls st' h r h') (kt : ¬ c → ai_W M tgt ls st h Q) (kf : c → ai_W M nx ls st h Q) : ai_W M pc ls st' h Q := by
  by_cases hc : c
  · exact wq (fun r h' k => hs r h' (fun z => absurd hc z) (fun _ => k)) (kf hc)
  · exact wq (fun r h' k => hs r h' (fun _ => k) (fun z => absurd z hc)) (kt hc)
theorem wq_gen {E : ai_H} (k : ∀ g : ai_H, g = E → ai_W M pc ls st g Q) : ai_W M pc ls st E Q := k E rfl
theorem wq_topi {x : Int32} (k : ∀ y : Int32, y = x → ai_W M pc ls (.int y :: st) h Q) : ai_W M pc ls (.int x :: st) h Q := k x rfl
theorem wq_topl {x : Int64} (k : ∀ y : Int64, y = x → ai_W M pc ls (.long y :: st) h Q) : ai_W M pc ls (.long x :: st) h Q := k x rfl
theorem wq_ret {r : Option Value} (q : Q r h) (k : ai_R M pc ls st h r h) : ai_W M pc ls st h Q := ⟨r, h, q, k⟩
theorem wq_mono {Q' : Option Value → ai_H → Prop} (hq : ∀ r h', Q r h' → Q' r h') (k : ai_W M pc ls st h Q) : ai_W M pc ls st h Q' := by
  obtain ⟨r, h', q, k⟩ := k
  exact ⟨r, h', hq r h' q, k⟩
theorem qm_of {as : List Value} (hy : plainName M.1.cls = true) (hn : (ai_en as).length ≤ M.2.2.1) (hls : ls = ai_en as ++ List.replicate (M.2.2.1 - (ai_en as).length) (.float 0)) (k : ai_W M 0 ls [] h Q) : ai_QM M as h Q := by
  obtain ⟨r, h', q, k⟩ := k
  exact ⟨r, h', q, ai_met hy hn hls k⟩
theorem qm_met {as : List Value} {r : Option Value} {h' : ai_H} (hm : ai_Met M as h r h') : ai_QM M as h (fun r1 g => r1 = r ∧ g = h') := ⟨r, h', ⟨rfl, rfl⟩, hm⟩
theorem qm_mono {as : List Value} {Q' : Option Value → ai_H → Prop} (hq : ∀ r h', Q r h' → Q' r h') (k : ai_QM M as h Q) : ai_QM M as h Q' := by
  obtain ⟨r, h', q, k⟩ := k
  exact ⟨r, h', hq r h' q, k⟩
end QUEST
theorem va_rf_v (o : Option Nat) : va_rf o = .null ∨ (∃ a, va_rf o = .ref a) ∨ ∃ a, va_rf o = .retAddr a := by
  cases o with
  | none => exact Or.inl rfl
  | some a => exact Or.inr (Or.inl ⟨a, rfl⟩)
