/-! 99f: a call of the law, both: the book's calls, the tape's -/
def isI (v : Value) : Prop := ∃ x : Int32, v = .int x
def isL (v : Value) : Prop := ∃ x : Int64, v = .long x
/-- both answer alike from any state that both hold, and hold the same afterwards -/
def JS (N K : ai_M) (as : List Value) (P : Value → Prop) : Prop := ∀ h : ai_H, JI h → ∃ (r : Value) (h1 h2 : ai_H), P r ∧ ai_Met N (.ref 0 :: as) h (some r) h1 ∧ ai_Met K (.ref 307 :: as) h1 (some r) h2 ∧ (∃ fs, h1.2.2 307 = .inr (12, fs)) ∧ JI h2 ∧ h2.1 ≤ h.1 + 11 ∧ h2.2.1 ≤ h.2.1 + 3917
def JE (P : Value → Prop) (h : ai_H) (r1 r2 : Option Value) (h2 : ai_H) : Prop := (∃ v, P v ∧ r1 = some v ∧ r2 = some v) ∧ JI h2 ∧ h2.1 ≤ h.1 + 11 ∧ h2.2.1 ≤ h.2.1 + 3917
theorem JS_of {N K : ai_M} {as : List Value} {P : Value → Prop} (H : ∀ h, JI h → ai_QM N (.ref 0 :: as) h (fun r1 h1 => (∃ S, md_at h1 S) ∧ ai_QM K (.ref 307 :: as) h1 (fun r2 h2 => JE P h r1 r2 h2))) : JS N K as P := by
  intro h J
  obtain ⟨r1, h1, ⟨⟨S, hS⟩, r2, h2, ⟨⟨v, p, rfl, rfl⟩, j1, j2, j3⟩, m2⟩, m1⟩ := H h J
  exact ⟨v, h1, h2, p, m1, m2, ⟨_, hS.2.1⟩, j1, j2, j3⟩
theorem md_tab_le : ∀ d q, md_tab[d]? = some q → d ≤ 53 := fun d q hq => by
  have h1 := (List.getElem?_eq_some_iff.mp hq).1
  have h2 : md_tab.length = 54 := by decide +kernel
  omega
theorem md_bk {h : ai_H} {S : Md} (B : Bk) (hmd : md_at h S) : md_at (bk_set h 1 B) S := md_keep hmd (Nat.le_refl _) (fun j h1 _ => if_neg (by omega)) md_tab_le
theorem sz_n {n : Int32} {N M : Nat} (h : n = nI N) (hN : N ≤ M) (hM : M < 1000) : 0 ≤ n.toInt ∧ n.toInt ≤ (M : Int) := by
  rw [h, nI_toInt (by omega)]
  omega
section JBOOK
variable {h g : ai_H} {B' : Bk} {S T : Md} {D : Nat → Nat} {nl k : Nat} {Ls : Nat → List Cl} {f : Nat → Int32} {P : Value → Prop}
theorem JE_book {v : Value} {r1 r2 : Option Value} (p : P v) (e1 : r1 = some v) (e2 : r2 = some v) (hx : x_at h (nI k) (nI nl)) (hk : k ≤ 400) (h13 : h.2.2 13 = .inl (0, 400, .inl f)) (hok' : bk_ok B' nl) (hRB' : RB B' T) (hs : scr h) (hL : LWT h D nl Ls) (hM : MLS S nl Ls) (ho : oth S T) (h22 : S.1 22 = nI k) (htp : tpr k f (S.2.2.1 30)) (hK : MKT h D nl S) (e : md_ext (bk_set h 1 B') g) (hmd : md_at g T) : JE P h r1 r2 g :=
  ⟨⟨v, p, e1, e2⟩, JI_book hx hk h13 hok' hRB' hs hL hM ho h22 htp hK e hmd, Nat.le_trans (Nat.le_of_eq e.1) (Nat.le_add_right h.1 11), Nat.le_trans (Nat.le_of_eq e.2.1) (Nat.le_add_right h.2.1 3917)⟩
end JBOOK
theorem js_clock (w : Int32) : JS MX11_clock MX12_clock [.int w] isI := by
  refine JS_of (fun h J => ?_)
  obtain ⟨B, S, D, nl, k, Ls, f, hx, hk, h13, hB, hok, hRB, hs, hL, hM, hmd, h22, htp, hK⟩ := J
  obtain ⟨a1, a2, a3, a4⟩ := al_clock hok hRB w
  refine qm_mono (fun r1 h1 q => ?_) (qm_met (c_X11_clock hx hB w))
  obtain ⟨rfl, rfl⟩ := q
  refine ⟨⟨S, md_bk _ hmd⟩, qm_mono (fun r2 h2 q => ?_) (c_X12_clock (md_bk _ hmd) w)⟩
  obtain ⟨rfl, e, hmd2⟩ := q
  exact JE_book ⟨_, rfl⟩ rfl (by rw [a1]) hx hk h13 a2 a3 hs hL hM a4 h22 htp hK e hmd2
theorem js_observer (w : Int32) : JS MX11_observer MX12_observer [.int w] isI := by
  refine JS_of (fun h J => ?_)
  obtain ⟨B, S, D, nl, k, Ls, f, hx, hk, h13, hB, hok, hRB, hs, hL, hM, hmd, h22, htp, hK⟩ := J
  obtain ⟨a1, a2, a3, a4⟩ := al_obs hok hRB w
  refine qm_mono (fun r1 h1 q => ?_) (qm_met (c_X11_observer hx hB w))
  obtain ⟨rfl, rfl⟩ := q
  refine ⟨⟨S, md_bk _ hmd⟩, qm_mono (fun r2 h2 q => ?_) (c_X12_observer (md_bk _ hmd) (sz_n (hRB.1.2.1.trans hok.2.1.1) hok.2.1.2.1 (by decide)) w)⟩
  obtain ⟨rfl, e, hmd2⟩ := q
  exact JE_book ⟨_, rfl⟩ rfl (by rw [a1]) hx hk h13 a2 a3 hs hL hM a4 h22 htp hK e hmd2
theorem js_star (a b c : Int32) : JS MX11_star MX12_star [.int a, .int b, .int c] isI := by
  refine JS_of (fun h J => ?_)
  obtain ⟨B, S, D, nl, k, Ls, f, hx, hk, h13, hB, hok, hRB, hs, hL, hM, hmd, h22, htp, hK⟩ := J
  obtain ⟨a1, a2, a3, a4⟩ := al_star hok hRB a b c
  refine qm_mono (fun r1 h1 q => ?_) (qm_met (c_X11_star hx hB a b c))
  obtain ⟨rfl, rfl⟩ := q
  refine ⟨⟨S, md_bk _ hmd⟩, qm_mono (fun r2 h2 q => ?_) (c_X12_star (md_bk _ hmd) (sz_n (hRB.1.2.2.1.trans hok.2.2.1.1) hok.2.2.1.2.1 (by decide)) a b c)⟩
  obtain ⟨rfl, e, hmd2⟩ := q
  exact JE_book ⟨_, rfl⟩ rfl (by rw [a1]) hx hk h13 a2 a3 hs hL hM a4 h22 htp hK e hmd2
theorem js_night (a b : Int32) : JS MX11_night MX12_night [.int a, .int b] isI := by
  refine JS_of (fun h J => ?_)
  obtain ⟨B, S, D, nl, k, Ls, f, hx, hk, h13, hB, hok, hRB, hs, hL, hM, hmd, h22, htp, hK⟩ := J
  obtain ⟨a1, a2, a3, a4⟩ := al_night hok hRB a b
  refine qm_mono (fun r1 h1 q => ?_) (qm_met (c_X11_night hx hB a b))
  obtain ⟨rfl, rfl⟩ := q
  refine ⟨⟨S, md_bk _ hmd⟩, qm_mono (fun r2 h2 q => ?_) (c_X12_night (md_bk _ hmd) (sz_n (hRB.1.2.2.2.1.trans hok.2.2.2.1.1) hok.2.2.2.1.2.1 (by decide)) a b)⟩
  obtain ⟨rfl, e, hmd2⟩ := q
  exact JE_book ⟨_, rfl⟩ rfl (by rw [a1]) hx hk h13 a2 a3 hs hL hM a4 h22 htp hK e hmd2
theorem js_record (n s t o w e u : Int32) : JS MX11_record MX12_record [.int n, .int s, .int t, .int o, .int w, .int e, .int u] isI := by
  refine JS_of (fun h J => ?_)
  obtain ⟨B, S, D, nl, k, Ls, f, hx, hk, h13, hB, hok, hRB, hs, hL, hM, hmd, h22, htp, hK⟩ := J
  obtain ⟨a1, a2, a3, a4⟩ := al_rec hok hRB n s t o w e u
  refine qm_mono (fun r1 h1 q => ?_) (qm_met (c_X11_record hx hB n s t o w e u))
  obtain ⟨rfl, rfl⟩ := q
  refine ⟨⟨S, md_bk _ hmd⟩, qm_mono (fun r2 h2 q => ?_) (c_X12_record (md_bk _ hmd) (sz_n (hRB.1.2.2.2.2.1.trans hok.2.2.2.2.1.1) hok.2.2.2.2.1.2.1 (by decide)) n s t o w e u)⟩
  obtain ⟨rfl, e', hmd2⟩ := q
  exact JE_book ⟨_, rfl⟩ rfl (by rw [a1]) hx hk h13 a2 a3 hs hL hM a4 h22 htp hK e' hmd2
theorem js_journey (a b c : Int32) : JS MX11_journey MX12_journey [.int a, .int b, .int c] isI := by
  refine JS_of (fun h J => ?_)
  obtain ⟨B, S, D, nl, k, Ls, f, hx, hk, h13, hB, hok, hRB, hs, hL, hM, hmd, h22, htp, hK⟩ := J
  obtain ⟨a1, a2, a3, a4⟩ := al_jour hok hRB a b c
  refine qm_mono (fun r1 h1 q => ?_) (qm_met (c_X11_journey hx hB a b c))
  obtain ⟨rfl, rfl⟩ := q
  refine ⟨⟨S, md_bk _ hmd⟩, qm_mono (fun r2 h2 q => ?_) (c_X12_journey (md_bk _ hmd) (sz_n (hRB.1.2.2.2.2.2.trans hok.2.2.2.2.2.1) hok.2.2.2.2.2.2.1 (by decide)) a b c)⟩
  obtain ⟨rfl, e, hmd2⟩ := q
  exact JE_book ⟨_, rfl⟩ rfl (by rw [a1]) hx hk h13 a2 a3 hs hL hM a4 h22 htp hK e hmd2
theorem js_strike (i : Int32) : JS MX11_strike MX12_strike [.int i] isI := by
  refine JS_of (fun h J => ?_)
  obtain ⟨B, S, D, nl, k, Ls, f, hx, hk, h13, hB, hok, hRB, hs, hL, hM, hmd, h22, htp, hK⟩ := J
  obtain ⟨a1, a2, a3, a4⟩ := al_strike hok hRB i
  refine qm_mono (fun r1 h1 q => ?_) (qm_met (c_X11_strike hx hB i))
  obtain ⟨rfl, rfl⟩ := q
  refine ⟨⟨S, md_bk _ hmd⟩, qm_mono (fun r2 h2 q => ?_) (c_X12_strike (md_bk _ hmd) (sz_n (hRB.1.2.2.2.2.1.trans hok.2.2.2.2.1.1) hok.2.2.2.2.1.2.1 (by decide)) i)⟩
  obtain ⟨rfl, e, hmd2⟩ := q
  exact JE_book ⟨_, rfl⟩ rfl (by rw [a1]) hx hk h13 a2 a3 hs hL hM a4 h22 htp hK e hmd2
theorem js_leans (o l : Int32) : JS MX11_leans MX12_leans [.int o, .int l] isI := by
  refine JS_of (fun h J => ?_)
  obtain ⟨B, S, D, nl, k, Ls, f, hx, hk, h13, hB, hok, hRB, hs, hL, hM, hmd, h22, htp, hK⟩ := J
  have hnl := hM.2.1
  obtain ⟨a1, a2, a3, a4⟩ := al_leans hok hRB (by omega) hM.1 o l
  refine qm_mono (fun r1 h1 q => ?_) (qm_met (c_X11_leans hx hB o l))
  obtain ⟨rfl, rfl⟩ := q
  refine ⟨⟨S, md_bk _ hmd⟩, qm_mono (fun r2 h2 q => ?_) (c_X12_leans (md_bk _ hmd) (sz_n (hRB.1.2.1.trans hok.2.1.1) hok.2.1.2.1 (by decide)) o l)⟩
  obtain ⟨rfl, e, hmd2⟩ := q
  exact JE_book ⟨_, rfl⟩ rfl (by rw [a1]) hx hk h13 a2 a3 hs hL hM a4 h22 htp hK e hmd2
/-! questions -/
section JQ
variable {h : ai_H} {B : Bk} {S : Md} {D : Nat → Nat} {nl k : Nat} {Ls : Nat → List Cl} {f : Nat → Int32} {P : Value → Prop} {N K : ai_M} {as : List Value} {lo hi : Nat} {F : Option Value → Prop}
theorem fr_wide {h g : ai_H} {lo hi : Nat} (hlo : 15 ≤ lo) (hhi : hi ≤ 306) (e : fr lo hi h g) : fr 15 306 h g := ⟨e.1, e.2.1, fun j hj => e.2.2 j (by omega)⟩
theorem JE_quest {h1 g : ai_H} {T : Md} {r1 r2 : Option Value} (p : ∃ v, P v ∧ r1 = some v ∧ r2 = some v) (hx : x_at h (nI k) (nI nl)) (hk : k ≤ 400) (h13 : h.2.2 13 = .inl (0, 400, .inl f)) (hB : bk_at h 1 B) (hok : bk_ok B nl) (hRB : RB B S) (hL : LWT h D nl Ls) (hM : MLS S nl Ls) (h22 : S.1 22 = nI k) (htp : tpr k f (S.2.2.1 30)) (hK : MKT h D nl S) (hq : mq S T) (e1 : fr 15 306 h h1) (hs : scr h1) (e : md_ext h1 g) (hmd : md_at g T) : JE P h r1 r2 g :=
  ⟨p, JI_quest hx hk h13 hB hok hRB hL hM hq.oth hq.sb h22 htp hK e1 hs e hmd, by have := e.1; have := e1.1; omega, by have := e.2.1; have := e1.2.1; omega⟩
/-- a question: what the class answers, what the model answers then -/
theorem JQ_of (hlo : 15 ≤ lo) (hhi : hi ≤ 306) (hx : x_at h (nI k) (nI nl)) (hk : k ≤ 400) (h13 : h.2.2 13 = .inl (0, 400, .inl f)) (hB : bk_at h 1 B) (hok : bk_ok B nl) (hRB : RB B S) (hL : LWT h D nl Ls) (hM : MLS S nl Ls) (hmd : md_at h S) (h22 : S.1 22 = nI k) (htp : tpr k f (S.2.2.1 30)) (hK : MKT h D nl S)
    (hc : ai_QM N (.ref 0 :: as) h (fun r g => fr lo hi h g ∧ scr g ∧ F r))
    (hm : ∀ r1 h1, F r1 → md_at h1 S → ai_QM K (.ref 307 :: as) h1 (fun r g => md_ext h1 g ∧ (∃ V, md_at g V ∧ mq S V) ∧ ∃ v, P v ∧ r1 = some v ∧ r = some v)) :
    ai_QM N (.ref 0 :: as) h (fun r1 h1 => (∃ S, md_at h1 S) ∧ ai_QM K (.ref 307 :: as) h1 (fun r2 h2 => JE P h r1 r2 h2)) := by
  refine qm_mono (fun r1 h1 q => ?_) hc
  obtain ⟨e1, s1, F1⟩ := q
  have hmd1 : md_at h1 S := md_keep hmd (Nat.le_of_eq e1.1.symm) (fun j a _ => e1.2.2 j (by omega)) md_tab_le
  refine ⟨⟨S, hmd1⟩, qm_mono (fun r2 h2 q => ?_) (hm r1 h1 F1 hmd1)⟩
  obtain ⟨e, ⟨V, hV, hq⟩, p⟩ := q
  exact JE_quest p hx hk h13 hB hok hRB hL hM h22 htp hK hq (fr_wide hlo hhi e1) s1 e hV
end JQ
theorem js_count (k : Int32) : JS MX11_count MX12_count [.int k] isI := by
  refine JS_of (fun h J => ?_)
  obtain ⟨B, S, D, nl, kk, Ls, f, hx, hk, h13, hB, hok, hRB, hs, hL, hM, hmd, h22, htp, hK⟩ := J
  have a1 := al_count (tb := nI kk) (lm := nI nl) hRB hM.1 h22 k
  refine qm_mono (fun r1 h1 q => ?_) (qm_met (c_X11_count hx hB k))
  obtain ⟨rfl, rfl⟩ := q
  refine ⟨⟨S, hmd⟩, qm_mono (fun r2 h2 q => ?_) (c_X12_count hmd k)⟩
  obtain ⟨rfl, e, hmd2⟩ := q
  exact JE_quest ⟨_, ⟨_, rfl⟩, rfl, by rw [a1]⟩ hx hk h13 hB hok hRB hL hM h22 htp hK mq.rf ⟨rfl, rfl, fun _ _ => rfl⟩ hs e hmd2
theorem scr.tally {h : ai_H} (hs : scr h) (t : Ty) : scr (ai_set h 306 (ty_cell t)) := by
  have o : ∀ j, j ≠ 306 → (ai_set h 306 (ty_cell t)).2.2 j = h.2.2 j := fun j hj => if_neg hj
  obtain ⟨⟨f, a1⟩, ⟨t2, S2, a2, a2'⟩, ⟨S3, a3⟩, ⟨S4, a4⟩, ⟨T5, a5⟩, ⟨S6, a6⟩, ⟨S7, a7⟩, ⟨c, S8, t8, a8, a8', a8''⟩, -⟩ := hs
  exact ⟨⟨f, (o _ (by decide)).trans a1⟩, ⟨t2, S2, a2, rd_keep a2' rfl (fun j _ _ => o j (by omega))⟩, ⟨S3, sc_keep a3 rfl (fun j _ _ => o j (by omega))⟩, ⟨S4, cl_keep a4 rfl (fun j _ _ => o j (by omega))⟩, ⟨T5, mt_keep a5 rfl (fun j _ _ => o j (by omega))⟩, ⟨S6, rp_keep a6 rfl (fun j _ _ => o j (by omega))⟩, ⟨S7, bo_keep a7 rfl (fun j _ _ => o j (by omega))⟩, ⟨c, S8, t8, a8, wo_keep a8' rfl (fun j _ _ => o j (by omega)), (o _ (by decide)).trans a8''⟩, ⟨t, rfl⟩⟩
theorem js_seen (o n s w k x : Int32) : JS MX11_seen MX12_seen [.int o, .int n, .int s, .int w, .int k, .int x] isI := by
  refine JS_of (fun h J => ?_)
  obtain ⟨B, S, D, nl, kk, Ls, f, hx, hk, h13, hB, hok, hRB, hs, hL, hM, hmd, h22, htp, hK⟩ := J
  obtain ⟨t, ht⟩ := hs.2.2.2.2.2.2.2.2
  have hc := c_X11_seen hx hB ht o n s w k x
  rw [← apply_ite ty_cell] at hc
  generalize (if xs_sight B o n s w = 0 ∨ bi_in k 0 9999 = 0 ∨ bi_in x 0 1 = 0 then t else xs_seenT B o n s w k) = u at hc
  refine JQ_of (lo := 306) (hi := 306) (F := fun r => r = some (.int (xs_seen B o n s w k x))) (by decide) (by decide) hx hk h13 hB hok hRB hL hM hmd h22 htp hK (qm_mono (fun r g q => ?_) (qm_met hc)) (fun r1 h1 F1 hmd1 => qm_mono (fun r g q => ?_) (c_X12_seen hok hRB hmd1 o n s w k x))
  · obtain ⟨rfl, rfl⟩ := q
    exact ⟨⟨rfl, rfl, fun j hj => if_neg (by omega)⟩, hs.tally u, rfl⟩
  · obtain ⟨rfl, rfl⟩ := q
    exact ⟨⟨rfl, rfl, fun _ _ => rfl⟩, ⟨S, hmd1, mq.rf⟩, _, ⟨_, rfl⟩, F1, rfl⟩
theorem js_own (o y k x : Int32) : JS MX11_own MX12_own [.int o, .int y, .int k, .int x] isI := by
  refine JS_of (fun h J => ?_)
  obtain ⟨B, S, D, nl, kk, Ls, f, hx, hk, h13, hB, hok, hRB, hs, hL, hM, hmd, h22, htp, hK⟩ := J
  obtain ⟨t, ht⟩ := hs.2.2.2.2.2.2.2.2
  have hc := c_X11_own hx hB ht o y k x
  rw [← apply_ite ty_cell] at hc
  generalize (if tb_has (bk_o B).1 o = 0 ∨ bi_in y (-1) 192 = 0 ∨ bi_in k 0 9999 = 0 ∨ bi_in x 0 2 = 0 then t else xs_ownT B o y k) = u at hc
  refine JQ_of (lo := 306) (hi := 306) (F := fun r => r = some (.int (xs_own B o y k x))) (by decide) (by decide) hx hk h13 hB hok hRB hL hM hmd h22 htp hK (qm_mono (fun r g q => ?_) (qm_met hc)) (fun r1 h1 F1 hmd1 => qm_mono (fun r g q => ?_) (c_X12_own hok hRB hmd1 o y k x))
  · obtain ⟨rfl, rfl⟩ := q
    exact ⟨⟨rfl, rfl, fun j hj => if_neg (by omega)⟩, hs.tally u, rfl⟩
  · obtain ⟨rfl, rfl⟩ := q
    exact ⟨⟨rfl, rfl, fun _ _ => rfl⟩, ⟨S, hmd1, mq.rf⟩, _, ⟨_, rfl⟩, F1, rfl⟩
