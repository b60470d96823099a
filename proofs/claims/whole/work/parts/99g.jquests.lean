/-! 99g: the questions, both -/
theorem GI_ex {h : ai_H} {B : Bk} {ln : Nat} (hB : bk_at h 1 B) (hok : bk_ok B ln) (hs : scr h) (wk : Int32) : ∃ S z, GI B wk S (nR B) z := by
  obtain ⟨S4, hcl⟩ := hs.2.2.2.1
  obtain ⟨r, g, ⟨-, -, T, z, -, hG, -⟩, -⟩ := c_X2_gather hcl hB (bk_ok_rows hok) hok.2.2.2.2.1.2.1 hok.2.2.2.2.1.1 wk
  exact ⟨T, z, hG⟩
theorem bi_in_le {c m : Nat} (h : c ≤ m) (hm : m < 2 ^ 31) : bi_in (nI c) 0 (nI m) = 1 := by
  unfold bi_in
  rw [if_neg (by rw [i32_lt, nI_toInt (by omega)]; show ¬ ((c : Int) < 0); omega), if_neg (by rw [i32_lt, nI_toInt (by omega), nI_toInt (by omega)]; omega)]
theorem js_two (a b k x : Int32) : JS MX11_two MX12_two [.int a, .int b, .int k, .int x] isI := by
  refine JS_of (fun h J => ?_)
  obtain ⟨B, S, D, nl, kk, Ls, f, hx, hk, h13, hB, hok, hRB, hs, hL, hM, hmd, h22, htp, hK⟩ := J
  have ho := hok.2.1.2.1
  refine JQ_of (by decide) (by decide) hx hk h13 hB hok hRB hL hM hmd h22 htp hK (c_X11_two hx hB hok hs a b k x) (fun r1 h1 F1 hmd1 => ?_)
  rcases F1 with ⟨gu, rfl⟩ | ⟨gu, i, j, hi, hj, hij, rfl, rfl, S', z, hG, rfl⟩
  · obtain ⟨S', z, hG⟩ := GI_ex hB hok hs k
    refine qm_mono (fun r g q => ?_) (c_X12_two hok hRB (LM_rows hok hG).1 (hU_of hok hG) hmd1 a b x)
    obtain ⟨e, v, ⟨gu', rfl⟩ | ⟨gu', -⟩⟩ := q
    · exact ⟨e, v, _, ⟨_, rfl⟩, rfl, rfl⟩
    · exact absurd gu gu'
  · refine qm_mono (fun r g q => ?_) (c_X12_two hok hRB (LM_rows hok hG).1 (hU_of hok hG) hmd1 (nI i) (nI j) x)
    obtain ⟨e, v, ⟨gu', -⟩ | ⟨-, i', j', hi', hj', ei, ej, rfl⟩⟩ := q
    · exact absurd gu' gu
    · have e1 := nI_inj (by omega) (by omega) ei
      have e2 := nI_inj (by omega) (by omega) ej
      subst e1 e2
      exact ⟨e, v, _, ⟨_, rfl⟩, by rw [two_same (LM_rows hok hG).2 (LM_rows hok hG).1 (by omega) (by omega) x], rfl⟩
theorem js_rope (a b k x : Int32) : JS MX11_rope MX12_rope [.int a, .int b, .int k, .int x] isI := by
  refine JS_of (fun h J => ?_)
  obtain ⟨B, S, D, nl, kk, Ls, f, hx, hk, h13, hB, hok, hRB, hs, hL, hM, hmd, h22, htp, hK⟩ := J
  have ho := hok.2.1.2.1
  refine JQ_of (by decide) (by decide) hx hk h13 hB hok hRB hL hM hmd h22 htp hK (c_X11_rope hx hB hok hs a b k x) (fun r1 h1 F1 hmd1 => ?_)
  rcases F1 with ⟨gu, rfl⟩ | ⟨gu, i, j, hi, hj, rfl, rfl, S', z, R, hG, hled, rfl⟩
  · obtain ⟨S', z, hG⟩ := GI_ex hB hok hs k
    refine qm_mono (fun r g q => ?_) (c_X12_rope hok hRB (LM_rows hok hG).1 (hU_of hok hG) hmd1 a b x)
    obtain ⟨e, v, ⟨gu', rfl⟩ | ⟨gu', -⟩⟩ := q
    · exact ⟨e, v, _, ⟨_, rfl⟩, rfl, rfl⟩
    · exact absurd gu gu'
  · refine qm_mono (fun r g q => ?_) (c_X12_rope hok hRB (LM_rows hok hG).1 (hU_of hok hG) hmd1 (nI i) (nI j) x)
    obtain ⟨e, v, ⟨gu', -⟩ | ⟨-, i', j', hi', hj', ei, ej, rfl⟩⟩ := q
    · exact absurd gu' gu
    · have e1 := nI_inj (by omega) (by omega) ei
      have e2 := nI_inj (by omega) (by omega) ej
      subst e1 e2
      exact ⟨e, v, _, ⟨_, rfl⟩, by rw [rope_same (LM_rows hok hG).2 (LM_rows hok hG).1 ho hj hi hled x], rfl⟩
theorem js_knot (a b k x : Int32) : JS MX11_knot MX12_knot [.int a, .int b, .int k, .int x] isI := by
  refine JS_of (fun h J => ?_)
  obtain ⟨B, S, D, nl, kk, Ls, f, hx, hk, h13, hB, hok, hRB, hs, hL, hM, hmd, h22, htp, hK⟩ := J
  have ho := hok.2.1.2.1
  refine JQ_of (by decide) (by decide) hx hk h13 hB hok hRB hL hM hmd h22 htp hK (c_X11_knot hx hB hok hs a b k x) (fun r1 h1 F1 hmd1 => ?_)
  rcases F1 with ⟨gu, rfl⟩ | ⟨gu, i, j, hi, hj, rfl, rfl, S', z, hG, rfl⟩
  · obtain ⟨S', z, hG⟩ := GI_ex hB hok hs k
    refine qm_mono (fun r g q => ?_) (c_X12_knot hok hRB (LM_rows hok hG).1 (hU_of hok hG) hmd1 a b x)
    obtain ⟨e, v, ⟨gu', rfl⟩ | ⟨gu', -⟩⟩ := q
    · exact ⟨e, v, _, ⟨_, rfl⟩, rfl, rfl⟩
    · exact absurd gu gu'
  · refine qm_mono (fun r g q => ?_) (c_X12_knot hok hRB (LM_rows hok hG).1 (hU_of hok hG) hmd1 (nI i) (nI j) x)
    obtain ⟨e, v, ⟨gu', -⟩ | ⟨-, i', j', hi', hj', ei, ej, rfl⟩⟩ := q
    · exact absurd gu' gu
    · have e1 := nI_inj (by omega) (by omega) ei
      have e2 := nI_inj (by omega) (by omega) ej
      subst e1 e2
      exact ⟨e, v, _, ⟨_, rfl⟩, rfl, rfl⟩
theorem js_far (a k : Int32) : JS MX11_far MX12_far [.int a, .int k] isI := by
  refine JS_of (fun h J => ?_)
  obtain ⟨B, S, D, nl, kk, Ls, f, hx, hk, h13, hB, hok, hRB, hs, hL, hM, hmd, h22, htp, hK⟩ := J
  have ho := hok.2.1.2.1
  refine JQ_of (by decide) (by decide) hx hk h13 hB hok hRB hL hM hmd h22 htp hK (c_X11_far hx hB hok hs a k) (fun r1 h1 F1 hmd1 => ?_)
  rcases F1 with ⟨gu, rfl⟩ | ⟨gu, i, hi, rfl, S', z, R, hG, hled, rfl⟩
  · obtain ⟨S', z, hG⟩ := GI_ex hB hok hs k
    refine qm_mono (fun r g q => ?_) (c_X12_far hok hRB (LM_rows hok hG).1 (hU_of hok hG) hmd1 a)
    obtain ⟨e, v, ⟨gu', rfl⟩ | ⟨gu', -⟩⟩ := q
    · exact ⟨e, v, _, ⟨_, rfl⟩, rfl, rfl⟩
    · exact absurd gu gu'
  · refine qm_mono (fun r g q => ?_) (c_X12_far hok hRB (LM_rows hok hG).1 (hU_of hok hG) hmd1 (nI i))
    obtain ⟨e, v, ⟨gu', -⟩ | ⟨-, i', hi', ei, rfl⟩⟩ := q
    · exact absurd gu' gu
    · have e1 := nI_inj (by omega) (by omega) ei
      subst e1
      exact ⟨e, v, _, ⟨_, rfl⟩, by rw [far_same hok hG hi hled], rfl⟩
theorem js_moved (o n s w y k x : Int32) : JS MX11_moved MX12_moved [.int o, .int n, .int s, .int w, .int y, .int k, .int x] isI := by
  refine JS_of (fun h J => ?_)
  obtain ⟨B, S, D, nl, kk, Ls, f, hx, hk, h13, hB, hok, hRB, hs, hL, hM, hmd, h22, htp, hK⟩ := J
  have ho := hok.2.1.2.1
  refine JQ_of (by decide) (by decide) hx hk h13 hB hok hRB hL hM hmd h22 htp hK (c_X11_moved hx hB hok hs o n s w y k x) (fun r1 h1 F1 hmd1 => ?_)
  rcases F1 with ⟨gu, rfl⟩ | ⟨gu, i, j, hi, hj, rfl, rfl, S', z, hG, rfl⟩
  · obtain ⟨S', z, hG⟩ := GI_ex hB hok hs k
    refine qm_mono (fun r g q => ?_) (c_X12_moved hok hRB (LM_rows hok hG).1 (hU_of hok hG) hmd1 o n s w y x)
    obtain ⟨e, v, ⟨gu', rfl⟩ | ⟨gu', -⟩⟩ := q
    · exact ⟨e, v, _, ⟨_, rfl⟩, rfl, rfl⟩
    · exact absurd gu gu'
  · refine qm_mono (fun r g q => ?_) (c_X12_moved hok hRB (LM_rows hok hG).1 (hU_of hok hG) hmd1 (nI i) n s w (nI j) x)
    obtain ⟨e, v, ⟨gu', -⟩ | ⟨-, i', j', hi', hj', ei, ej, rfl⟩⟩ := q
    · exact absurd gu' gu
    · have e1 := nI_inj (by omega) (by omega) ei
      have e2 := nI_inj (by omega) (by omega) ej
      subst e1 e2
      exact ⟨e, v, _, ⟨_, rfl⟩, rfl, rfl⟩
theorem js_said (a b k x : Int32) : JS MX11_said MX12_said [.int a, .int b, .int k, .int x] isL := by
  refine JS_of (fun h J => ?_)
  obtain ⟨B, S, D, nl, kk, Ls, f, hx, hk, h13, hB, hok, hRB, hs, hL, hM, hmd, h22, htp, hK⟩ := J
  have ho := hok.2.1.2.1
  refine JQ_of (by decide) (by decide) hx hk h13 hB hok hRB hL hM hmd h22 htp hK (c_X11_said hx hB hok hs a b k x) (fun r1 h1 F1 hmd1 => ?_)
  rcases F1 with ⟨gu, rfl⟩ | ⟨gu, i, j, hi, hj, rfl, rfl, S', z, hG, rfl⟩
  · obtain ⟨S', z, hG⟩ := GI_ex hB hok hs k
    refine qm_mono (fun r g q => ?_) (c_X12_said hok hRB (LM_rows hok hG).1 (hU_of hok hG) (fun T q c hc hS => unlike_same hok hG hS hc) hmd1 a b x)
    obtain ⟨e, v, ⟨gu', rfl⟩ | ⟨gu', -⟩⟩ := q
    · exact ⟨e, v, _, ⟨_, rfl⟩, rfl, rfl⟩
    · exact absurd gu gu'
  · refine qm_mono (fun r g q => ?_) (c_X12_said hok hRB (LM_rows hok hG).1 (hU_of hok hG) (fun T q c hc hS => unlike_same hok hG hS hc) hmd1 (nI i) (nI j) x)
    obtain ⟨e, v, ⟨gu', -⟩ | ⟨-, i', j', hi', hj', ei, ej, rfl⟩⟩ := q
    · exact absurd gu' gu
    · have e1 := nI_inj (by omega) (by omega) ei
      have e2 := nI_inj (by omega) (by omega) ej
      subst e1 e2
      exact ⟨e, v, _, ⟨_, rfl⟩, rfl, rfl⟩
theorem js_scatter (w k : Int32) : JS MX11_scatter MX12_scatter [.int w, .int k] isL := by
  refine JS_of (fun h J => ?_)
  obtain ⟨B, S, D, nl, kk, Ls, f, hx, hk, h13, hB, hok, hRB, hs, hL, hM, hmd, h22, htp, hK⟩ := J
  refine JQ_of (by decide) (by decide) hx hk h13 hB hok hRB hL hM hmd h22 htp hK (c_X11_scatter hx hB hok hs w k) (fun r1 h1 F1 hmd1 => ?_)
  rcases F1 with ⟨gu, rfl⟩ | ⟨gu, S', z, hG, rfl⟩
  · refine qm_mono (fun r g q => ?_) (c_X12_scatter hok hRB hmd1 w)
    obtain ⟨e, v, ⟨gu', rfl⟩ | ⟨gu', -⟩⟩ := q
    · exact ⟨e, v, _, ⟨_, rfl⟩, rfl, rfl⟩
    · exact absurd gu gu'
  · refine qm_mono (fun r g q => ?_) (c_X12_scatter hok hRB hmd1 w)
    obtain ⟨e, v, ⟨gu', -⟩ | ⟨-, T, q, hS, rfl⟩⟩ := q
    · exact absurd gu' gu
    · exact ⟨e, v, _, ⟨_, rfl⟩, by rw [uu_scat_perm (LP_perm hok hG hS)], rfl⟩
theorem js_finest (k : Int32) : JS MX11_finest MX12_finest [.int k] isI := by
  refine JS_of (fun h J => ?_)
  obtain ⟨B, S, D, nl, kk, Ls, f, hx, hk, h13, hB, hok, hRB, hs, hL, hM, hmd, h22, htp, hK⟩ := J
  refine JQ_of (by decide) (by decide) hx hk h13 hB hok hRB hL hM hmd h22 htp hK (c_X11_finest hx hB hok hs k) (fun r1 h1 F1 hmd1 => ?_)
  rcases F1 with ⟨gu, rfl⟩ | ⟨gu, S', z, hG, rfl⟩
  · refine qm_mono (fun r g q => ?_) (c_X12_finest hok hRB hmd1)
    obtain ⟨e, v, ⟨gu', rfl⟩ | ⟨gu', -⟩⟩ := q
    · exact ⟨e, v, _, ⟨_, rfl⟩, rfl, rfl⟩
    · exact absurd gu gu'
  · refine qm_mono (fun r g q => ?_) (c_X12_finest hok hRB hmd1)
    obtain ⟨e, v, ⟨gu', -⟩ | ⟨-, T, q, hS, rfl⟩⟩ := q
    · exact absurd gu' gu
    · exact ⟨e, v, _, ⟨_, rfl⟩, by rw [fnst_cong 5 (fun v _ => uu_scat_perm (LP_perm (w := nI v) hok hG hS))], rfl⟩
theorem js_longitude (gg hh k x : Int32) : JS MX11_longitude MX12_longitude [.int gg, .int hh, .int k, .int x] isI := by
  refine JS_of (fun h J => ?_)
  obtain ⟨B, S, D, nl, kk, Ls, f, hx, hk, h13, hB, hok, hRB, hs, hL, hM, hmd, h22, htp, hK⟩ := J
  refine JQ_of (by decide) (by decide) hx hk h13 hB hok hRB hL hM hmd h22 htp hK (c_X11_longitude hx hB hok hs gg hh k x) (fun r1 h1 F1 hmd1 => ?_)
  rcases F1 with ⟨gu, rfl⟩ | ⟨gu, S', z, hG, rfl⟩
  · obtain ⟨S', z, hG⟩ := GI_ex hB hok hs k
    refine qm_mono (fun r g q => ?_) (c_X12_longitude hok hRB (LM_rows hok hG).1 (hU_of hok hG) hmd1 gg hh x)
    obtain ⟨e, v, ⟨gu', rfl⟩ | ⟨gu', -⟩⟩ := q
    · exact ⟨e, v, _, ⟨_, rfl⟩, rfl, rfl⟩
    · exact absurd gu gu'
  · refine qm_mono (fun r g q => ?_) (c_X12_longitude hok hRB (LM_rows hok hG).1 (hU_of hok hG) hmd1 gg hh x)
    obtain ⟨e, v, ⟨gu', -⟩ | ⟨-, T, q, hS, rfl⟩⟩ := q
    · exact absurd gu' gu
    · exact ⟨e, v, _, ⟨_, rfl⟩, by rw [long_perm (LC_perm hok hG hS) x], rfl⟩
theorem js_tied (s : Int32) : JS MX11_tied MX12_tied [.int s] isI := by
  refine JS_of (fun h J => ?_)
  obtain ⟨B, S, D, nl, kk, Ls, f, hx, hk, h13, hB, hok, hRB, hs, hL, hM, hmd, h22, htp, hK⟩ := J
  have hj : 2 ^ nJ B ≤ 2 ^ 9 := Nat.pow_le_pow_right (by decide) hok.2.2.2.2.2.2.1
  have no : ∀ m, m < 2 ^ nJ B → bi_in (nI m) 0 (nI (2 ^ nJ B - 1)) = 0 → False := fun m hm z => by
    rw [bi_in_le (by omega) (by omega)] at z
    exact absurd z (by decide)
  refine JQ_of (by decide) (by decide) hx hk h13 hB hok hRB hL hM hmd h22 htp hK (c_X11_tied hx hB hok hs s) (fun r1 h1 F1 hmd1 => ?_)
  rcases F1 with ⟨gu, rfl⟩ | ⟨m, hm, rfl, S', z, hG, rfl⟩
  · obtain ⟨S', z, hG⟩ := GI_ex hB hok hs (bk_now B)
    refine qm_mono (fun r g q => ?_) (c_X12_tied hok hRB (LM_rows hok hG).1 (hU_of hok hG) hmd1 s)
    obtain ⟨e, v, ⟨gu', rfl⟩ | ⟨m, hm, rfl, -⟩⟩ := q
    · exact ⟨e, v, _, ⟨_, rfl⟩, rfl, rfl⟩
    · exact (no m hm gu).elim
  · refine qm_mono (fun r g q => ?_) (c_X12_tied hok hRB (LM_rows hok hG).1 (hU_of hok hG) hmd1 (nI m))
    obtain ⟨e, v, ⟨gu', -⟩ | ⟨m', hm', em, rfl⟩⟩ := q
    · exact (no m hm gu').elim
    · have e1 := nI_inj (by omega) (by omega) em
      subst e1
      exact ⟨e, v, _, ⟨_, rfl⟩, rfl, rfl⟩
theorem js_plan (w x : Int32) : JS MX11_plan MX12_plan [.int w, .int x] isI := by
  refine JS_of (fun h J => ?_)
  obtain ⟨B, S, D, nl, kk, Ls, f, hx, hk, h13, hB, hok, hRB, hs, hL, hM, hmd, h22, htp, hK⟩ := J
  refine JQ_of (by decide) (by decide) hx hk h13 hB hok hRB hL hM hmd h22 htp hK (c_X11_plan hx hB hok hs w x) (fun r1 h1 F1 hmd1 => ?_)
  rcases F1 with ⟨gu, rfl⟩ | ⟨gu, S', z, hG, rfl⟩
  · obtain ⟨S', z, hG⟩ := GI_ex hB hok hs (bk_now B)
    refine qm_mono (fun r g q => ?_) (c_X12_plan hok hRB (LM_rows hok hG).1 (hU_of hok hG) hmd1 w x)
    obtain ⟨e, v, ⟨gu', rfl⟩ | ⟨gu', -⟩⟩ := q
    · exact ⟨e, v, _, ⟨_, rfl⟩, rfl, rfl⟩
    · exact absurd gu gu'
  · refine qm_mono (fun r g q => ?_) (c_X12_plan hok hRB (LM_rows hok hG).1 (hU_of hok hG) hmd1 w x)
    obtain ⟨e, v, ⟨gu', -⟩ | ⟨-, rfl⟩⟩ := q
    · exact absurd gu' gu
    · exact ⟨e, v, _, ⟨_, rfl⟩, rfl, rfl⟩
theorem js_next : JS MX11_next MX12_next [] isI := by
  refine JS_of (fun h J => ?_)
  obtain ⟨B, S, D, nl, kk, Ls, f, hx, hk, h13, hB, hok, hRB, hs, hL, hM, hmd, h22, htp, hK⟩ := J
  refine JQ_of (by decide) (by decide) hx hk h13 hB hok hRB hL hM hmd h22 htp hK (c_X11_next hx hB hok hs) (fun r1 h1 F1 hmd1 => ?_)
  obtain ⟨S', z, hG, rfl⟩ := F1
  refine qm_mono (fun r g q => ?_) (c_X12_next hok hRB (LM_rows hok hG).1 (hU_of hok hG) hmd1)
  obtain ⟨e, v, rfl⟩ := q
  exact ⟨e, v, _, ⟨_, rfl⟩, rfl, rfl⟩
theorem js_gives (n k : Int32) : JS MX11_gives MX12_gives [.int n, .int k] isI := by
  refine JS_of (fun h J => ?_)
  obtain ⟨B, S, D, nl, kk, Ls, f, hx, hk, h13, hB, hok, hRB, hs, hL, hM, hmd, h22, htp, hK⟩ := J
  have hnl := hM.2.1
  refine JQ_of (by decide) (by decide) hx hk h13 hB hok hRB hL hM hmd h22 htp hK (c_X11_gives hx hB hok hL.lws hs n k) (fun r1 h1 F1 hmd1 => ?_)
  refine qm_mono (fun r g q => ?_) (c_X12_gives hok hRB hM hmd1 n k)
  obtain ⟨e, ⟨V, v1, v2⟩, q⟩ := q
  refine ⟨e, ⟨V, v1, v2.mq⟩, ?_⟩
  rcases F1 with ⟨gu, rfl⟩ | ⟨gu, m, hm, rfl, rfl⟩
  · rcases q with ⟨gu', rfl⟩ | ⟨gu', -⟩
    · exact ⟨_, ⟨_, rfl⟩, rfl, rfl⟩
    · exact absurd gu gu'
  · rcases q with ⟨gu', -⟩ | ⟨-, m', hm', em, rfl⟩
    · exact absurd gu' gu
    · have e1 := nI_inj (by omega) (by omega) em
      subst e1
      exact ⟨_, ⟨_, rfl⟩, rfl, rfl⟩
theorem js_left (o n k : Int32) : JS MX11_left MX12_left [.int o, .int n, .int k] isL := by
  refine JS_of (fun h J => ?_)
  obtain ⟨B, S, D, nl, kk, Ls, f, hx, hk, h13, hB, hok, hRB, hs, hL, hM, hmd, h22, htp, hK⟩ := J
  have hnl := hM.2.1
  refine JQ_of (by decide) (by decide) hx hk h13 hB hok hRB hL hM hmd h22 htp hK (c_X11_left hx hB hok hL.lws hs o n k) (fun r1 h1 F1 hmd1 => ?_)
  refine qm_mono (fun r g q => ?_) (c_X12_left hok hRB hM hmd1 o n k)
  obtain ⟨e, ⟨V, v1, v2⟩, q⟩ := q
  refine ⟨e, ⟨V, v1, v2.mq⟩, ?_⟩
  rcases F1 with ⟨gu, rfl⟩ | ⟨gu, m, hm, rfl, rfl⟩
  · rcases q with ⟨gu', rfl⟩ | ⟨gu', -⟩
    · exact ⟨_, ⟨_, rfl⟩, rfl, rfl⟩
    · exact absurd gu gu'
  · rcases q with ⟨gu', -⟩ | ⟨-, m', hm', em, rfl⟩
    · exact absurd gu' gu
    · have e1 := nI_inj (by omega) (by omega) em
      subst e1
      exact ⟨_, ⟨_, rfl⟩, rfl, rfl⟩
theorem js_best (o k p x : Int32) : JS MX11_best MX12_best [.int o, .int k, .int p, .int x] isI := by
  refine JS_of (fun h J => ?_)
  obtain ⟨B, S, D, nl, kk, Ls, f, hx, hk, h13, hB, hok, hRB, hs, hL, hM, hmd, h22, htp, hK⟩ := J
  refine JQ_of (by decide) (by decide) hx hk h13 hB hok hRB hL hM hmd h22 htp hK (c_X11_best hx hB hok hL.lws hs o k p x) (fun r1 h1 F1 hmd1 => ?_)
  refine qm_mono (fun r g q => ?_) (c_X12_best hok hRB hM hmd1 o k p x)
  obtain ⟨e, ⟨V, v1, v2⟩, q⟩ := q
  refine ⟨e, ⟨V, v1, v2.mq⟩, ?_⟩
  rcases F1 with ⟨gu, rfl⟩ | ⟨gu, rfl⟩
  · rcases q with ⟨gu', rfl⟩ | ⟨gu', -⟩
    · exact ⟨_, ⟨_, rfl⟩, rfl, rfl⟩
    · exact absurd gu gu'
  · rcases q with ⟨gu', -⟩ | ⟨-, rfl⟩
    · exact absurd gu' gu
    · exact ⟨_, ⟨_, rfl⟩, rfl, rfl⟩
theorem js_later (a b sd sp n : Int32) : JS MX11_later MX12_later [.int a, .int b, .int sd, .int sp, .int n] isI := by
  refine JS_of (fun h J => ?_)
  obtain ⟨B, S, D, nl, kk, Ls, f, hx, hk, h13, hB, hok, hRB, hs, hL, hM, hmd, h22, htp, hK⟩ := J
  have ho := hok.2.1.2.1
  refine JQ_of (by decide) (by decide) hx hk h13 hB hok hRB hL hM hmd h22 htp hK (c_X11_later hx hB hok hL.lws hs a b sd sp n) (fun r1 h1 F1 hmd1 => ?_)
  refine qm_mono (fun r g q => ?_) (c_X12_later hok hRB hM hmd1 a b sd sp n)
  obtain ⟨e, v, q⟩ := q
  refine ⟨e, v, ?_⟩
  rcases F1 with ⟨gu, rfl⟩ | ⟨gu, i, j, s, w, hi, hj, hij, ei, ej, hs9, es, hw, ew, S', z, hG, rfl⟩
  · rcases q with ⟨gu', rfl⟩ | ⟨gu', -⟩
    · exact ⟨_, ⟨_, rfl⟩, rfl, rfl⟩
    · exact absurd gu gu'
  · rcases q with ⟨gu', -⟩ | ⟨-, i', j', s', w', hi', hj', -, ei', ej', hs9', es', hw', ew', T, q, hq, hS, rfl⟩
    · exact absurd gu' gu
    · have e1 := nI_inj (by omega) (by omega) (ei.symm.trans ei')
      have e2 := nI_inj (by omega) (by omega) (ej.symm.trans ej')
      have e3 := nI_inj (by omega) (by omega) (es.symm.trans es')
      have e4 := nI_inj (by omega) (by omega) (ew.symm.trans ew')
      subst e1 e2 e3 e4
      exact ⟨_, ⟨_, rfl⟩, by rw [later_perm (keys_perm hok hG hS (by omega))], rfl⟩
