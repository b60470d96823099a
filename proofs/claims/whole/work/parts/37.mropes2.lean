/-! 37: the model's ropesTo, ropes (walks laid by wip/whole/p37.py) -/
/-- the first of the last m that a goes by -/
def rn (e : Nat → Nat → Option Nat) (d : Tl) (a n : Nat) : Nat → Int32
  | 0 => -1
  | m + 1 => if ro_by e d a (n - (m + 1)) = d a then nI (n - (m + 1)) else rn e d a n m
theorem rn_is {e : Nat → Nat → Option Nat} {d : Tl} {a n : Nat} : ∀ m, m ≤ n → (∃ c, n - m ≤ c ∧ c < n ∧ ro_by e d a c = d a) → rn e d a n m = nI (ro_fst e d a m (n - m)) := by
  intro m
  induction m with
  | zero => rintro _ ⟨c, h1, h2, -⟩; omega
  | succ m ih =>
    rintro hm ⟨c, h1, h2, h3⟩
    rw [rn, ro_fst]
    by_cases h : ro_by e d a (n - (m + 1)) = d a
    · rw [if_pos h, if_pos h]
    · rw [if_neg h, if_neg h, show n - (m + 1) + 1 = n - m by omega]
      refine ih (by omega) ⟨c, ?_, h2, h3⟩
      have : c ≠ n - (m + 1) := fun z => h (z ▸ h3)
      omega
/-- the next knot of x -/
def rnx (U : Nat → List Int) (n b x : Nat) : Int32 := match ro_end (ro_U U) n b x with
  | none => -1
  | some v => if v % 32 = 0 then -1 else nI (ro_nx (ro_U U) n (ro_end (ro_U U) n b) x)
theorem rn_nx {U : Nat → List Int} {n b x v : Nat} (hn : n ≤ 16) (hb : b < n) (hv : ro_end (ro_U U) n b x = some v) (h : 0 < v % 32) : rn (ro_U U) (ro_end (ro_U U) n b) x n n = rnx U n b x := by
  have hne : x ≠ b := by
    intro z
    rw [z, ro_end_g (ro_32_pos (ro_U_32 U)) hb] at hv
    cases hv
    omega
  obtain ⟨c, h1, h2⟩ := ro_end_nx (ro_32_pos (ro_U_32 U)) hb hv hne
  rw [rn_is n (Nat.le_refl n) ⟨c, by omega, h1, h2.trans hv.symm⟩]
  unfold rnx
  rw [hv]
  show _ = if v % 32 = 0 then -1 else nI _
  rw [if_neg (by omega), Nat.sub_self]
  rfl
/-- what the rows hold but the next knots -/
def rsm (V W : Md) : Prop := W.2.2.1 58 = V.2.2.1 58 ∧ W.2.2.2 = V.2.2.2
theorem is_yes {U : Nat → List Int} {V : Md} {n a b c v : Nat} {d : Tl} (hn : n ≤ 16) (hl : lrow U) (hm : mrow V U) (hg : ro_good (ro_U U) n b d) (ha : a < n) (hc : c < n) (hcol : rcol V n b d) (hv : d a = some v) (h1 : ¬ V.2.2.1 50 (16 * a + c) ≤ 0) (h2 : ¬ V.2.2.1 58 (16 * c + b) = -1) : U (16 * a + c) ≠ [] ∧ ∃ u, d c = some u ∧ (ro_by (ro_U U) d a c = d a ↔ (u % 32 + 1 = v % 32 ∧ ((u / 32 : Nat) : Int) + zw (U (16 * a + c)) = ((v / 32 : Nat) : Int))) ∧ u ≤ 19578720015 ∧ v ≤ 19578720015 := by
  obtain ⟨u, X, e1, e2, e3, e4, e5, e6, e7⟩ := sh_by (a := a) (c := c) hn hl hm hg ha hc (fun z => h1 (by rw [z]; decide)) h2 hcol
  have hv2 := (ro_U_b hl hn hg hv).1
  have hv3 := (ro_good_li (ro_U_32 U) hn hg hv).1
  refine ⟨e3, u, e1, ?_, e6, hv2⟩
  rw [e2, hv, Option.some.injEq]
  omega
theorem is_no {U : Nat → List Int} {V : Md} {n a b c v : Nat} {d : Tl} (hn : n ≤ 16) (hl : lrow U) (hm : mrow V U) (ha : a < n) (hc : c < n) (hcol : rcol V n b d) (hv : d a = some v) (h : V.2.2.1 50 (16 * a + c) ≤ 0 ∨ V.2.2.1 58 (16 * c + b) = -1) : ¬ ro_by (ro_U U) d a c = d a := by
  intro e
  rw [hv] at e
  obtain ⟨x, y, ex, ey, -⟩ := ro_by_some.1 e
  cases h with
  | inl h =>
    have hk : 16 * a + c < 256 := by omega
    rw [(hm _ hk).1, i32_le0 (by have := (hl _ hk).1; omega), len_0] at h
    exact (ro_U_ne e).2.2 (by rw [Nat.mul_comm]; exact h)
  | inr h =>
    rw [((hcol c hc).2 y ey).1] at h
    exact nI_m1 (by omega) h
theorem aI_m1 {n : Nat} (h : 0 < n) (h2 : n < 2 ^ 31) : aI ((n : Int) - 1) = nI (n - 1) := by
  rw [← aI_nat]; congr 1; omega
set_option maxRecDepth 100000 in
set_option maxHeartbeats 4000000 in
theorem l5_X12_ropesTo {h : ai_H} {V0 : Md} {U : Nat → List Int} {n b : Nat} (hn : n ≤ 16) (hb : b < n) (hob0 : V0.1 2 = nI n) (hl : lrow U) (hm : mrow V0 U) {a v : Nat} {N : Nat → Int32} {Q : Option Value → ai_H → Prop} (ha : a < n) (hcol0 : rcol V0 n b (ro_end (ro_U U) n b)) (hv : ro_end (ro_U U) n b a = some v) (hpos : 0 < v % 32) (kx : ∀ (g : ai_H) (u6 u7 u8 : Value) (V : Md), md_ext h g → md_at g V → rg b V0 V → rsm V0 V → (∀ x, x < n → x ≠ a → V.2.2.1 59 (16 * x + b) = N x) → V.2.2.1 59 (16 * a + b) = rn (ro_U U) (ro_end (ro_U U) n b) a n n → ai_W MX12_ropesTo 296 [.ref 307, .int (nI b), .int 0, .int (nI a), .int (nI (16 * a + b)), .int (aI ((n : Int) - n - 1)), u6, u7, u8] [] g Q) : ∀ (m j : Nat) (u6 u7 u8 : Value) (g : ai_H) (V : Md), j ≤ n → n + 1 ≤ j + m → md_ext h g → md_at g V → rg b V0 V → rsm V0 V → (∀ x, x < n → x ≠ a → V.2.2.1 59 (16 * x + b) = N x) → V.2.2.1 59 (16 * a + b) = rn (ro_U U) (ro_end (ro_U U) n b) a n j → ai_W MX12_ropesTo 161 [.ref 307, .int (nI b), .int 0, .int (nI a), .int (nI (16 * a + b)), .int (aI ((n : Int) - j - 1)), u6, u7, u8] [] g Q := by
  intro m
  induction m with
  | zero => intro j u6 u7 u8 g V h1 h2; exact absurd h2 (by omega)
  | succ m ih =>
    intro j u6 u7 u8 g V hj0 him E0 hmd hrg hsm hkp hnx
    have hmr := hrg.mrow hm
    have hgd := ro_end_good (ro_32_pos (ro_U_32 U)) hb
    have hcol : rcol V n b (ro_end (ro_U U) n b) := by intro x hx; rw [hsm.1, hsm.2]; exact hcol0 x hx
    obtain ⟨e58, e56⟩ := (hcol a ha).2 v hv
    have hv16 := (ro_good_li (ro_U_32 U) hn hgd hv).1
    refine wq (fun _ _ kk => rs_iload (pc := 161) dX12_ropesTo_161 rfl kk) ?_
    refine wq_br (fun _ _ kt kf => rs_if_lt (tgt := 296) (pc := 163) dX12_ropesTo_163 rfl kt kf) (fun c_163 => ?_) (fun c_163 => ?_)
    · have hj : j = n := by
        rcases Nat.lt_or_ge j n with z | z
        · exact absurd c_163 (by rw [show (0 : Int32) = aI 0 from rfl, aI_lt (by omega) (by omega) (by omega) (by omega)]; omega)
        · omega
      subst hj
      exact kx g _ _ _ V E0 hmd hrg hsm hkp (by rw [hnx])
    · have hj : j < n := by
        rcases Nat.lt_or_ge j n with z | z
        · exact z
        · exact absurd (by rw [show (0 : Int32) = aI 0 from rfl, aI_lt (by omega) (by omega) (by omega) (by omega)]; omega) c_163
      obtain ⟨c, ec, hc⟩ : ∃ c, aI ((n : Int) - j - 1) = nI c ∧ c = n - (j + 1) := ⟨n - (j + 1), by rw [← aI_nat]; congr 1; omega, rfl⟩
      have hcn : c < n := by omega
      rw [ec]
      refine wq (fun _ _ kk => rs_aload_n (pc := 166) dX12_ropesTo_166 rfl kk) ?_
      refine wq (fun _ _ kk => rs_getf (pc := 167) dX12_ropesTo_167 fX12_141 (md_lt hmd (by decide)) hmd.2.1 rfl kk) ?_
      refine wq (fun _ _ kk => rs_iload (pc := 170) dX12_ropesTo_170 rfl kk) ?_
      refine wq (fun _ _ kk => rs_iald (pc := 172) dX12_ropesTo_172 (md_lt hmd (by decide)) (md_geti (d := 43) (k := 58) (kd := 0) (n := 256) rfl (by decide) hmd) (vp_in_nI (n := 16 * a + b) (N := 256) (by omega) (by decide)) kk) ?_
      rw [nI_clamp (show 16 * a + b < 2 ^ 31 by omega), e58]
      refine wq_br (fun _ _ kt kf => rs_if_le (tgt := 296) (pc := 173) dX12_ropesTo_173 rfl kt kf) (fun c_173 => absurd c_173 (fun z => by rw [i32_le0 (by omega)] at z; omega)) (fun c_173 => ?_)
      refine wq (fun _ _ kk => rs_bipush (v := 16) (pc := 176) dX12_ropesTo_176 rfl kk) ?_
      refine wq (fun _ _ kk => rs_iload_n (pc := 178) dX12_ropesTo_178 rfl kk) ?_
      refine wq (fun _ _ kk => rs_imul (pc := 179) dX12_ropesTo_179 kk) ?_
      rw [show (16 : Int32) * nI a = nI (16 * a) from pk_mul 16 (a)]
      refine wq (fun _ _ kk => rs_iload (pc := 180) dX12_ropesTo_180 rfl kk) ?_
      refine wq (fun _ _ kk => rs_iadd (pc := 182) dX12_ropesTo_182 kk) ?_
      rw [nI_add]
      refine wq (fun _ _ kk => wk_ist6 (pc := 183) dX12_ropesTo_183 (by decide) rfl kk) ?_
      refine wq (fun _ _ kk => rs_bipush (v := 16) (pc := 185) dX12_ropesTo_185 rfl kk) ?_
      refine wq (fun _ _ kk => rs_iload (pc := 187) dX12_ropesTo_187 rfl kk) ?_
      refine wq (fun _ _ kk => rs_imul (pc := 189) dX12_ropesTo_189 kk) ?_
      rw [show (16 : Int32) * nI c = nI (16 * c) from pk_mul 16 (c)]
      refine wq (fun _ _ kk => rs_iload_n (pc := 190) dX12_ropesTo_190 rfl kk) ?_
      refine wq (fun _ _ kk => rs_iadd (pc := 191) dX12_ropesTo_191 kk) ?_
      rw [nI_add]
      refine wq (fun _ _ kk => wk_ist7 (pc := 192) dX12_ropesTo_192 (by decide) rfl kk) ?_
      refine wq (fun _ _ kk => rs_aload_n (pc := 194) dX12_ropesTo_194 rfl kk) ?_
      refine wq (fun _ _ kk => rs_getf (pc := 195) dX12_ropesTo_195 fX12_117 (md_lt hmd (by decide)) hmd.2.1 rfl kk) ?_
      refine wq (fun _ _ kk => rs_iload (pc := 198) dX12_ropesTo_198 rfl kk) ?_
      refine wq (fun _ _ kk => rs_iald (pc := 200) dX12_ropesTo_200 (md_lt hmd (by decide)) (md_geti (d := 35) (k := 50) (kd := 0) (n := 256) rfl (by decide) hmd) (vp_in_nI (n := 16 * a + c) (N := 256) (by omega) (by decide)) kk) ?_
      rw [nI_clamp (show 16 * a + c < 2 ^ 31 by omega)]
      refine wq_br (fun _ _ kt kf => rs_if_le (tgt := 263) (pc := 201) dX12_ropesTo_201 rfl kt kf) (fun c_201 => ?_) (fun c_201 => ?_)
      · have hno := is_no hn hl hmr ha hcn hcol hv (Or.inl c_201)
        refine wq (fun _ _ kk => rs_iconst (v := 0) (pc := 263) dX12_ropesTo_263 rfl kk) ?_
        refine wq (fun _ _ kk => wk_ist8 (pc := 264) dX12_ropesTo_264 (by decide) rfl kk) ?_
        refine wq (fun _ _ kk => rs_aload_n (pc := 266) dX12_ropesTo_266 rfl kk) ?_
        refine wq (fun _ _ kk => rs_getf (pc := 267) dX12_ropesTo_267 fX12_144 (md_lt hmd (by decide)) hmd.2.1 rfl kk) ?_
        refine wq (fun _ _ kk => rs_iload (pc := 270) dX12_ropesTo_270 rfl kk) ?_
        refine wq (fun _ _ kk => rs_iload (pc := 272) dX12_ropesTo_272 rfl kk) ?_
        refine wq_br (fun _ _ kt kf => rs_if_eq (tgt := 282) (pc := 274) dX12_ropesTo_274 rfl kt kf) (fun c_274 => ?_) (fun c_274 => absurd c_274 (by decide))
        refine wq (fun _ _ kk => rs_aload_n (pc := 282) dX12_ropesTo_282 rfl kk) ?_
        refine wq (fun _ _ kk => rs_getf (pc := 283) dX12_ropesTo_283 fX12_144 (md_lt hmd (by decide)) hmd.2.1 rfl kk) ?_
        refine wq (fun _ _ kk => rs_iload (pc := 286) dX12_ropesTo_286 rfl kk) ?_
        refine wq (fun _ _ kk => rs_iald (pc := 288) dX12_ropesTo_288 (md_lt hmd (by decide)) (md_geti (d := 44) (k := 59) (kd := 0) (n := 256) rfl (by decide) hmd) (vp_in_nI (n := 16 * a + b) (N := 256) (by omega) (by decide)) kk) ?_
        rw [nI_clamp (show 16 * a + b < 2 ^ 31 by omega)]
        refine wq (fun _ _ kk => rs_iast (pc := 289) dX12_ropesTo_289 (md_lt hmd (by decide)) (md_geti (d := 44) (k := 59) (kd := 0) (n := 256) rfl (by decide) hmd) (vp_in_nI (n := 16 * a + b) (N := 256) (by omega) (by decide)) kk) ?_
        refine wq_gen (fun h_1 e_1 => ?_)
        obtain ⟨m_1, s_1, g_1, o_1⟩ := ai_e1 e_1
        replace hmd := md_at_ai (d := 44) rfl (by decide) hmd m_1 g_1 o_1
        have E_1 := (E0).trans (md_ext_of m_1 s_1 o_1 (by decide))
        refine wq (fun _ _ kk => wk_iinc5 (v := aI ((n : Int) - (j + 1 : Nat) - 1)) (pc := 290) dX12_ropesTo_290 (by decide) rfl (by rw [← aI_nat]; show aI _ + aI (-1) = _; rw [aI_add]; congr 1; omega) kk) ?_
        refine wq (fun _ _ kk => rs_goto (tgt := 161) (pc := 293) dX12_ropesTo_293 rfl kk) ?_
        rw [nI_clamp (show 16 * a + b < 2 ^ 31 by omega)] at hmd
        refine ih (j + 1) _ _ _ _ _ (by omega) (by omega) (E_1) hmd (hrg.trans (rg.i59 (by omega))) ⟨hsm.1, hsm.2⟩ (fun x hx hxa => ?_) ?_
        · show upd (V.2.2.1 59) (16 * a + b) _ (16 * x + b) = _
          rw [pk_un (by omega)]
          exact hkp x hx hxa
        · show upd (V.2.2.1 59) (16 * a + b) _ (16 * a + b) = _
          rw [pk_us, rn, ← hc]
          first
          | (rw [if_pos hyes])
          | (rw [if_neg hno]; exact hnx)
      · refine wq (fun _ _ kk => rs_aload_n (pc := 204) dX12_ropesTo_204 rfl kk) ?_
        refine wq (fun _ _ kk => rs_getf (pc := 205) dX12_ropesTo_205 fX12_141 (md_lt hmd (by decide)) hmd.2.1 rfl kk) ?_
        refine wq (fun _ _ kk => rs_iload (pc := 208) dX12_ropesTo_208 rfl kk) ?_
        refine wq (fun _ _ kk => rs_iald (pc := 210) dX12_ropesTo_210 (md_lt hmd (by decide)) (md_geti (d := 43) (k := 58) (kd := 0) (n := 256) rfl (by decide) hmd) (vp_in_nI (n := 16 * c + b) (N := 256) (by omega) (by decide)) kk) ?_
        rw [nI_clamp (show 16 * c + b < 2 ^ 31 by omega)]
        refine wq (fun _ _ kk => rs_iconst (v := -1) (pc := 211) dX12_ropesTo_211 rfl kk) ?_
        refine wq_br (fun _ _ kt kf => rs_icmp_eq (tgt := 263) (pc := 212) dX12_ropesTo_212 rfl kt kf) (fun c_212 => ?_) (fun c_212 => ?_)
        · have hno := is_no hn hl hmr ha hcn hcol hv (Or.inr c_212)
          refine wq (fun _ _ kk => rs_iconst (v := 0) (pc := 263) dX12_ropesTo_263 rfl kk) ?_
          refine wq (fun _ _ kk => wk_ist8 (pc := 264) dX12_ropesTo_264 (by decide) rfl kk) ?_
          refine wq (fun _ _ kk => rs_aload_n (pc := 266) dX12_ropesTo_266 rfl kk) ?_
          refine wq (fun _ _ kk => rs_getf (pc := 267) dX12_ropesTo_267 fX12_144 (md_lt hmd (by decide)) hmd.2.1 rfl kk) ?_
          refine wq (fun _ _ kk => rs_iload (pc := 270) dX12_ropesTo_270 rfl kk) ?_
          refine wq (fun _ _ kk => rs_iload (pc := 272) dX12_ropesTo_272 rfl kk) ?_
          refine wq_br (fun _ _ kt kf => rs_if_eq (tgt := 282) (pc := 274) dX12_ropesTo_274 rfl kt kf) (fun c_274 => ?_) (fun c_274 => absurd c_274 (by decide))
          refine wq (fun _ _ kk => rs_aload_n (pc := 282) dX12_ropesTo_282 rfl kk) ?_
          refine wq (fun _ _ kk => rs_getf (pc := 283) dX12_ropesTo_283 fX12_144 (md_lt hmd (by decide)) hmd.2.1 rfl kk) ?_
          refine wq (fun _ _ kk => rs_iload (pc := 286) dX12_ropesTo_286 rfl kk) ?_
          refine wq (fun _ _ kk => rs_iald (pc := 288) dX12_ropesTo_288 (md_lt hmd (by decide)) (md_geti (d := 44) (k := 59) (kd := 0) (n := 256) rfl (by decide) hmd) (vp_in_nI (n := 16 * a + b) (N := 256) (by omega) (by decide)) kk) ?_
          rw [nI_clamp (show 16 * a + b < 2 ^ 31 by omega)]
          refine wq (fun _ _ kk => rs_iast (pc := 289) dX12_ropesTo_289 (md_lt hmd (by decide)) (md_geti (d := 44) (k := 59) (kd := 0) (n := 256) rfl (by decide) hmd) (vp_in_nI (n := 16 * a + b) (N := 256) (by omega) (by decide)) kk) ?_
          refine wq_gen (fun h_2 e_2 => ?_)
          obtain ⟨m_2, s_2, g_2, o_2⟩ := ai_e1 e_2
          replace hmd := md_at_ai (d := 44) rfl (by decide) hmd m_2 g_2 o_2
          have E_2 := (E0).trans (md_ext_of m_2 s_2 o_2 (by decide))
          refine wq (fun _ _ kk => wk_iinc5 (v := aI ((n : Int) - (j + 1 : Nat) - 1)) (pc := 290) dX12_ropesTo_290 (by decide) rfl (by rw [← aI_nat]; show aI _ + aI (-1) = _; rw [aI_add]; congr 1; omega) kk) ?_
          refine wq (fun _ _ kk => rs_goto (tgt := 161) (pc := 293) dX12_ropesTo_293 rfl kk) ?_
          rw [nI_clamp (show 16 * a + b < 2 ^ 31 by omega)] at hmd
          refine ih (j + 1) _ _ _ _ _ (by omega) (by omega) (E_2) hmd (hrg.trans (rg.i59 (by omega))) ⟨hsm.1, hsm.2⟩ (fun x hx hxa => ?_) ?_
          · show upd (V.2.2.1 59) (16 * a + b) _ (16 * x + b) = _
            rw [pk_un (by omega)]
            exact hkp x hx hxa
          · show upd (V.2.2.1 59) (16 * a + b) _ (16 * a + b) = _
            rw [pk_us, rn, ← hc]
            first
            | (rw [if_pos hyes])
            | (rw [if_neg hno]; exact hnx)
        · obtain ⟨hne, u, eu, hby, hu, hv9⟩ := is_yes hn hl hmr hgd ha hcn hcol hv c_201 c_212
          obtain ⟨f58, f56⟩ := (hcol c hcn).2 u eu
          refine wq (fun _ _ kk => rs_aload_n (pc := 215) dX12_ropesTo_215 rfl kk) ?_
          refine wq (fun _ _ kk => rs_getf (pc := 216) dX12_ropesTo_216 fX12_141 (md_lt hmd (by decide)) hmd.2.1 rfl kk) ?_
          refine wq (fun _ _ kk => rs_iload (pc := 219) dX12_ropesTo_219 rfl kk) ?_
          refine wq (fun _ _ kk => rs_iald (pc := 221) dX12_ropesTo_221 (md_lt hmd (by decide)) (md_geti (d := 43) (k := 58) (kd := 0) (n := 256) rfl (by decide) hmd) (vp_in_nI (n := 16 * c + b) (N := 256) (by omega) (by decide)) kk) ?_
          rw [nI_clamp (show 16 * c + b < 2 ^ 31 by omega), f58]
          refine wq (fun _ _ kk => rs_iconst (v := 1) (pc := 222) dX12_ropesTo_222 rfl kk) ?_
          refine wq (fun _ _ kk => rs_iadd (pc := 223) dX12_ropesTo_223 kk) ?_
          rw [nI_1]
          refine wq (fun _ _ kk => rs_aload_n (pc := 224) dX12_ropesTo_224 rfl kk) ?_
          refine wq (fun _ _ kk => rs_getf (pc := 225) dX12_ropesTo_225 fX12_141 (md_lt hmd (by decide)) hmd.2.1 rfl kk) ?_
          refine wq (fun _ _ kk => rs_iload (pc := 228) dX12_ropesTo_228 rfl kk) ?_
          refine wq (fun _ _ kk => rs_iald (pc := 230) dX12_ropesTo_230 (md_lt hmd (by decide)) (md_geti (d := 43) (k := 58) (kd := 0) (n := 256) rfl (by decide) hmd) (vp_in_nI (n := 16 * a + b) (N := 256) (by omega) (by decide)) kk) ?_
          rw [nI_clamp (show 16 * a + b < 2 ^ 31 by omega), e58]
          refine wq_bn (fun _ _ kt kf => rs_icmp_ne (tgt := 263) (pc := 231) dX12_ropesTo_231 rfl kt kf) (fun c_231 => ?_) (fun c_231 => ?_)
          · have hno : ¬ ro_by (ro_U U) (ro_end (ro_U U) n b) a c = ro_end (ro_U U) n b a := fun z => c_231 (by rw [(hby.1 z).1])
            refine wq (fun _ _ kk => rs_iconst (v := 0) (pc := 263) dX12_ropesTo_263 rfl kk) ?_
            refine wq (fun _ _ kk => wk_ist8 (pc := 264) dX12_ropesTo_264 (by decide) rfl kk) ?_
            refine wq (fun _ _ kk => rs_aload_n (pc := 266) dX12_ropesTo_266 rfl kk) ?_
            refine wq (fun _ _ kk => rs_getf (pc := 267) dX12_ropesTo_267 fX12_144 (md_lt hmd (by decide)) hmd.2.1 rfl kk) ?_
            refine wq (fun _ _ kk => rs_iload (pc := 270) dX12_ropesTo_270 rfl kk) ?_
            refine wq (fun _ _ kk => rs_iload (pc := 272) dX12_ropesTo_272 rfl kk) ?_
            refine wq_br (fun _ _ kt kf => rs_if_eq (tgt := 282) (pc := 274) dX12_ropesTo_274 rfl kt kf) (fun c_274 => ?_) (fun c_274 => absurd c_274 (by decide))
            refine wq (fun _ _ kk => rs_aload_n (pc := 282) dX12_ropesTo_282 rfl kk) ?_
            refine wq (fun _ _ kk => rs_getf (pc := 283) dX12_ropesTo_283 fX12_144 (md_lt hmd (by decide)) hmd.2.1 rfl kk) ?_
            refine wq (fun _ _ kk => rs_iload (pc := 286) dX12_ropesTo_286 rfl kk) ?_
            refine wq (fun _ _ kk => rs_iald (pc := 288) dX12_ropesTo_288 (md_lt hmd (by decide)) (md_geti (d := 44) (k := 59) (kd := 0) (n := 256) rfl (by decide) hmd) (vp_in_nI (n := 16 * a + b) (N := 256) (by omega) (by decide)) kk) ?_
            rw [nI_clamp (show 16 * a + b < 2 ^ 31 by omega)]
            refine wq (fun _ _ kk => rs_iast (pc := 289) dX12_ropesTo_289 (md_lt hmd (by decide)) (md_geti (d := 44) (k := 59) (kd := 0) (n := 256) rfl (by decide) hmd) (vp_in_nI (n := 16 * a + b) (N := 256) (by omega) (by decide)) kk) ?_
            refine wq_gen (fun h_3 e_3 => ?_)
            obtain ⟨m_3, s_3, g_3, o_3⟩ := ai_e1 e_3
            replace hmd := md_at_ai (d := 44) rfl (by decide) hmd m_3 g_3 o_3
            have E_3 := (E0).trans (md_ext_of m_3 s_3 o_3 (by decide))
            refine wq (fun _ _ kk => wk_iinc5 (v := aI ((n : Int) - (j + 1 : Nat) - 1)) (pc := 290) dX12_ropesTo_290 (by decide) rfl (by rw [← aI_nat]; show aI _ + aI (-1) = _; rw [aI_add]; congr 1; omega) kk) ?_
            refine wq (fun _ _ kk => rs_goto (tgt := 161) (pc := 293) dX12_ropesTo_293 rfl kk) ?_
            rw [nI_clamp (show 16 * a + b < 2 ^ 31 by omega)] at hmd
            refine ih (j + 1) _ _ _ _ _ (by omega) (by omega) (E_3) hmd (hrg.trans (rg.i59 (by omega))) ⟨hsm.1, hsm.2⟩ (fun x hx hxa => ?_) ?_
            · show upd (V.2.2.1 59) (16 * a + b) _ (16 * x + b) = _
              rw [pk_un (by omega)]
              exact hkp x hx hxa
            · show upd (V.2.2.1 59) (16 * a + b) _ (16 * a + b) = _
              rw [pk_us, rn, ← hc]
              first
              | (rw [if_pos hyes])
              | (rw [if_neg hno]; exact hnx)
          · have c_231 := nI_inj (by omega) (by omega) c_231
            refine wq (fun _ _ kk => rs_aload_n (pc := 234) dX12_ropesTo_234 rfl kk) ?_
            refine wq (fun _ _ kk => rs_getf (pc := 235) dX12_ropesTo_235 fX12_135 (md_lt hmd (by decide)) hmd.2.1 rfl kk) ?_
            refine wq (fun _ _ kk => rs_iload (pc := 238) dX12_ropesTo_238 rfl kk) ?_
            refine wq (fun _ _ kk => rs_lald (pc := 240) dX12_ropesTo_240 (md_lt hmd (by decide)) (md_getl (d := 41) (k := 56) (kd := 1) (n := 256) rfl (by decide) hmd) (vp_in_nI (n := 16 * c + b) (N := 256) (by omega) (by decide)) kk) ?_
            rw [nI_clamp (show 16 * c + b < 2 ^ 31 by omega), f56]
            refine wq (fun _ _ kk => rs_aload_n (pc := 241) dX12_ropesTo_241 rfl kk) ?_
            refine wq (fun _ _ kk => rs_iload (pc := 242) dX12_ropesTo_242 rfl kk) ?_
            refine wq (fun _ _ kk => rs_callV (as := [_]) (pc := 244) dX12_ropesTo_244 mk_X12_width mlX12_432 in_X12_width se_X12_width rfl (md_lt hmd (by decide)) hmd.2.1 rfl rfl (Nat.le_of_ble_eq_true rfl) (c_X12_width hmd hl hmr (show 16 * a + c < 256 by omega) hne) kk) ?_
            refine wq (fun _ _ kk => rs_ladd (pc := 247) dX12_ropesTo_247 kk) ?_
            rw [aL_add]
            refine wq (fun _ _ kk => rs_aload_n (pc := 248) dX12_ropesTo_248 rfl kk) ?_
            refine wq (fun _ _ kk => rs_getf (pc := 249) dX12_ropesTo_249 fX12_135 (md_lt hmd (by decide)) hmd.2.1 rfl kk) ?_
            refine wq (fun _ _ kk => rs_iload (pc := 252) dX12_ropesTo_252 rfl kk) ?_
            refine wq (fun _ _ kk => rs_lald (pc := 254) dX12_ropesTo_254 (md_lt hmd (by decide)) (md_getl (d := 41) (k := 56) (kd := 1) (n := 256) rfl (by decide) hmd) (vp_in_nI (n := 16 * a + b) (N := 256) (by omega) (by decide)) kk) ?_
            rw [nI_clamp (show 16 * a + b < 2 ^ 31 by omega), e56]
            have hzw := zw_b hl (show 16 * a + c < 256 by omega) hne
            refine wq_bn (fun _ _ kt kf => wk_lcmp_ne (tgt := 263) (pc := 255) dX12_ropesTo_255 dX12_ropesTo_256 rfl kt kf) (fun c_255 => ?_) (fun c_255 => ?_)
            · rw [aL_eq (by omega) (by omega) (by omega) (by omega)] at c_255
              have hno : ¬ ro_by (ro_U U) (ro_end (ro_U U) n b) a c = ro_end (ro_U U) n b a := fun z => c_255 (hby.1 z).2
              refine wq (fun _ _ kk => rs_iconst (v := 0) (pc := 263) dX12_ropesTo_263 rfl kk) ?_
              refine wq (fun _ _ kk => wk_ist8 (pc := 264) dX12_ropesTo_264 (by decide) rfl kk) ?_
              refine wq (fun _ _ kk => rs_aload_n (pc := 266) dX12_ropesTo_266 rfl kk) ?_
              refine wq (fun _ _ kk => rs_getf (pc := 267) dX12_ropesTo_267 fX12_144 (md_lt hmd (by decide)) hmd.2.1 rfl kk) ?_
              refine wq (fun _ _ kk => rs_iload (pc := 270) dX12_ropesTo_270 rfl kk) ?_
              refine wq (fun _ _ kk => rs_iload (pc := 272) dX12_ropesTo_272 rfl kk) ?_
              refine wq_br (fun _ _ kt kf => rs_if_eq (tgt := 282) (pc := 274) dX12_ropesTo_274 rfl kt kf) (fun c_274 => ?_) (fun c_274 => absurd c_274 (by decide))
              refine wq (fun _ _ kk => rs_aload_n (pc := 282) dX12_ropesTo_282 rfl kk) ?_
              refine wq (fun _ _ kk => rs_getf (pc := 283) dX12_ropesTo_283 fX12_144 (md_lt hmd (by decide)) hmd.2.1 rfl kk) ?_
              refine wq (fun _ _ kk => rs_iload (pc := 286) dX12_ropesTo_286 rfl kk) ?_
              refine wq (fun _ _ kk => rs_iald (pc := 288) dX12_ropesTo_288 (md_lt hmd (by decide)) (md_geti (d := 44) (k := 59) (kd := 0) (n := 256) rfl (by decide) hmd) (vp_in_nI (n := 16 * a + b) (N := 256) (by omega) (by decide)) kk) ?_
              rw [nI_clamp (show 16 * a + b < 2 ^ 31 by omega)]
              refine wq (fun _ _ kk => rs_iast (pc := 289) dX12_ropesTo_289 (md_lt hmd (by decide)) (md_geti (d := 44) (k := 59) (kd := 0) (n := 256) rfl (by decide) hmd) (vp_in_nI (n := 16 * a + b) (N := 256) (by omega) (by decide)) kk) ?_
              refine wq_gen (fun h_4 e_4 => ?_)
              obtain ⟨m_4, s_4, g_4, o_4⟩ := ai_e1 e_4
              replace hmd := md_at_ai (d := 44) rfl (by decide) hmd m_4 g_4 o_4
              have E_4 := (E0).trans (md_ext_of m_4 s_4 o_4 (by decide))
              refine wq (fun _ _ kk => wk_iinc5 (v := aI ((n : Int) - (j + 1 : Nat) - 1)) (pc := 290) dX12_ropesTo_290 (by decide) rfl (by rw [← aI_nat]; show aI _ + aI (-1) = _; rw [aI_add]; congr 1; omega) kk) ?_
              refine wq (fun _ _ kk => rs_goto (tgt := 161) (pc := 293) dX12_ropesTo_293 rfl kk) ?_
              rw [nI_clamp (show 16 * a + b < 2 ^ 31 by omega)] at hmd
              refine ih (j + 1) _ _ _ _ _ (by omega) (by omega) (E_4) hmd (hrg.trans (rg.i59 (by omega))) ⟨hsm.1, hsm.2⟩ (fun x hx hxa => ?_) ?_
              · show upd (V.2.2.1 59) (16 * a + b) _ (16 * x + b) = _
                rw [pk_un (by omega)]
                exact hkp x hx hxa
              · show upd (V.2.2.1 59) (16 * a + b) _ (16 * a + b) = _
                rw [pk_us, rn, ← hc]
                first
                | (rw [if_pos hyes])
                | (rw [if_neg hno]; exact hnx)
            · rw [aL_eq (by omega) (by omega) (by omega) (by omega)] at c_255
              have hyes : ro_by (ro_U U) (ro_end (ro_U U) n b) a c = ro_end (ro_U U) n b a := hby.2 ⟨c_231, c_255⟩
              refine wq (fun _ _ kk => rs_iconst (v := 1) (pc := 259) dX12_ropesTo_259 rfl kk) ?_
              refine wq (fun _ _ kk => rs_goto (tgt := 264) (pc := 260) dX12_ropesTo_260 rfl kk) ?_
              refine wq (fun _ _ kk => wk_ist8 (pc := 264) dX12_ropesTo_264 (by decide) rfl kk) ?_
              refine wq (fun _ _ kk => rs_aload_n (pc := 266) dX12_ropesTo_266 rfl kk) ?_
              refine wq (fun _ _ kk => rs_getf (pc := 267) dX12_ropesTo_267 fX12_144 (md_lt hmd (by decide)) hmd.2.1 rfl kk) ?_
              refine wq (fun _ _ kk => rs_iload (pc := 270) dX12_ropesTo_270 rfl kk) ?_
              refine wq (fun _ _ kk => rs_iload (pc := 272) dX12_ropesTo_272 rfl kk) ?_
              refine wq_br (fun _ _ kt kf => rs_if_eq (tgt := 282) (pc := 274) dX12_ropesTo_274 rfl kt kf) (fun c_274 => absurd c_274 (by decide)) (fun c_274 => ?_)
              refine wq (fun _ _ kk => rs_iload (pc := 277) dX12_ropesTo_277 rfl kk) ?_
              refine wq (fun _ _ kk => rs_goto (tgt := 289) (pc := 279) dX12_ropesTo_279 rfl kk) ?_
              refine wq (fun _ _ kk => rs_iast (pc := 289) dX12_ropesTo_289 (md_lt hmd (by decide)) (md_geti (d := 44) (k := 59) (kd := 0) (n := 256) rfl (by decide) hmd) (vp_in_nI (n := 16 * a + b) (N := 256) (by omega) (by decide)) kk) ?_
              refine wq_gen (fun h_5 e_5 => ?_)
              obtain ⟨m_5, s_5, g_5, o_5⟩ := ai_e1 e_5
              replace hmd := md_at_ai (d := 44) rfl (by decide) hmd m_5 g_5 o_5
              have E_5 := (E0).trans (md_ext_of m_5 s_5 o_5 (by decide))
              refine wq (fun _ _ kk => wk_iinc5 (v := aI ((n : Int) - (j + 1 : Nat) - 1)) (pc := 290) dX12_ropesTo_290 (by decide) rfl (by rw [← aI_nat]; show aI _ + aI (-1) = _; rw [aI_add]; congr 1; omega) kk) ?_
              refine wq (fun _ _ kk => rs_goto (tgt := 161) (pc := 293) dX12_ropesTo_293 rfl kk) ?_
              rw [nI_clamp (show 16 * a + b < 2 ^ 31 by omega)] at hmd
              refine ih (j + 1) _ _ _ _ _ (by omega) (by omega) (E_5) hmd (hrg.trans (rg.i59 (by omega))) ⟨hsm.1, hsm.2⟩ (fun x hx hxa => ?_) ?_
              · show upd (V.2.2.1 59) (16 * a + b) _ (16 * x + b) = _
                rw [pk_un (by omega)]
                exact hkp x hx hxa
              · show upd (V.2.2.1 59) (16 * a + b) _ (16 * a + b) = _
                rw [pk_us, rn, ← hc]
                first
                | (rw [if_pos hyes])
                | (rw [if_neg hno]; exact hnx)
set_option maxRecDepth 100000 in
set_option maxHeartbeats 4000000 in
theorem l6_X12_ropesTo {h : ai_H} {V0 : Md} {U : Nat → List Int} {n b : Nat} (hn : n ≤ 16) (hb : b < n) (hob0 : V0.1 2 = nI n) (hl : lrow U) (hm : mrow V0 U) {Q : Option Value → ai_H → Prop} (hcol0 : rcol V0 n b (ro_end (ro_U U) n b)) (kx : ∀ (g : ai_H) (u4 u5 u6 u7 u8 : Value) (V : Md), md_ext h g → md_at g V → rg b V0 V → rsm V0 V → (∀ x, x < n → V.2.2.1 59 (16 * x + b) = rnx U n b x) → ai_W MX12_ropesTo 302 [.ref 307, .int (nI b), .int 0, .int (nI n), u4, u5, u6, u7, u8] [] g Q) : ∀ (m a : Nat) (u4 u5 u6 u7 u8 : Value) (g : ai_H) (V : Md), a ≤ n → n + 1 ≤ a + m → md_ext h g → md_at g V → rg b V0 V → rsm V0 V → (∀ x, x < a → V.2.2.1 59 (16 * x + b) = rnx U n b x) → ai_W MX12_ropesTo 129 [.ref 307, .int (nI b), .int 0, .int (nI a), u4, u5, u6, u7, u8] [] g Q := by
  intro m
  induction m with
  | zero => intro a u4 u5 u6 u7 u8 g V h1 h2; exact absurd h2 (by omega)
  | succ m ih =>
    intro a u4 u5 u6 u7 u8 g V ha0 him E0 hmd hrg hsm hnx
    have hob : V.1 2 = nI n := by rw [hrg.1]; exact hob0
    refine wq (fun _ _ kk => rs_iload_n (pc := 129) dX12_ropesTo_129 rfl kk) ?_
    refine wq (fun _ _ kk => rs_aload_n (pc := 130) dX12_ropesTo_130 rfl kk) ?_
    refine wq (fun _ _ kk => rs_getf (pc := 131) dX12_ropesTo_131 fX12_188 (md_lt hmd (by decide)) hmd.2.1 rfl kk) ?_
    refine wq_br (fun _ _ kt kf => rs_icmp_ge (tgt := 302) (pc := 134) dX12_ropesTo_134 rfl kt kf) (fun c_134 => ?_) (fun c_134 => ?_)
    · have hae : a = n := lp_exit hob (by omega) ha0 c_134
      subst hae
      exact kx g _ _ _ _ _ V E0 hmd hrg hsm hnx
    · have ha : a < n := lp_go hob (by omega) c_134
      refine wq (fun _ _ kk => rs_bipush (v := 16) (pc := 137) dX12_ropesTo_137 rfl kk) ?_
      refine wq (fun _ _ kk => rs_iload_n (pc := 139) dX12_ropesTo_139 rfl kk) ?_
      refine wq (fun _ _ kk => rs_imul (pc := 140) dX12_ropesTo_140 kk) ?_
      rw [show (16 : Int32) * nI a = nI (16 * a) from pk_mul 16 (a)]
      refine wq (fun _ _ kk => rs_iload_n (pc := 141) dX12_ropesTo_141 rfl kk) ?_
      refine wq (fun _ _ kk => rs_iadd (pc := 142) dX12_ropesTo_142 kk) ?_
      rw [nI_add]
      refine wq (fun _ _ kk => wk_ist4 (pc := 143) dX12_ropesTo_143 (by decide) rfl kk) ?_
      refine wq (fun _ _ kk => rs_aload_n (pc := 145) dX12_ropesTo_145 rfl kk) ?_
      refine wq (fun _ _ kk => rs_getf (pc := 146) dX12_ropesTo_146 fX12_144 (md_lt hmd (by decide)) hmd.2.1 rfl kk) ?_
      refine wq (fun _ _ kk => rs_iload (pc := 149) dX12_ropesTo_149 rfl kk) ?_
      refine wq (fun _ _ kk => rs_iconst (v := -1) (pc := 151) dX12_ropesTo_151 rfl kk) ?_
      refine wq (fun _ _ kk => rs_iast (pc := 152) dX12_ropesTo_152 (md_lt hmd (by decide)) (md_geti (d := 44) (k := 59) (kd := 0) (n := 256) rfl (by decide) hmd) (vp_in_nI (n := 16 * a + b) (N := 256) (by omega) (by decide)) kk) ?_
      refine wq_gen (fun h_1 e_1 => ?_)
      obtain ⟨m_1, s_1, g_1, o_1⟩ := ai_e1 e_1
      replace hmd := md_at_ai (d := 44) rfl (by decide) hmd m_1 g_1 o_1
      have E_1 := (E0).trans (md_ext_of m_1 s_1 o_1 (by decide))
      refine wq (fun _ _ kk => rs_aload_n (pc := 153) dX12_ropesTo_153 rfl kk) ?_
      refine wq (fun _ _ kk => rs_getf (pc := 154) dX12_ropesTo_154 fX12_188 (md_lt hmd (by decide)) hmd.2.1 rfl kk) ?_
      refine wq (fun _ _ kk => rs_iconst (v := 1) (pc := 157) dX12_ropesTo_157 rfl kk) ?_
      refine wq (fun _ _ kk => rs_isub (pc := 158) dX12_ropesTo_158 kk) ?_
      refine wq (fun _ _ kk => wk_ist5 (pc := 159) dX12_ropesTo_159 (by decide) rfl kk) ?_
      rw [nI_clamp (show 16 * a + b < 2 ^ 31 by omega)] at hmd
      rw [show (md_ai V 59 (upd (V.2.2.1 59) (nI (16 * a + b)).toNatClampNeg (-1))).1 2 - 1 = aI ((n : Int) - (0 : Nat) - 1) from by show V.1 2 - 1 = _; rw [hob, ← aI_nat, show (1 : Int32) = aI 1 from rfl, aI_sub]; rfl]
      have hkeep : ∀ x, x < n → x ≠ a → (md_ai V 59 (upd (V.2.2.1 59) (16 * a + b) (-1))).2.2.1 59 (16 * x + b) = (fun y => V.2.2.1 59 (16 * y + b)) x := by
        intro x hx hxa
        show upd (V.2.2.1 59) (16 * a + b) (-1) (16 * x + b) = _
        rw [pk_un (by omega)]
      have hat : (md_ai V 59 (upd (V.2.2.1 59) (16 * a + b) (-1))).2.2.1 59 (16 * a + b) = -1 := by
        show upd (V.2.2.1 59) (16 * a + b) (-1) (16 * a + b) = _
        rw [pk_us]
      have hgd := ro_end_good (ro_32_pos (ro_U_32 U)) hb
      have hcol : rcol V n b (ro_end (ro_U U) n b) := by intro x hx; rw [hsm.1, hsm.2]; exact hcol0 x hx
      by_cases hpos : ∃ v, ro_end (ro_U U) n b a = some v ∧ 0 < v % 32
      · obtain ⟨v, hv, hp⟩ := hpos
        refine l5_X12_ropesTo (h := h) (V0 := V0) (N := fun y => V.2.2.1 59 (16 * y + b)) hn hb hob0 hl hm ha hcol0 hv hp (fun g u6 u7 u8 W E0 hmd hrg hsm hkp hx => ?_) (n + 1) 0 _ _ _ _ _ (by omega) (by omega) (E_1) hmd (hrg.trans (rg.i59 (by omega))) ⟨hsm.1, hsm.2⟩ hkeep hat
        refine wq (fun _ _ kk => wk_iinc3 (v := nI (a + 1)) (pc := 296) dX12_ropesTo_296 (by decide) rfl (nI_1 a) kk) ?_
        refine wq (fun _ _ kk => rs_goto (tgt := 129) (pc := 299) dX12_ropesTo_299 rfl kk) ?_
        refine ih (a + 1) _ _ _ _ _ _ _ (by omega) (by omega) E0 hmd hrg hsm (fun x hx2 => ?_)
        by_cases e : x = a
        · subst e; rw [hx, rn_nx hn hb hv hp]
        · rw [hkp x (by omega) e]; exact hnx x (by omega)
      · have h58 : V.2.2.1 58 (16 * a + b) ≤ 0 := by
          cases hv : ro_end (ro_U U) n b a with
          | none => rw [(hcol a ha).1 hv]; decide
          | some v =>
            have : v % 32 = 0 := by
              rcases Nat.eq_zero_or_pos (v % 32) with z | z
              · exact z
              · exact absurd ⟨v, hv, z⟩ hpos
            rw [((hcol a ha).2 v hv).1, this]; decide
        have hrx : rnx U n b a = -1 := by
          unfold rnx
          cases hv : ro_end (ro_U U) n b a with
          | none => rfl
          | some v =>
            have : v % 32 = 0 := by
              rcases Nat.eq_zero_or_pos (v % 32) with z | z
              · exact z
              · exact absurd ⟨v, hv, z⟩ hpos
            show (if v % 32 = 0 then (-1 : Int32) else _) = -1
            rw [if_pos this]
        refine wq (fun _ _ kk => rs_iload (pc := 161) dX12_ropesTo_161 rfl kk) ?_
        refine wq_br (fun _ _ kt kf => rs_if_lt (tgt := 296) (pc := 163) dX12_ropesTo_163 rfl kt kf) (fun c_163 => absurd c_163 (by rw [show (0 : Int32) = aI 0 from rfl, aI_lt (by omega) (by omega) (by omega) (by omega)]; omega)) (fun c_163 => ?_)
        refine wq (fun _ _ kk => rs_aload_n (pc := 166) dX12_ropesTo_166 rfl kk) ?_
        refine wq (fun _ _ kk => rs_getf (pc := 167) dX12_ropesTo_167 fX12_141 (md_lt hmd (by decide)) hmd.2.1 rfl kk) ?_
        refine wq (fun _ _ kk => rs_iload (pc := 170) dX12_ropesTo_170 rfl kk) ?_
        refine wq (fun _ _ kk => rs_iald (pc := 172) dX12_ropesTo_172 (md_lt hmd (by decide)) (md_geti (d := 43) (k := 58) (kd := 0) (n := 256) rfl (by decide) hmd) (vp_in_nI (n := 16 * a + b) (N := 256) (by omega) (by decide)) kk) ?_
        rw [nI_clamp (show 16 * a + b < 2 ^ 31 by omega)]
        refine wq_br (fun _ _ kt kf => rs_if_le (tgt := 296) (pc := 173) dX12_ropesTo_173 rfl kt kf) (fun c_173 => ?_) (fun c_173 => absurd c_173 (fun z : ¬ _ => z h58))
        refine wq (fun _ _ kk => wk_iinc3 (v := nI (a + 1)) (pc := 296) dX12_ropesTo_296 (by decide) rfl (nI_1 a) kk) ?_
        refine wq (fun _ _ kk => rs_goto (tgt := 129) (pc := 299) dX12_ropesTo_299 rfl kk) ?_
        refine ih (a + 1) _ _ _ _ _ _ _ (by omega) (by omega) (E_1) hmd (hrg.trans (rg.i59 (by omega))) ⟨hsm.1, hsm.2⟩ (fun x hx2 => ?_)
        by_cases e : x = a
        · subst e; rw [hat, hrx]
        · rw [hkeep x (by omega) e]; exact hnx x (by omega)
/-- the lean of x -/
def rle (U : Nat → List Int) (n b x : Nat) : Int64 := match ro_end (ro_U U) n b x with
  | none => 0
  | some v => aL (zl U (ro_pt (ro_U U) n b x) (v % 32))
def rsk (V W : Md) : Prop := W.2.2.1 = V.2.2.1 ∧ W.2.2.2 56 = V.2.2.2 56
def rfin (V : Md) (U : Nat → List Int) (n b : Nat) : Prop := ∀ a, a < n → (ro_end (ro_U U) n b a = none → V.2.2.1 58 (16 * a + b) = -1) ∧ (∀ v, ro_end (ro_U U) n b a = some v → V.2.2.1 58 (16 * a + b) = nI (v % 32) ∧ V.2.2.2 56 (16 * a + b) = aL ((v / 32 : Nat) : Int)) ∧ V.2.2.2 57 (16 * a + b) = rle U n b a ∧ V.2.2.1 59 (16 * a + b) = rnx U n b a
theorem rnx_pt {U : Nat → List Int} {n b x v i : Nat} (hn : n ≤ 16) (hb : b < n) (hv : ro_end (ro_U U) n b x = some v) (hi : i < v % 32) : ro_pt (ro_U U) n b x i < n ∧ ro_pt (ro_U U) n b x i ≠ b ∧ rnx U n b (ro_pt (ro_U U) n b x i) = nI (ro_pt (ro_U U) n b x (i + 1)) ∧ ro_pt (ro_U U) n b x (i + 1) < n := by
  obtain ⟨u, hu, h1, h2⟩ := ro_pt_is (ro_U_32 U) hn hb hv i (by omega)
  obtain ⟨w, hw, h3, h4⟩ := ro_pt_is (ro_U_32 U) hn hb hv (i + 1) (by omega)
  have hne : ro_pt (ro_U U) n b x i ≠ b := by
    intro q
    rw [q, ro_end_g (ro_32_pos (ro_U_32 U)) hb] at hu
    cases hu
    omega
  refine ⟨h2, hne, ?_, h4⟩
  unfold rnx
  rw [hu]
  show (if u % 32 = 0 then (-1 : Int32) else _) = _
  rw [if_neg (by omega)]
  rfl
set_option maxRecDepth 100000 in
set_option maxHeartbeats 4000000 in
theorem l7_X12_ropesTo {h : ai_H} {V0 : Md} {U : Nat → List Int} {n b : Nat} (hn : n ≤ 16) (hb : b < n) (hob0 : V0.1 2 = nI n) (hl : lrow U) (hm : mrow V0 U) {a v : Nat} {N : Nat → Int64} {u6 u7 u8 : Value} {Q : Option Value → ai_H → Prop} (ha : a < n) (hcol0 : rcol V0 n b (ro_end (ro_U U) n b)) (h590 : ∀ x, x < n → V0.2.2.1 59 (16 * x + b) = rnx U n b x) (hv : ro_end (ro_U U) n b a = some v) (hpos : 0 < v % 32) (kx : ∀ (g : ai_H) (u4 u5 : Value) (V : Md), md_ext h g → md_at g V → rg b V0 V → rsk V0 V → (∀ x, x < n → x ≠ a → V.2.2.2 57 (16 * x + b) = N x) → V.2.2.2 57 (16 * a + b) = aL (zl U (ro_pt (ro_U U) n b a) (v % 32)) → ai_W MX12_ropesTo 382 [.ref 307, .int (nI b), .int 0, .int (nI a), u4, u5, u6, u7, u8] [] g Q) : ∀ (m i : Nat) (u5 : Value) (g : ai_H) (V : Md), i ≤ v % 32 → v % 32 + 1 ≤ i + m → md_ext h g → md_at g V → rg b V0 V → rsk V0 V → (∀ x, x < n → x ≠ a → V.2.2.2 57 (16 * x + b) = N x) → V.2.2.2 57 (16 * a + b) = aL (zl U (ro_pt (ro_U U) n b a) (i)) → ai_W MX12_ropesTo 315 [.ref 307, .int (nI b), .int 0, .int (nI a), .int (nI (ro_pt (ro_U U) n b a (i))), u5, u6, u7, u8] [] g Q := by
  intro m
  induction m with
  | zero => intro i u5 g V h1 h2; exact absurd h2 (by omega)
  | succ m ih =>
    intro i u5 g V hi0 him E0 hmd hrg hsm hkp h57
    have hmr := hrg.mrow hm
    have h59 : ∀ x, x < n → V.2.2.1 59 (16 * x + b) = rnx U n b x := by intro x hx; rw [hsm.1]; exact h590 x hx
    obtain ⟨e58, -⟩ := (hcol0 a ha).2 v hv
    rw [← hsm.1] at e58
    have hv16 := (ro_good_li (ro_U_32 U) hn (ro_end_good (ro_32_pos (ro_U_32 U)) hb) hv).1
    have hpn : ro_pt (ro_U U) n b a i < n := by obtain ⟨_, _, _, q⟩ := ro_pt_is (ro_U_32 U) hn hb hv i hi0; exact q
    refine wq (fun _ _ kk => rs_aload_n (pc := 315) dX12_ropesTo_315 rfl kk) ?_
    refine wq (fun _ _ kk => rs_getf (pc := 316) dX12_ropesTo_316 fX12_141 (md_lt hmd (by decide)) hmd.2.1 rfl kk) ?_
    refine wq (fun _ _ kk => rs_bipush (v := 16) (pc := 319) dX12_ropesTo_319 rfl kk) ?_
    refine wq (fun _ _ kk => rs_iload_n (pc := 321) dX12_ropesTo_321 rfl kk) ?_
    refine wq (fun _ _ kk => rs_imul (pc := 322) dX12_ropesTo_322 kk) ?_
    rw [show (16 : Int32) * nI a = nI (16 * a) from pk_mul 16 (a)]
    refine wq (fun _ _ kk => rs_iload_n (pc := 323) dX12_ropesTo_323 rfl kk) ?_
    refine wq (fun _ _ kk => rs_iadd (pc := 324) dX12_ropesTo_324 kk) ?_
    rw [nI_add]
    refine wq (fun _ _ kk => rs_iald (pc := 325) dX12_ropesTo_325 (md_lt hmd (by decide)) (md_geti (d := 43) (k := 58) (kd := 0) (n := 256) rfl (by decide) hmd) (vp_in_nI (n := 16 * a + b) (N := 256) (by omega) (by decide)) kk) ?_
    rw [nI_clamp (show 16 * a + b < 2 ^ 31 by omega), e58]
    refine wq_br (fun _ _ kt kf => rs_if_le (tgt := 382) (pc := 326) dX12_ropesTo_326 rfl kt kf) (fun c_326 => absurd c_326 (fun z => by rw [i32_le0 (by omega)] at z; omega)) (fun c_326 => ?_)
    refine wq (fun _ _ kk => rs_iload (pc := 329) dX12_ropesTo_329 rfl kk) ?_
    refine wq (fun _ _ kk => rs_iload_n (pc := 331) dX12_ropesTo_331 rfl kk) ?_
    refine wq_br (fun _ _ kt kf => rs_icmp_eq (tgt := 382) (pc := 332) dX12_ropesTo_332 rfl kt kf) (fun c_332 => ?_) (fun c_332 => ?_)
    · have hiL : i = v % 32 := by
        rcases Nat.lt_or_ge i (v % 32) with z | z
        · obtain ⟨p1, p2, -, -⟩ := rnx_pt hn hb hv z
          exact absurd (nI_inj (by omega) (by omega) c_332) p2
        · omega
      subst hiL
      exact kx g _ _ V E0 hmd hrg hsm hkp h57
    · have hi : i < v % 32 := by
        rcases Nat.lt_or_ge i (v % 32) with z | z
        · exact z
        · have e : i = v % 32 := by omega
          exact absurd (by rw [e, ro_pt_end (ro_U_32 U) hn hb hv]) c_332
      obtain ⟨p1, p2, p3, p4⟩ := rnx_pt hn hb hv hi
      obtain ⟨-, -, hne⟩ := ro_pt_ne hn hb hv i hi
      rw [Nat.mul_comm] at hne
      refine wq (fun _ _ kk => rs_aload_n (pc := 335) dX12_ropesTo_335 rfl kk) ?_
      refine wq (fun _ _ kk => rs_getf (pc := 336) dX12_ropesTo_336 fX12_144 (md_lt hmd (by decide)) hmd.2.1 rfl kk) ?_
      refine wq (fun _ _ kk => rs_bipush (v := 16) (pc := 339) dX12_ropesTo_339 rfl kk) ?_
      refine wq (fun _ _ kk => rs_iload (pc := 341) dX12_ropesTo_341 rfl kk) ?_
      refine wq (fun _ _ kk => rs_imul (pc := 343) dX12_ropesTo_343 kk) ?_
      rw [show (16 : Int32) * nI (ro_pt (ro_U U) n b a i) = nI (16 * (ro_pt (ro_U U) n b a i)) from pk_mul 16 ((ro_pt (ro_U U) n b a i))]
      refine wq (fun _ _ kk => rs_iload_n (pc := 344) dX12_ropesTo_344 rfl kk) ?_
      refine wq (fun _ _ kk => rs_iadd (pc := 345) dX12_ropesTo_345 kk) ?_
      rw [nI_add]
      refine wq (fun _ _ kk => rs_iald (pc := 346) dX12_ropesTo_346 (md_lt hmd (by decide)) (md_geti (d := 44) (k := 59) (kd := 0) (n := 256) rfl (by decide) hmd) (vp_in_nI (n := 16 * ro_pt (ro_U U) n b a i + b) (N := 256) (by omega) (by decide)) kk) ?_
      rw [nI_clamp (show 16 * ro_pt (ro_U U) n b a i + b < 2 ^ 31 by omega), h59 _ p1, p3]
      refine wq (fun _ _ kk => wk_ist5 (pc := 347) dX12_ropesTo_347 (by decide) rfl kk) ?_
      refine wq (fun _ _ kk => rs_aload_n (pc := 349) dX12_ropesTo_349 rfl kk) ?_
      refine wq (fun _ _ kk => rs_getf (pc := 350) dX12_ropesTo_350 fX12_138 (md_lt hmd (by decide)) hmd.2.1 rfl kk) ?_
      refine wq (fun _ _ kk => rs_bipush (v := 16) (pc := 353) dX12_ropesTo_353 rfl kk) ?_
      refine wq (fun _ _ kk => rs_iload_n (pc := 355) dX12_ropesTo_355 rfl kk) ?_
      refine wq (fun _ _ kk => rs_imul (pc := 356) dX12_ropesTo_356 kk) ?_
      rw [show (16 : Int32) * nI a = nI (16 * a) from pk_mul 16 (a)]
      refine wq (fun _ _ kk => rs_iload_n (pc := 357) dX12_ropesTo_357 rfl kk) ?_
      refine wq (fun _ _ kk => rs_iadd (pc := 358) dX12_ropesTo_358 kk) ?_
      rw [nI_add]
      refine wq (fun _ _ kk => rs_dup2 (pc := 359) dX12_ropesTo_359 rfl rfl kk) ?_
      refine wq (fun _ _ kk => rs_lald (pc := 360) dX12_ropesTo_360 (md_lt hmd (by decide)) (md_getl (d := 42) (k := 57) (kd := 1) (n := 256) rfl (by decide) hmd) (vp_in_nI (n := 16 * a + b) (N := 256) (by omega) (by decide)) kk) ?_
      rw [nI_clamp (show 16 * a + b < 2 ^ 31 by omega), h57]
      refine wq (fun _ _ kk => rs_aload_n (pc := 361) dX12_ropesTo_361 rfl kk) ?_
      refine wq (fun _ _ kk => rs_bipush (v := 16) (pc := 362) dX12_ropesTo_362 rfl kk) ?_
      refine wq (fun _ _ kk => rs_iload (pc := 364) dX12_ropesTo_364 rfl kk) ?_
      refine wq (fun _ _ kk => rs_imul (pc := 366) dX12_ropesTo_366 kk) ?_
      rw [show (16 : Int32) * nI (ro_pt (ro_U U) n b a i) = nI (16 * (ro_pt (ro_U U) n b a i)) from pk_mul 16 ((ro_pt (ro_U U) n b a i))]
      refine wq (fun _ _ kk => rs_iload (pc := 367) dX12_ropesTo_367 rfl kk) ?_
      refine wq (fun _ _ kk => rs_iadd (pc := 369) dX12_ropesTo_369 kk) ?_
      rw [nI_add]
      refine wq (fun _ _ kk => rs_callV (as := [_]) (pc := 370) dX12_ropesTo_370 mk_X12_apart mlX12_429 in_X12_apart se_X12_apart rfl (md_lt hmd (by decide)) hmd.2.1 rfl rfl (Nat.le_of_ble_eq_true rfl) (c_X12_apart hmd hl hmr (show 16 * ro_pt (ro_U U) n b a i + ro_pt (ro_U U) n b a (i + 1) < 256 by omega) hne) kk) ?_
      refine wq (fun _ _ kk => rs_ladd (pc := 373) dX12_ropesTo_373 kk) ?_
      rw [aL_add]
      refine wq (fun _ _ kk => rs_last (pc := 374) dX12_ropesTo_374 (md_lt hmd (by decide)) (md_getl (d := 42) (k := 57) (kd := 1) (n := 256) rfl (by decide) hmd) (vp_in_nI (n := 16 * a + b) (N := 256) (by omega) (by decide)) kk) ?_
      refine wq_gen (fun h_1 e_1 => ?_)
      obtain ⟨m_1, s_1, g_1, o_1⟩ := ai_e1 e_1
      replace hmd := md_at_al (d := 42) rfl (by decide) hmd m_1 g_1 o_1
      have E_1 := (E0).trans (md_ext_of m_1 s_1 o_1 (by decide))
      refine wq (fun _ _ kk => rs_iload (pc := 375) dX12_ropesTo_375 rfl kk) ?_
      refine wq (fun _ _ kk => wk_ist4 (pc := 377) dX12_ropesTo_377 (by decide) rfl kk) ?_
      refine wq (fun _ _ kk => rs_goto (tgt := 315) (pc := 379) dX12_ropesTo_379 rfl kk) ?_
      rw [nI_clamp (show 16 * a + b < 2 ^ 31 by omega)] at hmd
      refine ih (i + 1) _ _ _ (by omega) (by omega) (E_1) hmd (hrg.trans (rg.l57 (by omega))) ⟨hsm.1, hsm.2⟩ (fun x hx hxa => ?_) ?_
      · show vp_updL (V.2.2.2 57) (16 * a + b) _ (16 * x + b) = _
        rw [pk_uLn (by omega)]
        exact hkp x hx hxa
      · show vp_updL (V.2.2.2 57) (16 * a + b) _ (16 * a + b) = _
        rw [pk_uLs, zl, Nat.mul_comm (ro_pt (ro_U U) n b a i) 16]
set_option maxRecDepth 100000 in
set_option maxHeartbeats 4000000 in
theorem l8_X12_ropesTo {h : ai_H} {V0 : Md} {U : Nat → List Int} {n b : Nat} (hn : n ≤ 16) (hb : b < n) (hob0 : V0.1 2 = nI n) (hl : lrow U) (hm : mrow V0 U) (hcol0 : rcol V0 n b (ro_end (ro_U U) n b)) (h590 : ∀ x, x < n → V0.2.2.1 59 (16 * x + b) = rnx U n b x) : ∀ (m a : Nat) (u4 u5 u6 u7 u8 : Value) (g : ai_H) (V : Md), a ≤ n → n + 1 ≤ a + m → md_ext h g → md_at g V → rg b V0 V → rsk V0 V → (∀ x, x < n → V.2.2.2 57 (16 * x + b) = if x < a then rle U n b x else 0) → ai_W MX12_ropesTo 304 [.ref 307, .int (nI b), .int 0, .int (nI a), u4, u5, u6, u7, u8] [] g (fun r g => r = none ∧ md_ext h g ∧ ∃ W, md_at g W ∧ rg b V0 W ∧ rfin W U n b) := by
  intro m
  induction m with
  | zero => intro a u4 u5 u6 u7 u8 g V h1 h2; exact absurd h2 (by omega)
  | succ m ih =>
    intro a u4 u5 u6 u7 u8 g V ha0 him E0 hmd hrg hsm h57
    have hob : V.1 2 = nI n := by rw [hrg.1]; exact hob0
    refine wq (fun _ _ kk => rs_iload_n (pc := 304) dX12_ropesTo_304 rfl kk) ?_
    refine wq (fun _ _ kk => rs_aload_n (pc := 305) dX12_ropesTo_305 rfl kk) ?_
    refine wq (fun _ _ kk => rs_getf (pc := 306) dX12_ropesTo_306 fX12_188 (md_lt hmd (by decide)) hmd.2.1 rfl kk) ?_
    refine wq_br (fun _ _ kt kf => rs_icmp_ge (tgt := 388) (pc := 309) dX12_ropesTo_309 rfl kt kf) (fun c_309 => ?_) (fun c_309 => ?_)
    · have hae : a = n := lp_exit hob (by omega) ha0 c_309
      subst hae
      refine wq_ret ?_ (rs_vret (pc := 388) dX12_ropesTo_388 rfl)
      exact ⟨rfl, E0, V, hmd, hrg, fun x hx => ⟨fun z => by rw [hsm.1]; exact (hcol0 x hx).1 z, fun v z => by rw [hsm.1, hsm.2]; exact (hcol0 x hx).2 v z, by rw [h57 x hx, if_pos hx], by rw [hsm.1]; exact h590 x hx⟩⟩
    · have ha : a < n := lp_go hob (by omega) c_309
      refine wq (fun _ _ kk => rs_iload_n (pc := 312) dX12_ropesTo_312 rfl kk) ?_
      refine wq (fun _ _ kk => wk_ist4 (pc := 313) dX12_ropesTo_313 (by decide) rfl kk) ?_
      have hgd := ro_end_good (ro_32_pos (ro_U_32 U)) hb
      by_cases hpos : ∃ v, ro_end (ro_U U) n b a = some v ∧ 0 < v % 32
      · obtain ⟨v, hv, hp⟩ := hpos
        refine l7_X12_ropesTo (h := h) (V0 := V0) (N := fun y => V.2.2.2 57 (16 * y + b)) hn hb hob0 hl hm ha hcol0 h590 hv hp (fun g u4 u5 W E0 hmd hrg hsm hkp hx => ?_) (v % 32 + 1) 0 _ _ _ (by omega) (by omega) E0 hmd hrg hsm (fun _ _ _ => rfl) (by rw [h57 a ha, if_neg (by omega)]; rfl)
        refine wq (fun _ _ kk => wk_iinc3 (v := nI (a + 1)) (pc := 382) dX12_ropesTo_382 (by decide) rfl (nI_1 a) kk) ?_
        refine wq (fun _ _ kk => rs_goto (tgt := 304) (pc := 385) dX12_ropesTo_385 rfl kk) ?_
        refine ih (a + 1) _ _ _ _ _ _ _ (by omega) (by omega) E0 hmd hrg hsm (fun x hx2 => ?_)
        by_cases e : x = a
        · subst e
          rw [hx, if_pos (by omega)]
          unfold rle
          rw [hv]
        · rw [hkp x hx2 e, h57 x hx2]
          by_cases e2 : x < a
          · rw [if_pos e2, if_pos (by omega)]
          · rw [if_neg e2, if_neg (by omega)]
      · have h58 : V.2.2.1 58 (16 * a + b) ≤ 0 := by
          rw [hsm.1]
          cases hv : ro_end (ro_U U) n b a with
          | none => rw [(hcol0 a ha).1 hv]; decide
          | some v =>
            have : v % 32 = 0 := by
              rcases Nat.eq_zero_or_pos (v % 32) with z | z
              · exact z
              · exact absurd ⟨v, hv, z⟩ hpos
            rw [((hcol0 a ha).2 v hv).1, this]; decide
        have hrx : 0 = rle U n b a := by
          unfold rle
          cases hv : ro_end (ro_U U) n b a with
          | none => rfl
          | some v =>
            have : v % 32 = 0 := by
              rcases Nat.eq_zero_or_pos (v % 32) with z | z
              · exact z
              · exact absurd ⟨v, hv, z⟩ hpos
            show 0 = aL (zl U _ (v % 32))
            rw [this]
            rfl
        refine wq (fun _ _ kk => rs_aload_n (pc := 315) dX12_ropesTo_315 rfl kk) ?_
        refine wq (fun _ _ kk => rs_getf (pc := 316) dX12_ropesTo_316 fX12_141 (md_lt hmd (by decide)) hmd.2.1 rfl kk) ?_
        refine wq (fun _ _ kk => rs_bipush (v := 16) (pc := 319) dX12_ropesTo_319 rfl kk) ?_
        refine wq (fun _ _ kk => rs_iload_n (pc := 321) dX12_ropesTo_321 rfl kk) ?_
        refine wq (fun _ _ kk => rs_imul (pc := 322) dX12_ropesTo_322 kk) ?_
        rw [show (16 : Int32) * nI a = nI (16 * a) from pk_mul 16 (a)]
        refine wq (fun _ _ kk => rs_iload_n (pc := 323) dX12_ropesTo_323 rfl kk) ?_
        refine wq (fun _ _ kk => rs_iadd (pc := 324) dX12_ropesTo_324 kk) ?_
        rw [nI_add]
        refine wq (fun _ _ kk => rs_iald (pc := 325) dX12_ropesTo_325 (md_lt hmd (by decide)) (md_geti (d := 43) (k := 58) (kd := 0) (n := 256) rfl (by decide) hmd) (vp_in_nI (n := 16 * a + b) (N := 256) (by omega) (by decide)) kk) ?_
        rw [nI_clamp (show 16 * a + b < 2 ^ 31 by omega)]
        refine wq_br (fun _ _ kt kf => rs_if_le (tgt := 382) (pc := 326) dX12_ropesTo_326 rfl kt kf) (fun c_326 => ?_) (fun c_326 => absurd c_326 (fun z : ¬ _ => z h58))
        refine wq (fun _ _ kk => wk_iinc3 (v := nI (a + 1)) (pc := 382) dX12_ropesTo_382 (by decide) rfl (nI_1 a) kk) ?_
        refine wq (fun _ _ kk => rs_goto (tgt := 304) (pc := 385) dX12_ropesTo_385 rfl kk) ?_
        refine ih (a + 1) _ _ _ _ _ _ _ (by omega) (by omega) E0 hmd hrg hsm (fun x hx2 => ?_)
        by_cases e : x = a
        · subst e; rw [h57 x hx2, if_neg (by omega), if_pos (by omega), hrx]
        · rw [h57 x hx2]
          by_cases e2 : x < a
          · rw [if_pos e2, if_pos (by omega)]
          · rw [if_neg e2, if_neg (by omega)]
theorem rin_rl0 {V : Md} {n b : Nat} (h : rin V b n) : rl0 V n b := fun x hx => (h x hx).2.2
set_option maxRecDepth 100000 in
set_option maxHeartbeats 4000000 in
theorem c_X12_ropesTo {h : ai_H} {V : Md} {U : Nat → List Int} {n b : Nat} (hn : n ≤ 16) (hb : b < n) (hob : V.1 2 = nI n) (hl : lrow U) (hm : mrow V U) (hmd : md_at h V) : ai_QM MX12_ropesTo [.ref 307, .int (nI b)] h (fun r g => r = none ∧ md_ext h g ∧ ∃ W, md_at g W ∧ rg b V W ∧ rfin W U n b) := by
  refine qm_of (ls := [.ref 307, .int (nI b), .float 0, .float 0, .float 0, .float 0, .float 0, .float 0, .float 0]) (by decide) (by simp [ai_en, Value.category]) (by rfl) ?_
  refine wq (fun _ _ kk => rs_iconst (v := 0) (pc := 0) dX12_ropesTo_0 rfl kk) ?_
  refine wq (fun _ _ kk => wk_istn2 (pc := 1) dX12_ropesTo_1 (by decide) rfl kk) ?_
  refine l1_X12_ropesTo (h := h) (V0 := V) (U := U) hn hb hob ?_ (n + 1) 0 _ _ (by omega) (by omega) md_ext.rf hmd rg.rf (fun x hx => absurd hx (Nat.not_lt_zero x))
  intro g V1 E0 hmd hrg hin
  refine wq (fun _ _ kk => rs_iconst (v := 1) (pc := 61) dX12_ropesTo_61 rfl kk) ?_
  refine wq (fun _ _ kk => wk_istn2 (pc := 62) dX12_ropesTo_62 (by decide) rfl kk) ?_
  refine l4_X12_ropesTo (h := h) (V0 := V) (U := U) hn hb hob hl hm ?_ (n + 1) 0 1 _ _ _ _ (by omega) (by omega) E0 hmd hrg (ro_good_0 hb) (by simp [ro_it, ro_0]) (rin_col hin) (rin_rl0 hin) (fun z => absurd z (by decide)) (fun _ => by omega)
  clear hmd hrg hin E0
  intro g u3 u4 V2 E0 hmd hrg2 hcol hl0
  refine wq (fun _ _ kk => rs_iconst (v := 0) (pc := 127) dX12_ropesTo_127 rfl kk) ?_
  refine wq (fun _ _ kk => wk_istn3 (pc := 128) dX12_ropesTo_128 (by decide) rfl kk) ?_
  have hob2 : V2.1 2 = nI n := by rw [hrg2.1]; exact hob
  refine l6_X12_ropesTo (h := h) (V0 := V2) (U := U) hn hb hob2 hl (hrg2.mrow hm) hcol ?_ (n + 1) 0 _ _ _ _ _ _ _ (by omega) (by omega) E0 hmd rg.rf ⟨rfl, rfl⟩ (fun x hx => absurd hx (Nat.not_lt_zero x))
  clear hmd E0
  intro g u4 u5 u6 u7 u8 V3 E0 hmd hrg3 hsm hnx
  refine wq (fun _ _ kk => rs_iconst (v := 0) (pc := 302) dX12_ropesTo_302 rfl kk) ?_
  refine wq (fun _ _ kk => wk_istn3 (pc := 303) dX12_ropesTo_303 (by decide) rfl kk) ?_
  have hob3 : V3.1 2 = nI n := by rw [hrg3.1]; exact hob2
  have hcol3 : rcol V3 n b (ro_end (ro_U U) n b) := by intro x hx; rw [hsm.1, hsm.2]; exact hcol x hx
  refine wq_mono ?_ (l8_X12_ropesTo (h := h) (V0 := V3) (U := U) hn hb hob3 hl ((hrg2.trans hrg3).mrow hm) hcol3 hnx (n + 1) 0 _ _ _ _ _ _ _ (by omega) (by omega) E0 hmd rg.rf ⟨rfl, rfl⟩ (fun x hx => by rw [if_neg (Nat.not_lt_zero x), hsm.2]; exact hl0 x hx))
  rintro r g ⟨a1, a2, W, a3, a4, a5⟩
  exact ⟨a1, a2, W, a3, (hrg2.trans hrg3).trans a4, a5⟩
/-- all but rows 50 to 59 is the same -/
def rT (T V : Md) : Prop := V.1 = T.1 ∧ V.2.1 = T.2.1 ∧ (∀ k, k < 50 ∨ 59 < k → V.2.2.1 k = T.2.2.1 k) ∧ ∀ k, k < 50 ∨ 59 < k → V.2.2.2 k = T.2.2.2 k
theorem mg.rT {T V : Md} (h : mg T V) : rT T V := ⟨h.1, h.2.1, fun k hk => h.2.2.1 k (by omega), fun k hk => h.2.2.2 k (by omega)⟩
theorem rT.rg {T V W : Md} {b : Nat} (h : rT T V) (k : rg b V W) : rT T W := ⟨k.1.trans h.1, k.2.1.trans h.2.1, fun j hj => (k.2.2.1 j (by omega) (by omega)).trans (h.2.2.1 j hj), fun j hj => (k.2.2.2.1 j (by omega) (by omega)).trans (h.2.2.2 j hj)⟩
theorem rT.sb {T V : Md} (h : rT T V) : sb T V := ⟨fun k _ => by rw [h.1], fun k hk => h.2.2.1 k (by omega)⟩
theorem sb.trans {S T V : Md} (h : sb S T) (k : sb T V) : sb S V := ⟨fun j hj => (k.1 j hj).trans (h.1 j hj), fun j hj => (k.2 j hj).trans (h.2 j hj)⟩
theorem rfin.rg {V W : Md} {U : Nat → List Int} {n b c : Nat} (hb : b < 16) (hbc : b ≠ c) (h : rfin V U n b) (k : rg c V W) : rfin W U n b := by
  intro a ha
  obtain ⟨h1, h2, h3, h4⟩ := k.2.2.2.2 (16 * a + b) (by omega)
  rw [h1, h2, h3, h4]
  exact h a ha
theorem dX12_ropes_0 : decode cX12_ropes 0 = .ok (.aload_n 0, 1) := by decide +kernel
theorem dX12_ropes_1 : decode cX12_ropes 1 = .ok (.iload_n 1, 1) := by decide +kernel
theorem dX12_ropes_2 : decode cX12_ropes 2 = .ok (.invokevirtual 426, 3) := by decide +kernel
theorem dX12_ropes_5 : decode cX12_ropes 5 = .ok (.iconst 0, 1) := by decide +kernel
theorem dX12_ropes_6 : decode cX12_ropes 6 = .ok (.istore_n 2, 1) := by decide +kernel
theorem dX12_ropes_7 : decode cX12_ropes 7 = .ok (.iload_n 2, 1) := by decide +kernel
theorem dX12_ropes_8 : decode cX12_ropes 8 = .ok (.aload_n 0, 1) := by decide +kernel
theorem dX12_ropes_9 : decode cX12_ropes 9 = .ok (.getfield 188, 3) := by decide +kernel
theorem dX12_ropes_12 : decode cX12_ropes 12 = .ok (.if_icmp .ge 14, 3) := by decide +kernel
theorem dX12_ropes_15 : decode cX12_ropes 15 = .ok (.aload_n 0, 1) := by decide +kernel
theorem dX12_ropes_16 : decode cX12_ropes 16 = .ok (.iload_n 2, 1) := by decide +kernel
theorem dX12_ropes_17 : decode cX12_ropes 17 = .ok (.invokevirtual 435, 3) := by decide +kernel
theorem dX12_ropes_20 : decode cX12_ropes 20 = .ok (.iinc 2 1, 3) := by decide +kernel
theorem dX12_ropes_23 : decode cX12_ropes 23 = .ok (.goto (-16), 3) := by decide +kernel
theorem dX12_ropes_26 : decode cX12_ropes 26 = .ok (.return_, 1) := by decide +kernel
set_option maxRecDepth 100000 in
set_option maxHeartbeats 4000000 in
theorem l_X12_ropes {h : ai_H} {B : Bk} {wk : Int32} {T : Md} {U : Nat → List Int} (hn : nO B ≤ 16) (hobT : T.1 2 = nI (nO B)) (hl : lrow U) : ∀ (m b : Nat) (g : ai_H) (V : Md), b ≤ nO B → nO B + 1 ≤ b + m → md_ext h g → md_at g V → rT T V → mrow V U → (∀ c, c < b → rfin V U (nO B) c) → ai_W MX12_ropes 7 [.ref 307, .int wk, .int (nI b)] [] g (fun r g => r = none ∧ md_ext h g ∧ ∃ V, md_at g V ∧ rT T V ∧ ∀ c, c < nO B → rfin V U (nO B) c) := by
  intro m
  induction m with
  | zero => intro b g V h1 h2; exact absurd h2 (by omega)
  | succ m ih =>
    intro b g V hb0 him E0 hmd hrT hm hf
    have hob : V.1 2 = nI (nO B) := by rw [hrT.1]; exact hobT
    refine wq (fun _ _ kk => rs_iload_n (pc := 7) dX12_ropes_7 rfl kk) ?_
    refine wq (fun _ _ kk => rs_aload_n (pc := 8) dX12_ropes_8 rfl kk) ?_
    refine wq (fun _ _ kk => rs_getf (pc := 9) dX12_ropes_9 fX12_188 (md_lt hmd (by decide)) hmd.2.1 rfl kk) ?_
    refine wq_br (fun _ _ kt kf => rs_icmp_ge (tgt := 26) (pc := 12) dX12_ropes_12 rfl kt kf) (fun c_12 => ?_) (fun c_12 => ?_)
    · have hbe : b = nO B := lp_exit hob (by omega) hb0 c_12
      subst hbe
      refine wq_ret ?_ (rs_vret (pc := 26) dX12_ropes_26 rfl)
      exact ⟨rfl, E0, V, hmd, hrT, hf⟩
    · have hb : b < nO B := lp_go hob (by omega) c_12
      refine wq (fun _ _ kk => rs_aload_n (pc := 15) dX12_ropes_15 rfl kk) ?_
      refine wq (fun _ _ kk => rs_iload_n (pc := 16) dX12_ropes_16 rfl kk) ?_
      obtain ⟨rv_17, hc_17, ⟨rfl, ee_17, W, hmd_17, hrg, hfin⟩, hm_17⟩ := c_X12_ropesTo hn hb hob hl hm hmd
      refine wq (fun _ _ kk => rs_callV (as := [_]) (pc := 17) dX12_ropes_17 mk_X12_ropesTo mlX12_435 in_X12_ropesTo se_X12_ropesTo rfl (md_lt hmd (by decide)) hmd.2.1 rfl rfl (Nat.le_of_ble_eq_true rfl) (hm_17) kk) ?_
      replace hmd := hmd_17
      have E_17 := (E0).trans ee_17
      refine wq (fun _ _ kk => wk_iinc2 (v := nI (b + 1)) (pc := 20) dX12_ropes_20 (by decide) rfl (nI_1 b) kk) ?_
      refine wq (fun _ _ kk => rs_goto (tgt := 7) (pc := 23) dX12_ropes_23 rfl kk) ?_
      refine ih (b + 1) _ _ (by omega) (by omega) (E0.trans ee_17) hmd (hrT.rg hrg) (hrg.mrow hm) (fun c hc => ?_)
      by_cases e : c = b
      · subst e; exact hfin
      · exact (hf c (by omega)).rg (by omega) e hrg
set_option maxRecDepth 100000 in
set_option maxHeartbeats 4000000 in
theorem c_X12_ropes {h : ai_H} {S : Md} {B : Bk} {lm : Nat} {wk : Int32} {U : Nat → List Int} (hok : bk_ok B lm) (hRB : RB B S) (hwk : wk.toInt ≤ 9999) (hl : lrow U) (hU : ∀ T V q, q ≤ 400 → SI B wk T (nR B) (nR B) q → MI T q (q * q) V → mrow V U) (hmd : md_at h S) : ai_QM MX12_ropes [.ref 307, .int wk] h (fun r g => r = none ∧ md_ext h g ∧ ∃ T V q, q ≤ nR B ∧ T.1 40 = nI q ∧ sg S T ∧ SI B wk T (nR B) (nR B) q ∧ md_at g V ∧ rT T V ∧ ∀ c, c < nO B → rfin V U (nO B) c) := by
  refine qm_of (ls := [.ref 307, .int wk, .float 0]) (by decide) (by simp [ai_en, Value.category]) (by rfl) ?_
  refine wq (fun _ _ kk => rs_aload_n (pc := 0) dX12_ropes_0 rfl kk) ?_
  refine wq (fun _ _ kk => rs_iload_n (pc := 1) dX12_ropes_1 rfl kk) ?_
  obtain ⟨rv_2, hc_2, ⟨rfl, ee_2, T, V, q, hqR, ec, hsg, hSI, hmd_2, hmg, hMI⟩, hm_2⟩ := c_X12_meets hok hRB hwk hmd
  refine wq (fun _ _ kk => rs_callV (as := [_]) (pc := 2) dX12_ropes_2 mk_X12_meets mlX12_426 in_X12_meets se_X12_meets rfl (md_lt hmd (by decide)) hmd.2.1 rfl rfl (Nat.le_of_ble_eq_true rfl) (hm_2) kk) ?_
  replace hmd := hmd_2
  have E_2 := (md_ext.rf).trans ee_2
  refine wq (fun _ _ kk => rs_iconst (v := 0) (pc := 5) dX12_ropes_5 rfl kk) ?_
  refine wq (fun _ _ kk => wk_istn2 (pc := 6) dX12_ropes_6 (by decide) rfl kk) ?_
  have hobT : T.1 2 = nI (nO B) := (hRB.of hsg.sb).1.2.1.trans hok.2.1.1
  refine wq_mono ?_ (l_X12_ropes (h := h) (B := B) (T := T) (U := U) hok.2.1.2.1 hobT hl (nO B + 1) 0 _ _ (by omega) (by omega) ee_2 hmd hmg.rT (hU T V q (Nat.le_trans hqR hok.2.2.2.2.1.2.1) hSI hMI) (fun c hc => absurd hc (Nat.not_lt_zero c)))
  rintro r g ⟨a1, a2, W, a3, a4, a5⟩
  exact ⟨a1, a2, T, W, q, hqR, ec, hsg, hSI, a3, a4, a5⟩
