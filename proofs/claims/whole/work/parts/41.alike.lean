/-! 41: two, rope and far answer alike -/
theorem two_same {T : Nat → Ty} {U : Nat → List Int} (ht : trow T U) (hl : lrow U) {i j : Nat} (hi : i < 16) (hj : j < 16) (x : Int32) : zz_two T i j x = uu_two U i j x := by
  unfold zz_two uu_two
  have hk : i * 16 + j < 256 := by omega
  have h1 := (hl _ hk).1
  rw [ht _ hk, show 16 * i + j = i * 16 + j by omega]
  by_cases hx : x = 0
  · rw [if_pos hx, if_pos hx]; rfl
  · rw [if_neg hx, if_neg hx]
    by_cases hu : U (i * 16 + j) = []
    · rw [if_pos hu, if_pos (by rw [hu]; rfl)]
    · rw [if_neg hu, if_neg (by show ¬ nI _ = 0; rw [nI_z (by omega), len_0]; exact hu), (ty_mean_is hl hk hu).1, mt_wid_is ht hl hi hj hu]
      by_cases h1 : x = 1
      · rw [if_pos h1, if_pos h1, aL_l2i]
      · rw [if_neg h1, if_neg h1]
        by_cases h2 : x = 2
        · rw [if_pos h2, if_pos h2]
          show (aL (lmax _) - aL (lmin _)).toInt32 = _
          rw [aL_sub, aL_l2i]
        · rw [if_neg h2, if_neg h2, aL_l2i]
theorem lean_is {T : Nat → Ty} {U : Nat → List Int} (ht : trow T U) (hl : lrow U) {n gl x : Nat} (hn : n ≤ 16) (hg : gl < n) (hx : x < n) : led4 T n gl n x = rle U n gl x := by
  unfold led4 ro_ln rle
  rw [if_pos hx, ro_T_U ht hl]
  cases hq : ro_end (ro_U U) n gl x with
  | none => rfl
  | some v => exact rp_sum_is ht hl (v % 32) (ro_pt_ne hn hg hq)
theorem rope_same {T : Nat → Ty} {U : Nat → List Int} (ht : trow T U) (hl : lrow U) {n i j : Nat} {R : Md} (hn : n ≤ 16) (hj : j < n) (hi : i < n) (hled : rp_led T n j R) (x : Int32) : zz_rope R i x = uu_rope U n i j x := by
  obtain ⟨la, lb⟩ := led_at ht hl hn hj hled (show i < 16 by omega)
  have e2 := (hled i (by omega)).2.2
  rw [lean_is ht hl hn hj hi] at e2
  unfold zz_rope uu_rope
  cases hq : ro_end (ro_U U) n j i with
  | none => rw [if_pos (la hq).2]
  | some v =>
    obtain ⟨v1, v2, v3, v4, v5, v6⟩ := lb v hq
    rw [if_neg v6, rp_li_is v1 (by omega), if_neg v5, e2]
    show _ = (if x = 0 then nI (v % 32) else if x = 1 then _ else aI ((v / 32 : Nat) : Int))
    unfold rp_wi
    rw [if_neg v5, v1, show (32 : Int64) = aL 32 from rfl, aL_quo (by omega) (by omega) (by omega) (by omega), aL_l2i]
    rfl
/-- a walk goes back the same way -/
def ro_sym (e : Nat → Nat → Option Nat) : Prop := ∀ a b x, e a b = some x → ∃ y, e b a = some y
theorem ro_k_app {e : Nat → Nat → Option Nat} {n g c x : Nat} (hc : c < n) (he : e g c = some x) : ∀ k a v, ro_k e n g k a v → ∃ w, ro_k e n c (k + 1) a w := by
  intro k
  induction k with
  | zero =>
    rintro a v ⟨h1, -⟩
    subst h1
    exact ⟨x + 0, c, x, 0, hc, he, rfl, rfl, rfl⟩
  | succ k ih =>
    rintro a v ⟨b, y, z, hb, h1, h2, h3⟩
    obtain ⟨w, hw⟩ := ih b z h3
    exact ⟨y + w, b, y, w, hb, h1, rfl, hw⟩
theorem ro_k_rev {e : Nat → Nat → Option Nat} {n g : Nat} (hs : ro_sym e) : ∀ k a v, a < n → ro_k e n g k a v → ∃ w, ro_k e n a k g w := by
  intro k
  induction k with
  | zero =>
    rintro a v _ ⟨h1, -⟩
    subst h1
    exact ⟨0, rfl, rfl⟩
  | succ k ih =>
    rintro a v ha ⟨b, y, z, hb, h1, h2, h3⟩
    obtain ⟨w, hw⟩ := ih b z hb h3
    obtain ⟨y', hy'⟩ := hs a b y h1
    exact ro_k_app ha hy' k g w hw
theorem ro_k_le {e : Nat → Nat → Option Nat} {n g : Nat} (he : ro_pos e) (hg : g < n) {k a v : Nat} (ha : a < n) (h : ro_k e n g k a v) : ∃ u, ro_end e n g a = some u := by
  obtain ⟨u, -, hu⟩ := ro_it_k he hg (n + k) k a v (by omega) ha h
  have := ro_stay (ro_end_p he hg) k
  unfold ro_end
  rw [← this]
  exact ⟨u, hu⟩
theorem ro_end_sym {e : Nat → Nat → Option Nat} {n a b : Nat} (he : ro_pos e) (hs : ro_sym e) (ha : a < n) (hb : b < n) (h : ro_end e n a b = none) : ro_end e n b a = none := by
  cases hq : ro_end e n b a with
  | none => rfl
  | some v =>
    exfalso
    obtain ⟨l, hl, hn, hc⟩ := ro_end_good he hb a v hq
    obtain ⟨w, hw⟩ := ro_k_rev hs l.length a v ha (ro_k_w l a v hl hc)
    obtain ⟨u, hu⟩ := ro_k_le he ha hb hw
    rw [h] at hu
    cases hu
theorem fO_cong {p q : Nat → Bool} {v : Nat → Int32} : ∀ n, (∀ k, k < n → p k = q k) → fO p v n = fO q v n := by
  intro n
  induction n with
  | zero => intro _; rfl
  | succ n ih =>
    intro h
    rw [fO, fO, ih (fun k hk => h k (by omega)), h n (by omega)]
theorem LM_nil {B : Bk} {ln : Nat} (hok : bk_ok B ln) {wk : Int32} {S : Md} {z i j : Nat} (hG : GI B wk S (nR B) z) (hi : i < 16) (hj : j < 16) (h : LM B wk S z (i * 16 + j) = []) : LM B wk S z (j * 16 + i) = [] := by
  unfold LM at h ⊢
  rw [List.map_eq_nil_iff] at h ⊢
  apply List.eq_nil_iff_forall_not_mem.2
  intro K hK
  obtain ⟨c, c1, c2, c3⟩ := (mem_lst z).1 hK
  have hm := ((mt_p_is hok hG c1 (show j * 16 + i < 256 by omega)).1 c2).1
  rw [show (j * 16 + i) / 16 = j by omega, show (j * 16 + i) % 16 = i by omega] at hm
  have : K ∈ lst (mt_p S z (i * 16 + j)) (kC S) z := by
    obtain ⟨d, d1, d2, d3⟩ := cell_of hG hm.2.2.2
    refine (mem_lst z).2 ⟨d, d1, (mt_p_is hok hG d1 (show i * 16 + j < 256 by omega)).2 ⟨?_, ?_⟩, d2.trans c3⟩
    · rw [show (i * 16 + j) / 16 = i by omega, show (i * 16 + j) % 16 = j by omega, d2]
      exact ⟨fun e => hm.1 e.symm, hm.2.1, hm.2.2.2, hm.2.2.1⟩
    · rw [show (i * 16 + j) / 16 = i by omega]
      exact d3
  rw [h] at this
  cases this
theorem ro_U_sym {B : Bk} {ln : Nat} (hok : bk_ok B ln) {wk : Int32} {S : Md} {z : Nat} (hG : GI B wk S (nR B) z) : ro_sym (ro_U (LM B wk S z)) := by
  intro a b x h
  unfold ro_U at h ⊢
  split at h
  · next q =>
    exact ⟨_, if_pos ⟨q.2.1, q.1, fun e => q.2.2 (LM_nil hok hG q.2.1 q.1 e)⟩⟩
  · cases h
theorem far_same {B : Bk} {ln : Nat} (hok : bk_ok B ln) {wk : Int32} {S R : Md} {z i : Nat} (hG : GI B wk S (nR B) z) (hi : i < nO B) (hled : rp_led (mt_F S z) (nO B) i R) : zz_far R (nO B) = uu_far (LM B wk S z) (nO B) i (nO B) := by
  obtain ⟨hl, ht⟩ := LM_rows hok hG
  have hn := hok.2.1.2.1
  have he := ro_32_pos (ro_U_32 (LM B wk S z))
  have hs := ro_U_sym hok hG
  refine fO_cong _ (fun t htn => ?_)
  obtain ⟨la, lb⟩ := led_at ht hl hn hi hled (show t < 16 by omega)
  rw [decide_eq_decide]
  constructor
  · intro h
    refine ro_end_sym he hs hi htn ?_
    cases hq : ro_end (ro_U (LM B wk S z)) (nO B) i t with
    | none => rfl
    | some v => exact absurd h (lb v hq).2.2.2.2.2
  · intro h
    exact (la (ro_end_sym he hs htn hi h)).2
/-- what the model's meets and ropes want of the class's lists -/
theorem hU_of {B : Bk} {ln : Nat} (hok : bk_ok B ln) {wk : Int32} {S : Md} {z : Nat} (hG : GI B wk S (nR B) z) : ∀ T V q, q ≤ 400 → SI B wk T (nR B) (nR B) q → MI T q (q * q) V → mrow V (LM B wk S z) := fun _ _ _ hq hS hM => (mrow_of hok hG hS hq hM).1
