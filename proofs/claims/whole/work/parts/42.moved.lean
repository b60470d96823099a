/-! 42: moved (walks laid by wip/whole/p42.py) -/
theorem ty_fold_1 {p : Nat → Bool} {v : Nat → Int64} : ∀ n, (ty_fold p v n).1 = nI (cN p n) ∧ (ty_fold p v n).2.1 = fL p v n := by
  intro n
  induction n with
  | zero => exact ⟨rfl, rfl⟩
  | succ n ih =>
    rw [ty_fold, cN, fL]
    split
    · refine ⟨?_, ?_⟩
      · show (ty_fold p v n).1 + 1 = _
        rw [ih.1, nI_1]
      · show (ty_fold p v n).2.1 + v n = _
        rw [ih.2]
    · exact ih
theorem seenp_ga (B : Bk) (o n s w k : Int32) : xs_seenp B o n s w k = ga B k n s w o := by
  funext i
  unfold xs_seenp ga
  rw [decide_eq_decide]
  constructor
  · rintro ⟨a, b, c, d, e⟩; exact ⟨e, b, c, d, a⟩
  · rintro ⟨e, b, c, d, a⟩; exact ⟨a, b, c, d, e⟩
theorem seen_num (B : Bk) (o n s w k : Int32) : (xs_seenT B o n s w k).1 = nI (zc B k (n, s, w) o) ∧ (xs_seenT B o n s w k).2.1 = aL (zs B k (n, s, w) o) := by
  unfold xs_seenT
  rw [seenp_ga]
  obtain ⟨h1, h2⟩ := ty_fold_1 (p := ga B k n s w o) (v := fun i => (bk_red B (nI i)).toInt64) (bk_r B).1.toInt.toNat
  exact ⟨h1, h2.trans (b_sum_zs B k (n, s, w) o)⟩
theorem thou_num {B : Bk} {ln : Nat} (hok : bk_ok B ln) {k : Int32} {K : Int32 × Int32 × Int32} {o : Int32} (h : 0 < zc B k K o) : ty_thou (nI (zc B k K o)) (aL (zs B k K o)) = aL (1000 * zs B k K o / (zc B k K o : Int)) ∧ bi_fl (1000 * aL (zs B k K o)) (nI (zc B k K o)).toInt64 = aL (1000 * zs B k K o / (zc B k K o : Int)) := by
  have h1 := zs_b hok k K o
  have h2 := zc_le B hok k K o
  unfold ty_thou
  rw [if_neg (by rw [nI_z (by omega)]; omega), ← aI_nat, aI_i2l (by omega) (by omega), show (1000 : Int64) = aL 1000 from rfl, aL_mul, aL_fd (by omega) (by omega) (by omega) (by omega), aL_fl (by omega) (by omega) (by omega) (by omega)]
  exact ⟨rfl, rfl⟩
def uu_moved (B : Bk) (U : Nat → List Int) (k n s w : Int32) (i j : Nat) (x : Int32) : Int32 := if zc B k (n, s, w) (nI i) = 0 then -1000000000 else match ro_end (ro_U U) (nO B) j i with
  | none => -1000000000
  | some v => if x = 0 then (aL (1000 * zs B k (n, s, w) (nI i) / (zc B k (n, s, w) (nI i) : Int)) - rle U (nO B) j i).toInt32 else if bi_absL (rle U (nO B) j i) ≤ aL ((v / 32 : Nat) : Int) then 0 else 1
theorem q_tallySeen {h : ai_H} {tb lm : Int32} {B : Bk} {t : Ty} (hx : x_at h tb lm) (hB : bk_at h 1 B) (htl : h.2.2 306 = ty_cell t) (o n s w k : Int32) : ai_QM MX11_tallySeen [.ref 0, .int o, .int n, .int s, .int w, .int k] h (fun r g => r = none ∧ fr 306 306 h g ∧ g.2.2 306 = ty_cell (xs_seenT B o n s w k)) :=
  ⟨none, ai_set h 306 (ty_cell (xs_seenT B o n s w k)), ⟨rfl, ⟨rfl, rfl, fun j hj => ai_set_ne (by omega)⟩, ai_set_get⟩, c_X11_tallySeen hx hB htl o n s w k⟩
theorem sight_ex {B : Bk} {ln : Nat} (hok : bk_ok B ln) {o n s w : Int32} (h : ¬ xs_sight B o n s w = 0) : ¬ tb_has (bk_o B).1 o = 0 ∧ ¬ tb_has (bk_n B).1 n = 0 ∧ ¬ tb_has (bk_s B).1 s = 0 ∧ ¬ bi_in w 0 4 = 0 ∧ ∃ i, i < nO B ∧ o = nI i := by
  have hn := hok.2.1.2.1
  unfold xs_sight at h
  split at h
  · exact absurd rfl h
  · split at h
    · exact absurd rfl h
    · split at h
      · exact absurd rfl h
      · split at h
        · exact absurd rfl h
        · next h1 h2 h3 h4 =>
          refine ⟨h1, h2, h3, h4, ?_⟩
          rw [hok.2.1.1] at h1
          exact has_ex (by omega) h1
theorem dX11_moved_0 : decode cX11_moved 0 = .ok (.aload_n 0, 1) := by decide +kernel
theorem dX11_moved_1 : decode cX11_moved 1 = .ok (.iload_n 1, 1) := by decide +kernel
theorem dX11_moved_2 : decode cX11_moved 2 = .ok (.iload_n 2, 1) := by decide +kernel
theorem dX11_moved_3 : decode cX11_moved 3 = .ok (.iload_n 3, 1) := by decide +kernel
theorem dX11_moved_4 : decode cX11_moved 4 = .ok (.iload 4, 2) := by decide +kernel
theorem dX11_moved_6 : decode cX11_moved 6 = .ok (.invokevirtual 131, 3) := by decide +kernel
theorem dX11_moved_9 : decode cX11_moved 9 = .ok (.ifCond .eq 30, 3) := by decide +kernel
theorem dX11_moved_12 : decode cX11_moved 12 = .ok (.aload_n 0, 1) := by decide +kernel
theorem dX11_moved_13 : decode cX11_moved 13 = .ok (.getfield 10, 3) := by decide +kernel
theorem dX11_moved_16 : decode cX11_moved 16 = .ok (.getfield 108, 3) := by decide +kernel
theorem dX11_moved_19 : decode cX11_moved 19 = .ok (.iload 5, 2) := by decide +kernel
theorem dX11_moved_21 : decode cX11_moved 21 = .ok (.invokevirtual 138, 3) := by decide +kernel
theorem dX11_moved_24 : decode cX11_moved 24 = .ok (.ifCond .eq 15, 3) := by decide +kernel
theorem dX11_moved_27 : decode cX11_moved 27 = .ok (.iload 6, 2) := by decide +kernel
theorem dX11_moved_29 : decode cX11_moved 29 = .ok (.invokestatic 97, 3) := by decide +kernel
theorem dX11_moved_32 : decode cX11_moved 32 = .ok (.ifCond .eq 7, 3) := by decide +kernel
theorem dX11_moved_35 : decode cX11_moved 35 = .ok (.iconst 1, 1) := by decide +kernel
theorem dX11_moved_36 : decode cX11_moved 36 = .ok (.goto 4, 3) := by decide +kernel
theorem dX11_moved_39 : decode cX11_moved 39 = .ok (.iconst 0, 1) := by decide +kernel
theorem dX11_moved_40 : decode cX11_moved 40 = .ok (.istore 8, 2) := by decide +kernel
theorem dX11_moved_42 : decode cX11_moved 42 = .ok (.iload 8, 2) := by decide +kernel
theorem dX11_moved_44 : decode cX11_moved 44 = .ok (.ifCond .eq 13, 3) := by decide +kernel
theorem dX11_moved_47 : decode cX11_moved 47 = .ok (.iload 7, 2) := by decide +kernel
theorem dX11_moved_49 : decode cX11_moved 49 = .ok (.iconst 0, 1) := by decide +kernel
theorem dX11_moved_50 : decode cX11_moved 50 = .ok (.iconst 1, 1) := by decide +kernel
theorem dX11_moved_51 : decode cX11_moved 51 = .ok (.invokestatic 104, 3) := by decide +kernel
theorem dX11_moved_54 : decode cX11_moved 54 = .ok (.ifCond .ne 6, 3) := by decide +kernel
theorem dX11_moved_57 : decode cX11_moved 57 = .ok (.ldc 182, 2) := by decide +kernel
theorem dX11_moved_59 : decode cX11_moved 59 = .ok (.ireturn, 1) := by decide +kernel
theorem dX11_moved_60 : decode cX11_moved 60 = .ok (.aload_n 0, 1) := by decide +kernel
theorem dX11_moved_61 : decode cX11_moved 61 = .ok (.iload_n 1, 1) := by decide +kernel
theorem dX11_moved_62 : decode cX11_moved 62 = .ok (.iload_n 2, 1) := by decide +kernel
theorem dX11_moved_63 : decode cX11_moved 63 = .ok (.iload_n 3, 1) := by decide +kernel
theorem dX11_moved_64 : decode cX11_moved 64 = .ok (.iload 4, 2) := by decide +kernel
theorem dX11_moved_66 : decode cX11_moved 66 = .ok (.iload 6, 2) := by decide +kernel
theorem dX11_moved_68 : decode cX11_moved 68 = .ok (.invokevirtual 146, 3) := by decide +kernel
theorem dX11_moved_71 : decode cX11_moved 71 = .ok (.aload_n 0, 1) := by decide +kernel
theorem dX11_moved_72 : decode cX11_moved 72 = .ok (.iload 5, 2) := by decide +kernel
theorem dX11_moved_74 : decode cX11_moved 74 = .ok (.iload 6, 2) := by decide +kernel
theorem dX11_moved_76 : decode cX11_moved 76 = .ok (.invokevirtual 204, 3) := by decide +kernel
theorem dX11_moved_79 : decode cX11_moved 79 = .ok (.aload_n 0, 1) := by decide +kernel
theorem dX11_moved_80 : decode cX11_moved 80 = .ok (.getfield 93, 3) := by decide +kernel
theorem dX11_moved_83 : decode cX11_moved 83 = .ok (.getfield 150, 3) := by decide +kernel
theorem dX11_moved_86 : decode cX11_moved 86 = .ok (.ifCond .eq 14, 3) := by decide +kernel
theorem dX11_moved_89 : decode cX11_moved 89 = .ok (.aload_n 0, 1) := by decide +kernel
theorem dX11_moved_90 : decode cX11_moved 90 = .ok (.getfield 72, 3) := by decide +kernel
theorem dX11_moved_93 : decode cX11_moved 93 = .ok (.iload_n 1, 1) := by decide +kernel
theorem dX11_moved_94 : decode cX11_moved 94 = .ok (.invokevirtual 208, 3) := by decide +kernel
theorem dX11_moved_97 : decode cX11_moved 97 = .ok (.ifCond .ne 6, 3) := by decide +kernel
theorem dX11_moved_100 : decode cX11_moved 100 = .ok (.ldc 145, 2) := by decide +kernel
theorem dX11_moved_102 : decode cX11_moved 102 = .ok (.ireturn, 1) := by decide +kernel
theorem dX11_moved_103 : decode cX11_moved 103 = .ok (.aload_n 0, 1) := by decide +kernel
theorem dX11_moved_104 : decode cX11_moved 104 = .ok (.getfield 72, 3) := by decide +kernel
theorem dX11_moved_107 : decode cX11_moved 107 = .ok (.iload_n 1, 1) := by decide +kernel
theorem dX11_moved_108 : decode cX11_moved 108 = .ok (.invokevirtual 215, 3) := by decide +kernel
theorem dX11_moved_111 : decode cX11_moved 111 = .ok (.lstore 9, 2) := by decide +kernel
theorem dX11_moved_113 : decode cX11_moved 113 = .ok (.iload 7, 2) := by decide +kernel
theorem dX11_moved_115 : decode cX11_moved 115 = .ok (.ifCond .ne 15, 3) := by decide +kernel
theorem dX11_moved_118 : decode cX11_moved 118 = .ok (.aload_n 0, 1) := by decide +kernel
theorem dX11_moved_119 : decode cX11_moved 119 = .ok (.getfield 93, 3) := by decide +kernel
theorem dX11_moved_122 : decode cX11_moved 122 = .ok (.invokevirtual 230, 3) := by decide +kernel
theorem dX11_moved_125 : decode cX11_moved 125 = .ok (.lload 9, 2) := by decide +kernel
theorem dX11_moved_127 : decode cX11_moved 127 = .ok (.lsub, 1) := by decide +kernel
theorem dX11_moved_128 : decode cX11_moved 128 = .ok (.l2i, 1) := by decide +kernel
theorem dX11_moved_129 : decode cX11_moved 129 = .ok (.ireturn, 1) := by decide +kernel
theorem dX11_moved_130 : decode cX11_moved 130 = .ok (.lload 9, 2) := by decide +kernel
theorem dX11_moved_132 : decode cX11_moved 132 = .ok (.invokestatic 257, 3) := by decide +kernel
theorem dX11_moved_135 : decode cX11_moved 135 = .ok (.aload_n 0, 1) := by decide +kernel
theorem dX11_moved_136 : decode cX11_moved 136 = .ok (.getfield 72, 3) := by decide +kernel
theorem dX11_moved_139 : decode cX11_moved 139 = .ok (.iload_n 1, 1) := by decide +kernel
theorem dX11_moved_140 : decode cX11_moved 140 = .ok (.invokevirtual 219, 3) := by decide +kernel
theorem dX11_moved_143 : decode cX11_moved 143 = .ok (.lcmp, 1) := by decide +kernel
theorem dX11_moved_144 : decode cX11_moved 144 = .ok (.ifCond .le 7, 3) := by decide +kernel
theorem dX11_moved_147 : decode cX11_moved 147 = .ok (.iconst 1, 1) := by decide +kernel
theorem dX11_moved_148 : decode cX11_moved 148 = .ok (.goto 4, 3) := by decide +kernel
theorem dX11_moved_151 : decode cX11_moved 151 = .ok (.iconst 0, 1) := by decide +kernel
theorem dX11_moved_152 : decode cX11_moved 152 = .ok (.ireturn, 1) := by decide +kernel
set_option maxRecDepth 100000 in
set_option maxHeartbeats 4000000 in
theorem c_X11_moved {h : ai_H} {tb lm : Int32} {B : Bk} {ln : Nat} (hx : x_at h tb lm) (hB : bk_at h 1 B) (hok : bk_ok B ln) (hs : scr h) (o n s w y k x : Int32) : ai_QM MX11_moved [.ref 0, .int o, .int n, .int s, .int w, .int y, .int k, .int x] h (fun r g => fr 22 306 h g ∧ scr g ∧ (((xs_sight B o n s w = 0 ∨ tb_has (bk_o B).1 y = 0 ∨ bi_in k 0 9999 = 0 ∨ bi_in x 0 1 = 0) ∧ r = some (.int (-2000000000))) ∨ (¬ (xs_sight B o n s w = 0 ∨ tb_has (bk_o B).1 y = 0 ∨ bi_in k 0 9999 = 0 ∨ bi_in x 0 1 = 0) ∧ (∃ i j, i < nO B ∧ j < nO B ∧ o = nI i ∧ y = nI j ∧ ∃ S z, GI B k S (nR B) z ∧ r = some (.int (uu_moved B (LM B k S z) k n s w i j x)))))) := by
  obtain ⟨-, -, -, ⟨S0, hcl⟩, ⟨T0, hmt⟩, ⟨R0, hrp⟩, -, -, ⟨t0, htl⟩⟩ := id hs
  have hn16 := hok.2.1.2.1
  refine qm_of (ls := [.ref 0, .int o, .int n, .int s, .int w, .int y, .int k, .int x, .float 0, .float 0, .float 0]) (by decide) (by simp [ai_en, Value.category]) (by rfl) ?_
  refine wq (fun _ _ kk => rs_aload_n (pc := 0) dX11_moved_0 rfl kk) ?_
  refine wq (fun _ _ kk => rs_iload_n (pc := 1) dX11_moved_1 rfl kk) ?_
  refine wq (fun _ _ kk => rs_iload_n (pc := 2) dX11_moved_2 rfl kk) ?_
  refine wq (fun _ _ kk => rs_iload_n (pc := 3) dX11_moved_3 rfl kk) ?_
  refine wq (fun _ _ kk => rs_iload (pc := 4) dX11_moved_4 rfl kk) ?_
  refine wq (fun _ _ kk => rs_callV (as := [_, _, _, _]) (pc := 6) dX11_moved_6 mk_X11_isSight mlX11_131 in_X11_isSight se_X11_isSight rfl (x_lt hx (by decide)) hx.2 rfl rfl (Nat.le_of_ble_eq_true rfl) (c_X11_isSight hx hB _ _ _ _) kk) ?_
  refine wq_br (fun _ _ kt kf => rs_if_eq (tgt := 39) (pc := 9) dX11_moved_9 rfl kt kf) (fun c_9 => ?_) (fun c_9 => ?_)
  · refine wq (fun _ _ kk => rs_iconst (v := 0) (pc := 39) dX11_moved_39 rfl kk) ?_
    refine wq (fun _ _ kk => wk_ist8 (pc := 40) dX11_moved_40 (by decide) rfl kk) ?_
    refine wq (fun _ _ kk => rs_iload (pc := 42) dX11_moved_42 rfl kk) ?_
    refine wq_br (fun _ _ kt kf => rs_if_eq (tgt := 57) (pc := 44) dX11_moved_44 rfl kt kf) (fun c_44 => ?_) (fun c_44 => absurd c_44 (by decide))
    refine wq (fun _ _ kk => rs_ldc (pc := 57) dX11_moved_57 cnX11_182 kk) ?_
    refine wq_ret ?_ (rs_iret (pc := 59) dX11_moved_59 rfl)
    exact ⟨fr.rf, hs, Or.inl ⟨by simp [c_9], rfl⟩⟩
  · refine wq (fun _ _ kk => rs_aload_n (pc := 12) dX11_moved_12 rfl kk) ?_
    refine wq (fun _ _ kk => rs_getf (pc := 13) dX11_moved_13 fX11_10 (x_lt hx (by decide)) hx.2 rfl kk) ?_
    refine wq (fun _ _ kk => rs_getf (pc := 16) dX11_moved_16 fX11_108 (bk_lt hB (by decide)) hB.2.1 rfl kk) ?_
    refine wq (fun _ _ kk => rs_iload (pc := 19) dX11_moved_19 rfl kk) ?_
    refine wq (fun _ _ kk => rs_callV (as := [_]) (pc := 21) dX11_moved_21 mk_X8_has mlX11_138 in_X8_has se_X8_has rfl (bk_lt hB (by decide)) hB.2.2.1.1 rfl rfl (Nat.le_of_ble_eq_true rfl) (c_X8_has (bk_lt hB (by decide)) hB.2.2.1.1 _) kk) ?_
    refine wq_br (fun _ _ kt kf => rs_if_eq (tgt := 39) (pc := 24) dX11_moved_24 rfl kt kf) (fun c_24 => ?_) (fun c_24 => ?_)
    · refine wq (fun _ _ kk => rs_iconst (v := 0) (pc := 39) dX11_moved_39 rfl kk) ?_
      refine wq (fun _ _ kk => wk_ist8 (pc := 40) dX11_moved_40 (by decide) rfl kk) ?_
      refine wq (fun _ _ kk => rs_iload (pc := 42) dX11_moved_42 rfl kk) ?_
      refine wq_br (fun _ _ kt kf => rs_if_eq (tgt := 57) (pc := 44) dX11_moved_44 rfl kt kf) (fun c_44 => ?_) (fun c_44 => absurd c_44 (by decide))
      refine wq (fun _ _ kk => rs_ldc (pc := 57) dX11_moved_57 cnX11_182 kk) ?_
      refine wq_ret ?_ (rs_iret (pc := 59) dX11_moved_59 rfl)
      exact ⟨fr.rf, hs, Or.inl ⟨by simp [c_9, c_24], rfl⟩⟩
    · refine wq (fun _ _ kk => rs_iload (pc := 27) dX11_moved_27 rfl kk) ?_
      refine wq (fun _ _ kk => rs_callS (as := [_]) (pc := 29) dX11_moved_29 mk_X11_isWeek mlX11_97 st_X11_isWeek rfl rfl (Nat.le_of_ble_eq_true rfl) (c_X11_isWeek _) kk) ?_
      refine wq_br (fun _ _ kt kf => rs_if_eq (tgt := 39) (pc := 32) dX11_moved_32 rfl kt kf) (fun c_32 => ?_) (fun c_32 => ?_)
      · refine wq (fun _ _ kk => rs_iconst (v := 0) (pc := 39) dX11_moved_39 rfl kk) ?_
        refine wq (fun _ _ kk => wk_ist8 (pc := 40) dX11_moved_40 (by decide) rfl kk) ?_
        refine wq (fun _ _ kk => rs_iload (pc := 42) dX11_moved_42 rfl kk) ?_
        refine wq_br (fun _ _ kt kf => rs_if_eq (tgt := 57) (pc := 44) dX11_moved_44 rfl kt kf) (fun c_44 => ?_) (fun c_44 => absurd c_44 (by decide))
        refine wq (fun _ _ kk => rs_ldc (pc := 57) dX11_moved_57 cnX11_182 kk) ?_
        refine wq_ret ?_ (rs_iret (pc := 59) dX11_moved_59 rfl)
        exact ⟨fr.rf, hs, Or.inl ⟨by simp [c_9, c_24, c_32], rfl⟩⟩
      · refine wq (fun _ _ kk => rs_iconst (v := 1) (pc := 35) dX11_moved_35 rfl kk) ?_
        refine wq (fun _ _ kk => rs_goto (tgt := 40) (pc := 36) dX11_moved_36 rfl kk) ?_
        refine wq (fun _ _ kk => wk_ist8 (pc := 40) dX11_moved_40 (by decide) rfl kk) ?_
        refine wq (fun _ _ kk => rs_iload (pc := 42) dX11_moved_42 rfl kk) ?_
        refine wq_br (fun _ _ kt kf => rs_if_eq (tgt := 57) (pc := 44) dX11_moved_44 rfl kt kf) (fun c_44 => absurd c_44 (by decide)) (fun c_44 => ?_)
        refine wq (fun _ _ kk => rs_iload (pc := 47) dX11_moved_47 rfl kk) ?_
        refine wq (fun _ _ kk => rs_iconst (v := 0) (pc := 49) dX11_moved_49 rfl kk) ?_
        refine wq (fun _ _ kk => rs_iconst (v := 1) (pc := 50) dX11_moved_50 rfl kk) ?_
        refine wq (fun _ _ kk => rs_callS (as := [_, _, _]) (pc := 51) dX11_moved_51 mk_X11_isWithin mlX11_104 st_X11_isWithin rfl rfl (Nat.le_of_ble_eq_true rfl) (c_X11_isWithin) kk) ?_
        refine wq_bn (fun _ _ kt kf => rs_if_ne (tgt := 60) (pc := 54) dX11_moved_54 rfl kt kf) (fun c_54 => ?_) (fun c_54 => ?_)
        · refine wq (fun _ _ kk => rs_aload_n (pc := 60) dX11_moved_60 rfl kk) ?_
          refine wq (fun _ _ kk => rs_iload_n (pc := 61) dX11_moved_61 rfl kk) ?_
          refine wq (fun _ _ kk => rs_iload_n (pc := 62) dX11_moved_62 rfl kk) ?_
          refine wq (fun _ _ kk => rs_iload_n (pc := 63) dX11_moved_63 rfl kk) ?_
          refine wq (fun _ _ kk => rs_iload (pc := 64) dX11_moved_64 rfl kk) ?_
          refine wq (fun _ _ kk => rs_iload (pc := 66) dX11_moved_66 rfl kk) ?_
          have hgu : ¬ (xs_sight B o n s w = 0 ∨ tb_has (bk_o B).1 y = 0 ∨ bi_in k 0 9999 = 0 ∨ bi_in x 0 1 = 0) := by simp [c_9, c_24, c_32, c_54]
          obtain ⟨-, -, -, -, i, hi, rfl⟩ := sight_ex hok c_9
          obtain ⟨j, hj, rfl⟩ := has_ex (n := nO B) (by omega) (by rw [← hok.2.1.1]; exact c_24)
          have hsn := seen_num B (nI i) n s w k
          obtain ⟨rv_68, hc_68, ⟨rfl, ee_68, htl_68⟩, hm_68⟩ := q_tallySeen hx hB htl (nI i) n s w k
          refine wq (fun _ _ kk => rs_callV (as := [_, _, _, _, _]) (pc := 68) dX11_moved_68 mk_X11_tallySeen mlX11_146 in_X11_tallySeen se_X11_tallySeen rfl (x_lt hx (by decide)) hx.2 rfl rfl (Nat.le_of_ble_eq_true rfl) (hm_68) kk) ?_
          replace htl := htl_68
          replace hx := x_at.keep hx ee_68.1 (ee_68.2.2 0 (by decide))
          replace hB := hB.keep ee_68.1 (fun j _ _ => ee_68.2.2 j (by omega))
          replace hcl := cl_keep hcl ee_68.1 (fun j _ _ => ee_68.2.2 j (by omega))
          replace hmt := mt_keep hmt ee_68.1 (fun j _ _ => ee_68.2.2 j (by omega))
          replace hrp := rp_keep hrp ee_68.1 (fun j _ _ => ee_68.2.2 j (by omega))
          refine wq (fun _ _ kk => rs_aload_n (pc := 71) dX11_moved_71 rfl kk) ?_
          refine wq (fun _ _ kk => rs_iload (pc := 72) dX11_moved_72 rfl kk) ?_
          refine wq (fun _ _ kk => rs_iload (pc := 74) dX11_moved_74 rfl kk) ?_
          obtain ⟨rv_76, hc_76, ⟨rfl, ee_76, S, z, R, hG, hcl_76, hmt_76, hrp_76, hled⟩, hm_76⟩ := c_X11_tie hx hB hok hcl hmt hrp hj k
          refine wq (fun _ _ kk => rs_callV (as := [_, _]) (pc := 76) dX11_moved_76 mk_X11_tie mlX11_204 in_X11_tie se_X11_tie rfl (x_lt hx (by decide)) hx.2 rfl rfl (Nat.le_of_ble_eq_true rfl) (hm_76) kk) ?_
          replace hcl := hcl_76
          replace hmt := hmt_76
          replace hrp := hrp_76
          replace hx := x_at.keep hx ee_76.1 (ee_76.2.2 0 (by decide))
          replace hB := hB.keep ee_76.1 (fun j _ _ => ee_76.2.2 j (by omega))
          replace htl := (ee_76.2.2 306 (by decide)).trans htl
          obtain ⟨hlr, htr⟩ := LM_rows hok hG
          obtain ⟨la, lb⟩ := led_at htr hlr hn16 hj hled (show i < 16 by omega)
          have e2 := (hled i (by omega)).2.2
          rw [lean_is htr hlr hn16 hj hi] at e2
          have hzl := zc_le B hok k (n, s, w) (nI i)
          refine wq (fun _ _ kk => rs_aload_n (pc := 79) dX11_moved_79 rfl kk) ?_
          refine wq (fun _ _ kk => rs_getf (pc := 80) dX11_moved_80 fX11_93 (x_lt hx (by decide)) hx.2 rfl kk) ?_
          refine wq (fun _ _ kk => rs_getf (pc := 83) dX11_moved_83 fX11_150 (x_lt hx (by decide)) htl rfl kk) ?_
          rw [hsn.1]
          refine wq_br (fun _ _ kt kf => rs_if_eq (tgt := 100) (pc := 86) dX11_moved_86 rfl kt kf) (fun c_86 => ?_) (fun c_86 => ?_)
          · rw [nI_z (by omega)] at c_86
            refine wq (fun _ _ kk => rs_ldc (pc := 100) dX11_moved_100 cnX11_145 kk) ?_
            refine wq_ret ?_ (rs_iret (pc := 102) dX11_moved_102 rfl)
            exact ⟨(fr.up (lo := 306) (hi := 306) ee_68 (by decide) (by decide)).trans (ee_76.up (by decide) (by decide)), (hs.tal ee_68 ⟨_, htl_68⟩).tie ee_76 ⟨_, hcl⟩ ⟨_, hmt⟩ ⟨_, hrp⟩, Or.inr ⟨hgu, i, j, hi, hj, rfl, rfl, S, z, hG, by unfold uu_moved; first | (rw [if_pos c_86]; done) | (rw [if_neg c_86, hv])⟩⟩
          · rw [nI_z (by omega)] at c_86
            refine wq (fun _ _ kk => rs_aload_n (pc := 89) dX11_moved_89 rfl kk) ?_
            refine wq (fun _ _ kk => rs_getf (pc := 90) dX11_moved_90 fX11_72 (x_lt hx (by decide)) hx.2 rfl kk) ?_
            refine wq (fun _ _ kk => rs_iload_n (pc := 93) dX11_moved_93 rfl kk) ?_
            refine wq (fun _ _ kk => rs_callV (as := [_]) (pc := 94) dX11_moved_94 mk_X6_reach mlX11_208 in_X6_reach se_X6_reach rfl (mo_lt hrp (by decide)) hrp.2.1 rfl rfl (Nat.le_of_ble_eq_true rfl) (c_X6_reach hrp (show i < 16 by omega)) kk) ?_
            refine wq_bn (fun _ _ kt kf => rs_if_ne (tgt := 103) (pc := 97) dX11_moved_97 rfl kt kf) (fun c_97 => ?_) (fun c_97 => ?_)
            · obtain ⟨v, hv⟩ : ∃ v, ro_end (ro_U (LM B k S z)) (nO B) j i = some v := by
                cases hq : ro_end (ro_U (LM B k S z)) (nO B) j i with
                | none => exact absurd (la hq).2 c_97
                | some v => exact ⟨v, rfl⟩
              obtain ⟨v1, v2, v3, v4, v5, v6⟩ := lb v hv
              refine wq (fun _ _ kk => rs_aload_n (pc := 103) dX11_moved_103 rfl kk) ?_
              refine wq (fun _ _ kk => rs_getf (pc := 104) dX11_moved_104 fX11_72 (x_lt hx (by decide)) hx.2 rfl kk) ?_
              refine wq (fun _ _ kk => rs_iload_n (pc := 107) dX11_moved_107 rfl kk) ?_
              refine wq (fun _ _ kk => rs_callV (as := [_]) (pc := 108) dX11_moved_108 mk_X6_lean mlX11_215 in_X6_lean se_X6_lean rfl (mo_lt hrp (by decide)) hrp.2.1 rfl rfl (Nat.le_of_ble_eq_true rfl) (c_X6_lean hrp (show i < 16 by omega)) kk) ?_
              rw [if_neg v5, e2]
              refine wq (fun _ _ kk => wk_lst9 (pc := 111) dX11_moved_111 (by decide) rfl kk) ?_
              refine wq (fun _ _ kk => rs_iload (pc := 113) dX11_moved_113 rfl kk) ?_
              refine wq_bn (fun _ _ kt kf => rs_if_ne (tgt := 130) (pc := 115) dX11_moved_115 rfl kt kf) (fun c_115 => ?_) (fun c_115 => ?_)
              · refine wq (fun _ _ kk => rs_lload (pc := 130) dX11_moved_130 rfl kk) ?_
                refine wq (fun _ _ kk => rs_callS (as := [_]) (pc := 132) dX11_moved_132 mk_J9_abs_067f4 mlX11_257 st_J9_abs_067f4 rfl rfl (Nat.le_of_ble_eq_true rfl) (c_absL) kk) ?_
                refine wq (fun _ _ kk => rs_aload_n (pc := 135) dX11_moved_135 rfl kk) ?_
                refine wq (fun _ _ kk => rs_getf (pc := 136) dX11_moved_136 fX11_72 (x_lt hx (by decide)) hx.2 rfl kk) ?_
                refine wq (fun _ _ kk => rs_iload_n (pc := 139) dX11_moved_139 rfl kk) ?_
                refine wq (fun _ _ kk => rs_callV (as := [_]) (pc := 140) dX11_moved_140 mk_X6_width mlX11_219 in_X6_width se_X6_width rfl (mo_lt hrp (by decide)) hrp.2.1 rfl rfl (Nat.le_of_ble_eq_true rfl) (c_X6_width hrp (show i < 16 by omega)) kk) ?_
                rw [show rp_wi (R.2.2.2 0) i = aL ((v / 32 : Nat) : Int) from by unfold rp_wi; rw [if_neg v5, v1, show (32 : Int64) = aL 32 from rfl, aL_quo (by omega) (by omega) (by omega) (by omega)]; rfl]
                refine wq_br (fun _ _ kt kf => wk_lcmp_le (tgt := 151) (pc := 143) dX11_moved_143 dX11_moved_144 rfl kt kf) (fun c_143 => ?_) (fun c_143 => ?_)
                · refine wq (fun _ _ kk => rs_iconst (v := 0) (pc := 151) dX11_moved_151 rfl kk) ?_
                  refine wq_ret ?_ (rs_iret (pc := 152) dX11_moved_152 rfl)
                  exact ⟨(fr.up (lo := 306) (hi := 306) ee_68 (by decide) (by decide)).trans (ee_76.up (by decide) (by decide)), (hs.tal ee_68 ⟨_, htl_68⟩).tie ee_76 ⟨_, hcl⟩ ⟨_, hmt⟩ ⟨_, hrp⟩, Or.inr ⟨hgu, i, j, hi, hj, rfl, rfl, S, z, hG, by unfold uu_moved; rw [if_neg c_86, hv]; show _ = some (Value.int (if x = 0 then _ else if bi_absL (rle (LM B k S z) (nO B) j i) ≤ aL ((v / 32 : Nat) : Int) then 0 else 1)); rw [if_neg c_115]; first | rw [if_pos c_143] | rw [if_neg c_143]⟩⟩
                · refine wq (fun _ _ kk => rs_iconst (v := 1) (pc := 147) dX11_moved_147 rfl kk) ?_
                  refine wq (fun _ _ kk => rs_goto (tgt := 152) (pc := 148) dX11_moved_148 rfl kk) ?_
                  refine wq_ret ?_ (rs_iret (pc := 152) dX11_moved_152 rfl)
                  exact ⟨(fr.up (lo := 306) (hi := 306) ee_68 (by decide) (by decide)).trans (ee_76.up (by decide) (by decide)), (hs.tal ee_68 ⟨_, htl_68⟩).tie ee_76 ⟨_, hcl⟩ ⟨_, hmt⟩ ⟨_, hrp⟩, Or.inr ⟨hgu, i, j, hi, hj, rfl, rfl, S, z, hG, by unfold uu_moved; rw [if_neg c_86, hv]; show _ = some (Value.int (if x = 0 then _ else if bi_absL (rle (LM B k S z) (nO B) j i) ≤ aL ((v / 32 : Nat) : Int) then 0 else 1)); rw [if_neg c_115]; first | rw [if_pos c_143] | rw [if_neg c_143]⟩⟩
              · refine wq (fun _ _ kk => rs_aload_n (pc := 118) dX11_moved_118 rfl kk) ?_
                refine wq (fun _ _ kk => rs_getf (pc := 119) dX11_moved_119 fX11_93 (x_lt hx (by decide)) hx.2 rfl kk) ?_
                refine wq (fun _ _ kk => rs_callV (as := []) (pc := 122) dX11_moved_122 mk_X9_thousandths mlX11_230 in_X9_thousandths se_X9_thousandths rfl (x_lt hx (by decide)) htl rfl rfl (Nat.le_of_ble_eq_true rfl) (c_X9_thousandths (x_lt hx (by decide)) htl) kk) ?_
                rw [hsn.1, hsn.2, (thou_num hok (by omega)).1]
                refine wq (fun _ _ kk => rs_lload (pc := 125) dX11_moved_125 rfl kk) ?_
                refine wq (fun _ _ kk => rs_lsub (pc := 127) dX11_moved_127 kk) ?_
                refine wq (fun _ _ kk => rs_l2i (pc := 128) dX11_moved_128 kk) ?_
                refine wq_ret ?_ (rs_iret (pc := 129) dX11_moved_129 rfl)
                exact ⟨(fr.up (lo := 306) (hi := 306) ee_68 (by decide) (by decide)).trans (ee_76.up (by decide) (by decide)), (hs.tal ee_68 ⟨_, htl_68⟩).tie ee_76 ⟨_, hcl⟩ ⟨_, hmt⟩ ⟨_, hrp⟩, Or.inr ⟨hgu, i, j, hi, hj, rfl, rfl, S, z, hG, by unfold uu_moved; rw [if_neg c_86, hv]; show _ = some (Value.int (if x = 0 then _ else if bi_absL (rle (LM B k S z) (nO B) j i) ≤ aL ((v / 32 : Nat) : Int) then 0 else 1)); rw [if_pos c_115]⟩⟩
            · have hv : ro_end (ro_U (LM B k S z)) (nO B) j i = none := by
                cases hq : ro_end (ro_U (LM B k S z)) (nO B) j i with
                | none => rfl
                | some v => exact absurd c_97 (lb v hq).2.2.2.2.2
              refine wq (fun _ _ kk => rs_ldc (pc := 100) dX11_moved_100 cnX11_145 kk) ?_
              refine wq_ret ?_ (rs_iret (pc := 102) dX11_moved_102 rfl)
              exact ⟨(fr.up (lo := 306) (hi := 306) ee_68 (by decide) (by decide)).trans (ee_76.up (by decide) (by decide)), (hs.tal ee_68 ⟨_, htl_68⟩).tie ee_76 ⟨_, hcl⟩ ⟨_, hmt⟩ ⟨_, hrp⟩, Or.inr ⟨hgu, i, j, hi, hj, rfl, rfl, S, z, hG, by unfold uu_moved; first | (rw [if_pos c_86]; done) | (rw [if_neg c_86, hv])⟩⟩
        · refine wq (fun _ _ kk => rs_ldc (pc := 57) dX11_moved_57 cnX11_182 kk) ?_
          refine wq_ret ?_ (rs_iret (pc := 59) dX11_moved_59 rfl)
          exact ⟨fr.rf, hs, Or.inl ⟨by simp [c_9, c_24, c_32, c_54], rfl⟩⟩
theorem dX12_mean_0 : decode cX12_mean 0 = .ok (.ldc2_w 401, 3) := by decide +kernel
theorem dX12_mean_3 : decode cX12_mean 3 = .ok (.aload_n 0, 1) := by decide +kernel
theorem dX12_mean_4 : decode cX12_mean 4 = .ok (.getfield 111, 3) := by decide +kernel
theorem dX12_mean_7 : decode cX12_mean 7 = .ok (.iload_n 1, 1) := by decide +kernel
theorem dX12_mean_8 : decode cX12_mean 8 = .ok (.laload, 1) := by decide +kernel
theorem dX12_mean_9 : decode cX12_mean 9 = .ok (.lmul, 1) := by decide +kernel
theorem dX12_mean_10 : decode cX12_mean 10 = .ok (.aload_n 0, 1) := by decide +kernel
theorem dX12_mean_11 : decode cX12_mean 11 = .ok (.getfield 102, 3) := by decide +kernel
theorem dX12_mean_14 : decode cX12_mean 14 = .ok (.iload_n 1, 1) := by decide +kernel
theorem dX12_mean_15 : decode cX12_mean 15 = .ok (.iaload, 1) := by decide +kernel
theorem dX12_mean_16 : decode cX12_mean 16 = .ok (.i2l, 1) := by decide +kernel
theorem dX12_mean_17 : decode cX12_mean 17 = .ok (.invokestatic 403, 3) := by decide +kernel
theorem dX12_mean_20 : decode cX12_mean 20 = .ok (.lreturn, 1) := by decide +kernel
set_option maxRecDepth 100000 in
set_option maxHeartbeats 4000000 in
theorem c_X12_mean {h : ai_H} {V : Md} (hmd : md_at h V) {i : Nat} (hi : i < 400) (hnz : ¬ (V.2.2.1 45 i).toInt64 = 0) : ai_Met MX12_mean [.ref 307, .int (nI i)] h (some (.long (bi_fl (1000 * V.2.2.2 48 i) (V.2.2.1 45 i).toInt64))) h := by
  refine ai_met (ls := [.ref 307, .int (nI i)]) (by decide) (by simp [ai_en, Value.category]) (by rfl) ?_
  refine rs_ldc2 (pc := 0) dX12_mean_0 cnX12_401 ?_
  refine rs_aload_n (pc := 3) dX12_mean_3 rfl ?_
  refine rs_getf (pc := 4) dX12_mean_4 fX12_111 (md_lt hmd (by decide)) hmd.2.1 rfl ?_
  refine rs_iload_n (pc := 7) dX12_mean_7 rfl ?_
  refine rs_lald (pc := 8) dX12_mean_8 (md_lt hmd (by decide)) (md_getl (d := 33) (k := 48) (kd := 1) (n := 400) rfl (by decide) hmd) (vp_in_nI (n := i) (N := 400) (by omega) (by decide)) ?_
  rw [nI_clamp (show i < 2 ^ 31 by omega)]
  refine rs_lmul (pc := 9) dX12_mean_9 ?_
  refine rs_aload_n (pc := 10) dX12_mean_10 rfl ?_
  refine rs_getf (pc := 11) dX12_mean_11 fX12_102 (md_lt hmd (by decide)) hmd.2.1 rfl ?_
  refine rs_iload_n (pc := 14) dX12_mean_14 rfl ?_
  refine rs_iald (pc := 15) dX12_mean_15 (md_lt hmd (by decide)) (md_geti (d := 30) (k := 45) (kd := 0) (n := 400) rfl (by decide) hmd) (vp_in_nI (n := i) (N := 400) (by omega) (by decide)) ?_
  rw [nI_clamp (show i < 2 ^ 31 by omega)]
  refine rs_i2l (pc := 16) dX12_mean_16 ?_
  refine rs_callS (as := [_, _]) (pc := 17) dX12_mean_17 mk_X12_floorOf mlX12_403 st_X12_floorOf rfl rfl (Nat.le_of_ble_eq_true rfl) (c_X12_floorOf hnz) ?_
  exact wk_lret (pc := 20) dX12_mean_20 rfl (rfl) (rfl)
/-- a sight's mean -/
theorem mean_at {h : ai_H} {B : Bk} {ln : Nat} {k : Int32} {T V : Md} {q c : Nat} (hok : bk_ok B ln) (hmd : md_at h V) (hrT : rT T V) (hS : SI B k T (nR B) (nR B) q) (hq : q ≤ 400) (hc : c < q) : ai_Met MX12_mean [.ref 307, .int (nI c)] h (some (.long (aL (1000 * zs B k (kM T c) (T.2.2.1 41 c) / (zc B k (kM T c) (T.2.2.1 41 c) : Int))))) h := by
  have hp := sight_pos hS hc
  have hl := zc_le B hok k (kM T c) (T.2.2.1 41 c)
  obtain ⟨e1, e2⟩ := sight_num hS hc
  have m := c_X12_mean hmd (i := c) (by omega) (by rw [hrT.2.2.1 45 (by omega), e1]; exact i64_ne0 (by rw [nI_z (by omega)]; omega))
  rw [hrT.2.2.1 45 (by omega), hrT.2.2.2 48 (by omega), e1, e2, (thou_num hok hp).2] at m
  exact m
theorem dX12_moved_0 : decode cX12_moved 0 = .ok (.aload_n 0, 1) := by decide +kernel
theorem dX12_moved_1 : decode cX12_moved 1 = .ok (.iload_n 1, 1) := by decide +kernel
theorem dX12_moved_2 : decode cX12_moved 2 = .ok (.iload 5, 2) := by decide +kernel
theorem dX12_moved_4 : decode cX12_moved 4 = .ok (.iload 6, 2) := by decide +kernel
theorem dX12_moved_6 : decode cX12_moved 6 = .ok (.invokevirtual 421, 3) := by decide +kernel
theorem dX12_moved_9 : decode cX12_moved 9 = .ok (.ifCond .eq 38, 3) := by decide +kernel
theorem dX12_moved_12 : decode cX12_moved 12 = .ok (.aload_n 0, 1) := by decide +kernel
theorem dX12_moved_13 : decode cX12_moved 13 = .ok (.iload_n 2, 1) := by decide +kernel
theorem dX12_moved_14 : decode cX12_moved 14 = .ok (.invokevirtual 210, 3) := by decide +kernel
theorem dX12_moved_17 : decode cX12_moved 17 = .ok (.ifCond .eq 30, 3) := by decide +kernel
theorem dX12_moved_20 : decode cX12_moved 20 = .ok (.aload_n 0, 1) := by decide +kernel
theorem dX12_moved_21 : decode cX12_moved 21 = .ok (.iload_n 3, 1) := by decide +kernel
theorem dX12_moved_22 : decode cX12_moved 22 = .ok (.invokevirtual 214, 3) := by decide +kernel
theorem dX12_moved_25 : decode cX12_moved 25 = .ok (.ifCond .eq 22, 3) := by decide +kernel
theorem dX12_moved_28 : decode cX12_moved 28 = .ok (.iload 4, 2) := by decide +kernel
theorem dX12_moved_30 : decode cX12_moved 30 = .ok (.invokestatic 220, 3) := by decide +kernel
theorem dX12_moved_33 : decode cX12_moved 33 = .ok (.ifCond .eq 14, 3) := by decide +kernel
theorem dX12_moved_36 : decode cX12_moved 36 = .ok (.iload 7, 2) := by decide +kernel
theorem dX12_moved_38 : decode cX12_moved 38 = .ok (.i2l, 1) := by decide +kernel
theorem dX12_moved_39 : decode cX12_moved 39 = .ok (.lconst 0, 1) := by decide +kernel
theorem dX12_moved_40 : decode cX12_moved 40 = .ok (.lconst 1, 1) := by decide +kernel
theorem dX12_moved_41 : decode cX12_moved 41 = .ok (.invokestatic 181, 3) := by decide +kernel
theorem dX12_moved_44 : decode cX12_moved 44 = .ok (.ifCond .ne 7, 3) := by decide +kernel
theorem dX12_moved_47 : decode cX12_moved 47 = .ok (.ldc_w 425, 3) := by decide +kernel
theorem dX12_moved_50 : decode cX12_moved 50 = .ok (.ireturn, 1) := by decide +kernel
theorem dX12_moved_51 : decode cX12_moved 51 = .ok (.aload_n 0, 1) := by decide +kernel
theorem dX12_moved_52 : decode cX12_moved 52 = .ok (.iload 6, 2) := by decide +kernel
theorem dX12_moved_54 : decode cX12_moved 54 = .ok (.invokevirtual 443, 3) := by decide +kernel
theorem dX12_moved_57 : decode cX12_moved 57 = .ok (.bipush 16, 2) := by decide +kernel
theorem dX12_moved_59 : decode cX12_moved 59 = .ok (.iload_n 1, 1) := by decide +kernel
theorem dX12_moved_60 : decode cX12_moved 60 = .ok (.imul, 1) := by decide +kernel
theorem dX12_moved_61 : decode cX12_moved 61 = .ok (.iload 5, 2) := by decide +kernel
theorem dX12_moved_63 : decode cX12_moved 63 = .ok (.iadd, 1) := by decide +kernel
theorem dX12_moved_64 : decode cX12_moved 64 = .ok (.istore 8, 2) := by decide +kernel
theorem dX12_moved_66 : decode cX12_moved 66 = .ok (.iconst 0, 1) := by decide +kernel
theorem dX12_moved_67 : decode cX12_moved 67 = .ok (.istore 9, 2) := by decide +kernel
theorem dX12_moved_69 : decode cX12_moved 69 = .ok (.iload 9, 2) := by decide +kernel
theorem dX12_moved_71 : decode cX12_moved 71 = .ok (.aload_n 0, 1) := by decide +kernel
theorem dX12_moved_72 : decode cX12_moved 72 = .ok (.getfield 398, 3) := by decide +kernel
theorem dX12_moved_75 : decode cX12_moved 75 = .ok (.if_icmp .ge 139, 3) := by decide +kernel
theorem dX12_moved_78 : decode cX12_moved 78 = .ok (.aload_n 0, 1) := by decide +kernel
theorem dX12_moved_79 : decode cX12_moved 79 = .ok (.getfield 90, 3) := by decide +kernel
theorem dX12_moved_82 : decode cX12_moved 82 = .ok (.iload 9, 2) := by decide +kernel
theorem dX12_moved_84 : decode cX12_moved 84 = .ok (.iaload, 1) := by decide +kernel
theorem dX12_moved_85 : decode cX12_moved 85 = .ok (.iload_n 1, 1) := by decide +kernel
theorem dX12_moved_86 : decode cX12_moved 86 = .ok (.if_icmp .ne 122, 3) := by decide +kernel
theorem dX12_moved_89 : decode cX12_moved 89 = .ok (.aload_n 0, 1) := by decide +kernel
theorem dX12_moved_90 : decode cX12_moved 90 = .ok (.getfield 93, 3) := by decide +kernel
theorem dX12_moved_93 : decode cX12_moved 93 = .ok (.iload 9, 2) := by decide +kernel
theorem dX12_moved_95 : decode cX12_moved 95 = .ok (.iaload, 1) := by decide +kernel
theorem dX12_moved_96 : decode cX12_moved 96 = .ok (.iload_n 2, 1) := by decide +kernel
theorem dX12_moved_97 : decode cX12_moved 97 = .ok (.if_icmp .ne 111, 3) := by decide +kernel
theorem dX12_moved_100 : decode cX12_moved 100 = .ok (.aload_n 0, 1) := by decide +kernel
theorem dX12_moved_101 : decode cX12_moved 101 = .ok (.getfield 96, 3) := by decide +kernel
theorem dX12_moved_104 : decode cX12_moved 104 = .ok (.iload 9, 2) := by decide +kernel
theorem dX12_moved_106 : decode cX12_moved 106 = .ok (.iaload, 1) := by decide +kernel
theorem dX12_moved_107 : decode cX12_moved 107 = .ok (.iload_n 3, 1) := by decide +kernel
theorem dX12_moved_108 : decode cX12_moved 108 = .ok (.if_icmp .ne 100, 3) := by decide +kernel
theorem dX12_moved_111 : decode cX12_moved 111 = .ok (.aload_n 0, 1) := by decide +kernel
theorem dX12_moved_112 : decode cX12_moved 112 = .ok (.getfield 99, 3) := by decide +kernel
theorem dX12_moved_115 : decode cX12_moved 115 = .ok (.iload 9, 2) := by decide +kernel
theorem dX12_moved_117 : decode cX12_moved 117 = .ok (.iaload, 1) := by decide +kernel
theorem dX12_moved_118 : decode cX12_moved 118 = .ok (.iload 4, 2) := by decide +kernel
theorem dX12_moved_120 : decode cX12_moved 120 = .ok (.if_icmp .ne 88, 3) := by decide +kernel
theorem dX12_moved_123 : decode cX12_moved 123 = .ok (.aload_n 0, 1) := by decide +kernel
theorem dX12_moved_124 : decode cX12_moved 124 = .ok (.getfield 141, 3) := by decide +kernel
theorem dX12_moved_127 : decode cX12_moved 127 = .ok (.iload 8, 2) := by decide +kernel
theorem dX12_moved_129 : decode cX12_moved 129 = .ok (.iaload, 1) := by decide +kernel
theorem dX12_moved_130 : decode cX12_moved 130 = .ok (.iconst (-1), 1) := by decide +kernel
theorem dX12_moved_131 : decode cX12_moved 131 = .ok (.if_icmp .eq 77, 3) := by decide +kernel
theorem dX12_moved_134 : decode cX12_moved 134 = .ok (.aload_n 0, 1) := by decide +kernel
theorem dX12_moved_135 : decode cX12_moved 135 = .ok (.getfield 138, 3) := by decide +kernel
theorem dX12_moved_138 : decode cX12_moved 138 = .ok (.iload 8, 2) := by decide +kernel
theorem dX12_moved_140 : decode cX12_moved 140 = .ok (.laload, 1) := by decide +kernel
theorem dX12_moved_141 : decode cX12_moved 141 = .ok (.lconst 0, 1) := by decide +kernel
theorem dX12_moved_142 : decode cX12_moved 142 = .ok (.lcmp, 1) := by decide +kernel
theorem dX12_moved_143 : decode cX12_moved 143 = .ok (.ifCond .ge 14, 3) := by decide +kernel
theorem dX12_moved_146 : decode cX12_moved 146 = .ok (.aload_n 0, 1) := by decide +kernel
theorem dX12_moved_147 : decode cX12_moved 147 = .ok (.getfield 138, 3) := by decide +kernel
theorem dX12_moved_150 : decode cX12_moved 150 = .ok (.iload 8, 2) := by decide +kernel
theorem dX12_moved_152 : decode cX12_moved 152 = .ok (.laload, 1) := by decide +kernel
theorem dX12_moved_153 : decode cX12_moved 153 = .ok (.lneg, 1) := by decide +kernel
theorem dX12_moved_154 : decode cX12_moved 154 = .ok (.goto 10, 3) := by decide +kernel
theorem dX12_moved_157 : decode cX12_moved 157 = .ok (.aload_n 0, 1) := by decide +kernel
theorem dX12_moved_158 : decode cX12_moved 158 = .ok (.getfield 138, 3) := by decide +kernel
theorem dX12_moved_161 : decode cX12_moved 161 = .ok (.iload 8, 2) := by decide +kernel
theorem dX12_moved_163 : decode cX12_moved 163 = .ok (.laload, 1) := by decide +kernel
theorem dX12_moved_164 : decode cX12_moved 164 = .ok (.lstore 10, 2) := by decide +kernel
theorem dX12_moved_166 : decode cX12_moved 166 = .ok (.iload 7, 2) := by decide +kernel
theorem dX12_moved_168 : decode cX12_moved 168 = .ok (.ifCond .ne 21, 3) := by decide +kernel
theorem dX12_moved_171 : decode cX12_moved 171 = .ok (.aload_n 0, 1) := by decide +kernel
theorem dX12_moved_172 : decode cX12_moved 172 = .ok (.iload 9, 2) := by decide +kernel
theorem dX12_moved_174 : decode cX12_moved 174 = .ok (.invokevirtual 465, 3) := by decide +kernel
theorem dX12_moved_177 : decode cX12_moved 177 = .ok (.aload_n 0, 1) := by decide +kernel
theorem dX12_moved_178 : decode cX12_moved 178 = .ok (.getfield 138, 3) := by decide +kernel
theorem dX12_moved_181 : decode cX12_moved 181 = .ok (.iload 8, 2) := by decide +kernel
theorem dX12_moved_183 : decode cX12_moved 183 = .ok (.laload, 1) := by decide +kernel
theorem dX12_moved_184 : decode cX12_moved 184 = .ok (.lsub, 1) := by decide +kernel
theorem dX12_moved_185 : decode cX12_moved 185 = .ok (.l2i, 1) := by decide +kernel
theorem dX12_moved_186 : decode cX12_moved 186 = .ok (.goto 21, 3) := by decide +kernel
theorem dX12_moved_189 : decode cX12_moved 189 = .ok (.lload 10, 2) := by decide +kernel
theorem dX12_moved_191 : decode cX12_moved 191 = .ok (.aload_n 0, 1) := by decide +kernel
theorem dX12_moved_192 : decode cX12_moved 192 = .ok (.getfield 135, 3) := by decide +kernel
theorem dX12_moved_195 : decode cX12_moved 195 = .ok (.iload 8, 2) := by decide +kernel
theorem dX12_moved_197 : decode cX12_moved 197 = .ok (.laload, 1) := by decide +kernel
theorem dX12_moved_198 : decode cX12_moved 198 = .ok (.lcmp, 1) := by decide +kernel
theorem dX12_moved_199 : decode cX12_moved 199 = .ok (.ifCond .le 7, 3) := by decide +kernel
theorem dX12_moved_202 : decode cX12_moved 202 = .ok (.iconst 1, 1) := by decide +kernel
theorem dX12_moved_203 : decode cX12_moved 203 = .ok (.goto 4, 3) := by decide +kernel
theorem dX12_moved_206 : decode cX12_moved 206 = .ok (.iconst 0, 1) := by decide +kernel
theorem dX12_moved_207 : decode cX12_moved 207 = .ok (.ireturn, 1) := by decide +kernel
theorem dX12_moved_208 : decode cX12_moved 208 = .ok (.iinc 9 1, 3) := by decide +kernel
theorem dX12_moved_211 : decode cX12_moved 211 = .ok (.goto (-142), 3) := by decide +kernel
theorem dX12_moved_214 : decode cX12_moved 214 = .ok (.ldc 233, 2) := by decide +kernel
theorem dX12_moved_216 : decode cX12_moved 216 = .ok (.ireturn, 1) := by decide +kernel
set_option maxRecDepth 100000 in
set_option maxHeartbeats 4000000 in
theorem l1_X12_moved {h : ai_H} {V T : Md} {B : Bk} {ln : Nat} {U : Nat → List Int} {k n s w x y : Int32} {i j q : Nat} (hok : bk_ok B ln) (hmd : md_at h V) (hrT : rT T V) (hS : SI B k T (nR B) (nR B) q) (hq : q ≤ 400) (ec : V.1 40 = nI q) (hi : i < nO B) (hj : j < nO B) (hfin : ∀ c, c < nO B → rfin V U (nO B) c) {v : Nat} (hv : ro_end (ro_U U) (nO B) j i = some v) : ∀ (m c : Nat), c ≤ q → q + 1 ≤ c + m → (∀ d, d < c → T.2.2.1 41 d = nI i → ¬ kM T d = (n, s, w)) → ai_R MX12_moved 69 [.ref 307, .int (nI i), .int n, .int s, .int w, .int y, .int k, .int x, .int (nI (16 * i + j)), .int (nI c), .float 0, .float 0] [] h (some (.int (uu_moved B U k n s w i j x))) h := by
  intro m
  induction m with
  | zero => intro c h1 h2; exact absurd h2 (by omega)
  | succ m ih =>
    intro c hc0 him hno
    have hn16 := hok.2.1.2.1
    obtain ⟨f1, f2, f3, f4⟩ := hfin j hj i hi
    obtain ⟨g1, g2⟩ := f2 v hv
    refine rs_iload (pc := 69) dX12_moved_69 rfl ?_
    refine rs_aload_n (pc := 71) dX12_moved_71 rfl ?_
    refine rs_getf (pc := 72) dX12_moved_72 fX12_398 (md_lt hmd (by decide)) hmd.2.1 rfl ?_
    refine rs_icmp_ge (tgt := 214) (pc := 75) dX12_moved_75 rfl (fun c_75 => ?_) (fun c_75 => ?_)
    · have hce : c = q := lp_exit ec (by omega) hc0 c_75
      subst hce
      refine rs_ldc (pc := 214) dX12_moved_214 cnX12_233 ?_
      exact wk_iret (pc := 216) dX12_moved_216 rfl (by
      unfold uu_moved
      rw [if_pos]
      rcases Nat.eq_zero_or_pos (zc B k (n, s, w) (nI i)) with e | e
      · exact e
      · obtain ⟨d, d1, d2, d3⟩ := sight_of hS e
        exact absurd d3 (hno d d1 d2)) (rfl)
    · have hc : c < q := lp_go ec (by omega) c_75
      refine rs_aload_n (pc := 78) dX12_moved_78 rfl ?_
      refine rs_getf (pc := 79) dX12_moved_79 fX12_90 (md_lt hmd (by decide)) hmd.2.1 rfl ?_
      refine rs_iload (pc := 82) dX12_moved_82 rfl ?_
      refine rs_iald (pc := 84) dX12_moved_84 (md_lt hmd (by decide)) (md_geti (d := 26) (k := 41) (kd := 0) (n := 400) rfl (by decide) hmd) (vp_in_nI (n := c) (N := 400) (by omega) (by decide)) ?_
      rw [nI_clamp (show c < 2 ^ 31 by omega), hrT.2.2.1 41 (by omega)]
      refine rs_iload_n (pc := 85) dX12_moved_85 rfl ?_
      refine rs_icmp_ne (tgt := 208) (pc := 86) dX12_moved_86 rfl (fun c_86 => ?_) (fun c_86 => ?_)
      · refine wk_iinc9 (v := nI (c + 1)) (pc := 208) dX12_moved_208 (by decide) rfl (nI_1 c) ?_
        refine rs_goto (tgt := 69) (pc := 211) dX12_moved_211 rfl ?_
        exact ih (c + 1) (by omega) (by omega) (fun d hd a b => by
          by_cases e : d = c
          · subst e
            unfold kM at b
            simp only [Prod.mk.injEq] at b
            first
            | exact c_86 a
            | exact c_97 b.1
            | exact c_108 b.2.1
            | exact c_120 b.2.2
          · exact hno d (by omega) a b)
      · refine rs_aload_n (pc := 89) dX12_moved_89 rfl ?_
        refine rs_getf (pc := 90) dX12_moved_90 fX12_93 (md_lt hmd (by decide)) hmd.2.1 rfl ?_
        refine rs_iload (pc := 93) dX12_moved_93 rfl ?_
        refine rs_iald (pc := 95) dX12_moved_95 (md_lt hmd (by decide)) (md_geti (d := 27) (k := 42) (kd := 0) (n := 400) rfl (by decide) hmd) (vp_in_nI (n := c) (N := 400) (by omega) (by decide)) ?_
        rw [nI_clamp (show c < 2 ^ 31 by omega), hrT.2.2.1 42 (by omega)]
        refine rs_iload_n (pc := 96) dX12_moved_96 rfl ?_
        refine rs_icmp_ne (tgt := 208) (pc := 97) dX12_moved_97 rfl (fun c_97 => ?_) (fun c_97 => ?_)
        · refine wk_iinc9 (v := nI (c + 1)) (pc := 208) dX12_moved_208 (by decide) rfl (nI_1 c) ?_
          refine rs_goto (tgt := 69) (pc := 211) dX12_moved_211 rfl ?_
          exact ih (c + 1) (by omega) (by omega) (fun d hd a b => by
            by_cases e : d = c
            · subst e
              unfold kM at b
              simp only [Prod.mk.injEq] at b
              first
              | exact c_86 a
              | exact c_97 b.1
              | exact c_108 b.2.1
              | exact c_120 b.2.2
            · exact hno d (by omega) a b)
        · refine rs_aload_n (pc := 100) dX12_moved_100 rfl ?_
          refine rs_getf (pc := 101) dX12_moved_101 fX12_96 (md_lt hmd (by decide)) hmd.2.1 rfl ?_
          refine rs_iload (pc := 104) dX12_moved_104 rfl ?_
          refine rs_iald (pc := 106) dX12_moved_106 (md_lt hmd (by decide)) (md_geti (d := 28) (k := 43) (kd := 0) (n := 400) rfl (by decide) hmd) (vp_in_nI (n := c) (N := 400) (by omega) (by decide)) ?_
          rw [nI_clamp (show c < 2 ^ 31 by omega), hrT.2.2.1 43 (by omega)]
          refine rs_iload_n (pc := 107) dX12_moved_107 rfl ?_
          refine rs_icmp_ne (tgt := 208) (pc := 108) dX12_moved_108 rfl (fun c_108 => ?_) (fun c_108 => ?_)
          · refine wk_iinc9 (v := nI (c + 1)) (pc := 208) dX12_moved_208 (by decide) rfl (nI_1 c) ?_
            refine rs_goto (tgt := 69) (pc := 211) dX12_moved_211 rfl ?_
            exact ih (c + 1) (by omega) (by omega) (fun d hd a b => by
              by_cases e : d = c
              · subst e
                unfold kM at b
                simp only [Prod.mk.injEq] at b
                first
                | exact c_86 a
                | exact c_97 b.1
                | exact c_108 b.2.1
                | exact c_120 b.2.2
              · exact hno d (by omega) a b)
          · refine rs_aload_n (pc := 111) dX12_moved_111 rfl ?_
            refine rs_getf (pc := 112) dX12_moved_112 fX12_99 (md_lt hmd (by decide)) hmd.2.1 rfl ?_
            refine rs_iload (pc := 115) dX12_moved_115 rfl ?_
            refine rs_iald (pc := 117) dX12_moved_117 (md_lt hmd (by decide)) (md_geti (d := 29) (k := 44) (kd := 0) (n := 400) rfl (by decide) hmd) (vp_in_nI (n := c) (N := 400) (by omega) (by decide)) ?_
            rw [nI_clamp (show c < 2 ^ 31 by omega), hrT.2.2.1 44 (by omega)]
            refine rs_iload (pc := 118) dX12_moved_118 rfl ?_
            refine rs_icmp_ne (tgt := 208) (pc := 120) dX12_moved_120 rfl (fun c_120 => ?_) (fun c_120 => ?_)
            · refine wk_iinc9 (v := nI (c + 1)) (pc := 208) dX12_moved_208 (by decide) rfl (nI_1 c) ?_
              refine rs_goto (tgt := 69) (pc := 211) dX12_moved_211 rfl ?_
              exact ih (c + 1) (by omega) (by omega) (fun d hd a b => by
                by_cases e : d = c
                · subst e
                  unfold kM at b
                  simp only [Prod.mk.injEq] at b
                  first
                  | exact c_86 a
                  | exact c_97 b.1
                  | exact c_108 b.2.1
                  | exact c_120 b.2.2
                · exact hno d (by omega) a b)
            · refine rs_aload_n (pc := 123) dX12_moved_123 rfl ?_
              refine rs_getf (pc := 124) dX12_moved_124 fX12_141 (md_lt hmd (by decide)) hmd.2.1 rfl ?_
              refine rs_iload (pc := 127) dX12_moved_127 rfl ?_
              refine rs_iald (pc := 129) dX12_moved_129 (md_lt hmd (by decide)) (md_geti (d := 43) (k := 58) (kd := 0) (n := 256) rfl (by decide) hmd) (vp_in_nI (n := 16 * i + j) (N := 256) (by omega) (by decide)) ?_
              rw [nI_clamp (show 16 * i + j < 2 ^ 31 by omega)]
              refine rs_iconst (v := -1) (pc := 130) dX12_moved_130 rfl ?_
              refine rs_icmp_eq (tgt := 208) (pc := 131) dX12_moved_131 rfl (fun c_131 => absurd c_131 (fun z => by rw [g1] at z; exact nI_m1 (show v % 32 < 2 ^ 31 by omega) z)) (fun c_131 => ?_)
              have hzp := sight_pos hS hc
              have ek : kM T c = (n, s, w) := by unfold kM; rw [c_97, c_108, c_120]
              rw [ek, c_86] at hzp
              refine rs_aload_n (pc := 134) dX12_moved_134 rfl ?_
              refine rs_getf (pc := 135) dX12_moved_135 fX12_138 (md_lt hmd (by decide)) hmd.2.1 rfl ?_
              refine rs_iload (pc := 138) dX12_moved_138 rfl ?_
              refine rs_lald (pc := 140) dX12_moved_140 (md_lt hmd (by decide)) (md_getl (d := 42) (k := 57) (kd := 1) (n := 256) rfl (by decide) hmd) (vp_in_nI (n := 16 * i + j) (N := 256) (by omega) (by decide)) ?_
              rw [nI_clamp (show 16 * i + j < 2 ^ 31 by omega), f3]
              refine rs_lconst (v := 0) (pc := 141) dX12_moved_141 rfl ?_
              refine wk_lcmp_ge (tgt := 157) (pc := 142) dX12_moved_142 dX12_moved_143 rfl (fun c_142 => ?_) (fun c_142 => ?_)
              · have hab : bi_absL (rle U (nO B) j i) = rle U (nO B) j i := by unfold bi_absL; rw [if_pos c_142]
                refine rs_aload_n (pc := 157) dX12_moved_157 rfl ?_
                refine rs_getf (pc := 158) dX12_moved_158 fX12_138 (md_lt hmd (by decide)) hmd.2.1 rfl ?_
                refine rs_iload (pc := 161) dX12_moved_161 rfl ?_
                refine rs_lald (pc := 163) dX12_moved_163 (md_lt hmd (by decide)) (md_getl (d := 42) (k := 57) (kd := 1) (n := 256) rfl (by decide) hmd) (vp_in_nI (n := 16 * i + j) (N := 256) (by omega) (by decide)) ?_
                rw [nI_clamp (show 16 * i + j < 2 ^ 31 by omega), f3]
                refine wk_lst10 (pc := 164) dX12_moved_164 (by decide) rfl ?_
                refine rs_iload (pc := 166) dX12_moved_166 rfl ?_
                refine rs_if_ne (tgt := 189) (pc := 168) dX12_moved_168 rfl (fun c_168 => ?_) (fun c_168 => ?_)
                · refine rs_lload (pc := 189) dX12_moved_189 rfl ?_
                  refine rs_aload_n (pc := 191) dX12_moved_191 rfl ?_
                  refine rs_getf (pc := 192) dX12_moved_192 fX12_135 (md_lt hmd (by decide)) hmd.2.1 rfl ?_
                  refine rs_iload (pc := 195) dX12_moved_195 rfl ?_
                  refine rs_lald (pc := 197) dX12_moved_197 (md_lt hmd (by decide)) (md_getl (d := 41) (k := 56) (kd := 1) (n := 256) rfl (by decide) hmd) (vp_in_nI (n := 16 * i + j) (N := 256) (by omega) (by decide)) ?_
                  rw [nI_clamp (show 16 * i + j < 2 ^ 31 by omega), g2]
                  refine wk_lcmp_le (tgt := 206) (pc := 198) dX12_moved_198 dX12_moved_199 rfl (fun c_198 => ?_) (fun c_198 => ?_)
                  · refine rs_iconst (v := 0) (pc := 206) dX12_moved_206 rfl ?_
                    exact wk_iret (pc := 207) dX12_moved_207 rfl (by unfold uu_moved; rw [if_neg (by omega), hv]; show some (Value.int (if x = 0 then _ else if bi_absL (rle U (nO B) j i) ≤ aL ((v / 32 : Nat) : Int) then 0 else 1)) = _; first | (rw [if_pos c_168]; done) | (rw [if_neg c_168, hab]; first | rw [if_pos c_198] | rw [if_neg c_198])) (rfl)
                  · refine rs_iconst (v := 1) (pc := 202) dX12_moved_202 rfl ?_
                    refine rs_goto (tgt := 207) (pc := 203) dX12_moved_203 rfl ?_
                    exact wk_iret (pc := 207) dX12_moved_207 rfl (by unfold uu_moved; rw [if_neg (by omega), hv]; show some (Value.int (if x = 0 then _ else if bi_absL (rle U (nO B) j i) ≤ aL ((v / 32 : Nat) : Int) then 0 else 1)) = _; first | (rw [if_pos c_168]; done) | (rw [if_neg c_168, hab]; first | rw [if_pos c_198] | rw [if_neg c_198])) (rfl)
                · refine rs_aload_n (pc := 171) dX12_moved_171 rfl ?_
                  refine rs_iload (pc := 172) dX12_moved_172 rfl ?_
                  refine rs_callV (as := [_]) (pc := 174) dX12_moved_174 mk_X12_mean mlX12_465 in_X12_mean se_X12_mean rfl (md_lt hmd (by decide)) hmd.2.1 rfl rfl (Nat.le_of_ble_eq_true rfl) (mean_at hok hmd hrT hS hq hc) ?_
                  rw [ek, c_86]
                  refine rs_aload_n (pc := 177) dX12_moved_177 rfl ?_
                  refine rs_getf (pc := 178) dX12_moved_178 fX12_138 (md_lt hmd (by decide)) hmd.2.1 rfl ?_
                  refine rs_iload (pc := 181) dX12_moved_181 rfl ?_
                  refine rs_lald (pc := 183) dX12_moved_183 (md_lt hmd (by decide)) (md_getl (d := 42) (k := 57) (kd := 1) (n := 256) rfl (by decide) hmd) (vp_in_nI (n := 16 * i + j) (N := 256) (by omega) (by decide)) ?_
                  rw [nI_clamp (show 16 * i + j < 2 ^ 31 by omega), f3]
                  refine rs_lsub (pc := 184) dX12_moved_184 ?_
                  refine rs_l2i (pc := 185) dX12_moved_185 ?_
                  refine rs_goto (tgt := 207) (pc := 186) dX12_moved_186 rfl ?_
                  exact wk_iret (pc := 207) dX12_moved_207 rfl (by unfold uu_moved; rw [if_neg (by omega), hv]; show some (Value.int (if x = 0 then _ else if bi_absL (rle U (nO B) j i) ≤ aL ((v / 32 : Nat) : Int) then 0 else 1)) = _; first | (rw [if_pos c_168]; done) | (rw [if_neg c_168, hab]; first | rw [if_pos c_198] | rw [if_neg c_198])) (rfl)
              · have hab : bi_absL (rle U (nO B) j i) = - rle U (nO B) j i := by unfold bi_absL; rw [if_neg c_142]
                refine rs_aload_n (pc := 146) dX12_moved_146 rfl ?_
                refine rs_getf (pc := 147) dX12_moved_147 fX12_138 (md_lt hmd (by decide)) hmd.2.1 rfl ?_
                refine rs_iload (pc := 150) dX12_moved_150 rfl ?_
                refine rs_lald (pc := 152) dX12_moved_152 (md_lt hmd (by decide)) (md_getl (d := 42) (k := 57) (kd := 1) (n := 256) rfl (by decide) hmd) (vp_in_nI (n := 16 * i + j) (N := 256) (by omega) (by decide)) ?_
                rw [nI_clamp (show 16 * i + j < 2 ^ 31 by omega), f3]
                refine rs_lneg (pc := 153) dX12_moved_153 ?_
                refine rs_goto (tgt := 164) (pc := 154) dX12_moved_154 rfl ?_
                refine wk_lst10 (pc := 164) dX12_moved_164 (by decide) rfl ?_
                refine rs_iload (pc := 166) dX12_moved_166 rfl ?_
                refine rs_if_ne (tgt := 189) (pc := 168) dX12_moved_168 rfl (fun c_168 => ?_) (fun c_168 => ?_)
                · refine rs_lload (pc := 189) dX12_moved_189 rfl ?_
                  refine rs_aload_n (pc := 191) dX12_moved_191 rfl ?_
                  refine rs_getf (pc := 192) dX12_moved_192 fX12_135 (md_lt hmd (by decide)) hmd.2.1 rfl ?_
                  refine rs_iload (pc := 195) dX12_moved_195 rfl ?_
                  refine rs_lald (pc := 197) dX12_moved_197 (md_lt hmd (by decide)) (md_getl (d := 41) (k := 56) (kd := 1) (n := 256) rfl (by decide) hmd) (vp_in_nI (n := 16 * i + j) (N := 256) (by omega) (by decide)) ?_
                  rw [nI_clamp (show 16 * i + j < 2 ^ 31 by omega), g2]
                  refine wk_lcmp_le (tgt := 206) (pc := 198) dX12_moved_198 dX12_moved_199 rfl (fun c_198 => ?_) (fun c_198 => ?_)
                  · refine rs_iconst (v := 0) (pc := 206) dX12_moved_206 rfl ?_
                    exact wk_iret (pc := 207) dX12_moved_207 rfl (by unfold uu_moved; rw [if_neg (by omega), hv]; show some (Value.int (if x = 0 then _ else if bi_absL (rle U (nO B) j i) ≤ aL ((v / 32 : Nat) : Int) then 0 else 1)) = _; first | (rw [if_pos c_168]; done) | (rw [if_neg c_168, hab]; first | rw [if_pos c_198] | rw [if_neg c_198])) (rfl)
                  · refine rs_iconst (v := 1) (pc := 202) dX12_moved_202 rfl ?_
                    refine rs_goto (tgt := 207) (pc := 203) dX12_moved_203 rfl ?_
                    exact wk_iret (pc := 207) dX12_moved_207 rfl (by unfold uu_moved; rw [if_neg (by omega), hv]; show some (Value.int (if x = 0 then _ else if bi_absL (rle U (nO B) j i) ≤ aL ((v / 32 : Nat) : Int) then 0 else 1)) = _; first | (rw [if_pos c_168]; done) | (rw [if_neg c_168, hab]; first | rw [if_pos c_198] | rw [if_neg c_198])) (rfl)
                · refine rs_aload_n (pc := 171) dX12_moved_171 rfl ?_
                  refine rs_iload (pc := 172) dX12_moved_172 rfl ?_
                  refine rs_callV (as := [_]) (pc := 174) dX12_moved_174 mk_X12_mean mlX12_465 in_X12_mean se_X12_mean rfl (md_lt hmd (by decide)) hmd.2.1 rfl rfl (Nat.le_of_ble_eq_true rfl) (mean_at hok hmd hrT hS hq hc) ?_
                  rw [ek, c_86]
                  refine rs_aload_n (pc := 177) dX12_moved_177 rfl ?_
                  refine rs_getf (pc := 178) dX12_moved_178 fX12_138 (md_lt hmd (by decide)) hmd.2.1 rfl ?_
                  refine rs_iload (pc := 181) dX12_moved_181 rfl ?_
                  refine rs_lald (pc := 183) dX12_moved_183 (md_lt hmd (by decide)) (md_getl (d := 42) (k := 57) (kd := 1) (n := 256) rfl (by decide) hmd) (vp_in_nI (n := 16 * i + j) (N := 256) (by omega) (by decide)) ?_
                  rw [nI_clamp (show 16 * i + j < 2 ^ 31 by omega), f3]
                  refine rs_lsub (pc := 184) dX12_moved_184 ?_
                  refine rs_l2i (pc := 185) dX12_moved_185 ?_
                  refine rs_goto (tgt := 207) (pc := 186) dX12_moved_186 rfl ?_
                  exact wk_iret (pc := 207) dX12_moved_207 rfl (by unfold uu_moved; rw [if_neg (by omega), hv]; show some (Value.int (if x = 0 then _ else if bi_absL (rle U (nO B) j i) ≤ aL ((v / 32 : Nat) : Int) then 0 else 1)) = _; first | (rw [if_pos c_168]; done) | (rw [if_neg c_168, hab]; first | rw [if_pos c_198] | rw [if_neg c_198])) (rfl)
set_option maxRecDepth 100000 in
set_option maxHeartbeats 4000000 in
theorem l2_X12_moved {h : ai_H} {V T : Md} {B : Bk} {ln : Nat} {U : Nat → List Int} {k n s w x y : Int32} {i j q : Nat} (hok : bk_ok B ln) (hmd : md_at h V) (hrT : rT T V) (hS : SI B k T (nR B) (nR B) q) (hq : q ≤ 400) (ec : V.1 40 = nI q) (hi : i < nO B) (hj : j < nO B) (hfin : ∀ c, c < nO B → rfin V U (nO B) c) (hv : ro_end (ro_U U) (nO B) j i = none) : ∀ (m c : Nat), c ≤ q → q + 1 ≤ c + m → ai_R MX12_moved 69 [.ref 307, .int (nI i), .int n, .int s, .int w, .int y, .int k, .int x, .int (nI (16 * i + j)), .int (nI c), .float 0, .float 0] [] h (some (.int (uu_moved B U k n s w i j x))) h := by
  intro m
  induction m with
  | zero => intro c h1 h2; exact absurd h2 (by omega)
  | succ m ih =>
    intro c hc0 him
    have hn16 := hok.2.1.2.1
    obtain ⟨f1, f2, f3, f4⟩ := hfin j hj i hi
    refine rs_iload (pc := 69) dX12_moved_69 rfl ?_
    refine rs_aload_n (pc := 71) dX12_moved_71 rfl ?_
    refine rs_getf (pc := 72) dX12_moved_72 fX12_398 (md_lt hmd (by decide)) hmd.2.1 rfl ?_
    refine rs_icmp_ge (tgt := 214) (pc := 75) dX12_moved_75 rfl (fun c_75 => ?_) (fun c_75 => ?_)
    · have hce : c = q := lp_exit ec (by omega) hc0 c_75
      subst hce
      refine rs_ldc (pc := 214) dX12_moved_214 cnX12_233 ?_
      exact wk_iret (pc := 216) dX12_moved_216 rfl (by unfold uu_moved; rw [hv]; simp) (rfl)
    · have hc : c < q := lp_go ec (by omega) c_75
      refine rs_aload_n (pc := 78) dX12_moved_78 rfl ?_
      refine rs_getf (pc := 79) dX12_moved_79 fX12_90 (md_lt hmd (by decide)) hmd.2.1 rfl ?_
      refine rs_iload (pc := 82) dX12_moved_82 rfl ?_
      refine rs_iald (pc := 84) dX12_moved_84 (md_lt hmd (by decide)) (md_geti (d := 26) (k := 41) (kd := 0) (n := 400) rfl (by decide) hmd) (vp_in_nI (n := c) (N := 400) (by omega) (by decide)) ?_
      rw [nI_clamp (show c < 2 ^ 31 by omega), hrT.2.2.1 41 (by omega)]
      refine rs_iload_n (pc := 85) dX12_moved_85 rfl ?_
      refine rs_icmp_ne (tgt := 208) (pc := 86) dX12_moved_86 rfl (fun c_86 => ?_) (fun c_86 => ?_)
      · refine wk_iinc9 (v := nI (c + 1)) (pc := 208) dX12_moved_208 (by decide) rfl (nI_1 c) ?_
        refine rs_goto (tgt := 69) (pc := 211) dX12_moved_211 rfl ?_
        exact ih (c + 1) (by omega) (by omega)
      · refine rs_aload_n (pc := 89) dX12_moved_89 rfl ?_
        refine rs_getf (pc := 90) dX12_moved_90 fX12_93 (md_lt hmd (by decide)) hmd.2.1 rfl ?_
        refine rs_iload (pc := 93) dX12_moved_93 rfl ?_
        refine rs_iald (pc := 95) dX12_moved_95 (md_lt hmd (by decide)) (md_geti (d := 27) (k := 42) (kd := 0) (n := 400) rfl (by decide) hmd) (vp_in_nI (n := c) (N := 400) (by omega) (by decide)) ?_
        rw [nI_clamp (show c < 2 ^ 31 by omega), hrT.2.2.1 42 (by omega)]
        refine rs_iload_n (pc := 96) dX12_moved_96 rfl ?_
        refine rs_icmp_ne (tgt := 208) (pc := 97) dX12_moved_97 rfl (fun c_97 => ?_) (fun c_97 => ?_)
        · refine wk_iinc9 (v := nI (c + 1)) (pc := 208) dX12_moved_208 (by decide) rfl (nI_1 c) ?_
          refine rs_goto (tgt := 69) (pc := 211) dX12_moved_211 rfl ?_
          exact ih (c + 1) (by omega) (by omega)
        · refine rs_aload_n (pc := 100) dX12_moved_100 rfl ?_
          refine rs_getf (pc := 101) dX12_moved_101 fX12_96 (md_lt hmd (by decide)) hmd.2.1 rfl ?_
          refine rs_iload (pc := 104) dX12_moved_104 rfl ?_
          refine rs_iald (pc := 106) dX12_moved_106 (md_lt hmd (by decide)) (md_geti (d := 28) (k := 43) (kd := 0) (n := 400) rfl (by decide) hmd) (vp_in_nI (n := c) (N := 400) (by omega) (by decide)) ?_
          rw [nI_clamp (show c < 2 ^ 31 by omega), hrT.2.2.1 43 (by omega)]
          refine rs_iload_n (pc := 107) dX12_moved_107 rfl ?_
          refine rs_icmp_ne (tgt := 208) (pc := 108) dX12_moved_108 rfl (fun c_108 => ?_) (fun c_108 => ?_)
          · refine wk_iinc9 (v := nI (c + 1)) (pc := 208) dX12_moved_208 (by decide) rfl (nI_1 c) ?_
            refine rs_goto (tgt := 69) (pc := 211) dX12_moved_211 rfl ?_
            exact ih (c + 1) (by omega) (by omega)
          · refine rs_aload_n (pc := 111) dX12_moved_111 rfl ?_
            refine rs_getf (pc := 112) dX12_moved_112 fX12_99 (md_lt hmd (by decide)) hmd.2.1 rfl ?_
            refine rs_iload (pc := 115) dX12_moved_115 rfl ?_
            refine rs_iald (pc := 117) dX12_moved_117 (md_lt hmd (by decide)) (md_geti (d := 29) (k := 44) (kd := 0) (n := 400) rfl (by decide) hmd) (vp_in_nI (n := c) (N := 400) (by omega) (by decide)) ?_
            rw [nI_clamp (show c < 2 ^ 31 by omega), hrT.2.2.1 44 (by omega)]
            refine rs_iload (pc := 118) dX12_moved_118 rfl ?_
            refine rs_icmp_ne (tgt := 208) (pc := 120) dX12_moved_120 rfl (fun c_120 => ?_) (fun c_120 => ?_)
            · refine wk_iinc9 (v := nI (c + 1)) (pc := 208) dX12_moved_208 (by decide) rfl (nI_1 c) ?_
              refine rs_goto (tgt := 69) (pc := 211) dX12_moved_211 rfl ?_
              exact ih (c + 1) (by omega) (by omega)
            · refine rs_aload_n (pc := 123) dX12_moved_123 rfl ?_
              refine rs_getf (pc := 124) dX12_moved_124 fX12_141 (md_lt hmd (by decide)) hmd.2.1 rfl ?_
              refine rs_iload (pc := 127) dX12_moved_127 rfl ?_
              refine rs_iald (pc := 129) dX12_moved_129 (md_lt hmd (by decide)) (md_geti (d := 43) (k := 58) (kd := 0) (n := 256) rfl (by decide) hmd) (vp_in_nI (n := 16 * i + j) (N := 256) (by omega) (by decide)) ?_
              rw [nI_clamp (show 16 * i + j < 2 ^ 31 by omega)]
              refine rs_iconst (v := -1) (pc := 130) dX12_moved_130 rfl ?_
              refine rs_icmp_eq (tgt := 208) (pc := 131) dX12_moved_131 rfl (fun c_131 => ?_) (fun c_131 => absurd c_131 (fun z : ¬ _ => z (f1 hv)))
              refine wk_iinc9 (v := nI (c + 1)) (pc := 208) dX12_moved_208 (by decide) rfl (nI_1 c) ?_
              refine rs_goto (tgt := 69) (pc := 211) dX12_moved_211 rfl ?_
              exact ih (c + 1) (by omega) (by omega)
set_option maxRecDepth 100000 in
set_option maxHeartbeats 4000000 in
theorem c_X12_moved {h : ai_H} {S : Md} {B : Bk} {ln : Nat} {U : Nat → List Int} {k : Int32} (hok : bk_ok B ln) (hRB : RB B S) (hl : lrow U) (hU : ∀ T V q, q ≤ 400 → SI B k T (nR B) (nR B) q → MI T q (q * q) V → mrow V U) (hmd : md_at h S) (o n s w y x : Int32) : ai_QM MX12_moved [.ref 307, .int o, .int n, .int s, .int w, .int y, .int k, .int x] h (fun r g => md_ext h g ∧ (∃ V, md_at g V ∧ mq S V) ∧ (((xs_sight B o n s w = 0 ∨ tb_has (bk_o B).1 y = 0 ∨ bi_in k 0 9999 = 0 ∨ bi_in x 0 1 = 0) ∧ r = some (.int (-2000000000))) ∨ (¬ (xs_sight B o n s w = 0 ∨ tb_has (bk_o B).1 y = 0 ∨ bi_in k 0 9999 = 0 ∨ bi_in x 0 1 = 0) ∧ (∃ i j, i < nO B ∧ j < nO B ∧ o = nI i ∧ y = nI j ∧ r = some (.int (uu_moved B U k n s w i j x)))))) := by
  have hn16 := hok.2.1.2.1
  refine qm_of (ls := [.ref 307, .int o, .int n, .int s, .int w, .int y, .int k, .int x, .float 0, .float 0, .float 0, .float 0]) (by decide) (by simp [ai_en, Value.category]) (by rfl) ?_
  refine wq (fun _ _ kk => rs_aload_n (pc := 0) dX12_moved_0 rfl kk) ?_
  refine wq (fun _ _ kk => rs_iload_n (pc := 1) dX12_moved_1 rfl kk) ?_
  refine wq (fun _ _ kk => rs_iload (pc := 2) dX12_moved_2 rfl kk) ?_
  refine wq (fun _ _ kk => rs_iload (pc := 4) dX12_moved_4 rfl kk) ?_
  refine wq (fun _ _ kk => rs_callV (as := [_, _, _]) (pc := 6) dX12_moved_6 mk_X12_areTwo mlX12_421 in_X12_areTwo se_X12_areTwo rfl (md_lt hmd (by decide)) hmd.2.1 rfl rfl (Nat.le_of_ble_eq_true rfl) (c_X12_areTwo hok hRB hmd _ _ _) kk) ?_
  refine wq_br (fun _ _ kt kf => rs_if_eq (tgt := 47) (pc := 9) dX12_moved_9 rfl kt kf) (fun c_9 => ?_) (fun c_9 => ?_)
  · rw [b32_0, Classical.not_not] at c_9
    refine wq (fun _ _ kk => rs_ldcw (pc := 47) dX12_moved_47 cnX12_425 kk) ?_
    refine wq_ret ?_ (rs_iret (pc := 50) dX12_moved_50 rfl)
    refine ⟨md_ext.rf, ⟨S, hmd, mq.rf⟩, Or.inl ⟨?_, rfl⟩⟩
    apply Classical.byContradiction
    intro hgu
    simp only [not_or] at hgu
    obtain ⟨q1, q2, q3, q4⟩ := hgu
    obtain ⟨p1, p2, p3, p4, -⟩ := sight_ex hok q1
    first
    | exact p2 c_17
    | exact p3 c_25
    | exact p4 c_33
    | exact q4 c_44
    | (rcases c_9 with z | z
       · exact absurd z (by unfold xs_both; rw [if_neg p1, if_neg q2]; decide)
       · exact q3 z)
  · rw [b32_0, Classical.not_not] at c_9
    rw [not_or] at c_9
    refine wq (fun _ _ kk => rs_aload_n (pc := 12) dX12_moved_12 rfl kk) ?_
    refine wq (fun _ _ kk => rs_iload_n (pc := 13) dX12_moved_13 rfl kk) ?_
    refine wq (fun _ _ kk => rs_callV (as := [_]) (pc := 14) dX12_moved_14 mk_X12_isNight mlX12_210 in_X12_isNight se_X12_isNight rfl (md_lt hmd (by decide)) hmd.2.1 rfl rfl (Nat.le_of_ble_eq_true rfl) (c_X12_isNight hmd _) kk) ?_
    rw [rb_nig hok hRB]
    refine wq_br (fun _ _ kt kf => rs_if_eq (tgt := 47) (pc := 17) dX12_moved_17 rfl kt kf) (fun c_17 => ?_) (fun c_17 => ?_)
    · refine wq (fun _ _ kk => rs_ldcw (pc := 47) dX12_moved_47 cnX12_425 kk) ?_
      refine wq_ret ?_ (rs_iret (pc := 50) dX12_moved_50 rfl)
      refine ⟨md_ext.rf, ⟨S, hmd, mq.rf⟩, Or.inl ⟨?_, rfl⟩⟩
      apply Classical.byContradiction
      intro hgu
      simp only [not_or] at hgu
      obtain ⟨q1, q2, q3, q4⟩ := hgu
      obtain ⟨p1, p2, p3, p4, -⟩ := sight_ex hok q1
      first
      | exact p2 c_17
      | exact p3 c_25
      | exact p4 c_33
      | exact q4 c_44
      | (rcases c_9 with z | z
         · exact absurd z (by unfold xs_both; rw [if_neg p1, if_neg q2]; decide)
         · exact q3 z)
    · refine wq (fun _ _ kk => rs_aload_n (pc := 20) dX12_moved_20 rfl kk) ?_
      refine wq (fun _ _ kk => rs_iload_n (pc := 21) dX12_moved_21 rfl kk) ?_
      refine wq (fun _ _ kk => rs_callV (as := [_]) (pc := 22) dX12_moved_22 mk_X12_isStar mlX12_214 in_X12_isStar se_X12_isStar rfl (md_lt hmd (by decide)) hmd.2.1 rfl rfl (Nat.le_of_ble_eq_true rfl) (c_X12_isStar hmd _) kk) ?_
      rw [rb_str hok hRB]
      refine wq_br (fun _ _ kt kf => rs_if_eq (tgt := 47) (pc := 25) dX12_moved_25 rfl kt kf) (fun c_25 => ?_) (fun c_25 => ?_)
      · refine wq (fun _ _ kk => rs_ldcw (pc := 47) dX12_moved_47 cnX12_425 kk) ?_
        refine wq_ret ?_ (rs_iret (pc := 50) dX12_moved_50 rfl)
        refine ⟨md_ext.rf, ⟨S, hmd, mq.rf⟩, Or.inl ⟨?_, rfl⟩⟩
        apply Classical.byContradiction
        intro hgu
        simp only [not_or] at hgu
        obtain ⟨q1, q2, q3, q4⟩ := hgu
        obtain ⟨p1, p2, p3, p4, -⟩ := sight_ex hok q1
        first
        | exact p2 c_17
        | exact p3 c_25
        | exact p4 c_33
        | exact q4 c_44
        | (rcases c_9 with z | z
           · exact absurd z (by unfold xs_both; rw [if_neg p1, if_neg q2]; decide)
           · exact q3 z)
      · refine wq (fun _ _ kk => rs_iload (pc := 28) dX12_moved_28 rfl kk) ?_
        refine wq (fun _ _ kk => rs_callS (as := [_]) (pc := 30) dX12_moved_30 mk_X12_isWay mlX12_220 st_X12_isWay rfl rfl (Nat.le_of_ble_eq_true rfl) (c_X12_isWay _) kk) ?_
        refine wq_br (fun _ _ kt kf => rs_if_eq (tgt := 47) (pc := 33) dX12_moved_33 rfl kt kf) (fun c_33 => ?_) (fun c_33 => ?_)
        · refine wq (fun _ _ kk => rs_ldcw (pc := 47) dX12_moved_47 cnX12_425 kk) ?_
          refine wq_ret ?_ (rs_iret (pc := 50) dX12_moved_50 rfl)
          refine ⟨md_ext.rf, ⟨S, hmd, mq.rf⟩, Or.inl ⟨?_, rfl⟩⟩
          apply Classical.byContradiction
          intro hgu
          simp only [not_or] at hgu
          obtain ⟨q1, q2, q3, q4⟩ := hgu
          obtain ⟨p1, p2, p3, p4, -⟩ := sight_ex hok q1
          first
          | exact p2 c_17
          | exact p3 c_25
          | exact p4 c_33
          | exact q4 c_44
          | (rcases c_9 with z | z
             · exact absurd z (by unfold xs_both; rw [if_neg p1, if_neg q2]; decide)
             · exact q3 z)
        · refine wq (fun _ _ kk => rs_iload (pc := 36) dX12_moved_36 rfl kk) ?_
          refine wq (fun _ _ kk => rs_i2l (pc := 38) dX12_moved_38 kk) ?_
          refine wq (fun _ _ kk => rs_lconst (v := 0) (pc := 39) dX12_moved_39 rfl kk) ?_
          refine wq (fun _ _ kk => rs_lconst (v := 1) (pc := 40) dX12_moved_40 rfl kk) ?_
          refine wq (fun _ _ kk => rs_callS (as := [_, _, _]) (pc := 41) dX12_moved_41 mk_X12_in mlX12_181 st_X12_in rfl rfl (Nat.le_of_ble_eq_true rfl) (c_X12_inI x 0 1) kk) ?_
          refine wq_bn (fun _ _ kt kf => rs_if_ne (tgt := 51) (pc := 44) dX12_moved_44 rfl kt kf) (fun c_44 => ?_) (fun c_44 => ?_)
          · refine wq (fun _ _ kk => rs_aload_n (pc := 51) dX12_moved_51 rfl kk) ?_
            refine wq (fun _ _ kk => rs_iload (pc := 52) dX12_moved_52 rfl kk) ?_
            have hgu : ¬ (xs_sight B o n s w = 0 ∨ tb_has (bk_o B).1 y = 0 ∨ bi_in k 0 9999 = 0 ∨ bi_in x 0 1 = 0) := by
              have c91 := c_9.1
              unfold xs_both at c91
              rintro (z | z | z | z)
              · unfold xs_sight at z
                split at c91
                · exact c91 rfl
                · next p => rw [if_neg p, if_neg c_17, if_neg c_25, if_neg c_33] at z; exact absurd z (by decide)
              · split at c91
                · exact c91 rfl
                · first | exact c91 rfl | (rw [if_pos z] at c91; exact c91 rfl)
              · exact c_9.2 z
              · exact c_44 z
            obtain ⟨i, j, hi, hj, rfl, rfl⟩ := both_ex hok c_9.1
            obtain ⟨rv_54, hc_54, ⟨rfl, ee_54, T, V, q, hqR, ec, hsg, hSI, hmd_54, hrT, hfin⟩, hm_54⟩ := c_X12_ropes hok hRB (bi_in_9 c_9.2).2 hl hU hmd
            refine wq (fun _ _ kk => rs_callV (as := [_]) (pc := 54) dX12_moved_54 mk_X12_ropes mlX12_443 in_X12_ropes se_X12_ropes rfl (md_lt hmd (by decide)) hmd.2.1 rfl rfl (Nat.le_of_ble_eq_true rfl) (hm_54) kk) ?_
            replace hmd := hmd_54
            have E_54 := (md_ext.rf).trans ee_54
            refine wq (fun _ _ kk => rs_bipush (v := 16) (pc := 57) dX12_moved_57 rfl kk) ?_
            refine wq (fun _ _ kk => rs_iload_n (pc := 59) dX12_moved_59 rfl kk) ?_
            refine wq (fun _ _ kk => rs_imul (pc := 60) dX12_moved_60 kk) ?_
            rw [show (16 : Int32) * nI i = nI (16 * i) from pk_mul 16 i]
            refine wq (fun _ _ kk => rs_iload (pc := 61) dX12_moved_61 rfl kk) ?_
            refine wq (fun _ _ kk => rs_iadd (pc := 63) dX12_moved_63 kk) ?_
            rw [nI_add]
            refine wq (fun _ _ kk => wk_ist8 (pc := 64) dX12_moved_64 (by decide) rfl kk) ?_
            refine wq (fun _ _ kk => rs_iconst (v := 0) (pc := 66) dX12_moved_66 rfl kk) ?_
            refine wq (fun _ _ kk => wk_ist9 (pc := 67) dX12_moved_67 (by decide) rfl kk) ?_
            have ec2 : V.1 40 = nI q := by rw [hrT.1]; exact ec
            have hq4 : q ≤ 400 := Nat.le_trans hqR hok.2.2.2.2.1.2.1
            refine ⟨_, _, ⟨md_ext.rf.trans ee_54, ⟨V, hmd, hsg.mq.trans hrT.mq⟩, Or.inr ⟨hgu, i, j, hi, hj, rfl, rfl, rfl⟩⟩, ?_⟩
            cases hv : ro_end (ro_U U) (nO B) j i with
            | none => exact l2_X12_moved hok hmd hrT hSI hq4 ec2 hi hj hfin hv (q + 1) 0 (by omega) (by omega)
            | some v => exact l1_X12_moved hok hmd hrT hSI hq4 ec2 hi hj hfin hv (q + 1) 0 (by omega) (by omega) (fun d hd => absurd hd (Nat.not_lt_zero d))
          · refine wq (fun _ _ kk => rs_ldcw (pc := 47) dX12_moved_47 cnX12_425 kk) ?_
            refine wq_ret ?_ (rs_iret (pc := 50) dX12_moved_50 rfl)
            refine ⟨md_ext.rf, ⟨S, hmd, mq.rf⟩, Or.inl ⟨?_, rfl⟩⟩
            apply Classical.byContradiction
            intro hgu
            simp only [not_or] at hgu
            obtain ⟨q1, q2, q3, q4⟩ := hgu
            obtain ⟨p1, p2, p3, p4, -⟩ := sight_ex hok q1
            first
            | exact p2 c_17
            | exact p3 c_25
            | exact p4 c_33
            | exact q4 c_44
            | (rcases c_9 with z | z
               · exact absurd z (by unfold xs_both; rw [if_neg p1, if_neg q2]; decide)
               · exact q3 z)
