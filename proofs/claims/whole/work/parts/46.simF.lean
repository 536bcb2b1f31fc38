-- both sides: screened, hide, status, cost, spared
theorem n10_ (sm : GS) {c : Nat} (hc : c < 8) : f_X7_no10 sm (-nI c) = some (-nI c - nI 10, smR sm c) := by
  unfold f_X7_no10
  simp (disch := omega) only [nm_s, bd_s, bd2_s, bd3_s, bd4_s, q_gt, q_inB, ↓q_m1, l_166, l_172, l_180, l_188, l_189, l_190, l_191, l_192, l_14, l_17, l_18, l_0, l_1, l_2, l_3, l_4, l_5, l_6, l_7, l_8, l_9, l_10, l_11, l_12, l_20, l_21, l_30, l_31, l_32, l_40, l_48, l_50, l_51, l_57, l_60, l_70, l_71, l_99, l_100, l_101, l_160, l_199, l_200, l_999, l_1000, q_tn, q_add, q_mul, q_sub, q_le, q_lt, q_eq, q_31, n_and, n_or, n_xor, q_shl, q_z, q_b0, q_b1, q_bz, q_em, q_me, q_mm, q_lm, q_ml, q_mle, q_lem, s2_eq, s2_ne, pk_us, pk_un, uN_s, uN_n, if_pos, if_neg, ite_true, ite_false, if_true, if_false, not_true, not_false_iff, Nat.add_zero, Nat.zero_add, inR_t, isIx_t, bI_t, bI_f, neg1, q_clr, r7_]
theorem n10_1 (sm : GS) : f_X7_no10 sm mI = some (mI - nI 10, smR sm 1) := n10_ sm (c := 1) (by omega)
def fstI (P : Nat → Bool) : Nat → Nat → Int32
  | 0, _ => mI
  | k + 1, i => if P i = true then fstI P k (i + 1) else nI i
theorem fstI_y {P : Nat → Bool} {k i : Nat} (h : P i = true) : fstI P (k + 1) i = fstI P k (i + 1) := if_pos h
theorem fstI_n {P : Nat → Bool} {k i : Nat} (h : P i = false) : fstI P (k + 1) i = nI i := by
  show (if P i = true then fstI P k (i + 1) else nI i) = nI i
  rw [h, if_neg ffl]
theorem RepM_year {g : AG} {y : Nat} {u : GS} (m : RepM (setY g y) u) : RepM g (s2 u 0 (upd (u 0) 17 (nI (aY g)))) := ⟨⟨m.c0, m.cs, m.cv, rfl⟩, m.2⟩
theorem nat_c (t : Nat) : t = 0 ∨ ∃ k, t = k + 1 := by
  cases t with
  | zero => exact Or.inl rfl
  | succ k => exact Or.inr ⟨k, rfl⟩
section SF
variable {B : Nat} {so r0 r1 r2 : GS} {rw : Nat → GS} {re : Nat → Nat → Int64} {sv sm : GS} {sq : Nat → Int64}
theorem sim_screened (I : Inv B so r0 r1 rw re sv sm sq) (x1 x2 x3 : Int32) : SimP (f_X6_screened so r0 x1 x2 x3) (f_X7_screened sm x1 x2 x3) (fun x y => x.1 = y.1 ∧ Inv B x.2 r0 r1 rw re sv y.2 sq) := by
  have I0 := I
  obtain ⟨g, ⟨h, m, w, hd⟩, hf, hs, hc, ht, hi⟩ := I
  have hP := w.1.1.1
  unfold f_X6_screened f_X7_screened
  rcases ixl x1 (aP g) (by omega) with p0 | ⟨p, hp, rfl, p1⟩
  · simp (disch := omega) only [nm_s, bd_s, bd2_s, bd3_s, bd4_s, q_gt, q_inB, ↓q_m1, l_166, l_172, l_180, l_188, l_189, l_190, l_191, l_192, l_14, l_17, l_18, l_0, l_1, l_2, l_3, l_4, l_5, l_6, l_7, l_8, l_9, l_10, l_11, l_12, l_20, l_21, l_30, l_31, l_32, l_40, l_48, l_50, l_51, l_57, l_60, l_70, l_71, l_99, l_100, l_101, l_160, l_199, l_200, l_999, l_1000, q_tn, q_add, q_mul, q_sub, q_le, q_lt, q_eq, q_31, n_and, n_or, n_xor, q_shl, q_z, q_b0, q_b1, q_bz, q_em, q_me, q_mm, q_lm, q_ml, q_mle, q_lem, s2_eq, s2_ne, pk_us, pk_un, uN_s, uN_n, if_pos, if_neg, ite_true, ite_false, if_true, if_false, not_true, not_false_iff, Nat.add_zero, Nat.zero_add, inR_t, isIx_t, bI_t, bI_f, neg1, q_clr, pR_isPeak h, pM_isPeak m w.1, p0, f_X6_screened_J22, f_X7_screened_J16, n10_1, r6_]
    exact sim_i ⟨rfl, Inv_ref I0 (by omega)⟩
  · rcases ixl x2 (aP g) (by omega) with o0 | ⟨o, ho, rfl, o1⟩
    · simp (disch := omega) only [nm_s, bd_s, bd2_s, bd3_s, bd4_s, q_gt, q_inB, ↓q_m1, l_166, l_172, l_180, l_188, l_189, l_190, l_191, l_192, l_14, l_17, l_18, l_0, l_1, l_2, l_3, l_4, l_5, l_6, l_7, l_8, l_9, l_10, l_11, l_12, l_20, l_21, l_30, l_31, l_32, l_40, l_48, l_50, l_51, l_57, l_60, l_70, l_71, l_99, l_100, l_101, l_160, l_199, l_200, l_999, l_1000, q_tn, q_add, q_mul, q_sub, q_le, q_lt, q_eq, q_31, n_and, n_or, n_xor, q_shl, q_z, q_b0, q_b1, q_bz, q_em, q_me, q_mm, q_lm, q_ml, q_mle, q_lem, s2_eq, s2_ne, pk_us, pk_un, uN_s, uN_n, if_pos, if_neg, ite_true, ite_false, if_true, if_false, not_true, not_false_iff, Nat.add_zero, Nat.zero_add, inR_t, isIx_t, bI_t, bI_f, neg1, q_clr, pR_isPeak h, pM_isPeak m w.1, o0, f_X6_screened_J22, f_X7_screened_J16, n10_1, r6_]
      exact sim_i ⟨rfl, Inv_ref I0 (by omega)⟩
    · have s6 := pR_seesPeak h w.1 hp ho
      have s7 := pM_sees m w.1 hp ho
      cases hse : seB g p o with
      | false =>
        rw [hse] at s6 s7
        simp (disch := omega) only [nm_s, bd_s, bd2_s, bd3_s, bd4_s, q_gt, q_inB, ↓q_m1, l_166, l_172, l_180, l_188, l_189, l_190, l_191, l_192, l_14, l_17, l_18, l_0, l_1, l_2, l_3, l_4, l_5, l_6, l_7, l_8, l_9, l_10, l_11, l_12, l_20, l_21, l_30, l_31, l_32, l_40, l_48, l_50, l_51, l_57, l_60, l_70, l_71, l_99, l_100, l_101, l_160, l_199, l_200, l_999, l_1000, q_tn, q_add, q_mul, q_sub, q_le, q_lt, q_eq, q_31, n_and, n_or, n_xor, q_shl, q_z, q_b0, q_b1, q_bz, q_em, q_me, q_mm, q_lm, q_ml, q_mle, q_lem, s2_eq, s2_ne, pk_us, pk_un, uN_s, uN_n, if_pos, if_neg, ite_true, ite_false, if_true, if_false, not_true, not_false_iff, Nat.add_zero, Nat.zero_add, inR_t, isIx_t, bI_t, bI_f, neg1, q_clr, pR_isPeak h, pM_isPeak m w.1, s6, s7, f_X6_screened_J50, f_X7_screened_J38, n10_, r6_]
        exact sim_i ⟨rfl, Inv_ref I0 (by omega)⟩
      | true =>
        rw [hse] at s6 s7
        have hne : g 3 p ≠ g 3 o := fun e => (see_st w.2 hp ho hse).2.2 (w.1.2.2.2.2.2 p o hp ho e)
        rcases ixl x3 100 (by omega) with a0 | ⟨a, ha, rfl, a1⟩
        · simp (disch := omega) only [nm_s, bd_s, bd2_s, bd3_s, bd4_s, q_gt, q_inB, ↓q_m1, l_166, l_172, l_180, l_188, l_189, l_190, l_191, l_192, l_14, l_17, l_18, l_0, l_1, l_2, l_3, l_4, l_5, l_6, l_7, l_8, l_9, l_10, l_11, l_12, l_20, l_21, l_30, l_31, l_32, l_40, l_48, l_50, l_51, l_57, l_60, l_70, l_71, l_99, l_100, l_101, l_160, l_199, l_200, l_999, l_1000, q_tn, q_add, q_mul, q_sub, q_le, q_lt, q_eq, q_31, n_and, n_or, n_xor, q_shl, q_z, q_b0, q_b1, q_bz, q_em, q_me, q_mm, q_lm, q_ml, q_mle, q_lem, s2_eq, s2_ne, pk_us, pk_un, uN_s, uN_n, if_pos, if_neg, ite_true, ite_false, if_true, if_false, not_true, not_false_iff, Nat.add_zero, Nat.zero_add, inR_t, isIx_t, bI_t, bI_f, neg1, q_clr, pR_isPeak h, pM_isPeak m w.1, s6, s7, p6_isPlace, pM_isPlace, a0, f_X6_screened_J50, f_X7_screened_J38, n10_, r6_]
          exact sim_i ⟨rfl, Inv_ref I0 (by omega)⟩
        · simp (disch := omega) only [nm_s, bd_s, bd2_s, bd3_s, bd4_s, q_gt, q_inB, ↓q_m1, l_166, l_172, l_180, l_188, l_189, l_190, l_191, l_192, l_14, l_17, l_18, l_0, l_1, l_2, l_3, l_4, l_5, l_6, l_7, l_8, l_9, l_10, l_11, l_12, l_20, l_21, l_30, l_31, l_32, l_40, l_48, l_50, l_51, l_57, l_60, l_70, l_71, l_99, l_100, l_101, l_160, l_199, l_200, l_999, l_1000, q_tn, q_add, q_mul, q_sub, q_le, q_lt, q_eq, q_31, n_and, n_or, n_xor, q_shl, q_z, q_b0, q_b1, q_bz, q_em, q_me, q_mm, q_lm, q_ml, q_mle, q_lem, s2_eq, s2_ne, pk_us, pk_un, uN_s, uN_n, if_pos, if_neg, ite_true, ite_false, if_true, if_false, not_true, not_false_iff, Nat.add_zero, Nat.zero_add, inR_t, isIx_t, bI_t, bI_f, neg1, q_clr, pR_isPeak h, pM_isPeak m w.1, s6, s7, p6_isPlace, pM_isPlace, pR_leastScreen h w.1 hp ho ha hne, pM_screenedAt m w.1 hp ho hne ha]
          exact sim_i ⟨rfl, I0⟩
theorem sim_hide (I : Inv B so r0 r1 rw re sv sm sq) (x1 x2 : Int32) : SimP (f_X6_hide so r0 x1 x2) (f_X7_hide sm x1 x2) (fun x y => x.1 = y.1 ∧ Inv B x.2 r0 r1 rw re sv y.2 sq) := by
  have I0 := I
  obtain ⟨g, ⟨h, m, w, hd⟩, hf, hs, hc, ht, hi⟩ := I
  have hP := w.1.1.1
  unfold f_X6_hide f_X7_hide
  rcases ixl x1 (aP g) (by omega) with p0 | ⟨p, hp, rfl, p1⟩
  · simp (disch := omega) only [nm_s, bd_s, bd2_s, bd3_s, bd4_s, q_gt, q_inB, ↓q_m1, l_166, l_172, l_180, l_188, l_189, l_190, l_191, l_192, l_14, l_17, l_18, l_0, l_1, l_2, l_3, l_4, l_5, l_6, l_7, l_8, l_9, l_10, l_11, l_12, l_20, l_21, l_30, l_31, l_32, l_40, l_48, l_50, l_51, l_57, l_60, l_70, l_71, l_99, l_100, l_101, l_160, l_199, l_200, l_999, l_1000, q_tn, q_add, q_mul, q_sub, q_le, q_lt, q_eq, q_31, n_and, n_or, n_xor, q_shl, q_z, q_b0, q_b1, q_bz, q_em, q_me, q_mm, q_lm, q_ml, q_mle, q_lem, s2_eq, s2_ne, pk_us, pk_un, uN_s, uN_n, if_pos, if_neg, ite_true, ite_false, if_true, if_false, not_true, not_false_iff, Nat.add_zero, Nat.zero_add, inR_t, isIx_t, bI_t, bI_f, neg1, q_clr, pR_isPeak h, pM_isPeak m w.1, p0, f_X6_hide_J22, f_X7_hide_J16, n10_1, r6_]
    exact sim_i ⟨rfl, Inv_ref I0 (by omega)⟩
  · rcases ixl x2 (aP g) (by omega) with o0 | ⟨o, ho, rfl, o1⟩
    · simp (disch := omega) only [nm_s, bd_s, bd2_s, bd3_s, bd4_s, q_gt, q_inB, ↓q_m1, l_166, l_172, l_180, l_188, l_189, l_190, l_191, l_192, l_14, l_17, l_18, l_0, l_1, l_2, l_3, l_4, l_5, l_6, l_7, l_8, l_9, l_10, l_11, l_12, l_20, l_21, l_30, l_31, l_32, l_40, l_48, l_50, l_51, l_57, l_60, l_70, l_71, l_99, l_100, l_101, l_160, l_199, l_200, l_999, l_1000, q_tn, q_add, q_mul, q_sub, q_le, q_lt, q_eq, q_31, n_and, n_or, n_xor, q_shl, q_z, q_b0, q_b1, q_bz, q_em, q_me, q_mm, q_lm, q_ml, q_mle, q_lem, s2_eq, s2_ne, pk_us, pk_un, uN_s, uN_n, if_pos, if_neg, ite_true, ite_false, if_true, if_false, not_true, not_false_iff, Nat.add_zero, Nat.zero_add, inR_t, isIx_t, bI_t, bI_f, neg1, q_clr, pR_isPeak h, pM_isPeak m w.1, o0, f_X6_hide_J22, f_X7_hide_J16, n10_1, r6_]
      exact sim_i ⟨rfl, Inv_ref I0 (by omega)⟩
    · have s6 := pR_seesPeak h w.1 hp ho
      have s7 := pM_sees m w.1 hp ho
      cases hse : seB g p o with
      | false =>
        rw [hse] at s6 s7
        simp (disch := omega) only [nm_s, bd_s, bd2_s, bd3_s, bd4_s, q_gt, q_inB, ↓q_m1, l_166, l_172, l_180, l_188, l_189, l_190, l_191, l_192, l_14, l_17, l_18, l_0, l_1, l_2, l_3, l_4, l_5, l_6, l_7, l_8, l_9, l_10, l_11, l_12, l_20, l_21, l_30, l_31, l_32, l_40, l_48, l_50, l_51, l_57, l_60, l_70, l_71, l_99, l_100, l_101, l_160, l_199, l_200, l_999, l_1000, q_tn, q_add, q_mul, q_sub, q_le, q_lt, q_eq, q_31, n_and, n_or, n_xor, q_shl, q_z, q_b0, q_b1, q_bz, q_em, q_me, q_mm, q_lm, q_ml, q_mle, q_lem, s2_eq, s2_ne, pk_us, pk_un, uN_s, uN_n, if_pos, if_neg, ite_true, ite_false, if_true, if_false, not_true, not_false_iff, Nat.add_zero, Nat.zero_add, inR_t, isIx_t, bI_t, bI_f, neg1, q_clr, pR_isPeak h, pM_isPeak m w.1, s6, s7, n10_, r6_]
        exact sim_i ⟨rfl, Inv_ref I0 (by omega)⟩
      | true =>
        rw [hse] at s6 s7
        have hne : g 3 p ≠ g 3 o := fun e => (see_st w.2 hp ho hse).2.2 (w.1.2.2.2.2.2 p o hp ho e)
        have e6 : f_X6_hide_L61 r0 (nI p) (nI o) so FU mI mI (nI 0) = some (selI (hideS g p o 100), so) := pR_hide_L61 h w.1 so hp ho hne 2000 0 (by omega) (by omega)
        have e7 : f_X7_hide_L46 (nI p) (nI o) sm FU mI (nI 0) (nI 0) = some (selI (hideS g p o 100), sm) := pM_hide_L46 m w.1 hp ho hne 2000 0 (by omega) (by omega)
        simp (disch := omega) only [nm_s, bd_s, bd2_s, bd3_s, bd4_s, q_gt, q_inB, ↓q_m1, l_166, l_172, l_180, l_188, l_189, l_190, l_191, l_192, l_14, l_17, l_18, l_0, l_1, l_2, l_3, l_4, l_5, l_6, l_7, l_8, l_9, l_10, l_11, l_12, l_20, l_21, l_30, l_31, l_32, l_40, l_48, l_50, l_51, l_57, l_60, l_70, l_71, l_99, l_100, l_101, l_160, l_199, l_200, l_999, l_1000, q_tn, q_add, q_mul, q_sub, q_le, q_lt, q_eq, q_31, n_and, n_or, n_xor, q_shl, q_z, q_b0, q_b1, q_bz, q_em, q_me, q_mm, q_lm, q_ml, q_mle, q_lem, s2_eq, s2_ne, pk_us, pk_un, uN_s, uN_n, if_pos, if_neg, ite_true, ite_false, if_true, if_false, not_true, not_false_iff, Nat.add_zero, Nat.zero_add, inR_t, isIx_t, bI_t, bI_f, neg1, q_clr, pR_isPeak h, pM_isPeak m w.1, s6, s7, e6, e7]
        exact sim_i ⟨rfl, I0⟩
theorem sim_status (I : Inv B so r0 r1 rw re sv sm sq) (x1 : Int32) : SimP (f_X6_status so r0 sv x1) (f_X7_status sm x1) (fun x y => x = y) := by
  obtain ⟨g, ⟨h, m, w, hd⟩, hf, hs, hc, ⟨t, t1, t2, t3, t4⟩, hi⟩ := I
  have hP := w.1.1.1
  have hY := w.1.1.2.2.2
  have hbl := black_lt g (aY g)
  rcases in3 x1 0 7 (by omega) (by omega) with ⟨q1, q⟩ | ⟨q1, q2, q⟩ | ⟨v, _, hv, rfl, _⟩
  · have c1 : x1 ≤ nI 10 := Int32.le_of_lt (Int32.lt_trans q1 (by decide))
    have c2 : inR x1 11 17 = false := by
      unfold inR
      rw [decide_eq_false (fun e => e (Int32.lt_trans q1 (by decide)))]
      rfl
    unfold f_X6_status f_X7_status
    simp (disch := omega) only [nm_s, bd_s, bd2_s, bd3_s, bd4_s, q_gt, q_inB, ↓q_m1, l_166, l_172, l_180, l_188, l_189, l_190, l_191, l_192, l_14, l_17, l_18, l_0, l_1, l_2, l_3, l_4, l_5, l_6, l_7, l_8, l_9, l_10, l_11, l_12, l_20, l_21, l_30, l_31, l_32, l_40, l_48, l_50, l_51, l_57, l_60, l_70, l_71, l_99, l_100, l_101, l_160, l_199, l_200, l_999, l_1000, q_tn, q_add, q_mul, q_sub, q_le, q_lt, q_eq, q_31, n_and, n_or, n_xor, q_shl, q_z, q_b0, q_b1, q_bz, q_em, q_me, q_mm, q_lm, q_ml, q_mle, q_lem, s2_eq, s2_ne, pk_us, pk_un, uN_s, uN_n, if_pos, if_neg, ite_true, ite_false, if_true, if_false, not_true, not_false_iff, Nat.add_zero, Nat.zero_add, inR_t, isIx_t, bI_t, bI_f, neg1, q_clr, c1, f_X6_status_J22, out_ne q, pM_within, c2]
    exact sim_i rfl
  · rcases in3 x1 11 17 (by omega) (by omega) with ⟨a1, a⟩ | ⟨a1, a2, a⟩ | ⟨v, hv1, hv, rfl, _⟩
    · have c1 : x1 ≤ nI 10 := by
        refine Int32.not_lt.mp fun e => ?_
        rw [n_lt_s (by omega)] at e
        exact e a1
      unfold f_X6_status f_X7_status
      simp (disch := omega) only [nm_s, bd_s, bd2_s, bd3_s, bd4_s, q_gt, q_inB, ↓q_m1, l_166, l_172, l_180, l_188, l_189, l_190, l_191, l_192, l_14, l_17, l_18, l_0, l_1, l_2, l_3, l_4, l_5, l_6, l_7, l_8, l_9, l_10, l_11, l_12, l_20, l_21, l_30, l_31, l_32, l_40, l_48, l_50, l_51, l_57, l_60, l_70, l_71, l_99, l_100, l_101, l_160, l_199, l_200, l_999, l_1000, q_tn, q_add, q_mul, q_sub, q_le, q_lt, q_eq, q_31, n_and, n_or, n_xor, q_shl, q_z, q_b0, q_b1, q_bz, q_em, q_me, q_mm, q_lm, q_ml, q_mle, q_lem, s2_eq, s2_ne, pk_us, pk_un, uN_s, uN_n, if_pos, if_neg, ite_true, ite_false, if_true, if_false, not_true, not_false_iff, Nat.add_zero, Nat.zero_add, inR_t, isIx_t, bI_t, bI_f, neg1, q_clr, c1, f_X6_status_J22, out_ne q, pM_within, a]
      exact sim_i rfl
    · have c1 : ¬ x1 ≤ nI 10 := fun e => a1 (Int32.lt_of_le_of_lt e (by decide))
      have c2 : nI 18 ≤ x1 := by
        refine Int32.not_lt.mp fun e => ?_
        have := Int32.not_le.mp a2
        rw [n_lt_s (by omega)] at this
        exact this e
      unfold f_X6_status f_X7_status
      simp (disch := omega) only [nm_s, bd_s, bd2_s, bd3_s, bd4_s, q_gt, q_inB, ↓q_m1, l_166, l_172, l_180, l_188, l_189, l_190, l_191, l_192, l_14, l_17, l_18, l_0, l_1, l_2, l_3, l_4, l_5, l_6, l_7, l_8, l_9, l_10, l_11, l_12, l_20, l_21, l_30, l_31, l_32, l_40, l_48, l_50, l_51, l_57, l_60, l_70, l_71, l_99, l_100, l_101, l_160, l_199, l_200, l_999, l_1000, q_tn, q_add, q_mul, q_sub, q_le, q_lt, q_eq, q_31, n_and, n_or, n_xor, q_shl, q_z, q_b0, q_b1, q_bz, q_em, q_me, q_mm, q_lm, q_ml, q_mle, q_lem, s2_eq, s2_ne, pk_us, pk_un, uN_s, uN_n, if_pos, if_neg, ite_true, ite_false, if_true, if_false, not_true, not_false_iff, Nat.add_zero, Nat.zero_add, inR_t, isIx_t, bI_t, bI_f, neg1, q_clr, c1, c2, f_X6_status_J22, out_ne q, pM_within, a]
      exact sim_i rfl
    · unfold f_X6_status f_X7_status
      simp (disch := omega) only [nm_s, bd_s, bd2_s, bd3_s, bd4_s, q_gt, q_inB, ↓q_m1, l_166, l_172, l_180, l_188, l_189, l_190, l_191, l_192, l_14, l_17, l_18, l_0, l_1, l_2, l_3, l_4, l_5, l_6, l_7, l_8, l_9, l_10, l_11, l_12, l_20, l_21, l_30, l_31, l_32, l_40, l_48, l_50, l_51, l_57, l_60, l_70, l_71, l_99, l_100, l_101, l_160, l_199, l_200, l_999, l_1000, q_tn, q_add, q_mul, q_sub, q_le, q_lt, q_eq, q_31, n_and, n_or, n_xor, q_shl, q_z, q_b0, q_b1, q_bz, q_em, q_me, q_mm, q_lm, q_ml, q_mle, q_lem, s2_eq, s2_ne, pk_us, pk_un, uN_s, uN_n, if_pos, if_neg, ite_true, ite_false, if_true, if_false, not_true, not_false_iff, Nat.add_zero, Nat.zero_add, inR_t, isIx_t, bI_t, bI_f, neg1, q_clr, pM_within]
      exact sim_i (hc _ (by omega))
  · rcases (by omega : v = 0 ∨ v = 1 ∨ v = 2 ∨ v = 3 ∨ v = 4 ∨ v = 5 ∨ v = 6 ∨ v = 7) with rfl | rfl | rfl | rfl | rfl | rfl | rfl | rfl
    · unfold f_X6_status f_X7_status
      simp (disch := omega) only [nm_s, bd_s, bd2_s, bd3_s, bd4_s, q_gt, q_inB, ↓q_m1, l_166, l_172, l_180, l_188, l_189, l_190, l_191, l_192, l_14, l_17, l_18, l_0, l_1, l_2, l_3, l_4, l_5, l_6, l_7, l_8, l_9, l_10, l_11, l_12, l_20, l_21, l_30, l_31, l_32, l_40, l_48, l_50, l_51, l_57, l_60, l_70, l_71, l_99, l_100, l_101, l_160, l_199, l_200, l_999, l_1000, q_tn, q_add, q_mul, q_sub, q_le, q_lt, q_eq, q_31, n_and, n_or, n_xor, q_shl, q_z, q_b0, q_b1, q_bz, q_em, q_me, q_mm, q_lm, q_ml, q_mle, q_lem, s2_eq, s2_ne, pk_us, pk_un, uN_s, uN_n, if_pos, if_neg, ite_true, ite_false, if_true, if_false, not_true, not_false_iff, Nat.add_zero, Nat.zero_add, inR_t, isIx_t, bI_t, bI_f, neg1, q_clr, f_X6_status_J22, h.c0, m.c0]
      exact sim_i rfl
    · unfold f_X6_status f_X7_status
      have e1 := pc_of w.1.1.2.2.2.2.2 hP
      simp (disch := omega) only [nm_s, bd_s, bd2_s, bd3_s, bd4_s, q_gt, q_inB, ↓q_m1, l_166, l_172, l_180, l_188, l_189, l_190, l_191, l_192, l_14, l_17, l_18, l_0, l_1, l_2, l_3, l_4, l_5, l_6, l_7, l_8, l_9, l_10, l_11, l_12, l_20, l_21, l_30, l_31, l_32, l_40, l_48, l_50, l_51, l_57, l_60, l_70, l_71, l_99, l_100, l_101, l_160, l_199, l_200, l_999, l_1000, q_tn, q_add, q_mul, q_sub, q_le, q_lt, q_eq, q_31, n_and, n_or, n_xor, q_shl, q_z, q_b0, q_b1, q_bz, q_em, q_me, q_mm, q_lm, q_ml, q_mle, q_lem, s2_eq, s2_ne, pk_us, pk_un, uN_s, uN_n, if_pos, if_neg, ite_true, ite_false, if_true, if_false, not_true, not_false_iff, Nat.add_zero, Nat.zero_add, inR_t, isIx_t, bI_t, bI_f, neg1, q_clr, f_X6_status_J22, h.c1, e1, pM_standing m w.1]
      exact sim_i rfl
    · unfold f_X6_status f_X7_status
      simp (disch := omega) only [nm_s, bd_s, bd2_s, bd3_s, bd4_s, q_gt, q_inB, ↓q_m1, l_166, l_172, l_180, l_188, l_189, l_190, l_191, l_192, l_14, l_17, l_18, l_0, l_1, l_2, l_3, l_4, l_5, l_6, l_7, l_8, l_9, l_10, l_11, l_12, l_20, l_21, l_30, l_31, l_32, l_40, l_48, l_50, l_51, l_57, l_60, l_70, l_71, l_99, l_100, l_101, l_160, l_199, l_200, l_999, l_1000, q_tn, q_add, q_mul, q_sub, q_le, q_lt, q_eq, q_31, n_and, n_or, n_xor, q_shl, q_z, q_b0, q_b1, q_bz, q_em, q_me, q_mm, q_lm, q_ml, q_mle, q_lem, s2_eq, s2_ne, pk_us, pk_un, uN_s, uN_n, if_pos, if_neg, ite_true, ite_false, if_true, if_false, not_true, not_false_iff, Nat.add_zero, Nat.zero_add, inR_t, isIx_t, bI_t, bI_f, neg1, q_clr, f_X6_status_J22, h.cs, m.cs]
      exact sim_i rfl
    · unfold f_X6_status f_X7_status
      simp (disch := omega) only [nm_s, bd_s, bd2_s, bd3_s, bd4_s, q_gt, q_inB, ↓q_m1, l_166, l_172, l_180, l_188, l_189, l_190, l_191, l_192, l_14, l_17, l_18, l_0, l_1, l_2, l_3, l_4, l_5, l_6, l_7, l_8, l_9, l_10, l_11, l_12, l_20, l_21, l_30, l_31, l_32, l_40, l_48, l_50, l_51, l_57, l_60, l_70, l_71, l_99, l_100, l_101, l_160, l_199, l_200, l_999, l_1000, q_tn, q_add, q_mul, q_sub, q_le, q_lt, q_eq, q_31, n_and, n_or, n_xor, q_shl, q_z, q_b0, q_b1, q_bz, q_em, q_me, q_mm, q_lm, q_ml, q_mle, q_lem, s2_eq, s2_ne, pk_us, pk_un, uN_s, uN_n, if_pos, if_neg, ite_true, ite_false, if_true, if_false, not_true, not_false_iff, Nat.add_zero, Nat.zero_add, inR_t, isIx_t, bI_t, bI_f, neg1, q_clr, f_X6_status_J22, h.cv, m.cv]
      exact sim_i rfl
    · unfold f_X6_status f_X7_status
      simp (disch := omega) only [nm_s, bd_s, bd2_s, bd3_s, bd4_s, q_gt, q_inB, ↓q_m1, l_166, l_172, l_180, l_188, l_189, l_190, l_191, l_192, l_14, l_17, l_18, l_0, l_1, l_2, l_3, l_4, l_5, l_6, l_7, l_8, l_9, l_10, l_11, l_12, l_20, l_21, l_30, l_31, l_32, l_40, l_48, l_50, l_51, l_57, l_60, l_70, l_71, l_99, l_100, l_101, l_160, l_199, l_200, l_999, l_1000, q_tn, q_add, q_mul, q_sub, q_le, q_lt, q_eq, q_31, n_and, n_or, n_xor, q_shl, q_z, q_b0, q_b1, q_bz, q_em, q_me, q_mm, q_lm, q_ml, q_mle, q_lem, s2_eq, s2_ne, pk_us, pk_un, uN_s, uN_n, if_pos, if_neg, ite_true, ite_false, if_true, if_false, not_true, not_false_iff, Nat.add_zero, Nat.zero_add, inR_t, isIx_t, bI_t, bI_f, neg1, q_clr, f_X6_status_J22, h.cy, m.cy]
      exact sim_i rfl
    · unfold f_X6_status f_X7_status
      have e1 := pc_of hbl hP
      simp (disch := omega) only [nm_s, bd_s, bd2_s, bd3_s, bd4_s, q_gt, q_inB, ↓q_m1, l_166, l_172, l_180, l_188, l_189, l_190, l_191, l_192, l_14, l_17, l_18, l_0, l_1, l_2, l_3, l_4, l_5, l_6, l_7, l_8, l_9, l_10, l_11, l_12, l_20, l_21, l_30, l_31, l_32, l_40, l_48, l_50, l_51, l_57, l_60, l_70, l_71, l_99, l_100, l_101, l_160, l_199, l_200, l_999, l_1000, q_tn, q_add, q_mul, q_sub, q_le, q_lt, q_eq, q_31, n_and, n_or, n_xor, q_shl, q_z, q_b0, q_b1, q_bz, q_em, q_me, q_mm, q_lm, q_ml, q_mle, q_lem, s2_eq, s2_ne, pk_us, pk_un, uN_s, uN_n, if_pos, if_neg, ite_true, ite_false, if_true, if_false, not_true, not_false_iff, Nat.add_zero, Nat.zero_add, inR_t, isIx_t, bI_t, bI_f, neg1, q_clr, f_X6_status_J22, h.cy, pR_blackIn h w.1, pM_blacks m w.1, e1]
      exact sim_i rfl
    · unfold f_X6_status f_X7_status
      simp (disch := omega) only [nm_s, bd_s, bd2_s, bd3_s, bd4_s, q_gt, q_inB, ↓q_m1, l_166, l_172, l_180, l_188, l_189, l_190, l_191, l_192, l_14, l_17, l_18, l_0, l_1, l_2, l_3, l_4, l_5, l_6, l_7, l_8, l_9, l_10, l_11, l_12, l_20, l_21, l_30, l_31, l_32, l_40, l_48, l_50, l_51, l_57, l_60, l_70, l_71, l_99, l_100, l_101, l_160, l_199, l_200, l_999, l_1000, q_tn, q_add, q_mul, q_sub, q_le, q_lt, q_eq, q_31, n_and, n_or, n_xor, q_shl, q_z, q_b0, q_b1, q_bz, q_em, q_me, q_mm, q_lm, q_ml, q_mle, q_lem, s2_eq, s2_ne, pk_us, pk_un, uN_s, uN_n, if_pos, if_neg, ite_true, ite_false, if_true, if_false, not_true, not_false_iff, Nat.add_zero, Nat.zero_add, inR_t, isIx_t, bI_t, bI_f, neg1, q_clr, f_X6_status_J22]
      exact sim_i hd
    · unfold f_X6_status f_X7_status
      simp (disch := omega) only [nm_s, bd_s, bd2_s, bd3_s, bd4_s, q_gt, q_inB, ↓q_m1, l_166, l_172, l_180, l_188, l_189, l_190, l_191, l_192, l_14, l_17, l_18, l_0, l_1, l_2, l_3, l_4, l_5, l_6, l_7, l_8, l_9, l_10, l_11, l_12, l_20, l_21, l_30, l_31, l_32, l_40, l_48, l_50, l_51, l_57, l_60, l_70, l_71, l_99, l_100, l_101, l_160, l_199, l_200, l_999, l_1000, q_tn, q_add, q_mul, q_sub, q_le, q_lt, q_eq, q_31, n_and, n_or, n_xor, q_shl, q_z, q_b0, q_b1, q_bz, q_em, q_me, q_mm, q_lm, q_ml, q_mle, q_lem, s2_eq, s2_ne, pk_us, pk_un, uN_s, uN_n, if_pos, if_neg, ite_true, ite_false, if_true, if_false, not_true, not_false_iff, Nat.add_zero, Nat.zero_add, inR_t, isIx_t, bI_t, bI_f, neg1, q_clr, f_X6_status_J22, t2, t3]
      exact sim_i rfl
theorem sim_cost (I : Inv B so r0 r1 rw re sv sm sq) (hB : B ≤ 19000000) (sk : GS) (x1 : Int32) : SimP (f_X6_cost so r0 r2 sk x1) (f_X7_cost sm x1) (fun x y => x.1 = y.1 ∧ Inv B x.2.1 r0 r1 rw re sv y.2 sq) := by
  have I0 := I
  obtain ⟨g, ⟨h, m, w, hd⟩, hf, hs, hc, ht, hi⟩ := I
  have hP := w.1.1.1
  unfold f_X6_cost f_X7_cost
  rcases ixl x1 (aP g) (by omega) with p0 | ⟨p, hp, rfl, p1⟩
  · simp (disch := omega) only [nm_s, bd_s, bd2_s, bd3_s, bd4_s, q_gt, q_inB, ↓q_m1, l_166, l_172, l_180, l_188, l_189, l_190, l_191, l_192, l_14, l_17, l_18, l_0, l_1, l_2, l_3, l_4, l_5, l_6, l_7, l_8, l_9, l_10, l_11, l_12, l_20, l_21, l_30, l_31, l_32, l_40, l_48, l_50, l_51, l_57, l_60, l_70, l_71, l_99, l_100, l_101, l_160, l_199, l_200, l_999, l_1000, q_tn, q_add, q_mul, q_sub, q_le, q_lt, q_eq, q_31, n_and, n_or, n_xor, q_shl, q_z, q_b0, q_b1, q_bz, q_em, q_me, q_mm, q_lm, q_ml, q_mle, q_lem, s2_eq, s2_ne, pk_us, pk_un, uN_s, uN_n, if_pos, if_neg, ite_true, ite_false, if_true, if_false, not_true, not_false_iff, Nat.add_zero, Nat.zero_add, inR_t, isIx_t, bI_t, bI_f, neg1, q_clr, pR_isPeak h, pM_isPeak m w.1, p0, r6_, r7_1]
    exact sim_i ⟨(show mI - 1000000 = mI + -1000000 by decide), Inv_ref I0 (by omega)⟩
  · cases hst : stB g p with
    | false =>
      simp (disch := omega) only [nm_s, bd_s, bd2_s, bd3_s, bd4_s, q_gt, q_inB, ↓q_m1, l_166, l_172, l_180, l_188, l_189, l_190, l_191, l_192, l_14, l_17, l_18, l_0, l_1, l_2, l_3, l_4, l_5, l_6, l_7, l_8, l_9, l_10, l_11, l_12, l_20, l_21, l_30, l_31, l_32, l_40, l_48, l_50, l_51, l_57, l_60, l_70, l_71, l_99, l_100, l_101, l_160, l_199, l_200, l_999, l_1000, q_tn, q_add, q_mul, q_sub, q_le, q_lt, q_eq, q_31, n_and, n_or, n_xor, q_shl, q_z, q_b0, q_b1, q_bz, q_em, q_me, q_mm, q_lm, q_ml, q_mle, q_lem, s2_eq, s2_ne, pk_us, pk_un, uN_s, uN_n, if_pos, if_neg, ite_true, ite_false, if_true, if_false, not_true, not_false_iff, Nat.add_zero, Nat.zero_add, inR_t, isIx_t, bI_t, bI_f, neg1, q_clr, pR_isPeak h, pM_isPeak m w.1, pR_isStanding h w.1, pM_isThere m w.1, isSt_n w.1, hst, r6_, r7_]
      exact sim_i ⟨(show -nI 6 - 1000000 = -nI 6 + -1000000 by decide), Inv_ref I0 (by omega)⟩
    | true =>
      obtain ⟨k, e, hk⟩ := pK_look (sk := sk) h w.1 (n := 100) (by omega)
      obtain ⟨z, e2, z1, z2⟩ := pR_become (r := r2) h w.1
      obtain ⟨⟨v, r'⟩, e3, v1, v2, v3⟩ := pR_lose z1 w.1 hp
      dsimp only at v1 v2 v3
      have wl := loseA_wf w.1 hp
      obtain ⟨k', e4, hk'⟩ := pK_look (sk := k) v2 wl.1 (n := 100) (by omega)
      obtain ⟨f, d1, d2, d3⟩ := tryM (K := 27) (Or.inl rfl) m w.1
      obtain ⟨⟨v', t⟩, d4, d5, d6, d7⟩ := pM_loses d2 w hp hst
      dsimp only at d5 d6 d7
      obtain ⟨u, d8, u1, u2, u3, -⟩ := d3 t (by rw [d7.1 27 rfl, s2_eq]) (SmK_trans (SmK_s2 (by omega)) (SmK_fr d7))
      have y6 := pK_yield (m := 0) h w.1 (show 100 ≤ 200 by omega) hk
      have y6' := pK_yield (m := 0) v2 wl.1 (show 100 ≤ 200 by omega) hk'
      have y7 := pM_yieldOf m w.1 hB (show 100 ≤ 1000 by omega)
      have y7' := pM_yieldOf d6 wl.1 hB (show 100 ≤ 1000 by omega)
      rw [yieldW_0] at y6 y6'
      simp (disch := omega) only [nm_s, bd_s, bd2_s, bd3_s, bd4_s, q_gt, q_inB, ↓q_m1, l_166, l_172, l_180, l_188, l_189, l_190, l_191, l_192, l_14, l_17, l_18, l_0, l_1, l_2, l_3, l_4, l_5, l_6, l_7, l_8, l_9, l_10, l_11, l_12, l_20, l_21, l_30, l_31, l_32, l_40, l_48, l_50, l_51, l_57, l_60, l_70, l_71, l_99, l_100, l_101, l_160, l_199, l_200, l_999, l_1000, q_tn, q_add, q_mul, q_sub, q_le, q_lt, q_eq, q_31, n_and, n_or, n_xor, q_shl, q_z, q_b0, q_b1, q_bz, q_em, q_me, q_mm, q_lm, q_ml, q_mle, q_lem, s2_eq, s2_ne, pk_us, pk_un, uN_s, uN_n, if_pos, if_neg, ite_true, ite_false, if_true, if_false, not_true, not_false_iff, Nat.add_zero, Nat.zero_add, inR_t, isIx_t, bI_t, bI_f, neg1, q_clr, pR_isPeak h, pM_isPeak m w.1, pR_isStanding h w.1, pM_isThere m w.1, isSt_n w.1, hst, e, y6, e2, e3, e4, y6', y7, d1, d4, y7', d8]
      exact sim_i ⟨rfl, Inv_scr I0 h w hs u1 u2 (hd.trans u3.symm)⟩
-- spared
theorem pR_spared_L47 {g : AG} (h : RepR g r0) (w : WfN B g) (hB : B ≤ 19000000) {p : Nat} (hp : p < aP g) (v : Int32) (so : GS) : ∀ (m i : Nat), i ≤ 100 → 100 - i < m → f_X6_spared_L47 r0 (nI p) v so m (nI i) = some (fstI (fun n => decide (v < nI (griefA g p (aY g + n)))) (100 - i) i, so)
  | 0, i, _, h2 => by omega
  | m + 1, i, h1, h2 => by
    have hY := w.1.2.2.2
    rw [f_X6_spared_L47.eq_2]
    by_cases hi : i < 100
    · have ih := pR_spared_L47 h w hB hp v so m (i + 1) (by omega) (by omega)
      have hg := pR_griefOf h w (lost := p) (y := aY g + i) hp (by omega) (by omega)
      rw [show 100 - i = (100 - (i + 1)) + 1 by omega]
      by_cases hv : v < nI (griefA g p (aY g + i))
      · rw [fstI_y (decide_eq_true hv)]
        simp (disch := omega) only [nm_s, bd_s, bd2_s, bd3_s, bd4_s, q_gt, q_inB, ↓q_m1, l_166, l_172, l_180, l_188, l_189, l_190, l_191, l_192, l_14, l_17, l_18, l_0, l_1, l_2, l_3, l_4, l_5, l_6, l_7, l_8, l_9, l_10, l_11, l_12, l_20, l_21, l_30, l_31, l_32, l_40, l_48, l_50, l_51, l_57, l_60, l_70, l_71, l_99, l_100, l_101, l_160, l_199, l_200, l_999, l_1000, q_tn, q_31, q_shl, q_z, q_b0, q_b1, q_bz, q_em, q_me, q_mm, q_lm, q_ml, q_mle, q_lem, s2_eq, s2_ne, pk_us, pk_un, uN_s, uN_n, if_pos, if_neg, ite_true, ite_false, if_true, if_false, not_true, not_false_iff, Nat.add_zero, Nat.zero_add, h.cy, q_add, q_le, hg, hv]
        exact ih
      · rw [fstI_n (decide_eq_false hv)]
        simp (disch := omega) only [nm_s, bd_s, bd2_s, bd3_s, bd4_s, q_gt, q_inB, ↓q_m1, l_166, l_172, l_180, l_188, l_189, l_190, l_191, l_192, l_14, l_17, l_18, l_0, l_1, l_2, l_3, l_4, l_5, l_6, l_7, l_8, l_9, l_10, l_11, l_12, l_20, l_21, l_30, l_31, l_32, l_40, l_48, l_50, l_51, l_57, l_60, l_70, l_71, l_99, l_100, l_101, l_160, l_199, l_200, l_999, l_1000, q_tn, q_31, q_shl, q_z, q_b0, q_b1, q_bz, q_em, q_me, q_mm, q_lm, q_ml, q_mle, q_lem, s2_eq, s2_ne, pk_us, pk_un, uN_s, uN_n, if_pos, if_neg, ite_true, ite_false, if_true, if_false, not_true, not_false_iff, Nat.add_zero, Nat.zero_add, h.cy, q_add, q_le, hg, hv]
    · have : i = 100 := by omega
      subst this
      simp (disch := omega) only [nm_s, bd_s, bd2_s, bd3_s, bd4_s, q_gt, q_inB, ↓q_m1, l_166, l_172, l_180, l_188, l_189, l_190, l_191, l_192, l_14, l_17, l_18, l_0, l_1, l_2, l_3, l_4, l_5, l_6, l_7, l_8, l_9, l_10, l_11, l_12, l_20, l_21, l_30, l_31, l_32, l_40, l_48, l_50, l_51, l_57, l_60, l_70, l_71, l_99, l_100, l_101, l_160, l_199, l_200, l_999, l_1000, q_tn, q_add, q_mul, q_sub, q_le, q_lt, q_eq, q_31, n_and, n_or, n_xor, q_shl, q_z, q_b0, q_b1, q_bz, q_em, q_me, q_mm, q_lm, q_ml, q_mle, q_lem, s2_eq, s2_ne, pk_us, pk_un, uN_s, uN_n, if_pos, if_neg, ite_true, ite_false, if_true, if_false, not_true, not_false_iff, Nat.add_zero, Nat.zero_add, inR_t, isIx_t, bI_t, bI_f, neg1, q_clr]
      rfl
theorem pM_spared_L39 {g : AG} (w : Wf B g) (hB : B ≤ 19000000) {p : Nat} (hp : p < aP g) (hst : stB g p = true) (v : Int32) : ∀ (m t : Nat) (s : GS), RepM g s → t ≤ 100 → t < m → ∃ u, f_X7_spared_L39 (nI p) v m (fstI (fun n => decide (v < nI (griefA g p (aY g + n)))) (100 - t) t) (nI t - nI 1) s = some (fstI (fun n => decide (v < nI (griefA g p (aY g + n)))) 100 0, u) ∧ RepM g u ∧ SmK s u ∧ u 0 18 = s 0 18
  | 0, t, s, _, _, h2 => by omega
  | m + 1, t', s, hr, h1, h2 => by
    rcases nat_c t' with rfl | ⟨t, rfl⟩
    · rw [f_X7_spared_L39.eq_2, z_m1]
      simp (disch := omega) only [nm_s, bd_s, bd2_s, bd3_s, bd4_s, q_gt, q_inB, ↓q_m1, l_166, l_172, l_180, l_188, l_189, l_190, l_191, l_192, l_14, l_17, l_18, l_0, l_1, l_2, l_3, l_4, l_5, l_6, l_7, l_8, l_9, l_10, l_11, l_12, l_20, l_21, l_30, l_31, l_32, l_40, l_48, l_50, l_51, l_57, l_60, l_70, l_71, l_99, l_100, l_101, l_160, l_199, l_200, l_999, l_1000, q_tn, q_add, q_mul, q_sub, q_le, q_lt, q_eq, q_31, n_and, n_or, n_xor, q_shl, q_z, q_b0, q_b1, q_bz, q_em, q_me, q_mm, q_lm, q_ml, q_mle, q_lem, s2_eq, s2_ne, pk_us, pk_un, uN_s, uN_n, if_pos, if_neg, ite_true, ite_false, if_true, if_false, not_true, not_false_iff, Nat.add_zero, Nat.zero_add, inR_t, isIx_t, bI_t, bI_f, neg1, q_clr]
      exact ⟨_, rfl, hr, SmK_rfl _, rfl⟩
    have hY := w.1.1.2.2.2
    have hP := w.1.1.1
    have w' : Wf (B + 100) (setY g (aY g + t)) := ⟨setY_wf (Wf.mono w.1 (by omega) (by omega)) (by omega) (by omega), setY_v w.2⟩
    have m' : RepM (setY g (aY g + t)) (s2 s 0 (upd (s 0) 17 (nI (aY g + t)))) := pM_setY hr
    obtain ⟨u, e, u1, u2, u3⟩ := pM_griefOf m' w' (p := p) hp hst
    have e' : f_X7_griefOf (s2 s 0 (upd (s 0) 17 (nI (aY g + t)))) (nI p) = some (nI (griefA g p (aY g + t)), u) := e
    have uy : u 0 17 = nI (aY g + t) := u1.cy
    have hu := RepM_year u1
    have hk : SmK s (s2 u 0 (upd (u 0) 17 (nI (aY g)))) := SmK_trans (SmK_slot (by omega) (by omega) (by omega)) (SmK_trans u2 (SmK_slot (by omega) (by omega) (by omega)))
    have h18 : (s2 u 0 (upd (u 0) 17 (nI (aY g)))) 0 18 = s 0 18 := u3
    obtain ⟨z, ih, z1, z2, z3⟩ := pM_spared_L39 w hB hp hst v m t _ hu (by omega) (by omega)
    rw [show 100 - t = (100 - (t + 1)) + 1 by omega] at ih
    refine ⟨z, ?_, z1, SmK_trans hk z2, z3.trans h18⟩
    rw [f_X7_spared_L39.eq_2]
    by_cases hv : v < nI (griefA g p (aY g + t))
    · rw [fstI_y (decide_eq_true hv)] at ih
      simp (disch := omega) only [nm_s, bd_s, bd2_s, bd3_s, bd4_s, q_gt, q_inB, ↓q_m1, l_166, l_172, l_180, l_188, l_189, l_190, l_191, l_192, l_14, l_17, l_18, l_0, l_1, l_2, l_3, l_4, l_5, l_6, l_7, l_8, l_9, l_10, l_11, l_12, l_20, l_21, l_30, l_31, l_32, l_40, l_48, l_50, l_51, l_57, l_60, l_70, l_71, l_99, l_100, l_101, l_160, l_199, l_200, l_999, l_1000, q_tn, q_add, q_mul, q_sub, q_le, q_lt, q_eq, q_31, n_and, n_or, n_xor, q_shl, q_z, q_b0, q_b1, q_bz, q_em, q_me, q_mm, q_lm, q_ml, q_mle, q_lem, s2_eq, s2_ne, pk_us, pk_un, uN_s, uN_n, if_pos, if_neg, ite_true, ite_false, if_true, if_false, not_true, not_false_iff, Nat.add_zero, Nat.zero_add, inR_t, isIx_t, bI_t, bI_f, neg1, q_clr, hr.cy, Nat.add_sub_cancel, e', hv, f_X7_spared_J67, uy, q_am]
      exact ih
    · rw [fstI_n (decide_eq_false hv)] at ih
      simp (disch := omega) only [nm_s, bd_s, bd2_s, bd3_s, bd4_s, q_gt, q_inB, ↓q_m1, l_166, l_172, l_180, l_188, l_189, l_190, l_191, l_192, l_14, l_17, l_18, l_0, l_1, l_2, l_3, l_4, l_5, l_6, l_7, l_8, l_9, l_10, l_11, l_12, l_20, l_21, l_30, l_31, l_32, l_40, l_48, l_50, l_51, l_57, l_60, l_70, l_71, l_99, l_100, l_101, l_160, l_199, l_200, l_999, l_1000, q_tn, q_add, q_mul, q_sub, q_le, q_lt, q_eq, q_31, n_and, n_or, n_xor, q_shl, q_z, q_b0, q_b1, q_bz, q_em, q_me, q_mm, q_lm, q_ml, q_mle, q_lem, s2_eq, s2_ne, pk_us, pk_un, uN_s, uN_n, if_pos, if_neg, ite_true, ite_false, if_true, if_false, not_true, not_false_iff, Nat.add_zero, Nat.zero_add, inR_t, isIx_t, bI_t, bI_f, neg1, q_clr, hr.cy, Nat.add_sub_cancel, e', hv, f_X7_spared_J67, uy, q_am]
      exact ih
theorem sim_spared (I : Inv B so r0 r1 rw re sv sm sq) (hB : B ≤ 19000000) (x1 x2 : Int32) : SimP (f_X6_spared so r0 x1 x2) (f_X7_spared sm x1 x2) (fun x y => x.1 = y.1 ∧ Inv B x.2 r0 r1 rw re sv y.2 sq) := by
  have I0 := I
  obtain ⟨g, ⟨h, m, w, hd⟩, hf, hs, hc, ht, hi⟩ := I
  have hP := w.1.1.1
  unfold f_X6_spared f_X7_spared
  rcases ixl x1 (aP g) (by omega) with p0 | ⟨p, hp, rfl, p1⟩
  · simp (disch := omega) only [nm_s, bd_s, bd2_s, bd3_s, bd4_s, q_gt, q_inB, ↓q_m1, l_166, l_172, l_180, l_188, l_189, l_190, l_191, l_192, l_14, l_17, l_18, l_0, l_1, l_2, l_3, l_4, l_5, l_6, l_7, l_8, l_9, l_10, l_11, l_12, l_20, l_21, l_30, l_31, l_32, l_40, l_48, l_50, l_51, l_57, l_60, l_70, l_71, l_99, l_100, l_101, l_160, l_199, l_200, l_999, l_1000, q_tn, q_add, q_mul, q_sub, q_le, q_lt, q_eq, q_31, n_and, n_or, n_xor, q_shl, q_z, q_b0, q_b1, q_bz, q_em, q_me, q_mm, q_lm, q_ml, q_mle, q_lem, s2_eq, s2_ne, pk_us, pk_un, uN_s, uN_n, if_pos, if_neg, ite_true, ite_false, if_true, if_false, not_true, not_false_iff, Nat.add_zero, Nat.zero_add, inR_t, isIx_t, bI_t, bI_f, neg1, q_clr, pR_isPeak h, pM_isPeak m w.1, p0, n10_1, r6_]
    exact sim_i ⟨rfl, Inv_ref I0 (by omega)⟩
  · by_cases hv : x2 < nI 0
    · simp (disch := omega) only [nm_s, bd_s, bd2_s, bd3_s, bd4_s, q_gt, q_inB, ↓q_m1, l_166, l_172, l_180, l_188, l_189, l_190, l_191, l_192, l_14, l_17, l_18, l_0, l_1, l_2, l_3, l_4, l_5, l_6, l_7, l_8, l_9, l_10, l_11, l_12, l_20, l_21, l_30, l_31, l_32, l_40, l_48, l_50, l_51, l_57, l_60, l_70, l_71, l_99, l_100, l_101, l_160, l_199, l_200, l_999, l_1000, q_tn, q_add, q_mul, q_sub, q_le, q_lt, q_eq, q_31, n_and, n_or, n_xor, q_shl, q_z, q_b0, q_b1, q_bz, q_em, q_me, q_mm, q_lm, q_ml, q_mle, q_lem, s2_eq, s2_ne, pk_us, pk_un, uN_s, uN_n, if_pos, if_neg, ite_true, ite_false, if_true, if_false, not_true, not_false_iff, Nat.add_zero, Nat.zero_add, inR_t, isIx_t, bI_t, bI_f, neg1, q_clr, pR_isPeak h, pM_isPeak m w.1, hv, f_X6_spared_J35, f_X7_spared_J26, n10_, r6_]
      exact sim_i ⟨rfl, Inv_ref I0 (by omega)⟩
    · cases hst : stB g p with
      | false =>
        simp (disch := omega) only [nm_s, bd_s, bd2_s, bd3_s, bd4_s, q_gt, q_inB, ↓q_m1, l_166, l_172, l_180, l_188, l_189, l_190, l_191, l_192, l_14, l_17, l_18, l_0, l_1, l_2, l_3, l_4, l_5, l_6, l_7, l_8, l_9, l_10, l_11, l_12, l_20, l_21, l_30, l_31, l_32, l_40, l_48, l_50, l_51, l_57, l_60, l_70, l_71, l_99, l_100, l_101, l_160, l_199, l_200, l_999, l_1000, q_tn, q_add, q_mul, q_sub, q_le, q_lt, q_eq, q_31, n_and, n_or, n_xor, q_shl, q_z, q_b0, q_b1, q_bz, q_em, q_me, q_mm, q_lm, q_ml, q_mle, q_lem, s2_eq, s2_ne, pk_us, pk_un, uN_s, uN_n, if_pos, if_neg, ite_true, ite_false, if_true, if_false, not_true, not_false_iff, Nat.add_zero, Nat.zero_add, inR_t, isIx_t, bI_t, bI_f, neg1, q_clr, pR_isPeak h, pM_isPeak m w.1, hv, pR_isStanding h w.1, pM_isThere m w.1, isSt_n w.1, hst, f_X6_spared_J35, f_X7_spared_J26, n10_, r6_]
        exact sim_i ⟨rfl, Inv_ref I0 (by omega)⟩
      | true =>
        have e6 : f_X6_spared_L47 r0 (nI p) x2 so FU (nI 0) = some (fstI (fun n => decide (x2 < nI (griefA g p (aY g + n)))) 100 0, so) := pR_spared_L47 h w.1 hB hp x2 so 2000 0 (by omega) (by omega)
        obtain ⟨u, e7, u1, u2, u3⟩ := pM_spared_L39 w hB hp hst x2 2000 100 sm m (by omega) (by omega)
        have e7' : f_X7_spared_L39 (nI p) x2 FU mI (nI 99) sm = some (fstI (fun n => decide (x2 < nI (griefA g p (aY g + n)))) 100 0, u) := e7
        simp (disch := omega) only [nm_s, bd_s, bd2_s, bd3_s, bd4_s, q_gt, q_inB, ↓q_m1, l_166, l_172, l_180, l_188, l_189, l_190, l_191, l_192, l_14, l_17, l_18, l_0, l_1, l_2, l_3, l_4, l_5, l_6, l_7, l_8, l_9, l_10, l_11, l_12, l_20, l_21, l_30, l_31, l_32, l_40, l_48, l_50, l_51, l_57, l_60, l_70, l_71, l_99, l_100, l_101, l_160, l_199, l_200, l_999, l_1000, q_tn, q_add, q_mul, q_sub, q_le, q_lt, q_eq, q_31, n_and, n_or, n_xor, q_shl, q_z, q_b0, q_b1, q_bz, q_em, q_me, q_mm, q_lm, q_ml, q_mle, q_lem, s2_eq, s2_ne, pk_us, pk_un, uN_s, uN_n, if_pos, if_neg, ite_true, ite_false, if_true, if_false, not_true, not_false_iff, Nat.add_zero, Nat.zero_add, inR_t, isIx_t, bI_t, bI_f, neg1, q_clr, pR_isPeak h, pM_isPeak m w.1, hv, pR_isStanding h w.1, pM_isThere m w.1, isSt_n w.1, hst, e6, e7']
        exact sim_i ⟨rfl, Inv_scr I0 h w hs u1 u2 (hd.trans u3.symm)⟩
end SF
