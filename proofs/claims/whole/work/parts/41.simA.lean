-- both sides, call by call: what comes
section SA
variable {B : Nat} {so r0 r1 : GS} {rw : Nat → GS} {re : Nat → Nat → Int64} {sv sm : GS} {sq : Nat → Int64}
theorem B_ok (I : Inv B so r0 r1 rw re sv sm sq) : B ≤ 20000000 := by
  obtain ⟨g, ⟨h, m, w, hd⟩, -⟩ := I
  exact w.1.1.2.2.2.2.1
theorem sim_peak (I : Inv B so r0 r1 rw re sv sm sq) (x1 x2 x3 x4 : Int32) : SimP (f_X6_peak so r0 x1 x2 x3 x4) (f_X7_peak sm x1 x2 x3 x4) (fun x y => x.1 = y.1 ∧ Inv B x.2.1 x.2.2 r1 rw re sv y.2 sq) := by
  have I0 := I
  have hB := B_ok I
  obtain ⟨g, ⟨h, m, w, hd⟩, hf, hs, hc, ht, hi⟩ := I
  have hP := w.1.1.1
  unfold f_X6_peak f_X7_peak
  rcases ixl x1 7 (by omega) with k0 | ⟨k, hk, rfl, k1⟩
  · simp (disch := omega) only [nm_s, bd_s, bd2_s, bd3_s, bd4_s, q_gt, q_inB, ↓q_m1, l_166, l_172, l_180, l_188, l_189, l_190, l_191, l_192, l_14, l_17, l_18, l_0, l_1, l_2, l_3, l_4, l_5, l_6, l_7, l_8, l_9, l_10, l_11, l_12, l_20, l_21, l_30, l_31, l_32, l_40, l_48, l_50, l_51, l_57, l_60, l_70, l_71, l_99, l_100, l_101, l_160, l_199, l_200, l_999, l_1000, q_tn, q_add, q_mul, q_sub, q_le, q_lt, q_eq, q_31, n_and, n_or, n_xor, q_shl, q_z, q_b0, q_b1, q_bz, q_em, q_me, q_mm, q_lm, q_ml, q_mle, q_lem, s2_eq, s2_ne, pk_us, pk_un, uN_s, uN_n, if_pos, if_neg, ite_true, ite_false, if_true, if_false, not_true, not_false_iff, Nat.add_zero, Nat.zero_add, inR_t, isIx_t, bI_t, bI_f, neg1, q_clr, p6_isKind, w7_ix, k0, bI_f, r6_, r7_, r7_1]
    exact sim_i ⟨rfl, Inv_ref I0 (by omega)⟩
  · rcases in3 x2 0 9 (by omega) (by omega) with ⟨_, a0⟩ | ⟨_, _, a0⟩ | ⟨a, _, ha, rfl, a1⟩
    · simp (disch := omega) only [nm_s, bd_s, bd2_s, bd3_s, bd4_s, q_gt, q_inB, ↓q_m1, l_166, l_172, l_180, l_188, l_189, l_190, l_191, l_192, l_14, l_17, l_18, l_0, l_1, l_2, l_3, l_4, l_5, l_6, l_7, l_8, l_9, l_10, l_11, l_12, l_20, l_21, l_30, l_31, l_32, l_40, l_48, l_50, l_51, l_57, l_60, l_70, l_71, l_99, l_100, l_101, l_160, l_199, l_200, l_999, l_1000, q_tn, q_add, q_mul, q_sub, q_le, q_lt, q_eq, q_31, n_and, n_or, n_xor, q_shl, q_z, q_b0, q_b1, q_bz, q_em, q_me, q_mm, q_lm, q_ml, q_mle, q_lem, s2_eq, s2_ne, pk_us, pk_un, uN_s, uN_n, if_pos, if_neg, ite_true, ite_false, if_true, if_false, not_true, not_false_iff, Nat.add_zero, Nat.zero_add, inR_t, isIx_t, bI_t, bI_f, neg1, q_clr, p6_isKind, w7_ix, k1, p6_isA, pM_within, a0, bI_f, bI_t, f_X6_peak_J46, f_X7_peak_J49, r6_, r7_]
      exact sim_i ⟨rfl, Inv_ref I0 (by omega)⟩
    · simp (disch := omega) only [nm_s, bd_s, bd2_s, bd3_s, bd4_s, q_gt, q_inB, ↓q_m1, l_166, l_172, l_180, l_188, l_189, l_190, l_191, l_192, l_14, l_17, l_18, l_0, l_1, l_2, l_3, l_4, l_5, l_6, l_7, l_8, l_9, l_10, l_11, l_12, l_20, l_21, l_30, l_31, l_32, l_40, l_48, l_50, l_51, l_57, l_60, l_70, l_71, l_99, l_100, l_101, l_160, l_199, l_200, l_999, l_1000, q_tn, q_add, q_mul, q_sub, q_le, q_lt, q_eq, q_31, n_and, n_or, n_xor, q_shl, q_z, q_b0, q_b1, q_bz, q_em, q_me, q_mm, q_lm, q_ml, q_mle, q_lem, s2_eq, s2_ne, pk_us, pk_un, uN_s, uN_n, if_pos, if_neg, ite_true, ite_false, if_true, if_false, not_true, not_false_iff, Nat.add_zero, Nat.zero_add, inR_t, isIx_t, bI_t, bI_f, neg1, q_clr, p6_isKind, w7_ix, k1, p6_isA, pM_within, a0, bI_f, bI_t, f_X6_peak_J46, f_X7_peak_J49, r6_, r7_]
      exact sim_i ⟨rfl, Inv_ref I0 (by omega)⟩
    · rcases ixl x3 100 (by omega) with p0 | ⟨p, hp, rfl, p1⟩
      · simp (disch := omega) only [nm_s, bd_s, bd2_s, bd3_s, bd4_s, q_gt, q_inB, ↓q_m1, l_166, l_172, l_180, l_188, l_189, l_190, l_191, l_192, l_14, l_17, l_18, l_0, l_1, l_2, l_3, l_4, l_5, l_6, l_7, l_8, l_9, l_10, l_11, l_12, l_20, l_21, l_30, l_31, l_32, l_40, l_48, l_50, l_51, l_57, l_60, l_70, l_71, l_99, l_100, l_101, l_160, l_199, l_200, l_999, l_1000, q_tn, q_add, q_mul, q_sub, q_le, q_lt, q_eq, q_31, n_and, n_or, n_xor, q_shl, q_z, q_b0, q_b1, q_bz, q_em, q_me, q_mm, q_lm, q_ml, q_mle, q_lem, s2_eq, s2_ne, pk_us, pk_un, uN_s, uN_n, if_pos, if_neg, ite_true, ite_false, if_true, if_false, not_true, not_false_iff, Nat.add_zero, Nat.zero_add, inR_t, isIx_t, bI_t, bI_f, neg1, q_clr, p6_isKind, w7_ix, k1, p6_isA, pM_within, a1, p6_isPlace, pM_isPlace, p0, bI_f, bI_t, f_X6_peak_J46, f_X7_peak_J49, r6_, r7_]
        exact sim_i ⟨rfl, Inv_ref I0 (by omega)⟩
      · rcases in3 x4 1 999 (by omega) (by omega) with ⟨_, h0⟩ | ⟨_, _, h0⟩ | ⟨t, ht1, ht2, rfl, h1⟩
        · simp (disch := omega) only [nm_s, bd_s, bd2_s, bd3_s, bd4_s, q_gt, q_inB, ↓q_m1, l_166, l_172, l_180, l_188, l_189, l_190, l_191, l_192, l_14, l_17, l_18, l_0, l_1, l_2, l_3, l_4, l_5, l_6, l_7, l_8, l_9, l_10, l_11, l_12, l_20, l_21, l_30, l_31, l_32, l_40, l_48, l_50, l_51, l_57, l_60, l_70, l_71, l_99, l_100, l_101, l_160, l_199, l_200, l_999, l_1000, q_tn, q_add, q_mul, q_sub, q_le, q_lt, q_eq, q_31, n_and, n_or, n_xor, q_shl, q_z, q_b0, q_b1, q_bz, q_em, q_me, q_mm, q_lm, q_ml, q_mle, q_lem, s2_eq, s2_ne, pk_us, pk_un, uN_s, uN_n, if_pos, if_neg, ite_true, ite_false, if_true, if_false, not_true, not_false_iff, Nat.add_zero, Nat.zero_add, inR_t, isIx_t, bI_t, bI_f, neg1, q_clr, p6_isKind, w7_ix, k1, p6_isA, pM_within, a1, p6_isPlace, pM_isPlace, p1, p6_isHeight, pM_isHeight, h0, bI_f, bI_t, f_X6_peak_J46, f_X7_peak_J49, r6_, r7_]
          exact sim_i ⟨rfl, Inv_ref I0 (by omega)⟩
        · simp (disch := omega) only [nm_s, bd_s, bd2_s, bd3_s, bd4_s, q_gt, q_inB, ↓q_m1, l_166, l_172, l_180, l_188, l_189, l_190, l_191, l_192, l_14, l_17, l_18, l_0, l_1, l_2, l_3, l_4, l_5, l_6, l_7, l_8, l_9, l_10, l_11, l_12, l_20, l_21, l_30, l_31, l_32, l_40, l_48, l_50, l_51, l_57, l_60, l_70, l_71, l_99, l_100, l_101, l_160, l_199, l_200, l_999, l_1000, q_tn, q_add, q_mul, q_sub, q_le, q_lt, q_eq, q_31, n_and, n_or, n_xor, q_shl, q_z, q_b0, q_b1, q_bz, q_em, q_me, q_mm, q_lm, q_ml, q_mle, q_lem, s2_eq, s2_ne, pk_us, pk_un, uN_s, uN_n, if_pos, if_neg, ite_true, ite_false, if_true, if_false, not_true, not_false_iff, Nat.add_zero, Nat.zero_add, inR_t, isIx_t, bI_t, bI_f, neg1, q_clr, p6_isKind, w7_ix, k1, p6_isA, pM_within, a1, p6_isPlace, pM_isPlace, p1, p6_isHeight, pM_isHeight, h0, bI_f, bI_t, f_X6_peak_J46, f_X7_peak_J49, r6_, r7_]
          exact sim_i ⟨rfl, Inv_ref I0 (by omega)⟩
        · cases hx : anyF (fun j => decide (g 3 j = p)) (aP g) with
          | true =>
            simp (disch := omega) only [nm_s, bd_s, bd2_s, bd3_s, bd4_s, q_gt, q_inB, ↓q_m1, l_166, l_172, l_180, l_188, l_189, l_190, l_191, l_192, l_14, l_17, l_18, l_0, l_1, l_2, l_3, l_4, l_5, l_6, l_7, l_8, l_9, l_10, l_11, l_12, l_20, l_21, l_30, l_31, l_32, l_40, l_48, l_50, l_51, l_57, l_60, l_70, l_71, l_99, l_100, l_101, l_160, l_199, l_200, l_999, l_1000, q_tn, q_add, q_mul, q_sub, q_le, q_lt, q_eq, q_31, n_and, n_or, n_xor, q_shl, q_z, q_b0, q_b1, q_bz, q_em, q_me, q_mm, q_lm, q_ml, q_mle, q_lem, s2_eq, s2_ne, pk_us, pk_un, uN_s, uN_n, if_pos, if_neg, ite_true, ite_false, if_true, if_false, not_true, not_false_iff, Nat.add_zero, Nat.zero_add, inR_t, isIx_t, bI_t, bI_f, neg1, q_clr, p6_isKind, w7_ix, k1, p6_isA, pM_within, a1, p6_isPlace, pM_isPlace, p1, p6_isHeight, pM_isHeight, h1, pR_hasPeakAt h w.1, pM_isTaken m w.1, hx, bI_f, bI_t, f_X6_peak_J46, f_X7_peak_J49, r6_, r7_]
            exact sim_i ⟨rfl, Inv_ref I0 (by omega)⟩
          | false =>
            by_cases hP2 : aP g < 10
            · have hn : ∀ i, i < aP g → ¬ g 3 i = p := fun i hi he => by
                rw [anyF_yes hi (by simpa using he)] at hx; cases hx
              obtain ⟨⟨v, r'⟩, e1, e2, e3, e4⟩ := pR_addPeak h w.1 hk (show a < 10 by omega) hp (show 1 ≤ t ∧ t < 1000 by omega) hP2 hn
              obtain ⟨⟨v', s'⟩, d1, d2, d3, d4⟩ := pM_newPeak m w.1 hk (show a < 10 by omega) hp (show 1 ≤ t ∧ t < 1000 by omega) hP2 hn
              dsimp only at e2 e3 e4 d2 d3 d4
              simp (disch := omega) only [nm_s, bd_s, bd2_s, bd3_s, bd4_s, q_gt, q_inB, ↓q_m1, l_166, l_172, l_180, l_188, l_189, l_190, l_191, l_192, l_14, l_17, l_18, l_0, l_1, l_2, l_3, l_4, l_5, l_6, l_7, l_8, l_9, l_10, l_11, l_12, l_20, l_21, l_30, l_31, l_32, l_40, l_48, l_50, l_51, l_57, l_60, l_70, l_71, l_99, l_100, l_101, l_160, l_199, l_200, l_999, l_1000, q_tn, q_add, q_mul, q_sub, q_le, q_lt, q_eq, q_31, n_and, n_or, n_xor, q_shl, q_z, q_b0, q_b1, q_bz, q_em, q_me, q_mm, q_lm, q_ml, q_mle, q_lem, s2_eq, s2_ne, pk_us, pk_un, uN_s, uN_n, if_pos, if_neg, ite_true, ite_false, if_true, if_false, not_true, not_false_iff, Nat.add_zero, Nat.zero_add, inR_t, isIx_t, bI_t, bI_f, neg1, q_clr, p6_isKind, w7_ix, k1, p6_isA, pM_within, a1, p6_isPlace, pM_isPlace, p1, p6_isHeight, pM_isHeight, h1, pR_hasPeakAt h w.1, pM_isTaken m w.1, hx, bI_f, bI_t, h.c0, m.c0, e1, d1]
              refine sim_i ⟨e2.trans d2.symm, Inv_range hs hf hc ht hi (Nat.le_refl _) hB (SmK_fr d4) e3 d3 (lookA_wf (addP_wf w.1 hk (by omega) hp (by omega) hP2 hn)) ?_ (Nat.le_succ _)⟩
              show r' 0 17 = s' 0 18
              rw [e4, hd, d4.2 18 rfl]
            · simp (disch := omega) only [nm_s, bd_s, bd2_s, bd3_s, bd4_s, q_gt, q_inB, ↓q_m1, l_166, l_172, l_180, l_188, l_189, l_190, l_191, l_192, l_14, l_17, l_18, l_0, l_1, l_2, l_3, l_4, l_5, l_6, l_7, l_8, l_9, l_10, l_11, l_12, l_20, l_21, l_30, l_31, l_32, l_40, l_48, l_50, l_51, l_57, l_60, l_70, l_71, l_99, l_100, l_101, l_160, l_199, l_200, l_999, l_1000, q_tn, q_add, q_mul, q_sub, q_le, q_lt, q_eq, q_31, n_and, n_or, n_xor, q_shl, q_z, q_b0, q_b1, q_bz, q_em, q_me, q_mm, q_lm, q_ml, q_mle, q_lem, s2_eq, s2_ne, pk_us, pk_un, uN_s, uN_n, if_pos, if_neg, ite_true, ite_false, if_true, if_false, not_true, not_false_iff, Nat.add_zero, Nat.zero_add, inR_t, isIx_t, bI_t, bI_f, neg1, q_clr, p6_isKind, w7_ix, k1, p6_isA, pM_within, a1, p6_isPlace, pM_isPlace, p1, p6_isHeight, pM_isHeight, h1, pR_hasPeakAt h w.1, pM_isTaken m w.1, hx, bI_f, bI_t, h.c0, m.c0, f_X6_peak_J46, f_X7_peak_J49, r6_, r7_]
              exact sim_i ⟨rfl, Inv_ref I0 (by omega)⟩
theorem sim_screen (I : Inv B so r0 r1 rw re sv sm sq) (x1 x2 : Int32) : SimP (f_X6_screen so r0 x1 x2) (f_X7_screen sm x1 x2) (fun x y => x.1 = y.1 ∧ Inv B x.2.1 x.2.2 r1 rw re sv y.2 sq) := by
  have I0 := I
  have hB := B_ok I
  obtain ⟨g, ⟨h, m, w, hd⟩, hf, hs, hc, ht, hi⟩ := I
  have hS := w.1.1.2.1
  unfold f_X6_screen f_X7_screen
  rcases ixl x1 100 (by omega) with p0 | ⟨p, hp, rfl, p1⟩
  · simp (disch := omega) only [nm_s, bd_s, bd2_s, bd3_s, bd4_s, q_gt, q_inB, ↓q_m1, l_166, l_172, l_180, l_188, l_189, l_190, l_191, l_192, l_14, l_17, l_18, l_0, l_1, l_2, l_3, l_4, l_5, l_6, l_7, l_8, l_9, l_10, l_11, l_12, l_20, l_21, l_30, l_31, l_32, l_40, l_48, l_50, l_51, l_57, l_60, l_70, l_71, l_99, l_100, l_101, l_160, l_199, l_200, l_999, l_1000, q_tn, q_add, q_mul, q_sub, q_le, q_lt, q_eq, q_31, n_and, n_or, n_xor, q_shl, q_z, q_b0, q_b1, q_bz, q_em, q_me, q_mm, q_lm, q_ml, q_mle, q_lem, s2_eq, s2_ne, pk_us, pk_un, uN_s, uN_n, if_pos, if_neg, ite_true, ite_false, if_true, if_false, not_true, not_false_iff, Nat.add_zero, Nat.zero_add, inR_t, isIx_t, bI_t, bI_f, neg1, q_clr, p6_isPlace, pM_isPlace, p0, bI_f, f_X6_screen_J14, f_X7_screen_J14, r6_, r7_]
    exact sim_i ⟨rfl, Inv_ref I0 (by omega)⟩
  · rcases in3 x2 1 999 (by omega) (by omega) with ⟨_, h0⟩ | ⟨_, _, h0⟩ | ⟨t, ht1, ht2, rfl, h1⟩
    · simp (disch := omega) only [nm_s, bd_s, bd2_s, bd3_s, bd4_s, q_gt, q_inB, ↓q_m1, l_166, l_172, l_180, l_188, l_189, l_190, l_191, l_192, l_14, l_17, l_18, l_0, l_1, l_2, l_3, l_4, l_5, l_6, l_7, l_8, l_9, l_10, l_11, l_12, l_20, l_21, l_30, l_31, l_32, l_40, l_48, l_50, l_51, l_57, l_60, l_70, l_71, l_99, l_100, l_101, l_160, l_199, l_200, l_999, l_1000, q_tn, q_add, q_mul, q_sub, q_le, q_lt, q_eq, q_31, n_and, n_or, n_xor, q_shl, q_z, q_b0, q_b1, q_bz, q_em, q_me, q_mm, q_lm, q_ml, q_mle, q_lem, s2_eq, s2_ne, pk_us, pk_un, uN_s, uN_n, if_pos, if_neg, ite_true, ite_false, if_true, if_false, not_true, not_false_iff, Nat.add_zero, Nat.zero_add, inR_t, isIx_t, bI_t, bI_f, neg1, q_clr, p6_isPlace, pM_isPlace, p1, p6_isHeight, pM_isHeight, h0, bI_f, bI_t, f_X6_screen_J14, f_X7_screen_J14, r6_, r7_]
      exact sim_i ⟨rfl, Inv_ref I0 (by omega)⟩
    · simp (disch := omega) only [nm_s, bd_s, bd2_s, bd3_s, bd4_s, q_gt, q_inB, ↓q_m1, l_166, l_172, l_180, l_188, l_189, l_190, l_191, l_192, l_14, l_17, l_18, l_0, l_1, l_2, l_3, l_4, l_5, l_6, l_7, l_8, l_9, l_10, l_11, l_12, l_20, l_21, l_30, l_31, l_32, l_40, l_48, l_50, l_51, l_57, l_60, l_70, l_71, l_99, l_100, l_101, l_160, l_199, l_200, l_999, l_1000, q_tn, q_add, q_mul, q_sub, q_le, q_lt, q_eq, q_31, n_and, n_or, n_xor, q_shl, q_z, q_b0, q_b1, q_bz, q_em, q_me, q_mm, q_lm, q_ml, q_mle, q_lem, s2_eq, s2_ne, pk_us, pk_un, uN_s, uN_n, if_pos, if_neg, ite_true, ite_false, if_true, if_false, not_true, not_false_iff, Nat.add_zero, Nat.zero_add, inR_t, isIx_t, bI_t, bI_f, neg1, q_clr, p6_isPlace, pM_isPlace, p1, p6_isHeight, pM_isHeight, h0, bI_f, bI_t, f_X6_screen_J14, f_X7_screen_J14, r6_, r7_]
      exact sim_i ⟨rfl, Inv_ref I0 (by omega)⟩
    · by_cases hS2 : aS g < 6
      · obtain ⟨⟨v, r'⟩, e1, e2, e3, e4⟩ := pR_addScreen h w.1 hp (show 1 ≤ t ∧ t < 1000 by omega) hS2
        obtain ⟨⟨v', s'⟩, d1, d2, d3, d4⟩ := pM_newScreen m w.1 hp (show 1 ≤ t ∧ t < 1000 by omega) hS2
        dsimp only at e2 e3 e4 d2 d3 d4
        simp (disch := omega) only [nm_s, bd_s, bd2_s, bd3_s, bd4_s, q_gt, q_inB, ↓q_m1, l_166, l_172, l_180, l_188, l_189, l_190, l_191, l_192, l_14, l_17, l_18, l_0, l_1, l_2, l_3, l_4, l_5, l_6, l_7, l_8, l_9, l_10, l_11, l_12, l_20, l_21, l_30, l_31, l_32, l_40, l_48, l_50, l_51, l_57, l_60, l_70, l_71, l_99, l_100, l_101, l_160, l_199, l_200, l_999, l_1000, q_tn, q_add, q_mul, q_sub, q_le, q_lt, q_eq, q_31, n_and, n_or, n_xor, q_shl, q_z, q_b0, q_b1, q_bz, q_em, q_me, q_mm, q_lm, q_ml, q_mle, q_lem, s2_eq, s2_ne, pk_us, pk_un, uN_s, uN_n, if_pos, if_neg, ite_true, ite_false, if_true, if_false, not_true, not_false_iff, Nat.add_zero, Nat.zero_add, inR_t, isIx_t, bI_t, bI_f, neg1, q_clr, p6_isPlace, pM_isPlace, p1, p6_isHeight, pM_isHeight, h1, bI_f, bI_t, h.cs, m.cs, e1, d1]
        refine sim_i ⟨e2.trans d2.symm, Inv_range hs hf hc ht hi (Nat.le_refl _) hB (SmK_fr d4) e3 d3 (lookA_wf (addS_wf w.1 hp (by omega) hS2)) ?_ (Nat.le_refl _)⟩
        show r' 0 17 = s' 0 18
        rw [e4, hd, d4.2 18 rfl]
      · simp (disch := omega) only [nm_s, bd_s, bd2_s, bd3_s, bd4_s, q_gt, q_inB, ↓q_m1, l_166, l_172, l_180, l_188, l_189, l_190, l_191, l_192, l_14, l_17, l_18, l_0, l_1, l_2, l_3, l_4, l_5, l_6, l_7, l_8, l_9, l_10, l_11, l_12, l_20, l_21, l_30, l_31, l_32, l_40, l_48, l_50, l_51, l_57, l_60, l_70, l_71, l_99, l_100, l_101, l_160, l_199, l_200, l_999, l_1000, q_tn, q_add, q_mul, q_sub, q_le, q_lt, q_eq, q_31, n_and, n_or, n_xor, q_shl, q_z, q_b0, q_b1, q_bz, q_em, q_me, q_mm, q_lm, q_ml, q_mle, q_lem, s2_eq, s2_ne, pk_us, pk_un, uN_s, uN_n, if_pos, if_neg, ite_true, ite_false, if_true, if_false, not_true, not_false_iff, Nat.add_zero, Nat.zero_add, inR_t, isIx_t, bI_t, bI_f, neg1, q_clr, p6_isPlace, pM_isPlace, p1, p6_isHeight, pM_isHeight, h1, bI_f, bI_t, h.cs, m.cs, r6_, r7_]
        exact sim_i ⟨rfl, Inv_ref I0 (by omega)⟩
theorem sim_valley (I : Inv B so r0 r1 rw re sv sm sq) (x1 : Int32) : SimP (f_X6_valley so r0 x1) (f_X7_valley sm x1) (fun x y => x.1 = y.1 ∧ Inv B x.2.1 x.2.2 r1 rw re sv y.2 sq) := by
  have I0 := I
  have hB := B_ok I
  obtain ⟨g, ⟨h, m, w, hd⟩, hf, hs, hc, ht, hi⟩ := I
  have hV := w.1.1.2.2.1
  unfold f_X6_valley f_X7_valley
  rcases in3 x1 0 999 (by omega) (by omega) with ⟨q1, h0⟩ | ⟨q1, q2, h0⟩ | ⟨t, ht1, ht2, rfl, h1⟩
  · simp (disch := omega) only [nm_s, bd_s, bd2_s, bd3_s, bd4_s, q_gt, q_inB, ↓q_m1, l_166, l_172, l_180, l_188, l_189, l_190, l_191, l_192, l_14, l_17, l_18, l_0, l_1, l_2, l_3, l_4, l_5, l_6, l_7, l_8, l_9, l_10, l_11, l_12, l_20, l_21, l_30, l_31, l_32, l_40, l_48, l_50, l_51, l_57, l_60, l_70, l_71, l_99, l_100, l_101, l_160, l_199, l_200, l_999, l_1000, q_tn, q_add, q_mul, q_sub, q_le, q_lt, q_eq, q_31, n_and, n_or, n_xor, q_shl, q_z, q_b0, q_b1, q_bz, q_em, q_me, q_mm, q_lm, q_ml, q_mle, q_lem, s2_eq, s2_ne, pk_us, pk_un, uN_s, uN_n, if_pos, if_neg, ite_true, ite_false, if_true, if_false, not_true, not_false_iff, Nat.add_zero, Nat.zero_add, inR_t, isIx_t, bI_t, bI_f, neg1, q_clr, q1, pM_within, h0, bI_f, f_X6_valley_J11, r6_, r7_]
    exact sim_i ⟨rfl, Inv_ref I0 (by omega)⟩
  · simp (disch := omega) only [nm_s, bd_s, bd2_s, bd3_s, bd4_s, q_gt, q_inB, ↓q_m1, l_166, l_172, l_180, l_188, l_189, l_190, l_191, l_192, l_14, l_17, l_18, l_0, l_1, l_2, l_3, l_4, l_5, l_6, l_7, l_8, l_9, l_10, l_11, l_12, l_20, l_21, l_30, l_31, l_32, l_40, l_48, l_50, l_51, l_57, l_60, l_70, l_71, l_99, l_100, l_101, l_160, l_199, l_200, l_999, l_1000, q_tn, q_add, q_mul, q_sub, q_le, q_lt, q_eq, q_31, n_and, n_or, n_xor, q_shl, q_z, q_b0, q_b1, q_bz, q_em, q_me, q_mm, q_lm, q_ml, q_mle, q_lem, s2_eq, s2_ne, pk_us, pk_un, uN_s, uN_n, if_pos, if_neg, ite_true, ite_false, if_true, if_false, not_true, not_false_iff, Nat.add_zero, Nat.zero_add, inR_t, isIx_t, bI_t, bI_f, neg1, q_clr, q1, q2, pM_within, h0, bI_f, f_X6_valley_J11, r6_, r7_]
    exact sim_i ⟨rfl, Inv_ref I0 (by omega)⟩
  · by_cases hV2 : aV g < 8
    · obtain ⟨⟨v, r'⟩, e1, e2, e3, e4⟩ := pR_addValley h w.1 (m := t) hV2
      obtain ⟨⟨v', s'⟩, d1, d2, d3, d4⟩ := pM_newValley m w.1 (m := t) hV2
      dsimp only at e2 e3 e4 d2 d3 d4
      simp (disch := omega) only [nm_s, bd_s, bd2_s, bd3_s, bd4_s, q_gt, q_inB, ↓q_m1, l_166, l_172, l_180, l_188, l_189, l_190, l_191, l_192, l_14, l_17, l_18, l_0, l_1, l_2, l_3, l_4, l_5, l_6, l_7, l_8, l_9, l_10, l_11, l_12, l_20, l_21, l_30, l_31, l_32, l_40, l_48, l_50, l_51, l_57, l_60, l_70, l_71, l_99, l_100, l_101, l_160, l_199, l_200, l_999, l_1000, q_tn, q_add, q_mul, q_sub, q_le, q_lt, q_eq, q_31, n_and, n_or, n_xor, q_shl, q_z, q_b0, q_b1, q_bz, q_em, q_me, q_mm, q_lm, q_ml, q_mle, q_lem, s2_eq, s2_ne, pk_us, pk_un, uN_s, uN_n, if_pos, if_neg, ite_true, ite_false, if_true, if_false, not_true, not_false_iff, Nat.add_zero, Nat.zero_add, inR_t, isIx_t, bI_t, bI_f, neg1, q_clr, pM_within, h1, bI_t, h.cv, m.cv, e1, d1]
      refine sim_i ⟨e2.trans d2.symm, Inv_range hs hf hc ht hi (Nat.le_refl _) hB (SmK_fr d4) e3 d3 ⟨addV_wf w.1 (by omega) hV2, addV_v w.2⟩ ?_ (Nat.le_refl _)⟩
      show r' 0 17 = s' 0 18
      rw [e4, hd, d4.2 18 rfl]
    · simp (disch := omega) only [nm_s, bd_s, bd2_s, bd3_s, bd4_s, q_gt, q_inB, ↓q_m1, l_166, l_172, l_180, l_188, l_189, l_190, l_191, l_192, l_14, l_17, l_18, l_0, l_1, l_2, l_3, l_4, l_5, l_6, l_7, l_8, l_9, l_10, l_11, l_12, l_20, l_21, l_30, l_31, l_32, l_40, l_48, l_50, l_51, l_57, l_60, l_70, l_71, l_99, l_100, l_101, l_160, l_199, l_200, l_999, l_1000, q_tn, q_add, q_mul, q_sub, q_le, q_lt, q_eq, q_31, n_and, n_or, n_xor, q_shl, q_z, q_b0, q_b1, q_bz, q_em, q_me, q_mm, q_lm, q_ml, q_mle, q_lem, s2_eq, s2_ne, pk_us, pk_un, uN_s, uN_n, if_pos, if_neg, ite_true, ite_false, if_true, if_false, not_true, not_false_iff, Nat.add_zero, Nat.zero_add, inR_t, isIx_t, bI_t, bI_f, neg1, q_clr, pM_within, h1, bI_t, h.cv, m.cv, r6_, r7_]
      exact sim_i ⟨rfl, Inv_ref I0 (by omega)⟩
theorem sim_under (I : Inv B so r0 r1 rw re sv sm sq) (x1 x2 : Int32) (b : Bool) : SimP (f_X6_under so r0 x1 x2 (bI b)) (f_X7_under sm x1 x2 (bI b)) (fun x y => x.1 = y.1 ∧ Inv B x.2.1 x.2.2 r1 rw re sv y.2 sq) := by
  have I0 := I
  have hB := B_ok I
  obtain ⟨g, ⟨h, m, w, hd⟩, hf, hs, hc, ht, hi⟩ := I
  have hP := w.1.1.1
  have hV := w.1.1.2.2.1
  unfold f_X6_under f_X7_under
  rcases ixl x1 (aV g) (by omega) with k0 | ⟨v, hv, rfl, k1⟩
  · simp (disch := omega) only [nm_s, bd_s, bd2_s, bd3_s, bd4_s, q_gt, q_inB, ↓q_m1, l_166, l_172, l_180, l_188, l_189, l_190, l_191, l_192, l_14, l_17, l_18, l_0, l_1, l_2, l_3, l_4, l_5, l_6, l_7, l_8, l_9, l_10, l_11, l_12, l_20, l_21, l_30, l_31, l_32, l_40, l_48, l_50, l_51, l_57, l_60, l_70, l_71, l_99, l_100, l_101, l_160, l_199, l_200, l_999, l_1000, q_tn, q_add, q_mul, q_sub, q_le, q_lt, q_eq, q_31, n_and, n_or, n_xor, q_shl, q_z, q_b0, q_b1, q_bz, q_em, q_me, q_mm, q_lm, q_ml, q_mle, q_lem, s2_eq, s2_ne, pk_us, pk_un, uN_s, uN_n, if_pos, if_neg, ite_true, ite_false, if_true, if_false, not_true, not_false_iff, Nat.add_zero, Nat.zero_add, inR_t, isIx_t, bI_t, bI_f, neg1, q_clr, pR_isValley h, pM_isValley m w.1, k0, bI_f, f_X6_under_J22, f_X7_under_J16, r6_, r7_1]
    exact sim_i ⟨rfl, Inv_ref I0 (by omega)⟩
  · rcases ixl x2 (aP g) (by omega) with p0 | ⟨p, hp, rfl, p1⟩
    · simp (disch := omega) only [nm_s, bd_s, bd2_s, bd3_s, bd4_s, q_gt, q_inB, ↓q_m1, l_166, l_172, l_180, l_188, l_189, l_190, l_191, l_192, l_14, l_17, l_18, l_0, l_1, l_2, l_3, l_4, l_5, l_6, l_7, l_8, l_9, l_10, l_11, l_12, l_20, l_21, l_30, l_31, l_32, l_40, l_48, l_50, l_51, l_57, l_60, l_70, l_71, l_99, l_100, l_101, l_160, l_199, l_200, l_999, l_1000, q_tn, q_add, q_mul, q_sub, q_le, q_lt, q_eq, q_31, n_and, n_or, n_xor, q_shl, q_z, q_b0, q_b1, q_bz, q_em, q_me, q_mm, q_lm, q_ml, q_mle, q_lem, s2_eq, s2_ne, pk_us, pk_un, uN_s, uN_n, if_pos, if_neg, ite_true, ite_false, if_true, if_false, not_true, not_false_iff, Nat.add_zero, Nat.zero_add, inR_t, isIx_t, bI_t, bI_f, neg1, q_clr, pR_isValley h, pM_isValley m w.1, k1, pR_isPeak h, pM_isPeak m w.1, p0, bI_f, bI_t, f_X6_under_J22, f_X7_under_J16, r6_, r7_1]
      exact sim_i ⟨rfl, Inv_ref I0 (by omega)⟩
    · have hu := Wf.ult w.1 hv
      obtain ⟨r', e1, e2, e3⟩ := pR_putUnder h w.1 hv hp b
      have hm : ∀ t : Int32, f_X7_under_J40 (nI v) (nI p) (bI b) sm t = some (t, s2 sm 17 (upd (sm 17) v (nI (if b = true then g 12 v ||| 2 ^ p else clr (g 12 v) (2 ^ p))))) := by
        intro t
        unfold f_X7_under_J40 f_X7_under_J70
        rw [gd_t (n_inB (by omega) (by omega)), n_tn (by omega), m.c17 hv, n_shl (by omega), n_clr]
        cases b with
        | false =>
          rw [if_pos (show bI false = 0 from rfl), show (0 : Int32) = nI 0 from rfl, n_or, Nat.or_zero, nm_s, gd_t (n_inB (by omega) (by omega)), nm_s]
          rfl
        | true =>
          rw [if_neg (show ¬ bI true = 0 by decide), n_or, nm_s, gd_t (n_inB (by omega) (by omega)), nm_s]
          have : clr (g 12 v) (2 ^ p) ||| 2 ^ p = g 12 v ||| 2 ^ p := by
            apply Nat.eq_of_testBit_eq
            intro i
            rw [Nat.testBit_or, Nat.testBit_or, clr_bit]
            cases (g 12 v).testBit i <;> cases (2 ^ p).testBit i <;> rfl
          rw [this]
          rfl
      have hfin : ∀ u : Int32, Inv B so r' r1 rw re sv (s2 sm 17 (upd (sm 17) v (nI (if b = true then g 12 v ||| 2 ^ p else clr (g 12 v) (2 ^ p))))) sq := fun _ => by
        refine Inv_range hs hf hc ht hi (Nat.le_refl _) hB (SmK_fr (FrM_s2 rfl (by omega))) e2 (pM_setU m) ⟨setU_wf w.1 ?_, setU_v w.2⟩ (by rw [e3, hd]; rfl) (Nat.le_refl _)
        have hub := (w.1.2.2.2.2.1 v hv).2
        split
        · exact or_lt hub (two_lt hp)
        · exact Nat.lt_of_le_of_lt (clr_lt hub) hub
      have hb := p_bit (w := g 12 v) (i := p) (by omega) (by omega)
      have hh := pM_has (w := g 12 v) (i := p) (by omega) (by omega)
      cases ht2 : (g 12 v).testBit p with
      | true =>
        rw [ht2] at hb hh
        simp (disch := omega) only [nm_s, bd_s, bd2_s, bd3_s, bd4_s, q_gt, q_inB, ↓q_m1, l_166, l_172, l_180, l_188, l_189, l_190, l_191, l_192, l_14, l_17, l_18, l_0, l_1, l_2, l_3, l_4, l_5, l_6, l_7, l_8, l_9, l_10, l_11, l_12, l_20, l_21, l_30, l_31, l_32, l_40, l_48, l_50, l_51, l_57, l_60, l_70, l_71, l_99, l_100, l_101, l_160, l_199, l_200, l_999, l_1000, q_tn, q_add, q_mul, q_sub, q_le, q_lt, q_eq, q_31, n_and, n_or, n_xor, q_shl, q_z, q_b0, q_b1, q_bz, q_em, q_me, q_mm, q_lm, q_ml, q_mle, q_lem, s2_eq, s2_ne, pk_us, pk_un, uN_s, uN_n, if_pos, if_neg, ite_true, ite_false, if_true, if_false, not_true, not_false_iff, Nat.add_zero, Nat.zero_add, inR_t, isIx_t, bI_t, bI_f, neg1, q_clr, pR_isValley h, pM_isValley m w.1, k1, pR_isPeak h, pM_isPeak m w.1, p1, h.c16, m.c17, hb, hh, bI_t, e1, hm]
        exact sim_i ⟨rfl, hfin 0⟩
      | false =>
        rw [ht2] at hb hh
        simp (disch := omega) only [nm_s, bd_s, bd2_s, bd3_s, bd4_s, q_gt, q_inB, ↓q_m1, l_166, l_172, l_180, l_188, l_189, l_190, l_191, l_192, l_14, l_17, l_18, l_0, l_1, l_2, l_3, l_4, l_5, l_6, l_7, l_8, l_9, l_10, l_11, l_12, l_20, l_21, l_30, l_31, l_32, l_40, l_48, l_50, l_51, l_57, l_60, l_70, l_71, l_99, l_100, l_101, l_160, l_199, l_200, l_999, l_1000, q_tn, q_add, q_mul, q_sub, q_le, q_lt, q_eq, q_31, n_and, n_or, n_xor, q_shl, q_z, q_b0, q_b1, q_bz, q_em, q_me, q_mm, q_lm, q_ml, q_mle, q_lem, s2_eq, s2_ne, pk_us, pk_un, uN_s, uN_n, if_pos, if_neg, ite_true, ite_false, if_true, if_false, not_true, not_false_iff, Nat.add_zero, Nat.zero_add, inR_t, isIx_t, bI_t, bI_f, neg1, q_clr, pR_isValley h, pM_isValley m w.1, k1, pR_isPeak h, pM_isPeak m w.1, p1, h.c16, m.c17, hb, hh, bI_t, bI_f, e1, hm]
        exact sim_i ⟨rfl, hfin 0⟩
theorem sim_take (I : Inv B so r0 r1 rw re sv sm sq) (x1 : Int32) : SimP (f_X6_take so r0 x1) (f_X7_take sm x1) (fun x y => x.1 = y.1 ∧ Inv B x.2.1 x.2.2 r1 rw re sv y.2 sq) := by
  have I0 := I
  have hB := B_ok I
  obtain ⟨g, ⟨h, m, w, hd⟩, hf, hs, hc, ht, hi⟩ := I
  have hP := w.1.1.1
  unfold f_X6_take f_X7_take
  rcases ixl x1 (aP g) (by omega) with p0 | ⟨p, hp, rfl, p1⟩
  · simp (disch := omega) only [nm_s, bd_s, bd2_s, bd3_s, bd4_s, q_gt, q_inB, ↓q_m1, l_166, l_172, l_180, l_188, l_189, l_190, l_191, l_192, l_14, l_17, l_18, l_0, l_1, l_2, l_3, l_4, l_5, l_6, l_7, l_8, l_9, l_10, l_11, l_12, l_20, l_21, l_30, l_31, l_32, l_40, l_48, l_50, l_51, l_57, l_60, l_70, l_71, l_99, l_100, l_101, l_160, l_199, l_200, l_999, l_1000, q_tn, q_add, q_mul, q_sub, q_le, q_lt, q_eq, q_31, n_and, n_or, n_xor, q_shl, q_z, q_b0, q_b1, q_bz, q_em, q_me, q_mm, q_lm, q_ml, q_mle, q_lem, s2_eq, s2_ne, pk_us, pk_un, uN_s, uN_n, if_pos, if_neg, ite_true, ite_false, if_true, if_false, not_true, not_false_iff, Nat.add_zero, Nat.zero_add, inR_t, isIx_t, bI_t, bI_f, neg1, q_clr, pR_isPeak h, pM_isPeak m w.1, p0, bI_f, r6_, r7_1]
    exact sim_i ⟨rfl, Inv_ref I0 (by omega)⟩
  · cases hst : stB g p with
    | false =>
      simp (disch := omega) only [nm_s, bd_s, bd2_s, bd3_s, bd4_s, q_gt, q_inB, ↓q_m1, l_166, l_172, l_180, l_188, l_189, l_190, l_191, l_192, l_14, l_17, l_18, l_0, l_1, l_2, l_3, l_4, l_5, l_6, l_7, l_8, l_9, l_10, l_11, l_12, l_20, l_21, l_30, l_31, l_32, l_40, l_48, l_50, l_51, l_57, l_60, l_70, l_71, l_99, l_100, l_101, l_160, l_199, l_200, l_999, l_1000, q_tn, q_add, q_mul, q_sub, q_le, q_lt, q_eq, q_31, n_and, n_or, n_xor, q_shl, q_z, q_b0, q_b1, q_bz, q_em, q_me, q_mm, q_lm, q_ml, q_mle, q_lem, s2_eq, s2_ne, pk_us, pk_un, uN_s, uN_n, if_pos, if_neg, ite_true, ite_false, if_true, if_false, not_true, not_false_iff, Nat.add_zero, Nat.zero_add, inR_t, isIx_t, bI_t, bI_f, neg1, q_clr, pR_isPeak h, pM_isPeak m w.1, p1, pR_isStanding h w.1, pM_isThere m w.1, isSt_n w.1, hst, bI_f, bI_t, r6_, r7_]
      exact sim_i ⟨rfl, Inv_ref I0 (by omega)⟩
    | true =>
      obtain ⟨⟨v, r'⟩, e1, e2, e3, e4⟩ := pR_lose h w.1 hp
      obtain ⟨⟨v', s'⟩, d1, d2, d3, d4⟩ := pM_loses m w hp hst
      dsimp only at e2 e3 e4 d2 d3 d4
      simp (disch := omega) only [nm_s, bd_s, bd2_s, bd3_s, bd4_s, q_gt, q_inB, ↓q_m1, l_166, l_172, l_180, l_188, l_189, l_190, l_191, l_192, l_14, l_17, l_18, l_0, l_1, l_2, l_3, l_4, l_5, l_6, l_7, l_8, l_9, l_10, l_11, l_12, l_20, l_21, l_30, l_31, l_32, l_40, l_48, l_50, l_51, l_57, l_60, l_70, l_71, l_99, l_100, l_101, l_160, l_199, l_200, l_999, l_1000, q_tn, q_add, q_mul, q_sub, q_le, q_lt, q_eq, q_31, n_and, n_or, n_xor, q_shl, q_z, q_b0, q_b1, q_bz, q_em, q_me, q_mm, q_lm, q_ml, q_mle, q_lem, s2_eq, s2_ne, pk_us, pk_un, uN_s, uN_n, if_pos, if_neg, ite_true, ite_false, if_true, if_false, not_true, not_false_iff, Nat.add_zero, Nat.zero_add, inR_t, isIx_t, bI_t, bI_f, neg1, q_clr, pR_isPeak h, pM_isPeak m w.1, p1, pR_isStanding h w.1, pM_isThere m w.1, isSt_n w.1, hst, bI_t, e1, d1]
      refine sim_i ⟨e2.trans d2.symm, Inv_range hs hf hc ht hi (Nat.le_refl _) hB (SmK_fr d4) e3 d3 (loseA_wf w.1 hp) ?_ (Nat.le_refl _)⟩
      show r' 0 17 = s' 0 18
      rw [e4, hd, d4.2 18 rfl]
theorem sim_years (I : Inv B so r0 r1 rw re sv sm sq) (hB2 : B ≤ 19000000) (x1 : Int32) : SimP (f_X6_years so r0 x1) (f_X7_years sm x1) (fun x y => x.1 = y.1 ∧ Inv (B + 999) x.2.1 x.2.2 r1 rw re sv y.2 sq) := by
  have I0 := Inv_mono I (show B ≤ B + 999 by omega) (by omega)
  obtain ⟨g, ⟨h, m, w, hd⟩, hf, hs, hc, ht, hi⟩ := I
  have hY := w.1.1.2.2.2.1
  unfold f_X6_years f_X7_years
  rcases in3 x1 1 999 (by omega) (by omega) with ⟨q1, h0⟩ | ⟨q1, q2, h0⟩ | ⟨t, ht1, ht2, rfl, h1⟩
  · simp (disch := omega) only [nm_s, bd_s, bd2_s, bd3_s, bd4_s, q_gt, q_inB, ↓q_m1, l_166, l_172, l_180, l_188, l_189, l_190, l_191, l_192, l_14, l_17, l_18, l_0, l_1, l_2, l_3, l_4, l_5, l_6, l_7, l_8, l_9, l_10, l_11, l_12, l_20, l_21, l_30, l_31, l_32, l_40, l_48, l_50, l_51, l_57, l_60, l_70, l_71, l_99, l_100, l_101, l_160, l_199, l_200, l_999, l_1000, q_tn, q_add, q_mul, q_sub, q_le, q_lt, q_eq, q_31, n_and, n_or, n_xor, q_shl, q_z, q_b0, q_b1, q_bz, q_em, q_me, q_mm, q_lm, q_ml, q_mle, q_lem, s2_eq, s2_ne, pk_us, pk_un, uN_s, uN_n, if_pos, if_neg, ite_true, ite_false, if_true, if_false, not_true, not_false_iff, Nat.add_zero, Nat.zero_add, inR_t, isIx_t, bI_t, bI_f, neg1, q_clr, q1, pM_within, h0, bI_f, f_X6_years_J12, r6_, r7_]
    exact sim_i ⟨rfl, Inv_ref I0 (by omega)⟩
  · simp (disch := omega) only [nm_s, bd_s, bd2_s, bd3_s, bd4_s, q_gt, q_inB, ↓q_m1, l_166, l_172, l_180, l_188, l_189, l_190, l_191, l_192, l_14, l_17, l_18, l_0, l_1, l_2, l_3, l_4, l_5, l_6, l_7, l_8, l_9, l_10, l_11, l_12, l_20, l_21, l_30, l_31, l_32, l_40, l_48, l_50, l_51, l_57, l_60, l_70, l_71, l_99, l_100, l_101, l_160, l_199, l_200, l_999, l_1000, q_tn, q_add, q_mul, q_sub, q_le, q_lt, q_eq, q_31, n_and, n_or, n_xor, q_shl, q_z, q_b0, q_b1, q_bz, q_em, q_me, q_mm, q_lm, q_ml, q_mle, q_lem, s2_eq, s2_ne, pk_us, pk_un, uN_s, uN_n, if_pos, if_neg, ite_true, ite_false, if_true, if_false, not_true, not_false_iff, Nat.add_zero, Nat.zero_add, inR_t, isIx_t, bI_t, bI_f, neg1, q_clr, q1, q2, pM_within, h0, bI_f, f_X6_years_J12, r6_, r7_]
    exact sim_i ⟨rfl, Inv_ref I0 (by omega)⟩
  · simp (disch := omega) only [nm_s, bd_s, bd2_s, bd3_s, bd4_s, q_gt, q_inB, ↓q_m1, l_166, l_172, l_180, l_188, l_189, l_190, l_191, l_192, l_14, l_17, l_18, l_0, l_1, l_2, l_3, l_4, l_5, l_6, l_7, l_8, l_9, l_10, l_11, l_12, l_20, l_21, l_30, l_31, l_32, l_40, l_48, l_50, l_51, l_57, l_60, l_70, l_71, l_99, l_100, l_101, l_160, l_199, l_200, l_999, l_1000, q_tn, q_add, q_mul, q_sub, q_le, q_lt, q_eq, q_31, n_and, n_or, n_xor, q_shl, q_z, q_b0, q_b1, q_bz, q_em, q_me, q_mm, q_lm, q_ml, q_mle, q_lem, s2_eq, s2_ne, pk_us, pk_un, uN_s, uN_n, if_pos, if_neg, ite_true, ite_false, if_true, if_false, not_true, not_false_iff, Nat.add_zero, Nat.zero_add, inR_t, isIx_t, bI_t, bI_f, neg1, q_clr, pM_within, h1, bI_t, h.cy, m.cy]
    refine sim_i ⟨rfl, Inv_range (g' := setY g (aY g + t)) hs hf hc ht hi (by omega) (by omega) (SmK_slot (by omega) (by omega) (by omega)) ⟨⟨h.c0, h.c1, h.cs, h.cv, rfl⟩, h.2⟩ (pM_setY m) ⟨setY_wf (Wf.mono w.1 (by omega) (by omega)) (by omega) (by omega), setY_v w.2⟩ ?_ (Nat.le_refl _)⟩
    exact hd
theorem sim_seed (I : Inv B so r0 r1 rw re sv sm sq) (x1 : Int32) : SimP (f_X6_seed r0 x1) (f_X7_seed sm x1) (fun x y => x.1 = y.1 ∧ Inv B so x.2 r1 rw re sv y.2 sq) := by
  have hB := B_ok I
  obtain ⟨g, ⟨h, m, w, hd⟩, hf, hs, hc, ht, hi⟩ := I
  unfold f_X6_seed f_X7_seed
  simp only [nm_s]
  exact sim_i ⟨hd, Inv_range hs hf hc ht hi (Nat.le_refl _) hB (SmK_slot (by omega) (by omega) (by omega)) ⟨⟨h.c0, h.c1, h.cs, h.cv, h.cy⟩, h.2⟩ ⟨⟨m.c0, m.cs, m.cv, m.cy⟩, m.2⟩ w rfl (Nat.le_refl _)⟩
end SA
