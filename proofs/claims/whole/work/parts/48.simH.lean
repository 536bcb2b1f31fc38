-- both sides: told takings, fits
theorem z_neg : ∀ c, c < 8 → 0 < c → (nI 0 ≤ -nI c) = False := fun c h1 h2 => eq_false ((by decide : ∀ c, c < 8 → 0 < c → ¬ (nI 0 ≤ -nI c)) c h1 h2)
theorem z_neg6 : ∀ c, c < 6 → (-nI c ≤ -nI 6) = False := fun c h1 => eq_false ((by decide : ∀ c, c < 6 → ¬ (-nI c ≤ -nI 6)) c h1)
theorem z_66 : (-nI 6 ≤ -nI 6) = True := eq_true (by decide)
theorem isYr_in (x : Int32) : isYr x = inR x 101 199 := rfl
section TK1
variable {B P : Nat} {g : AG} {so r0 r1 r2 : GS} {rw : Nat → GS} {re : Nat → Nat → Int64} {sv sm s : GS} {sq : Nat → Int64}
theorem tak_c (hs : Shs so rw re sm sq P) (hP : P ≤ 10) (x1 x2 : Int32) :
    (∃ c, (c < 6 ∧ 0 < c) ∧ (∀ t, f_X6_takingsRefusal so rw x1 x2 t = some (nI c)) ∧ f_X7_noTakings sm x1 x2 = some (-nI c)) ∨
    (∃ i k L n, (x1 = nI i ∧ x2 = nI n) ∧ RwF so rw re sm sq i k L ∧ n ≤ L ∧ f_X6_takingsRefusal so rw x1 x2 (nI 0) = some (nI 5) ∧ ((20 < n ∧ f_X6_takingsRefusal so rw x1 x2 (nI 1) = some (nI 6) ∧ f_X7_noTakings sm x1 x2 = some (-nI 6)) ∨ (n ≤ 20 ∧ f_X6_takingsRefusal so rw x1 x2 (nI 1) = some (nI 0) ∧ f_X7_noTakings sm x1 x2 = some (nI 0)))) := by
  unfold f_X6_takingsRefusal f_X7_noTakings
  rcases noRow_c hs hP x1 with ⟨a1, a2⟩ | ⟨a1, a2⟩ | ⟨a1, a2⟩ | ⟨i, k, L, rfl, a1, a2, hR⟩
  · refine Or.inl ⟨1, by omega, fun t => ?_, ?_⟩
    · simp (disch := omega) only [nm_s, bd_s, bd2_s, bd3_s, bd4_s, q_gt, q_inB, ↓q_m1, l_166, l_172, l_180, l_188, l_189, l_190, l_191, l_192, l_14, l_17, l_18, l_0, l_1, l_2, l_3, l_4, l_5, l_6, l_7, l_8, l_9, l_10, l_11, l_12, l_20, l_21, l_30, l_31, l_32, l_40, l_48, l_50, l_51, l_57, l_60, l_70, l_71, l_99, l_100, l_101, l_160, l_199, l_200, l_999, l_1000, q_tn, q_add, q_mul, q_sub, q_le, q_lt, q_eq, q_31, n_and, n_or, n_xor, q_shl, q_z, q_b0, q_b1, q_bz, q_em, q_me, q_mm, q_lm, q_ml, q_mle, q_lem, s2_eq, s2_ne, pk_us, pk_un, uN_s, uN_n, if_pos, if_neg, ite_true, ite_false, if_true, if_false, not_true, not_false_iff, Nat.add_zero, Nat.zero_add, inR_t, isIx_t, bI_t, bI_f, neg1, q_clr, a1]
    · simp (disch := omega) only [nm_s, bd_s, bd2_s, bd3_s, bd4_s, q_gt, q_inB, ↓q_m1, l_166, l_172, l_180, l_188, l_189, l_190, l_191, l_192, l_14, l_17, l_18, l_0, l_1, l_2, l_3, l_4, l_5, l_6, l_7, l_8, l_9, l_10, l_11, l_12, l_20, l_21, l_30, l_31, l_32, l_40, l_48, l_50, l_51, l_57, l_60, l_70, l_71, l_99, l_100, l_101, l_160, l_199, l_200, l_999, l_1000, q_tn, q_add, q_mul, q_sub, q_le, q_lt, q_eq, q_31, n_and, n_or, n_xor, q_shl, q_z, q_b0, q_b1, q_bz, q_em, q_me, q_mm, q_lm, q_ml, q_mle, q_lem, s2_eq, s2_ne, pk_us, pk_un, uN_s, uN_n, if_pos, if_neg, ite_true, ite_false, if_true, if_false, not_true, not_false_iff, Nat.add_zero, Nat.zero_add, inR_t, isIx_t, bI_t, bI_f, neg1, q_clr, a2]
  · refine Or.inl ⟨2, by omega, fun t => ?_, ?_⟩
    · simp (disch := omega) only [nm_s, bd_s, bd2_s, bd3_s, bd4_s, q_gt, q_inB, ↓q_m1, l_166, l_172, l_180, l_188, l_189, l_190, l_191, l_192, l_14, l_17, l_18, l_0, l_1, l_2, l_3, l_4, l_5, l_6, l_7, l_8, l_9, l_10, l_11, l_12, l_20, l_21, l_30, l_31, l_32, l_40, l_48, l_50, l_51, l_57, l_60, l_70, l_71, l_99, l_100, l_101, l_160, l_199, l_200, l_999, l_1000, q_tn, q_add, q_mul, q_sub, q_le, q_lt, q_eq, q_31, n_and, n_or, n_xor, q_shl, q_z, q_b0, q_b1, q_bz, q_em, q_me, q_mm, q_lm, q_ml, q_mle, q_lem, s2_eq, s2_ne, pk_us, pk_un, uN_s, uN_n, if_pos, if_neg, ite_true, ite_false, if_true, if_false, not_true, not_false_iff, Nat.add_zero, Nat.zero_add, inR_t, isIx_t, bI_t, bI_f, neg1, q_clr, a1]
    · simp (disch := omega) only [nm_s, bd_s, bd2_s, bd3_s, bd4_s, q_gt, q_inB, ↓q_m1, l_166, l_172, l_180, l_188, l_189, l_190, l_191, l_192, l_14, l_17, l_18, l_0, l_1, l_2, l_3, l_4, l_5, l_6, l_7, l_8, l_9, l_10, l_11, l_12, l_20, l_21, l_30, l_31, l_32, l_40, l_48, l_50, l_51, l_57, l_60, l_70, l_71, l_99, l_100, l_101, l_160, l_199, l_200, l_999, l_1000, q_tn, q_add, q_mul, q_sub, q_le, q_lt, q_eq, q_31, n_and, n_or, n_xor, q_shl, q_z, q_b0, q_b1, q_bz, q_em, q_me, q_mm, q_lm, q_ml, q_mle, q_lem, s2_eq, s2_ne, pk_us, pk_un, uN_s, uN_n, if_pos, if_neg, ite_true, ite_false, if_true, if_false, not_true, not_false_iff, Nat.add_zero, Nat.zero_add, inR_t, isIx_t, bI_t, bI_f, neg1, q_clr, a2, z_n2]
  · refine Or.inl ⟨3, by omega, fun t => ?_, ?_⟩
    · simp (disch := omega) only [nm_s, bd_s, bd2_s, bd3_s, bd4_s, q_gt, q_inB, ↓q_m1, l_166, l_172, l_180, l_188, l_189, l_190, l_191, l_192, l_14, l_17, l_18, l_0, l_1, l_2, l_3, l_4, l_5, l_6, l_7, l_8, l_9, l_10, l_11, l_12, l_20, l_21, l_30, l_31, l_32, l_40, l_48, l_50, l_51, l_57, l_60, l_70, l_71, l_99, l_100, l_101, l_160, l_199, l_200, l_999, l_1000, q_tn, q_add, q_mul, q_sub, q_le, q_lt, q_eq, q_31, n_and, n_or, n_xor, q_shl, q_z, q_b0, q_b1, q_bz, q_em, q_me, q_mm, q_lm, q_ml, q_mle, q_lem, s2_eq, s2_ne, pk_us, pk_un, uN_s, uN_n, if_pos, if_neg, ite_true, ite_false, if_true, if_false, not_true, not_false_iff, Nat.add_zero, Nat.zero_add, inR_t, isIx_t, bI_t, bI_f, neg1, q_clr, a1]
    · simp (disch := omega) only [nm_s, bd_s, bd2_s, bd3_s, bd4_s, q_gt, q_inB, ↓q_m1, l_166, l_172, l_180, l_188, l_189, l_190, l_191, l_192, l_14, l_17, l_18, l_0, l_1, l_2, l_3, l_4, l_5, l_6, l_7, l_8, l_9, l_10, l_11, l_12, l_20, l_21, l_30, l_31, l_32, l_40, l_48, l_50, l_51, l_57, l_60, l_70, l_71, l_99, l_100, l_101, l_160, l_199, l_200, l_999, l_1000, q_tn, q_add, q_mul, q_sub, q_le, q_lt, q_eq, q_31, n_and, n_or, n_xor, q_shl, q_z, q_b0, q_b1, q_bz, q_em, q_me, q_mm, q_lm, q_ml, q_mle, q_lem, s2_eq, s2_ne, pk_us, pk_un, uN_s, uN_n, if_pos, if_neg, ite_true, ite_false, if_true, if_false, not_true, not_false_iff, Nat.add_zero, Nat.zero_add, inR_t, isIx_t, bI_t, bI_f, neg1, q_clr, a2, z_n3]
  · obtain ⟨⟨hi8, hk, hL⟩, ⟨c1, c2⟩, ⟨c3, c4, c5⟩, c6⟩ := hR
    by_cases n0 : x2 < nI 0
    · have n1 : ¬ nI 0 ≤ x2 := Int32.not_le.mpr n0
      refine Or.inl ⟨4, by omega, fun t => ?_, ?_⟩
      · simp (disch := omega) only [nm_s, bd_s, bd2_s, bd3_s, bd4_s, q_gt, q_inB, ↓q_m1, l_166, l_172, l_180, l_188, l_189, l_190, l_191, l_192, l_14, l_17, l_18, l_0, l_1, l_2, l_3, l_4, l_5, l_6, l_7, l_8, l_9, l_10, l_11, l_12, l_20, l_21, l_30, l_31, l_32, l_40, l_48, l_50, l_51, l_57, l_60, l_70, l_71, l_99, l_100, l_101, l_160, l_199, l_200, l_999, l_1000, q_tn, q_add, q_mul, q_sub, q_le, q_lt, q_eq, q_31, n_and, n_or, n_xor, q_shl, q_z, q_b0, q_b1, q_bz, q_em, q_me, q_mm, q_lm, q_ml, q_mle, q_lem, s2_eq, s2_ne, pk_us, pk_un, uN_s, uN_n, if_pos, if_neg, ite_true, ite_false, if_true, if_false, not_true, not_false_iff, Nat.add_zero, Nat.zero_add, inR_t, isIx_t, bI_t, bI_f, neg1, q_clr, a1, n1]
      · simp (disch := omega) only [nm_s, bd_s, bd2_s, bd3_s, bd4_s, q_gt, q_inB, ↓q_m1, l_166, l_172, l_180, l_188, l_189, l_190, l_191, l_192, l_14, l_17, l_18, l_0, l_1, l_2, l_3, l_4, l_5, l_6, l_7, l_8, l_9, l_10, l_11, l_12, l_20, l_21, l_30, l_31, l_32, l_40, l_48, l_50, l_51, l_57, l_60, l_70, l_71, l_99, l_100, l_101, l_160, l_199, l_200, l_999, l_1000, q_tn, q_add, q_mul, q_sub, q_le, q_lt, q_eq, q_31, n_and, n_or, n_xor, q_shl, q_z, q_b0, q_b1, q_bz, q_em, q_me, q_mm, q_lm, q_ml, q_mle, q_lem, s2_eq, s2_ne, pk_us, pk_un, uN_s, uN_n, if_pos, if_neg, ite_true, ite_false, if_true, if_false, not_true, not_false_iff, Nat.add_zero, Nat.zero_add, inR_t, isIx_t, bI_t, bI_f, neg1, q_clr, a2, n1]
    · obtain ⟨n, hn, rfl⟩ := nn_of n0
      by_cases hnL : n ≤ L
      · refine Or.inr ⟨i, k, L, n, ⟨rfl, rfl⟩, ⟨⟨hi8, hk, hL⟩, ⟨c1, c2⟩, ⟨c3, c4, c5⟩, c6⟩, hnL, ?_, ?_⟩
        · simp (disch := omega) only [nm_s, bd_s, bd2_s, bd3_s, bd4_s, q_gt, q_inB, ↓q_m1, l_166, l_172, l_180, l_188, l_189, l_190, l_191, l_192, l_14, l_17, l_18, l_0, l_1, l_2, l_3, l_4, l_5, l_6, l_7, l_8, l_9, l_10, l_11, l_12, l_20, l_21, l_30, l_31, l_32, l_40, l_48, l_50, l_51, l_57, l_60, l_70, l_71, l_99, l_100, l_101, l_160, l_199, l_200, l_999, l_1000, q_tn, q_add, q_mul, q_sub, q_le, q_lt, q_eq, q_31, n_and, n_or, n_xor, q_shl, q_z, q_b0, q_b1, q_bz, q_em, q_me, q_mm, q_lm, q_ml, q_mle, q_lem, s2_eq, s2_ne, pk_us, pk_un, uN_s, uN_n, if_pos, if_neg, ite_true, ite_false, if_true, if_false, not_true, not_false_iff, Nat.add_zero, Nat.zero_add, inR_t, isIx_t, bI_t, bI_f, neg1, q_clr, a1, c4]
        · by_cases h20 : n ≤ 20
          · refine Or.inr ⟨h20, ?_, ?_⟩
            · simp (disch := omega) only [nm_s, bd_s, bd2_s, bd3_s, bd4_s, q_gt, q_inB, ↓q_m1, l_166, l_172, l_180, l_188, l_189, l_190, l_191, l_192, l_14, l_17, l_18, l_0, l_1, l_2, l_3, l_4, l_5, l_6, l_7, l_8, l_9, l_10, l_11, l_12, l_20, l_21, l_30, l_31, l_32, l_40, l_48, l_50, l_51, l_57, l_60, l_70, l_71, l_99, l_100, l_101, l_160, l_199, l_200, l_999, l_1000, q_tn, q_add, q_mul, q_sub, q_le, q_lt, q_eq, q_31, n_and, n_or, n_xor, q_shl, q_z, q_b0, q_b1, q_bz, q_em, q_me, q_mm, q_lm, q_ml, q_mle, q_lem, s2_eq, s2_ne, pk_us, pk_un, uN_s, uN_n, if_pos, if_neg, ite_true, ite_false, if_true, if_false, not_true, not_false_iff, Nat.add_zero, Nat.zero_add, inR_t, isIx_t, bI_t, bI_f, neg1, q_clr, a1, c4]
            · simp (disch := omega) only [nm_s, bd_s, bd2_s, bd3_s, bd4_s, q_gt, q_inB, ↓q_m1, l_166, l_172, l_180, l_188, l_189, l_190, l_191, l_192, l_14, l_17, l_18, l_0, l_1, l_2, l_3, l_4, l_5, l_6, l_7, l_8, l_9, l_10, l_11, l_12, l_20, l_21, l_30, l_31, l_32, l_40, l_48, l_50, l_51, l_57, l_60, l_70, l_71, l_99, l_100, l_101, l_160, l_199, l_200, l_999, l_1000, q_tn, q_add, q_mul, q_sub, q_le, q_lt, q_eq, q_31, n_and, n_or, n_xor, q_shl, q_z, q_b0, q_b1, q_bz, q_em, q_me, q_mm, q_lm, q_ml, q_mle, q_lem, s2_eq, s2_ne, pk_us, pk_un, uN_s, uN_n, if_pos, if_neg, ite_true, ite_false, if_true, if_false, not_true, not_false_iff, Nat.add_zero, Nat.zero_add, inR_t, isIx_t, bI_t, bI_f, neg1, q_clr, a2, c5]
          · refine Or.inl ⟨by omega, ?_, ?_⟩
            · simp (disch := omega) only [nm_s, bd_s, bd2_s, bd3_s, bd4_s, q_gt, q_inB, ↓q_m1, l_166, l_172, l_180, l_188, l_189, l_190, l_191, l_192, l_14, l_17, l_18, l_0, l_1, l_2, l_3, l_4, l_5, l_6, l_7, l_8, l_9, l_10, l_11, l_12, l_20, l_21, l_30, l_31, l_32, l_40, l_48, l_50, l_51, l_57, l_60, l_70, l_71, l_99, l_100, l_101, l_160, l_199, l_200, l_999, l_1000, q_tn, q_add, q_mul, q_sub, q_le, q_lt, q_eq, q_31, n_and, n_or, n_xor, q_shl, q_z, q_b0, q_b1, q_bz, q_em, q_me, q_mm, q_lm, q_ml, q_mle, q_lem, s2_eq, s2_ne, pk_us, pk_un, uN_s, uN_n, if_pos, if_neg, ite_true, ite_false, if_true, if_false, not_true, not_false_iff, Nat.add_zero, Nat.zero_add, inR_t, isIx_t, bI_t, bI_f, neg1, q_clr, a1, c4]
            · simp (disch := omega) only [nm_s, bd_s, bd2_s, bd3_s, bd4_s, q_gt, q_inB, ↓q_m1, l_166, l_172, l_180, l_188, l_189, l_190, l_191, l_192, l_14, l_17, l_18, l_0, l_1, l_2, l_3, l_4, l_5, l_6, l_7, l_8, l_9, l_10, l_11, l_12, l_20, l_21, l_30, l_31, l_32, l_40, l_48, l_50, l_51, l_57, l_60, l_70, l_71, l_99, l_100, l_101, l_160, l_199, l_200, l_999, l_1000, q_tn, q_add, q_mul, q_sub, q_le, q_lt, q_eq, q_31, n_and, n_or, n_xor, q_shl, q_z, q_b0, q_b1, q_bz, q_em, q_me, q_mm, q_lm, q_ml, q_mle, q_lem, s2_eq, s2_ne, pk_us, pk_un, uN_s, uN_n, if_pos, if_neg, ite_true, ite_false, if_true, if_false, not_true, not_false_iff, Nat.add_zero, Nat.zero_add, inR_t, isIx_t, bI_t, bI_f, neg1, q_clr, a2, c5]
      · refine Or.inl ⟨5, by omega, fun t => ?_, ?_⟩
        · simp (disch := omega) only [nm_s, bd_s, bd2_s, bd3_s, bd4_s, q_gt, q_inB, ↓q_m1, l_166, l_172, l_180, l_188, l_189, l_190, l_191, l_192, l_14, l_17, l_18, l_0, l_1, l_2, l_3, l_4, l_5, l_6, l_7, l_8, l_9, l_10, l_11, l_12, l_20, l_21, l_30, l_31, l_32, l_40, l_48, l_50, l_51, l_57, l_60, l_70, l_71, l_99, l_100, l_101, l_160, l_199, l_200, l_999, l_1000, q_tn, q_add, q_mul, q_sub, q_le, q_lt, q_eq, q_31, n_and, n_or, n_xor, q_shl, q_z, q_b0, q_b1, q_bz, q_em, q_me, q_mm, q_lm, q_ml, q_mle, q_lem, s2_eq, s2_ne, pk_us, pk_un, uN_s, uN_n, if_pos, if_neg, ite_true, ite_false, if_true, if_false, not_true, not_false_iff, Nat.add_zero, Nat.zero_add, inR_t, isIx_t, bI_t, bI_f, neg1, q_clr, a1, c4]
        · simp (disch := omega) only [nm_s, bd_s, bd2_s, bd3_s, bd4_s, q_gt, q_inB, ↓q_m1, l_166, l_172, l_180, l_188, l_189, l_190, l_191, l_192, l_14, l_17, l_18, l_0, l_1, l_2, l_3, l_4, l_5, l_6, l_7, l_8, l_9, l_10, l_11, l_12, l_20, l_21, l_30, l_31, l_32, l_40, l_48, l_50, l_51, l_57, l_60, l_70, l_71, l_99, l_100, l_101, l_160, l_199, l_200, l_999, l_1000, q_tn, q_add, q_mul, q_sub, q_le, q_lt, q_eq, q_31, n_and, n_or, n_xor, q_shl, q_z, q_b0, q_b1, q_bz, q_em, q_me, q_mm, q_lm, q_ml, q_mle, q_lem, s2_eq, s2_ne, pk_us, pk_un, uN_s, uN_n, if_pos, if_neg, ite_true, ite_false, if_true, if_false, not_true, not_false_iff, Nat.add_zero, Nat.zero_add, inR_t, isIx_t, bI_t, bI_f, neg1, q_clr, a2, c5]
theorem isSt_y {x : Int32} (h : isSt g x = true) (w : WfN B g) : isYr x = false := by
  obtain ⟨p, hp, _, rfl⟩ := isSt_of w h
  have hP := w.1.1
  rw [isYr_n (by omega), decide_eq_false (by omega)]
theorem isSt_peak {x : Int32} (w : WfN B g) (h : isSt g x = false) : isIx x (aP g) = false ∨ ∃ p, p < aP g ∧ x = nI p ∧ stB g p = false := by
  have hP := w.1.1
  rcases ixl x (aP g) (by omega) with p0 | ⟨p, hp, rfl, p1⟩
  · exact Or.inl p0
  · rw [isSt_n w (by omega)] at h
    exact Or.inr ⟨p, hp, rfl, h⟩
theorem isYr_no {x : Int32} (h : isYr x = false) : x ≤ nI 100 ∨ (¬ x ≤ nI 100 ∧ ¬ x ≤ nI 199) := by
  by_cases h1 : x ≤ nI 100
  · exact Or.inl h1
  · refine Or.inr ⟨h1, fun h2 => ?_⟩
    have h3 : ¬ x < nI 101 := by
      have := Int32.not_le.mp h1
      rw [n_lt_s (by omega)] at this
      exact this
    have h4 : ¬ nI 199 < x := Int32.not_lt.mpr h2
    have h5 : isYr x = true := by
      unfold isYr
      rw [decide_eq_true (show ¬ x < 101 from h3), decide_eq_true (show ¬ (199 : Int32) < x from h4)]
      rfl
    rw [h5] at h; cases h
theorem pR_firstWrong_L11 {L : Nat} {g0 : AG} {i0 : Nat} (h : RepR g0 r0) (hr : RowR L (re i0) (rw i0) (re i0)) : ∀ (m k i s : Nat) (g : AG) (B : Nat), aP g = aP g0 → Wf B g → k < m → i + k ≤ L → B + 99 * k ≤ 20000000 → f_X6_firstWrong_L11 r0 rw re i0 (nI (i + k)) m (nI (aW g)) (nI i) = some (selI (livA (fun i => (re i0 i).toInt32) k i s g).1)
  | 0, k, i, s, g, B, _, _, h2, _, _ => by omega
  | m + 1, 0, i, s, g, B, h0, w, h2, h3, h4 => by
    have hL := hr.2.1
    rw [f_X6_firstWrong_L11.eq_2]
    simp (disch := omega) only [nm_s, bd_s, bd2_s, bd3_s, bd4_s, q_gt, q_inB, ↓q_m1, l_166, l_172, l_180, l_188, l_189, l_190, l_191, l_192, l_14, l_17, l_18, l_0, l_1, l_2, l_3, l_4, l_5, l_6, l_7, l_8, l_9, l_10, l_11, l_12, l_20, l_21, l_30, l_31, l_32, l_40, l_48, l_50, l_51, l_57, l_60, l_70, l_71, l_99, l_100, l_101, l_160, l_199, l_200, l_999, l_1000, q_tn, q_add, q_mul, q_sub, q_le, q_lt, q_eq, q_31, n_and, n_or, n_xor, q_shl, q_z, q_b0, q_b1, q_bz, q_em, q_me, q_mm, q_lm, q_ml, q_mle, q_lem, s2_eq, s2_ne, pk_us, pk_un, uN_s, uN_n, if_pos, if_neg, ite_true, ite_false, if_true, if_false, not_true, not_false_iff, Nat.add_zero, Nat.zero_add, inR_t, isIx_t, bI_t, bI_f, neg1, q_clr]
    rfl
  | m + 1, k + 1, i, s, g, B, h0, w, h2, h3, h4 => by
    have hL := hr.2.1
    have hP := w.1.1.1
    have hy := w.1.1.2.2.2.1
    have hT := pW_intN hr (i := i) (by omega)
    have hpk : ∀ x, f_X3_isPeak r0 x = some (bI (isIx x (aP g))) := fun x => by rw [h0]; exact pR_isPeak h x
    have w2 := Wf.mono w.1 (show B ≤ B + 99 by omega) (by omega)
    rw [f_X6_firstWrong_L11.eq_2]
    unfold livA
    cases hst : isSt g ((re i0 i).toInt32) with
    | true =>
      rw [isSt_y hst w.1, if_neg ffl, if_pos rfl]
      obtain ⟨p, hp, hsp, e⟩ := isSt_of w.1 hst
      rw [e, n_tn (by omega)]
      rw [e] at hT
      have ih := pR_firstWrong_L11 h hr m k (i + 1) (s + griefA g p (aY g)) (loseA g p) (B + 99) h0 (loseA_wf w2 hp) (by omega) (by omega) (by omega)
      rw [show i + 1 + k = i + (k + 1) by omega] at ih
      have ih2 : f_X6_firstWrong_L11 r0 rw re i0 (nI (i + (k + 1))) m (nI (clr (aW g) (2 ^ p))) (nI (i + 1)) = _ := ih
      have hb := p_bit (w := aW g) (i := p) (by have := Wf.wlt w.1; omega) (by omega)
      have hsp2 : (aW g).testBit p = true := hsp
      rw [hsp2] at hb
      simp (disch := omega) only [nm_s, bd_s, bd2_s, bd3_s, bd4_s, q_gt, q_inB, ↓q_m1, l_166, l_172, l_180, l_188, l_189, l_190, l_191, l_192, l_14, l_17, l_18, l_0, l_1, l_2, l_3, l_4, l_5, l_6, l_7, l_8, l_9, l_10, l_11, l_12, l_20, l_21, l_30, l_31, l_32, l_40, l_48, l_50, l_51, l_57, l_60, l_70, l_71, l_99, l_100, l_101, l_160, l_199, l_200, l_999, l_1000, q_tn, q_add, q_mul, q_sub, q_le, q_lt, q_eq, q_31, n_and, n_or, n_xor, q_shl, q_z, q_b0, q_b1, q_bz, q_em, q_me, q_mm, q_lm, q_ml, q_mle, q_lem, s2_eq, s2_ne, pk_us, pk_un, uN_s, uN_n, if_pos, if_neg, ite_true, ite_false, if_true, if_false, not_true, not_false_iff, Nat.add_zero, Nat.zero_add, inR_t, isIx_t, bI_t, bI_f, neg1, q_clr, hT, hpk, hb]
      exact ih2
    | false =>
      cases hyr : isYr ((re i0 i).toInt32) with
      | true =>
        rw [if_pos rfl]
        obtain ⟨v, hv, e⟩ := isYr_of hyr
        rw [e, n_tn (by omega)]
        rw [e] at hT
        have ih := pR_firstWrong_L11 h hr m k (i + 1) s (setY g (aY g + (v - 100))) (B + 99) h0 ⟨setY_wf w2 (by omega) (by omega), setY_v w.2⟩ (by omega) (by omega) (by omega)
        rw [show i + 1 + k = i + (k + 1) by omega] at ih
        have ih2 : f_X6_firstWrong_L11 r0 rw re i0 (nI (i + (k + 1))) m (nI (aW g)) (nI (i + 1)) = _ := ih
        have hno : isIx (nI v) (aP g) = false := by rw [isIx_n (by omega) (by omega), decide_eq_false (by omega)]
        simp (disch := omega) only [nm_s, bd_s, bd2_s, bd3_s, bd4_s, q_gt, q_inB, ↓q_m1, l_166, l_172, l_180, l_188, l_189, l_190, l_191, l_192, l_14, l_17, l_18, l_0, l_1, l_2, l_3, l_4, l_5, l_6, l_7, l_8, l_9, l_10, l_11, l_12, l_20, l_21, l_30, l_31, l_32, l_40, l_48, l_50, l_51, l_57, l_60, l_70, l_71, l_99, l_100, l_101, l_160, l_199, l_200, l_999, l_1000, q_tn, q_add, q_mul, q_sub, q_le, q_lt, q_eq, q_31, n_and, n_or, n_xor, q_shl, q_z, q_b0, q_b1, q_bz, q_em, q_me, q_mm, q_lm, q_ml, q_mle, q_lem, s2_eq, s2_ne, pk_us, pk_un, uN_s, uN_n, if_pos, if_neg, ite_true, ite_false, if_true, if_false, not_true, not_false_iff, Nat.add_zero, Nat.zero_add, inR_t, isIx_t, bI_t, bI_f, neg1, q_clr, hT, hpk, hno, f_X6_firstWrong_J59]
        exact ih2
      | false =>
        rw [if_neg ffl, if_neg ffl]
        have h59 : ∀ K, f_X6_firstWrong_J59 (nI (aW g)) (nI i) ((re i0 i).toInt32) K = some (nI i) := fun K => by
          unfold f_X6_firstWrong_J59
          rcases isYr_no hyr with a | ⟨a, b⟩
          · exact if_pos a
          · exact (if_neg a).trans (if_neg b)
        rcases isSt_peak w.1 hst with hno | ⟨p, hp, e, hsp⟩
        · simp (disch := omega) only [nm_s, bd_s, bd2_s, bd3_s, bd4_s, q_gt, q_inB, ↓q_m1, l_166, l_172, l_180, l_188, l_189, l_190, l_191, l_192, l_14, l_17, l_18, l_0, l_1, l_2, l_3, l_4, l_5, l_6, l_7, l_8, l_9, l_10, l_11, l_12, l_20, l_21, l_30, l_31, l_32, l_40, l_48, l_50, l_51, l_57, l_60, l_70, l_71, l_99, l_100, l_101, l_160, l_199, l_200, l_999, l_1000, q_tn, q_add, q_mul, q_sub, q_le, q_lt, q_eq, q_31, n_and, n_or, n_xor, q_shl, q_z, q_b0, q_b1, q_bz, q_em, q_me, q_mm, q_lm, q_ml, q_mle, q_lem, s2_eq, s2_ne, pk_us, pk_un, uN_s, uN_n, if_pos, if_neg, ite_true, ite_false, if_true, if_false, not_true, not_false_iff, Nat.add_zero, Nat.zero_add, inR_t, isIx_t, bI_t, bI_f, neg1, q_clr, hT, hpk, hno, h59]
          rfl
        · rw [e] at hT h59
          have hb := p_bit (w := aW g) (i := p) (by have := Wf.wlt w.1; omega) (by omega)
          have hsp2 : (aW g).testBit p = false := hsp
          rw [hsp2] at hb
          simp (disch := omega) only [nm_s, bd_s, bd2_s, bd3_s, bd4_s, q_gt, q_inB, ↓q_m1, l_166, l_172, l_180, l_188, l_189, l_190, l_191, l_192, l_14, l_17, l_18, l_0, l_1, l_2, l_3, l_4, l_5, l_6, l_7, l_8, l_9, l_10, l_11, l_12, l_20, l_21, l_30, l_31, l_32, l_40, l_48, l_50, l_51, l_57, l_60, l_70, l_71, l_99, l_100, l_101, l_160, l_199, l_200, l_999, l_1000, q_tn, q_add, q_mul, q_sub, q_le, q_lt, q_eq, q_31, n_and, n_or, n_xor, q_shl, q_z, q_b0, q_b1, q_bz, q_em, q_me, q_mm, q_lm, q_ml, q_mle, q_lem, s2_eq, s2_ne, pk_us, pk_un, uN_s, uN_n, if_pos, if_neg, ite_true, ite_false, if_true, if_false, not_true, not_false_iff, Nat.add_zero, Nat.zero_add, inR_t, isIx_t, bI_t, bI_f, neg1, q_clr, hT, hpk, hb, h59]
          rfl
theorem pM_told {i j : Nat} (hi : i < 8) (hj : j < 160) : f_X7_told sq (nI i) (nI j) = some ((sq (160 * i + j)).toInt32) := by
  unfold f_X7_told
  simp (disch := omega) only [nm_s, bd_s, bd2_s, bd3_s, bd4_s, q_gt, q_inB, ↓q_m1, l_166, l_172, l_180, l_188, l_189, l_190, l_191, l_192, l_14, l_17, l_18, l_0, l_1, l_2, l_3, l_4, l_5, l_6, l_7, l_8, l_9, l_10, l_11, l_12, l_20, l_21, l_30, l_31, l_32, l_40, l_48, l_50, l_51, l_57, l_60, l_70, l_71, l_99, l_100, l_101, l_160, l_199, l_200, l_999, l_1000, q_tn, q_add, q_mul, q_sub, q_le, q_lt, q_eq, q_31, n_and, n_or, n_xor, q_shl, q_z, q_b0, q_b1, q_bz, q_em, q_me, q_mm, q_lm, q_ml, q_mle, q_lem, s2_eq, s2_ne, pk_us, pk_un, uN_s, uN_n, if_pos, if_neg, ite_true, ite_false, if_true, if_false, not_true, not_false_iff, Nat.add_zero, Nat.zero_add, inR_t, isIx_t, bI_t, bI_f, neg1, q_clr]
theorem pM_lived_L7 {L i0 : Nat} (h8 : i0 < 8) (hL : L ≤ 160) (hq : ∀ j, j < L → re i0 j = sq (160 * i0 + j)) : ∀ (m k i s : Nat) (g : AG) (B : Nat) (t : GS), RepM g t → Wf B g → k < m → i + k ≤ L → B + 99 * k ≤ 20000000 → t 0 34 = nI s → ∃ z, f_X7_lived_L7 sq (nI i0) (nI (i + k)) m (nI i) t = some z ∧ (z.1 = selI (livA (fun i => (re i0 i).toInt32) k i s g).1 ∧ RepM (livA (fun i => (re i0 i).toInt32) k i s g).2.2 z.2 ∧ z.2 0 34 = nI (livA (fun i => (re i0 i).toInt32) k i s g).2.1) ∧ (SmK t z.2 ∧ z.2 0 18 = t 0 18 ∧ z.2 27 = t 27)
  | 0, k, i, s, g, B, t, _, _, h2, _, _, _ => by omega
  | m + 1, 0, i, s, g, B, t, h, w, h2, h3, h4, h5 => by
    rw [f_X7_lived_L7.eq_2]
    simp (disch := omega) only [nm_s, bd_s, bd2_s, bd3_s, bd4_s, q_gt, q_inB, ↓q_m1, l_166, l_172, l_180, l_188, l_189, l_190, l_191, l_192, l_14, l_17, l_18, l_0, l_1, l_2, l_3, l_4, l_5, l_6, l_7, l_8, l_9, l_10, l_11, l_12, l_20, l_21, l_30, l_31, l_32, l_40, l_48, l_50, l_51, l_57, l_60, l_70, l_71, l_99, l_100, l_101, l_160, l_199, l_200, l_999, l_1000, q_tn, q_add, q_mul, q_sub, q_le, q_lt, q_eq, q_31, n_and, n_or, n_xor, q_shl, q_z, q_b0, q_b1, q_bz, q_em, q_me, q_mm, q_lm, q_ml, q_mle, q_lem, s2_eq, s2_ne, pk_us, pk_un, uN_s, uN_n, if_pos, if_neg, ite_true, ite_false, if_true, if_false, not_true, not_false_iff, Nat.add_zero, Nat.zero_add, inR_t, isIx_t, bI_t, bI_f, neg1, q_clr]
    exact ⟨_, rfl, ⟨rfl, h, h5⟩, SmK_rfl _, rfl, rfl⟩
  | m + 1, k + 1, i, s, g, B, t, h, w, h2, h3, h4, h5 => by
    have hP := w.1.1.1
    have hy := w.1.1.2.2.2.1
    have hT := pM_told (sq := sq) h8 (show i < 160 by omega)
    rw [← hq i (by omega)] at hT
    have w2 := Wf.mono w.1 (show B ≤ B + 99 by omega) (by omega)
    rw [f_X7_lived_L7.eq_2]
    unfold livA
    cases hyr : isYr ((re i0 i).toInt32) with
    | true =>
      rw [if_pos rfl]
      obtain ⟨v, hv, e⟩ := isYr_of hyr
      rw [e, n_tn (by omega)]
      rw [e] at hT
      have ih := pM_lived_L7 h8 hL hq m k (i + 1) s (setY g (aY g + (v - 100))) (B + 99) (s2 t 0 (upd (t 0) 17 (nI (aY g + (v - 100))))) (pM_setY h) ⟨setY_wf w2 (by omega) (by omega), setY_v w.2⟩ (by omega) (by omega) (by omega) h5
      rw [show i + 1 + k = i + (k + 1) by omega] at ih
      obtain ⟨z, e1, e2, e3, e4, e5⟩ := ih
      simp (disch := omega) only [nm_s, bd_s, bd2_s, bd3_s, bd4_s, q_gt, q_inB, ↓q_m1, l_166, l_172, l_180, l_188, l_189, l_190, l_191, l_192, l_14, l_17, l_18, l_0, l_1, l_2, l_3, l_4, l_5, l_6, l_7, l_8, l_9, l_10, l_11, l_12, l_20, l_21, l_30, l_31, l_32, l_40, l_48, l_50, l_51, l_57, l_60, l_70, l_71, l_99, l_100, l_101, l_160, l_199, l_200, l_999, l_1000, q_tn, q_add, q_mul, q_sub, q_le, q_lt, q_eq, q_31, n_and, n_or, n_xor, q_shl, q_z, q_b0, q_b1, q_bz, q_em, q_me, q_mm, q_lm, q_ml, q_mle, q_lem, s2_eq, s2_ne, pk_us, pk_un, uN_s, uN_n, if_pos, if_neg, ite_true, ite_false, if_true, if_false, not_true, not_false_iff, Nat.add_zero, Nat.zero_add, inR_t, isIx_t, bI_t, bI_f, neg1, q_clr, hT, pM_within, h.cy]
      exact ⟨z, e1, e2, SmK_trans (SmK_slot (by omega) (by omega) (by omega)) e3, e4, e5⟩
    | false =>
      have hw : f_X7_within ((re i0 i).toInt32) (nI 101) (nI 199) = some (bI false) := by
        rw [pM_within, ← isYr_in, hyr]
      rw [if_neg ffl]
      cases hst : isSt g ((re i0 i).toInt32) with
      | true =>
        rw [if_pos rfl]
        obtain ⟨p, hp, hsp, e⟩ := isSt_of w.1 hst
        rw [e] at hT hw
        rw [e, n_tn (by omega)]
        obtain ⟨⟨v, t'⟩, d1, d2, d3, d4⟩ := pM_loses h w hp hsp
        dsimp only at d2 d3 d4
        subst d2
        have h34 : t' 0 34 = nI s := (d4.2 34 rfl).trans h5
        have k' : SmK t (s2 t' 0 (upd (t' 0) 34 (nI (s + griefA g p (aY g))))) := SmK_trans (SmK_fr d4) (SmK_slot (by omega) (by omega) (by omega))
        have ih := pM_lived_L7 h8 hL hq m k (i + 1) (s + griefA g p (aY g)) (loseA g p) (B + 99) (s2 t' 0 (upd (t' 0) 34 (nI (s + griefA g p (aY g))))) ⟨⟨d3.c0, d3.cs, d3.cv, d3.cy⟩, d3.2⟩ (loseA_wf w2 hp) (by omega) (by omega) (by omega) rfl
        rw [show i + 1 + k = i + (k + 1) by omega] at ih
        obtain ⟨z, e1, e2, e3, e4, e5⟩ := ih
        simp (disch := omega) only [nm_s, bd_s, bd2_s, bd3_s, bd4_s, q_gt, q_inB, ↓q_m1, l_166, l_172, l_180, l_188, l_189, l_190, l_191, l_192, l_14, l_17, l_18, l_0, l_1, l_2, l_3, l_4, l_5, l_6, l_7, l_8, l_9, l_10, l_11, l_12, l_20, l_21, l_30, l_31, l_32, l_40, l_48, l_50, l_51, l_57, l_60, l_70, l_71, l_99, l_100, l_101, l_160, l_199, l_200, l_999, l_1000, q_tn, q_add, q_mul, q_sub, q_le, q_lt, q_eq, q_31, n_and, n_or, n_xor, q_shl, q_z, q_b0, q_b1, q_bz, q_em, q_me, q_mm, q_lm, q_ml, q_mle, q_lem, s2_eq, s2_ne, pk_us, pk_un, uN_s, uN_n, if_pos, if_neg, ite_true, ite_false, if_true, if_false, not_true, not_false_iff, Nat.add_zero, Nat.zero_add, inR_t, isIx_t, bI_t, bI_f, neg1, q_clr, hT, hw, pM_isThere h w.1, isSt_n w.1, hsp, d1, h5]
        exact ⟨z, e1, e2, SmK_trans k' e3, e4.trans (d4.2 18 rfl), e5.trans (d4.1 27 rfl)⟩
      | false =>
        rw [if_neg ffl]
        simp (disch := omega) only [nm_s, bd_s, bd2_s, bd3_s, bd4_s, q_gt, q_inB, ↓q_m1, l_166, l_172, l_180, l_188, l_189, l_190, l_191, l_192, l_14, l_17, l_18, l_0, l_1, l_2, l_3, l_4, l_5, l_6, l_7, l_8, l_9, l_10, l_11, l_12, l_20, l_21, l_30, l_31, l_32, l_40, l_48, l_50, l_51, l_57, l_60, l_70, l_71, l_99, l_100, l_101, l_160, l_199, l_200, l_999, l_1000, q_tn, q_add, q_mul, q_sub, q_le, q_lt, q_eq, q_31, n_and, n_or, n_xor, q_shl, q_z, q_b0, q_b1, q_bz, q_em, q_me, q_mm, q_lm, q_ml, q_mle, q_lem, s2_eq, s2_ne, pk_us, pk_un, uN_s, uN_n, if_pos, if_neg, ite_true, ite_false, if_true, if_false, not_true, not_false_iff, Nat.add_zero, Nat.zero_add, inR_t, isIx_t, bI_t, bI_f, neg1, q_clr, hT, hw, pM_isThere h w.1, hst]
        exact ⟨_, rfl, ⟨rfl, h, h5⟩, SmK_rfl _, rfl, rfl⟩
-- all of it, over a kept range
theorem lived_all {L i0 n : Nat} (h8 : i0 < 8) (hL : L ≤ 160) (hq : ∀ j, j < L → re i0 j = sq (160 * i0 + j)) (m : RepM g sm) (w : Wf B g) (hn : n ≤ L) (h20 : n ≤ 20) (hB : B ≤ 19000000) : ∃ f t, f_X7_keep 27 sm = some (s2 sm 27 f) ∧ f_X7_lived (s2 sm 27 f) sq (nI i0) (nI n) = some (selI (livA (fun i => (re i0 i).toInt32) n 0 0 g).1, t) ∧ (RepM (livA (fun i => (re i0 i).toInt32) n 0 0 g).2.2 t ∧ t 0 34 = nI (livA (fun i => (re i0 i).toInt32) n 0 0 g).2.1 ∧ SmK sm t ∧ t 0 18 = sm 0 18) ∧ ∃ u, f_X7_again 27 t = some u ∧ RepM g u ∧ SmK sm u ∧ u 0 18 = sm 0 18 := by
  obtain ⟨f, d1, d2, d3⟩ := tryM (K := 27) (Or.inl rfl) m w.1
  obtain ⟨⟨v, t⟩, e1, ⟨e2, e3, e4⟩, e5, e6, e7⟩ := pM_lived_L7 h8 hL hq 2000 n 0 0 g B (s2 (s2 sm 27 f) 0 (upd ((s2 sm 27 f) 0) 34 (nI 0))) ⟨⟨d2.c0, d2.cs, d2.cv, d2.cy⟩, d2.2⟩ w (by omega) (by omega) (by omega) rfl
  dsimp only at e2 e3 e4 e5 e6 e7
  subst e2
  rw [Nat.zero_add] at e1
  have hk : SmK sm t := SmK_trans (SmK_s2 (f := f) (k := 27) (by omega)) (SmK_trans (SmK_slot (by omega) (by omega) (by omega)) e5)
  obtain ⟨u, u0, u1, u2, u3, -⟩ := d3 t (e7.trans (s2_eq sm 27 f)) hk
  exact ⟨f, t, d1, e1, ⟨e3, e4, hk, e6⟩, u, u0, u1, u2, u3⟩
theorem fw_all {L i0 n : Nat} (h : RepR g r0) (w : Wf B g) (h8 : i0 < 8) (hL : L ≤ 160) (h2 : rw i0 0 2 = nI L) (hn : n ≤ L) (h20 : n ≤ 20) (hB : B ≤ 19000000) : f_X6_firstWrong r0 rw re i0 (nI n) = some (selI (livA (fun i => (re i0 i).toInt32) n 0 0 g).1) := by
  have e := pR_firstWrong_L11 (rw := rw) (re := re) (i0 := i0) h ⟨h2, hL, fun _ _ => rfl⟩ 2000 n 0 0 g B rfl w (by omega) (by omega) (by omega)
  rw [Nat.zero_add] at e
  unfold f_X6_firstWrong
  rw [h.c1, nm_s]
  exact e
theorem ctp_all {L i0 n : Nat} {r : GS} (h : RepR g r) (w : Wf B g) (h8 : i0 < 8) (hL : L ≤ 160) (h2 : rw i0 0 2 = nI L) (hn : n ≤ L) (h20 : n ≤ 20) (hB : B ≤ 19000000) (hno : (livA (fun i => (re i0 i).toInt32) n 0 0 g).1 = none) : ∃ z, f_X3_comeToPass r (rw i0) (re i0) (nI n) = some z ∧ (z.1 = nI (livA (fun i => (re i0 i).toInt32) n 0 0 g).2.1 ∧ RepR (livA (fun i => (re i0 i).toInt32) n 0 0 g).2.2 z.2 ∧ z.2 0 17 = r 0 17) := by
  have e := pR_comeToPass_L5 (sw := rw i0) (sl := re i0) (e := re i0) ⟨h2, hL, fun _ _ => rfl⟩ 2000 n 0 0 g B r h w.1 (by omega) (by omega) (by omega) hno
  rw [Nat.zero_add] at e
  exact e
theorem livA_P {T : Nat → Int32} : ∀ (k i s : Nat) (g : AG), aP (livA T k i s g).2.2 = aP g
  | 0, i, s, g => rfl
  | k + 1, i, s, g => by
    unfold livA
    split
    · exact livA_P k (i + 1) s _
    · split
      · exact livA_P k (i + 1) _ (loseA g _)
      · rfl
theorem livA_lt {T : Nat → Int32} : ∀ (k i s : Nat) (g : AG) (q : Nat), (livA T k i s g).1 = some q → q < i + k
  | 0, i, s, g, q, h => by cases h
  | k + 1, i, s, g, q, h => by
    unfold livA at h
    split at h
    · have := livA_lt k (i + 1) s _ q h
      omega
    · split at h
      · have := livA_lt k (i + 1) _ (loseA g _) q h
        omega
      · have e : i = q := Option.some.inj h
        omega
theorem sim_judge (I : Inv B so r0 r1 rw re sv sm sq) (hB : B ≤ 19000000) (x1 x2 : Int32) : SimP (f_X6_judge so r0 rw re x1 x2) (f_X7_judge sm sq x1 x2) (fun x y => x.1 = y.1 ∧ Inv B x.2 r0 r1 rw re sv y.2 sq) := by
  have I0 := I
  obtain ⟨g, ⟨h, m, w, hd⟩, hf, hs, hc, ht, hi⟩ := I
  have hP := w.1.1.1
  unfold f_X6_judge f_X7_judge
  rcases tak_c hs hP x1 x2 with ⟨c, ⟨c1, c2⟩, a1, a2⟩ | ⟨i, k, L, n, ⟨rfl, rfl⟩, ⟨⟨hi8, hk, hL⟩, ⟨c1, c2⟩, ⟨c3, c4, c5⟩, c6⟩, hnL, _, ⟨hn, a1, a2⟩ | ⟨hn, a1, a2⟩⟩
  · simp (disch := omega) only [nm_s, bd_s, bd2_s, bd3_s, bd4_s, q_gt, q_inB, ↓q_m1, l_166, l_172, l_180, l_188, l_189, l_190, l_191, l_192, l_14, l_17, l_18, l_0, l_1, l_2, l_3, l_4, l_5, l_6, l_7, l_8, l_9, l_10, l_11, l_12, l_20, l_21, l_30, l_31, l_32, l_40, l_48, l_50, l_51, l_57, l_60, l_70, l_71, l_99, l_100, l_101, l_160, l_199, l_200, l_999, l_1000, q_tn, q_add, q_mul, q_sub, q_le, q_lt, q_eq, q_31, n_and, n_or, n_xor, q_shl, q_z, q_b0, q_b1, q_bz, q_em, q_me, q_mm, q_lm, q_ml, q_mle, q_lem, s2_eq, s2_ne, pk_us, pk_un, uN_s, uN_n, if_pos, if_neg, ite_true, ite_false, if_true, if_false, not_true, not_false_iff, Nat.add_zero, Nat.zero_add, inR_t, isIx_t, bI_t, bI_f, neg1, q_clr, a1, a2, z_neg, n10_, r6_]
    exact sim_i ⟨rfl, Inv_ref I0 (by omega)⟩
  · simp (disch := omega) only [nm_s, bd_s, bd2_s, bd3_s, bd4_s, q_gt, q_inB, ↓q_m1, l_166, l_172, l_180, l_188, l_189, l_190, l_191, l_192, l_14, l_17, l_18, l_0, l_1, l_2, l_3, l_4, l_5, l_6, l_7, l_8, l_9, l_10, l_11, l_12, l_20, l_21, l_30, l_31, l_32, l_40, l_48, l_50, l_51, l_57, l_60, l_70, l_71, l_99, l_100, l_101, l_160, l_199, l_200, l_999, l_1000, q_tn, q_add, q_mul, q_sub, q_le, q_lt, q_eq, q_31, n_and, n_or, n_xor, q_shl, q_z, q_b0, q_b1, q_bz, q_em, q_me, q_mm, q_lm, q_ml, q_mle, q_lem, s2_eq, s2_ne, pk_us, pk_un, uN_s, uN_n, if_pos, if_neg, ite_true, ite_false, if_true, if_false, not_true, not_false_iff, Nat.add_zero, Nat.zero_add, inR_t, isIx_t, bI_t, bI_f, neg1, q_clr, a1, a2, z_neg, n10_, r6_]
    exact sim_i ⟨rfl, Inv_ref I0 (by omega)⟩
  · have e6 := fw_all (rw := rw) (re := re) h w hi8 hL c4 hnL hn hB
    obtain ⟨f, t, d1, d2, ⟨d3, d4, d5, d6⟩, u, u0, u1, u2, u3⟩ := lived_all (re := re) (sq := sq) hi8 hL c6 m w hnL hn hB
    simp (disch := omega) only [nm_s, bd_s, bd2_s, bd3_s, bd4_s, q_gt, q_inB, ↓q_m1, l_166, l_172, l_180, l_188, l_189, l_190, l_191, l_192, l_14, l_17, l_18, l_0, l_1, l_2, l_3, l_4, l_5, l_6, l_7, l_8, l_9, l_10, l_11, l_12, l_20, l_21, l_30, l_31, l_32, l_40, l_48, l_50, l_51, l_57, l_60, l_70, l_71, l_99, l_100, l_101, l_160, l_199, l_200, l_999, l_1000, q_tn, q_add, q_mul, q_sub, q_le, q_lt, q_eq, q_31, n_and, n_or, n_xor, q_shl, q_z, q_b0, q_b1, q_bz, q_em, q_me, q_mm, q_lm, q_ml, q_mle, q_lem, s2_eq, s2_ne, pk_us, pk_un, uN_s, uN_n, if_pos, if_neg, ite_true, ite_false, if_true, if_false, not_true, not_false_iff, Nat.add_zero, Nat.zero_add, inR_t, isIx_t, bI_t, bI_f, neg1, q_clr, a1, a2, e6, d1, d2, u0]
    exact sim_i ⟨rfl, Inv_scr I0 h w hs u1 u2 (hd.trans u3.symm)⟩
theorem sim_told (I : Inv B so r0 r1 rw re sv sm sq) (hB : B ≤ 19000000) (x1 x2 x3 : Int32) : SimP (f_X6_told so r0 r2 rw re x1 x2 x3) (f_X7_told_ sm sq x1 x2 x3) (fun x y => x.1 = y.1 ∧ Inv B x.2.1 r0 r1 rw re sv y.2 sq) := by
  have I0 := I
  obtain ⟨g, ⟨h, m, w, hd⟩, hf, hs, hc, ht, hi⟩ := I
  have hP := w.1.1.1
  unfold f_X6_told f_X7_told_
  rcases in3 x3 0 2 (by omega) (by omega) with ⟨q1, q⟩ | ⟨q1, q2, q⟩ | ⟨v, _, hv, rfl, _⟩
  · rcases tak_c hs hP x1 x2 with ⟨c, ⟨c1, c2⟩, a1, a2⟩ | ⟨i, k, L, n, ⟨rfl, rfl⟩, ⟨⟨hi8, hk, hL⟩, ⟨c1, c2⟩, ⟨c3, c4, c5⟩, c6⟩, hnL, a0, ⟨hn, a1, a2⟩ | ⟨hn, a1, a2⟩⟩
    · simp (disch := omega) only [nm_s, bd_s, bd2_s, bd3_s, bd4_s, q_gt, q_inB, ↓q_m1, l_166, l_172, l_180, l_188, l_189, l_190, l_191, l_192, l_14, l_17, l_18, l_0, l_1, l_2, l_3, l_4, l_5, l_6, l_7, l_8, l_9, l_10, l_11, l_12, l_20, l_21, l_30, l_31, l_32, l_40, l_48, l_50, l_51, l_57, l_60, l_70, l_71, l_99, l_100, l_101, l_160, l_199, l_200, l_999, l_1000, q_tn, q_add, q_mul, q_sub, q_le, q_lt, q_eq, q_31, n_and, n_or, n_xor, q_shl, q_z, q_b0, q_b1, q_bz, q_em, q_me, q_mm, q_lm, q_ml, q_mle, q_lem, s2_eq, s2_ne, pk_us, pk_un, uN_s, uN_n, if_pos, if_neg, ite_true, ite_false, if_true, if_false, not_true, not_false_iff, Nat.add_zero, Nat.zero_add, inR_t, isIx_t, bI_t, bI_f, neg1, q_clr, q1, f_X6_told_J16, f_X6_told_J17, a1, a2, z_neg, z_neg6, r6_, r7_]
      exact sim_i ⟨rfl, Inv_ref I0 (by omega)⟩
    · simp (disch := omega) only [nm_s, bd_s, bd2_s, bd3_s, bd4_s, q_gt, q_inB, ↓q_m1, l_166, l_172, l_180, l_188, l_189, l_190, l_191, l_192, l_14, l_17, l_18, l_0, l_1, l_2, l_3, l_4, l_5, l_6, l_7, l_8, l_9, l_10, l_11, l_12, l_20, l_21, l_30, l_31, l_32, l_40, l_48, l_50, l_51, l_57, l_60, l_70, l_71, l_99, l_100, l_101, l_160, l_199, l_200, l_999, l_1000, q_tn, q_add, q_mul, q_sub, q_le, q_lt, q_eq, q_31, n_and, n_or, n_xor, q_shl, q_z, q_b0, q_b1, q_bz, q_em, q_me, q_mm, q_lm, q_ml, q_mle, q_lem, s2_eq, s2_ne, pk_us, pk_un, uN_s, uN_n, if_pos, if_neg, ite_true, ite_false, if_true, if_false, not_true, not_false_iff, Nat.add_zero, Nat.zero_add, inR_t, isIx_t, bI_t, bI_f, neg1, q_clr, q1, f_X6_told_J16, f_X6_told_J17, f_X7_told__J27, a0, a2, z_neg, z_66, pM_within, q, r6_, r7_]
      exact sim_i ⟨rfl, Inv_ref I0 (by omega)⟩
    · simp (disch := omega) only [nm_s, bd_s, bd2_s, bd3_s, bd4_s, q_gt, q_inB, ↓q_m1, l_166, l_172, l_180, l_188, l_189, l_190, l_191, l_192, l_14, l_17, l_18, l_0, l_1, l_2, l_3, l_4, l_5, l_6, l_7, l_8, l_9, l_10, l_11, l_12, l_20, l_21, l_30, l_31, l_32, l_40, l_48, l_50, l_51, l_57, l_60, l_70, l_71, l_99, l_100, l_101, l_160, l_199, l_200, l_999, l_1000, q_tn, q_add, q_mul, q_sub, q_le, q_lt, q_eq, q_31, n_and, n_or, n_xor, q_shl, q_z, q_b0, q_b1, q_bz, q_em, q_me, q_mm, q_lm, q_ml, q_mle, q_lem, s2_eq, s2_ne, pk_us, pk_un, uN_s, uN_n, if_pos, if_neg, ite_true, ite_false, if_true, if_false, not_true, not_false_iff, Nat.add_zero, Nat.zero_add, inR_t, isIx_t, bI_t, bI_f, neg1, q_clr, q1, f_X6_told_J16, f_X6_told_J17, f_X7_told__J27, a0, a2, pM_within, q, r6_, r7_]
      exact sim_i ⟨rfl, Inv_ref I0 (by omega)⟩
  · have q3 : nI 2 < x3 := Int32.not_le.mp q2
    rcases tak_c hs hP x1 x2 with ⟨c, ⟨c1, c2⟩, a1, a2⟩ | ⟨i, k, L, n, ⟨rfl, rfl⟩, ⟨⟨hi8, hk, hL⟩, ⟨c1, c2⟩, ⟨c3, c4, c5⟩, c6⟩, hnL, a0, ⟨hn, a1, a2⟩ | ⟨hn, a1, a2⟩⟩
    · simp (disch := omega) only [nm_s, bd_s, bd2_s, bd3_s, bd4_s, q_gt, q_inB, ↓q_m1, l_166, l_172, l_180, l_188, l_189, l_190, l_191, l_192, l_14, l_17, l_18, l_0, l_1, l_2, l_3, l_4, l_5, l_6, l_7, l_8, l_9, l_10, l_11, l_12, l_20, l_21, l_30, l_31, l_32, l_40, l_48, l_50, l_51, l_57, l_60, l_70, l_71, l_99, l_100, l_101, l_160, l_199, l_200, l_999, l_1000, q_tn, q_add, q_mul, q_sub, q_le, q_lt, q_eq, q_31, n_and, n_or, n_xor, q_shl, q_z, q_b0, q_b1, q_bz, q_em, q_me, q_mm, q_lm, q_ml, q_mle, q_lem, s2_eq, s2_ne, pk_us, pk_un, uN_s, uN_n, if_pos, if_neg, ite_true, ite_false, if_true, if_false, not_true, not_false_iff, Nat.add_zero, Nat.zero_add, inR_t, isIx_t, bI_t, bI_f, neg1, q_clr, q1, q3, f_X6_told_J16, f_X6_told_J17, a1, a2, z_neg, z_neg6, r6_, r7_]
      exact sim_i ⟨rfl, Inv_ref I0 (by omega)⟩
    · simp (disch := omega) only [nm_s, bd_s, bd2_s, bd3_s, bd4_s, q_gt, q_inB, ↓q_m1, l_166, l_172, l_180, l_188, l_189, l_190, l_191, l_192, l_14, l_17, l_18, l_0, l_1, l_2, l_3, l_4, l_5, l_6, l_7, l_8, l_9, l_10, l_11, l_12, l_20, l_21, l_30, l_31, l_32, l_40, l_48, l_50, l_51, l_57, l_60, l_70, l_71, l_99, l_100, l_101, l_160, l_199, l_200, l_999, l_1000, q_tn, q_add, q_mul, q_sub, q_le, q_lt, q_eq, q_31, n_and, n_or, n_xor, q_shl, q_z, q_b0, q_b1, q_bz, q_em, q_me, q_mm, q_lm, q_ml, q_mle, q_lem, s2_eq, s2_ne, pk_us, pk_un, uN_s, uN_n, if_pos, if_neg, ite_true, ite_false, if_true, if_false, not_true, not_false_iff, Nat.add_zero, Nat.zero_add, inR_t, isIx_t, bI_t, bI_f, neg1, q_clr, q1, q3, f_X6_told_J16, f_X6_told_J17, f_X7_told__J27, a0, a2, z_neg, z_66, pM_within, q, r6_, r7_]
      exact sim_i ⟨rfl, Inv_ref I0 (by omega)⟩
    · simp (disch := omega) only [nm_s, bd_s, bd2_s, bd3_s, bd4_s, q_gt, q_inB, ↓q_m1, l_166, l_172, l_180, l_188, l_189, l_190, l_191, l_192, l_14, l_17, l_18, l_0, l_1, l_2, l_3, l_4, l_5, l_6, l_7, l_8, l_9, l_10, l_11, l_12, l_20, l_21, l_30, l_31, l_32, l_40, l_48, l_50, l_51, l_57, l_60, l_70, l_71, l_99, l_100, l_101, l_160, l_199, l_200, l_999, l_1000, q_tn, q_add, q_mul, q_sub, q_le, q_lt, q_eq, q_31, n_and, n_or, n_xor, q_shl, q_z, q_b0, q_b1, q_bz, q_em, q_me, q_mm, q_lm, q_ml, q_mle, q_lem, s2_eq, s2_ne, pk_us, pk_un, uN_s, uN_n, if_pos, if_neg, ite_true, ite_false, if_true, if_false, not_true, not_false_iff, Nat.add_zero, Nat.zero_add, inR_t, isIx_t, bI_t, bI_f, neg1, q_clr, q1, q3, f_X6_told_J16, f_X6_told_J17, f_X7_told__J27, a0, a2, pM_within, q, r6_, r7_]
      exact sim_i ⟨rfl, Inv_ref I0 (by omega)⟩
  · rcases tak_c hs hP x1 x2 with ⟨c, ⟨c1, c2⟩, a1, a2⟩ | ⟨i, k, L, n, ⟨rfl, rfl⟩, ⟨⟨hi8, hk, hL⟩, ⟨c1, c2⟩, ⟨c3, c4, c5⟩, c6⟩, hnL, a0, ⟨hn, a1, a2⟩ | ⟨hn, a1, a2⟩⟩
    · simp (disch := omega) only [nm_s, bd_s, bd2_s, bd3_s, bd4_s, q_gt, q_inB, ↓q_m1, l_166, l_172, l_180, l_188, l_189, l_190, l_191, l_192, l_14, l_17, l_18, l_0, l_1, l_2, l_3, l_4, l_5, l_6, l_7, l_8, l_9, l_10, l_11, l_12, l_20, l_21, l_30, l_31, l_32, l_40, l_48, l_50, l_51, l_57, l_60, l_70, l_71, l_99, l_100, l_101, l_160, l_199, l_200, l_999, l_1000, q_tn, q_add, q_mul, q_sub, q_le, q_lt, q_eq, q_31, n_and, n_or, n_xor, q_shl, q_z, q_b0, q_b1, q_bz, q_em, q_me, q_mm, q_lm, q_ml, q_mle, q_lem, s2_eq, s2_ne, pk_us, pk_un, uN_s, uN_n, if_pos, if_neg, ite_true, ite_false, if_true, if_false, not_true, not_false_iff, Nat.add_zero, Nat.zero_add, inR_t, isIx_t, bI_t, bI_f, neg1, q_clr, f_X6_told_J17, a1, a2, z_neg, z_neg6, r6_, r7_]
      exact sim_i ⟨rfl, Inv_ref I0 (by omega)⟩
    · simp (disch := omega) only [nm_s, bd_s, bd2_s, bd3_s, bd4_s, q_gt, q_inB, ↓q_m1, l_166, l_172, l_180, l_188, l_189, l_190, l_191, l_192, l_14, l_17, l_18, l_0, l_1, l_2, l_3, l_4, l_5, l_6, l_7, l_8, l_9, l_10, l_11, l_12, l_20, l_21, l_30, l_31, l_32, l_40, l_48, l_50, l_51, l_57, l_60, l_70, l_71, l_99, l_100, l_101, l_160, l_199, l_200, l_999, l_1000, q_tn, q_add, q_mul, q_sub, q_le, q_lt, q_eq, q_31, n_and, n_or, n_xor, q_shl, q_z, q_b0, q_b1, q_bz, q_em, q_me, q_mm, q_lm, q_ml, q_mle, q_lem, s2_eq, s2_ne, pk_us, pk_un, uN_s, uN_n, if_pos, if_neg, ite_true, ite_false, if_true, if_false, not_true, not_false_iff, Nat.add_zero, Nat.zero_add, inR_t, isIx_t, bI_t, bI_f, neg1, q_clr, f_X6_told_J17, f_X7_told__J27, a1, a2, z_neg, z_66, pM_within, r6_, r7_]
      exact sim_i ⟨rfl, Inv_ref I0 (by omega)⟩
    · have e6 := fw_all (rw := rw) (re := re) h w hi8 hL c4 hnL hn hB
      obtain ⟨f, t, d1, d2, ⟨d3, d4, d5, d6⟩, u, u0, u1, u2, u3⟩ := lived_all (re := re) (sq := sq) hi8 hL c6 m w hnL hn hB
      have wl := livA_wf (T := fun j => (re i j).toInt32) n 0 0 g B w (by omega)
      have hyl := wl.1.1.2.2.2.1
      have fin := Inv_scr I0 h w hs u1 u2 (hd.trans u3.symm)
      cases hl : (livA (fun j => (re i j).toInt32) n 0 0 g).1 with
      | some q =>
        have hq := livA_lt n 0 0 g q hl
        rw [hl] at e6 d2
        have e6' : f_X6_firstWrong r0 rw re i (nI n) = some (nI q) := e6
        have d2' : f_X7_lived (s2 sm 27 f) sq (nI i) (nI n) = some (nI q, t) := d2
        rcases (by omega : v = 0 ∨ v = 1 ∨ v = 2) with rfl | rfl | rfl
        · simp (disch := omega) only [nm_s, bd_s, bd2_s, bd3_s, bd4_s, q_gt, q_inB, ↓q_m1, l_166, l_172, l_180, l_188, l_189, l_190, l_191, l_192, l_14, l_17, l_18, l_0, l_1, l_2, l_3, l_4, l_5, l_6, l_7, l_8, l_9, l_10, l_11, l_12, l_20, l_21, l_30, l_31, l_32, l_40, l_48, l_50, l_51, l_57, l_60, l_70, l_71, l_99, l_100, l_101, l_160, l_199, l_200, l_999, l_1000, q_tn, q_add, q_mul, q_sub, q_le, q_lt, q_eq, q_31, n_and, n_or, n_xor, q_shl, q_z, q_b0, q_b1, q_bz, q_em, q_me, q_mm, q_lm, q_ml, q_mle, q_lem, s2_eq, s2_ne, pk_us, pk_un, uN_s, uN_n, if_pos, if_neg, ite_true, ite_false, if_true, if_false, not_true, not_false_iff, Nat.add_zero, Nat.zero_add, inR_t, isIx_t, bI_t, bI_f, neg1, q_clr, f_X6_told_J17, f_X7_told__J27, f_X7_told__J98, a1, a2, pM_within, e6', d1, d2', u0, r6_, r7_]
          exact sim_i ⟨rfl, Inv_ref fin (by omega)⟩
        · simp (disch := omega) only [nm_s, bd_s, bd2_s, bd3_s, bd4_s, q_gt, q_inB, ↓q_m1, l_166, l_172, l_180, l_188, l_189, l_190, l_191, l_192, l_14, l_17, l_18, l_0, l_1, l_2, l_3, l_4, l_5, l_6, l_7, l_8, l_9, l_10, l_11, l_12, l_20, l_21, l_30, l_31, l_32, l_40, l_48, l_50, l_51, l_57, l_60, l_70, l_71, l_99, l_100, l_101, l_160, l_199, l_200, l_999, l_1000, q_tn, q_add, q_mul, q_sub, q_le, q_lt, q_eq, q_31, n_and, n_or, n_xor, q_shl, q_z, q_b0, q_b1, q_bz, q_em, q_me, q_mm, q_lm, q_ml, q_mle, q_lem, s2_eq, s2_ne, pk_us, pk_un, uN_s, uN_n, if_pos, if_neg, ite_true, ite_false, if_true, if_false, not_true, not_false_iff, Nat.add_zero, Nat.zero_add, inR_t, isIx_t, bI_t, bI_f, neg1, q_clr, f_X6_told_J17, f_X7_told__J27, f_X7_told__J98, a1, a2, pM_within, e6', d1, d2', pM_blacks d3 wl.1, u0, r6_, r7_]
          exact sim_i ⟨rfl, Inv_ref fin (by omega)⟩
        · simp (disch := omega) only [nm_s, bd_s, bd2_s, bd3_s, bd4_s, q_gt, q_inB, ↓q_m1, l_166, l_172, l_180, l_188, l_189, l_190, l_191, l_192, l_14, l_17, l_18, l_0, l_1, l_2, l_3, l_4, l_5, l_6, l_7, l_8, l_9, l_10, l_11, l_12, l_20, l_21, l_30, l_31, l_32, l_40, l_48, l_50, l_51, l_57, l_60, l_70, l_71, l_99, l_100, l_101, l_160, l_199, l_200, l_999, l_1000, q_tn, q_add, q_mul, q_sub, q_le, q_lt, q_eq, q_31, n_and, n_or, n_xor, q_shl, q_z, q_b0, q_b1, q_bz, q_em, q_me, q_mm, q_lm, q_ml, q_mle, q_lem, s2_eq, s2_ne, pk_us, pk_un, uN_s, uN_n, if_pos, if_neg, ite_true, ite_false, if_true, if_false, not_true, not_false_iff, Nat.add_zero, Nat.zero_add, inR_t, isIx_t, bI_t, bI_f, neg1, q_clr, f_X6_told_J17, f_X7_told__J27, f_X7_told__J98, a1, a2, pM_within, e6', d1, d2', u0, r6_, r7_]
          exact sim_i ⟨rfl, Inv_ref fin (by omega)⟩
      | none =>
        rw [hl] at e6 d2
        have e6' : f_X6_firstWrong r0 rw re i (nI n) = some mI := e6
        have d2' : f_X7_lived (s2 sm 27 f) sq (nI i) (nI n) = some (mI, t) := d2
        obtain ⟨z, b1, b2, b3⟩ := pR_become (r := r2) h w.1
        obtain ⟨⟨y1, y2⟩, y3, y4, y5, y6⟩ := ctp_all (rw := rw) (re := re) b2 w hi8 hL c4 hnL hn hB hl
        dsimp only at y4 y5 y6
        subst y4
        rcases (by omega : v = 0 ∨ v = 1 ∨ v = 2) with rfl | rfl | rfl
        · simp (disch := omega) only [nm_s, bd_s, bd2_s, bd3_s, bd4_s, q_gt, q_inB, ↓q_m1, l_166, l_172, l_180, l_188, l_189, l_190, l_191, l_192, l_14, l_17, l_18, l_0, l_1, l_2, l_3, l_4, l_5, l_6, l_7, l_8, l_9, l_10, l_11, l_12, l_20, l_21, l_30, l_31, l_32, l_40, l_48, l_50, l_51, l_57, l_60, l_70, l_71, l_99, l_100, l_101, l_160, l_199, l_200, l_999, l_1000, q_tn, q_add, q_mul, q_sub, q_le, q_lt, q_eq, q_31, n_and, n_or, n_xor, q_shl, q_z, q_b0, q_b1, q_bz, q_em, q_me, q_mm, q_lm, q_ml, q_mle, q_lem, s2_eq, s2_ne, pk_us, pk_un, uN_s, uN_n, if_pos, if_neg, ite_true, ite_false, if_true, if_false, not_true, not_false_iff, Nat.add_zero, Nat.zero_add, inR_t, isIx_t, bI_t, bI_f, neg1, q_clr, f_X6_told_J17, f_X7_told__J27, f_X7_told__J98, a1, a2, pM_within, e6', b1, y3, d1, d2', u0, d4]
          exact sim_i ⟨rfl, fin⟩
        · simp (disch := omega) only [nm_s, bd_s, bd2_s, bd3_s, bd4_s, q_gt, q_inB, ↓q_m1, l_166, l_172, l_180, l_188, l_189, l_190, l_191, l_192, l_14, l_17, l_18, l_0, l_1, l_2, l_3, l_4, l_5, l_6, l_7, l_8, l_9, l_10, l_11, l_12, l_20, l_21, l_30, l_31, l_32, l_40, l_48, l_50, l_51, l_57, l_60, l_70, l_71, l_99, l_100, l_101, l_160, l_199, l_200, l_999, l_1000, q_tn, q_add, q_mul, q_sub, q_le, q_lt, q_eq, q_31, n_and, n_or, n_xor, q_shl, q_z, q_b0, q_b1, q_bz, q_em, q_me, q_mm, q_lm, q_ml, q_mle, q_lem, s2_eq, s2_ne, pk_us, pk_un, uN_s, uN_n, if_pos, if_neg, ite_true, ite_false, if_true, if_false, not_true, not_false_iff, Nat.add_zero, Nat.zero_add, inR_t, isIx_t, bI_t, bI_f, neg1, q_clr, f_X6_told_J17, f_X7_told__J27, f_X7_told__J98, a1, a2, pM_within, e6', b1, y3, y5.cy, pR_blackIn y5 wl.1, d1, d2', pM_blacks d3 wl.1, u0]
          exact sim_i ⟨rfl, fin⟩
        · simp (disch := omega) only [nm_s, bd_s, bd2_s, bd3_s, bd4_s, q_gt, q_inB, ↓q_m1, l_166, l_172, l_180, l_188, l_189, l_190, l_191, l_192, l_14, l_17, l_18, l_0, l_1, l_2, l_3, l_4, l_5, l_6, l_7, l_8, l_9, l_10, l_11, l_12, l_20, l_21, l_30, l_31, l_32, l_40, l_48, l_50, l_51, l_57, l_60, l_70, l_71, l_99, l_100, l_101, l_160, l_199, l_200, l_999, l_1000, q_tn, q_add, q_mul, q_sub, q_le, q_lt, q_eq, q_31, n_and, n_or, n_xor, q_shl, q_z, q_b0, q_b1, q_bz, q_em, q_me, q_mm, q_lm, q_ml, q_mle, q_lem, s2_eq, s2_ne, pk_us, pk_un, uN_s, uN_n, if_pos, if_neg, ite_true, ite_false, if_true, if_false, not_true, not_false_iff, Nat.add_zero, Nat.zero_add, inR_t, isIx_t, bI_t, bI_f, neg1, q_clr, f_X6_told_J17, f_X7_told__J27, f_X7_told__J98, a1, a2, pM_within, e6', b1, y3, y5.cy, d1, d2', d3.cy, u0]
          exact sim_i ⟨rfl, fin⟩
theorem sim_done (I : Inv B so r0 r1 rw re sv sm sq) (hB : B ≤ 18000000) (x1 x2 : Int32) : SimP (f_X6_done so r0 rw re x1 x2) (f_X7_done sm sq x1 x2) (fun x y => x.1 = y.1 ∧ Inv (B + 2000) x.2.1 x.2.2 r1 rw re sv y.2 sq) := by
  have I0 := Inv_mono I (show B ≤ B + 2000 by omega) (by omega)
  have I1 := I
  obtain ⟨g, ⟨h, m, w, hd⟩, hf, hs, hc, ht, hi⟩ := I
  have hP := w.1.1.1
  unfold f_X6_done f_X7_done
  rcases tak_c hs hP x1 x2 with ⟨c, ⟨c1, c2⟩, a1, a2⟩ | ⟨i, k, L, n, ⟨rfl, rfl⟩, ⟨⟨hi8, hk, hL⟩, ⟨c1, c2⟩, ⟨c3, c4, c5⟩, c6⟩, hnL, _, ⟨hn, a1, a2⟩ | ⟨hn, a1, a2⟩⟩
  · simp (disch := omega) only [nm_s, bd_s, bd2_s, bd3_s, bd4_s, q_gt, q_inB, ↓q_m1, l_166, l_172, l_180, l_188, l_189, l_190, l_191, l_192, l_14, l_17, l_18, l_0, l_1, l_2, l_3, l_4, l_5, l_6, l_7, l_8, l_9, l_10, l_11, l_12, l_20, l_21, l_30, l_31, l_32, l_40, l_48, l_50, l_51, l_57, l_60, l_70, l_71, l_99, l_100, l_101, l_160, l_199, l_200, l_999, l_1000, q_tn, q_add, q_mul, q_sub, q_le, q_lt, q_eq, q_31, n_and, n_or, n_xor, q_shl, q_z, q_b0, q_b1, q_bz, q_em, q_me, q_mm, q_lm, q_ml, q_mle, q_lem, s2_eq, s2_ne, pk_us, pk_un, uN_s, uN_n, if_pos, if_neg, ite_true, ite_false, if_true, if_false, not_true, not_false_iff, Nat.add_zero, Nat.zero_add, inR_t, isIx_t, bI_t, bI_f, neg1, q_clr, a1, a2, z_neg, r6_, r7_]
    exact sim_i ⟨rfl, Inv_ref I0 (by omega)⟩
  · simp (disch := omega) only [nm_s, bd_s, bd2_s, bd3_s, bd4_s, q_gt, q_inB, ↓q_m1, l_166, l_172, l_180, l_188, l_189, l_190, l_191, l_192, l_14, l_17, l_18, l_0, l_1, l_2, l_3, l_4, l_5, l_6, l_7, l_8, l_9, l_10, l_11, l_12, l_20, l_21, l_30, l_31, l_32, l_40, l_48, l_50, l_51, l_57, l_60, l_70, l_71, l_99, l_100, l_101, l_160, l_199, l_200, l_999, l_1000, q_tn, q_add, q_mul, q_sub, q_le, q_lt, q_eq, q_31, n_and, n_or, n_xor, q_shl, q_z, q_b0, q_b1, q_bz, q_em, q_me, q_mm, q_lm, q_ml, q_mle, q_lem, s2_eq, s2_ne, pk_us, pk_un, uN_s, uN_n, if_pos, if_neg, ite_true, ite_false, if_true, if_false, not_true, not_false_iff, Nat.add_zero, Nat.zero_add, inR_t, isIx_t, bI_t, bI_f, neg1, q_clr, a1, a2, z_neg, r6_, r7_]
    exact sim_i ⟨rfl, Inv_ref I0 (by omega)⟩
  · have e6 := fw_all (rw := rw) (re := re) h w hi8 hL c4 hnL hn (show B ≤ 19000000 by omega)
    obtain ⟨f, t, d1, d2, ⟨d3, d4, d5, d6⟩, u, u0, u1, u2, u3⟩ := lived_all (re := re) (sq := sq) hi8 hL c6 m w hnL hn (show B ≤ 19000000 by omega)
    have wl := livA_wf (T := fun j => (re i j).toInt32) n 0 0 g B w (by omega)
    cases hl : (livA (fun j => (re i j).toInt32) n 0 0 g).1 with
    | some q =>
      have hq := livA_lt n 0 0 g q hl
      rw [hl] at e6 d2
      have e6' : f_X6_firstWrong r0 rw re i (nI n) = some (nI q) := e6
      have d2' : f_X7_lived (s2 sm 27 f) sq (nI i) (nI n) = some (nI q, t) := d2
      have fin := Inv_mono (Inv_scr I1 h w hs u1 u2 (hd.trans u3.symm)) (show B ≤ B + 2000 by omega) (by omega)
      simp (disch := omega) only [nm_s, bd_s, bd2_s, bd3_s, bd4_s, q_gt, q_inB, ↓q_m1, l_166, l_172, l_180, l_188, l_189, l_190, l_191, l_192, l_14, l_17, l_18, l_0, l_1, l_2, l_3, l_4, l_5, l_6, l_7, l_8, l_9, l_10, l_11, l_12, l_20, l_21, l_30, l_31, l_32, l_40, l_48, l_50, l_51, l_57, l_60, l_70, l_71, l_99, l_100, l_101, l_160, l_199, l_200, l_999, l_1000, q_tn, q_add, q_mul, q_sub, q_le, q_lt, q_eq, q_31, n_and, n_or, n_xor, q_shl, q_z, q_b0, q_b1, q_bz, q_em, q_me, q_mm, q_lm, q_ml, q_mle, q_lem, s2_eq, s2_ne, pk_us, pk_un, uN_s, uN_n, if_pos, if_neg, ite_true, ite_false, if_true, if_false, not_true, not_false_iff, Nat.add_zero, Nat.zero_add, inR_t, isIx_t, bI_t, bI_f, neg1, q_clr, a1, a2, e6', d1, d2', u0, r6_, r7_]
      exact sim_i ⟨rfl, Inv_ref fin (by omega)⟩
    | none =>
      rw [hl] at e6 d2
      have e6' : f_X6_firstWrong r0 rw re i (nI n) = some mI := e6
      have d2' : f_X7_lived (s2 sm 27 f) sq (nI i) (nI n) = some (mI, t) := d2
      obtain ⟨⟨y1, y2⟩, y3, y4, y5, y6⟩ := ctp_all (rw := rw) (re := re) h w hi8 hL c4 hnL hn (show B ≤ 19000000 by omega) hl
      dsimp only at y4 y5 y6
      simp (disch := omega) only [nm_s, bd_s, bd2_s, bd3_s, bd4_s, q_gt, q_inB, ↓q_m1, l_166, l_172, l_180, l_188, l_189, l_190, l_191, l_192, l_14, l_17, l_18, l_0, l_1, l_2, l_3, l_4, l_5, l_6, l_7, l_8, l_9, l_10, l_11, l_12, l_20, l_21, l_30, l_31, l_32, l_40, l_48, l_50, l_51, l_57, l_60, l_70, l_71, l_99, l_100, l_101, l_160, l_199, l_200, l_999, l_1000, q_tn, q_add, q_mul, q_sub, q_le, q_lt, q_eq, q_31, n_and, n_or, n_xor, q_shl, q_z, q_b0, q_b1, q_bz, q_em, q_me, q_mm, q_lm, q_ml, q_mle, q_lem, s2_eq, s2_ne, pk_us, pk_un, uN_s, uN_n, if_pos, if_neg, ite_true, ite_false, if_true, if_false, not_true, not_false_iff, Nat.add_zero, Nat.zero_add, inR_t, isIx_t, bI_t, bI_f, neg1, q_clr, a1, a2, e6', y3, y5.cy, d1, d2', d3.cy]
      refine sim_i ⟨rfl, Inv_range hs hf hc ht hi (by omega) (by omega) d5 y5 d3 ⟨Wf.mono wl.1 (by omega) (by omega), wl.2⟩ ?_ (by rw [livA_P]; exact Nat.le_refl _)⟩
      show y2 0 17 = t 0 18
      rw [y6, hd, d6]
end TK1
-- fits
def badQ (g : AG) (T : Nat → Int32) (l q : Nat) : Bool := !decide (q = l) && (stB g q && (!decide (T q = mI) && !decide (nI (untilB g (g 5 q) q l (aY g)) = T q)))
section FT
variable {B : Nat} {g : AG} {so r0 r1 : GS} {rw : Nat → GS} {re : Nat → Nat → Int64} {sv sm s : GS} {sq : Nat → Int64}
theorem pR_lossFits_L2 {L i0 l : Nat} (h : RepR g r0) (w : WfN B g) (hr : RowR L (re i0) (rw i0) (re i0)) (hPL : aP g ≤ L) (hl : l < aP g) : ∀ (n i : Nat), i ≤ aP g → aP g - i < n → (∀ j, j < i → badQ g (fun j => (re i0 j).toInt32) l j = false) → f_X6_lossFits_L2 r0 rw re i0 (nI l) n (nI i) = some (bI (!anyF (badQ g (fun j => (re i0 j).toInt32) l) (aP g)))
  | 0, i, _, h2, _ => by omega
  | n + 1, i, h1, h2, h3 => by
    have hP := w.1.1
    have hB := w.1.2.2.2
    rw [f_X6_lossFits_L2.eq_2]
    by_cases hi : i < aP g
    · have hT := pW_intN hr (i := i) (by omega)
      have h5 := (w.2.1 i hi).2.2.2.2.1
      have hu := pR_untilBehind h w (u := g 5 i) (q := i) (lost := l) (y := aY g) hi hl (by omega) (Nat.le_refl _) (by omega)
      have next : badQ g (fun j => (re i0 j).toInt32) l i = false → f_X6_lossFits_L2 r0 rw re i0 (nI l) n (nI (i + 1)) = some (bI (!anyF (badQ g (fun j => (re i0 j).toInt32) l) (aP g))) := fun hq =>
        pR_lossFits_L2 h w hr hPL hl n (i + 1) (by omega) (by omega) (fun j hj => by
          by_cases hji : j = i
          · rw [hji]; exact hq
          · exact h3 j (by omega))
      by_cases hil : i = l
      · simp (disch := omega) only [nm_s, bd_s, bd2_s, bd3_s, bd4_s, q_gt, q_inB, ↓q_m1, l_166, l_172, l_180, l_188, l_189, l_190, l_191, l_192, l_14, l_17, l_18, l_0, l_1, l_2, l_3, l_4, l_5, l_6, l_7, l_8, l_9, l_10, l_11, l_12, l_20, l_21, l_30, l_31, l_32, l_40, l_48, l_50, l_51, l_57, l_60, l_70, l_71, l_99, l_100, l_101, l_160, l_199, l_200, l_999, l_1000, q_tn, q_add, q_mul, q_sub, q_le, q_lt, q_eq, q_31, n_and, n_or, n_xor, q_shl, q_z, q_b0, q_b1, q_bz, q_em, q_me, q_mm, q_lm, q_ml, q_mle, q_lem, s2_eq, s2_ne, pk_us, pk_un, uN_s, uN_n, if_pos, if_neg, ite_true, ite_false, if_true, if_false, not_true, not_false_iff, Nat.add_zero, Nat.zero_add, inR_t, isIx_t, bI_t, bI_f, neg1, q_clr, h.c0, hT]
        exact next (by unfold badQ; rw [decide_eq_true hil]; rfl)
      · cases hst : stB g i with
        | false =>
          simp (disch := omega) only [nm_s, bd_s, bd2_s, bd3_s, bd4_s, q_gt, q_inB, ↓q_m1, l_166, l_172, l_180, l_188, l_189, l_190, l_191, l_192, l_14, l_17, l_18, l_0, l_1, l_2, l_3, l_4, l_5, l_6, l_7, l_8, l_9, l_10, l_11, l_12, l_20, l_21, l_30, l_31, l_32, l_40, l_48, l_50, l_51, l_57, l_60, l_70, l_71, l_99, l_100, l_101, l_160, l_199, l_200, l_999, l_1000, q_tn, q_add, q_mul, q_sub, q_le, q_lt, q_eq, q_31, n_and, n_or, n_xor, q_shl, q_z, q_b0, q_b1, q_bz, q_em, q_me, q_mm, q_lm, q_ml, q_mle, q_lem, s2_eq, s2_ne, pk_us, pk_un, uN_s, uN_n, if_pos, if_neg, ite_true, ite_false, if_true, if_false, not_true, not_false_iff, Nat.add_zero, Nat.zero_add, inR_t, isIx_t, bI_t, bI_f, neg1, q_clr, h.c0, hT, pR_isStanding h w, isSt_n w, hst]
          exact next (by unfold badQ; rw [hst, Bool.false_and, Bool.and_false])
        | true =>
          by_cases ht : (re i0 i).toInt32 = mI
          · rw [ht] at hT
            simp (disch := omega) only [nm_s, bd_s, bd2_s, bd3_s, bd4_s, q_gt, q_inB, ↓q_m1, l_166, l_172, l_180, l_188, l_189, l_190, l_191, l_192, l_14, l_17, l_18, l_0, l_1, l_2, l_3, l_4, l_5, l_6, l_7, l_8, l_9, l_10, l_11, l_12, l_20, l_21, l_30, l_31, l_32, l_40, l_48, l_50, l_51, l_57, l_60, l_70, l_71, l_99, l_100, l_101, l_160, l_199, l_200, l_999, l_1000, q_tn, q_add, q_mul, q_sub, q_le, q_lt, q_eq, q_31, n_and, n_or, n_xor, q_shl, q_z, q_b0, q_b1, q_bz, q_em, q_me, q_mm, q_lm, q_ml, q_mle, q_lem, s2_eq, s2_ne, pk_us, pk_un, uN_s, uN_n, if_pos, if_neg, ite_true, ite_false, if_true, if_false, not_true, not_false_iff, Nat.add_zero, Nat.zero_add, inR_t, isIx_t, bI_t, bI_f, neg1, q_clr, h.c0, hT, pR_isStanding h w, isSt_n w, hst]
            exact next (by unfold badQ; rw [decide_eq_true ht]; simp)
          · by_cases he : nI (untilB g (g 5 i) i l (aY g)) = (re i0 i).toInt32
            · simp (disch := omega) only [nm_s, bd_s, bd2_s, bd3_s, bd4_s, q_gt, q_inB, ↓q_m1, l_166, l_172, l_180, l_188, l_189, l_190, l_191, l_192, l_14, l_17, l_18, l_0, l_1, l_2, l_3, l_4, l_5, l_6, l_7, l_8, l_9, l_10, l_11, l_12, l_20, l_21, l_30, l_31, l_32, l_40, l_48, l_50, l_51, l_57, l_60, l_70, l_71, l_99, l_100, l_101, l_160, l_199, l_200, l_999, l_1000, q_tn, q_add, q_mul, q_sub, q_le, q_lt, q_eq, q_31, n_and, n_or, n_xor, q_shl, q_z, q_b0, q_b1, q_bz, q_em, q_me, q_mm, q_lm, q_ml, q_mle, q_lem, s2_eq, s2_ne, pk_us, pk_un, uN_s, uN_n, if_pos, if_neg, ite_true, ite_false, if_true, if_false, not_true, not_false_iff, Nat.add_zero, Nat.zero_add, inR_t, isIx_t, bI_t, bI_f, neg1, q_clr, h.c0, h.c7, h.cy, hT, pR_isStanding h w, isSt_n w, hst, ht, hu, he]
              exact next (by unfold badQ; rw [decide_eq_true he]; simp)
            · simp (disch := omega) only [nm_s, bd_s, bd2_s, bd3_s, bd4_s, q_gt, q_inB, ↓q_m1, l_166, l_172, l_180, l_188, l_189, l_190, l_191, l_192, l_14, l_17, l_18, l_0, l_1, l_2, l_3, l_4, l_5, l_6, l_7, l_8, l_9, l_10, l_11, l_12, l_20, l_21, l_30, l_31, l_32, l_40, l_48, l_50, l_51, l_57, l_60, l_70, l_71, l_99, l_100, l_101, l_160, l_199, l_200, l_999, l_1000, q_tn, q_add, q_mul, q_sub, q_le, q_lt, q_eq, q_31, n_and, n_or, n_xor, q_shl, q_z, q_b0, q_b1, q_bz, q_em, q_me, q_mm, q_lm, q_ml, q_mle, q_lem, s2_eq, s2_ne, pk_us, pk_un, uN_s, uN_n, if_pos, if_neg, ite_true, ite_false, if_true, if_false, not_true, not_false_iff, Nat.add_zero, Nat.zero_add, inR_t, isIx_t, bI_t, bI_f, neg1, q_clr, h.c0, h.c7, h.cy, hT, pR_isStanding h w, isSt_n w, hst, ht, hu, he]
              have hb : badQ g (fun j => (re i0 j).toInt32) l i = true := by
                unfold badQ
                rw [decide_eq_false hil, hst, decide_eq_false ht, decide_eq_false he]
                rfl
              rw [anyF_yes hi hb]
              rfl
    · have : i = aP g := by omega
      subst this
      simp (disch := omega) only [nm_s, bd_s, bd2_s, bd3_s, bd4_s, q_gt, q_inB, ↓q_m1, l_166, l_172, l_180, l_188, l_189, l_190, l_191, l_192, l_14, l_17, l_18, l_0, l_1, l_2, l_3, l_4, l_5, l_6, l_7, l_8, l_9, l_10, l_11, l_12, l_20, l_21, l_30, l_31, l_32, l_40, l_48, l_50, l_51, l_57, l_60, l_70, l_71, l_99, l_100, l_101, l_160, l_199, l_200, l_999, l_1000, q_tn, q_add, q_mul, q_sub, q_le, q_lt, q_eq, q_31, n_and, n_or, n_xor, q_shl, q_z, q_b0, q_b1, q_bz, q_em, q_me, q_mm, q_lm, q_ml, q_mle, q_lem, s2_eq, s2_ne, pk_us, pk_un, uN_s, uN_n, if_pos, if_neg, ite_true, ite_false, if_true, if_false, not_true, not_false_iff, Nat.add_zero, Nat.zero_add, inR_t, isIx_t, bI_t, bI_f, neg1, q_clr, h.c0]
      rw [anyF_no h3]
      rfl
theorem pR_fits_L46 {L i0 : Nat} (h : RepR g r0) (w : WfN B g) (h8 : i0 < 8) (hr : RowR L (re i0) (rw i0) (re i0)) (hPL : aP g ≤ L) : ∀ (n i : Nat), i ≤ aP g → aP g - i < n → f_X6_fits_L46 r0 rw re (nI i0) so n (nI (msk (fun p => stB g p && !anyF (badQ g (fun j => (re i0 j).toInt32) p) (aP g)) i)) (nI i) = some (nI (msk (fun p => stB g p && !anyF (badQ g (fun j => (re i0 j).toInt32) p) (aP g)) (aP g)), so)
  | 0, i, _, h2 => by omega
  | n + 1, i, h1, h2 => by
    have hP := w.1.1
    rw [f_X6_fits_L46.eq_2]
    by_cases hi : i < aP g
    · have ih := pR_fits_L46 h w h8 hr hPL n (i + 1) (by omega) (by omega)
      have hF : f_X6_lossFits r0 rw re (nI i) i0 = some (bI (!anyF (badQ g (fun j => (re i0 j).toInt32) i) (aP g))) := pR_lossFits_L2 h w hr hPL hi 2000 0 (by omega) (by omega) (fun j hj => by omega)
      cases hst : stB g i with
      | false =>
        rw [← msk_n (by rw [hst]; rfl)] at ih
        simp (disch := omega) only [nm_s, bd_s, bd2_s, bd3_s, bd4_s, q_gt, q_inB, ↓q_m1, l_166, l_172, l_180, l_188, l_189, l_190, l_191, l_192, l_14, l_17, l_18, l_0, l_1, l_2, l_3, l_4, l_5, l_6, l_7, l_8, l_9, l_10, l_11, l_12, l_20, l_21, l_30, l_31, l_32, l_40, l_48, l_50, l_51, l_57, l_60, l_70, l_71, l_99, l_100, l_101, l_160, l_199, l_200, l_999, l_1000, q_tn, q_add, q_mul, q_sub, q_le, q_lt, q_eq, q_31, n_and, n_or, n_xor, q_shl, q_z, q_b0, q_b1, q_bz, q_em, q_me, q_mm, q_lm, q_ml, q_mle, q_lem, s2_eq, s2_ne, pk_us, pk_un, uN_s, uN_n, if_pos, if_neg, ite_true, ite_false, if_true, if_false, not_true, not_false_iff, Nat.add_zero, Nat.zero_add, inR_t, isIx_t, bI_t, bI_f, neg1, q_clr, h.c0, pR_isStanding h w, isSt_n w, hst]
        exact ih
      | true =>
        cases hb : anyF (badQ g (fun j => (re i0 j).toInt32) i) (aP g) with
        | true =>
          rw [hb] at hF
          rw [← msk_n (by rw [hb, Bool.not_true, Bool.and_false])] at ih
          simp (disch := omega) only [nm_s, bd_s, bd2_s, bd3_s, bd4_s, q_gt, q_inB, ↓q_m1, l_166, l_172, l_180, l_188, l_189, l_190, l_191, l_192, l_14, l_17, l_18, l_0, l_1, l_2, l_3, l_4, l_5, l_6, l_7, l_8, l_9, l_10, l_11, l_12, l_20, l_21, l_30, l_31, l_32, l_40, l_48, l_50, l_51, l_57, l_60, l_70, l_71, l_99, l_100, l_101, l_160, l_199, l_200, l_999, l_1000, q_tn, q_add, q_mul, q_sub, q_le, q_lt, q_eq, q_31, n_and, n_or, n_xor, q_shl, q_z, q_b0, q_b1, q_bz, q_em, q_me, q_mm, q_lm, q_ml, q_mle, q_lem, s2_eq, s2_ne, pk_us, pk_un, uN_s, uN_n, if_pos, if_neg, ite_true, ite_false, if_true, if_false, not_true, not_false_iff, Nat.add_zero, Nat.zero_add, inR_t, isIx_t, bI_t, bI_f, neg1, q_clr, h.c0, pR_isStanding h w, isSt_n w, hst, hF, Bool.not_true]
          exact ih
        | false =>
          rw [hb] at hF
          rw [← msk_s (by rw [hb, hst]; rfl)] at ih
          simp (disch := omega) only [nm_s, bd_s, bd2_s, bd3_s, bd4_s, q_gt, q_inB, ↓q_m1, l_166, l_172, l_180, l_188, l_189, l_190, l_191, l_192, l_14, l_17, l_18, l_0, l_1, l_2, l_3, l_4, l_5, l_6, l_7, l_8, l_9, l_10, l_11, l_12, l_20, l_21, l_30, l_31, l_32, l_40, l_48, l_50, l_51, l_57, l_60, l_70, l_71, l_99, l_100, l_101, l_160, l_199, l_200, l_999, l_1000, q_tn, q_add, q_mul, q_sub, q_le, q_lt, q_eq, q_31, n_and, n_or, n_xor, q_shl, q_z, q_b0, q_b1, q_bz, q_em, q_me, q_mm, q_lm, q_ml, q_mle, q_lem, s2_eq, s2_ne, pk_us, pk_un, uN_s, uN_n, if_pos, if_neg, ite_true, ite_false, if_true, if_false, not_true, not_false_iff, Nat.add_zero, Nat.zero_add, inR_t, isIx_t, bI_t, bI_f, neg1, q_clr, h.c0, pR_isStanding h w, isSt_n w, hst, hF, Bool.not_false]
          exact ih
    · have : i = aP g := by omega
      subst this
      simp (disch := omega) only [nm_s, bd_s, bd2_s, bd3_s, bd4_s, q_gt, q_inB, ↓q_m1, l_166, l_172, l_180, l_188, l_189, l_190, l_191, l_192, l_14, l_17, l_18, l_0, l_1, l_2, l_3, l_4, l_5, l_6, l_7, l_8, l_9, l_10, l_11, l_12, l_20, l_21, l_30, l_31, l_32, l_40, l_48, l_50, l_51, l_57, l_60, l_70, l_71, l_99, l_100, l_101, l_160, l_199, l_200, l_999, l_1000, q_tn, q_add, q_mul, q_sub, q_le, q_lt, q_eq, q_31, n_and, n_or, n_xor, q_shl, q_z, q_b0, q_b1, q_bz, q_em, q_me, q_mm, q_lm, q_ml, q_mle, q_lem, s2_eq, s2_ne, pk_us, pk_un, uN_s, uN_n, if_pos, if_neg, ite_true, ite_false, if_true, if_false, not_true, not_false_iff, Nat.add_zero, Nat.zero_add, inR_t, isIx_t, bI_t, bI_f, neg1, q_clr, h.c0]
theorem anyF_s {f : Nat → Bool} {n : Nat} : anyF f (n + 1) = (anyF f n || f n) := rfl
theorem pM_fits_L83 {L i0 l : Nat} (w : WfN B g) (h : RepM (loseA g l) s) (h8 : i0 < 8) (hL : L ≤ 160) (hq : ∀ j, j < L → re i0 j = sq (160 * i0 + j)) (hPL : aP g ≤ L) (hl : l < aP g) (K : Int32 → Option (Int32 × GS)) : ∀ (n i : Nat), i ≤ aP g → aP g - i < n → f_X7_fits_L83 sq (nI i0) s K n (bI (!anyF (badQ g (fun j => (re i0 j).toInt32) l) i)) (nI i) = K (bI (!anyF (badQ g (fun j => (re i0 j).toInt32) l) (aP g)))
  | 0, i, _, h2 => by omega
  | n + 1, i, h1, h2 => by
    have hP := w.1.1
    have h0 : s 0 3 = nI (aP g) := h.c0
    rw [f_X7_fits_L83.eq_2]
    by_cases hi : i < aP g
    · have hT := pM_told (sq := sq) h8 (show i < 160 by omega)
      rw [← hq i (by omega)] at hT
      have hB := w.1.2.2.2
      have h5 := (w.2.1 i hi).2.2.2.2.1
      have hul := untilB_le w (u := g 5 i) (q := i) (lost := l) (y := aY g) hi hl (by omega) (by omega)
      have h9 : s 9 i = bI (stB g i && !decide (l = i)) := by
        have := h.c9 (i := i) hi
        rw [this]
        exact congrArg bI (st_drop l i)
      have h10 : s 10 i = nI (untilB g (g 5 i) i l (aY g)) := by
        have := h.c10 (i := i) hi
        rw [this]
        exact congrArg nI (if_pos hi)
      have ih := pM_fits_L83 w h h8 hL hq hPL hl K n (i + 1) (by omega) (by omega)
      rw [anyF_s] at ih
      have next : badQ g (fun j => (re i0 j).toInt32) l i = false → f_X7_fits_L83 sq (nI i0) s K n (bI (!anyF (badQ g (fun j => (re i0 j).toInt32) l) i)) (nI (i + 1)) = K (bI (!anyF (badQ g (fun j => (re i0 j).toInt32) l) (aP g))) := fun hb => by
        rw [hb, Bool.or_false] at ih
        exact ih
      by_cases hil : i = l
      · have h9' : s 9 i = bI false := by rw [h9, decide_eq_true hil.symm, Bool.not_true, Bool.and_false]
        simp (disch := omega) only [nm_s, bd_s, bd2_s, bd3_s, bd4_s, q_gt, q_inB, ↓q_m1, l_166, l_172, l_180, l_188, l_189, l_190, l_191, l_192, l_14, l_17, l_18, l_0, l_1, l_2, l_3, l_4, l_5, l_6, l_7, l_8, l_9, l_10, l_11, l_12, l_20, l_21, l_30, l_31, l_32, l_40, l_48, l_50, l_51, l_57, l_60, l_70, l_71, l_99, l_100, l_101, l_160, l_199, l_200, l_999, l_1000, q_tn, q_add, q_mul, q_sub, q_le, q_lt, q_eq, q_31, n_and, n_or, n_xor, q_shl, q_z, q_b0, q_b1, q_bz, q_em, q_me, q_mm, q_lm, q_ml, q_mle, q_lem, s2_eq, s2_ne, pk_us, pk_un, uN_s, uN_n, if_pos, if_neg, ite_true, ite_false, if_true, if_false, not_true, not_false_iff, Nat.add_zero, Nat.zero_add, inR_t, isIx_t, bI_t, bI_f, neg1, q_clr, h0, h9']
        exact next (by unfold badQ; rw [decide_eq_true hil]; rfl)
      · cases hst : stB g i with
        | false =>
          have h9' : s 9 i = bI false := by rw [h9, hst]; rfl
          simp (disch := omega) only [nm_s, bd_s, bd2_s, bd3_s, bd4_s, q_gt, q_inB, ↓q_m1, l_166, l_172, l_180, l_188, l_189, l_190, l_191, l_192, l_14, l_17, l_18, l_0, l_1, l_2, l_3, l_4, l_5, l_6, l_7, l_8, l_9, l_10, l_11, l_12, l_20, l_21, l_30, l_31, l_32, l_40, l_48, l_50, l_51, l_57, l_60, l_70, l_71, l_99, l_100, l_101, l_160, l_199, l_200, l_999, l_1000, q_tn, q_add, q_mul, q_sub, q_le, q_lt, q_eq, q_31, n_and, n_or, n_xor, q_shl, q_z, q_b0, q_b1, q_bz, q_em, q_me, q_mm, q_lm, q_ml, q_mle, q_lem, s2_eq, s2_ne, pk_us, pk_un, uN_s, uN_n, if_pos, if_neg, ite_true, ite_false, if_true, if_false, not_true, not_false_iff, Nat.add_zero, Nat.zero_add, inR_t, isIx_t, bI_t, bI_f, neg1, q_clr, h0, h9']
          exact next (by unfold badQ; rw [hst, Bool.false_and, Bool.and_false])
        | true =>
          have h9' : s 9 i = bI true := by rw [h9, hst, decide_eq_false (fun e => hil e.symm)]; rfl
          by_cases ht : (re i0 i).toInt32 = mI
          · rw [ht] at hT
            simp (disch := omega) only [nm_s, bd_s, bd2_s, bd3_s, bd4_s, q_gt, q_inB, ↓q_m1, l_166, l_172, l_180, l_188, l_189, l_190, l_191, l_192, l_14, l_17, l_18, l_0, l_1, l_2, l_3, l_4, l_5, l_6, l_7, l_8, l_9, l_10, l_11, l_12, l_20, l_21, l_30, l_31, l_32, l_40, l_48, l_50, l_51, l_57, l_60, l_70, l_71, l_99, l_100, l_101, l_160, l_199, l_200, l_999, l_1000, q_tn, q_add, q_mul, q_sub, q_le, q_lt, q_eq, q_31, n_and, n_or, n_xor, q_shl, q_z, q_b0, q_b1, q_bz, q_em, q_me, q_mm, q_lm, q_ml, q_mle, q_lem, s2_eq, s2_ne, pk_us, pk_un, uN_s, uN_n, if_pos, if_neg, ite_true, ite_false, if_true, if_false, not_true, not_false_iff, Nat.add_zero, Nat.zero_add, inR_t, isIx_t, bI_t, bI_f, neg1, q_clr, h0, h9', hT]
            exact next (by unfold badQ; rw [decide_eq_true ht]; simp)
          · by_cases he : nI (untilB g (g 5 i) i l (aY g)) = (re i0 i).toInt32
            · simp (disch := omega) only [nm_s, bd_s, bd2_s, bd3_s, bd4_s, q_gt, q_inB, ↓q_m1, l_166, l_172, l_180, l_188, l_189, l_190, l_191, l_192, l_14, l_17, l_18, l_0, l_1, l_2, l_3, l_4, l_5, l_6, l_7, l_8, l_9, l_10, l_11, l_12, l_20, l_21, l_30, l_31, l_32, l_40, l_48, l_50, l_51, l_57, l_60, l_70, l_71, l_99, l_100, l_101, l_160, l_199, l_200, l_999, l_1000, q_tn, q_add, q_mul, q_sub, q_le, q_lt, q_eq, q_31, n_and, n_or, n_xor, q_shl, q_z, q_b0, q_b1, q_bz, q_em, q_me, q_mm, q_lm, q_ml, q_mle, q_lem, s2_eq, s2_ne, pk_us, pk_un, uN_s, uN_n, if_pos, if_neg, ite_true, ite_false, if_true, if_false, not_true, not_false_iff, Nat.add_zero, Nat.zero_add, inR_t, isIx_t, bI_t, bI_f, neg1, q_clr, h0, h9', h10, hT, ht, he.symm]
              exact next (by unfold badQ; rw [decide_eq_true he]; simp)
            · have he' : ¬ (re i0 i).toInt32 = nI (untilB g (g 5 i) i l (aY g)) := fun e => he e.symm
              simp (disch := omega) only [nm_s, bd_s, bd2_s, bd3_s, bd4_s, q_gt, q_inB, ↓q_m1, l_166, l_172, l_180, l_188, l_189, l_190, l_191, l_192, l_14, l_17, l_18, l_0, l_1, l_2, l_3, l_4, l_5, l_6, l_7, l_8, l_9, l_10, l_11, l_12, l_20, l_21, l_30, l_31, l_32, l_40, l_48, l_50, l_51, l_57, l_60, l_70, l_71, l_99, l_100, l_101, l_160, l_199, l_200, l_999, l_1000, q_tn, q_add, q_mul, q_sub, q_le, q_lt, q_eq, q_31, n_and, n_or, n_xor, q_shl, q_z, q_b0, q_b1, q_bz, q_em, q_me, q_mm, q_lm, q_ml, q_mle, q_lem, s2_eq, s2_ne, pk_us, pk_un, uN_s, uN_n, if_pos, if_neg, ite_true, ite_false, if_true, if_false, not_true, not_false_iff, Nat.add_zero, Nat.zero_add, inR_t, isIx_t, bI_t, bI_f, neg1, q_clr, h0, h9', h10, hT, ht, he']
              have hb : badQ g (fun j => (re i0 j).toInt32) l i = true := by
                unfold badQ
                rw [decide_eq_false hil, hst, decide_eq_false ht, decide_eq_false he]
                rfl
              rw [hb, Bool.or_true] at ih
              exact ih
    · have : i = aP g := by omega
      subst this
      simp (disch := omega) only [nm_s, bd_s, bd2_s, bd3_s, bd4_s, q_gt, q_inB, ↓q_m1, l_166, l_172, l_180, l_188, l_189, l_190, l_191, l_192, l_14, l_17, l_18, l_0, l_1, l_2, l_3, l_4, l_5, l_6, l_7, l_8, l_9, l_10, l_11, l_12, l_20, l_21, l_30, l_31, l_32, l_40, l_48, l_50, l_51, l_57, l_60, l_70, l_71, l_99, l_100, l_101, l_160, l_199, l_200, l_999, l_1000, q_tn, q_add, q_mul, q_sub, q_le, q_lt, q_eq, q_31, n_and, n_or, n_xor, q_shl, q_z, q_b0, q_b1, q_bz, q_em, q_me, q_mm, q_lm, q_ml, q_mle, q_lem, s2_eq, s2_ne, pk_us, pk_un, uN_s, uN_n, if_pos, if_neg, ite_true, ite_false, if_true, if_false, not_true, not_false_iff, Nat.add_zero, Nat.zero_add, inR_t, isIx_t, bI_t, bI_f, neg1, q_clr, h0]
theorem pM_fits_L41 {L i0 : Nat} (w : Wf B g) (h8 : i0 < 8) (hL : L ≤ 160) (hq : ∀ j, j < L → re i0 j = sq (160 * i0 + j)) (hPL : aP g ≤ L) : ∀ (n i : Nat) (s : GS), RepM g s → i ≤ aP g → aP g - i < n → ∃ u, f_X7_fits_L41 sq (nI i0) n (nI (msk (fun p => stB g p && !anyF (badQ g (fun j => (re i0 j).toInt32) p) (aP g)) i)) (nI i) s = some (nI (msk (fun p => stB g p && !anyF (badQ g (fun j => (re i0 j).toInt32) p) (aP g)) (aP g)), u) ∧ RepM g u ∧ SmK s u ∧ u 0 18 = s 0 18
  | 0, i, s, _, _, h2 => by omega
  | n + 1, i, s, h, h1, h2 => by
    have hP := w.1.1.1
    rw [f_X7_fits_L41.eq_2]
    by_cases hi : i < aP g
    · cases hst : stB g i with
      | false =>
        obtain ⟨z, ih, z1, z2, z3⟩ := pM_fits_L41 w h8 hL hq hPL n (i + 1) s h (by omega) (by omega)
        rw [← msk_n (by rw [hst]; rfl)] at ih
        refine ⟨z, ?_, z1, z2, z3⟩
        simp (disch := omega) only [nm_s, bd_s, bd2_s, bd3_s, bd4_s, q_gt, q_inB, ↓q_m1, l_166, l_172, l_180, l_188, l_189, l_190, l_191, l_192, l_14, l_17, l_18, l_0, l_1, l_2, l_3, l_4, l_5, l_6, l_7, l_8, l_9, l_10, l_11, l_12, l_20, l_21, l_30, l_31, l_32, l_40, l_48, l_50, l_51, l_57, l_60, l_70, l_71, l_99, l_100, l_101, l_160, l_199, l_200, l_999, l_1000, q_tn, q_add, q_mul, q_sub, q_le, q_lt, q_eq, q_31, n_and, n_or, n_xor, q_shl, q_z, q_b0, q_b1, q_bz, q_em, q_me, q_mm, q_lm, q_ml, q_mle, q_lem, s2_eq, s2_ne, pk_us, pk_un, uN_s, uN_n, if_pos, if_neg, ite_true, ite_false, if_true, if_false, not_true, not_false_iff, Nat.add_zero, Nat.zero_add, inR_t, isIx_t, bI_t, bI_f, neg1, q_clr, h.c0, pM_isThere h w.1, isSt_n w.1, hst]
        exact ih
      | true =>
        obtain ⟨f, d1, d2, d3⟩ := tryM (K := 27) (Or.inl rfl) h w.1
        obtain ⟨⟨v', t⟩, d4, d5, d6, d7⟩ := pM_loses d2 w hi hst
        dsimp only at d5 d6 d7
        obtain ⟨u, e1, u1, u2, u3, -⟩ := d3 t (by rw [d7.1 27 rfl, s2_eq]) (SmK_trans (SmK_s2 (by omega)) (SmK_fr d7))
        obtain ⟨z, ih, z1, z2, z3⟩ := pM_fits_L41 w h8 hL hq hPL n (i + 1) u u1 (by omega) (by omega)
        have hl83 : ∀ K, f_X7_fits_L83 sq (nI i0) t K FU (nI 1) (nI 0) = K (bI (!anyF (badQ g (fun j => (re i0 j).toInt32) i) (aP g))) := fun K => by
          have := pM_fits_L83 w.1 d6 h8 hL hq hPL hi K FU 0 (by omega) (by rw [FU_def]; omega)
          rw [show bI (!anyF (badQ g (fun j => (re i0 j).toInt32) i) 0) = nI 1 from rfl] at this
          exact this
        refine ⟨z, ?_, z1, SmK_trans u2 z2, z3.trans u3⟩
        have hl83' : ∀ K, f_X7_fits_L83 sq (nI i0) t K FU (1 : Int32) (0 : Int32) = K (bI (!anyF (badQ g (fun j => (re i0 j).toInt32) i) (aP g))) := hl83
        rw [h.c0, if_neg (by rw [n_le (by omega) (by omega)]; omega), pM_isThere h w.1, bd_s, isSt_n w.1 (by omega), hst, if_neg (by decide), d1, bd_s, d4, bd2_s, hl83', e1, bd_s]
        cases hb : anyF (badQ g (fun j => (re i0 j).toInt32) i) (aP g) with
        | true =>
          rw [← msk_n (by rw [hb, Bool.not_true, Bool.and_false])] at ih
          rw [if_pos (show bI (!true) = (0 : Int32) from rfl), nm_s, n_s]
          exact ih
        | false =>
          rw [← msk_s (by rw [hb, hst]; rfl)] at ih
          rw [if_neg (show ¬ bI (!false) = (0 : Int32) by decide), nm_s, nm_s, n_s, n_shl (by omega), n_or]
          exact ih
    · have : i = aP g := by omega
      subst this
      simp (disch := omega) only [nm_s, bd_s, bd2_s, bd3_s, bd4_s, q_gt, q_inB, ↓q_m1, l_166, l_172, l_180, l_188, l_189, l_190, l_191, l_192, l_14, l_17, l_18, l_0, l_1, l_2, l_3, l_4, l_5, l_6, l_7, l_8, l_9, l_10, l_11, l_12, l_20, l_21, l_30, l_31, l_32, l_40, l_48, l_50, l_51, l_57, l_60, l_70, l_71, l_99, l_100, l_101, l_160, l_199, l_200, l_999, l_1000, q_tn, q_add, q_mul, q_sub, q_le, q_lt, q_eq, q_31, n_and, n_or, n_xor, q_shl, q_z, q_b0, q_b1, q_bz, q_em, q_me, q_mm, q_lm, q_ml, q_mle, q_lem, s2_eq, s2_ne, pk_us, pk_un, uN_s, uN_n, if_pos, if_neg, ite_true, ite_false, if_true, if_false, not_true, not_false_iff, Nat.add_zero, Nat.zero_add, inR_t, isIx_t, bI_t, bI_f, neg1, q_clr, h.c0]
      exact ⟨_, rfl, h, SmK_rfl _, rfl⟩
theorem sim_fits (I : Inv B so r0 r1 rw re sv sm sq) (x1 : Int32) : SimP (f_X6_fits so r0 rw re x1) (f_X7_fits sm sq x1) (fun x y => x.1 = y.1 ∧ Inv B x.2 r0 r1 rw re sv y.2 sq) := by
  have I0 := I
  obtain ⟨g, ⟨h, m, w, hd⟩, hf, hs, hc, ht, hi⟩ := I
  have hP := w.1.1.1
  unfold f_X6_fits f_X7_fits
  rcases noRow_c hs hP x1 with ⟨a1, a2⟩ | ⟨a1, a2⟩ | ⟨a1, a2⟩ | ⟨i, k, L, rfl, a1, a2, ⟨hi8, hk, hL⟩, ⟨c1, c2⟩, ⟨c3, c4, c5⟩, c6⟩
  · simp (disch := omega) only [nm_s, bd_s, bd2_s, bd3_s, bd4_s, q_gt, q_inB, ↓q_m1, l_166, l_172, l_180, l_188, l_189, l_190, l_191, l_192, l_14, l_17, l_18, l_0, l_1, l_2, l_3, l_4, l_5, l_6, l_7, l_8, l_9, l_10, l_11, l_12, l_20, l_21, l_30, l_31, l_32, l_40, l_48, l_50, l_51, l_57, l_60, l_70, l_71, l_99, l_100, l_101, l_160, l_199, l_200, l_999, l_1000, q_tn, q_add, q_mul, q_sub, q_le, q_lt, q_eq, q_31, n_and, n_or, n_xor, q_shl, q_z, q_b0, q_b1, q_bz, q_em, q_me, q_mm, q_lm, q_ml, q_mle, q_lem, s2_eq, s2_ne, pk_us, pk_un, uN_s, uN_n, if_pos, if_neg, ite_true, ite_false, if_true, if_false, not_true, not_false_iff, Nat.add_zero, Nat.zero_add, inR_t, isIx_t, bI_t, bI_f, neg1, q_clr, a1, a2, r6_, r7_1]
    exact sim_i ⟨rfl, Inv_ref I0 (by omega)⟩
  · simp (disch := omega) only [nm_s, bd_s, bd2_s, bd3_s, bd4_s, q_gt, q_inB, ↓q_m1, l_166, l_172, l_180, l_188, l_189, l_190, l_191, l_192, l_14, l_17, l_18, l_0, l_1, l_2, l_3, l_4, l_5, l_6, l_7, l_8, l_9, l_10, l_11, l_12, l_20, l_21, l_30, l_31, l_32, l_40, l_48, l_50, l_51, l_57, l_60, l_70, l_71, l_99, l_100, l_101, l_160, l_199, l_200, l_999, l_1000, q_tn, q_add, q_mul, q_sub, q_le, q_lt, q_eq, q_31, n_and, n_or, n_xor, q_shl, q_z, q_b0, q_b1, q_bz, q_em, q_me, q_mm, q_lm, q_ml, q_mle, q_lem, s2_eq, s2_ne, pk_us, pk_un, uN_s, uN_n, if_pos, if_neg, ite_true, ite_false, if_true, if_false, not_true, not_false_iff, Nat.add_zero, Nat.zero_add, inR_t, isIx_t, bI_t, bI_f, neg1, q_clr, a1, a2, z_n2, r6_, r7_]
    exact sim_i ⟨rfl, Inv_ref I0 (by omega)⟩
  · simp (disch := omega) only [nm_s, bd_s, bd2_s, bd3_s, bd4_s, q_gt, q_inB, ↓q_m1, l_166, l_172, l_180, l_188, l_189, l_190, l_191, l_192, l_14, l_17, l_18, l_0, l_1, l_2, l_3, l_4, l_5, l_6, l_7, l_8, l_9, l_10, l_11, l_12, l_20, l_21, l_30, l_31, l_32, l_40, l_48, l_50, l_51, l_57, l_60, l_70, l_71, l_99, l_100, l_101, l_160, l_199, l_200, l_999, l_1000, q_tn, q_add, q_mul, q_sub, q_le, q_lt, q_eq, q_31, n_and, n_or, n_xor, q_shl, q_z, q_b0, q_b1, q_bz, q_em, q_me, q_mm, q_lm, q_ml, q_mle, q_lem, s2_eq, s2_ne, pk_us, pk_un, uN_s, uN_n, if_pos, if_neg, ite_true, ite_false, if_true, if_false, not_true, not_false_iff, Nat.add_zero, Nat.zero_add, inR_t, isIx_t, bI_t, bI_f, neg1, q_clr, a1, a2, z_n3, r6_, r7_]
    exact sim_i ⟨rfl, Inv_ref I0 (by omega)⟩
  · by_cases hPL : aP g ≤ L
    · have e6 : f_X6_fits_L46 r0 rw re (nI i) so FU (nI 0) (nI 0) = some (nI (msk (fun p => stB g p && !anyF (badQ g (fun j => (re i j).toInt32) p) (aP g)) (aP g)), so) := pR_fits_L46 h w.1 hi8 ⟨c4, hL, fun _ _ => rfl⟩ hPL 2000 0 (by omega) (by omega)
      obtain ⟨u, e7, u1, u2, u3⟩ := pM_fits_L41 w hi8 hL c6 hPL 2000 0 sm m (by omega) (by omega)
      have e7' : f_X7_fits_L41 sq (nI i) FU (nI 0) (nI 0) sm = some (nI (msk (fun p => stB g p && !anyF (badQ g (fun j => (re i j).toInt32) p) (aP g)) (aP g)), u) := e7
      simp (disch := omega) only [nm_s, bd_s, bd2_s, bd3_s, bd4_s, q_gt, q_inB, ↓q_m1, l_166, l_172, l_180, l_188, l_189, l_190, l_191, l_192, l_14, l_17, l_18, l_0, l_1, l_2, l_3, l_4, l_5, l_6, l_7, l_8, l_9, l_10, l_11, l_12, l_20, l_21, l_30, l_31, l_32, l_40, l_48, l_50, l_51, l_57, l_60, l_70, l_71, l_99, l_100, l_101, l_160, l_199, l_200, l_999, l_1000, q_tn, q_add, q_mul, q_sub, q_le, q_lt, q_eq, q_31, n_and, n_or, n_xor, q_shl, q_z, q_b0, q_b1, q_bz, q_em, q_me, q_mm, q_lm, q_ml, q_mle, q_lem, s2_eq, s2_ne, pk_us, pk_un, uN_s, uN_n, if_pos, if_neg, ite_true, ite_false, if_true, if_false, not_true, not_false_iff, Nat.add_zero, Nat.zero_add, inR_t, isIx_t, bI_t, bI_f, neg1, q_clr, a1, a2, c4, c5, h.c0, m.c0, e6, e7']
      exact sim_i ⟨rfl, Inv_scr I0 h w hs u1 u2 (hd.trans u3.symm)⟩
    · simp (disch := omega) only [nm_s, bd_s, bd2_s, bd3_s, bd4_s, q_gt, q_inB, ↓q_m1, l_166, l_172, l_180, l_188, l_189, l_190, l_191, l_192, l_14, l_17, l_18, l_0, l_1, l_2, l_3, l_4, l_5, l_6, l_7, l_8, l_9, l_10, l_11, l_12, l_20, l_21, l_30, l_31, l_32, l_40, l_48, l_50, l_51, l_57, l_60, l_70, l_71, l_99, l_100, l_101, l_160, l_199, l_200, l_999, l_1000, q_tn, q_add, q_mul, q_sub, q_le, q_lt, q_eq, q_31, n_and, n_or, n_xor, q_shl, q_z, q_b0, q_b1, q_bz, q_em, q_me, q_mm, q_lm, q_ml, q_mle, q_lem, s2_eq, s2_ne, pk_us, pk_un, uN_s, uN_n, if_pos, if_neg, ite_true, ite_false, if_true, if_false, not_true, not_false_iff, Nat.add_zero, Nat.zero_add, inR_t, isIx_t, bI_t, bI_f, neg1, q_clr, a1, a2, c4, c5, h.c0, m.c0, r6_, r7_]
      exact sim_i ⟨rfl, Inv_ref I0 (by omega)⟩
end FT
