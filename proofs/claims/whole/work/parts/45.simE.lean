-- both sides: copy, says, image, restore
theorem z_m1 : nI 0 - nI 1 = mI := by decide
theorem q_am (x : Int32) : x + mI = x - nI 1 := by
  rw [Int32.sub_eq_add_neg]
  rfl
theorem pW_hasRun_neg {sw : GS} {x y : Int32} (h : x < nI 0) : f_X5_hasRun sw x y = some (bI false) := by
  unfold f_X5_hasRun
  exact if_pos h
theorem cpy_s {sq0 : Nat → Int64} {S D t : Nat} (h : S + t < D ∨ D + t ≤ S + t) : vp_updL (va_cpy sq0 sq0 S D t) (D + t) (va_cpy sq0 sq0 S D t (S + t)) = va_cpy sq0 sq0 S D (t + 1) := by
  funext y
  by_cases hy : y = D + t
  · rw [hy, pk_uLs, pk_cpy_in (by omega) (by omega), pk_cpy_out (by omega)]
    exact congrArg sq0 (by omega)
  · rw [pk_uLn hy]
    by_cases h1 : D ≤ y ∧ y < D + t
    · rw [pk_cpy_in h1.1 h1.2, pk_cpy_in h1.1 (by omega)]
    · rw [pk_cpy_out (by omega), pk_cpy_out (by omega)]
theorem cpy_b {sq0 : Nat → Int64} {S D t n : Nat} (ht : t < n) (h : S + n ≤ D ∨ S + t < D + t + 1 ∨ D + n ≤ S) : vp_updL (va_cpy sq0 sq0 (S + (t + 1)) (D + (t + 1)) (n - (t + 1))) (D + t) (va_cpy sq0 sq0 (S + (t + 1)) (D + (t + 1)) (n - (t + 1)) (S + t)) = va_cpy sq0 sq0 (S + t) (D + t) (n - t) := by
  funext y
  by_cases hy : y = D + t
  · rw [hy, pk_uLs, pk_cpy_in (by omega) (by omega), pk_cpy_out (by omega)]
    exact congrArg sq0 (by omega)
  · rw [pk_uLn hy]
    by_cases h1 : D + (t + 1) ≤ y ∧ y < D + n
    · rw [pk_cpy_in (by omega) (by omega), pk_cpy_in (by omega) (by omega)]
      exact congrArg sq0 (by omega)
    · rw [pk_cpy_out (by omega), pk_cpy_out (by omega)]
section SE2
variable {B P : Nat} {so r0 r1 : GS} {rw : Nat → GS} {re : Nat → Nat → Int64} {sv sm : GS} {sq : Nat → Int64}
theorem pM_copy_fwd {p q a b n : Nat} (hp : p < 8) (hq : q < 8) (ha : a + n ≤ 160) (hb : b + n ≤ 160) (hd : ¬ p = q ∨ b ≤ a) (sm : GS) (sq0 : Nat → Int64) : ∀ (m t : Nat), t ≤ n → n - t < m → f_X7_copy_L251 (nI p) (nI q) (nI a) (nI b) (nI n) sm m (nI t) (va_cpy sq0 sq0 (160 * p + a) (160 * q + b) t) = some (nI 1, sm, va_cpy sq0 sq0 (160 * p + a) (160 * q + b) n)
  | 0, t, _, h2 => by omega
  | m + 1, t, h1, h2 => by
    rw [f_X7_copy_L251.eq_2]
    by_cases hi : t < n
    · simp (disch := omega) only [nm_s, bd_s, bd2_s, bd3_s, bd4_s, q_gt, q_inB, ↓q_m1, l_166, l_172, l_180, l_188, l_189, l_190, l_191, l_192, l_14, l_17, l_18, l_0, l_1, l_2, l_3, l_4, l_5, l_6, l_7, l_8, l_9, l_10, l_11, l_12, l_20, l_21, l_30, l_31, l_32, l_40, l_48, l_50, l_51, l_57, l_60, l_70, l_71, l_99, l_100, l_101, l_160, l_199, l_200, l_999, l_1000, q_tn, q_add, q_mul, q_sub, q_le, q_lt, q_eq, q_31, n_and, n_or, n_xor, q_shl, q_z, q_b0, q_b1, q_bz, q_em, q_me, q_mm, q_lm, q_ml, q_mle, q_lem, s2_eq, s2_ne, pk_us, pk_un, uN_s, uN_n, if_pos, if_neg, ite_true, ite_false, if_true, if_false, not_true, not_false_iff, Nat.add_zero, Nat.zero_add, inR_t, isIx_t, bI_t, bI_f, neg1, q_clr]
      rw [cpy_s (by omega)]
      exact pM_copy_fwd hp hq ha hb hd sm sq0 m (t + 1) (by omega) (by omega)
    · have : t = n := by omega
      subst this
      simp (disch := omega) only [nm_s, bd_s, bd2_s, bd3_s, bd4_s, q_gt, q_inB, ↓q_m1, l_166, l_172, l_180, l_188, l_189, l_190, l_191, l_192, l_14, l_17, l_18, l_0, l_1, l_2, l_3, l_4, l_5, l_6, l_7, l_8, l_9, l_10, l_11, l_12, l_20, l_21, l_30, l_31, l_32, l_40, l_48, l_50, l_51, l_57, l_60, l_70, l_71, l_99, l_100, l_101, l_160, l_199, l_200, l_999, l_1000, q_tn, q_add, q_mul, q_sub, q_le, q_lt, q_eq, q_31, n_and, n_or, n_xor, q_shl, q_z, q_b0, q_b1, q_bz, q_em, q_me, q_mm, q_lm, q_ml, q_mle, q_lem, s2_eq, s2_ne, pk_us, pk_un, uN_s, uN_n, if_pos, if_neg, ite_true, ite_false, if_true, if_false, not_true, not_false_iff, Nat.add_zero, Nat.zero_add, inR_t, isIx_t, bI_t, bI_f, neg1, q_clr]
theorem pM_copy_bwd {p a b n : Nat} (hp : p < 8) (ha : a + n ≤ 160) (hb : b + n ≤ 160) (hd : a < b) (sm : GS) (sq0 : Nat → Int64) : ∀ (m t : Nat), t ≤ n → t < m → f_X7_copy_L203 (nI p) (nI p) (nI a) (nI b) sm m (nI t - nI 1) (va_cpy sq0 sq0 (160 * p + a + t) (160 * p + b + t) (n - t)) = some (nI 1, sm, va_cpy sq0 sq0 (160 * p + a) (160 * p + b) n)
  | 0, t, _, h2 => by omega
  | m + 1, 0, h1, h2 => by
    rw [f_X7_copy_L203.eq_2, z_m1]
    simp (disch := omega) only [nm_s, bd_s, bd2_s, bd3_s, bd4_s, q_gt, q_inB, ↓q_m1, l_166, l_172, l_180, l_188, l_189, l_190, l_191, l_192, l_14, l_17, l_18, l_0, l_1, l_2, l_3, l_4, l_5, l_6, l_7, l_8, l_9, l_10, l_11, l_12, l_20, l_21, l_30, l_31, l_32, l_40, l_48, l_50, l_51, l_57, l_60, l_70, l_71, l_99, l_100, l_101, l_160, l_199, l_200, l_999, l_1000, q_tn, q_add, q_mul, q_sub, q_le, q_lt, q_eq, q_31, n_and, n_or, n_xor, q_shl, q_z, q_b0, q_b1, q_bz, q_em, q_me, q_mm, q_lm, q_ml, q_mle, q_lem, s2_eq, s2_ne, pk_us, pk_un, uN_s, uN_n, if_pos, if_neg, ite_true, ite_false, if_true, if_false, not_true, not_false_iff, Nat.add_zero, Nat.zero_add, inR_t, isIx_t, bI_t, bI_f, neg1, q_clr]
    rfl
  | m + 1, t + 1, h1, h2 => by
    rw [f_X7_copy_L203.eq_2]
    simp (disch := omega) only [nm_s, bd_s, bd2_s, bd3_s, bd4_s, q_gt, q_inB, ↓q_m1, l_166, l_172, l_180, l_188, l_189, l_190, l_191, l_192, l_14, l_17, l_18, l_0, l_1, l_2, l_3, l_4, l_5, l_6, l_7, l_8, l_9, l_10, l_11, l_12, l_20, l_21, l_30, l_31, l_32, l_40, l_48, l_50, l_51, l_57, l_60, l_70, l_71, l_99, l_100, l_101, l_160, l_199, l_200, l_999, l_1000, q_tn, q_add, q_mul, q_sub, q_le, q_lt, q_eq, q_31, n_and, n_or, n_xor, q_shl, q_z, q_b0, q_b1, q_bz, q_em, q_me, q_mm, q_lm, q_ml, q_mle, q_lem, s2_eq, s2_ne, pk_us, pk_un, uN_s, uN_n, if_pos, if_neg, ite_true, ite_false, if_true, if_false, not_true, not_false_iff, Nat.add_zero, Nat.zero_add, inR_t, isIx_t, bI_t, bI_f, neg1, q_clr, q_am, Nat.add_sub_cancel]
    rw [cpy_b (by omega) (by omega)]
    exact pM_copy_bwd hp ha hb hd sm sq0 m t (by omega) (by omega)
theorem fillRows_n {q p a b n : Nat} (ha : a + n ≤ 160) (hb : b + n ≤ 160) : fillRows re q p (nI a) (nI b) (nI n) = some (va_up re q (va_cpy (re p) (re q) a b n)) := by
  have h1 : ¬ nI a < 0 := by rw [n_neg (by omega)]; exact id
  have h2 : ¬ nI b < 0 := by rw [n_neg (by omega)]; exact id
  have h3 : ¬ nI n < 0 := by rw [n_neg (by omega)]; exact id
  have hc : cpB (nI a) (nI b) (nI n) 160 160 = true := by
    unfold cpB
    rw [decide_eq_true h1, decide_eq_true h2, decide_eq_true h3, n_tn (by omega), n_tn (by omega), n_tn (by omega), decide_eq_true ha, decide_eq_true hb]
    rfl
  unfold fillRows f_X5_fillFromS f_X5_fillFrom
  rw [hc, n_tn (by omega), n_tn (by omega), n_tn (by omega)]
  by_cases h : q = p
  · subst h
    rw [if_pos rfl]
    rfl
  · rw [if_neg h]
    rfl
theorem sim_copy (I : Inv B so r0 r1 rw re sv sm sq) (x1 x2 x3 x4 x5 : Int32) : SimP (f_X6_copy so rw re x1 x2 x3 x4 x5) (f_X7_copy sm sq x1 x2 x3 x4 x5) (fun x y => x.1 = y.1 ∧ Inv B x.2.1 r0 r1 rw x.2.2 sv y.2.1 y.2.2) := by
  have I0 := I
  obtain ⟨g, ⟨h, m, w, hd⟩, hf, hs, hc, ht, hi⟩ := I
  have hP := w.1.1.1
  unfold f_X6_copy f_X7_copy
  rcases sh_c hs x1 with p0 | ⟨i, hi8, rfl, A⟩
  · obtain ⟨c, e2⟩ : ∃ c, f_X6_rowRefusal so x2 = some (nI c) := by
      rcases noRow_c hs hP x2 with ⟨a1, _⟩ | ⟨a1, _⟩ | ⟨a1, _⟩ | ⟨_, _, _, _, a1, _⟩
      · exact ⟨_, a1⟩
      · exact ⟨_, a1⟩
      · exact ⟨_, a1⟩
      · exact ⟨_, a1⟩
    simp (disch := omega) only [nm_s, bd_s, bd2_s, bd3_s, bd4_s, q_gt, q_inB, ↓q_m1, l_166, l_172, l_180, l_188, l_189, l_190, l_191, l_192, l_14, l_17, l_18, l_0, l_1, l_2, l_3, l_4, l_5, l_6, l_7, l_8, l_9, l_10, l_11, l_12, l_20, l_21, l_30, l_31, l_32, l_40, l_48, l_50, l_51, l_57, l_60, l_70, l_71, l_99, l_100, l_101, l_160, l_199, l_200, l_999, l_1000, q_tn, q_add, q_mul, q_sub, q_le, q_lt, q_eq, q_31, n_and, n_or, n_xor, q_shl, q_z, q_b0, q_b1, q_bz, q_em, q_me, q_mm, q_lm, q_ml, q_mle, q_lem, s2_eq, s2_ne, pk_us, pk_un, uN_s, uN_n, if_pos, if_neg, ite_true, ite_false, if_true, if_false, not_true, not_false_iff, Nat.add_zero, Nat.zero_add, inR_t, isIx_t, bI_t, bI_f, neg1, q_clr, f_X6_copyRefusal, rr_n p0, e2, w7_sh, p0, f_X7_copy_J20, r6_, r7_, r7_1]
    exact sim_i ⟨rfl, Inv_ref I0 (by omega)⟩
  · rcases sh_c hs x2 with o0 | ⟨j, hj8, rfl, A'⟩
    · obtain ⟨c, hc4, hc1, e1⟩ : ∃ c, c < 4 ∧ ¬ c = 1 ∧ f_X6_rowRefusal so (nI i) = some (nI c) := by
        rcases A with ⟨h1, h2⟩ | ⟨p, hp, h1, h2⟩ | ⟨k, L, hA⟩
        · exact ⟨3, by omega, by omega, rr_m hi8 h1⟩
        · exact ⟨2, by omega, by omega, rr_p hi8 h1 (by omega)⟩
        · exact ⟨0, by omega, by omega, rr_k hi8 hA.2.1.1 hA.1.2.1⟩
      simp (disch := omega) only [nm_s, bd_s, bd2_s, bd3_s, bd4_s, q_gt, q_inB, ↓q_m1, l_166, l_172, l_180, l_188, l_189, l_190, l_191, l_192, l_14, l_17, l_18, l_0, l_1, l_2, l_3, l_4, l_5, l_6, l_7, l_8, l_9, l_10, l_11, l_12, l_20, l_21, l_30, l_31, l_32, l_40, l_48, l_50, l_51, l_57, l_60, l_70, l_71, l_99, l_100, l_101, l_160, l_199, l_200, l_999, l_1000, q_tn, q_add, q_mul, q_sub, q_le, q_lt, q_eq, q_31, n_and, n_or, n_xor, q_shl, q_z, q_b0, q_b1, q_bz, q_em, q_me, q_mm, q_lm, q_ml, q_mle, q_lem, s2_eq, s2_ne, pk_us, pk_un, uN_s, uN_n, if_pos, if_neg, ite_true, ite_false, if_true, if_false, not_true, not_false_iff, Nat.add_zero, Nat.zero_add, inR_t, isIx_t, bI_t, bI_f, neg1, q_clr, f_X6_copyRefusal, rr_n o0, e1, w7_sh, o0, f_X7_copy_J20, r6_, r7_, r7_1]
      exact sim_i ⟨rfl, Inv_ref I0 (by omega)⟩
    · rcases A with ⟨h1, h2⟩ | ⟨p, hp, h1, h2⟩ | ⟨k, L, hA⟩
      · have e1 := rr_m hi8 h1
        rcases A' with ⟨k1, k2⟩ | ⟨p', hp', k1, k2⟩ | ⟨k', L', hA'⟩
        · have e2 := rr_m hj8 k1
          simp (disch := omega) only [nm_s, bd_s, bd2_s, bd3_s, bd4_s, q_gt, q_inB, ↓q_m1, l_166, l_172, l_180, l_188, l_189, l_190, l_191, l_192, l_14, l_17, l_18, l_0, l_1, l_2, l_3, l_4, l_5, l_6, l_7, l_8, l_9, l_10, l_11, l_12, l_20, l_21, l_30, l_31, l_32, l_40, l_48, l_50, l_51, l_57, l_60, l_70, l_71, l_99, l_100, l_101, l_160, l_199, l_200, l_999, l_1000, q_tn, q_add, q_mul, q_sub, q_le, q_lt, q_eq, q_31, n_and, n_or, n_xor, q_shl, q_z, q_b0, q_b1, q_bz, q_em, q_me, q_mm, q_lm, q_ml, q_mle, q_lem, s2_eq, s2_ne, pk_us, pk_un, uN_s, uN_n, if_pos, if_neg, ite_true, ite_false, if_true, if_false, not_true, not_false_iff, Nat.add_zero, Nat.zero_add, inR_t, isIx_t, bI_t, bI_f, neg1, q_clr, f_X6_copyRefusal, e1, e2, w7_sh, h2, k2, f_X7_isRow, f_X7_copy_J43, f_X7_copy_J60, f_X7_copy_J91, f_X7_copy_J98, f_X7_copy_J116, r6_, r7_]
          exact sim_i ⟨rfl, Inv_ref I0 (by omega)⟩
        · have e2 := rr_p hj8 k1 (by omega)
          simp (disch := omega) only [nm_s, bd_s, bd2_s, bd3_s, bd4_s, q_gt, q_inB, ↓q_m1, l_166, l_172, l_180, l_188, l_189, l_190, l_191, l_192, l_14, l_17, l_18, l_0, l_1, l_2, l_3, l_4, l_5, l_6, l_7, l_8, l_9, l_10, l_11, l_12, l_20, l_21, l_30, l_31, l_32, l_40, l_48, l_50, l_51, l_57, l_60, l_70, l_71, l_99, l_100, l_101, l_160, l_199, l_200, l_999, l_1000, q_tn, q_add, q_mul, q_sub, q_le, q_lt, q_eq, q_31, n_and, n_or, n_xor, q_shl, q_z, q_b0, q_b1, q_bz, q_em, q_me, q_mm, q_lm, q_ml, q_mle, q_lem, s2_eq, s2_ne, pk_us, pk_un, uN_s, uN_n, if_pos, if_neg, ite_true, ite_false, if_true, if_false, not_true, not_false_iff, Nat.add_zero, Nat.zero_add, inR_t, isIx_t, bI_t, bI_f, neg1, q_clr, f_X6_copyRefusal, e1, e2, w7_sh, h2, k2, f_X7_isRow, f_X7_copy_J43, f_X7_copy_J60, f_X7_copy_J91, f_X7_copy_J98, f_X7_copy_J116, r6_, r7_]
          exact sim_i ⟨rfl, Inv_ref I0 (by omega)⟩
        · have e2 := rr_k hj8 hA'.2.1.1 hA'.1.2.1
          have k2 := hA'.2.1.2
          have hk' := hA'.1.2.1
          simp (disch := omega) only [nm_s, bd_s, bd2_s, bd3_s, bd4_s, q_gt, q_inB, ↓q_m1, l_166, l_172, l_180, l_188, l_189, l_190, l_191, l_192, l_14, l_17, l_18, l_0, l_1, l_2, l_3, l_4, l_5, l_6, l_7, l_8, l_9, l_10, l_11, l_12, l_20, l_21, l_30, l_31, l_32, l_40, l_48, l_50, l_51, l_57, l_60, l_70, l_71, l_99, l_100, l_101, l_160, l_199, l_200, l_999, l_1000, q_tn, q_add, q_mul, q_sub, q_le, q_lt, q_eq, q_31, n_and, n_or, n_xor, q_shl, q_z, q_b0, q_b1, q_bz, q_em, q_me, q_mm, q_lm, q_ml, q_mle, q_lem, s2_eq, s2_ne, pk_us, pk_un, uN_s, uN_n, if_pos, if_neg, ite_true, ite_false, if_true, if_false, not_true, not_false_iff, Nat.add_zero, Nat.zero_add, inR_t, isIx_t, bI_t, bI_f, neg1, q_clr, f_X6_copyRefusal, e1, e2, w7_sh, h2, k2, f_X7_isRow, f_X7_copy_J43, f_X7_copy_J60, f_X7_copy_J91, f_X7_copy_J98, f_X7_copy_J116, r6_, r7_]
          exact sim_i ⟨rfl, Inv_ref I0 (by omega)⟩
      · have e1 := rr_p hi8 h1 (by omega)
        rcases A' with ⟨k1, k2⟩ | ⟨p', hp', k1, k2⟩ | ⟨k', L', hA'⟩
        · have e2 := rr_m hj8 k1
          simp (disch := omega) only [nm_s, bd_s, bd2_s, bd3_s, bd4_s, q_gt, q_inB, ↓q_m1, l_166, l_172, l_180, l_188, l_189, l_190, l_191, l_192, l_14, l_17, l_18, l_0, l_1, l_2, l_3, l_4, l_5, l_6, l_7, l_8, l_9, l_10, l_11, l_12, l_20, l_21, l_30, l_31, l_32, l_40, l_48, l_50, l_51, l_57, l_60, l_70, l_71, l_99, l_100, l_101, l_160, l_199, l_200, l_999, l_1000, q_tn, q_add, q_mul, q_sub, q_le, q_lt, q_eq, q_31, n_and, n_or, n_xor, q_shl, q_z, q_b0, q_b1, q_bz, q_em, q_me, q_mm, q_lm, q_ml, q_mle, q_lem, s2_eq, s2_ne, pk_us, pk_un, uN_s, uN_n, if_pos, if_neg, ite_true, ite_false, if_true, if_false, not_true, not_false_iff, Nat.add_zero, Nat.zero_add, inR_t, isIx_t, bI_t, bI_f, neg1, q_clr, f_X6_copyRefusal, e1, e2, w7_sh, h2, k2, f_X7_isRow, f_X7_copy_J43, f_X7_copy_J60, f_X7_copy_J91, f_X7_copy_J98, f_X7_copy_J116, r6_, r7_]
          exact sim_i ⟨rfl, Inv_ref I0 (by omega)⟩
        · have e2 := rr_p hj8 k1 (by omega)
          simp (disch := omega) only [nm_s, bd_s, bd2_s, bd3_s, bd4_s, q_gt, q_inB, ↓q_m1, l_166, l_172, l_180, l_188, l_189, l_190, l_191, l_192, l_14, l_17, l_18, l_0, l_1, l_2, l_3, l_4, l_5, l_6, l_7, l_8, l_9, l_10, l_11, l_12, l_20, l_21, l_30, l_31, l_32, l_40, l_48, l_50, l_51, l_57, l_60, l_70, l_71, l_99, l_100, l_101, l_160, l_199, l_200, l_999, l_1000, q_tn, q_add, q_mul, q_sub, q_le, q_lt, q_eq, q_31, n_and, n_or, n_xor, q_shl, q_z, q_b0, q_b1, q_bz, q_em, q_me, q_mm, q_lm, q_ml, q_mle, q_lem, s2_eq, s2_ne, pk_us, pk_un, uN_s, uN_n, if_pos, if_neg, ite_true, ite_false, if_true, if_false, not_true, not_false_iff, Nat.add_zero, Nat.zero_add, inR_t, isIx_t, bI_t, bI_f, neg1, q_clr, f_X6_copyRefusal, e1, e2, w7_sh, h2, k2, f_X7_isRow, f_X7_copy_J43, f_X7_copy_J60, f_X7_copy_J91, f_X7_copy_J98, f_X7_copy_J116, r6_, r7_]
          exact sim_i ⟨rfl, Inv_ref I0 (by omega)⟩
        · have e2 := rr_k hj8 hA'.2.1.1 hA'.1.2.1
          have k2 := hA'.2.1.2
          have hk' := hA'.1.2.1
          simp (disch := omega) only [nm_s, bd_s, bd2_s, bd3_s, bd4_s, q_gt, q_inB, ↓q_m1, l_166, l_172, l_180, l_188, l_189, l_190, l_191, l_192, l_14, l_17, l_18, l_0, l_1, l_2, l_3, l_4, l_5, l_6, l_7, l_8, l_9, l_10, l_11, l_12, l_20, l_21, l_30, l_31, l_32, l_40, l_48, l_50, l_51, l_57, l_60, l_70, l_71, l_99, l_100, l_101, l_160, l_199, l_200, l_999, l_1000, q_tn, q_add, q_mul, q_sub, q_le, q_lt, q_eq, q_31, n_and, n_or, n_xor, q_shl, q_z, q_b0, q_b1, q_bz, q_em, q_me, q_mm, q_lm, q_ml, q_mle, q_lem, s2_eq, s2_ne, pk_us, pk_un, uN_s, uN_n, if_pos, if_neg, ite_true, ite_false, if_true, if_false, not_true, not_false_iff, Nat.add_zero, Nat.zero_add, inR_t, isIx_t, bI_t, bI_f, neg1, q_clr, f_X6_copyRefusal, e1, e2, w7_sh, h2, k2, f_X7_isRow, f_X7_copy_J43, f_X7_copy_J60, f_X7_copy_J91, f_X7_copy_J98, f_X7_copy_J116, r6_, r7_]
          exact sim_i ⟨rfl, Inv_ref I0 (by omega)⟩
      · have e1 := rr_k hi8 hA.2.1.1 hA.1.2.1
        have h2 := hA.2.1.2
        have hk := hA.1.2.1
        rcases A' with ⟨k1, k2⟩ | ⟨p', hp', k1, k2⟩ | ⟨k', L', hA'⟩
        · have e2 := rr_m hj8 k1
          simp (disch := omega) only [nm_s, bd_s, bd2_s, bd3_s, bd4_s, q_gt, q_inB, ↓q_m1, l_166, l_172, l_180, l_188, l_189, l_190, l_191, l_192, l_14, l_17, l_18, l_0, l_1, l_2, l_3, l_4, l_5, l_6, l_7, l_8, l_9, l_10, l_11, l_12, l_20, l_21, l_30, l_31, l_32, l_40, l_48, l_50, l_51, l_57, l_60, l_70, l_71, l_99, l_100, l_101, l_160, l_199, l_200, l_999, l_1000, q_tn, q_add, q_mul, q_sub, q_le, q_lt, q_eq, q_31, n_and, n_or, n_xor, q_shl, q_z, q_b0, q_b1, q_bz, q_em, q_me, q_mm, q_lm, q_ml, q_mle, q_lem, s2_eq, s2_ne, pk_us, pk_un, uN_s, uN_n, if_pos, if_neg, ite_true, ite_false, if_true, if_false, not_true, not_false_iff, Nat.add_zero, Nat.zero_add, inR_t, isIx_t, bI_t, bI_f, neg1, q_clr, f_X6_copyRefusal, e1, e2, w7_sh, h2, k2, f_X7_isRow, f_X7_copy_J43, f_X7_copy_J60, f_X7_copy_J91, f_X7_copy_J98, f_X7_copy_J116, r6_, r7_]
          exact sim_i ⟨rfl, Inv_ref I0 (by omega)⟩
        · have e2 := rr_p hj8 k1 (by omega)
          simp (disch := omega) only [nm_s, bd_s, bd2_s, bd3_s, bd4_s, q_gt, q_inB, ↓q_m1, l_166, l_172, l_180, l_188, l_189, l_190, l_191, l_192, l_14, l_17, l_18, l_0, l_1, l_2, l_3, l_4, l_5, l_6, l_7, l_8, l_9, l_10, l_11, l_12, l_20, l_21, l_30, l_31, l_32, l_40, l_48, l_50, l_51, l_57, l_60, l_70, l_71, l_99, l_100, l_101, l_160, l_199, l_200, l_999, l_1000, q_tn, q_add, q_mul, q_sub, q_le, q_lt, q_eq, q_31, n_and, n_or, n_xor, q_shl, q_z, q_b0, q_b1, q_bz, q_em, q_me, q_mm, q_lm, q_ml, q_mle, q_lem, s2_eq, s2_ne, pk_us, pk_un, uN_s, uN_n, if_pos, if_neg, ite_true, ite_false, if_true, if_false, not_true, not_false_iff, Nat.add_zero, Nat.zero_add, inR_t, isIx_t, bI_t, bI_f, neg1, q_clr, f_X6_copyRefusal, e1, e2, w7_sh, h2, k2, f_X7_isRow, f_X7_copy_J43, f_X7_copy_J60, f_X7_copy_J91, f_X7_copy_J98, f_X7_copy_J116, r6_, r7_]
          exact sim_i ⟨rfl, Inv_ref I0 (by omega)⟩
        · have e2 := rr_k hj8 hA'.2.1.1 hA'.1.2.1
          have k2 := hA'.2.1.2
          have hk' := hA'.1.2.1
          have h1 := hA.2.1.1
          have k1 := hA'.2.1.1
          by_cases hkk : k = k'
          · subst hkk
            have hR : f_X6_copyRefusal so (nI i) (nI j) = some (nI 0) := by
              unfold f_X6_copyRefusal
              simp (disch := omega) only [nm_s, bd_s, bd2_s, bd3_s, bd4_s, q_gt, q_inB, ↓q_m1, l_166, l_172, l_180, l_188, l_189, l_190, l_191, l_192, l_14, l_17, l_18, l_0, l_1, l_2, l_3, l_4, l_5, l_6, l_7, l_8, l_9, l_10, l_11, l_12, l_20, l_21, l_30, l_31, l_32, l_40, l_48, l_50, l_51, l_57, l_60, l_70, l_71, l_99, l_100, l_101, l_160, l_199, l_200, l_999, l_1000, q_tn, q_add, q_mul, q_sub, q_le, q_lt, q_eq, q_31, n_and, n_or, n_xor, q_shl, q_z, q_b0, q_b1, q_bz, q_em, q_me, q_mm, q_lm, q_ml, q_mle, q_lem, s2_eq, s2_ne, pk_us, pk_un, uN_s, uN_n, if_pos, if_neg, ite_true, ite_false, if_true, if_false, not_true, not_false_iff, Nat.add_zero, Nat.zero_add, inR_t, isIx_t, bI_t, bI_f, neg1, q_clr, e1, e2, h1, k1]
            obtain ⟨⟨_, _, hL⟩, _, ⟨c3, c4, c5⟩, c6⟩ := hA
            obtain ⟨⟨_, _, hL'⟩, _, ⟨d3, d4, d5⟩, d6⟩ := hA'
            have hM : ∀ y3 y4 y5, f_X7_copy_J43 (nI i) (nI j) y3 y4 y5 sm sq = f_X7_copy_J98 (nI i) (nI j) y3 y4 y5 sm sq := fun y3 y4 y5 => by
              unfold f_X7_copy_J43 f_X7_copy_J60
              simp (disch := omega) only [nm_s, bd_s, bd2_s, bd3_s, bd4_s, q_gt, q_inB, ↓q_m1, l_166, l_172, l_180, l_188, l_189, l_190, l_191, l_192, l_14, l_17, l_18, l_0, l_1, l_2, l_3, l_4, l_5, l_6, l_7, l_8, l_9, l_10, l_11, l_12, l_20, l_21, l_30, l_31, l_32, l_40, l_48, l_50, l_51, l_57, l_60, l_70, l_71, l_99, l_100, l_101, l_160, l_199, l_200, l_999, l_1000, q_tn, q_add, q_mul, q_sub, q_le, q_lt, q_eq, q_31, n_and, n_or, n_xor, q_shl, q_z, q_b0, q_b1, q_bz, q_em, q_me, q_mm, q_lm, q_ml, q_mle, q_lem, s2_eq, s2_ne, pk_us, pk_un, uN_s, uN_n, if_pos, if_neg, ite_true, ite_false, if_true, if_false, not_true, not_false_iff, Nat.add_zero, Nat.zero_add, inR_t, isIx_t, bI_t, bI_f, neg1, q_clr, f_X7_isRow, h2, k2]
            by_cases n0 : x5 < nI 0
            · have n1 : ¬ nI 0 ≤ x5 := Int32.not_le.mpr n0
              simp (disch := omega) only [nm_s, bd_s, bd2_s, bd3_s, bd4_s, q_gt, q_inB, ↓q_m1, l_166, l_172, l_180, l_188, l_189, l_190, l_191, l_192, l_14, l_17, l_18, l_0, l_1, l_2, l_3, l_4, l_5, l_6, l_7, l_8, l_9, l_10, l_11, l_12, l_20, l_21, l_30, l_31, l_32, l_40, l_48, l_50, l_51, l_57, l_60, l_70, l_71, l_99, l_100, l_101, l_160, l_199, l_200, l_999, l_1000, q_tn, q_add, q_mul, q_sub, q_le, q_lt, q_eq, q_31, n_and, n_or, n_xor, q_shl, q_z, q_b0, q_b1, q_bz, q_em, q_me, q_mm, q_lm, q_ml, q_mle, q_lem, s2_eq, s2_ne, pk_us, pk_un, uN_s, uN_n, if_pos, if_neg, ite_true, ite_false, if_true, if_false, not_true, not_false_iff, Nat.add_zero, Nat.zero_add, inR_t, isIx_t, bI_t, bI_f, neg1, q_clr, hR, n1, w7_sh, h2, k2, f_X7_isRow, hM, f_X7_copy_J98, r6_, r7_]
              exact sim_i ⟨rfl, Inv_ref I0 (by omega)⟩
            · obtain ⟨n, hn, rfl⟩ := nn_of n0
              by_cases a0 : x3 < nI 0
              · simp (disch := omega) only [nm_s, bd_s, bd2_s, bd3_s, bd4_s, q_gt, q_inB, ↓q_m1, l_166, l_172, l_180, l_188, l_189, l_190, l_191, l_192, l_14, l_17, l_18, l_0, l_1, l_2, l_3, l_4, l_5, l_6, l_7, l_8, l_9, l_10, l_11, l_12, l_20, l_21, l_30, l_31, l_32, l_40, l_48, l_50, l_51, l_57, l_60, l_70, l_71, l_99, l_100, l_101, l_160, l_199, l_200, l_999, l_1000, q_tn, q_add, q_mul, q_sub, q_le, q_lt, q_eq, q_31, n_and, n_or, n_xor, q_shl, q_z, q_b0, q_b1, q_bz, q_em, q_me, q_mm, q_lm, q_ml, q_mle, q_lem, s2_eq, s2_ne, pk_us, pk_un, uN_s, uN_n, if_pos, if_neg, ite_true, ite_false, if_true, if_false, not_true, not_false_iff, Nat.add_zero, Nat.zero_add, inR_t, isIx_t, bI_t, bI_f, neg1, q_clr, hR, a0, w7_sh, h2, k2, f_X7_isRow, hM, f_X7_copy_J98, f_X7_copy_J179, f_X6_copy_J62, pW_hasRun_neg, r6_, r7_]
                exact sim_i ⟨rfl, Inv_ref I0 (by omega)⟩
              · obtain ⟨a, ha, rfl⟩ := nn_of a0
                have hr1 := pW_hasRun c4 hL hn ha
                by_cases b0 : x4 < nI 0
                · have hr2 : f_X5_hasRun (rw j) x4 (nI n) = some (bI false) := pW_hasRun_neg b0
                  by_cases hf1 : a + n ≤ L
                  · rw [decide_eq_true hf1] at hr1
                    simp (disch := omega) only [nm_s, bd_s, bd2_s, bd3_s, bd4_s, q_gt, q_inB, ↓q_m1, l_166, l_172, l_180, l_188, l_189, l_190, l_191, l_192, l_14, l_17, l_18, l_0, l_1, l_2, l_3, l_4, l_5, l_6, l_7, l_8, l_9, l_10, l_11, l_12, l_20, l_21, l_30, l_31, l_32, l_40, l_48, l_50, l_51, l_57, l_60, l_70, l_71, l_99, l_100, l_101, l_160, l_199, l_200, l_999, l_1000, q_tn, q_add, q_mul, q_sub, q_le, q_lt, q_eq, q_31, n_and, n_or, n_xor, q_shl, q_z, q_b0, q_b1, q_bz, q_em, q_me, q_mm, q_lm, q_ml, q_mle, q_lem, s2_eq, s2_ne, pk_us, pk_un, uN_s, uN_n, if_pos, if_neg, ite_true, ite_false, if_true, if_false, not_true, not_false_iff, Nat.add_zero, Nat.zero_add, inR_t, isIx_t, bI_t, bI_f, neg1, q_clr, hR, b0, w7_sh, h2, k2, f_X7_isRow, hM, f_X7_copy_J98, f_X7_copy_J179, f_X6_copy_J62, hr1, hr2, r6_, r7_]
                    exact sim_i ⟨rfl, Inv_ref I0 (by omega)⟩
                  · rw [decide_eq_false hf1] at hr1
                    simp (disch := omega) only [nm_s, bd_s, bd2_s, bd3_s, bd4_s, q_gt, q_inB, ↓q_m1, l_166, l_172, l_180, l_188, l_189, l_190, l_191, l_192, l_14, l_17, l_18, l_0, l_1, l_2, l_3, l_4, l_5, l_6, l_7, l_8, l_9, l_10, l_11, l_12, l_20, l_21, l_30, l_31, l_32, l_40, l_48, l_50, l_51, l_57, l_60, l_70, l_71, l_99, l_100, l_101, l_160, l_199, l_200, l_999, l_1000, q_tn, q_add, q_mul, q_sub, q_le, q_lt, q_eq, q_31, n_and, n_or, n_xor, q_shl, q_z, q_b0, q_b1, q_bz, q_em, q_me, q_mm, q_lm, q_ml, q_mle, q_lem, s2_eq, s2_ne, pk_us, pk_un, uN_s, uN_n, if_pos, if_neg, ite_true, ite_false, if_true, if_false, not_true, not_false_iff, Nat.add_zero, Nat.zero_add, inR_t, isIx_t, bI_t, bI_f, neg1, q_clr, hR, b0, w7_sh, h2, k2, f_X7_isRow, hM, f_X7_copy_J98, f_X7_copy_J179, f_X6_copy_J62, hr1, hr2, r6_, r7_]
                    exact sim_i ⟨rfl, Inv_ref I0 (by omega)⟩
                · obtain ⟨b, hb, rfl⟩ := nn_of b0
                  have hr2 := pW_hasRun d4 hL' hn hb
                  by_cases hf1 : a + n ≤ L
                  · rw [decide_eq_true hf1] at hr1
                    by_cases hf2 : b + n ≤ L'
                    · rw [decide_eq_true hf2] at hr2
                      have fin : Inv B so r0 r1 rw (va_up re j (va_cpy (re i) (re j) a b n)) sv sm (va_cpy sq sq (160 * i + a) (160 * j + b) n) := by
                        refine Inv_shs h m w hd hf hc ht hi rfl rfl (fun _ _ _ => rfl) (fun t ht => ?_)
                        by_cases hti : t = j
                        · subst hti
                          refine ⟨by rw [k1, k2], Or.inr (Or.inr ⟨k, L', hk, k1, d3, d4, d5, hL', fun y hy => ?_⟩)⟩
                          rw [va_up_self]
                          by_cases hy1 : b ≤ y ∧ y < b + n
                          · rw [pk_cpy_in hy1.1 hy1.2, pk_cpy_in (by omega) (by omega), c6 _ (by omega)]
                            exact congrArg sq (by omega)
                          · rw [pk_cpy_out (by omega), pk_cpy_out (by omega)]
                            exact d6 y hy
                        · obtain ⟨q1, q2⟩ := hs t ht
                          exact ⟨q1, ShR_ne q2 rfl rfl (va_up_ne _ _ hti) rfl (fun y hy => pk_cpy_out (by omega))⟩
                      have hfi : fillRows re j i (nI a) (nI b) (nI n) = some (va_up re j (va_cpy (re i) (re j) a b n)) := fillRows_n (by omega) (by omega)
                      have cp0 : va_cpy sq sq (160 * i + a) (160 * j + b) 0 = sq := by
                        funext y
                        exact pk_cpy_out (by omega)
                      by_cases hfw : ¬ i = j ∨ b ≤ a
                      · have hl := pM_copy_fwd hi8 hj8 (show a + n ≤ 160 by omega) (show b + n ≤ 160 by omega) hfw sm sq 2000 0 (by omega) (by omega)
                        rw [cp0] at hl
                        have hl2 : f_X7_copy_L251 (nI i) (nI j) (nI a) (nI b) (nI n) sm FU (nI 0) sq = some (nI 1, sm, va_cpy sq sq (160 * i + a) (160 * j + b) n) := hl
                        by_cases hij : i = j
                        · simp (disch := omega) only [nm_s, bd_s, bd2_s, bd3_s, bd4_s, q_gt, q_inB, ↓q_m1, l_166, l_172, l_180, l_188, l_189, l_190, l_191, l_192, l_14, l_17, l_18, l_0, l_1, l_2, l_3, l_4, l_5, l_6, l_7, l_8, l_9, l_10, l_11, l_12, l_20, l_21, l_30, l_31, l_32, l_40, l_48, l_50, l_51, l_57, l_60, l_70, l_71, l_99, l_100, l_101, l_160, l_199, l_200, l_999, l_1000, q_tn, q_add, q_mul, q_sub, q_le, q_lt, q_eq, q_31, n_and, n_or, n_xor, q_shl, q_z, q_b0, q_b1, q_bz, q_em, q_me, q_mm, q_lm, q_ml, q_mle, q_lem, s2_eq, s2_ne, pk_us, pk_un, uN_s, uN_n, if_pos, if_neg, ite_true, ite_false, if_true, if_false, not_true, not_false_iff, Nat.add_zero, Nat.zero_add, inR_t, isIx_t, bI_t, bI_f, neg1, q_clr, hR, w7_sh, h2, k2, c5, d5, f_X7_isRow, hM, f_X7_copy_J98, hr1, hr2, hfi, q_lc, q_lcl, hl2]
                          exact sim_i ⟨rfl, fin⟩
                        · simp (disch := omega) only [nm_s, bd_s, bd2_s, bd3_s, bd4_s, q_gt, q_inB, ↓q_m1, l_166, l_172, l_180, l_188, l_189, l_190, l_191, l_192, l_14, l_17, l_18, l_0, l_1, l_2, l_3, l_4, l_5, l_6, l_7, l_8, l_9, l_10, l_11, l_12, l_20, l_21, l_30, l_31, l_32, l_40, l_48, l_50, l_51, l_57, l_60, l_70, l_71, l_99, l_100, l_101, l_160, l_199, l_200, l_999, l_1000, q_tn, q_add, q_mul, q_sub, q_le, q_lt, q_eq, q_31, n_and, n_or, n_xor, q_shl, q_z, q_b0, q_b1, q_bz, q_em, q_me, q_mm, q_lm, q_ml, q_mle, q_lem, s2_eq, s2_ne, pk_us, pk_un, uN_s, uN_n, if_pos, if_neg, ite_true, ite_false, if_true, if_false, not_true, not_false_iff, Nat.add_zero, Nat.zero_add, inR_t, isIx_t, bI_t, bI_f, neg1, q_clr, hR, w7_sh, h2, k2, c5, d5, f_X7_isRow, hM, f_X7_copy_J98, hr1, hr2, hfi, q_lc, q_lcl, hl2]
                          exact sim_i ⟨rfl, fin⟩
                      · have hij : i = j := by omega
                        subst hij
                        have hl := pM_copy_bwd hi8 (show a + n ≤ 160 by omega) (show b + n ≤ 160 by omega) (show a < b by omega) sm sq 2000 n (by omega) (by omega)
                        have cpn : va_cpy sq sq (160 * i + a + n) (160 * i + b + n) (n - n) = sq := by
                          funext y
                          exact pk_cpy_out (by omega)
                        rw [cpn] at hl
                        by_cases hn0 : n = 0
                        · subst hn0
                          have hl2 : f_X7_copy_L203 (nI i) (nI i) (nI a) (nI b) sm FU mI sq = some (nI 1, sm, va_cpy sq sq (160 * i + a) (160 * i + b) 0) := hl
                          simp (disch := omega) only [nm_s, bd_s, bd2_s, bd3_s, bd4_s, q_gt, q_inB, ↓q_m1, l_166, l_172, l_180, l_188, l_189, l_190, l_191, l_192, l_14, l_17, l_18, l_0, l_1, l_2, l_3, l_4, l_5, l_6, l_7, l_8, l_9, l_10, l_11, l_12, l_20, l_21, l_30, l_31, l_32, l_40, l_48, l_50, l_51, l_57, l_60, l_70, l_71, l_99, l_100, l_101, l_160, l_199, l_200, l_999, l_1000, q_tn, q_add, q_mul, q_sub, q_le, q_lt, q_eq, q_31, n_and, n_or, n_xor, q_shl, q_z, q_b0, q_b1, q_bz, q_em, q_me, q_mm, q_lm, q_ml, q_mle, q_lem, s2_eq, s2_ne, pk_us, pk_un, uN_s, uN_n, if_pos, if_neg, ite_true, ite_false, if_true, if_false, not_true, not_false_iff, Nat.add_zero, Nat.zero_add, inR_t, isIx_t, bI_t, bI_f, neg1, q_clr, hR, w7_sh, h2, k2, c5, d5, f_X7_isRow, hM, f_X7_copy_J98, hr1, hr2, hfi, q_lc, q_lcl, z_m1, hl2]
                          exact sim_i ⟨rfl, fin⟩
                        · rw [q_sub (by omega)] at hl
                          have hl2 : f_X7_copy_L203 (nI i) (nI i) (nI a) (nI b) sm FU (nI (n - 1)) sq = some (nI 1, sm, va_cpy sq sq (160 * i + a) (160 * i + b) n) := hl
                          simp (disch := omega) only [nm_s, bd_s, bd2_s, bd3_s, bd4_s, q_gt, q_inB, ↓q_m1, l_166, l_172, l_180, l_188, l_189, l_190, l_191, l_192, l_14, l_17, l_18, l_0, l_1, l_2, l_3, l_4, l_5, l_6, l_7, l_8, l_9, l_10, l_11, l_12, l_20, l_21, l_30, l_31, l_32, l_40, l_48, l_50, l_51, l_57, l_60, l_70, l_71, l_99, l_100, l_101, l_160, l_199, l_200, l_999, l_1000, q_tn, q_add, q_mul, q_sub, q_le, q_lt, q_eq, q_31, n_and, n_or, n_xor, q_shl, q_z, q_b0, q_b1, q_bz, q_em, q_me, q_mm, q_lm, q_ml, q_mle, q_lem, s2_eq, s2_ne, pk_us, pk_un, uN_s, uN_n, if_pos, if_neg, ite_true, ite_false, if_true, if_false, not_true, not_false_iff, Nat.add_zero, Nat.zero_add, inR_t, isIx_t, bI_t, bI_f, neg1, q_clr, hR, w7_sh, h2, k2, c5, d5, f_X7_isRow, hM, f_X7_copy_J98, hr1, hr2, hfi, q_lc, q_lcl, hl2]
                          exact sim_i ⟨rfl, fin⟩
                    · rw [decide_eq_false hf2] at hr2
                      simp (disch := omega) only [nm_s, bd_s, bd2_s, bd3_s, bd4_s, q_gt, q_inB, ↓q_m1, l_166, l_172, l_180, l_188, l_189, l_190, l_191, l_192, l_14, l_17, l_18, l_0, l_1, l_2, l_3, l_4, l_5, l_6, l_7, l_8, l_9, l_10, l_11, l_12, l_20, l_21, l_30, l_31, l_32, l_40, l_48, l_50, l_51, l_57, l_60, l_70, l_71, l_99, l_100, l_101, l_160, l_199, l_200, l_999, l_1000, q_tn, q_add, q_mul, q_sub, q_le, q_lt, q_eq, q_31, n_and, n_or, n_xor, q_shl, q_z, q_b0, q_b1, q_bz, q_em, q_me, q_mm, q_lm, q_ml, q_mle, q_lem, s2_eq, s2_ne, pk_us, pk_un, uN_s, uN_n, if_pos, if_neg, ite_true, ite_false, if_true, if_false, not_true, not_false_iff, Nat.add_zero, Nat.zero_add, inR_t, isIx_t, bI_t, bI_f, neg1, q_clr, hR, w7_sh, h2, k2, c5, d5, f_X7_isRow, hM, f_X7_copy_J98, f_X7_copy_J179, f_X6_copy_J62, hr1, hr2, q_lc, q_lcl, r6_, r7_]
                      exact sim_i ⟨rfl, Inv_ref I0 (by omega)⟩
                  · rw [decide_eq_false hf1] at hr1
                    simp (disch := omega) only [nm_s, bd_s, bd2_s, bd3_s, bd4_s, q_gt, q_inB, ↓q_m1, l_166, l_172, l_180, l_188, l_189, l_190, l_191, l_192, l_14, l_17, l_18, l_0, l_1, l_2, l_3, l_4, l_5, l_6, l_7, l_8, l_9, l_10, l_11, l_12, l_20, l_21, l_30, l_31, l_32, l_40, l_48, l_50, l_51, l_57, l_60, l_70, l_71, l_99, l_100, l_101, l_160, l_199, l_200, l_999, l_1000, q_tn, q_add, q_mul, q_sub, q_le, q_lt, q_eq, q_31, n_and, n_or, n_xor, q_shl, q_z, q_b0, q_b1, q_bz, q_em, q_me, q_mm, q_lm, q_ml, q_mle, q_lem, s2_eq, s2_ne, pk_us, pk_un, uN_s, uN_n, if_pos, if_neg, ite_true, ite_false, if_true, if_false, not_true, not_false_iff, Nat.add_zero, Nat.zero_add, inR_t, isIx_t, bI_t, bI_f, neg1, q_clr, hR, w7_sh, h2, k2, c5, d5, f_X7_isRow, hM, f_X7_copy_J98, f_X7_copy_J179, f_X6_copy_J62, hr1, hr2, q_lc, q_lcl, r6_, r7_]
                    exact sim_i ⟨rfl, Inv_ref I0 (by omega)⟩
          · simp (disch := omega) only [nm_s, bd_s, bd2_s, bd3_s, bd4_s, q_gt, q_inB, ↓q_m1, l_166, l_172, l_180, l_188, l_189, l_190, l_191, l_192, l_14, l_17, l_18, l_0, l_1, l_2, l_3, l_4, l_5, l_6, l_7, l_8, l_9, l_10, l_11, l_12, l_20, l_21, l_30, l_31, l_32, l_40, l_48, l_50, l_51, l_57, l_60, l_70, l_71, l_99, l_100, l_101, l_160, l_199, l_200, l_999, l_1000, q_tn, q_add, q_mul, q_sub, q_le, q_lt, q_eq, q_31, n_and, n_or, n_xor, q_shl, q_z, q_b0, q_b1, q_bz, q_em, q_me, q_mm, q_lm, q_ml, q_mle, q_lem, s2_eq, s2_ne, pk_us, pk_un, uN_s, uN_n, if_pos, if_neg, ite_true, ite_false, if_true, if_false, not_true, not_false_iff, Nat.add_zero, Nat.zero_add, inR_t, isIx_t, bI_t, bI_f, neg1, q_clr, f_X6_copyRefusal, e1, e2, h1, k1, w7_sh, h2, k2, f_X7_isRow, f_X7_copy_J43, f_X7_copy_J60, f_X7_copy_J91, r6_, r7_]
            exact sim_i ⟨rfl, Inv_ref I0 (by omega)⟩
theorem sim_says (I : Inv B so r0 r1 rw re sv sm sq) (x1 x2 : Int32) : SimP (f_X6_says so r0 x1 x2) (f_X7_says sm x1 x2) (fun x y => x.1 = y.1 ∧ Inv B x.2 r0 r1 rw re sv y.2 sq) := by
  have I0 := I
  obtain ⟨g, ⟨h, m, w, hd⟩, hf, hs, hc, ht, hi⟩ := I
  have hP := w.1.1.1
  have hY := w.1.1.2.2.2
  unfold f_X6_says f_X7_says
  rcases sh_c hs x1 with p0 | ⟨i, hi8, rfl, A⟩
  · simp (disch := omega) only [nm_s, bd_s, bd2_s, bd3_s, bd4_s, q_gt, q_inB, ↓q_m1, l_166, l_172, l_180, l_188, l_189, l_190, l_191, l_192, l_14, l_17, l_18, l_0, l_1, l_2, l_3, l_4, l_5, l_6, l_7, l_8, l_9, l_10, l_11, l_12, l_20, l_21, l_30, l_31, l_32, l_40, l_48, l_50, l_51, l_57, l_60, l_70, l_71, l_99, l_100, l_101, l_160, l_199, l_200, l_999, l_1000, q_tn, q_add, q_mul, q_sub, q_le, q_lt, q_eq, q_31, n_and, n_or, n_xor, q_shl, q_z, q_b0, q_b1, q_bz, q_em, q_me, q_mm, q_lm, q_ml, q_mle, q_lem, s2_eq, s2_ne, pk_us, pk_un, uN_s, uN_n, if_pos, if_neg, ite_true, ite_false, if_true, if_false, not_true, not_false_iff, Nat.add_zero, Nat.zero_add, inR_t, isIx_t, bI_t, bI_f, neg1, q_clr, p6_isShelf, w7_sh, p0, f_X6_says_J14, f_X7_says_J20, r6_, r7_, r7_1]
    exact sim_i ⟨rfl, Inv_ref I0 (by omega)⟩
  · rcases ixl x2 7 (by omega) with o0 | ⟨z, hz, rfl, o1⟩
    · simp (disch := omega) only [nm_s, bd_s, bd2_s, bd3_s, bd4_s, q_gt, q_inB, ↓q_m1, l_166, l_172, l_180, l_188, l_189, l_190, l_191, l_192, l_14, l_17, l_18, l_0, l_1, l_2, l_3, l_4, l_5, l_6, l_7, l_8, l_9, l_10, l_11, l_12, l_20, l_21, l_30, l_31, l_32, l_40, l_48, l_50, l_51, l_57, l_60, l_70, l_71, l_99, l_100, l_101, l_160, l_199, l_200, l_999, l_1000, q_tn, q_add, q_mul, q_sub, q_le, q_lt, q_eq, q_31, n_and, n_or, n_xor, q_shl, q_z, q_b0, q_b1, q_bz, q_em, q_me, q_mm, q_lm, q_ml, q_mle, q_lem, s2_eq, s2_ne, pk_us, pk_un, uN_s, uN_n, if_pos, if_neg, ite_true, ite_false, if_true, if_false, not_true, not_false_iff, Nat.add_zero, Nat.zero_add, inR_t, isIx_t, bI_t, bI_f, neg1, q_clr, p6_isShelf, w7_sh, p6_isKind, w7_ix, o0, f_X6_says_J14, f_X7_says_J20, r6_, r7_, r7_1]
      exact sim_i ⟨rfl, Inv_ref I0 (by omega)⟩
    · rcases A with ⟨h1, h2⟩ | ⟨p, hp, h1, h2⟩ | ⟨k, L, hA⟩
      · simp (disch := omega) only [nm_s, bd_s, bd2_s, bd3_s, bd4_s, q_gt, q_inB, ↓q_m1, l_166, l_172, l_180, l_188, l_189, l_190, l_191, l_192, l_14, l_17, l_18, l_0, l_1, l_2, l_3, l_4, l_5, l_6, l_7, l_8, l_9, l_10, l_11, l_12, l_20, l_21, l_30, l_31, l_32, l_40, l_48, l_50, l_51, l_57, l_60, l_70, l_71, l_99, l_100, l_101, l_160, l_199, l_200, l_999, l_1000, q_tn, q_add, q_mul, q_sub, q_le, q_lt, q_eq, q_31, n_and, n_or, n_xor, q_shl, q_z, q_b0, q_b1, q_bz, q_em, q_me, q_mm, q_lm, q_ml, q_mle, q_lem, s2_eq, s2_ne, pk_us, pk_un, uN_s, uN_n, if_pos, if_neg, ite_true, ite_false, if_true, if_false, not_true, not_false_iff, Nat.add_zero, Nat.zero_add, inR_t, isIx_t, bI_t, bI_f, neg1, q_clr, p6_isShelf, w7_sh, p6_isKind, w7_ix, h1, h2, f_X7_says_J65, r6_, r7_]
        exact sim_i ⟨rfl, Inv_ref I0 (by omega)⟩
      · have hk := (w.1.2.1 p hp).1
        have u6 := pR_isUnder (g 1 p) hk z hz
        have u7 := pM_isUnder (g 1 p) hk z hz
        cases hu : underK (g 1 p) z with
        | false =>
          rw [hu] at u6 u7
          simp (disch := omega) only [nm_s, bd_s, bd2_s, bd3_s, bd4_s, q_gt, q_inB, ↓q_m1, l_166, l_172, l_180, l_188, l_189, l_190, l_191, l_192, l_14, l_17, l_18, l_0, l_1, l_2, l_3, l_4, l_5, l_6, l_7, l_8, l_9, l_10, l_11, l_12, l_20, l_21, l_30, l_31, l_32, l_40, l_48, l_50, l_51, l_57, l_60, l_70, l_71, l_99, l_100, l_101, l_160, l_199, l_200, l_999, l_1000, q_tn, q_add, q_mul, q_sub, q_le, q_lt, q_eq, q_31, n_and, n_or, n_xor, q_shl, q_z, q_b0, q_b1, q_bz, q_em, q_me, q_mm, q_lm, q_ml, q_mle, q_lem, s2_eq, s2_ne, pk_us, pk_un, uN_s, uN_n, if_pos, if_neg, ite_true, ite_false, if_true, if_false, not_true, not_false_iff, Nat.add_zero, Nat.zero_add, inR_t, isIx_t, bI_t, bI_f, neg1, q_clr, p6_isShelf, w7_sh, p6_isKind, w7_ix, h1, h2, pR_isPeak h, h.c3, m.c5, f_X7_isRow, u6, u7, f_X6_says_J65, f_X7_says_J58, r6_, r7_]
          exact sim_i ⟨rfl, Inv_ref I0 (by omega)⟩
        | true =>
          rw [hu] at u6 u7
          have hbl := lt31 (black_lt g (aY g)) (by omega)
          have e1 := p_bit (w := black g (aY g)) (i := p) (by omega) (by omega)
          have e2 := pM_has (w := black g (aY g)) (i := p) (by omega) (by omega)
          have bk : f_X6_said_J44 r0 (nI p) = some (bI ((black g (aY g)).testBit p)) := by
            unfold f_X6_said_J44
            simp (disch := omega) only [nm_s, bd_s, bd2_s, bd3_s, bd4_s, q_gt, q_inB, ↓q_m1, l_166, l_172, l_180, l_188, l_189, l_190, l_191, l_192, l_14, l_17, l_18, l_0, l_1, l_2, l_3, l_4, l_5, l_6, l_7, l_8, l_9, l_10, l_11, l_12, l_20, l_21, l_30, l_31, l_32, l_40, l_48, l_50, l_51, l_57, l_60, l_70, l_71, l_99, l_100, l_101, l_160, l_199, l_200, l_999, l_1000, q_tn, q_add, q_mul, q_sub, q_le, q_lt, q_eq, q_31, n_and, n_or, n_xor, q_shl, q_z, q_b0, q_b1, q_bz, q_em, q_me, q_mm, q_lm, q_ml, q_mle, q_lem, s2_eq, s2_ne, pk_us, pk_un, uN_s, uN_n, if_pos, if_neg, ite_true, ite_false, if_true, if_false, not_true, not_false_iff, Nat.add_zero, Nat.zero_add, inR_t, isIx_t, bI_t, bI_f, neg1, q_clr, h.cy, pR_blackIn h w.1, e1]
          have bm : f_X7_says_J119 (nI p) sm = some (bI ((black g (aY g)).testBit p), sm) := by
            unfold f_X7_says_J119
            cases hb : (black g (aY g)).testBit p with
            | true =>
              rw [hb] at e2
              simp (disch := omega) only [nm_s, bd_s, bd2_s, bd3_s, bd4_s, q_gt, q_inB, ↓q_m1, l_166, l_172, l_180, l_188, l_189, l_190, l_191, l_192, l_14, l_17, l_18, l_0, l_1, l_2, l_3, l_4, l_5, l_6, l_7, l_8, l_9, l_10, l_11, l_12, l_20, l_21, l_30, l_31, l_32, l_40, l_48, l_50, l_51, l_57, l_60, l_70, l_71, l_99, l_100, l_101, l_160, l_199, l_200, l_999, l_1000, q_tn, q_add, q_mul, q_sub, q_le, q_lt, q_eq, q_31, n_and, n_or, n_xor, q_shl, q_z, q_b0, q_b1, q_bz, q_em, q_me, q_mm, q_lm, q_ml, q_mle, q_lem, s2_eq, s2_ne, pk_us, pk_un, uN_s, uN_n, if_pos, if_neg, ite_true, ite_false, if_true, if_false, not_true, not_false_iff, Nat.add_zero, Nat.zero_add, inR_t, isIx_t, bI_t, bI_f, neg1, q_clr, pM_blacks m w.1, e2]
            | false =>
              rw [hb] at e2
              simp (disch := omega) only [nm_s, bd_s, bd2_s, bd3_s, bd4_s, q_gt, q_inB, ↓q_m1, l_166, l_172, l_180, l_188, l_189, l_190, l_191, l_192, l_14, l_17, l_18, l_0, l_1, l_2, l_3, l_4, l_5, l_6, l_7, l_8, l_9, l_10, l_11, l_12, l_20, l_21, l_30, l_31, l_32, l_40, l_48, l_50, l_51, l_57, l_60, l_70, l_71, l_99, l_100, l_101, l_160, l_199, l_200, l_999, l_1000, q_tn, q_add, q_mul, q_sub, q_le, q_lt, q_eq, q_31, n_and, n_or, n_xor, q_shl, q_z, q_b0, q_b1, q_bz, q_em, q_me, q_mm, q_lm, q_ml, q_mle, q_lem, s2_eq, s2_ne, pk_us, pk_un, uN_s, uN_n, if_pos, if_neg, ite_true, ite_false, if_true, if_false, not_true, not_false_iff, Nat.add_zero, Nat.zero_add, inR_t, isIx_t, bI_t, bI_f, neg1, q_clr, pM_blacks m w.1, e2]
          have mk : f_X6_said_J63 r0 (nI p) = some (nI (mournY (g 1 p) (g 2 p) 100)) := by
            unfold f_X6_said_J63
            simp (disch := omega) only [nm_s, bd_s, bd2_s, bd3_s, bd4_s, q_gt, q_inB, ↓q_m1, l_166, l_172, l_180, l_188, l_189, l_190, l_191, l_192, l_14, l_17, l_18, l_0, l_1, l_2, l_3, l_4, l_5, l_6, l_7, l_8, l_9, l_10, l_11, l_12, l_20, l_21, l_30, l_31, l_32, l_40, l_48, l_50, l_51, l_57, l_60, l_70, l_71, l_99, l_100, l_101, l_160, l_199, l_200, l_999, l_1000, q_tn, q_add, q_mul, q_sub, q_le, q_lt, q_eq, q_31, n_and, n_or, n_xor, q_shl, q_z, q_b0, q_b1, q_bz, q_em, q_me, q_mm, q_lm, q_ml, q_mle, q_lem, s2_eq, s2_ne, pk_us, pk_un, uN_s, uN_n, if_pos, if_neg, ite_true, ite_false, if_true, if_false, not_true, not_false_iff, Nat.add_zero, Nat.zero_add, inR_t, isIx_t, bI_t, bI_f, neg1, q_clr, pR_mournedYears h w.1]
          have mm : f_X7_says_J149 (nI p) sm = some (nI (mournY (g 1 p) (g 2 p) 100), sm) := by
            unfold f_X7_says_J149
            simp (disch := omega) only [nm_s, bd_s, bd2_s, bd3_s, bd4_s, q_gt, q_inB, ↓q_m1, l_166, l_172, l_180, l_188, l_189, l_190, l_191, l_192, l_14, l_17, l_18, l_0, l_1, l_2, l_3, l_4, l_5, l_6, l_7, l_8, l_9, l_10, l_11, l_12, l_20, l_21, l_30, l_31, l_32, l_40, l_48, l_50, l_51, l_57, l_60, l_70, l_71, l_99, l_100, l_101, l_160, l_199, l_200, l_999, l_1000, q_tn, q_add, q_mul, q_sub, q_le, q_lt, q_eq, q_31, n_and, n_or, n_xor, q_shl, q_z, q_b0, q_b1, q_bz, q_em, q_me, q_mm, q_lm, q_ml, q_mle, q_lem, s2_eq, s2_ne, pk_us, pk_un, uN_s, uN_n, if_pos, if_neg, ite_true, ite_false, if_true, if_false, not_true, not_false_iff, Nat.add_zero, Nat.zero_add, inR_t, isIx_t, bI_t, bI_f, neg1, q_clr, pM_mourns m w.1]
          rcases (by omega : z = 0 ∨ z = 1 ∨ z = 2 ∨ z = 3 ∨ z = 4 ∨ z = 5 ∨ z = 6) with rfl | rfl | rfl | rfl | rfl | rfl | rfl
          · simp (disch := omega) only [nm_s, bd_s, bd2_s, bd3_s, bd4_s, q_gt, q_inB, ↓q_m1, l_166, l_172, l_180, l_188, l_189, l_190, l_191, l_192, l_14, l_17, l_18, l_0, l_1, l_2, l_3, l_4, l_5, l_6, l_7, l_8, l_9, l_10, l_11, l_12, l_20, l_21, l_30, l_31, l_32, l_40, l_48, l_50, l_51, l_57, l_60, l_70, l_71, l_99, l_100, l_101, l_160, l_199, l_200, l_999, l_1000, q_tn, q_add, q_mul, q_sub, q_le, q_lt, q_eq, q_31, n_and, n_or, n_xor, q_shl, q_z, q_b0, q_b1, q_bz, q_em, q_me, q_mm, q_lm, q_ml, q_mle, q_lem, s2_eq, s2_ne, pk_us, pk_un, uN_s, uN_n, if_pos, if_neg, ite_true, ite_false, if_true, if_false, not_true, not_false_iff, Nat.add_zero, Nat.zero_add, inR_t, isIx_t, bI_t, bI_f, neg1, q_clr, p6_isShelf, w7_sh, p6_isKind, w7_ix, h1, h2, pR_isPeak h, h.c3, m.c5, f_X7_isRow, u6, u7, f_X6_said, f_X7_says_J65, h.c6, m.c8]
            exact sim_i ⟨rfl, I0⟩
          · simp (disch := omega) only [nm_s, bd_s, bd2_s, bd3_s, bd4_s, q_gt, q_inB, ↓q_m1, l_166, l_172, l_180, l_188, l_189, l_190, l_191, l_192, l_14, l_17, l_18, l_0, l_1, l_2, l_3, l_4, l_5, l_6, l_7, l_8, l_9, l_10, l_11, l_12, l_20, l_21, l_30, l_31, l_32, l_40, l_48, l_50, l_51, l_57, l_60, l_70, l_71, l_99, l_100, l_101, l_160, l_199, l_200, l_999, l_1000, q_tn, q_add, q_mul, q_sub, q_le, q_lt, q_eq, q_31, n_and, n_or, n_xor, q_shl, q_z, q_b0, q_b1, q_bz, q_em, q_me, q_mm, q_lm, q_ml, q_mle, q_lem, s2_eq, s2_ne, pk_us, pk_un, uN_s, uN_n, if_pos, if_neg, ite_true, ite_false, if_true, if_false, not_true, not_false_iff, Nat.add_zero, Nat.zero_add, inR_t, isIx_t, bI_t, bI_f, neg1, q_clr, p6_isShelf, w7_sh, p6_isKind, w7_ix, h1, h2, pR_isPeak h, h.c3, m.c5, f_X7_isRow, u6, u7, f_X6_said, f_X7_says_J65, bk, bm]
            exact sim_i ⟨rfl, I0⟩
          · simp (disch := omega) only [nm_s, bd_s, bd2_s, bd3_s, bd4_s, q_gt, q_inB, ↓q_m1, l_166, l_172, l_180, l_188, l_189, l_190, l_191, l_192, l_14, l_17, l_18, l_0, l_1, l_2, l_3, l_4, l_5, l_6, l_7, l_8, l_9, l_10, l_11, l_12, l_20, l_21, l_30, l_31, l_32, l_40, l_48, l_50, l_51, l_57, l_60, l_70, l_71, l_99, l_100, l_101, l_160, l_199, l_200, l_999, l_1000, q_tn, q_add, q_mul, q_sub, q_le, q_lt, q_eq, q_31, n_and, n_or, n_xor, q_shl, q_z, q_b0, q_b1, q_bz, q_em, q_me, q_mm, q_lm, q_ml, q_mle, q_lem, s2_eq, s2_ne, pk_us, pk_un, uN_s, uN_n, if_pos, if_neg, ite_true, ite_false, if_true, if_false, not_true, not_false_iff, Nat.add_zero, Nat.zero_add, inR_t, isIx_t, bI_t, bI_f, neg1, q_clr, p6_isShelf, w7_sh, p6_isKind, w7_ix, h1, h2, pR_isPeak h, h.c3, m.c5, f_X7_isRow, u6, u7, f_X6_said, f_X7_says_J65, mk, mm]
            exact sim_i ⟨rfl, I0⟩
          · simp (disch := omega) only [nm_s, bd_s, bd2_s, bd3_s, bd4_s, q_gt, q_inB, ↓q_m1, l_166, l_172, l_180, l_188, l_189, l_190, l_191, l_192, l_14, l_17, l_18, l_0, l_1, l_2, l_3, l_4, l_5, l_6, l_7, l_8, l_9, l_10, l_11, l_12, l_20, l_21, l_30, l_31, l_32, l_40, l_48, l_50, l_51, l_57, l_60, l_70, l_71, l_99, l_100, l_101, l_160, l_199, l_200, l_999, l_1000, q_tn, q_add, q_mul, q_sub, q_le, q_lt, q_eq, q_31, n_and, n_or, n_xor, q_shl, q_z, q_b0, q_b1, q_bz, q_em, q_me, q_mm, q_lm, q_ml, q_mle, q_lem, s2_eq, s2_ne, pk_us, pk_un, uN_s, uN_n, if_pos, if_neg, ite_true, ite_false, if_true, if_false, not_true, not_false_iff, Nat.add_zero, Nat.zero_add, inR_t, isIx_t, bI_t, bI_f, neg1, q_clr, p6_isShelf, w7_sh, p6_isKind, w7_ix, h1, h2, pR_isPeak h, h.c3, m.c5, f_X7_isRow, u6, u7, f_X6_said, f_X7_says_J65, bk, bm]
            exact sim_i ⟨rfl, I0⟩
          · simp (disch := omega) only [nm_s, bd_s, bd2_s, bd3_s, bd4_s, q_gt, q_inB, ↓q_m1, l_166, l_172, l_180, l_188, l_189, l_190, l_191, l_192, l_14, l_17, l_18, l_0, l_1, l_2, l_3, l_4, l_5, l_6, l_7, l_8, l_9, l_10, l_11, l_12, l_20, l_21, l_30, l_31, l_32, l_40, l_48, l_50, l_51, l_57, l_60, l_70, l_71, l_99, l_100, l_101, l_160, l_199, l_200, l_999, l_1000, q_tn, q_add, q_mul, q_sub, q_le, q_lt, q_eq, q_31, n_and, n_or, n_xor, q_shl, q_z, q_b0, q_b1, q_bz, q_em, q_me, q_mm, q_lm, q_ml, q_mle, q_lem, s2_eq, s2_ne, pk_us, pk_un, uN_s, uN_n, if_pos, if_neg, ite_true, ite_false, if_true, if_false, not_true, not_false_iff, Nat.add_zero, Nat.zero_add, inR_t, isIx_t, bI_t, bI_f, neg1, q_clr, p6_isShelf, w7_sh, p6_isKind, w7_ix, h1, h2, pR_isPeak h, h.c3, m.c5, m.c6, f_X7_isRow, u6, u7, f_X6_said, f_X7_says_J65, pR_sightOf h w.1]
            exact sim_i ⟨rfl, I0⟩
          · simp (disch := omega) only [nm_s, bd_s, bd2_s, bd3_s, bd4_s, q_gt, q_inB, ↓q_m1, l_166, l_172, l_180, l_188, l_189, l_190, l_191, l_192, l_14, l_17, l_18, l_0, l_1, l_2, l_3, l_4, l_5, l_6, l_7, l_8, l_9, l_10, l_11, l_12, l_20, l_21, l_30, l_31, l_32, l_40, l_48, l_50, l_51, l_57, l_60, l_70, l_71, l_99, l_100, l_101, l_160, l_199, l_200, l_999, l_1000, q_tn, q_add, q_mul, q_sub, q_le, q_lt, q_eq, q_31, n_and, n_or, n_xor, q_shl, q_z, q_b0, q_b1, q_bz, q_em, q_me, q_mm, q_lm, q_ml, q_mle, q_lem, s2_eq, s2_ne, pk_us, pk_un, uN_s, uN_n, if_pos, if_neg, ite_true, ite_false, if_true, if_false, not_true, not_false_iff, Nat.add_zero, Nat.zero_add, inR_t, isIx_t, bI_t, bI_f, neg1, q_clr, p6_isShelf, w7_sh, p6_isKind, w7_ix, h1, h2, pR_isPeak h, h.c3, m.c5, f_X7_isRow, u6, u7, f_X6_said, f_X7_says_J65, mk, mm]
            exact sim_i ⟨rfl, I0⟩
          · simp (disch := omega) only [nm_s, bd_s, bd2_s, bd3_s, bd4_s, q_gt, q_inB, ↓q_m1, l_166, l_172, l_180, l_188, l_189, l_190, l_191, l_192, l_14, l_17, l_18, l_0, l_1, l_2, l_3, l_4, l_5, l_6, l_7, l_8, l_9, l_10, l_11, l_12, l_20, l_21, l_30, l_31, l_32, l_40, l_48, l_50, l_51, l_57, l_60, l_70, l_71, l_99, l_100, l_101, l_160, l_199, l_200, l_999, l_1000, q_tn, q_add, q_mul, q_sub, q_le, q_lt, q_eq, q_31, n_and, n_or, n_xor, q_shl, q_z, q_b0, q_b1, q_bz, q_em, q_me, q_mm, q_lm, q_ml, q_mle, q_lem, s2_eq, s2_ne, pk_us, pk_un, uN_s, uN_n, if_pos, if_neg, ite_true, ite_false, if_true, if_false, not_true, not_false_iff, Nat.add_zero, Nat.zero_add, inR_t, isIx_t, bI_t, bI_f, neg1, q_clr, p6_isShelf, w7_sh, p6_isKind, w7_ix, h1, h2, pR_isPeak h, h.c3, m.c5, f_X7_isRow, u6, u7, f_X6_said, f_X7_says_J65, mk, mm]
            exact sim_i ⟨rfl, I0⟩
      · obtain ⟨⟨_, hk, hL⟩, ⟨c1, c2⟩, ⟨c3, c4, c5⟩, c6⟩ := hA
        have hnp : isIx (nI (100 + k)) (aP g) = false := by
          rw [isIx_n (by omega) (by omega), decide_eq_false (by omega)]
        simp (disch := omega) only [nm_s, bd_s, bd2_s, bd3_s, bd4_s, q_gt, q_inB, ↓q_m1, l_166, l_172, l_180, l_188, l_189, l_190, l_191, l_192, l_14, l_17, l_18, l_0, l_1, l_2, l_3, l_4, l_5, l_6, l_7, l_8, l_9, l_10, l_11, l_12, l_20, l_21, l_30, l_31, l_32, l_40, l_48, l_50, l_51, l_57, l_60, l_70, l_71, l_99, l_100, l_101, l_160, l_199, l_200, l_999, l_1000, q_tn, q_add, q_mul, q_sub, q_le, q_lt, q_eq, q_31, n_and, n_or, n_xor, q_shl, q_z, q_b0, q_b1, q_bz, q_em, q_me, q_mm, q_lm, q_ml, q_mle, q_lem, s2_eq, s2_ne, pk_us, pk_un, uN_s, uN_n, if_pos, if_neg, ite_true, ite_false, if_true, if_false, not_true, not_false_iff, Nat.add_zero, Nat.zero_add, inR_t, isIx_t, bI_t, bI_f, neg1, q_clr, p6_isShelf, w7_sh, p6_isKind, w7_ix, c1, c2, pR_isPeak h, hnp, f_X7_isRow, f_X6_says_J65, f_X7_says_J58, r6_, r7_]
        exact sim_i ⟨rfl, Inv_ref I0 (by omega)⟩
theorem sim_image (I : Inv B so r0 r1 rw re sv sm sq) : SimP (f_X6_image so r0 r1) (f_X7_image sm) (fun x y => x.1 = y.1 ∧ Inv B x.2.1 r0 x.2.2 rw re sv y.2 sq) := by
  obtain ⟨g, ⟨h, m, w, hd⟩, hf, hs, hc, ht, hi⟩ := I
  unfold f_X6_image f_X7_image
  obtain ⟨z, e, h1, h2⟩ := pR_become (r := r1) h w.1
  have m1 : RepM g (s2 sm 0 (upd (sm 0) 23 (nI 1))) := ⟨⟨m.c0, m.cs, m.cv, m.cy⟩, m.2⟩
  obtain ⟨f, e2, h3, h4⟩ := keepM (B := B) (K := 25) (by omega) m1
  simp (disch := omega) only [nm_s, bd_s, bd2_s, bd3_s, bd4_s, q_gt, q_inB, ↓q_m1, l_166, l_172, l_180, l_188, l_189, l_190, l_191, l_192, l_14, l_17, l_18, l_0, l_1, l_2, l_3, l_4, l_5, l_6, l_7, l_8, l_9, l_10, l_11, l_12, l_20, l_21, l_30, l_31, l_32, l_40, l_48, l_50, l_51, l_57, l_60, l_70, l_71, l_99, l_100, l_101, l_160, l_199, l_200, l_999, l_1000, q_tn, q_add, q_mul, q_sub, q_le, q_lt, q_eq, q_31, n_and, n_or, n_xor, q_shl, q_z, q_b0, q_b1, q_bz, q_em, q_me, q_mm, q_lm, q_ml, q_mle, q_lem, s2_eq, s2_ne, pk_us, pk_un, uN_s, uN_n, if_pos, if_neg, ite_true, ite_false, if_true, if_false, not_true, not_false_iff, Nat.add_zero, Nat.zero_add, inR_t, isIx_t, bI_t, bI_f, neg1, q_clr, e, e2, h.c0]
  refine sim_i ⟨?_, g, ⟨h, h4, w, hd⟩, hf, fun i hi => ?_, fun i hi => hc i hi, ?_, true, rfl, rfl, fun _ => ⟨g, h1, ?_, w⟩⟩
  · exact h4.c0.symm
  · obtain ⟨a, b⟩ := hs i hi
    exact ⟨a, ShR_ne b rfl rfl rfl rfl (fun _ _ => rfl)⟩
  · obtain ⟨t, t1, t2, t3, t4⟩ := ht
    exact ⟨t, t1, t2, t3, t4⟩
  · show HoldM g (z 0 17) f
    rw [h2, hd]
    exact h3
-- restore
def rst (P : Nat) (v : Int32) : Int32 := if nI 100 ≤ v then v else if v < nI P then v else mI
theorem rst_m {P : Nat} (hP : P < 2147483648) : rst P mI = mI := by
  unfold rst
  simp (disch := omega) only [nm_s, bd_s, bd2_s, bd3_s, bd4_s, q_gt, q_inB, ↓q_m1, l_166, l_172, l_180, l_188, l_189, l_190, l_191, l_192, l_14, l_17, l_18, l_0, l_1, l_2, l_3, l_4, l_5, l_6, l_7, l_8, l_9, l_10, l_11, l_12, l_20, l_21, l_30, l_31, l_32, l_40, l_48, l_50, l_51, l_57, l_60, l_70, l_71, l_99, l_100, l_101, l_160, l_199, l_200, l_999, l_1000, q_tn, q_add, q_mul, q_sub, q_le, q_lt, q_eq, q_31, n_and, n_or, n_xor, q_shl, q_z, q_b0, q_b1, q_bz, q_em, q_me, q_mm, q_lm, q_ml, q_mle, q_lem, s2_eq, s2_ne, pk_us, pk_un, uN_s, uN_n, if_pos, if_neg, ite_true, ite_false, if_true, if_false, not_true, not_false_iff, Nat.add_zero, Nat.zero_add, inR_t, isIx_t, bI_t, bI_f, neg1, q_clr]
theorem rst_r {P k : Nat} (hk : k < 4) : rst P (nI (100 + k)) = nI (100 + k) := by
  unfold rst
  simp (disch := omega) only [nm_s, bd_s, bd2_s, bd3_s, bd4_s, q_gt, q_inB, ↓q_m1, l_166, l_172, l_180, l_188, l_189, l_190, l_191, l_192, l_14, l_17, l_18, l_0, l_1, l_2, l_3, l_4, l_5, l_6, l_7, l_8, l_9, l_10, l_11, l_12, l_20, l_21, l_30, l_31, l_32, l_40, l_48, l_50, l_51, l_57, l_60, l_70, l_71, l_99, l_100, l_101, l_160, l_199, l_200, l_999, l_1000, q_tn, q_add, q_mul, q_sub, q_le, q_lt, q_eq, q_31, n_and, n_or, n_xor, q_shl, q_z, q_b0, q_b1, q_bz, q_em, q_me, q_mm, q_lm, q_ml, q_mle, q_lem, s2_eq, s2_ne, pk_us, pk_un, uN_s, uN_n, if_pos, if_neg, ite_true, ite_false, if_true, if_false, not_true, not_false_iff, Nat.add_zero, Nat.zero_add, inR_t, isIx_t, bI_t, bI_f, neg1, q_clr]
theorem rst_p {P p : Nat} (hp : p < 10) (hP : P ≤ 10) : rst P (nI p) = if p < P then nI p else mI := by
  unfold rst
  by_cases h : p < P
  · simp (disch := omega) only [nm_s, bd_s, bd2_s, bd3_s, bd4_s, q_gt, q_inB, ↓q_m1, l_166, l_172, l_180, l_188, l_189, l_190, l_191, l_192, l_14, l_17, l_18, l_0, l_1, l_2, l_3, l_4, l_5, l_6, l_7, l_8, l_9, l_10, l_11, l_12, l_20, l_21, l_30, l_31, l_32, l_40, l_48, l_50, l_51, l_57, l_60, l_70, l_71, l_99, l_100, l_101, l_160, l_199, l_200, l_999, l_1000, q_tn, q_add, q_mul, q_sub, q_le, q_lt, q_eq, q_31, n_and, n_or, n_xor, q_shl, q_z, q_b0, q_b1, q_bz, q_em, q_me, q_mm, q_lm, q_ml, q_mle, q_lem, s2_eq, s2_ne, pk_us, pk_un, uN_s, uN_n, if_pos, if_neg, ite_true, ite_false, if_true, if_false, not_true, not_false_iff, Nat.add_zero, Nat.zero_add, inR_t, isIx_t, bI_t, bI_f, neg1, q_clr]
  · simp (disch := omega) only [nm_s, bd_s, bd2_s, bd3_s, bd4_s, q_gt, q_inB, ↓q_m1, l_166, l_172, l_180, l_188, l_189, l_190, l_191, l_192, l_14, l_17, l_18, l_0, l_1, l_2, l_3, l_4, l_5, l_6, l_7, l_8, l_9, l_10, l_11, l_12, l_20, l_21, l_30, l_31, l_32, l_40, l_48, l_50, l_51, l_57, l_60, l_70, l_71, l_99, l_100, l_101, l_160, l_199, l_200, l_999, l_1000, q_tn, q_add, q_mul, q_sub, q_le, q_lt, q_eq, q_31, n_and, n_or, n_xor, q_shl, q_z, q_b0, q_b1, q_bz, q_em, q_me, q_mm, q_lm, q_ml, q_mle, q_lem, s2_eq, s2_ne, pk_us, pk_un, uN_s, uN_n, if_pos, if_neg, ite_true, ite_false, if_true, if_false, not_true, not_false_iff, Nat.add_zero, Nat.zero_add, inR_t, isIx_t, bI_t, bI_f, neg1, q_clr]
theorem pR_restore_L27 (hr : r0 0 0 = nI P) : ∀ (n j : Nat) (F : Nat → Int32), j ≤ 8 → 8 - j < n → (∀ t, t < 8 → F t = if t < j then rst P (so 6 t) else so 6 t) → ∃ F', f_X6_restore_L27 r0 n (nI j) (s2 so 6 F) = some (nI P, s2 so 6 F', r0) ∧ ∀ t, t < 8 → F' t = rst P (so 6 t)
  | 0, j, F, _, h2, _ => by omega
  | n + 1, j, F, h1, h2, h3 => by
    rw [f_X6_restore_L27.eq_2]
    by_cases hj : j < 8
    · have hv : F j = so 6 j := by rw [h3 j hj, if_neg (by omega)]
      have next : ∀ F2 : Nat → Int32, (∀ t, t < 8 → F2 t = if t = j then rst P (so 6 j) else F t) → ∃ F', f_X6_restore_L27 r0 n (nI (j + 1)) (s2 so 6 F2) = some (nI P, s2 so 6 F', r0) ∧ ∀ t, t < 8 → F' t = rst P (so 6 t) := fun F2 hF => by
        refine pR_restore_L27 hr n (j + 1) F2 (by omega) (by omega) (fun t ht => ?_)
        rw [hF t ht]
        by_cases htj : t = j
        · subst htj
          rw [if_pos rfl, if_pos (by omega)]
        · rw [if_neg htj, h3 t ht]
          by_cases h5 : t < j
          · rw [if_pos h5, if_pos (by omega)]
          · rw [if_neg h5, if_neg (by omega)]
      have same : rst P (so 6 j) = so 6 j → ∀ t, t < 8 → F t = if t = j then rst P (so 6 j) else F t := fun he t ht => by
        by_cases htj : t = j
        · rw [if_pos htj, he, htj, hv]
        · rw [if_neg htj]
      by_cases c1 : nI 100 ≤ so 6 j
      · have he : rst P (so 6 j) = so 6 j := if_pos c1
        simp (disch := omega) only [nm_s, bd_s, bd2_s, bd3_s, bd4_s, q_gt, q_inB, ↓q_m1, l_166, l_172, l_180, l_188, l_189, l_190, l_191, l_192, l_14, l_17, l_18, l_0, l_1, l_2, l_3, l_4, l_5, l_6, l_7, l_8, l_9, l_10, l_11, l_12, l_20, l_21, l_30, l_31, l_32, l_40, l_48, l_50, l_51, l_57, l_60, l_70, l_71, l_99, l_100, l_101, l_160, l_199, l_200, l_999, l_1000, q_tn, q_add, q_mul, q_sub, q_le, q_lt, q_eq, q_31, n_and, n_or, n_xor, q_shl, q_z, q_b0, q_b1, q_bz, q_em, q_me, q_mm, q_lm, q_ml, q_mle, q_lem, s2_eq, s2_ne, pk_us, pk_un, uN_s, uN_n, if_pos, if_neg, ite_true, ite_false, if_true, if_false, not_true, not_false_iff, Nat.add_zero, Nat.zero_add, inR_t, isIx_t, bI_t, bI_f, neg1, q_clr, hv, c1]
        exact next F (same he)
      · by_cases c2 : so 6 j < nI P
        · have he : rst P (so 6 j) = so 6 j := by unfold rst; rw [if_neg c1, if_pos c2]
          simp (disch := omega) only [nm_s, bd_s, bd2_s, bd3_s, bd4_s, q_gt, q_inB, ↓q_m1, l_166, l_172, l_180, l_188, l_189, l_190, l_191, l_192, l_14, l_17, l_18, l_0, l_1, l_2, l_3, l_4, l_5, l_6, l_7, l_8, l_9, l_10, l_11, l_12, l_20, l_21, l_30, l_31, l_32, l_40, l_48, l_50, l_51, l_57, l_60, l_70, l_71, l_99, l_100, l_101, l_160, l_199, l_200, l_999, l_1000, q_tn, q_add, q_mul, q_sub, q_le, q_lt, q_eq, q_31, n_and, n_or, n_xor, q_shl, q_z, q_b0, q_b1, q_bz, q_em, q_me, q_mm, q_lm, q_ml, q_mle, q_lem, s2_eq, s2_ne, pk_us, pk_un, uN_s, uN_n, if_pos, if_neg, ite_true, ite_false, if_true, if_false, not_true, not_false_iff, Nat.add_zero, Nat.zero_add, inR_t, isIx_t, bI_t, bI_f, neg1, q_clr, hv, c1, hr, c2]
          exact next F (same he)
        · have he : rst P (so 6 j) = mI := by unfold rst; rw [if_neg c1, if_neg c2]
          simp (disch := omega) only [nm_s, bd_s, bd2_s, bd3_s, bd4_s, q_gt, q_inB, ↓q_m1, l_166, l_172, l_180, l_188, l_189, l_190, l_191, l_192, l_14, l_17, l_18, l_0, l_1, l_2, l_3, l_4, l_5, l_6, l_7, l_8, l_9, l_10, l_11, l_12, l_20, l_21, l_30, l_31, l_32, l_40, l_48, l_50, l_51, l_57, l_60, l_70, l_71, l_99, l_100, l_101, l_160, l_199, l_200, l_999, l_1000, q_tn, q_add, q_mul, q_sub, q_le, q_lt, q_eq, q_31, n_and, n_or, n_xor, q_shl, q_z, q_b0, q_b1, q_bz, q_em, q_me, q_mm, q_lm, q_ml, q_mle, q_lem, s2_eq, s2_ne, pk_us, pk_un, uN_s, uN_n, if_pos, if_neg, ite_true, ite_false, if_true, if_false, not_true, not_false_iff, Nat.add_zero, Nat.zero_add, inR_t, isIx_t, bI_t, bI_f, neg1, q_clr, hv, c1, hr, c2, s2_s2]
          refine next _ (fun t ht => ?_)
          by_cases htj : t = j
          · rw [if_pos htj, he, htj, pk_us]
          · rw [if_neg htj, pk_un htj]
    · have : j = 8 := by omega
      subst this
      simp (disch := omega) only [nm_s, bd_s, bd2_s, bd3_s, bd4_s, q_gt, q_inB, ↓q_m1, l_166, l_172, l_180, l_188, l_189, l_190, l_191, l_192, l_14, l_17, l_18, l_0, l_1, l_2, l_3, l_4, l_5, l_6, l_7, l_8, l_9, l_10, l_11, l_12, l_20, l_21, l_30, l_31, l_32, l_40, l_48, l_50, l_51, l_57, l_60, l_70, l_71, l_99, l_100, l_101, l_160, l_199, l_200, l_999, l_1000, q_tn, q_add, q_mul, q_sub, q_le, q_lt, q_eq, q_31, n_and, n_or, n_xor, q_shl, q_z, q_b0, q_b1, q_bz, q_em, q_me, q_mm, q_lm, q_ml, q_mle, q_lem, s2_eq, s2_ne, pk_us, pk_un, uN_s, uN_n, if_pos, if_neg, ite_true, ite_false, if_true, if_false, not_true, not_false_iff, Nat.add_zero, Nat.zero_add, inR_t, isIx_t, bI_t, bI_f, neg1, q_clr, hr]
      exact ⟨F, rfl, fun t ht => by rw [h3 t ht, if_pos ht]⟩
theorem pM_restore_L24 (hr : sm 0 3 = nI P) : ∀ (n j : Nat) (F : Nat → Int32), j ≤ 8 → 8 - j < n → (∀ t, t < 8 → F t = if t < j then rst P (sm 1 t) else sm 1 t) → ∃ F', f_X7_restore_L24 n (nI j) (s2 sm 1 F) = some (nI P, s2 sm 1 F') ∧ ∀ t, t < 8 → F' t = rst P (sm 1 t)
  | 0, j, F, _, h2, _ => by omega
  | n + 1, j, F, h1, h2, h3 => by
    rw [f_X7_restore_L24.eq_2]
    by_cases hj : j < 8
    · have hv : F j = sm 1 j := by rw [h3 j hj, if_neg (by omega)]
      have next : ∀ F2 : Nat → Int32, (∀ t, t < 8 → F2 t = if t = j then rst P (sm 1 j) else F t) → ∃ F', f_X7_restore_L24 n (nI (j + 1)) (s2 sm 1 F2) = some (nI P, s2 sm 1 F') ∧ ∀ t, t < 8 → F' t = rst P (sm 1 t) := fun F2 hF => by
        refine pM_restore_L24 hr n (j + 1) F2 (by omega) (by omega) (fun t ht => ?_)
        rw [hF t ht]
        by_cases htj : t = j
        · subst htj
          rw [if_pos rfl, if_pos (by omega)]
        · rw [if_neg htj, h3 t ht]
          by_cases h5 : t < j
          · rw [if_pos h5, if_pos (by omega)]
          · rw [if_neg h5, if_neg (by omega)]
      have same : rst P (sm 1 j) = sm 1 j → ∀ t, t < 8 → F t = if t = j then rst P (sm 1 j) else F t := fun he t ht => by
        by_cases htj : t = j
        · rw [if_pos htj, he, htj, hv]
        · rw [if_neg htj]
      by_cases c1 : nI 100 ≤ sm 1 j
      · have he : rst P (sm 1 j) = sm 1 j := if_pos c1
        have c1' : ¬ sm 1 j < nI 100 := Int32.not_lt.mpr c1
        simp (disch := omega) only [nm_s, bd_s, bd2_s, bd3_s, bd4_s, q_gt, q_inB, ↓q_m1, l_166, l_172, l_180, l_188, l_189, l_190, l_191, l_192, l_14, l_17, l_18, l_0, l_1, l_2, l_3, l_4, l_5, l_6, l_7, l_8, l_9, l_10, l_11, l_12, l_20, l_21, l_30, l_31, l_32, l_40, l_48, l_50, l_51, l_57, l_60, l_70, l_71, l_99, l_100, l_101, l_160, l_199, l_200, l_999, l_1000, q_tn, q_add, q_mul, q_sub, q_le, q_lt, q_eq, q_31, n_and, n_or, n_xor, q_shl, q_z, q_b0, q_b1, q_bz, q_em, q_me, q_mm, q_lm, q_ml, q_mle, q_lem, s2_eq, s2_ne, pk_us, pk_un, uN_s, uN_n, if_pos, if_neg, ite_true, ite_false, if_true, if_false, not_true, not_false_iff, Nat.add_zero, Nat.zero_add, inR_t, isIx_t, bI_t, bI_f, neg1, q_clr, f_X7_isRow, hv, c1']
        exact next F (same he)
      · have c1' : sm 1 j < nI 100 := Int32.not_le.mp c1
        by_cases c2 : sm 1 j < nI P
        · have he : rst P (sm 1 j) = sm 1 j := by unfold rst; rw [if_neg c1, if_pos c2]
          simp (disch := omega) only [nm_s, bd_s, bd2_s, bd3_s, bd4_s, q_gt, q_inB, ↓q_m1, l_166, l_172, l_180, l_188, l_189, l_190, l_191, l_192, l_14, l_17, l_18, l_0, l_1, l_2, l_3, l_4, l_5, l_6, l_7, l_8, l_9, l_10, l_11, l_12, l_20, l_21, l_30, l_31, l_32, l_40, l_48, l_50, l_51, l_57, l_60, l_70, l_71, l_99, l_100, l_101, l_160, l_199, l_200, l_999, l_1000, q_tn, q_add, q_mul, q_sub, q_le, q_lt, q_eq, q_31, n_and, n_or, n_xor, q_shl, q_z, q_b0, q_b1, q_bz, q_em, q_me, q_mm, q_lm, q_ml, q_mle, q_lem, s2_eq, s2_ne, pk_us, pk_un, uN_s, uN_n, if_pos, if_neg, ite_true, ite_false, if_true, if_false, not_true, not_false_iff, Nat.add_zero, Nat.zero_add, inR_t, isIx_t, bI_t, bI_f, neg1, q_clr, f_X7_isRow, hv, c1', hr, c2]
          exact next F (same he)
        · have he : rst P (sm 1 j) = mI := by unfold rst; rw [if_neg c1, if_neg c2]
          simp (disch := omega) only [nm_s, bd_s, bd2_s, bd3_s, bd4_s, q_gt, q_inB, ↓q_m1, l_166, l_172, l_180, l_188, l_189, l_190, l_191, l_192, l_14, l_17, l_18, l_0, l_1, l_2, l_3, l_4, l_5, l_6, l_7, l_8, l_9, l_10, l_11, l_12, l_20, l_21, l_30, l_31, l_32, l_40, l_48, l_50, l_51, l_57, l_60, l_70, l_71, l_99, l_100, l_101, l_160, l_199, l_200, l_999, l_1000, q_tn, q_add, q_mul, q_sub, q_le, q_lt, q_eq, q_31, n_and, n_or, n_xor, q_shl, q_z, q_b0, q_b1, q_bz, q_em, q_me, q_mm, q_lm, q_ml, q_mle, q_lem, s2_eq, s2_ne, pk_us, pk_un, uN_s, uN_n, if_pos, if_neg, ite_true, ite_false, if_true, if_false, not_true, not_false_iff, Nat.add_zero, Nat.zero_add, inR_t, isIx_t, bI_t, bI_f, neg1, q_clr, f_X7_isRow, hv, c1', hr, c2, s2_s2]
          refine next _ (fun t ht => ?_)
          by_cases htj : t = j
          · rw [if_pos htj, he, htj, pk_us]
          · rw [if_neg htj, pk_un htj]
    · have : j = 8 := by omega
      subst this
      simp (disch := omega) only [nm_s, bd_s, bd2_s, bd3_s, bd4_s, q_gt, q_inB, ↓q_m1, l_166, l_172, l_180, l_188, l_189, l_190, l_191, l_192, l_14, l_17, l_18, l_0, l_1, l_2, l_3, l_4, l_5, l_6, l_7, l_8, l_9, l_10, l_11, l_12, l_20, l_21, l_30, l_31, l_32, l_40, l_48, l_50, l_51, l_57, l_60, l_70, l_71, l_99, l_100, l_101, l_160, l_199, l_200, l_999, l_1000, q_tn, q_add, q_mul, q_sub, q_le, q_lt, q_eq, q_31, n_and, n_or, n_xor, q_shl, q_z, q_b0, q_b1, q_bz, q_em, q_me, q_mm, q_lm, q_ml, q_mle, q_lem, s2_eq, s2_ne, pk_us, pk_un, uN_s, uN_n, if_pos, if_neg, ite_true, ite_false, if_true, if_false, not_true, not_false_iff, Nat.add_zero, Nat.zero_add, inR_t, isIx_t, bI_t, bI_f, neg1, q_clr, hr]
      exact ⟨F, rfl, fun t ht => by rw [h3 t ht, if_pos ht]⟩
theorem sim_restore (I : Inv B so r0 r1 rw re sv sm sq) : SimP (f_X6_restore so r0 r1) (f_X7_restore sm) (fun x y => x.1 = y.1 ∧ Inv B x.2.1 x.2.2 r1 rw re sv y.2 sq) := by
  have I0 := I
  obtain ⟨g, ⟨h, m, w, hd⟩, hf, hs, hc, ht, ⟨b, hb1, hb2, hb3⟩⟩ := I
  have hP := w.1.1.1
  unfold f_X6_restore f_X7_restore
  cases b with
  | false =>
    simp (disch := omega) only [nm_s, bd_s, bd2_s, bd3_s, bd4_s, q_gt, q_inB, ↓q_m1, l_166, l_172, l_180, l_188, l_189, l_190, l_191, l_192, l_14, l_17, l_18, l_0, l_1, l_2, l_3, l_4, l_5, l_6, l_7, l_8, l_9, l_10, l_11, l_12, l_20, l_21, l_30, l_31, l_32, l_40, l_48, l_50, l_51, l_57, l_60, l_70, l_71, l_99, l_100, l_101, l_160, l_199, l_200, l_999, l_1000, q_tn, q_add, q_mul, q_sub, q_le, q_lt, q_eq, q_31, n_and, n_or, n_xor, q_shl, q_z, q_b0, q_b1, q_bz, q_em, q_me, q_mm, q_lm, q_ml, q_mle, q_lem, s2_eq, s2_ne, pk_us, pk_un, uN_s, uN_n, if_pos, if_neg, ite_true, ite_false, if_true, if_false, not_true, not_false_iff, Nat.add_zero, Nat.zero_add, inR_t, isIx_t, bI_t, bI_f, neg1, q_clr, hb1, hb2, r6_, r7_]
    exact sim_i ⟨rfl, Inv_ref I0 (by omega)⟩
  | true =>
    obtain ⟨g1, k1, k2, k3⟩ := hb3 rfl
    have hP1 := k3.1.1.1
    obtain ⟨z, e, h1, h2⟩ := pR_become (r := r0) k1 k3.1
    obtain ⟨t, e2, h3, h4, h5, h6⟩ := againM (B := B) (K := 25) (s := sm) (by omega) k3.1 k2
    have h51 : t 1 = sm 1 := h5 1 rfl
    obtain ⟨F, e3, hF⟩ := pR_restore_L27 (so := so) h1.c0 2000 0 (so 6) (by omega) (by omega) (fun t ht => by rw [if_neg (by omega)])
    obtain ⟨F', e4, hF'⟩ := pM_restore_L24 h3.c0 2000 0 (t 1) (by omega) (by omega) (fun y hy => by rw [if_neg (by omega)])
    rw [s2_id] at e3 e4
    have e3' : f_X6_restore_L27 z FU (nI 0) so = some (nI (aP g1), s2 so 6 F, z) := e3
    have e4' : f_X7_restore_L24 FU (nI 0) t = some (nI (aP g1), s2 t 1 F') := e4
    simp (disch := omega) only [nm_s, bd_s, bd2_s, bd3_s, bd4_s, q_gt, q_inB, ↓q_m1, l_166, l_172, l_180, l_188, l_189, l_190, l_191, l_192, l_14, l_17, l_18, l_0, l_1, l_2, l_3, l_4, l_5, l_6, l_7, l_8, l_9, l_10, l_11, l_12, l_20, l_21, l_30, l_31, l_32, l_40, l_48, l_50, l_51, l_57, l_60, l_70, l_71, l_99, l_100, l_101, l_160, l_199, l_200, l_999, l_1000, q_tn, q_add, q_mul, q_sub, q_le, q_lt, q_eq, q_31, n_and, n_or, n_xor, q_shl, q_z, q_b0, q_b1, q_bz, q_em, q_me, q_mm, q_lm, q_ml, q_mle, q_lem, s2_eq, s2_ne, pk_us, pk_un, uN_s, uN_n, if_pos, if_neg, ite_true, ite_false, if_true, if_false, not_true, not_false_iff, Nat.add_zero, Nat.zero_add, inR_t, isIx_t, bI_t, bI_f, neg1, q_clr, hb1, hb2, e, e2, e3', e4']
    refine sim_i ⟨rfl, g1, ⟨h1, ?_, k3, ?_⟩, ?_, fun i hi => ?_, fun i hi => ?_, ?_, true, ?_, ?_, fun _ => ⟨g1, k1, ?_, k3⟩⟩
    · exact h3
    · show z 0 17 = t 0 18
      rw [h2, h4]
    · show so 0 7 = t 0 19
      rw [h6 19 rfl (by omega)]; exact hf
    · obtain ⟨a, c⟩ := hs i hi
      show F i = F' i ∧ _
      have hFF : F i = F' i := by rw [hF i hi, hF' i hi, h51, a]
      refine ⟨hFF, ?_⟩
      have e1 : (s2 so 6 F) 6 i = F i := rfl
      rcases c with c | ⟨p, hp, c⟩ | ⟨k, L, c1, c2, c3, c4, c5, c6, c7⟩
      · refine Or.inl ?_
        rw [e1, hF i hi, c, rst_m (by omega)]
      · have h7 : F i = if p < aP g1 then nI p else mI := by rw [hF i hi, c, rst_p (by omega) hP1]
        by_cases h8 : p < aP g1
        · refine Or.inr (Or.inl ⟨p, h8, ?_⟩)
          rw [e1, h7, if_pos h8]
        · refine Or.inl ?_
          rw [e1, h7, if_neg h8]
      · refine Or.inr (Or.inr ⟨k, L, c1, ?_, c3, c4, ?_, c6, c7⟩)
        · rw [e1, hF i hi, c2, rst_r c1]
        · show t 2 i = nI L
          rw [h5 2 rfl]; exact c5
    · show so 7 i = t 21 i
      rw [h5 21 rfl]; exact hc i hi
    · obtain ⟨y, t1, t2, t3, t4⟩ := ht
      refine ⟨y, t1, t2, ?_, fun i hi1 hi2 => ?_⟩
      · show t 0 21 = nI y
        rw [h6 21 rfl (by omega)]; exact t3
      · show sv 2 i = t 23 i
        rw [h5 23 rfl]; exact t4 i hi1 hi2
    · exact hb1
    · show t 0 23 = bI true
      rw [h6 23 rfl (by omega)]; exact hb2
    · show HoldM g1 (r1 0 17) (t 25)
      rw [h5 25 rfl]; exact k2
end SE2
