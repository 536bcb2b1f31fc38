-- both sides: copy, says, image, restore
theorem z_m1 : nI 0 - nI 1 = mI := by decide
theorem q_am (x : Int32) : x + mI = x - nI 1 := by
  rw [Int32.sub_eq_add_neg]
  rfl
theorem pW_hasRun_neg {sw : GS} {x y : Int32} (h : x < nI 0) : f_X5_hasRun sw x y = some (bI false) := by
  unfold f_X5_hasRun
  exact if_pos h
theorem cpy_s {sq0 : Nat → Int64} {S D t : Nat} (h : S + t < D ∨ D + t ≤ S + t) : vp_updL (va_cpy sq0 sq0 S D t) (D + t) (va_cpy sq0 sq0 S D t (S + t)) = va_cpy sq0 sq0 S D (t + 1) := by
  funext y
  by_cases hy : y = D + t
  · rw [hy, pk_uLs, pk_cpy_out (by omega), pk_cpy_in (by omega) (by omega)]
    exact congrArg sq0 (by omega)
  · rw [pk_uLn hy]
    by_cases h1 : D ≤ y ∧ y < D + t
    · rw [pk_cpy_in h1.1 h1.2, pk_cpy_in h1.1 (by omega)]
    · rw [pk_cpy_out (by omega), pk_cpy_out (by omega)]
theorem cpy_b {sq0 : Nat → Int64} {S D t n : Nat} (ht : t < n) (h : S + n ≤ D ∨ S + t < D + t + 1 ∨ D + n ≤ S) : vp_updL (va_cpy sq0 sq0 (S + (t + 1)) (D + (t + 1)) (n - (t + 1))) (D + t) (va_cpy sq0 sq0 (S + (t + 1)) (D + (t + 1)) (n - (t + 1)) (S + t)) = va_cpy sq0 sq0 (S + t) (D + t) (n - t) := by
  funext y
  by_cases hy : y = D + t
  · rw [hy, pk_uLs, pk_cpy_out (by omega), pk_cpy_in (by omega) (by omega)]
    exact congrArg sq0 (by omega)
  · rw [pk_uLn hy]
    by_cases h1 : D + (t + 1) ≤ y ∧ y < D + n
    · rw [pk_cpy_in (by omega) (by omega), pk_cpy_in (by omega) (by omega)]
      exact congrArg sq0 (by omega)
    · rw [pk_cpy_out (by omega), pk_cpy_out (by omega)]
section SE2
variable {B P : Nat} {so r0 r1 : GS} {rw : Nat → GS} {re : Nat → Nat → Int64} {sv sm : GS} {sq : Nat → Int64}
theorem pM_copy_fwd {p q a b n : Nat} (hp : p < 8) (hq : q < 8) (ha : a + n ≤ 160) (hb : b + n ≤ 160) (hd : ¬ p = q ∨ b ≤ a) (sm : GS) (sq0 : Nat → Int64) : ∀ (m t : Nat), t ≤ n → n - t < m → f_X7_copy_L251 (nI p) (nI q) (nI a) (nI b) (nI n) sm m (nI t) (va_cpy sq0 sq0 (160 * p + a) (160 * q + b) t) = some (nI 1, sm, va_cpy sq0 sq0 (160 * p + a) (160 * q + b) n)
  | 0, t, _, h2 => by omega
  | m + 1, t, h1, h2 => by
    rw [f_X7_copy_L251.eq_2]
    by_cases hi : t < n
    · simp (disch := omega) only [nm_s, bd_s, bd2_s, bd3_s, bd4_s, q_gt, q_inB, ↓q_m1, l_166, l_172, l_180, l_188, l_189, l_190, l_191, l_192, l_14, l_17, l_18, l_0, l_1, l_2, l_3, l_4, l_5, l_6, l_7, l_8, l_9, l_10, l_11, l_12, l_20, l_21, l_30, l_31, l_32, l_40, l_48, l_50, l_51, l_57, l_60, l_70, l_71, l_99, l_100, l_101, l_160, l_199, l_200, l_999, l_1000, q_tn, q_add, q_mul, q_sub, q_le, q_lt, q_eq, q_31, n_and, n_or, n_xor, q_shl, q_z, q_b0, q_b1, q_bz, q_em, q_me, q_mm, q_lm, q_ml, q_mle, q_lem, s2_eq, s2_ne, pk_us, pk_un, uN_s, uN_n, if_pos, if_neg, ite_true, ite_false, if_true, if_false, not_true, not_false_iff, Nat.add_zero, Nat.zero_add, inR_t, isIx_t, bI_t, bI_f, neg1, q_clr]
      rw [cpy_s (by omega)]
      exact pM_copy_fwd hp hq ha hb hd sm sq0 m (t + 1) (by omega) (by omega)
    · have : t = n := by omega
      subst this
      simp (disch := omega) only [nm_s, bd_s, bd2_s, bd3_s, bd4_s, q_gt, q_inB, ↓q_m1, l_166, l_172, l_180, l_188, l_189, l_190, l_191, l_192, l_14, l_17, l_18, l_0, l_1, l_2, l_3, l_4, l_5, l_6, l_7, l_8, l_9, l_10, l_11, l_12, l_20, l_21, l_30, l_31, l_32, l_40, l_48, l_50, l_51, l_57, l_60, l_70, l_71, l_99, l_100, l_101, l_160, l_199, l_200, l_999, l_1000, q_tn, q_add, q_mul, q_sub, q_le, q_lt, q_eq, q_31, n_and, n_or, n_xor, q_shl, q_z, q_b0, q_b1, q_bz, q_em, q_me, q_mm, q_lm, q_ml, q_mle, q_lem, s2_eq, s2_ne, pk_us, pk_un, uN_s, uN_n, if_pos, if_neg, ite_true, ite_false, if_true, if_false, not_true, not_false_iff, Nat.add_zero, Nat.zero_add, inR_t, isIx_t, bI_t, bI_f, neg1, q_clr]
theorem pM_copy_bwd {p a b n : Nat} (hp : p < 8) (ha : a + n ≤ 160) (hb : b + n ≤ 160) (hd : a < b) (sm : GS) (sq0 : Nat → Int64) : ∀ (m t : Nat), t ≤ n → t < m → f_X7_copy_L203 (nI p) (nI p) (nI a) (nI b) sm m (nI t - nI 1) (va_cpy sq0 sq0 (160 * p + a + t) (160 * p + b + t) (n - t)) = some (nI 1, sm, va_cpy sq0 sq0 (160 * p + a) (160 * p + b) n)
  | 0, t, _, h2 => by omega
  | m + 1, t, h1, h2 => by
    rw [f_X7_copy_L203.eq_2]
    by_cases h0 : t = 0
    · rw [h0, z_m1, if_pos (show mI < (0 : Int32) by decide), Nat.sub_zero, Nat.add_zero, Nat.add_zero]
      rfl
    · have e : nI t - nI 1 = nI (t - 1) := q_sub (by omega)
      have ih := pM_copy_bwd hp ha hb hd sm sq0 m (t - 1) (by omega) (by omega)
      have hc := cpy_b (sq0 := sq0) (S := 160 * p + a) (D := 160 * p + b) (t := t - 1) (n := n) (by omega) (by omega)
      rw [show t - 1 + 1 = t by omega] at hc
      rw [e]
      simp (disch := omega) only [nm_s, bd_s, bd2_s, bd3_s, bd4_s, q_gt, q_inB, ↓q_m1, l_166, l_172, l_180, l_188, l_189, l_190, l_191, l_192, l_14, l_17, l_18, l_0, l_1, l_2, l_3, l_4, l_5, l_6, l_7, l_8, l_9, l_10, l_11, l_12, l_20, l_21, l_30, l_31, l_32, l_40, l_48, l_50, l_51, l_57, l_60, l_70, l_71, l_99, l_100, l_101, l_160, l_199, l_200, l_999, l_1000, q_tn, q_add, q_mul, q_sub, q_le, q_lt, q_eq, q_31, n_and, n_or, n_xor, q_shl, q_z, q_b0, q_b1, q_bz, q_em, q_me, q_mm, q_lm, q_ml, q_mle, q_lem, s2_eq, s2_ne, pk_us, pk_un, uN_s, uN_n, if_pos, if_neg, ite_true, ite_false, if_true, if_false, not_true, not_false_iff, Nat.add_zero, Nat.zero_add, inR_t, isIx_t, bI_t, bI_f, neg1, q_clr, q_am]
      rw [hc]
      exact ih
theorem fillRows_n {q p a b n : Nat} (ha : a + n ≤ 160) (hb : b + n ≤ 160) : fillRows re q p (nI a) (nI b) (nI n) = some (va_up re q (va_cpy (re p) (re q) a b n)) := by
  have h1 : ¬ nI a < 0 := by rw [n_neg (by omega)]; exact id
  have h2 : ¬ nI b < 0 := by rw [n_neg (by omega)]; exact id
  have h3 : ¬ nI n < 0 := by rw [n_neg (by omega)]; exact id
  have hc : cpB (nI a) (nI b) (nI n) 160 160 = true := by
    unfold cpB
    rw [decide_eq_true h1, decide_eq_true h2, decide_eq_true h3, n_tn (by omega), n_tn (by omega), n_tn (by omega), decide_eq_true ha, decide_eq_true hb]
    rfl
  unfold fillRows f_X5_fillFromS f_X5_fillFrom
  rw [hc, n_tn (by omega), n_tn (by omega), n_tn (by omega)]
  by_cases h : q = p
  · subst h
    rw [if_pos rfl]
    rfl
  · rw [if_neg h]
    rfl
-- the reference's ways, one by one
theorem i7_m {i : Nat} (hi : i < 8) (h : sm 1 i = mI) : f_X7_isRow sm (nI i) = some (nI 0) := by
  unfold f_X7_isRow
  simp (disch := omega) only [nm_s, bd_s, bd2_s, bd3_s, bd4_s, q_gt, q_inB, ↓q_m1, l_166, l_172, l_180, l_188, l_189, l_190, l_191, l_192, l_14, l_17, l_18, l_0, l_1, l_2, l_3, l_4, l_5, l_6, l_7, l_8, l_9, l_10, l_11, l_12, l_20, l_21, l_30, l_31, l_32, l_40, l_48, l_50, l_51, l_57, l_60, l_70, l_71, l_99, l_100, l_101, l_160, l_199, l_200, l_999, l_1000, q_tn, q_add, q_mul, q_sub, q_le, q_lt, q_eq, q_31, n_and, n_or, n_xor, q_shl, q_z, q_b0, q_b1, q_bz, q_em, q_me, q_mm, q_lm, q_ml, q_mle, q_lem, s2_eq, s2_ne, pk_us, pk_un, uN_s, uN_n, if_pos, if_neg, ite_true, ite_false, if_true, if_false, not_true, not_false_iff, Nat.add_zero, Nat.zero_add, inR_t, isIx_t, bI_t, bI_f, neg1, q_clr, h]
theorem i7_p {i p : Nat} (hi : i < 8) (h : sm 1 i = nI p) (hp : p < 100) : f_X7_isRow sm (nI i) = some (nI 0) := by
  unfold f_X7_isRow
  simp (disch := omega) only [nm_s, bd_s, bd2_s, bd3_s, bd4_s, q_gt, q_inB, ↓q_m1, l_166, l_172, l_180, l_188, l_189, l_190, l_191, l_192, l_14, l_17, l_18, l_0, l_1, l_2, l_3, l_4, l_5, l_6, l_7, l_8, l_9, l_10, l_11, l_12, l_20, l_21, l_30, l_31, l_32, l_40, l_48, l_50, l_51, l_57, l_60, l_70, l_71, l_99, l_100, l_101, l_160, l_199, l_200, l_999, l_1000, q_tn, q_add, q_mul, q_sub, q_le, q_lt, q_eq, q_31, n_and, n_or, n_xor, q_shl, q_z, q_b0, q_b1, q_bz, q_em, q_me, q_mm, q_lm, q_ml, q_mle, q_lem, s2_eq, s2_ne, pk_us, pk_un, uN_s, uN_n, if_pos, if_neg, ite_true, ite_false, if_true, if_false, not_true, not_false_iff, Nat.add_zero, Nat.zero_add, inR_t, isIx_t, bI_t, bI_f, neg1, q_clr, h]
theorem i7_k {i k : Nat} (hi : i < 8) (h : sm 1 i = nI (100 + k)) (hk : k < 4) : f_X7_isRow sm (nI i) = some (nI 1) := by
  unfold f_X7_isRow
  simp (disch := omega) only [nm_s, bd_s, bd2_s, bd3_s, bd4_s, q_gt, q_inB, ↓q_m1, l_166, l_172, l_180, l_188, l_189, l_190, l_191, l_192, l_14, l_17, l_18, l_0, l_1, l_2, l_3, l_4, l_5, l_6, l_7, l_8, l_9, l_10, l_11, l_12, l_20, l_21, l_30, l_31, l_32, l_40, l_48, l_50, l_51, l_57, l_60, l_70, l_71, l_99, l_100, l_101, l_160, l_199, l_200, l_999, l_1000, q_tn, q_add, q_mul, q_sub, q_le, q_lt, q_eq, q_31, n_and, n_or, n_xor, q_shl, q_z, q_b0, q_b1, q_bz, q_em, q_me, q_mm, q_lm, q_ml, q_mle, q_lem, s2_eq, s2_ne, pk_us, pk_un, uN_s, uN_n, if_pos, if_neg, ite_true, ite_false, if_true, if_false, not_true, not_false_iff, Nat.add_zero, Nat.zero_add, inR_t, isIx_t, bI_t, bI_f, neg1, q_clr, h]
theorem z00 : nI 0 = (0 : Int32) := rfl
theorem zb0 : bI false = nI 0 := rfl
theorem nn0' {p : Nat} (hp : p < 1000) : ¬ nI p < nI 0 := by rw [n_lt (by omega) (by omega)]; omega
theorem i0n : ¬ (nI 1 = (0 : Int32)) := by decide
theorem nn0 {p : Nat} (hp : p < 1000) : ¬ nI p < (0 : Int32) := by rw [n_neg (by omega)]; exact id
theorem c7_J91 : f_X7_copy_J91 sm sq = some (-nI 2, smR sm 2, sq) := by
  unfold f_X7_copy_J91
  simp (disch := omega) only [nm_s, bd_s, bd2_s, bd3_s, bd4_s, q_gt, q_inB, ↓q_m1, l_166, l_172, l_180, l_188, l_189, l_190, l_191, l_192, l_14, l_17, l_18, l_0, l_1, l_2, l_3, l_4, l_5, l_6, l_7, l_8, l_9, l_10, l_11, l_12, l_20, l_21, l_30, l_31, l_32, l_40, l_48, l_50, l_51, l_57, l_60, l_70, l_71, l_99, l_100, l_101, l_160, l_199, l_200, l_999, l_1000, q_tn, q_add, q_mul, q_sub, q_le, q_lt, q_eq, q_31, n_and, n_or, n_xor, q_shl, q_z, q_b0, q_b1, q_bz, q_em, q_me, q_mm, q_lm, q_ml, q_mle, q_lem, s2_eq, s2_ne, pk_us, pk_un, uN_s, uN_n, if_pos, if_neg, ite_true, ite_false, if_true, if_false, not_true, not_false_iff, Nat.add_zero, Nat.zero_add, inR_t, isIx_t, bI_t, bI_f, neg1, q_clr, r7_]
theorem c7_J116 : f_X7_copy_J116 sm sq = some (-nI 3, smR sm 3, sq) := by
  unfold f_X7_copy_J116
  simp (disch := omega) only [nm_s, bd_s, bd2_s, bd3_s, bd4_s, q_gt, q_inB, ↓q_m1, l_166, l_172, l_180, l_188, l_189, l_190, l_191, l_192, l_14, l_17, l_18, l_0, l_1, l_2, l_3, l_4, l_5, l_6, l_7, l_8, l_9, l_10, l_11, l_12, l_20, l_21, l_30, l_31, l_32, l_40, l_48, l_50, l_51, l_57, l_60, l_70, l_71, l_99, l_100, l_101, l_160, l_199, l_200, l_999, l_1000, q_tn, q_add, q_mul, q_sub, q_le, q_lt, q_eq, q_31, n_and, n_or, n_xor, q_shl, q_z, q_b0, q_b1, q_bz, q_em, q_me, q_mm, q_lm, q_ml, q_mle, q_lem, s2_eq, s2_ne, pk_us, pk_un, uN_s, uN_n, if_pos, if_neg, ite_true, ite_false, if_true, if_false, not_true, not_false_iff, Nat.add_zero, Nat.zero_add, inR_t, isIx_t, bI_t, bI_f, neg1, q_clr, r7_]
theorem c7_J179 : f_X7_copy_J179 sm sq = some (-nI 5, smR sm 5, sq) := by
  unfold f_X7_copy_J179
  simp (disch := omega) only [nm_s, bd_s, bd2_s, bd3_s, bd4_s, q_gt, q_inB, ↓q_m1, l_166, l_172, l_180, l_188, l_189, l_190, l_191, l_192, l_14, l_17, l_18, l_0, l_1, l_2, l_3, l_4, l_5, l_6, l_7, l_8, l_9, l_10, l_11, l_12, l_20, l_21, l_30, l_31, l_32, l_40, l_48, l_50, l_51, l_57, l_60, l_70, l_71, l_99, l_100, l_101, l_160, l_199, l_200, l_999, l_1000, q_tn, q_add, q_mul, q_sub, q_le, q_lt, q_eq, q_31, n_and, n_or, n_xor, q_shl, q_z, q_b0, q_b1, q_bz, q_em, q_me, q_mm, q_lm, q_ml, q_mle, q_lem, s2_eq, s2_ne, pk_us, pk_un, uN_s, uN_n, if_pos, if_neg, ite_true, ite_false, if_true, if_false, not_true, not_false_iff, Nat.add_zero, Nat.zero_add, inR_t, isIx_t, bI_t, bI_f, neg1, q_clr, r7_]
theorem c7_98m {i j : Nat} {y3 y4 y5 : Int32} (hi : i < 8) (h : sm 1 i = mI) : f_X7_copy_J98 (nI i) (nI j) y3 y4 y5 sm sq = f_X7_copy_J116 sm sq := by
  unfold f_X7_copy_J98
  rw [gd_t (n_inB hi (by omega)), n_tn (by omega), h, if_pos (show mI < (0 : Int32) by decide)]
theorem c7_98k {i j p : Nat} {y3 y4 y5 : Int32} (hi : i < 8) (hj : j < 8) (h : sm 1 i = nI p) (hp : p < 1000) (h2 : sm 1 j = mI) : f_X7_copy_J98 (nI i) (nI j) y3 y4 y5 sm sq = f_X7_copy_J116 sm sq := by
  unfold f_X7_copy_J98
  rw [gd_t (n_inB hi (by omega)), gd_t (n_inB hj (by omega)), n_tn (show i < 2147483648 by omega), h, if_neg (nn0 hp), n_tn (show j < 2147483648 by omega), h2, if_neg (show ¬ (0 : Int32) ≤ mI by decide)]
theorem c7_43m {i j : Nat} {y3 y4 y5 : Int32} (hj : j < 8) (h : sm 1 j = mI) : f_X7_copy_J43 (nI i) (nI j) y3 y4 y5 sm sq = f_X7_copy_J60 (nI i) (nI j) y3 y4 y5 sm sq := by
  unfold f_X7_copy_J43
  rw [gd_t (n_inB hj (by omega)), n_tn (by omega), h, if_pos (show mI < (0 : Int32) by decide)]
theorem c7_43p {i j p : Nat} {y3 y4 y5 : Int32} (hj : j < 8) (h : sm 1 j = nI p) (hp : p < 100) : f_X7_copy_J43 (nI i) (nI j) y3 y4 y5 sm sq = f_X7_copy_J91 sm sq := by
  unfold f_X7_copy_J43
  rw [gd_t (n_inB hj (by omega)), i7_p hj h hp, bd_s, n_tn (by omega), h, if_neg (nn0 (by omega)), if_pos z00]
theorem c7_43k {i j k : Nat} {y3 y4 y5 : Int32} (hj : j < 8) (h : sm 1 j = nI (100 + k)) (hk : k < 4) : f_X7_copy_J43 (nI i) (nI j) y3 y4 y5 sm sq = f_X7_copy_J60 (nI i) (nI j) y3 y4 y5 sm sq := by
  unfold f_X7_copy_J43
  rw [gd_t (n_inB hj (by omega)), i7_k hj h hk, bd_s, n_tn (by omega), h, if_neg (nn0 (by omega)), if_neg i0n]
theorem c7_60n {i j : Nat} {y3 y4 y5 : Int32} (h : f_X7_isRow sm (nI i) = some (nI 0)) : f_X7_copy_J60 (nI i) (nI j) y3 y4 y5 sm sq = f_X7_copy_J98 (nI i) (nI j) y3 y4 y5 sm sq := by
  unfold f_X7_copy_J60
  rw [h, bd_s, if_pos z00]
theorem c7_60m {i j : Nat} {y3 y4 y5 : Int32} (h : f_X7_isRow sm (nI i) = some (nI 1)) (h2 : f_X7_isRow sm (nI j) = some (nI 0)) : f_X7_copy_J60 (nI i) (nI j) y3 y4 y5 sm sq = f_X7_copy_J98 (nI i) (nI j) y3 y4 y5 sm sq := by
  unfold f_X7_copy_J60
  rw [h, bd_s, if_neg i0n, h2, bd_s, if_pos z00]
theorem c7_60k {i j k k' : Nat} {y3 y4 y5 : Int32} (hi : i < 8) (hj : j < 8) (h : sm 1 i = nI (100 + k)) (hk : k < 4) (h2 : sm 1 j = nI (100 + k')) (hk' : k' < 4) : f_X7_copy_J60 (nI i) (nI j) y3 y4 y5 sm sq = if k = k' then f_X7_copy_J98 (nI i) (nI j) y3 y4 y5 sm sq else f_X7_copy_J91 sm sq := by
  unfold f_X7_copy_J60
  rw [i7_k hi h hk, bd_s, if_neg i0n, i7_k hj h2 hk', bd_s, if_neg i0n, gd_t (n_inB hi (by omega)), gd_t (n_inB hj (by omega)), n_tn (show i < 2147483648 by omega), h, n_tn (show j < 2147483648 by omega), h2]
  by_cases hkk : k = k'
  · rw [if_pos hkk, if_pos (by rw [hkk])]
  · rw [if_neg hkk, if_neg (by rw [n_eq (by omega) (by omega)]; omega)]
theorem c7_m {i j : Nat} {y3 y4 y5 : Int32} (hi : i < 8) (hj : j < 8) (h : sm 1 i = mI) : f_X7_copy sm sq (nI i) (nI j) y3 y4 y5 = f_X7_copy_J43 (nI i) (nI j) y3 y4 y5 sm sq := by
  unfold f_X7_copy
  rw [show (0 : Int32) = nI 0 from rfl, show (7 : Int32) = nI 7 from rfl, w7_sh, bd_s, isIx_t hi (by omega), if_neg (by decide), w7_sh, bd_s, isIx_t hj (by omega), if_neg (by decide), gd_t (n_inB hi (by omega)), n_tn (by omega), h, if_pos (by decide)]
theorem c7_p {i j p : Nat} {y3 y4 y5 : Int32} (hi : i < 8) (hj : j < 8) (h : sm 1 i = nI p) (hp : p < 100) : f_X7_copy sm sq (nI i) (nI j) y3 y4 y5 = f_X7_copy_J91 sm sq := by
  unfold f_X7_copy
  rw [show (0 : Int32) = nI 0 from rfl, show (7 : Int32) = nI 7 from rfl, w7_sh, bd_s, isIx_t hi (by omega), if_neg (by decide), w7_sh, bd_s, isIx_t hj (by omega), if_neg (by decide), gd_t (n_inB hi (by omega)), i7_p hi h hp, bd_s, n_tn (by omega), h, if_neg (nn0' (by omega)), if_pos rfl]
theorem c7_k {i j k : Nat} {y3 y4 y5 : Int32} (hi : i < 8) (hj : j < 8) (h : sm 1 i = nI (100 + k)) (hk : k < 4) : f_X7_copy sm sq (nI i) (nI j) y3 y4 y5 = f_X7_copy_J43 (nI i) (nI j) y3 y4 y5 sm sq := by
  unfold f_X7_copy
  rw [show (0 : Int32) = nI 0 from rfl, show (7 : Int32) = nI 7 from rfl, w7_sh, bd_s, isIx_t hi (by omega), if_neg (by decide), w7_sh, bd_s, isIx_t hj (by omega), if_neg (by decide), gd_t (n_inB hi (by omega)), i7_k hi h hk, bd_s, n_tn (by omega), h, if_neg (nn0' (by omega)), if_neg (by decide)]
-- the numbers
theorem c7_n {i j k L L' : Nat} {y3 y4 y5 : Int32} (hi : i < 8) (hj : j < 8) (hk : k < 4) (h1 : sm 1 i = nI (100 + k)) (h2 : sm 1 j = nI (100 + k)) (h3 : sm 2 i = nI L) (h4 : sm 2 j = nI L') : f_X7_copy_J98 (nI i) (nI j) y3 y4 y5 sm sq = if nI 0 ≤ y5 then (if y3 < nI 0 then f_X7_copy_J179 sm sq else if y4 < nI 0 then f_X7_copy_J179 sm sq else if nI 0 < lg_cmp (y3.toInt64 + y5.toInt64) ((nI L).toInt64) then f_X7_copy_J179 sm sq else if lg_cmp (y4.toInt64 + y5.toInt64) ((nI L').toInt64) ≤ nI 0 then (if nI i = nI j then (if y4 ≤ y3 then f_X7_copy_L251 (nI i) (nI j) y3 y4 y5 sm FU (nI 0) sq else f_X7_copy_L203 (nI i) (nI j) y3 y4 sm FU (y5 - nI 1) sq) else f_X7_copy_L251 (nI i) (nI j) y3 y4 y5 sm FU (nI 0) sq) else f_X7_copy_J179 sm sq) else some (-nI 4, smR sm 4, sq) := by
  unfold f_X7_copy_J98
  rw [gd_t (n_inB hi (by omega)), gd_t (n_inB hj (by omega)), gd_t (n_inB hi (by omega)), gd_t (n_inB hj (by omega)), n_tn (show i < 2147483648 by omega), n_tn (show j < 2147483648 by omega), h1, h2, h3, h4, if_neg (nn0 (by omega)), if_pos (nI_pos' (by omega)), show (-4 : Int32) = -nI 4 from rfl, r7_ _ (by omega), bd2_s]
  rfl
theorem copy_fin {g : AG} {i j k L L' a b n : Nat} (h : RepR g r0) (m : RepM g sm) (w : Wf B g) (hd : r0 0 17 = sm 0 18) (hf : so 0 7 = sm 0 19) (hs : Shs so rw re sm sq (aP g)) (hc : ∀ i, i < 8 → so 7 i = sm 21 i) (ht : Trc sv sm) (hi : Img B so r1 sm) (hA : RwF so rw re sm sq i k L) (hA' : RwF so rw re sm sq j k L') (hf1 : a + n ≤ L) (hf2 : b + n ≤ L') : Inv B so r0 r1 rw (va_up re j (va_cpy (re i) (re j) a b n)) sv sm (va_cpy sq sq (160 * i + a) (160 * j + b) n) := by
  obtain ⟨⟨hi8, _, hL⟩, ⟨h1, h2⟩, ⟨c3, c4, c5⟩, c6⟩ := hA
  obtain ⟨⟨hj8, hk, hL'⟩, ⟨k1, k2⟩, ⟨d3, d4, d5⟩, d6⟩ := hA'
  refine Inv_shs h m w hd hf hc ht hi rfl rfl (fun _ _ _ => rfl) (fun t ht => ?_)
  by_cases hti : t = j
  · subst hti
    refine ⟨by rw [k1, k2], Or.inr (Or.inr ⟨k, L', hk, k1, d3, d4, d5, hL', fun y hy => ?_⟩)⟩
    rw [va_up_self]
    by_cases hy1 : b ≤ y ∧ y < b + n
    · rw [pk_cpy_in hy1.1 hy1.2, pk_cpy_in (by omega) (by omega), c6 _ (by omega)]
      exact congrArg sq (by omega)
    · rw [pk_cpy_out (by omega), pk_cpy_out (by omega)]
      exact d6 y hy
  · obtain ⟨q1, q2⟩ := hs t ht
    exact ⟨q1, ShR_ne q2 rfl rfl (va_up_ne _ _ hti) rfl (fun y hy => pk_cpy_out (by omega))⟩
theorem c7_do {i j k L L' a b n : Nat} (hA : RwF so rw re sm sq i k L) (hA' : RwF so rw re sm sq j k L') (hf1 : a + n ≤ L) (hf2 : b + n ≤ L') : f_X7_copy_J98 (nI i) (nI j) (nI a) (nI b) (nI n) sm sq = some (nI 1, sm, va_cpy sq sq (160 * i + a) (160 * j + b) n) := by
  obtain ⟨⟨hi8, _, hL⟩, ⟨h1, h2⟩, ⟨c3, c4, c5⟩, c6⟩ := hA
  obtain ⟨⟨hj8, hk, hL'⟩, ⟨k1, k2⟩, ⟨d3, d4, d5⟩, d6⟩ := hA'
  have cp0 : va_cpy sq sq (160 * i + a) (160 * j + b) 0 = sq := by
    funext y
    exact pk_cpy_out (by omega)
  rw [c7_n hi8 hj8 hk h2 k2 c5 d5, if_pos (by rw [n_le (by omega) (by omega)]; omega), if_neg (by rw [n_lt (by omega) (by omega)]; omega), if_neg (by rw [n_lt (by omega) (by omega)]; omega), if_neg (by rw [q_lc (by omega) (by omega) (by omega)]; omega), if_pos (by rw [q_lcl (by omega) (by omega) (by omega)]; omega), ifc (n_eq (by omega) (by omega)), ifc (n_le (by omega) (by omega))]
  have hfw : ¬ i = j ∨ b ≤ a → f_X7_copy_L251 (nI i) (nI j) (nI a) (nI b) (nI n) sm FU (nI 0) sq = some (nI 1, sm, va_cpy sq sq (160 * i + a) (160 * j + b) n) := fun hfw => by
    have hl := pM_copy_fwd hi8 hj8 (show a + n ≤ 160 by omega) (show b + n ≤ 160 by omega) hfw sm sq 2000 0 (by omega) (by omega)
    rw [cp0] at hl
    exact hl
  by_cases hij : i = j
  · rw [if_pos hij]
    by_cases hba : b ≤ a
    · rw [if_pos hba]
      exact hfw (Or.inr hba)
    · rw [if_neg hba]
      subst hij
      have hl := pM_copy_bwd hi8 (show a + n ≤ 160 by omega) (show b + n ≤ 160 by omega) (show a < b by omega) sm sq 2000 n (by omega) (by omega)
      have cpn : va_cpy sq sq (160 * i + a + n) (160 * i + b + n) (n - n) = sq := by
        funext y
        exact pk_cpy_out (by omega)
      rw [cpn] at hl
      exact hl
  · rw [if_neg hij]
    exact hfw (Or.inl hij)
theorem copy_end {g : AG} {i j k L L' : Nat} {x3 x4 x5 : Int32} (I0 : Inv B so r0 r1 rw re sv sm sq) (h : RepR g r0) (m : RepM g sm) (w : Wf B g) (hd : r0 0 17 = sm 0 18) (hf : so 0 7 = sm 0 19) (hs : Shs so rw re sm sq (aP g)) (hc : ∀ i, i < 8 → so 7 i = sm 21 i) (ht : Trc sv sm) (hi : Img B so r1 sm) (hA : RwF so rw re sm sq i k L) (hA' : RwF so rw re sm sq j k L') (hR : f_X6_copyRefusal so (nI i) (nI j) = some (nI 0)) : SimP (f_X6_copy so rw re (nI i) (nI j) x3 x4 x5) (f_X7_copy_J98 (nI i) (nI j) x3 x4 x5 sm sq) (fun x y => x.1 = y.1 ∧ Inv B x.2.1 r0 r1 rw x.2.2 sv y.2.1 y.2.2) := by
  have hA0 := hA
  have hA0' := hA'
  obtain ⟨⟨hi8, _, hL⟩, ⟨h1, h2⟩, ⟨c3, c4, c5⟩, c6⟩ := hA
  obtain ⟨⟨hj8, hk, hL'⟩, ⟨k1, k2⟩, ⟨d3, d4, d5⟩, d6⟩ := hA'
  have hN := c7_n (sq := sq) (y3 := x3) (y4 := x4) (y5 := x5) hi8 hj8 hk h2 k2 c5 d5
  have r5 : f_X6_copy_J62 so re = some (-nI 5, soR so 5, re) := by
    unfold f_X6_copy_J62
    simp (disch := omega) only [nm_s, bd_s, bd2_s, bd3_s, bd4_s, q_gt, q_inB, ↓q_m1, l_166, l_172, l_180, l_188, l_189, l_190, l_191, l_192, l_14, l_17, l_18, l_0, l_1, l_2, l_3, l_4, l_5, l_6, l_7, l_8, l_9, l_10, l_11, l_12, l_20, l_21, l_30, l_31, l_32, l_40, l_48, l_50, l_51, l_57, l_60, l_70, l_71, l_99, l_100, l_101, l_160, l_199, l_200, l_999, l_1000, q_tn, q_add, q_mul, q_sub, q_le, q_lt, q_eq, q_31, n_and, n_or, n_xor, q_shl, q_z, q_b0, q_b1, q_bz, q_em, q_me, q_mm, q_lm, q_ml, q_mle, q_lem, s2_eq, s2_ne, pk_us, pk_un, uN_s, uN_n, if_pos, if_neg, ite_true, ite_false, if_true, if_false, not_true, not_false_iff, Nat.add_zero, Nat.zero_add, inR_t, isIx_t, bI_t, bI_f, neg1, q_clr, r6_]
  unfold f_X6_copy
  by_cases n0 : x5 < nI 0
  · have n1 : ¬ nI 0 ≤ x5 := Int32.not_le.mpr n0
    rw [hN, if_neg n1]
    simp (disch := omega) only [nm_s, bd_s, bd2_s, bd3_s, bd4_s, q_gt, q_inB, ↓q_m1, l_166, l_172, l_180, l_188, l_189, l_190, l_191, l_192, l_14, l_17, l_18, l_0, l_1, l_2, l_3, l_4, l_5, l_6, l_7, l_8, l_9, l_10, l_11, l_12, l_20, l_21, l_30, l_31, l_32, l_40, l_48, l_50, l_51, l_57, l_60, l_70, l_71, l_99, l_100, l_101, l_160, l_199, l_200, l_999, l_1000, q_tn, q_add, q_mul, q_sub, q_le, q_lt, q_eq, q_31, n_and, n_or, n_xor, q_shl, q_z, q_b0, q_b1, q_bz, q_em, q_me, q_mm, q_lm, q_ml, q_mle, q_lem, s2_eq, s2_ne, pk_us, pk_un, uN_s, uN_n, if_pos, if_neg, ite_true, ite_false, if_true, if_false, not_true, not_false_iff, Nat.add_zero, Nat.zero_add, inR_t, isIx_t, bI_t, bI_f, neg1, q_clr, hR, n1, r6_]
    exact sim_i ⟨rfl, Inv_ref I0 (by omega)⟩
  · obtain ⟨n, hn, rfl⟩ := nn_of n0
    have n2 : nI 0 ≤ nI n := nI_pos' hn
    by_cases a0 : x3 < nI 0
    · have hr1 : f_X5_hasRun (rw i) x3 (nI n) = some (bI false) := pW_hasRun_neg a0
      rw [hN, if_pos n2, if_pos a0, c7_J179]
      simp (disch := omega) only [nm_s, bd_s, bd2_s, bd3_s, bd4_s, q_gt, q_inB, ↓q_m1, l_166, l_172, l_180, l_188, l_189, l_190, l_191, l_192, l_14, l_17, l_18, l_0, l_1, l_2, l_3, l_4, l_5, l_6, l_7, l_8, l_9, l_10, l_11, l_12, l_20, l_21, l_30, l_31, l_32, l_40, l_48, l_50, l_51, l_57, l_60, l_70, l_71, l_99, l_100, l_101, l_160, l_199, l_200, l_999, l_1000, q_tn, q_add, q_mul, q_sub, q_le, q_lt, q_eq, q_31, n_and, n_or, n_xor, q_shl, q_z, q_b0, q_b1, q_bz, q_em, q_me, q_mm, q_lm, q_ml, q_mle, q_lem, s2_eq, s2_ne, pk_us, pk_un, uN_s, uN_n, if_pos, if_neg, ite_true, ite_false, if_true, if_false, not_true, not_false_iff, Nat.add_zero, Nat.zero_add, inR_t, isIx_t, bI_t, bI_f, neg1, q_clr, hR, hr1, r5]
      exact sim_i ⟨rfl, Inv_ref I0 (by omega)⟩
    · obtain ⟨a, ha, rfl⟩ := nn_of a0
      have hr1 := pW_hasRun c4 hL hn ha
      by_cases b0 : x4 < nI 0
      · have hr2 : f_X5_hasRun (rw j) x4 (nI n) = some (bI false) := pW_hasRun_neg b0
        rw [hN, if_pos n2, if_neg a0, if_pos b0, c7_J179]
        by_cases hf1 : a + n ≤ L
        · rw [decide_eq_true hf1] at hr1
          simp (disch := omega) only [nm_s, bd_s, bd2_s, bd3_s, bd4_s, q_gt, q_inB, ↓q_m1, l_166, l_172, l_180, l_188, l_189, l_190, l_191, l_192, l_14, l_17, l_18, l_0, l_1, l_2, l_3, l_4, l_5, l_6, l_7, l_8, l_9, l_10, l_11, l_12, l_20, l_21, l_30, l_31, l_32, l_40, l_48, l_50, l_51, l_57, l_60, l_70, l_71, l_99, l_100, l_101, l_160, l_199, l_200, l_999, l_1000, q_tn, q_add, q_mul, q_sub, q_le, q_lt, q_eq, q_31, n_and, n_or, n_xor, q_shl, q_z, q_b0, q_b1, q_bz, q_em, q_me, q_mm, q_lm, q_ml, q_mle, q_lem, s2_eq, s2_ne, pk_us, pk_un, uN_s, uN_n, if_pos, if_neg, ite_true, ite_false, if_true, if_false, not_true, not_false_iff, Nat.add_zero, Nat.zero_add, inR_t, isIx_t, bI_t, bI_f, neg1, q_clr, hR, hr1, hr2, r5]
          exact sim_i ⟨rfl, Inv_ref I0 (by omega)⟩
        · rw [decide_eq_false hf1] at hr1
          simp (disch := omega) only [nm_s, bd_s, bd2_s, bd3_s, bd4_s, q_gt, q_inB, ↓q_m1, l_166, l_172, l_180, l_188, l_189, l_190, l_191, l_192, l_14, l_17, l_18, l_0, l_1, l_2, l_3, l_4, l_5, l_6, l_7, l_8, l_9, l_10, l_11, l_12, l_20, l_21, l_30, l_31, l_32, l_40, l_48, l_50, l_51, l_57, l_60, l_70, l_71, l_99, l_100, l_101, l_160, l_199, l_200, l_999, l_1000, q_tn, q_add, q_mul, q_sub, q_le, q_lt, q_eq, q_31, n_and, n_or, n_xor, q_shl, q_z, q_b0, q_b1, q_bz, q_em, q_me, q_mm, q_lm, q_ml, q_mle, q_lem, s2_eq, s2_ne, pk_us, pk_un, uN_s, uN_n, if_pos, if_neg, ite_true, ite_false, if_true, if_false, not_true, not_false_iff, Nat.add_zero, Nat.zero_add, inR_t, isIx_t, bI_t, bI_f, neg1, q_clr, hR, hr1, r5]
          exact sim_i ⟨rfl, Inv_ref I0 (by omega)⟩
      · obtain ⟨b, hb, rfl⟩ := nn_of b0
        have hr2 := pW_hasRun d4 hL' hn hb
        by_cases hf1 : a + n ≤ L
        · rw [decide_eq_true hf1] at hr1
          by_cases hf2 : b + n ≤ L'
          · rw [decide_eq_true hf2] at hr2
            have hfi : fillRows re j i (nI a) (nI b) (nI n) = some (va_up re j (va_cpy (re i) (re j) a b n)) := fillRows_n (by omega) (by omega)
            rw [c7_do hA0 hA0' hf1 hf2]
            simp (disch := omega) only [nm_s, bd_s, bd2_s, bd3_s, bd4_s, q_gt, q_inB, ↓q_m1, l_166, l_172, l_180, l_188, l_189, l_190, l_191, l_192, l_14, l_17, l_18, l_0, l_1, l_2, l_3, l_4, l_5, l_6, l_7, l_8, l_9, l_10, l_11, l_12, l_20, l_21, l_30, l_31, l_32, l_40, l_48, l_50, l_51, l_57, l_60, l_70, l_71, l_99, l_100, l_101, l_160, l_199, l_200, l_999, l_1000, q_tn, q_add, q_mul, q_sub, q_le, q_lt, q_eq, q_31, n_and, n_or, n_xor, q_shl, q_z, q_b0, q_b1, q_bz, q_em, q_me, q_mm, q_lm, q_ml, q_mle, q_lem, s2_eq, s2_ne, pk_us, pk_un, uN_s, uN_n, if_pos, if_neg, ite_true, ite_false, if_true, if_false, not_true, not_false_iff, Nat.add_zero, Nat.zero_add, inR_t, isIx_t, bI_t, bI_f, neg1, q_clr, hR, hr1, hr2, hfi]
            exact sim_i ⟨rfl, copy_fin h m w hd hf hs hc ht hi hA0 hA0' hf1 hf2⟩
          · rw [decide_eq_false hf2] at hr2
            have w1 : ¬ nI 0 < lg_cmp ((nI a).toInt64 + (nI n).toInt64) ((nI L).toInt64) := by rw [q_lc (by omega) (by omega) (by omega)]; omega
            have w2 : ¬ lg_cmp ((nI b).toInt64 + (nI n).toInt64) ((nI L').toInt64) ≤ nI 0 := by rw [q_lcl (by omega) (by omega) (by omega)]; omega
            rw [hN, if_pos n2, if_neg a0, if_neg b0, if_neg w1, if_neg w2, c7_J179]
            simp (disch := omega) only [nm_s, bd_s, bd2_s, bd3_s, bd4_s, q_gt, q_inB, ↓q_m1, l_166, l_172, l_180, l_188, l_189, l_190, l_191, l_192, l_14, l_17, l_18, l_0, l_1, l_2, l_3, l_4, l_5, l_6, l_7, l_8, l_9, l_10, l_11, l_12, l_20, l_21, l_30, l_31, l_32, l_40, l_48, l_50, l_51, l_57, l_60, l_70, l_71, l_99, l_100, l_101, l_160, l_199, l_200, l_999, l_1000, q_tn, q_add, q_mul, q_sub, q_le, q_lt, q_eq, q_31, n_and, n_or, n_xor, q_shl, q_z, q_b0, q_b1, q_bz, q_em, q_me, q_mm, q_lm, q_ml, q_mle, q_lem, s2_eq, s2_ne, pk_us, pk_un, uN_s, uN_n, if_pos, if_neg, ite_true, ite_false, if_true, if_false, not_true, not_false_iff, Nat.add_zero, Nat.zero_add, inR_t, isIx_t, bI_t, bI_f, neg1, q_clr, hR, hr1, hr2, r5]
            exact sim_i ⟨rfl, Inv_ref I0 (by omega)⟩
        · rw [decide_eq_false hf1] at hr1
          have w1 : nI 0 < lg_cmp ((nI a).toInt64 + (nI n).toInt64) ((nI L).toInt64) := by rw [q_lc (by omega) (by omega) (by omega)]; omega
          rw [hN, if_pos n2, if_neg a0, if_neg b0, if_pos w1, c7_J179]
          simp (disch := omega) only [nm_s, bd_s, bd2_s, bd3_s, bd4_s, q_gt, q_inB, ↓q_m1, l_166, l_172, l_180, l_188, l_189, l_190, l_191, l_192, l_14, l_17, l_18, l_0, l_1, l_2, l_3, l_4, l_5, l_6, l_7, l_8, l_9, l_10, l_11, l_12, l_20, l_21, l_30, l_31, l_32, l_40, l_48, l_50, l_51, l_57, l_60, l_70, l_71, l_99, l_100, l_101, l_160, l_199, l_200, l_999, l_1000, q_tn, q_add, q_mul, q_sub, q_le, q_lt, q_eq, q_31, n_and, n_or, n_xor, q_shl, q_z, q_b0, q_b1, q_bz, q_em, q_me, q_mm, q_lm, q_ml, q_mle, q_lem, s2_eq, s2_ne, pk_us, pk_un, uN_s, uN_n, if_pos, if_neg, ite_true, ite_false, if_true, if_false, not_true, not_false_iff, Nat.add_zero, Nat.zero_add, inR_t, isIx_t, bI_t, bI_f, neg1, q_clr, hR, hr1, r5]
          exact sim_i ⟨rfl, Inv_ref I0 (by omega)⟩
theorem rf_c {x1 x2 : Int32} {a b : Nat} (e1 : f_X6_rowRefusal so x1 = some (nI a)) (e2 : f_X6_rowRefusal so x2 = some (nI b)) (ha : a < 4) (hb : b < 4) (hne : ¬ (a = 0 ∧ b = 0)) : f_X6_copyRefusal so x1 x2 = some (nI (if a = 1 ∨ b = 1 then 1 else if a = 2 ∨ b = 2 then 2 else 3)) := by
  unfold f_X6_copyRefusal
  rw [e1, e2, bd_s, bd_s]
  rcases (by omega : a = 0 ∨ a = 1 ∨ a = 2 ∨ a = 3) with rfl | rfl | rfl | rfl <;> rcases (by omega : b = 0 ∨ b = 1 ∨ b = 2 ∨ b = 3) with rfl | rfl | rfl | rfl <;> first | rfl | (exact absurd ⟨rfl, rfl⟩ hne)
theorem copy_no {x1 x2 x3 x4 x5 : Int32} {c : Nat} (hc : c < 8) (h0 : 0 < c) (e : f_X6_copyRefusal so x1 x2 = some (nI c)) : f_X6_copy so rw re x1 x2 x3 x4 x5 = some (-nI c, soR so c, re) := by
  unfold f_X6_copy
  simp (disch := omega) only [nm_s, bd_s, bd2_s, bd3_s, bd4_s, q_gt, q_inB, ↓q_m1, l_166, l_172, l_180, l_188, l_189, l_190, l_191, l_192, l_14, l_17, l_18, l_0, l_1, l_2, l_3, l_4, l_5, l_6, l_7, l_8, l_9, l_10, l_11, l_12, l_20, l_21, l_30, l_31, l_32, l_40, l_48, l_50, l_51, l_57, l_60, l_70, l_71, l_99, l_100, l_101, l_160, l_199, l_200, l_999, l_1000, q_tn, q_add, q_mul, q_sub, q_le, q_lt, q_eq, q_31, n_and, n_or, n_xor, q_shl, q_z, q_b0, q_b1, q_bz, q_em, q_me, q_mm, q_lm, q_ml, q_mle, q_lem, s2_eq, s2_ne, pk_us, pk_un, uN_s, uN_n, if_pos, if_neg, ite_true, ite_false, if_true, if_false, not_true, not_false_iff, Nat.add_zero, Nat.zero_add, inR_t, isIx_t, bI_t, bI_f, neg1, q_clr, e, r6_]
theorem sim_copy (I : Inv B so r0 r1 rw re sv sm sq) (x1 x2 x3 x4 x5 : Int32) : SimP (f_X6_copy so rw re x1 x2 x3 x4 x5) (f_X7_copy sm sq x1 x2 x3 x4 x5) (fun x y => x.1 = y.1 ∧ Inv B x.2.1 r0 r1 rw x.2.2 sv y.2.1 y.2.2) := by
  have I0 := I
  obtain ⟨g, ⟨h, m, w, hd⟩, hf, hs, hc, ht, hi⟩ := I
  have hP := w.1.1.1
  have r1_ : f_X7_copy_J20 sm sq = some (mI, smR sm 1, sq) := by
    unfold f_X7_copy_J20
    simp (disch := omega) only [nm_s, bd_s, bd2_s, bd3_s, bd4_s, q_gt, q_inB, ↓q_m1, l_166, l_172, l_180, l_188, l_189, l_190, l_191, l_192, l_14, l_17, l_18, l_0, l_1, l_2, l_3, l_4, l_5, l_6, l_7, l_8, l_9, l_10, l_11, l_12, l_20, l_21, l_30, l_31, l_32, l_40, l_48, l_50, l_51, l_57, l_60, l_70, l_71, l_99, l_100, l_101, l_160, l_199, l_200, l_999, l_1000, q_tn, q_add, q_mul, q_sub, q_le, q_lt, q_eq, q_31, n_and, n_or, n_xor, q_shl, q_z, q_b0, q_b1, q_bz, q_em, q_me, q_mm, q_lm, q_ml, q_mle, q_lem, s2_eq, s2_ne, pk_us, pk_un, uN_s, uN_n, if_pos, if_neg, ite_true, ite_false, if_true, if_false, not_true, not_false_iff, Nat.add_zero, Nat.zero_add, inR_t, isIx_t, bI_t, bI_f, neg1, q_clr, r7_1]
  have end2 : ∀ Z, Z = f_X7_copy_J91 sm sq → ∀ a b, a < 4 → b < 4 → (a = 2 ∨ b = 2) → ¬ (a = 1 ∨ b = 1) → f_X6_rowRefusal so x1 = some (nI a) → f_X6_rowRefusal so x2 = some (nI b) → SimP (f_X6_copy so rw re x1 x2 x3 x4 x5) Z (fun x y => x.1 = y.1 ∧ Inv B x.2.1 r0 r1 rw x.2.2 sv y.2.1 y.2.2) := fun Z hZ a b ha hb h2 h3 e1 e2 => by
    have e := rf_c e1 e2 ha hb (by omega)
    rw [if_neg h3, if_pos h2] at e
    rw [hZ, c7_J91, copy_no (by omega) (by omega) e]
    exact sim_i ⟨rfl, Inv_ref I0 (by omega)⟩
  have end3 : ∀ Z, Z = f_X7_copy_J116 sm sq → ∀ a b, a < 4 → b < 4 → ¬ (a = 0 ∧ b = 0) → ¬ (a = 2 ∨ b = 2) → ¬ (a = 1 ∨ b = 1) → f_X6_rowRefusal so x1 = some (nI a) → f_X6_rowRefusal so x2 = some (nI b) → SimP (f_X6_copy so rw re x1 x2 x3 x4 x5) Z (fun x y => x.1 = y.1 ∧ Inv B x.2.1 r0 r1 rw x.2.2 sv y.2.1 y.2.2) := fun Z hZ a b ha hb h1 h2 h3 e1 e2 => by
    have e := rf_c e1 e2 ha hb h1
    rw [if_neg h3, if_neg h2] at e
    rw [hZ, c7_J116, copy_no (by omega) (by omega) e]
    exact sim_i ⟨rfl, Inv_ref I0 (by omega)⟩
  rcases sh_c hs x1 with p0 | ⟨i, hi8, rfl, A⟩
  · obtain ⟨c, hc4, e2⟩ : ∃ c, c < 4 ∧ f_X6_rowRefusal so x2 = some (nI c) := by
      rcases noRow_c hs hP x2 with ⟨a1, _⟩ | ⟨a1, _⟩ | ⟨a1, _⟩ | ⟨_, _, _, _, a1, _⟩
      · exact ⟨_, by omega, a1⟩
      · exact ⟨_, by omega, a1⟩
      · exact ⟨_, by omega, a1⟩
      · exact ⟨_, by omega, a1⟩
    have e := rf_c (rr_n p0) e2 (by omega) hc4 (by omega)
    rw [if_pos (Or.inl rfl)] at e
    have e7 : f_X7_copy sm sq x1 x2 x3 x4 x5 = f_X7_copy_J20 sm sq := by
      unfold f_X7_copy
      rw [show (0 : Int32) = nI 0 from rfl, show (7 : Int32) = nI 7 from rfl, w7_sh, bd_s, p0, if_pos zb0]
    rw [e7, r1_, copy_no (by omega) (by omega) e]
    exact sim_i ⟨rfl, Inv_ref I0 (by omega)⟩
  · rcases sh_c hs x2 with o0 | ⟨j, hj8, rfl, A'⟩
    · obtain ⟨c, hc4, e1⟩ : ∃ c, c < 4 ∧ f_X6_rowRefusal so (nI i) = some (nI c) := by
        rcases A with ⟨h1, h2⟩ | ⟨p, hp, h1, h2⟩ | ⟨k, L, hA⟩
        · exact ⟨3, by omega, rr_m hi8 h1⟩
        · exact ⟨2, by omega, rr_p hi8 h1 (by omega)⟩
        · exact ⟨0, by omega, rr_k hi8 hA.2.1.1 hA.1.2.1⟩
      have e := rf_c e1 (rr_n o0) hc4 (by omega) (by omega)
      rw [if_pos (Or.inr rfl)] at e
      have e7 : f_X7_copy sm sq (nI i) x2 x3 x4 x5 = f_X7_copy_J20 sm sq := by
        unfold f_X7_copy
        rw [show (0 : Int32) = nI 0 from rfl, show (7 : Int32) = nI 7 from rfl, w7_sh, bd_s, isIx_t hi8 (by omega), if_neg (by decide), w7_sh, bd_s, o0, if_pos zb0]
      rw [e7, r1_, copy_no (by omega) (by omega) e]
      exact sim_i ⟨rfl, Inv_ref I0 (by omega)⟩
    · rcases A with ⟨h1, h2⟩ | ⟨p, hp, h1, h2⟩ | ⟨k, L, hA⟩
      · have e1 := rr_m hi8 h1
        rcases A' with ⟨k1, k2⟩ | ⟨p', hp', k1, k2⟩ | ⟨k', L', hA'⟩
        · exact end3 _ ((c7_m hi8 hj8 h2).trans ((c7_43m hj8 k2).trans ((c7_60n (i7_m hi8 h2)).trans (c7_98m hi8 h2)))) 3 3 (by omega) (by omega) (by omega) (by omega) (by omega) e1 (rr_m hj8 k1)
        · exact end2 _ ((c7_m hi8 hj8 h2).trans (c7_43p hj8 k2 (by omega))) 3 2 (by omega) (by omega) (by omega) (by omega) e1 (rr_p hj8 k1 (by omega))
        · exact end3 _ ((c7_m hi8 hj8 h2).trans ((c7_43k hj8 hA'.2.1.2 hA'.1.2.1).trans ((c7_60n (i7_m hi8 h2)).trans (c7_98m hi8 h2)))) 3 0 (by omega) (by omega) (by omega) (by omega) (by omega) e1 (rr_k hj8 hA'.2.1.1 hA'.1.2.1)
      · have e1 := rr_p hi8 h1 (show p < 100 by omega)
        have e7 := fun y3 y4 y5 => c7_p (sq := sq) (y3 := y3) (y4 := y4) (y5 := y5) hi8 hj8 h2 (show p < 100 by omega)
        rcases A' with ⟨k1, k2⟩ | ⟨p', hp', k1, k2⟩ | ⟨k', L', hA'⟩
        · exact end2 _ (e7 _ _ _) 2 3 (by omega) (by omega) (by omega) (by omega) e1 (rr_m hj8 k1)
        · exact end2 _ (e7 _ _ _) 2 2 (by omega) (by omega) (by omega) (by omega) e1 (rr_p hj8 k1 (by omega))
        · exact end2 _ (e7 _ _ _) 2 0 (by omega) (by omega) (by omega) (by omega) e1 (rr_k hj8 hA'.2.1.1 hA'.1.2.1)
      · have h2 := hA.2.1.2
        have hk := hA.1.2.1
        have e1 := rr_k hi8 hA.2.1.1 hk
        have e7 := fun y3 y4 y5 => c7_k (sq := sq) (y3 := y3) (y4 := y4) (y5 := y5) hi8 hj8 h2 hk
        rcases A' with ⟨k1, k2⟩ | ⟨p', hp', k1, k2⟩ | ⟨k', L', hA'⟩
        · exact end3 _ ((e7 _ _ _).trans ((c7_43m hj8 k2).trans ((c7_60m (i7_k hi8 h2 hk) (i7_m hj8 k2)).trans (c7_98k hi8 hj8 h2 (by omega) k2)))) 0 3 (by omega) (by omega) (by omega) (by omega) (by omega) e1 (rr_m hj8 k1)
        · exact end2 _ ((e7 _ _ _).trans (c7_43p hj8 k2 (by omega))) 0 2 (by omega) (by omega) (by omega) (by omega) e1 (rr_p hj8 k1 (by omega))
        · have e2 := rr_k hj8 hA'.2.1.1 hA'.1.2.1
          have k2 := hA'.2.1.2
          have hk' := hA'.1.2.1
          have h1 := hA.2.1.1
          have k1 := hA'.2.1.1
          have e60 := c7_60k (sq := sq) (y3 := x3) (y4 := x4) (y5 := x5) hi8 hj8 h2 hk k2 hk'
          have e43 := (e7 x3 x4 x5).trans ((c7_43k (i := i) hj8 k2 hk').trans e60)
          rw [e43]
          by_cases hkk : k = k'
          · subst hkk
            rw [if_pos rfl]
            refine copy_end I0 h m w hd hf hs hc ht hi hA hA' ?_
            unfold f_X6_copyRefusal
            rw [e1, e2, bd_s, bd_s]
            simp (disch := omega) only [q_gt, q_inB, q_tn, h1, k1]
            rfl
          · rw [if_neg hkk, c7_J91, copy_no (c := 2) (by omega) (by omega) ?_]
            · exact sim_i ⟨rfl, Inv_ref I0 (by omega)⟩
            · unfold f_X6_copyRefusal
              rw [e1, e2, bd_s, bd_s]
              have hne : ¬ nI (100 + k) = nI (100 + k') := by rw [n_eq (by omega) (by omega)]; omega
              simp (disch := omega) only [q_gt, q_inB, q_tn, h1, k1, hne]
              rfl
theorem sim_says (I : Inv B so r0 r1 rw re sv sm sq) (x1 x2 : Int32) : SimP (f_X6_says so r0 x1 x2) (f_X7_says sm x1 x2) (fun x y => x.1 = y.1 ∧ Inv B x.2 r0 r1 rw re sv y.2 sq) := by
  have I0 := I
  obtain ⟨g, ⟨h, m, w, hd⟩, hf, hs, hc, ht, hi⟩ := I
  have hP := w.1.1.1
  have hY := w.1.1.2.2.2
  unfold f_X6_says f_X7_says
  rcases sh_c hs x1 with p0 | ⟨i, hi8, rfl, A⟩
  · simp (disch := omega) only [nm_s, bd_s, bd2_s, bd3_s, bd4_s, q_gt, q_inB, ↓q_m1, l_166, l_172, l_180, l_188, l_189, l_190, l_191, l_192, l_14, l_17, l_18, l_0, l_1, l_2, l_3, l_4, l_5, l_6, l_7, l_8, l_9, l_10, l_11, l_12, l_20, l_21, l_30, l_31, l_32, l_40, l_48, l_50, l_51, l_57, l_60, l_70, l_71, l_99, l_100, l_101, l_160, l_199, l_200, l_999, l_1000, q_tn, q_add, q_mul, q_sub, q_le, q_lt, q_eq, q_31, n_and, n_or, n_xor, q_shl, q_z, q_b0, q_b1, q_bz, q_em, q_me, q_mm, q_lm, q_ml, q_mle, q_lem, s2_eq, s2_ne, pk_us, pk_un, uN_s, uN_n, if_pos, if_neg, ite_true, ite_false, if_true, if_false, not_true, not_false_iff, Nat.add_zero, Nat.zero_add, inR_t, isIx_t, bI_t, bI_f, neg1, q_clr, p6_isShelf, w7_sh, p0, f_X6_says_J14, f_X7_says_J20, r6_, r7_, r7_1]
    exact sim_i ⟨rfl, Inv_ref I0 (by omega)⟩
  · rcases ixl x2 7 (by omega) with o0 | ⟨z, hz, rfl, o1⟩
    · simp (disch := omega) only [nm_s, bd_s, bd2_s, bd3_s, bd4_s, q_gt, q_inB, ↓q_m1, l_166, l_172, l_180, l_188, l_189, l_190, l_191, l_192, l_14, l_17, l_18, l_0, l_1, l_2, l_3, l_4, l_5, l_6, l_7, l_8, l_9, l_10, l_11, l_12, l_20, l_21, l_30, l_31, l_32, l_40, l_48, l_50, l_51, l_57, l_60, l_70, l_71, l_99, l_100, l_101, l_160, l_199, l_200, l_999, l_1000, q_tn, q_add, q_mul, q_sub, q_le, q_lt, q_eq, q_31, n_and, n_or, n_xor, q_shl, q_z, q_b0, q_b1, q_bz, q_em, q_me, q_mm, q_lm, q_ml, q_mle, q_lem, s2_eq, s2_ne, pk_us, pk_un, uN_s, uN_n, if_pos, if_neg, ite_true, ite_false, if_true, if_false, not_true, not_false_iff, Nat.add_zero, Nat.zero_add, inR_t, isIx_t, bI_t, bI_f, neg1, q_clr, p6_isShelf, w7_sh, p6_isKind, w7_ix, o0, f_X6_says_J14, f_X7_says_J20, r6_, r7_, r7_1]
      exact sim_i ⟨rfl, Inv_ref I0 (by omega)⟩
    · rcases A with ⟨h1, h2⟩ | ⟨p, hp, h1, h2⟩ | ⟨k, L, hA⟩
      · simp (disch := omega) only [nm_s, bd_s, bd2_s, bd3_s, bd4_s, q_gt, q_inB, ↓q_m1, l_166, l_172, l_180, l_188, l_189, l_190, l_191, l_192, l_14, l_17, l_18, l_0, l_1, l_2, l_3, l_4, l_5, l_6, l_7, l_8, l_9, l_10, l_11, l_12, l_20, l_21, l_30, l_31, l_32, l_40, l_48, l_50, l_51, l_57, l_60, l_70, l_71, l_99, l_100, l_101, l_160, l_199, l_200, l_999, l_1000, q_tn, q_add, q_mul, q_sub, q_le, q_lt, q_eq, q_31, n_and, n_or, n_xor, q_shl, q_z, q_b0, q_b1, q_bz, q_em, q_me, q_mm, q_lm, q_ml, q_mle, q_lem, s2_eq, s2_ne, pk_us, pk_un, uN_s, uN_n, if_pos, if_neg, ite_true, ite_false, if_true, if_false, not_true, not_false_iff, Nat.add_zero, Nat.zero_add, inR_t, isIx_t, bI_t, bI_f, neg1, q_clr, p6_isShelf, w7_sh, p6_isKind, w7_ix, h1, h2, f_X7_says_J65, r6_, r7_]
        exact sim_i ⟨rfl, Inv_ref I0 (by omega)⟩
      · have hk := (w.1.2.1 p hp).1
        have u6 := pR_isUnder (g 1 p) hk z hz
        have u7 := pM_isUnder (g 1 p) hk z hz
        cases hu : underK (g 1 p) z with
        | false =>
          rw [hu] at u6 u7
          simp (disch := omega) only [nm_s, bd_s, bd2_s, bd3_s, bd4_s, q_gt, q_inB, ↓q_m1, l_166, l_172, l_180, l_188, l_189, l_190, l_191, l_192, l_14, l_17, l_18, l_0, l_1, l_2, l_3, l_4, l_5, l_6, l_7, l_8, l_9, l_10, l_11, l_12, l_20, l_21, l_30, l_31, l_32, l_40, l_48, l_50, l_51, l_57, l_60, l_70, l_71, l_99, l_100, l_101, l_160, l_199, l_200, l_999, l_1000, q_tn, q_add, q_mul, q_sub, q_le, q_lt, q_eq, q_31, n_and, n_or, n_xor, q_shl, q_z, q_b0, q_b1, q_bz, q_em, q_me, q_mm, q_lm, q_ml, q_mle, q_lem, s2_eq, s2_ne, pk_us, pk_un, uN_s, uN_n, if_pos, if_neg, ite_true, ite_false, if_true, if_false, not_true, not_false_iff, Nat.add_zero, Nat.zero_add, inR_t, isIx_t, bI_t, bI_f, neg1, q_clr, p6_isShelf, w7_sh, p6_isKind, w7_ix, h1, h2, pR_isPeak h, h.c3, m.c5, f_X7_isRow, u6, u7, f_X6_says_J65, f_X7_says_J58, r6_, r7_]
          exact sim_i ⟨rfl, Inv_ref I0 (by omega)⟩
        | true =>
          rw [hu] at u6 u7
          have hbl := lt31 (black_lt g (aY g)) (by omega)
          have e1 := p_bit (w := black g (aY g)) (i := p) (by omega) (by omega)
          have e2 := pM_has (w := black g (aY g)) (i := p) (by omega) (by omega)
          have bk : f_X6_said_J44 r0 (nI p) = some (bI ((black g (aY g)).testBit p)) := by
            unfold f_X6_said_J44
            simp (disch := omega) only [nm_s, bd_s, bd2_s, bd3_s, bd4_s, q_gt, q_inB, ↓q_m1, l_166, l_172, l_180, l_188, l_189, l_190, l_191, l_192, l_14, l_17, l_18, l_0, l_1, l_2, l_3, l_4, l_5, l_6, l_7, l_8, l_9, l_10, l_11, l_12, l_20, l_21, l_30, l_31, l_32, l_40, l_48, l_50, l_51, l_57, l_60, l_70, l_71, l_99, l_100, l_101, l_160, l_199, l_200, l_999, l_1000, q_tn, q_add, q_mul, q_sub, q_le, q_lt, q_eq, q_31, n_and, n_or, n_xor, q_shl, q_z, q_b0, q_b1, q_bz, q_em, q_me, q_mm, q_lm, q_ml, q_mle, q_lem, s2_eq, s2_ne, pk_us, pk_un, uN_s, uN_n, if_pos, if_neg, ite_true, ite_false, if_true, if_false, not_true, not_false_iff, Nat.add_zero, Nat.zero_add, inR_t, isIx_t, bI_t, bI_f, neg1, q_clr, h.cy, pR_blackIn h w.1, e1]
          have bm : f_X7_says_J119 (nI p) sm = some (bI ((black g (aY g)).testBit p), sm) := by
            unfold f_X7_says_J119
            cases hb : (black g (aY g)).testBit p with
            | true =>
              rw [hb] at e2
              simp (disch := omega) only [nm_s, bd_s, bd2_s, bd3_s, bd4_s, q_gt, q_inB, ↓q_m1, l_166, l_172, l_180, l_188, l_189, l_190, l_191, l_192, l_14, l_17, l_18, l_0, l_1, l_2, l_3, l_4, l_5, l_6, l_7, l_8, l_9, l_10, l_11, l_12, l_20, l_21, l_30, l_31, l_32, l_40, l_48, l_50, l_51, l_57, l_60, l_70, l_71, l_99, l_100, l_101, l_160, l_199, l_200, l_999, l_1000, q_tn, q_add, q_mul, q_sub, q_le, q_lt, q_eq, q_31, n_and, n_or, n_xor, q_shl, q_z, q_b0, q_b1, q_bz, q_em, q_me, q_mm, q_lm, q_ml, q_mle, q_lem, s2_eq, s2_ne, pk_us, pk_un, uN_s, uN_n, if_pos, if_neg, ite_true, ite_false, if_true, if_false, not_true, not_false_iff, Nat.add_zero, Nat.zero_add, inR_t, isIx_t, bI_t, bI_f, neg1, q_clr, pM_blacks m w.1, e2]
            | false =>
              rw [hb] at e2
              simp (disch := omega) only [nm_s, bd_s, bd2_s, bd3_s, bd4_s, q_gt, q_inB, ↓q_m1, l_166, l_172, l_180, l_188, l_189, l_190, l_191, l_192, l_14, l_17, l_18, l_0, l_1, l_2, l_3, l_4, l_5, l_6, l_7, l_8, l_9, l_10, l_11, l_12, l_20, l_21, l_30, l_31, l_32, l_40, l_48, l_50, l_51, l_57, l_60, l_70, l_71, l_99, l_100, l_101, l_160, l_199, l_200, l_999, l_1000, q_tn, q_add, q_mul, q_sub, q_le, q_lt, q_eq, q_31, n_and, n_or, n_xor, q_shl, q_z, q_b0, q_b1, q_bz, q_em, q_me, q_mm, q_lm, q_ml, q_mle, q_lem, s2_eq, s2_ne, pk_us, pk_un, uN_s, uN_n, if_pos, if_neg, ite_true, ite_false, if_true, if_false, not_true, not_false_iff, Nat.add_zero, Nat.zero_add, inR_t, isIx_t, bI_t, bI_f, neg1, q_clr, pM_blacks m w.1, e2]
          have mk : f_X6_said_J63 r0 (nI p) = some (nI (mournY (g 1 p) (g 2 p) 100)) := by
            unfold f_X6_said_J63
            simp (disch := omega) only [nm_s, bd_s, bd2_s, bd3_s, bd4_s, q_gt, q_inB, ↓q_m1, l_166, l_172, l_180, l_188, l_189, l_190, l_191, l_192, l_14, l_17, l_18, l_0, l_1, l_2, l_3, l_4, l_5, l_6, l_7, l_8, l_9, l_10, l_11, l_12, l_20, l_21, l_30, l_31, l_32, l_40, l_48, l_50, l_51, l_57, l_60, l_70, l_71, l_99, l_100, l_101, l_160, l_199, l_200, l_999, l_1000, q_tn, q_add, q_mul, q_sub, q_le, q_lt, q_eq, q_31, n_and, n_or, n_xor, q_shl, q_z, q_b0, q_b1, q_bz, q_em, q_me, q_mm, q_lm, q_ml, q_mle, q_lem, s2_eq, s2_ne, pk_us, pk_un, uN_s, uN_n, if_pos, if_neg, ite_true, ite_false, if_true, if_false, not_true, not_false_iff, Nat.add_zero, Nat.zero_add, inR_t, isIx_t, bI_t, bI_f, neg1, q_clr, pR_mournedYears h w.1]
          have mm : f_X7_says_J149 (nI p) sm = some (nI (mournY (g 1 p) (g 2 p) 100), sm) := by
            unfold f_X7_says_J149
            simp (disch := omega) only [nm_s, bd_s, bd2_s, bd3_s, bd4_s, q_gt, q_inB, ↓q_m1, l_166, l_172, l_180, l_188, l_189, l_190, l_191, l_192, l_14, l_17, l_18, l_0, l_1, l_2, l_3, l_4, l_5, l_6, l_7, l_8, l_9, l_10, l_11, l_12, l_20, l_21, l_30, l_31, l_32, l_40, l_48, l_50, l_51, l_57, l_60, l_70, l_71, l_99, l_100, l_101, l_160, l_199, l_200, l_999, l_1000, q_tn, q_add, q_mul, q_sub, q_le, q_lt, q_eq, q_31, n_and, n_or, n_xor, q_shl, q_z, q_b0, q_b1, q_bz, q_em, q_me, q_mm, q_lm, q_ml, q_mle, q_lem, s2_eq, s2_ne, pk_us, pk_un, uN_s, uN_n, if_pos, if_neg, ite_true, ite_false, if_true, if_false, not_true, not_false_iff, Nat.add_zero, Nat.zero_add, inR_t, isIx_t, bI_t, bI_f, neg1, q_clr, pM_mourns m w.1]
          rcases (by omega : z = 0 ∨ z = 1 ∨ z = 2 ∨ z = 3 ∨ z = 4 ∨ z = 5 ∨ z = 6) with rfl | rfl | rfl | rfl | rfl | rfl | rfl
          · simp (disch := omega) only [nm_s, bd_s, bd2_s, bd3_s, bd4_s, q_gt, q_inB, ↓q_m1, l_166, l_172, l_180, l_188, l_189, l_190, l_191, l_192, l_14, l_17, l_18, l_0, l_1, l_2, l_3, l_4, l_5, l_6, l_7, l_8, l_9, l_10, l_11, l_12, l_20, l_21, l_30, l_31, l_32, l_40, l_48, l_50, l_51, l_57, l_60, l_70, l_71, l_99, l_100, l_101, l_160, l_199, l_200, l_999, l_1000, q_tn, q_add, q_mul, q_sub, q_le, q_lt, q_eq, q_31, n_and, n_or, n_xor, q_shl, q_z, q_b0, q_b1, q_bz, q_em, q_me, q_mm, q_lm, q_ml, q_mle, q_lem, s2_eq, s2_ne, pk_us, pk_un, uN_s, uN_n, if_pos, if_neg, ite_true, ite_false, if_true, if_false, not_true, not_false_iff, Nat.add_zero, Nat.zero_add, inR_t, isIx_t, bI_t, bI_f, neg1, q_clr, p6_isShelf, w7_sh, p6_isKind, w7_ix, h1, h2, pR_isPeak h, h.c3, m.c5, f_X7_isRow, u6, u7, f_X6_said, f_X7_says_J65, h.c6, m.c8]
            exact sim_i ⟨rfl, I0⟩
          · simp (disch := omega) only [nm_s, bd_s, bd2_s, bd3_s, bd4_s, q_gt, q_inB, ↓q_m1, l_166, l_172, l_180, l_188, l_189, l_190, l_191, l_192, l_14, l_17, l_18, l_0, l_1, l_2, l_3, l_4, l_5, l_6, l_7, l_8, l_9, l_10, l_11, l_12, l_20, l_21, l_30, l_31, l_32, l_40, l_48, l_50, l_51, l_57, l_60, l_70, l_71, l_99, l_100, l_101, l_160, l_199, l_200, l_999, l_1000, q_tn, q_add, q_mul, q_sub, q_le, q_lt, q_eq, q_31, n_and, n_or, n_xor, q_shl, q_z, q_b0, q_b1, q_bz, q_em, q_me, q_mm, q_lm, q_ml, q_mle, q_lem, s2_eq, s2_ne, pk_us, pk_un, uN_s, uN_n, if_pos, if_neg, ite_true, ite_false, if_true, if_false, not_true, not_false_iff, Nat.add_zero, Nat.zero_add, inR_t, isIx_t, bI_t, bI_f, neg1, q_clr, p6_isShelf, w7_sh, p6_isKind, w7_ix, h1, h2, pR_isPeak h, h.c3, m.c5, f_X7_isRow, u6, u7, f_X6_said, f_X7_says_J65, bk, bm]
            exact sim_i ⟨rfl, I0⟩
          · simp (disch := omega) only [nm_s, bd_s, bd2_s, bd3_s, bd4_s, q_gt, q_inB, ↓q_m1, l_166, l_172, l_180, l_188, l_189, l_190, l_191, l_192, l_14, l_17, l_18, l_0, l_1, l_2, l_3, l_4, l_5, l_6, l_7, l_8, l_9, l_10, l_11, l_12, l_20, l_21, l_30, l_31, l_32, l_40, l_48, l_50, l_51, l_57, l_60, l_70, l_71, l_99, l_100, l_101, l_160, l_199, l_200, l_999, l_1000, q_tn, q_add, q_mul, q_sub, q_le, q_lt, q_eq, q_31, n_and, n_or, n_xor, q_shl, q_z, q_b0, q_b1, q_bz, q_em, q_me, q_mm, q_lm, q_ml, q_mle, q_lem, s2_eq, s2_ne, pk_us, pk_un, uN_s, uN_n, if_pos, if_neg, ite_true, ite_false, if_true, if_false, not_true, not_false_iff, Nat.add_zero, Nat.zero_add, inR_t, isIx_t, bI_t, bI_f, neg1, q_clr, p6_isShelf, w7_sh, p6_isKind, w7_ix, h1, h2, pR_isPeak h, h.c3, m.c5, f_X7_isRow, u6, u7, f_X6_said, f_X7_says_J65, mk, mm]
            exact sim_i ⟨rfl, I0⟩
          · simp (disch := omega) only [nm_s, bd_s, bd2_s, bd3_s, bd4_s, q_gt, q_inB, ↓q_m1, l_166, l_172, l_180, l_188, l_189, l_190, l_191, l_192, l_14, l_17, l_18, l_0, l_1, l_2, l_3, l_4, l_5, l_6, l_7, l_8, l_9, l_10, l_11, l_12, l_20, l_21, l_30, l_31, l_32, l_40, l_48, l_50, l_51, l_57, l_60, l_70, l_71, l_99, l_100, l_101, l_160, l_199, l_200, l_999, l_1000, q_tn, q_add, q_mul, q_sub, q_le, q_lt, q_eq, q_31, n_and, n_or, n_xor, q_shl, q_z, q_b0, q_b1, q_bz, q_em, q_me, q_mm, q_lm, q_ml, q_mle, q_lem, s2_eq, s2_ne, pk_us, pk_un, uN_s, uN_n, if_pos, if_neg, ite_true, ite_false, if_true, if_false, not_true, not_false_iff, Nat.add_zero, Nat.zero_add, inR_t, isIx_t, bI_t, bI_f, neg1, q_clr, p6_isShelf, w7_sh, p6_isKind, w7_ix, h1, h2, pR_isPeak h, h.c3, m.c5, f_X7_isRow, u6, u7, f_X6_said, f_X7_says_J65, bk, bm]
            exact sim_i ⟨rfl, I0⟩
          · simp (disch := omega) only [nm_s, bd_s, bd2_s, bd3_s, bd4_s, q_gt, q_inB, ↓q_m1, l_166, l_172, l_180, l_188, l_189, l_190, l_191, l_192, l_14, l_17, l_18, l_0, l_1, l_2, l_3, l_4, l_5, l_6, l_7, l_8, l_9, l_10, l_11, l_12, l_20, l_21, l_30, l_31, l_32, l_40, l_48, l_50, l_51, l_57, l_60, l_70, l_71, l_99, l_100, l_101, l_160, l_199, l_200, l_999, l_1000, q_tn, q_add, q_mul, q_sub, q_le, q_lt, q_eq, q_31, n_and, n_or, n_xor, q_shl, q_z, q_b0, q_b1, q_bz, q_em, q_me, q_mm, q_lm, q_ml, q_mle, q_lem, s2_eq, s2_ne, pk_us, pk_un, uN_s, uN_n, if_pos, if_neg, ite_true, ite_false, if_true, if_false, not_true, not_false_iff, Nat.add_zero, Nat.zero_add, inR_t, isIx_t, bI_t, bI_f, neg1, q_clr, p6_isShelf, w7_sh, p6_isKind, w7_ix, h1, h2, pR_isPeak h, h.c3, m.c5, m.c6, f_X7_isRow, u6, u7, f_X6_said, f_X7_says_J65, pR_sightOf h w.1]
            exact sim_i ⟨rfl, I0⟩
          · simp (disch := omega) only [nm_s, bd_s, bd2_s, bd3_s, bd4_s, q_gt, q_inB, ↓q_m1, l_166, l_172, l_180, l_188, l_189, l_190, l_191, l_192, l_14, l_17, l_18, l_0, l_1, l_2, l_3, l_4, l_5, l_6, l_7, l_8, l_9, l_10, l_11, l_12, l_20, l_21, l_30, l_31, l_32, l_40, l_48, l_50, l_51, l_57, l_60, l_70, l_71, l_99, l_100, l_101, l_160, l_199, l_200, l_999, l_1000, q_tn, q_add, q_mul, q_sub, q_le, q_lt, q_eq, q_31, n_and, n_or, n_xor, q_shl, q_z, q_b0, q_b1, q_bz, q_em, q_me, q_mm, q_lm, q_ml, q_mle, q_lem, s2_eq, s2_ne, pk_us, pk_un, uN_s, uN_n, if_pos, if_neg, ite_true, ite_false, if_true, if_false, not_true, not_false_iff, Nat.add_zero, Nat.zero_add, inR_t, isIx_t, bI_t, bI_f, neg1, q_clr, p6_isShelf, w7_sh, p6_isKind, w7_ix, h1, h2, pR_isPeak h, h.c3, m.c5, f_X7_isRow, u6, u7, f_X6_said, f_X7_says_J65, mk, mm]
            exact sim_i ⟨rfl, I0⟩
          · simp (disch := omega) only [nm_s, bd_s, bd2_s, bd3_s, bd4_s, q_gt, q_inB, ↓q_m1, l_166, l_172, l_180, l_188, l_189, l_190, l_191, l_192, l_14, l_17, l_18, l_0, l_1, l_2, l_3, l_4, l_5, l_6, l_7, l_8, l_9, l_10, l_11, l_12, l_20, l_21, l_30, l_31, l_32, l_40, l_48, l_50, l_51, l_57, l_60, l_70, l_71, l_99, l_100, l_101, l_160, l_199, l_200, l_999, l_1000, q_tn, q_add, q_mul, q_sub, q_le, q_lt, q_eq, q_31, n_and, n_or, n_xor, q_shl, q_z, q_b0, q_b1, q_bz, q_em, q_me, q_mm, q_lm, q_ml, q_mle, q_lem, s2_eq, s2_ne, pk_us, pk_un, uN_s, uN_n, if_pos, if_neg, ite_true, ite_false, if_true, if_false, not_true, not_false_iff, Nat.add_zero, Nat.zero_add, inR_t, isIx_t, bI_t, bI_f, neg1, q_clr, p6_isShelf, w7_sh, p6_isKind, w7_ix, h1, h2, pR_isPeak h, h.c3, m.c5, f_X7_isRow, u6, u7, f_X6_said, f_X7_says_J65, mk, mm]
            exact sim_i ⟨rfl, I0⟩
      · obtain ⟨⟨_, hk, hL⟩, ⟨c1, c2⟩, ⟨c3, c4, c5⟩, c6⟩ := hA
        have hnp : isIx (nI (100 + k)) (aP g) = false := by
          rw [isIx_n (by omega) (by omega), decide_eq_false (by omega)]
        simp (disch := omega) only [nm_s, bd_s, bd2_s, bd3_s, bd4_s, q_gt, q_inB, ↓q_m1, l_166, l_172, l_180, l_188, l_189, l_190, l_191, l_192, l_14, l_17, l_18, l_0, l_1, l_2, l_3, l_4, l_5, l_6, l_7, l_8, l_9, l_10, l_11, l_12, l_20, l_21, l_30, l_31, l_32, l_40, l_48, l_50, l_51, l_57, l_60, l_70, l_71, l_99, l_100, l_101, l_160, l_199, l_200, l_999, l_1000, q_tn, q_add, q_mul, q_sub, q_le, q_lt, q_eq, q_31, n_and, n_or, n_xor, q_shl, q_z, q_b0, q_b1, q_bz, q_em, q_me, q_mm, q_lm, q_ml, q_mle, q_lem, s2_eq, s2_ne, pk_us, pk_un, uN_s, uN_n, if_pos, if_neg, ite_true, ite_false, if_true, if_false, not_true, not_false_iff, Nat.add_zero, Nat.zero_add, inR_t, isIx_t, bI_t, bI_f, neg1, q_clr, p6_isShelf, w7_sh, p6_isKind, w7_ix, c1, c2, pR_isPeak h, hnp, f_X7_isRow, f_X6_says_J65, f_X7_says_J58, r6_, r7_]
        exact sim_i ⟨rfl, Inv_ref I0 (by omega)⟩
theorem sim_image (I : Inv B so r0 r1 rw re sv sm sq) : SimP (f_X6_image so r0 r1) (f_X7_image sm) (fun x y => x.1 = y.1 ∧ Inv B x.2.1 r0 x.2.2 rw re sv y.2 sq) := by
  obtain ⟨g, ⟨h, m, w, hd⟩, hf, hs, hc, ht, hi⟩ := I
  unfold f_X6_image f_X7_image
  obtain ⟨z, e, h1, h2⟩ := pR_become (r := r1) h w.1
  have m1 : RepM g (s2 sm 0 (upd (sm 0) 23 (nI 1))) := ⟨⟨m.c0, m.cs, m.cv, m.cy⟩, m.2⟩
  obtain ⟨f, e2, h3, h4⟩ := keepM (B := B) (K := 25) (by omega) m1
  simp (disch := omega) only [nm_s, bd_s, bd2_s, bd3_s, bd4_s, q_gt, q_inB, ↓q_m1, l_166, l_172, l_180, l_188, l_189, l_190, l_191, l_192, l_14, l_17, l_18, l_0, l_1, l_2, l_3, l_4, l_5, l_6, l_7, l_8, l_9, l_10, l_11, l_12, l_20, l_21, l_30, l_31, l_32, l_40, l_48, l_50, l_51, l_57, l_60, l_70, l_71, l_99, l_100, l_101, l_160, l_199, l_200, l_999, l_1000, q_tn, q_add, q_mul, q_sub, q_le, q_lt, q_eq, q_31, n_and, n_or, n_xor, q_shl, q_z, q_b0, q_b1, q_bz, q_em, q_me, q_mm, q_lm, q_ml, q_mle, q_lem, s2_eq, s2_ne, pk_us, pk_un, uN_s, uN_n, if_pos, if_neg, ite_true, ite_false, if_true, if_false, not_true, not_false_iff, Nat.add_zero, Nat.zero_add, inR_t, isIx_t, bI_t, bI_f, neg1, q_clr, e, e2, h.c0]
  refine sim_i ⟨?_, g, ⟨h, h4, w, hd⟩, hf, fun i hi => ?_, fun i hi => hc i hi, ?_, true, rfl, rfl, fun _ => ⟨g, h1, ?_, w⟩⟩
  · exact h4.c0.symm
  · obtain ⟨a, b⟩ := hs i hi
    exact ⟨a, ShR_ne b rfl rfl rfl rfl (fun _ _ => rfl)⟩
  · obtain ⟨t, t1, t2, t3, t4⟩ := ht
    exact ⟨t, t1, t2, t3, t4⟩
  · show HoldM g (z 0 17) f
    rw [h2, hd]
    exact h3
-- restore
def rst (P : Nat) (v : Int32) : Int32 := if nI 100 ≤ v then v else if v < nI P then v else mI
theorem rst_m {P : Nat} (hP : P < 2147483648) : rst P mI = mI := by
  unfold rst
  simp (disch := omega) only [nm_s, bd_s, bd2_s, bd3_s, bd4_s, q_gt, q_inB, ↓q_m1, l_166, l_172, l_180, l_188, l_189, l_190, l_191, l_192, l_14, l_17, l_18, l_0, l_1, l_2, l_3, l_4, l_5, l_6, l_7, l_8, l_9, l_10, l_11, l_12, l_20, l_21, l_30, l_31, l_32, l_40, l_48, l_50, l_51, l_57, l_60, l_70, l_71, l_99, l_100, l_101, l_160, l_199, l_200, l_999, l_1000, q_tn, q_add, q_mul, q_sub, q_le, q_lt, q_eq, q_31, n_and, n_or, n_xor, q_shl, q_z, q_b0, q_b1, q_bz, q_em, q_me, q_mm, q_lm, q_ml, q_mle, q_lem, s2_eq, s2_ne, pk_us, pk_un, uN_s, uN_n, if_pos, if_neg, ite_true, ite_false, if_true, if_false, not_true, not_false_iff, Nat.add_zero, Nat.zero_add, inR_t, isIx_t, bI_t, bI_f, neg1, q_clr]
theorem rst_r {P k : Nat} (hk : k < 4) : rst P (nI (100 + k)) = nI (100 + k) := by
  unfold rst
  simp (disch := omega) only [nm_s, bd_s, bd2_s, bd3_s, bd4_s, q_gt, q_inB, ↓q_m1, l_166, l_172, l_180, l_188, l_189, l_190, l_191, l_192, l_14, l_17, l_18, l_0, l_1, l_2, l_3, l_4, l_5, l_6, l_7, l_8, l_9, l_10, l_11, l_12, l_20, l_21, l_30, l_31, l_32, l_40, l_48, l_50, l_51, l_57, l_60, l_70, l_71, l_99, l_100, l_101, l_160, l_199, l_200, l_999, l_1000, q_tn, q_add, q_mul, q_sub, q_le, q_lt, q_eq, q_31, n_and, n_or, n_xor, q_shl, q_z, q_b0, q_b1, q_bz, q_em, q_me, q_mm, q_lm, q_ml, q_mle, q_lem, s2_eq, s2_ne, pk_us, pk_un, uN_s, uN_n, if_pos, if_neg, ite_true, ite_false, if_true, if_false, not_true, not_false_iff, Nat.add_zero, Nat.zero_add, inR_t, isIx_t, bI_t, bI_f, neg1, q_clr]
theorem rst_p {P p : Nat} (hp : p < 10) (hP : P ≤ 10) : rst P (nI p) = if p < P then nI p else mI := by
  unfold rst
  by_cases h : p < P
  · simp (disch := omega) only [nm_s, bd_s, bd2_s, bd3_s, bd4_s, q_gt, q_inB, ↓q_m1, l_166, l_172, l_180, l_188, l_189, l_190, l_191, l_192, l_14, l_17, l_18, l_0, l_1, l_2, l_3, l_4, l_5, l_6, l_7, l_8, l_9, l_10, l_11, l_12, l_20, l_21, l_30, l_31, l_32, l_40, l_48, l_50, l_51, l_57, l_60, l_70, l_71, l_99, l_100, l_101, l_160, l_199, l_200, l_999, l_1000, q_tn, q_add, q_mul, q_sub, q_le, q_lt, q_eq, q_31, n_and, n_or, n_xor, q_shl, q_z, q_b0, q_b1, q_bz, q_em, q_me, q_mm, q_lm, q_ml, q_mle, q_lem, s2_eq, s2_ne, pk_us, pk_un, uN_s, uN_n, if_pos, if_neg, ite_true, ite_false, if_true, if_false, not_true, not_false_iff, Nat.add_zero, Nat.zero_add, inR_t, isIx_t, bI_t, bI_f, neg1, q_clr]
  · simp (disch := omega) only [nm_s, bd_s, bd2_s, bd3_s, bd4_s, q_gt, q_inB, ↓q_m1, l_166, l_172, l_180, l_188, l_189, l_190, l_191, l_192, l_14, l_17, l_18, l_0, l_1, l_2, l_3, l_4, l_5, l_6, l_7, l_8, l_9, l_10, l_11, l_12, l_20, l_21, l_30, l_31, l_32, l_40, l_48, l_50, l_51, l_57, l_60, l_70, l_71, l_99, l_100, l_101, l_160, l_199, l_200, l_999, l_1000, q_tn, q_add, q_mul, q_sub, q_le, q_lt, q_eq, q_31, n_and, n_or, n_xor, q_shl, q_z, q_b0, q_b1, q_bz, q_em, q_me, q_mm, q_lm, q_ml, q_mle, q_lem, s2_eq, s2_ne, pk_us, pk_un, uN_s, uN_n, if_pos, if_neg, ite_true, ite_false, if_true, if_false, not_true, not_false_iff, Nat.add_zero, Nat.zero_add, inR_t, isIx_t, bI_t, bI_f, neg1, q_clr]
theorem pR_restore_L27 (hr : r0 0 0 = nI P) : ∀ (n j : Nat) (F : Nat → Int32), j ≤ 8 → 8 - j < n → (∀ t, t < 8 → F t = if t < j then rst P (so 6 t) else so 6 t) → ∃ F', f_X6_restore_L27 r0 n (nI j) (s2 so 6 F) = some (nI P, s2 so 6 F', r0) ∧ ∀ t, t < 8 → F' t = rst P (so 6 t)
  | 0, j, F, _, h2, _ => by omega
  | n + 1, j, F, h1, h2, h3 => by
    rw [f_X6_restore_L27.eq_2]
    by_cases hj : j < 8
    · have hv : F j = so 6 j := by rw [h3 j hj, if_neg (by omega)]
      have next : ∀ F2 : Nat → Int32, (∀ t, t < 8 → F2 t = if t = j then rst P (so 6 j) else F t) → ∃ F', f_X6_restore_L27 r0 n (nI (j + 1)) (s2 so 6 F2) = some (nI P, s2 so 6 F', r0) ∧ ∀ t, t < 8 → F' t = rst P (so 6 t) := fun F2 hF => by
        refine pR_restore_L27 hr n (j + 1) F2 (by omega) (by omega) (fun t ht => ?_)
        rw [hF t ht]
        by_cases htj : t = j
        · subst htj
          rw [if_pos rfl, if_pos (by omega)]
        · rw [if_neg htj, h3 t ht]
          by_cases h5 : t < j
          · rw [if_pos h5, if_pos (by omega)]
          · rw [if_neg h5, if_neg (by omega)]
      have same : rst P (so 6 j) = so 6 j → ∀ t, t < 8 → F t = if t = j then rst P (so 6 j) else F t := fun he t ht => by
        by_cases htj : t = j
        · rw [if_pos htj, he, htj, hv]
        · rw [if_neg htj]
      by_cases c1 : nI 100 ≤ so 6 j
      · have he : rst P (so 6 j) = so 6 j := if_pos c1
        simp (disch := omega) only [nm_s, bd_s, bd2_s, bd3_s, bd4_s, q_gt, q_inB, ↓q_m1, l_166, l_172, l_180, l_188, l_189, l_190, l_191, l_192, l_14, l_17, l_18, l_0, l_1, l_2, l_3, l_4, l_5, l_6, l_7, l_8, l_9, l_10, l_11, l_12, l_20, l_21, l_30, l_31, l_32, l_40, l_48, l_50, l_51, l_57, l_60, l_70, l_71, l_99, l_100, l_101, l_160, l_199, l_200, l_999, l_1000, q_tn, q_add, q_mul, q_sub, q_le, q_lt, q_eq, q_31, n_and, n_or, n_xor, q_shl, q_z, q_b0, q_b1, q_bz, q_em, q_me, q_mm, q_lm, q_ml, q_mle, q_lem, s2_eq, s2_ne, pk_us, pk_un, uN_s, uN_n, if_pos, if_neg, ite_true, ite_false, if_true, if_false, not_true, not_false_iff, Nat.add_zero, Nat.zero_add, inR_t, isIx_t, bI_t, bI_f, neg1, q_clr, hv, c1]
        exact next F (same he)
      · by_cases c2 : so 6 j < nI P
        · have he : rst P (so 6 j) = so 6 j := by unfold rst; rw [if_neg c1, if_pos c2]
          simp (disch := omega) only [nm_s, bd_s, bd2_s, bd3_s, bd4_s, q_gt, q_inB, ↓q_m1, l_166, l_172, l_180, l_188, l_189, l_190, l_191, l_192, l_14, l_17, l_18, l_0, l_1, l_2, l_3, l_4, l_5, l_6, l_7, l_8, l_9, l_10, l_11, l_12, l_20, l_21, l_30, l_31, l_32, l_40, l_48, l_50, l_51, l_57, l_60, l_70, l_71, l_99, l_100, l_101, l_160, l_199, l_200, l_999, l_1000, q_tn, q_add, q_mul, q_sub, q_le, q_lt, q_eq, q_31, n_and, n_or, n_xor, q_shl, q_z, q_b0, q_b1, q_bz, q_em, q_me, q_mm, q_lm, q_ml, q_mle, q_lem, s2_eq, s2_ne, pk_us, pk_un, uN_s, uN_n, if_pos, if_neg, ite_true, ite_false, if_true, if_false, not_true, not_false_iff, Nat.add_zero, Nat.zero_add, inR_t, isIx_t, bI_t, bI_f, neg1, q_clr, hv, c1, hr, c2]
          exact next F (same he)
        · have he : rst P (so 6 j) = mI := by unfold rst; rw [if_neg c1, if_neg c2]
          simp (disch := omega) only [nm_s, bd_s, bd2_s, bd3_s, bd4_s, q_gt, q_inB, ↓q_m1, l_166, l_172, l_180, l_188, l_189, l_190, l_191, l_192, l_14, l_17, l_18, l_0, l_1, l_2, l_3, l_4, l_5, l_6, l_7, l_8, l_9, l_10, l_11, l_12, l_20, l_21, l_30, l_31, l_32, l_40, l_48, l_50, l_51, l_57, l_60, l_70, l_71, l_99, l_100, l_101, l_160, l_199, l_200, l_999, l_1000, q_tn, q_add, q_mul, q_sub, q_le, q_lt, q_eq, q_31, n_and, n_or, n_xor, q_shl, q_z, q_b0, q_b1, q_bz, q_em, q_me, q_mm, q_lm, q_ml, q_mle, q_lem, s2_eq, s2_ne, pk_us, pk_un, uN_s, uN_n, if_pos, if_neg, ite_true, ite_false, if_true, if_false, not_true, not_false_iff, Nat.add_zero, Nat.zero_add, inR_t, isIx_t, bI_t, bI_f, neg1, q_clr, hv, c1, hr, c2, s2_s2]
          refine next _ (fun t ht => ?_)
          by_cases htj : t = j
          · rw [if_pos htj, he, htj, pk_us]
          · rw [if_neg htj, pk_un htj]
    · have : j = 8 := by omega
      subst this
      simp (disch := omega) only [nm_s, bd_s, bd2_s, bd3_s, bd4_s, q_gt, q_inB, ↓q_m1, l_166, l_172, l_180, l_188, l_189, l_190, l_191, l_192, l_14, l_17, l_18, l_0, l_1, l_2, l_3, l_4, l_5, l_6, l_7, l_8, l_9, l_10, l_11, l_12, l_20, l_21, l_30, l_31, l_32, l_40, l_48, l_50, l_51, l_57, l_60, l_70, l_71, l_99, l_100, l_101, l_160, l_199, l_200, l_999, l_1000, q_tn, q_add, q_mul, q_sub, q_le, q_lt, q_eq, q_31, n_and, n_or, n_xor, q_shl, q_z, q_b0, q_b1, q_bz, q_em, q_me, q_mm, q_lm, q_ml, q_mle, q_lem, s2_eq, s2_ne, pk_us, pk_un, uN_s, uN_n, if_pos, if_neg, ite_true, ite_false, if_true, if_false, not_true, not_false_iff, Nat.add_zero, Nat.zero_add, inR_t, isIx_t, bI_t, bI_f, neg1, q_clr, hr]
      exact ⟨F, rfl, fun t ht => by rw [h3 t ht, if_pos ht]⟩
theorem pM_restore_L24 (hr : sm 0 3 = nI P) : ∀ (n j : Nat) (F : Nat → Int32), j ≤ 8 → 8 - j < n → (∀ t, t < 8 → F t = if t < j then rst P (sm 1 t) else sm 1 t) → ∃ F', f_X7_restore_L24 n (nI j) (s2 sm 1 F) = some (nI P, s2 sm 1 F') ∧ ∀ t, t < 8 → F' t = rst P (sm 1 t)
  | 0, j, F, _, h2, _ => by omega
  | n + 1, j, F, h1, h2, h3 => by
    rw [f_X7_restore_L24.eq_2]
    by_cases hj : j < 8
    · have hv : F j = sm 1 j := by rw [h3 j hj, if_neg (by omega)]
      have next : ∀ F2 : Nat → Int32, (∀ t, t < 8 → F2 t = if t = j then rst P (sm 1 j) else F t) → ∃ F', f_X7_restore_L24 n (nI (j + 1)) (s2 sm 1 F2) = some (nI P, s2 sm 1 F') ∧ ∀ t, t < 8 → F' t = rst P (sm 1 t) := fun F2 hF => by
        refine pM_restore_L24 hr n (j + 1) F2 (by omega) (by omega) (fun t ht => ?_)
        rw [hF t ht]
        by_cases htj : t = j
        · subst htj
          rw [if_pos rfl, if_pos (by omega)]
        · rw [if_neg htj, h3 t ht]
          by_cases h5 : t < j
          · rw [if_pos h5, if_pos (by omega)]
          · rw [if_neg h5, if_neg (by omega)]
      have same : rst P (sm 1 j) = sm 1 j → ∀ t, t < 8 → F t = if t = j then rst P (sm 1 j) else F t := fun he t ht => by
        by_cases htj : t = j
        · rw [if_pos htj, he, htj, hv]
        · rw [if_neg htj]
      by_cases c1 : nI 100 ≤ sm 1 j
      · have he : rst P (sm 1 j) = sm 1 j := if_pos c1
        have c1' : ¬ sm 1 j < nI 100 := Int32.not_lt.mpr c1
        simp (disch := omega) only [nm_s, bd_s, bd2_s, bd3_s, bd4_s, q_gt, q_inB, ↓q_m1, l_166, l_172, l_180, l_188, l_189, l_190, l_191, l_192, l_14, l_17, l_18, l_0, l_1, l_2, l_3, l_4, l_5, l_6, l_7, l_8, l_9, l_10, l_11, l_12, l_20, l_21, l_30, l_31, l_32, l_40, l_48, l_50, l_51, l_57, l_60, l_70, l_71, l_99, l_100, l_101, l_160, l_199, l_200, l_999, l_1000, q_tn, q_add, q_mul, q_sub, q_le, q_lt, q_eq, q_31, n_and, n_or, n_xor, q_shl, q_z, q_b0, q_b1, q_bz, q_em, q_me, q_mm, q_lm, q_ml, q_mle, q_lem, s2_eq, s2_ne, pk_us, pk_un, uN_s, uN_n, if_pos, if_neg, ite_true, ite_false, if_true, if_false, not_true, not_false_iff, Nat.add_zero, Nat.zero_add, inR_t, isIx_t, bI_t, bI_f, neg1, q_clr, f_X7_isRow, hv, c1']
        exact next F (same he)
      · have c1' : sm 1 j < nI 100 := Int32.not_le.mp c1
        by_cases c2 : sm 1 j < nI P
        · have he : rst P (sm 1 j) = sm 1 j := by unfold rst; rw [if_neg c1, if_pos c2]
          simp (disch := omega) only [nm_s, bd_s, bd2_s, bd3_s, bd4_s, q_gt, q_inB, ↓q_m1, l_166, l_172, l_180, l_188, l_189, l_190, l_191, l_192, l_14, l_17, l_18, l_0, l_1, l_2, l_3, l_4, l_5, l_6, l_7, l_8, l_9, l_10, l_11, l_12, l_20, l_21, l_30, l_31, l_32, l_40, l_48, l_50, l_51, l_57, l_60, l_70, l_71, l_99, l_100, l_101, l_160, l_199, l_200, l_999, l_1000, q_tn, q_add, q_mul, q_sub, q_le, q_lt, q_eq, q_31, n_and, n_or, n_xor, q_shl, q_z, q_b0, q_b1, q_bz, q_em, q_me, q_mm, q_lm, q_ml, q_mle, q_lem, s2_eq, s2_ne, pk_us, pk_un, uN_s, uN_n, if_pos, if_neg, ite_true, ite_false, if_true, if_false, not_true, not_false_iff, Nat.add_zero, Nat.zero_add, inR_t, isIx_t, bI_t, bI_f, neg1, q_clr, f_X7_isRow, hv, c1', hr, c2]
          exact next F (same he)
        · have he : rst P (sm 1 j) = mI := by unfold rst; rw [if_neg c1, if_neg c2]
          simp (disch := omega) only [nm_s, bd_s, bd2_s, bd3_s, bd4_s, q_gt, q_inB, ↓q_m1, l_166, l_172, l_180, l_188, l_189, l_190, l_191, l_192, l_14, l_17, l_18, l_0, l_1, l_2, l_3, l_4, l_5, l_6, l_7, l_8, l_9, l_10, l_11, l_12, l_20, l_21, l_30, l_31, l_32, l_40, l_48, l_50, l_51, l_57, l_60, l_70, l_71, l_99, l_100, l_101, l_160, l_199, l_200, l_999, l_1000, q_tn, q_add, q_mul, q_sub, q_le, q_lt, q_eq, q_31, n_and, n_or, n_xor, q_shl, q_z, q_b0, q_b1, q_bz, q_em, q_me, q_mm, q_lm, q_ml, q_mle, q_lem, s2_eq, s2_ne, pk_us, pk_un, uN_s, uN_n, if_pos, if_neg, ite_true, ite_false, if_true, if_false, not_true, not_false_iff, Nat.add_zero, Nat.zero_add, inR_t, isIx_t, bI_t, bI_f, neg1, q_clr, f_X7_isRow, hv, c1', hr, c2, s2_s2]
          refine next _ (fun t ht => ?_)
          by_cases htj : t = j
          · rw [if_pos htj, he, htj, pk_us]
          · rw [if_neg htj, pk_un htj]
    · have : j = 8 := by omega
      subst this
      simp (disch := omega) only [nm_s, bd_s, bd2_s, bd3_s, bd4_s, q_gt, q_inB, ↓q_m1, l_166, l_172, l_180, l_188, l_189, l_190, l_191, l_192, l_14, l_17, l_18, l_0, l_1, l_2, l_3, l_4, l_5, l_6, l_7, l_8, l_9, l_10, l_11, l_12, l_20, l_21, l_30, l_31, l_32, l_40, l_48, l_50, l_51, l_57, l_60, l_70, l_71, l_99, l_100, l_101, l_160, l_199, l_200, l_999, l_1000, q_tn, q_add, q_mul, q_sub, q_le, q_lt, q_eq, q_31, n_and, n_or, n_xor, q_shl, q_z, q_b0, q_b1, q_bz, q_em, q_me, q_mm, q_lm, q_ml, q_mle, q_lem, s2_eq, s2_ne, pk_us, pk_un, uN_s, uN_n, if_pos, if_neg, ite_true, ite_false, if_true, if_false, not_true, not_false_iff, Nat.add_zero, Nat.zero_add, inR_t, isIx_t, bI_t, bI_f, neg1, q_clr, hr]
      exact ⟨F, rfl, fun t ht => by rw [h3 t ht, if_pos ht]⟩
theorem sim_restore (I : Inv B so r0 r1 rw re sv sm sq) : SimP (f_X6_restore so r0 r1) (f_X7_restore sm) (fun x y => x.1 = y.1 ∧ Inv B x.2.1 x.2.2 r1 rw re sv y.2 sq) := by
  have I0 := I
  obtain ⟨g, ⟨h, m, w, hd⟩, hf, hs, hc, ht, ⟨b, hb1, hb2, hb3⟩⟩ := I
  have hP := w.1.1.1
  unfold f_X6_restore f_X7_restore
  cases b with
  | false =>
    simp (disch := omega) only [nm_s, bd_s, bd2_s, bd3_s, bd4_s, q_gt, q_inB, ↓q_m1, l_166, l_172, l_180, l_188, l_189, l_190, l_191, l_192, l_14, l_17, l_18, l_0, l_1, l_2, l_3, l_4, l_5, l_6, l_7, l_8, l_9, l_10, l_11, l_12, l_20, l_21, l_30, l_31, l_32, l_40, l_48, l_50, l_51, l_57, l_60, l_70, l_71, l_99, l_100, l_101, l_160, l_199, l_200, l_999, l_1000, q_tn, q_add, q_mul, q_sub, q_le, q_lt, q_eq, q_31, n_and, n_or, n_xor, q_shl, q_z, q_b0, q_b1, q_bz, q_em, q_me, q_mm, q_lm, q_ml, q_mle, q_lem, s2_eq, s2_ne, pk_us, pk_un, uN_s, uN_n, if_pos, if_neg, ite_true, ite_false, if_true, if_false, not_true, not_false_iff, Nat.add_zero, Nat.zero_add, inR_t, isIx_t, bI_t, bI_f, neg1, q_clr, hb1, hb2, r6_, r7_]
    exact sim_i ⟨rfl, Inv_ref I0 (by omega)⟩
  | true =>
    obtain ⟨g1, k1, k2, k3⟩ := hb3 rfl
    have hP1 := k3.1.1.1
    obtain ⟨z, e, h1, h2⟩ := pR_become (r := r0) k1 k3.1
    obtain ⟨t, e2, h3, h4, h5, h6⟩ := againM (B := B) (K := 25) (s := sm) (by omega) k3.1 k2
    have h51 : t 1 = sm 1 := h5 1 rfl
    obtain ⟨F, e3, hF⟩ := pR_restore_L27 (so := so) h1.c0 2000 0 (so 6) (by omega) (by omega) (fun t ht => by rw [if_neg (by omega)])
    obtain ⟨F', e4, hF'⟩ := pM_restore_L24 h3.c0 2000 0 (t 1) (by omega) (by omega) (fun y hy => by rw [if_neg (by omega)])
    rw [s2_id] at e3 e4
    have e3' : f_X6_restore_L27 z FU (nI 0) so = some (nI (aP g1), s2 so 6 F, z) := e3
    have e4' : f_X7_restore_L24 FU (nI 0) t = some (nI (aP g1), s2 t 1 F') := e4
    simp (disch := omega) only [nm_s, bd_s, bd2_s, bd3_s, bd4_s, q_gt, q_inB, ↓q_m1, l_166, l_172, l_180, l_188, l_189, l_190, l_191, l_192, l_14, l_17, l_18, l_0, l_1, l_2, l_3, l_4, l_5, l_6, l_7, l_8, l_9, l_10, l_11, l_12, l_20, l_21, l_30, l_31, l_32, l_40, l_48, l_50, l_51, l_57, l_60, l_70, l_71, l_99, l_100, l_101, l_160, l_199, l_200, l_999, l_1000, q_tn, q_add, q_mul, q_sub, q_le, q_lt, q_eq, q_31, n_and, n_or, n_xor, q_shl, q_z, q_b0, q_b1, q_bz, q_em, q_me, q_mm, q_lm, q_ml, q_mle, q_lem, s2_eq, s2_ne, pk_us, pk_un, uN_s, uN_n, if_pos, if_neg, ite_true, ite_false, if_true, if_false, not_true, not_false_iff, Nat.add_zero, Nat.zero_add, inR_t, isIx_t, bI_t, bI_f, neg1, q_clr, hb1, hb2, e, e2, e3', e4']
    refine sim_i ⟨rfl, g1, ⟨h1, ?_, k3, ?_⟩, ?_, fun i hi => ?_, fun i hi => ?_, ?_, true, ?_, ?_, fun _ => ⟨g1, k1, ?_, k3⟩⟩
    · exact h3
    · show z 0 17 = t 0 18
      rw [h2, h4]
    · show so 0 7 = t 0 19
      rw [h6 19 rfl (by omega)]; exact hf
    · obtain ⟨a, c⟩ := hs i hi
      show F i = F' i ∧ _
      have hFF : F i = F' i := by rw [hF i hi, hF' i hi, h51, a]
      refine ⟨hFF, ?_⟩
      have e1 : (s2 so 6 F) 6 i = F i := rfl
      rcases c with c | ⟨p, hp, c⟩ | ⟨k, L, c1, c2, c3, c4, c5, c6, c7⟩
      · refine Or.inl ?_
        show F i = mI
        rw [hF i hi, c, rst_m (by omega)]
      · have h7 : F i = if p < aP g1 then nI p else mI := by rw [hF i hi, c, rst_p (by omega) hP1]
        by_cases h8 : p < aP g1
        · refine Or.inr (Or.inl ⟨p, h8, ?_⟩)
          show F i = nI p
          rw [h7, if_pos h8]
        · refine Or.inl ?_
          show F i = mI
          rw [h7, if_neg h8]
      · refine Or.inr (Or.inr ⟨k, L, c1, ?_, c3, c4, ?_, c6, c7⟩)
        · show F i = nI (100 + k)
          rw [hF i hi, c2, rst_r c1]
        · show t 2 i = nI L
          rw [h5 2 rfl]; exact c5
    · show so 7 i = t 21 i
      rw [h5 21 rfl]; exact hc i hi
    · obtain ⟨y, t1, t2, t3, t4⟩ := ht
      refine ⟨y, t1, t2, ?_, fun i hi1 hi2 => ?_⟩
      · show t 0 21 = nI y
        rw [h6 21 rfl (by omega)]; exact t3
      · show sv 2 i = t 23 i
        rw [h5 23 rfl]; exact t4 i hi1 hi2
    · exact hb1
    · show t 0 23 = bI true
      rw [h6 23 rfl (by omega)]; exact hb2
    · show HoldM g1 (r1 0 17) (t 25)
      rw [h5 25 rfl]; exact k2
end SE2
