-- both sides: the shelves
def RwF (so : GS) (rw : Nat → GS) (re : Nat → Nat → Int64) (sm : GS) (sq : Nat → Int64) (i k L : Nat) : Prop := (i < 8 ∧ k < 4 ∧ L ≤ 160) ∧ (so 6 i = nI (100 + k) ∧ sm 1 i = nI (100 + k)) ∧ (rw i 0 1 = nI k ∧ rw i 0 2 = nI L ∧ sm 2 i = nI L) ∧ ∀ j, j < L → re i j = sq (160 * i + j)
theorem q_lc {a n L : Nat} (ha : a < 2147483648) (hn : n < 2147483648) (hL : L < 2147483648) : (nI 0 < lg_cmp ((nI a).toInt64 + (nI n).toInt64) ((nI L).toInt64)) = (L < a + n) := by
  rw [nI_l (by omega), nI_l (by omega), nI_l (by omega), lN_add]
  exact propext ((lg_cmp_gt _ _).trans (pk_lLT (by omega) (by omega)))
theorem q_lcl {a n L : Nat} (ha : a < 2147483648) (hn : n < 2147483648) (hL : L < 2147483648) : (lg_cmp ((nI a).toInt64 + (nI n).toInt64) ((nI L).toInt64) ≤ nI 0) = (a + n ≤ L) := by
  rw [nI_l (by omega), nI_l (by omega), nI_l (by omega), lN_add]
  exact propext ((lg_cmp_le _ _).trans (pk_lLE (by omega) (by omega)))
theorem pW_hasRun {sw : GS} {L n : Nat} (h : sw 0 2 = nI L) (hL : L ≤ 160) (hn : n < 2147483648) {a : Nat} (ha : a < 2147483648) : f_X5_hasRun sw (nI a) (nI n) = some (bI (decide (a + n ≤ L))) := by
  unfold f_X5_hasRun
  by_cases hc : n ≤ L
  · by_cases h2 : a + n ≤ L
    · simp (disch := omega) only [nm_s, bd_s, bd2_s, bd3_s, bd4_s, q_gt, q_inB, ↓q_m1, l_166, l_172, l_180, l_188, l_189, l_190, l_191, l_192, l_14, l_17, l_18, l_0, l_1, l_2, l_3, l_4, l_5, l_6, l_7, l_8, l_9, l_10, l_11, l_12, l_20, l_21, l_30, l_31, l_32, l_40, l_48, l_50, l_51, l_57, l_60, l_70, l_71, l_99, l_100, l_101, l_160, l_199, l_200, l_999, l_1000, q_tn, q_add, q_mul, q_sub, q_le, q_lt, q_eq, q_31, n_and, n_or, n_xor, q_shl, q_z, q_b0, q_b1, q_bz, q_em, q_me, q_mm, q_lm, q_ml, q_mle, q_lem, s2_eq, s2_ne, pk_us, pk_un, uN_s, uN_n, if_pos, if_neg, ite_true, ite_false, if_true, if_false, not_true, not_false_iff, Nat.add_zero, Nat.zero_add, inR_t, isIx_t, bI_t, bI_f, neg1, q_clr, h, decide_eq_true h2]
    · simp (disch := omega) only [nm_s, bd_s, bd2_s, bd3_s, bd4_s, q_gt, q_inB, ↓q_m1, l_166, l_172, l_180, l_188, l_189, l_190, l_191, l_192, l_14, l_17, l_18, l_0, l_1, l_2, l_3, l_4, l_5, l_6, l_7, l_8, l_9, l_10, l_11, l_12, l_20, l_21, l_30, l_31, l_32, l_40, l_48, l_50, l_51, l_57, l_60, l_70, l_71, l_99, l_100, l_101, l_160, l_199, l_200, l_999, l_1000, q_tn, q_add, q_mul, q_sub, q_le, q_lt, q_eq, q_31, n_and, n_or, n_xor, q_shl, q_z, q_b0, q_b1, q_bz, q_em, q_me, q_mm, q_lm, q_ml, q_mle, q_lem, s2_eq, s2_ne, pk_us, pk_un, uN_s, uN_n, if_pos, if_neg, ite_true, ite_false, if_true, if_false, not_true, not_false_iff, Nat.add_zero, Nat.zero_add, inR_t, isIx_t, bI_t, bI_f, neg1, q_clr, h, decide_eq_false h2]
  · have h1 : nI L - nI n < nI a := by
      rw [Int32.lt_iff_toInt_lt, n_toInt ha, Int32.toInt_sub, n_toInt (by omega), n_toInt hn, Int.bmod_eq_of_le (by omega) (by omega)]
      omega
    have h2 : ¬ a + n ≤ L := by omega
    rw [h, if_neg (show ¬ nI a < 0 by rw [n_neg ha]; exact id), if_pos h1, decide_eq_false h2]
    rfl
theorem w7_len (x : Int32) (L : Nat) (hL : L < 2147483648) : f_X7_within x (nI 0) (nI L - nI 1) = some (bI (isIx x L)) := pM_isIx (s := fun _ _ => 0) rfl hL
section SD
variable {B P : Nat} {so r0 r1 : GS} {rw : Nat → GS} {re : Nat → Nat → Int64} {sv sm : GS} {sq : Nat → Int64}
theorem sh_c (hs : Shs so rw re sm sq P) (x : Int32) : isIx x 8 = false ∨ ∃ i, i < 8 ∧ x = nI i ∧ ((so 6 i = mI ∧ sm 1 i = mI) ∨ (∃ p, p < P ∧ so 6 i = nI p ∧ sm 1 i = nI p) ∨ ∃ k L, RwF so rw re sm sq i k L) := by
  rcases ixl x 8 (by omega) with h0 | ⟨i, hi, rfl, h1⟩
  · exact Or.inl h0
  · refine Or.inr ⟨i, hi, rfl, ?_⟩
    obtain ⟨e, c⟩ := hs i hi
    rcases c with c | ⟨p, hp, c⟩ | ⟨k, L, hk, c, c1, c2, c3, hL, c4⟩
    · exact Or.inl ⟨c, e.symm.trans c⟩
    · exact Or.inr (Or.inl ⟨p, hp, c, e.symm.trans c⟩)
    · exact Or.inr (Or.inr ⟨k, L, ⟨hi, hk, hL⟩, ⟨c, e.symm.trans c⟩, ⟨c1, c2, c3⟩, c4⟩)
theorem rr_n {x : Int32} (h : isIx x 8 = false) : f_X6_rowRefusal so x = some (nI 1) := by
  unfold f_X6_rowRefusal
  simp (disch := omega) only [nm_s, bd_s, bd2_s, bd3_s, bd4_s, q_gt, q_inB, ↓q_m1, l_166, l_172, l_180, l_188, l_189, l_190, l_191, l_192, l_14, l_17, l_18, l_0, l_1, l_2, l_3, l_4, l_5, l_6, l_7, l_8, l_9, l_10, l_11, l_12, l_20, l_21, l_30, l_31, l_32, l_40, l_48, l_50, l_51, l_57, l_60, l_70, l_71, l_99, l_100, l_101, l_160, l_199, l_200, l_999, l_1000, q_tn, q_add, q_mul, q_sub, q_le, q_lt, q_eq, q_31, n_and, n_or, n_xor, q_shl, q_z, q_b0, q_b1, q_bz, q_em, q_me, q_mm, q_lm, q_ml, q_mle, q_lem, s2_eq, s2_ne, pk_us, pk_un, uN_s, uN_n, if_pos, if_neg, ite_true, ite_false, if_true, if_false, not_true, not_false_iff, Nat.add_zero, Nat.zero_add, inR_t, isIx_t, bI_t, bI_f, neg1, q_clr, p6_isShelf, h]
theorem rr_m {i : Nat} (hi : i < 8) (h : so 6 i = mI) : f_X6_rowRefusal so (nI i) = some (nI 3) := by
  unfold f_X6_rowRefusal
  simp (disch := omega) only [nm_s, bd_s, bd2_s, bd3_s, bd4_s, q_gt, q_inB, ↓q_m1, l_166, l_172, l_180, l_188, l_189, l_190, l_191, l_192, l_14, l_17, l_18, l_0, l_1, l_2, l_3, l_4, l_5, l_6, l_7, l_8, l_9, l_10, l_11, l_12, l_20, l_21, l_30, l_31, l_32, l_40, l_48, l_50, l_51, l_57, l_60, l_70, l_71, l_99, l_100, l_101, l_160, l_199, l_200, l_999, l_1000, q_tn, q_add, q_mul, q_sub, q_le, q_lt, q_eq, q_31, n_and, n_or, n_xor, q_shl, q_z, q_b0, q_b1, q_bz, q_em, q_me, q_mm, q_lm, q_ml, q_mle, q_lem, s2_eq, s2_ne, pk_us, pk_un, uN_s, uN_n, if_pos, if_neg, ite_true, ite_false, if_true, if_false, not_true, not_false_iff, Nat.add_zero, Nat.zero_add, inR_t, isIx_t, bI_t, bI_f, neg1, q_clr, p6_isShelf, h]
theorem rr_p {i p : Nat} (hi : i < 8) (h : so 6 i = nI p) (hp : p < 100) : f_X6_rowRefusal so (nI i) = some (nI 2) := by
  unfold f_X6_rowRefusal
  simp (disch := omega) only [nm_s, bd_s, bd2_s, bd3_s, bd4_s, q_gt, q_inB, ↓q_m1, l_166, l_172, l_180, l_188, l_189, l_190, l_191, l_192, l_14, l_17, l_18, l_0, l_1, l_2, l_3, l_4, l_5, l_6, l_7, l_8, l_9, l_10, l_11, l_12, l_20, l_21, l_30, l_31, l_32, l_40, l_48, l_50, l_51, l_57, l_60, l_70, l_71, l_99, l_100, l_101, l_160, l_199, l_200, l_999, l_1000, q_tn, q_add, q_mul, q_sub, q_le, q_lt, q_eq, q_31, n_and, n_or, n_xor, q_shl, q_z, q_b0, q_b1, q_bz, q_em, q_me, q_mm, q_lm, q_ml, q_mle, q_lem, s2_eq, s2_ne, pk_us, pk_un, uN_s, uN_n, if_pos, if_neg, ite_true, ite_false, if_true, if_false, not_true, not_false_iff, Nat.add_zero, Nat.zero_add, inR_t, isIx_t, bI_t, bI_f, neg1, q_clr, p6_isShelf, h]
theorem rr_k {i k : Nat} (hi : i < 8) (h : so 6 i = nI (100 + k)) (hk : k < 4) : f_X6_rowRefusal so (nI i) = some (nI 0) := by
  unfold f_X6_rowRefusal
  simp (disch := omega) only [nm_s, bd_s, bd2_s, bd3_s, bd4_s, q_gt, q_inB, ↓q_m1, l_166, l_172, l_180, l_188, l_189, l_190, l_191, l_192, l_14, l_17, l_18, l_0, l_1, l_2, l_3, l_4, l_5, l_6, l_7, l_8, l_9, l_10, l_11, l_12, l_20, l_21, l_30, l_31, l_32, l_40, l_48, l_50, l_51, l_57, l_60, l_70, l_71, l_99, l_100, l_101, l_160, l_199, l_200, l_999, l_1000, q_tn, q_add, q_mul, q_sub, q_le, q_lt, q_eq, q_31, n_and, n_or, n_xor, q_shl, q_z, q_b0, q_b1, q_bz, q_em, q_me, q_mm, q_lm, q_ml, q_mle, q_lem, s2_eq, s2_ne, pk_us, pk_un, uN_s, uN_n, if_pos, if_neg, ite_true, ite_false, if_true, if_false, not_true, not_false_iff, Nat.add_zero, Nat.zero_add, inR_t, isIx_t, bI_t, bI_f, neg1, q_clr, p6_isShelf, h]
theorem rm_n {x : Int32} (h : isIx x 8 = false) : f_X7_noRow sm x = some mI := by
  unfold f_X7_noRow
  simp (disch := omega) only [nm_s, bd_s, bd2_s, bd3_s, bd4_s, q_gt, q_inB, ↓q_m1, l_166, l_172, l_180, l_188, l_189, l_190, l_191, l_192, l_14, l_17, l_18, l_0, l_1, l_2, l_3, l_4, l_5, l_6, l_7, l_8, l_9, l_10, l_11, l_12, l_20, l_21, l_30, l_31, l_32, l_40, l_48, l_50, l_51, l_57, l_60, l_70, l_71, l_99, l_100, l_101, l_160, l_199, l_200, l_999, l_1000, q_tn, q_add, q_mul, q_sub, q_le, q_lt, q_eq, q_31, n_and, n_or, n_xor, q_shl, q_z, q_b0, q_b1, q_bz, q_em, q_me, q_mm, q_lm, q_ml, q_mle, q_lem, s2_eq, s2_ne, pk_us, pk_un, uN_s, uN_n, if_pos, if_neg, ite_true, ite_false, if_true, if_false, not_true, not_false_iff, Nat.add_zero, Nat.zero_add, inR_t, isIx_t, bI_t, bI_f, neg1, q_clr, w7_sh, h]
theorem rm_m {i : Nat} (hi : i < 8) (h : sm 1 i = mI) : f_X7_noRow sm (nI i) = some (-nI 3) := by
  unfold f_X7_noRow
  simp (disch := omega) only [nm_s, bd_s, bd2_s, bd3_s, bd4_s, q_gt, q_inB, ↓q_m1, l_166, l_172, l_180, l_188, l_189, l_190, l_191, l_192, l_14, l_17, l_18, l_0, l_1, l_2, l_3, l_4, l_5, l_6, l_7, l_8, l_9, l_10, l_11, l_12, l_20, l_21, l_30, l_31, l_32, l_40, l_48, l_50, l_51, l_57, l_60, l_70, l_71, l_99, l_100, l_101, l_160, l_199, l_200, l_999, l_1000, q_tn, q_add, q_mul, q_sub, q_le, q_lt, q_eq, q_31, n_and, n_or, n_xor, q_shl, q_z, q_b0, q_b1, q_bz, q_em, q_me, q_mm, q_lm, q_ml, q_mle, q_lem, s2_eq, s2_ne, pk_us, pk_un, uN_s, uN_n, if_pos, if_neg, ite_true, ite_false, if_true, if_false, not_true, not_false_iff, Nat.add_zero, Nat.zero_add, inR_t, isIx_t, bI_t, bI_f, neg1, q_clr, w7_sh, f_X7_noRow_J32, h]
theorem rm_p {i p : Nat} (hi : i < 8) (h : sm 1 i = nI p) (hp : p < 100) : f_X7_noRow sm (nI i) = some (-nI 2) := by
  unfold f_X7_noRow
  simp (disch := omega) only [nm_s, bd_s, bd2_s, bd3_s, bd4_s, q_gt, q_inB, ↓q_m1, l_166, l_172, l_180, l_188, l_189, l_190, l_191, l_192, l_14, l_17, l_18, l_0, l_1, l_2, l_3, l_4, l_5, l_6, l_7, l_8, l_9, l_10, l_11, l_12, l_20, l_21, l_30, l_31, l_32, l_40, l_48, l_50, l_51, l_57, l_60, l_70, l_71, l_99, l_100, l_101, l_160, l_199, l_200, l_999, l_1000, q_tn, q_add, q_mul, q_sub, q_le, q_lt, q_eq, q_31, n_and, n_or, n_xor, q_shl, q_z, q_b0, q_b1, q_bz, q_em, q_me, q_mm, q_lm, q_ml, q_mle, q_lem, s2_eq, s2_ne, pk_us, pk_un, uN_s, uN_n, if_pos, if_neg, ite_true, ite_false, if_true, if_false, not_true, not_false_iff, Nat.add_zero, Nat.zero_add, inR_t, isIx_t, bI_t, bI_f, neg1, q_clr, w7_sh, f_X7_isRow, f_X7_noRow_J32, h]
theorem rm_k {i k : Nat} (hi : i < 8) (h : sm 1 i = nI (100 + k)) (hk : k < 4) : f_X7_noRow sm (nI i) = some (nI 0) := by
  unfold f_X7_noRow
  simp (disch := omega) only [nm_s, bd_s, bd2_s, bd3_s, bd4_s, q_gt, q_inB, ↓q_m1, l_166, l_172, l_180, l_188, l_189, l_190, l_191, l_192, l_14, l_17, l_18, l_0, l_1, l_2, l_3, l_4, l_5, l_6, l_7, l_8, l_9, l_10, l_11, l_12, l_20, l_21, l_30, l_31, l_32, l_40, l_48, l_50, l_51, l_57, l_60, l_70, l_71, l_99, l_100, l_101, l_160, l_199, l_200, l_999, l_1000, q_tn, q_add, q_mul, q_sub, q_le, q_lt, q_eq, q_31, n_and, n_or, n_xor, q_shl, q_z, q_b0, q_b1, q_bz, q_em, q_me, q_mm, q_lm, q_ml, q_mle, q_lem, s2_eq, s2_ne, pk_us, pk_un, uN_s, uN_n, if_pos, if_neg, ite_true, ite_false, if_true, if_false, not_true, not_false_iff, Nat.add_zero, Nat.zero_add, inR_t, isIx_t, bI_t, bI_f, neg1, q_clr, w7_sh, f_X7_isRow, f_X7_noRow_J32, h]
theorem z_n2 : (nI 0 ≤ -nI 2) = False := eq_false (by decide)
theorem z_n3 : (nI 0 ≤ -nI 3) = False := eq_false (by decide)
theorem noRow_c (hs : Shs so rw re sm sq P) (hP : P ≤ 10) (x : Int32) : (f_X6_rowRefusal so x = some (nI 1) ∧ f_X7_noRow sm x = some mI) ∨ (f_X6_rowRefusal so x = some (nI 2) ∧ f_X7_noRow sm x = some (-nI 2)) ∨ (f_X6_rowRefusal so x = some (nI 3) ∧ f_X7_noRow sm x = some (-nI 3)) ∨ (∃ i k L, x = nI i ∧ f_X6_rowRefusal so x = some (nI 0) ∧ f_X7_noRow sm x = some (nI 0) ∧ RwF so rw re sm sq i k L) := by
  rcases sh_c hs x with h | ⟨i, hi, rfl, ⟨h1, h2⟩ | ⟨p, hp, h1, h2⟩ | ⟨k, L, h⟩⟩
  · exact Or.inl ⟨rr_n h, rm_n h⟩
  · exact Or.inr (Or.inr (Or.inl ⟨rr_m hi h1, rm_m hi h2⟩))
  · exact Or.inr (Or.inl ⟨rr_p hi h1 (by omega), rm_p hi h2 (by omega)⟩)
  · exact Or.inr (Or.inr (Or.inr ⟨i, k, L, rfl, rr_k hi h.2.1.1 h.1.2.1, rm_k hi h.2.1.2 h.1.2.1, h⟩))
theorem Inv_shs {g : AG} {so' sm' : GS} {rw' : Nat → GS} {re' : Nat → Nat → Int64} {sq' : Nat → Int64} (h : RepR g r0) (m : RepM g sm) (w : Wf B g) (hd : r0 0 17 = sm 0 18) (hf : so 0 7 = sm 0 19) (hc : ∀ i, i < 8 → so 7 i = sm 21 i) (ht : Trc sv sm) (hi : Img B so r1 sm) (e0 : so' 0 = so 0) (e7 : so' 7 = so 7) (em : ∀ k, k ≠ 1 → k ≠ 2 → sm' k = sm k) (hs : Shs so' rw' re' sm' sq' (aP g)) : Inv B so' r0 r1 rw' re' sv sm' sq' := by
  have e (k : Nat) (h1 : k ≠ 1 := by omega) (h2 : k ≠ 2 := by omega) : sm' k = sm k := em k h1 h2
  refine ⟨g, ⟨h, ?_, w, ?_⟩, ?_, hs, ?_, ?_, ?_⟩
  · unfold RepM
    rw [e 0, e 5, e 6, e 7, e 8, e 9, e 10, e 11, e 13, e 14, e 16, e 17]
    exact m
  · rw [e 0]; exact hd
  · rw [e0, e 0]; exact hf
  · intro i hi
    rw [e7, e 21]; exact hc i hi
  · obtain ⟨t, h1, h2, h3, h4⟩ := ht
    exact ⟨t, h1, h2, by rw [e 0]; exact h3, fun i hi1 hi2 => by rw [e 23]; exact h4 i hi1 hi2⟩
  · unfold Img at hi ⊢
    rw [e0, e 0, e 25]; exact hi
theorem ShR_ne {so' sm' : GS} {rw' : Nat → GS} {re' : Nat → Nat → Int64} {sq' : Nat → Int64} {j : Nat} (h : ShR so rw re sm sq P j) (e1 : so' 6 j = so 6 j) (e2 : rw' j = rw j) (e3 : re' j = re j) (e4 : sm' 2 j = sm 2 j) (e5 : ∀ t, t < 160 → sq' (160 * j + t) = sq (160 * j + t)) : ShR so' rw' re' sm' sq' P j := by
  unfold ShR
  rw [e1, e2, e3, e4]
  rcases h with h | h | ⟨k, L, h1, h2, h3, h4, h5, h6, h7⟩
  · exact Or.inl h
  · exact Or.inr (Or.inl h)
  · exact Or.inr (Or.inr ⟨k, L, h1, h2, h3, h4, h5, h6, fun t ht => (h7 t ht).trans (e5 t (by omega)).symm⟩)
-- row
theorem pW_begin_L12 (N : Nat) (hN : N ≤ 160) (sw : GS) : ∀ (m i : Nat) (sl : Nat → Int64), i ≤ N → N - i < m → (∀ j, j < i → sl j = 0) → ∃ z, f_X5_begin_L12 (nI N) sw m (nI i) sl = some (sw, z) ∧ ∀ j, j < N → z j = 0
  | 0, i, sl, _, h2, _ => by omega
  | m + 1, i, sl, h1, h2, h3 => by
    rw [f_X5_begin_L12.eq_2]
    by_cases hi : i < N
    · simp (disch := omega) only [nm_s, bd_s, bd2_s, bd3_s, bd4_s, q_gt, q_inB, ↓q_m1, l_166, l_172, l_180, l_188, l_189, l_190, l_191, l_192, l_14, l_17, l_18, l_0, l_1, l_2, l_3, l_4, l_5, l_6, l_7, l_8, l_9, l_10, l_11, l_12, l_20, l_21, l_30, l_31, l_32, l_40, l_48, l_50, l_51, l_57, l_60, l_70, l_71, l_99, l_100, l_101, l_160, l_199, l_200, l_999, l_1000, q_tn, q_add, q_mul, q_sub, q_le, q_lt, q_eq, q_31, n_and, n_or, n_xor, q_shl, q_z, q_b0, q_b1, q_bz, q_em, q_me, q_mm, q_lm, q_ml, q_mle, q_lem, s2_eq, s2_ne, pk_us, pk_un, uN_s, uN_n, if_pos, if_neg, ite_true, ite_false, if_true, if_false, not_true, not_false_iff, Nat.add_zero, Nat.zero_add, inR_t, isIx_t, bI_t, bI_f, neg1, q_clr]
      refine pW_begin_L12 N hN sw m (i + 1) _ (by omega) (by omega) (fun j hj => ?_)
      by_cases hx : j = i
      · rw [hx, pk_uLs]
      · rw [pk_uLn hx]; exact h3 j (by omega)
    · have : i = N := by omega
      subst this
      simp (disch := omega) only [nm_s, bd_s, bd2_s, bd3_s, bd4_s, q_gt, q_inB, ↓q_m1, l_166, l_172, l_180, l_188, l_189, l_190, l_191, l_192, l_14, l_17, l_18, l_0, l_1, l_2, l_3, l_4, l_5, l_6, l_7, l_8, l_9, l_10, l_11, l_12, l_20, l_21, l_30, l_31, l_32, l_40, l_48, l_50, l_51, l_57, l_60, l_70, l_71, l_99, l_100, l_101, l_160, l_199, l_200, l_999, l_1000, q_tn, q_add, q_mul, q_sub, q_le, q_lt, q_eq, q_31, n_and, n_or, n_xor, q_shl, q_z, q_b0, q_b1, q_bz, q_em, q_me, q_mm, q_lm, q_ml, q_mle, q_lem, s2_eq, s2_ne, pk_us, pk_un, uN_s, uN_n, if_pos, if_neg, ite_true, ite_false, if_true, if_false, not_true, not_false_iff, Nat.add_zero, Nat.zero_add, inR_t, isIx_t, bI_t, bI_f, neg1, q_clr]
      exact ⟨_, rfl, h3⟩
theorem pW_begin (sw : GS) (sl : Nat → Int64) {k n : Nat} (hn : n ≤ 160) : ∃ z, f_X5_begin sw sl (nI k) (nI n) = some z ∧ (z.1 0 1 = nI k ∧ z.1 0 2 = nI n) ∧ ∀ j, j < n → z.2 j = 0 := by
  unfold f_X5_begin
  simp only [nm_s]
  obtain ⟨z, e, hz⟩ := pW_begin_L12 n hn (s2 (s2 sw 0 (upd (sw 0) 1 (nI k))) 0 (upd ((s2 sw 0 (upd (sw 0) 1 (nI k))) 0) 2 (nI n))) 2000 0 sl (by omega) (by omega) (fun j hj => by omega)
  exact ⟨_, e, ⟨rfl, rfl⟩, hz⟩
theorem pM_row_L77 {i : Nat} (hi : i < 8) (sm : GS) (sq0 : Nat → Int64) : ∀ (m j : Nat) (sq : Nat → Int64), j ≤ 160 → 160 - j < m → (∀ t, t < j → sq (160 * i + t) = 0) → (∀ i' t, i' ≠ i → t < 160 → sq (160 * i' + t) = sq0 (160 * i' + t)) → ∃ z, f_X7_row_L77 (nI i) sm m (nI j) sq = some (nI 1, sm, z) ∧ (∀ t, t < 160 → z (160 * i + t) = 0) ∧ ∀ i' t, i' ≠ i → t < 160 → z (160 * i' + t) = sq0 (160 * i' + t)
  | 0, j, sq, _, h2, _, _ => by omega
  | m + 1, j, sq, h1, h2, h3, h4 => by
    rw [f_X7_row_L77.eq_2]
    by_cases hj : j < 160
    · simp (disch := omega) only [nm_s, bd_s, bd2_s, bd3_s, bd4_s, q_gt, q_inB, ↓q_m1, l_166, l_172, l_180, l_188, l_189, l_190, l_191, l_192, l_14, l_17, l_18, l_0, l_1, l_2, l_3, l_4, l_5, l_6, l_7, l_8, l_9, l_10, l_11, l_12, l_20, l_21, l_30, l_31, l_32, l_40, l_48, l_50, l_51, l_57, l_60, l_70, l_71, l_99, l_100, l_101, l_160, l_199, l_200, l_999, l_1000, q_tn, q_add, q_mul, q_sub, q_le, q_lt, q_eq, q_31, n_and, n_or, n_xor, q_shl, q_z, q_b0, q_b1, q_bz, q_em, q_me, q_mm, q_lm, q_ml, q_mle, q_lem, s2_eq, s2_ne, pk_us, pk_un, uN_s, uN_n, if_pos, if_neg, ite_true, ite_false, if_true, if_false, not_true, not_false_iff, Nat.add_zero, Nat.zero_add, inR_t, isIx_t, bI_t, bI_f, neg1, q_clr]
      refine pM_row_L77 hi sm sq0 m (j + 1) _ (by omega) (by omega) (fun t ht => ?_) (fun i' t h5 h6 => ?_)
      · by_cases hx : t = j
        · rw [hx, pk_uLs]
        · rw [pk_uLn (by omega)]; exact h3 t (by omega)
      · rw [pk_uLn (by omega)]; exact h4 i' t h5 h6
    · have : j = 160 := by omega
      subst this
      simp (disch := omega) only [nm_s, bd_s, bd2_s, bd3_s, bd4_s, q_gt, q_inB, ↓q_m1, l_166, l_172, l_180, l_188, l_189, l_190, l_191, l_192, l_14, l_17, l_18, l_0, l_1, l_2, l_3, l_4, l_5, l_6, l_7, l_8, l_9, l_10, l_11, l_12, l_20, l_21, l_30, l_31, l_32, l_40, l_48, l_50, l_51, l_57, l_60, l_70, l_71, l_99, l_100, l_101, l_160, l_199, l_200, l_999, l_1000, q_tn, q_add, q_mul, q_sub, q_le, q_lt, q_eq, q_31, n_and, n_or, n_xor, q_shl, q_z, q_b0, q_b1, q_bz, q_em, q_me, q_mm, q_lm, q_ml, q_mle, q_lem, s2_eq, s2_ne, pk_us, pk_un, uN_s, uN_n, if_pos, if_neg, ite_true, ite_false, if_true, if_false, not_true, not_false_iff, Nat.add_zero, Nat.zero_add, inR_t, isIx_t, bI_t, bI_f, neg1, q_clr]
      exact ⟨_, rfl, h3, h4⟩
theorem sim_row (I : Inv B so r0 r1 rw re sv sm sq) (x1 x2 x3 : Int32) : SimP (f_X6_row so rw re x1 x2 x3) (f_X7_row sm sq x1 x2 x3) (fun x y => x.1 = y.1 ∧ Inv B x.2.1 r0 r1 x.2.2.1 x.2.2.2 sv y.2.1 y.2.2) := by
  have I0 := I
  obtain ⟨g, ⟨h, m, w, hd⟩, hf, hs, hc, ht, hi⟩ := I
  unfold f_X6_row f_X7_row
  rcases ixl x1 8 (by omega) with p0 | ⟨i, hi8, rfl, p1⟩
  · simp (disch := omega) only [nm_s, bd_s, bd2_s, bd3_s, bd4_s, q_gt, q_inB, ↓q_m1, l_166, l_172, l_180, l_188, l_189, l_190, l_191, l_192, l_14, l_17, l_18, l_0, l_1, l_2, l_3, l_4, l_5, l_6, l_7, l_8, l_9, l_10, l_11, l_12, l_20, l_21, l_30, l_31, l_32, l_40, l_48, l_50, l_51, l_57, l_60, l_70, l_71, l_99, l_100, l_101, l_160, l_199, l_200, l_999, l_1000, q_tn, q_add, q_mul, q_sub, q_le, q_lt, q_eq, q_31, n_and, n_or, n_xor, q_shl, q_z, q_b0, q_b1, q_bz, q_em, q_me, q_mm, q_lm, q_ml, q_mle, q_lem, s2_eq, s2_ne, pk_us, pk_un, uN_s, uN_n, if_pos, if_neg, ite_true, ite_false, if_true, if_false, not_true, not_false_iff, Nat.add_zero, Nat.zero_add, inR_t, isIx_t, bI_t, bI_f, neg1, q_clr, p6_isShelf, w7_sh, p0, r6_, r7_, r7_1]
    exact sim_i ⟨rfl, Inv_ref I0 (by omega)⟩
  · by_cases n0 : x3 < nI 0
    · have n1 : ¬ nI 0 ≤ x3 := Int32.not_le.mpr n0
      simp (disch := omega) only [nm_s, bd_s, bd2_s, bd3_s, bd4_s, q_gt, q_inB, ↓q_m1, l_166, l_172, l_180, l_188, l_189, l_190, l_191, l_192, l_14, l_17, l_18, l_0, l_1, l_2, l_3, l_4, l_5, l_6, l_7, l_8, l_9, l_10, l_11, l_12, l_20, l_21, l_30, l_31, l_32, l_40, l_48, l_50, l_51, l_57, l_60, l_70, l_71, l_99, l_100, l_101, l_160, l_199, l_200, l_999, l_1000, q_tn, q_add, q_mul, q_sub, q_le, q_lt, q_eq, q_31, n_and, n_or, n_xor, q_shl, q_z, q_b0, q_b1, q_bz, q_em, q_me, q_mm, q_lm, q_ml, q_mle, q_lem, s2_eq, s2_ne, pk_us, pk_un, uN_s, uN_n, if_pos, if_neg, ite_true, ite_false, if_true, if_false, not_true, not_false_iff, Nat.add_zero, Nat.zero_add, inR_t, isIx_t, bI_t, bI_f, neg1, q_clr, p6_isShelf, w7_sh, n1, r6_, r7_, r7_1]
      exact sim_i ⟨rfl, Inv_ref I0 (by omega)⟩
    · obtain ⟨n, hn, rfl⟩ := nn_of n0
      rcases in3 x2 0 3 (by omega) (by omega) with ⟨q1, q⟩ | ⟨q1, q2, q⟩ | ⟨k, _, hk, rfl, _⟩
      · simp (disch := omega) only [nm_s, bd_s, bd2_s, bd3_s, bd4_s, q_gt, q_inB, ↓q_m1, l_166, l_172, l_180, l_188, l_189, l_190, l_191, l_192, l_14, l_17, l_18, l_0, l_1, l_2, l_3, l_4, l_5, l_6, l_7, l_8, l_9, l_10, l_11, l_12, l_20, l_21, l_30, l_31, l_32, l_40, l_48, l_50, l_51, l_57, l_60, l_70, l_71, l_99, l_100, l_101, l_160, l_199, l_200, l_999, l_1000, q_tn, q_add, q_mul, q_sub, q_le, q_lt, q_eq, q_31, n_and, n_or, n_xor, q_shl, q_z, q_b0, q_b1, q_bz, q_em, q_me, q_mm, q_lm, q_ml, q_mle, q_lem, s2_eq, s2_ne, pk_us, pk_un, uN_s, uN_n, if_pos, if_neg, ite_true, ite_false, if_true, if_false, not_true, not_false_iff, Nat.add_zero, Nat.zero_add, inR_t, isIx_t, bI_t, bI_f, neg1, q_clr, p6_isShelf, w7_sh, q1, pM_within, q, f_X6_row_J32, r6_, r7_]
        exact sim_i ⟨rfl, Inv_ref I0 (by omega)⟩
      · have q4 : ¬ x2 < nI 4 := by
          rw [← n_lt_s (n := 3) (by omega)]
          exact Int32.not_le.mp q2
        simp (disch := omega) only [nm_s, bd_s, bd2_s, bd3_s, bd4_s, q_gt, q_inB, ↓q_m1, l_166, l_172, l_180, l_188, l_189, l_190, l_191, l_192, l_14, l_17, l_18, l_0, l_1, l_2, l_3, l_4, l_5, l_6, l_7, l_8, l_9, l_10, l_11, l_12, l_20, l_21, l_30, l_31, l_32, l_40, l_48, l_50, l_51, l_57, l_60, l_70, l_71, l_99, l_100, l_101, l_160, l_199, l_200, l_999, l_1000, q_tn, q_add, q_mul, q_sub, q_le, q_lt, q_eq, q_31, n_and, n_or, n_xor, q_shl, q_z, q_b0, q_b1, q_bz, q_em, q_me, q_mm, q_lm, q_ml, q_mle, q_lem, s2_eq, s2_ne, pk_us, pk_un, uN_s, uN_n, if_pos, if_neg, ite_true, ite_false, if_true, if_false, not_true, not_false_iff, Nat.add_zero, Nat.zero_add, inR_t, isIx_t, bI_t, bI_f, neg1, q_clr, p6_isShelf, w7_sh, q1, q4, pM_within, q, f_X6_row_J32, r6_, r7_]
        exact sim_i ⟨rfl, Inv_ref I0 (by omega)⟩
      · by_cases hn2 : n ≤ 160
        · obtain ⟨⟨sw', sl'⟩, b1, ⟨b2, b3⟩, b4⟩ := pW_begin (rw i) (re i) (k := k) hn2
          obtain ⟨z, c1, c2, c3⟩ := pM_row_L77 hi8 (s2 (s2 sm 1 (upd (sm 1) i (nI (100 + k)))) 2 (upd (sm 2) i (nI n))) sq 2000 0 sq (by omega) (by omega) (fun t ht => by omega) (fun _ _ _ _ => rfl)
          have c1' : f_X7_row_L77 (nI i) (s2 (s2 sm 1 (upd (sm 1) i (nI (100 + k)))) 2 (upd (sm 2) i (nI n))) FU (nI 0) sq = some (nI 1, s2 (s2 sm 1 (upd (sm 1) i (nI (100 + k)))) 2 (upd (sm 2) i (nI n)), z) := c1
          dsimp only at b2 b3 b4
          simp (disch := omega) only [nm_s, bd_s, bd2_s, bd3_s, bd4_s, q_gt, q_inB, ↓q_m1, l_166, l_172, l_180, l_188, l_189, l_190, l_191, l_192, l_14, l_17, l_18, l_0, l_1, l_2, l_3, l_4, l_5, l_6, l_7, l_8, l_9, l_10, l_11, l_12, l_20, l_21, l_30, l_31, l_32, l_40, l_48, l_50, l_51, l_57, l_60, l_70, l_71, l_99, l_100, l_101, l_160, l_199, l_200, l_999, l_1000, q_tn, q_add, q_mul, q_sub, q_le, q_lt, q_eq, q_31, n_and, n_or, n_xor, q_shl, q_z, q_b0, q_b1, q_bz, q_em, q_me, q_mm, q_lm, q_ml, q_mle, q_lem, s2_eq, s2_ne, pk_us, pk_un, uN_s, uN_n, if_pos, if_neg, ite_true, ite_false, if_true, if_false, not_true, not_false_iff, Nat.add_zero, Nat.zero_add, inR_t, isIx_t, bI_t, bI_f, neg1, q_clr, p6_isShelf, w7_sh, pM_within, b1, c1']
          refine sim_i ⟨rfl, ?_⟩
          dsimp only
          refine Inv_shs h m w hd hf hc ht hi (s2_ne (by omega)) (s2_ne (by omega)) (fun k h1 h2 => by rw [s2_ne h2, s2_ne h1]) (fun j hj => ?_)
          show upd (so 6) i (nI (100 + k)) j = upd (sm 1) i (nI (100 + k)) j ∧ _
          by_cases hji : j = i
          · subst hji
            refine ⟨by rw [pk_us, pk_us], Or.inr (Or.inr ⟨k, n, by omega, pk_us, ?_, ?_, pk_us, hn2, fun t ht => ?_⟩)⟩
            · show va_up rw j sw' j 0 1 = nI k
              rw [va_up_self]; exact b2
            · show va_up rw j sw' j 0 2 = nI n
              rw [va_up_self]; exact b3
            · show va_up re j sl' j t = z (160 * j + t)
              rw [va_up_self, b4 t ht, c2 t (by omega)]
          · obtain ⟨a, b⟩ := hs j hj
            refine ⟨by rw [pk_un hji, pk_un hji, a], ShR_ne b (pk_un hji) (va_up_ne _ _ hji) (va_up_ne _ _ hji) (pk_un hji) (fun t ht => c3 j t hji ht)⟩
        · simp (disch := omega) only [nm_s, bd_s, bd2_s, bd3_s, bd4_s, q_gt, q_inB, ↓q_m1, l_166, l_172, l_180, l_188, l_189, l_190, l_191, l_192, l_14, l_17, l_18, l_0, l_1, l_2, l_3, l_4, l_5, l_6, l_7, l_8, l_9, l_10, l_11, l_12, l_20, l_21, l_30, l_31, l_32, l_40, l_48, l_50, l_51, l_57, l_60, l_70, l_71, l_99, l_100, l_101, l_160, l_199, l_200, l_999, l_1000, q_tn, q_add, q_mul, q_sub, q_le, q_lt, q_eq, q_31, n_and, n_or, n_xor, q_shl, q_z, q_b0, q_b1, q_bz, q_em, q_me, q_mm, q_lm, q_ml, q_mle, q_lem, s2_eq, s2_ne, pk_us, pk_un, uN_s, uN_n, if_pos, if_neg, ite_true, ite_false, if_true, if_false, not_true, not_false_iff, Nat.add_zero, Nat.zero_add, inR_t, isIx_t, bI_t, bI_f, neg1, q_clr, p6_isShelf, w7_sh, pM_within, r6_, r7_]
          exact sim_i ⟨rfl, Inv_ref I0 (by omega)⟩
-- set
theorem sim_set (I : Inv B so r0 r1 rw re sv sm sq) (x1 x2 : Int32) (x3 : Int64) : SimP (f_X6_set so rw re x1 x2 x3) (f_X7_set sm sq x1 x2 x3) (fun x y => x.1 = y.1 ∧ Inv B x.2.1 r0 r1 rw x.2.2 sv y.2.1 y.2.2) := by
  have I0 := I
  obtain ⟨g, ⟨h, m, w, hd⟩, hf, hs, hc, ht, hi⟩ := I
  unfold f_X6_set f_X7_set
  rcases noRow_c hs w.1.1.1 x1 with ⟨a1, a2⟩ | ⟨a1, a2⟩ | ⟨a1, a2⟩ | ⟨i, k, L, rfl, a1, a2, ⟨hi8, hk, hL⟩, ⟨c1, c2⟩, ⟨c3, c4, c5⟩, c6⟩
  · simp (disch := omega) only [nm_s, bd_s, bd2_s, bd3_s, bd4_s, q_gt, q_inB, ↓q_m1, l_166, l_172, l_180, l_188, l_189, l_190, l_191, l_192, l_14, l_17, l_18, l_0, l_1, l_2, l_3, l_4, l_5, l_6, l_7, l_8, l_9, l_10, l_11, l_12, l_20, l_21, l_30, l_31, l_32, l_40, l_48, l_50, l_51, l_57, l_60, l_70, l_71, l_99, l_100, l_101, l_160, l_199, l_200, l_999, l_1000, q_tn, q_add, q_mul, q_sub, q_le, q_lt, q_eq, q_31, n_and, n_or, n_xor, q_shl, q_z, q_b0, q_b1, q_bz, q_em, q_me, q_mm, q_lm, q_ml, q_mle, q_lem, s2_eq, s2_ne, pk_us, pk_un, uN_s, uN_n, if_pos, if_neg, ite_true, ite_false, if_true, if_false, not_true, not_false_iff, Nat.add_zero, Nat.zero_add, inR_t, isIx_t, bI_t, bI_f, neg1, q_clr, a1, a2, r6_, r7_, r7_1]
    exact sim_i ⟨rfl, Inv_ref I0 (by omega)⟩
  · simp (disch := omega) only [nm_s, bd_s, bd2_s, bd3_s, bd4_s, q_gt, q_inB, ↓q_m1, l_166, l_172, l_180, l_188, l_189, l_190, l_191, l_192, l_14, l_17, l_18, l_0, l_1, l_2, l_3, l_4, l_5, l_6, l_7, l_8, l_9, l_10, l_11, l_12, l_20, l_21, l_30, l_31, l_32, l_40, l_48, l_50, l_51, l_57, l_60, l_70, l_71, l_99, l_100, l_101, l_160, l_199, l_200, l_999, l_1000, q_tn, q_add, q_mul, q_sub, q_le, q_lt, q_eq, q_31, n_and, n_or, n_xor, q_shl, q_z, q_b0, q_b1, q_bz, q_em, q_me, q_mm, q_lm, q_ml, q_mle, q_lem, s2_eq, s2_ne, pk_us, pk_un, uN_s, uN_n, if_pos, if_neg, ite_true, ite_false, if_true, if_false, not_true, not_false_iff, Nat.add_zero, Nat.zero_add, inR_t, isIx_t, bI_t, bI_f, neg1, q_clr, a1, a2, z_n2, r6_, r7_]
    exact sim_i ⟨rfl, Inv_ref I0 (by omega)⟩
  · simp (disch := omega) only [nm_s, bd_s, bd2_s, bd3_s, bd4_s, q_gt, q_inB, ↓q_m1, l_166, l_172, l_180, l_188, l_189, l_190, l_191, l_192, l_14, l_17, l_18, l_0, l_1, l_2, l_3, l_4, l_5, l_6, l_7, l_8, l_9, l_10, l_11, l_12, l_20, l_21, l_30, l_31, l_32, l_40, l_48, l_50, l_51, l_57, l_60, l_70, l_71, l_99, l_100, l_101, l_160, l_199, l_200, l_999, l_1000, q_tn, q_add, q_mul, q_sub, q_le, q_lt, q_eq, q_31, n_and, n_or, n_xor, q_shl, q_z, q_b0, q_b1, q_bz, q_em, q_me, q_mm, q_lm, q_ml, q_mle, q_lem, s2_eq, s2_ne, pk_us, pk_un, uN_s, uN_n, if_pos, if_neg, ite_true, ite_false, if_true, if_false, not_true, not_false_iff, Nat.add_zero, Nat.zero_add, inR_t, isIx_t, bI_t, bI_f, neg1, q_clr, a1, a2, z_n3, r6_, r7_]
    exact sim_i ⟨rfl, Inv_ref I0 (by omega)⟩
  · rcases ixl x2 L (by omega) with p0 | ⟨j, hj, rfl, p1⟩
    · simp (disch := omega) only [nm_s, bd_s, bd2_s, bd3_s, bd4_s, q_gt, q_inB, ↓q_m1, l_166, l_172, l_180, l_188, l_189, l_190, l_191, l_192, l_14, l_17, l_18, l_0, l_1, l_2, l_3, l_4, l_5, l_6, l_7, l_8, l_9, l_10, l_11, l_12, l_20, l_21, l_30, l_31, l_32, l_40, l_48, l_50, l_51, l_57, l_60, l_70, l_71, l_99, l_100, l_101, l_160, l_199, l_200, l_999, l_1000, q_tn, q_add, q_mul, q_sub, q_le, q_lt, q_eq, q_31, n_and, n_or, n_xor, q_shl, q_z, q_b0, q_b1, q_bz, q_em, q_me, q_mm, q_lm, q_ml, q_mle, q_lem, s2_eq, s2_ne, pk_us, pk_un, uN_s, uN_n, if_pos, if_neg, ite_true, ite_false, if_true, if_false, not_true, not_false_iff, Nat.add_zero, Nat.zero_add, inR_t, isIx_t, bI_t, bI_f, neg1, q_clr, a1, a2, c5, w7_len, p0, pW_has c4, r6_, r7_]
      exact sim_i ⟨rfl, Inv_ref I0 (by omega)⟩
    · have fin : ∀ V : Int64, Inv B so r0 r1 rw (va_up re i (vp_updL (re i) j V)) sv sm (vp_updL sq (160 * i + j) V) := fun V => by
        refine Inv_shs h m w hd hf hc ht hi rfl rfl (fun _ _ _ => rfl) (fun t ht => ?_)
        by_cases hti : t = i
        · subst hti
          refine ⟨by rw [c1, c2], Or.inr (Or.inr ⟨k, L, hk, c1, c3, c4, c5, hL, fun y hy => ?_⟩)⟩
          show va_up re t (vp_updL (re t) j V) t y = vp_updL sq (160 * t + j) V (160 * t + y)
          rw [va_up_self]
          by_cases hyj : y = j
          · rw [hyj, pk_uLs, pk_uLs]
          · rw [pk_uLn hyj, pk_uLn (by omega)]
            exact c6 y hy
        · obtain ⟨a, b⟩ := hs t ht
          exact ⟨a, ShR_ne b rfl rfl (va_up_ne _ _ hti) rfl (fun y hy => pk_uLn (by omega))⟩
      have hl1 : 1 ≤ L := by omega
      have hw : f_X7_within (nI j) (nI 0) (nI (L - 1)) = some (bI true) := by
        rw [pM_within, inR_t (by omega) (by omega) (by omega)]
      rcases (by omega : k = 0 ∨ k = 1 ∨ k = 2 ∨ k = 3) with rfl | rfl | rfl | rfl
      · simp (disch := omega) only [nm_s, bd_s, bd2_s, bd3_s, bd4_s, q_gt, q_inB, ↓q_m1, l_166, l_172, l_180, l_188, l_189, l_190, l_191, l_192, l_14, l_17, l_18, l_0, l_1, l_2, l_3, l_4, l_5, l_6, l_7, l_8, l_9, l_10, l_11, l_12, l_20, l_21, l_30, l_31, l_32, l_40, l_48, l_50, l_51, l_57, l_60, l_70, l_71, l_99, l_100, l_101, l_160, l_199, l_200, l_999, l_1000, q_tn, q_add, q_mul, q_sub, q_le, q_lt, q_eq, q_31, n_and, n_or, n_xor, q_shl, q_z, q_b0, q_b1, q_bz, q_em, q_me, q_mm, q_lm, q_ml, q_mle, q_lem, s2_eq, s2_ne, pk_us, pk_un, uN_s, uN_n, if_pos, if_neg, ite_true, ite_false, if_true, if_false, not_true, not_false_iff, Nat.add_zero, Nat.zero_add, inR_t, isIx_t, bI_t, bI_f, neg1, q_clr, a1, a2, c2, c3, c5, hw, pW_has c4, f_X5_put, f_X5_cut, f_X7_set_J102]
        exact sim_i ⟨rfl, fin _⟩
      · simp (disch := omega) only [nm_s, bd_s, bd2_s, bd3_s, bd4_s, q_gt, q_inB, ↓q_m1, l_166, l_172, l_180, l_188, l_189, l_190, l_191, l_192, l_14, l_17, l_18, l_0, l_1, l_2, l_3, l_4, l_5, l_6, l_7, l_8, l_9, l_10, l_11, l_12, l_20, l_21, l_30, l_31, l_32, l_40, l_48, l_50, l_51, l_57, l_60, l_70, l_71, l_99, l_100, l_101, l_160, l_199, l_200, l_999, l_1000, q_tn, q_add, q_mul, q_sub, q_le, q_lt, q_eq, q_31, n_and, n_or, n_xor, q_shl, q_z, q_b0, q_b1, q_bz, q_em, q_me, q_mm, q_lm, q_ml, q_mle, q_lem, s2_eq, s2_ne, pk_us, pk_un, uN_s, uN_n, if_pos, if_neg, ite_true, ite_false, if_true, if_false, not_true, not_false_iff, Nat.add_zero, Nat.zero_add, inR_t, isIx_t, bI_t, bI_f, neg1, q_clr, a1, a2, c2, c3, c5, hw, pW_has c4, f_X5_put, f_X5_cut, f_X7_set_J102]
        exact sim_i ⟨rfl, fin _⟩
      · simp (disch := omega) only [nm_s, bd_s, bd2_s, bd3_s, bd4_s, q_gt, q_inB, ↓q_m1, l_166, l_172, l_180, l_188, l_189, l_190, l_191, l_192, l_14, l_17, l_18, l_0, l_1, l_2, l_3, l_4, l_5, l_6, l_7, l_8, l_9, l_10, l_11, l_12, l_20, l_21, l_30, l_31, l_32, l_40, l_48, l_50, l_51, l_57, l_60, l_70, l_71, l_99, l_100, l_101, l_160, l_199, l_200, l_999, l_1000, q_tn, q_add, q_mul, q_sub, q_le, q_lt, q_eq, q_31, n_and, n_or, n_xor, q_shl, q_z, q_b0, q_b1, q_bz, q_em, q_me, q_mm, q_lm, q_ml, q_mle, q_lem, s2_eq, s2_ne, pk_us, pk_un, uN_s, uN_n, if_pos, if_neg, ite_true, ite_false, if_true, if_false, not_true, not_false_iff, Nat.add_zero, Nat.zero_add, inR_t, isIx_t, bI_t, bI_f, neg1, q_clr, a1, a2, c2, c3, c5, hw, pW_has c4, f_X5_put, f_X5_cut, f_X7_set_J102]
        exact sim_i ⟨rfl, fin _⟩
      · simp (disch := omega) only [nm_s, bd_s, bd2_s, bd3_s, bd4_s, q_gt, q_inB, ↓q_m1, l_166, l_172, l_180, l_188, l_189, l_190, l_191, l_192, l_14, l_17, l_18, l_0, l_1, l_2, l_3, l_4, l_5, l_6, l_7, l_8, l_9, l_10, l_11, l_12, l_20, l_21, l_30, l_31, l_32, l_40, l_48, l_50, l_51, l_57, l_60, l_70, l_71, l_99, l_100, l_101, l_160, l_199, l_200, l_999, l_1000, q_tn, q_add, q_mul, q_sub, q_le, q_lt, q_eq, q_31, n_and, n_or, n_xor, q_shl, q_z, q_b0, q_b1, q_bz, q_em, q_me, q_mm, q_lm, q_ml, q_mle, q_lem, s2_eq, s2_ne, pk_us, pk_un, uN_s, uN_n, if_pos, if_neg, ite_true, ite_false, if_true, if_false, not_true, not_false_iff, Nat.add_zero, Nat.zero_add, inR_t, isIx_t, bI_t, bI_f, neg1, q_clr, a1, a2, c2, c3, c5, hw, pW_has c4, f_X5_put, f_X5_cut, f_X7_set_J102]
        exact sim_i ⟨rfl, fin _⟩
-- element, show
theorem sim_element (I : Inv B so r0 r1 rw re sv sm sq) (x1 x2 : Int32) : SimP (f_X6_element so rw re x1 x2) (f_X7_element sm sq x1 x2) (fun x y => x = y) := by
  obtain ⟨g, ⟨h, m, w, hd⟩, hf, hs, hc, ht, hi⟩ := I
  have hP := w.1.1.1
  unfold f_X6_element f_X7_element
  rcases sh_c hs x1 with p0 | ⟨i, hi, rfl, ⟨h1, h2⟩ | ⟨p, hp, h1, h2⟩ | ⟨k, L, ⟨hi8, hk, hL⟩, ⟨c1, c2⟩, ⟨c3, c4, c5⟩, c6⟩⟩
  · simp (disch := omega) only [nm_s, bd_s, bd2_s, bd3_s, bd4_s, q_gt, q_inB, ↓q_m1, l_166, l_172, l_180, l_188, l_189, l_190, l_191, l_192, l_14, l_17, l_18, l_0, l_1, l_2, l_3, l_4, l_5, l_6, l_7, l_8, l_9, l_10, l_11, l_12, l_20, l_21, l_30, l_31, l_32, l_40, l_48, l_50, l_51, l_57, l_60, l_70, l_71, l_99, l_100, l_101, l_160, l_199, l_200, l_999, l_1000, q_tn, q_add, q_mul, q_sub, q_le, q_lt, q_eq, q_31, n_and, n_or, n_xor, q_shl, q_z, q_b0, q_b1, q_bz, q_em, q_me, q_mm, q_lm, q_ml, q_mle, q_lem, s2_eq, s2_ne, pk_us, pk_un, uN_s, uN_n, if_pos, if_neg, ite_true, ite_false, if_true, if_false, not_true, not_false_iff, Nat.add_zero, Nat.zero_add, inR_t, isIx_t, bI_t, bI_f, neg1, q_clr, p6_isShelf, w7_sh, p0]
    exact sim_i rfl
  · simp (disch := omega) only [nm_s, bd_s, bd2_s, bd3_s, bd4_s, q_gt, q_inB, ↓q_m1, l_166, l_172, l_180, l_188, l_189, l_190, l_191, l_192, l_14, l_17, l_18, l_0, l_1, l_2, l_3, l_4, l_5, l_6, l_7, l_8, l_9, l_10, l_11, l_12, l_20, l_21, l_30, l_31, l_32, l_40, l_48, l_50, l_51, l_57, l_60, l_70, l_71, l_99, l_100, l_101, l_160, l_199, l_200, l_999, l_1000, q_tn, q_add, q_mul, q_sub, q_le, q_lt, q_eq, q_31, n_and, n_or, n_xor, q_shl, q_z, q_b0, q_b1, q_bz, q_em, q_me, q_mm, q_lm, q_ml, q_mle, q_lem, s2_eq, s2_ne, pk_us, pk_un, uN_s, uN_n, if_pos, if_neg, ite_true, ite_false, if_true, if_false, not_true, not_false_iff, Nat.add_zero, Nat.zero_add, inR_t, isIx_t, bI_t, bI_f, neg1, q_clr, p6_isShelf, w7_sh, f_X7_isRow, h1, h2]
    exact sim_i rfl
  · simp (disch := omega) only [nm_s, bd_s, bd2_s, bd3_s, bd4_s, q_gt, q_inB, ↓q_m1, l_166, l_172, l_180, l_188, l_189, l_190, l_191, l_192, l_14, l_17, l_18, l_0, l_1, l_2, l_3, l_4, l_5, l_6, l_7, l_8, l_9, l_10, l_11, l_12, l_20, l_21, l_30, l_31, l_32, l_40, l_48, l_50, l_51, l_57, l_60, l_70, l_71, l_99, l_100, l_101, l_160, l_199, l_200, l_999, l_1000, q_tn, q_add, q_mul, q_sub, q_le, q_lt, q_eq, q_31, n_and, n_or, n_xor, q_shl, q_z, q_b0, q_b1, q_bz, q_em, q_me, q_mm, q_lm, q_ml, q_mle, q_lem, s2_eq, s2_ne, pk_us, pk_un, uN_s, uN_n, if_pos, if_neg, ite_true, ite_false, if_true, if_false, not_true, not_false_iff, Nat.add_zero, Nat.zero_add, inR_t, isIx_t, bI_t, bI_f, neg1, q_clr, p6_isShelf, w7_sh, f_X7_isRow, h1, h2]
    exact sim_i rfl
  · rcases ixl x2 L (by omega) with p0 | ⟨j, hj, rfl, p1⟩
    · simp (disch := omega) only [nm_s, bd_s, bd2_s, bd3_s, bd4_s, q_gt, q_inB, ↓q_m1, l_166, l_172, l_180, l_188, l_189, l_190, l_191, l_192, l_14, l_17, l_18, l_0, l_1, l_2, l_3, l_4, l_5, l_6, l_7, l_8, l_9, l_10, l_11, l_12, l_20, l_21, l_30, l_31, l_32, l_40, l_48, l_50, l_51, l_57, l_60, l_70, l_71, l_99, l_100, l_101, l_160, l_199, l_200, l_999, l_1000, q_tn, q_add, q_mul, q_sub, q_le, q_lt, q_eq, q_31, n_and, n_or, n_xor, q_shl, q_z, q_b0, q_b1, q_bz, q_em, q_me, q_mm, q_lm, q_ml, q_mle, q_lem, s2_eq, s2_ne, pk_us, pk_un, uN_s, uN_n, if_pos, if_neg, ite_true, ite_false, if_true, if_false, not_true, not_false_iff, Nat.add_zero, Nat.zero_add, inR_t, isIx_t, bI_t, bI_f, neg1, q_clr, p6_isShelf, w7_sh, f_X7_isRow, c1, c2, c5, w7_len, p0, f_X5_get, pW_has c4]
      exact sim_i rfl
    · have hl1 : 1 ≤ L := by omega
      have hw : f_X7_within (nI j) (nI 0) (nI (L - 1)) = some (bI true) := by
        rw [pM_within, inR_t (by omega) (by omega) (by omega)]
      simp (disch := omega) only [nm_s, bd_s, bd2_s, bd3_s, bd4_s, q_gt, q_inB, ↓q_m1, l_166, l_172, l_180, l_188, l_189, l_190, l_191, l_192, l_14, l_17, l_18, l_0, l_1, l_2, l_3, l_4, l_5, l_6, l_7, l_8, l_9, l_10, l_11, l_12, l_20, l_21, l_30, l_31, l_32, l_40, l_48, l_50, l_51, l_57, l_60, l_70, l_71, l_99, l_100, l_101, l_160, l_199, l_200, l_999, l_1000, q_tn, q_add, q_mul, q_sub, q_le, q_lt, q_eq, q_31, n_and, n_or, n_xor, q_shl, q_z, q_b0, q_b1, q_bz, q_em, q_me, q_mm, q_lm, q_ml, q_mle, q_lem, s2_eq, s2_ne, pk_us, pk_un, uN_s, uN_n, if_pos, if_neg, ite_true, ite_false, if_true, if_false, not_true, not_false_iff, Nat.add_zero, Nat.zero_add, inR_t, isIx_t, bI_t, bI_f, neg1, q_clr, p6_isShelf, w7_sh, f_X7_isRow, c1, c2, c5, hw, f_X5_get, pW_has c4]
      exact sim_i (c6 j hj)
theorem sim_show (I : Inv B so r0 r1 rw re sv sm sq) (x1 x2 : Int32) : SimP (f_X6_show so r0 x1 x2) (f_X7_show sm x1 x2) (fun x y => x.1 = y.1 ∧ Inv B x.2 r0 r1 rw re sv y.2 sq) := by
  have I0 := I
  obtain ⟨g, ⟨h, m, w, hd⟩, hf, hs, hc, ht, hi⟩ := I
  have hP := w.1.1.1
  unfold f_X6_show f_X7_show
  rcases ixl x1 8 (by omega) with p0 | ⟨i, hi8, rfl, p1⟩
  · simp (disch := omega) only [nm_s, bd_s, bd2_s, bd3_s, bd4_s, q_gt, q_inB, ↓q_m1, l_166, l_172, l_180, l_188, l_189, l_190, l_191, l_192, l_14, l_17, l_18, l_0, l_1, l_2, l_3, l_4, l_5, l_6, l_7, l_8, l_9, l_10, l_11, l_12, l_20, l_21, l_30, l_31, l_32, l_40, l_48, l_50, l_51, l_57, l_60, l_70, l_71, l_99, l_100, l_101, l_160, l_199, l_200, l_999, l_1000, q_tn, q_add, q_mul, q_sub, q_le, q_lt, q_eq, q_31, n_and, n_or, n_xor, q_shl, q_z, q_b0, q_b1, q_bz, q_em, q_me, q_mm, q_lm, q_ml, q_mle, q_lem, s2_eq, s2_ne, pk_us, pk_un, uN_s, uN_n, if_pos, if_neg, ite_true, ite_false, if_true, if_false, not_true, not_false_iff, Nat.add_zero, Nat.zero_add, inR_t, isIx_t, bI_t, bI_f, neg1, q_clr, p6_isShelf, w7_sh, p0, f_X6_show_J23, f_X7_show_J23, r6_, r7_, r7_1]
    exact sim_i ⟨rfl, Inv_ref I0 (by omega)⟩
  · have fin : ∀ v : Int32, (v = mI ∨ ∃ p, p < aP g ∧ v = nI p) → Inv B (s2 so 6 (upd (so 6) i v)) r0 r1 rw re sv (s2 sm 1 (upd (sm 1) i v)) sq := fun v hv => by
      refine Inv_shs h m w hd hf hc ht hi (s2_ne (by omega)) (s2_ne (by omega)) (fun k h1 h2 => s2_ne h1) (fun j hj => ?_)
      show upd (so 6) i v j = upd (sm 1) i v j ∧ _
      by_cases hji : j = i
      · subst hji
        refine ⟨by rw [pk_us, pk_us], ?_⟩
        rcases hv with hv | ⟨p, hp, hv⟩
        · exact Or.inl (pk_us.trans hv)
        · exact Or.inr (Or.inl ⟨p, hp, pk_us.trans hv⟩)
      · obtain ⟨a, b⟩ := hs j hj
        exact ⟨by rw [pk_un hji, pk_un hji, a], ShR_ne b (pk_un hji) rfl rfl rfl (fun _ _ => rfl)⟩
    by_cases hx : x2 = mI
    · subst hx
      simp (disch := omega) only [nm_s, bd_s, bd2_s, bd3_s, bd4_s, q_gt, q_inB, ↓q_m1, l_166, l_172, l_180, l_188, l_189, l_190, l_191, l_192, l_14, l_17, l_18, l_0, l_1, l_2, l_3, l_4, l_5, l_6, l_7, l_8, l_9, l_10, l_11, l_12, l_20, l_21, l_30, l_31, l_32, l_40, l_48, l_50, l_51, l_57, l_60, l_70, l_71, l_99, l_100, l_101, l_160, l_199, l_200, l_999, l_1000, q_tn, q_add, q_mul, q_sub, q_le, q_lt, q_eq, q_31, n_and, n_or, n_xor, q_shl, q_z, q_b0, q_b1, q_bz, q_em, q_me, q_mm, q_lm, q_ml, q_mle, q_lem, s2_eq, s2_ne, pk_us, pk_un, uN_s, uN_n, if_pos, if_neg, ite_true, ite_false, if_true, if_false, not_true, not_false_iff, Nat.add_zero, Nat.zero_add, inR_t, isIx_t, bI_t, bI_f, neg1, q_clr, p6_isShelf, w7_sh, f_X6_show_J29, f_X7_show_J29]
      exact sim_i ⟨rfl, fin _ (Or.inl rfl)⟩
    · rcases ixl x2 (aP g) (by omega) with o0 | ⟨o, ho, rfl, o1⟩
      · simp (disch := omega) only [nm_s, bd_s, bd2_s, bd3_s, bd4_s, q_gt, q_inB, ↓q_m1, l_166, l_172, l_180, l_188, l_189, l_190, l_191, l_192, l_14, l_17, l_18, l_0, l_1, l_2, l_3, l_4, l_5, l_6, l_7, l_8, l_9, l_10, l_11, l_12, l_20, l_21, l_30, l_31, l_32, l_40, l_48, l_50, l_51, l_57, l_60, l_70, l_71, l_99, l_100, l_101, l_160, l_199, l_200, l_999, l_1000, q_tn, q_add, q_mul, q_sub, q_le, q_lt, q_eq, q_31, n_and, n_or, n_xor, q_shl, q_z, q_b0, q_b1, q_bz, q_em, q_me, q_mm, q_lm, q_ml, q_mle, q_lem, s2_eq, s2_ne, pk_us, pk_un, uN_s, uN_n, if_pos, if_neg, ite_true, ite_false, if_true, if_false, not_true, not_false_iff, Nat.add_zero, Nat.zero_add, inR_t, isIx_t, bI_t, bI_f, neg1, q_clr, p6_isShelf, w7_sh, hx, pR_isPeak h, pM_isPeak m w.1, o0, f_X6_show_J23, f_X7_show_J23, r6_, r7_, r7_1]
        exact sim_i ⟨rfl, Inv_ref I0 (by omega)⟩
      · simp (disch := omega) only [nm_s, bd_s, bd2_s, bd3_s, bd4_s, q_gt, q_inB, ↓q_m1, l_166, l_172, l_180, l_188, l_189, l_190, l_191, l_192, l_14, l_17, l_18, l_0, l_1, l_2, l_3, l_4, l_5, l_6, l_7, l_8, l_9, l_10, l_11, l_12, l_20, l_21, l_30, l_31, l_32, l_40, l_48, l_50, l_51, l_57, l_60, l_70, l_71, l_99, l_100, l_101, l_160, l_199, l_200, l_999, l_1000, q_tn, q_add, q_mul, q_sub, q_le, q_lt, q_eq, q_31, n_and, n_or, n_xor, q_shl, q_z, q_b0, q_b1, q_bz, q_em, q_me, q_mm, q_lm, q_ml, q_mle, q_lem, s2_eq, s2_ne, pk_us, pk_un, uN_s, uN_n, if_pos, if_neg, ite_true, ite_false, if_true, if_false, not_true, not_false_iff, Nat.add_zero, Nat.zero_add, inR_t, isIx_t, bI_t, bI_f, neg1, q_clr, p6_isShelf, w7_sh, pR_isPeak h, pM_isPeak m w.1, f_X6_show_J29, f_X7_show_J29]
        exact sim_i ⟨rfl, fin _ (Or.inr ⟨o, ho, rfl⟩)⟩
end SD
