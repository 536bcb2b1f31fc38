-- the reference: what comes, what is lost
section RV
variable {B : Nat} {g : AG} {s : GS}
theorem pM_newPeak_L64 (hP : aP g < 10) (h0 : s 0 3 = nI (aP g)) (K : GS → Option (Int32 × GS)) {Z : Int32 × GS → Prop} (hK : ∀ f, (∀ i j, i < aP g → j < aP g → f (10 * i + j) = s 11 (10 * i + j)) → (∀ i, i < 10 → f (10 * aP g + i) = mI ∧ f (10 * i + aP g) = mI) → ∃ z, K (s2 s 11 f) = some z ∧ Z z) : ∀ (n k : Nat) (f : Nat → Int32), k ≤ 10 → 10 - k < n → (∀ i j, i < aP g → j < aP g → f (10 * i + j) = s 11 (10 * i + j)) → (∀ i, i < k → f (10 * aP g + i) = mI ∧ f (10 * i + aP g) = mI) → ∃ z, f_X7_newPeak_L64 K n (nI k) (s2 s 11 f) = some z ∧ Z z
  | 0, k, f, _, h2, _, _ => by omega
  | n + 1, k, f, h1, h2, h3, h4 => by
    have h0' : s2 s 11 f 0 3 = nI (aP g) := h0
    rw [f_X7_newPeak_L64.eq_2]
    by_cases hk : k < 10
    · have h00 : ∀ f', s2 (s2 s 11 f) 11 f' 0 3 = nI (aP g) := fun _ => h0
      simp (disch := omega) only [nm_s, bd_s, bd2_s, bd3_s, bd4_s, q_gt, q_inB, ↓q_m1, l_166, l_172, l_180, l_188, l_189, l_190, l_191, l_192, l_14, l_17, l_18, l_0, l_1, l_2, l_3, l_4, l_5, l_6, l_7, l_8, l_9, l_10, l_11, l_12, l_20, l_21, l_30, l_31, l_32, l_40, l_48, l_50, l_51, l_57, l_60, l_70, l_71, l_99, l_100, l_101, l_160, l_199, l_200, l_999, l_1000, q_tn, q_31, q_shl, q_z, q_b0, q_b1, q_bz, q_em, q_me, q_mm, q_lm, q_ml, q_mle, q_lem, s2_eq, s2_ne, pk_us, pk_un, uN_s, uN_n, if_pos, if_neg, ite_true, ite_false, if_true, if_false, not_true, not_false_iff, Nat.add_zero, Nat.zero_add, h0', h00, q_add, q_mul, q_le]
      simp only [s2_s2]
      refine pM_newPeak_L64 hP h0 K hK n (k + 1) _ (by omega) (by omega) (fun i j hi hj => ?_) (fun i hi => ?_)
      · rw [pk_un (by omega), pk_un (by omega), h3 i j hi hj]
      · refine ⟨?_, ?_⟩
        · by_cases h5 : 10 * aP g + i = 10 * k + aP g
          · rw [h5, pk_us]
          · rw [pk_un h5]
            by_cases h6 : i = k
            · rw [h6, pk_us]
            · rw [pk_un (by omega)]
              exact (h4 i (by omega)).1
        · by_cases h6 : i = k
          · rw [h6, pk_us]
          · rw [pk_un (by omega)]
            by_cases h5 : 10 * i + aP g = 10 * aP g + k
            · rw [h5, pk_us]
            · rw [pk_un h5]
              exact (h4 i (by omega)).2
    · have : k = 10 := by omega
      subst this
      simp (disch := omega) only [nm_s, bd_s, bd2_s, bd3_s, bd4_s, q_gt, q_inB, ↓q_m1, l_166, l_172, l_180, l_188, l_189, l_190, l_191, l_192, l_14, l_17, l_18, l_0, l_1, l_2, l_3, l_4, l_5, l_6, l_7, l_8, l_9, l_10, l_11, l_12, l_20, l_21, l_30, l_31, l_32, l_40, l_48, l_50, l_51, l_57, l_60, l_70, l_71, l_99, l_100, l_101, l_160, l_199, l_200, l_999, l_1000, q_tn, q_add, q_mul, q_sub, q_le, q_lt, q_eq, q_31, n_and, n_or, n_xor, q_shl, q_z, q_b0, q_b1, q_bz, q_em, q_me, q_mm, q_lm, q_ml, q_mle, q_lem, s2_eq, s2_ne, pk_us, pk_un, uN_s, uN_n, if_pos, if_neg, ite_true, ite_false, if_true, if_false, not_true, not_false_iff, Nat.add_zero, Nat.zero_add, h0']
      exact hK f h3 h4
set_option maxRecDepth 10000 in
theorem pM_newPeak (h : RepM g s) (w : WfN B g) {k a p t : Nat} (hk : k < 7) (ha : a < 10) (hp : p < 100) (hh : 1 ≤ t ∧ t < 1000) (hP : aP g < 10) (hn : ∀ i, i < aP g → ¬ g 3 i = p) : ∃ z, f_X7_newPeak s (nI k) (nI a) (nI p) (nI t) = some z ∧ (z.1 = nI (aP g) ∧ RepM (lookA (addP g k a p t)) z.2 ∧ FrM s z.2) := by
  unfold f_X7_newPeak
  simp (disch := omega) only [nm_s, bd_s, bd2_s, bd3_s, bd4_s, q_gt, q_inB, ↓q_m1, l_166, l_172, l_180, l_188, l_189, l_190, l_191, l_192, l_14, l_17, l_18, l_0, l_1, l_2, l_3, l_4, l_5, l_6, l_7, l_8, l_9, l_10, l_11, l_12, l_20, l_21, l_30, l_31, l_32, l_40, l_48, l_50, l_51, l_57, l_60, l_70, l_71, l_99, l_100, l_101, l_160, l_199, l_200, l_999, l_1000, q_tn, q_add, q_mul, q_sub, q_le, q_lt, q_eq, q_31, n_and, n_or, n_xor, q_shl, q_z, q_b0, q_b1, q_bz, q_em, q_me, q_mm, q_lm, q_ml, q_mle, q_lem, s2_eq, s2_ne, pk_us, pk_un, uN_s, uN_n, if_pos, if_neg, ite_true, ite_false, if_true, if_false, not_true, not_false_iff, Nat.add_zero, Nat.zero_add, h.c0]
  have hfr : FrM s (s2 (s2 (s2 (s2 (s2 (s2 s 5 (upd (s 5) (aP g) (nI k))) 6 (upd (s 6) (aP g) (nI a))) 7 (upd (s 7) (aP g) (nI p))) 8 (upd (s 8) (aP g) (nI t))) 9 (upd (s 9) (aP g) (nI 1))) 10 (upd (s 10) (aP g) (nI 0))) :=
    FrM_trans (FrM_s2 rfl (by omega)) (FrM_trans (FrM_s2 rfl (by omega)) (FrM_trans (FrM_s2 rfl (by omega)) (FrM_trans (FrM_s2 rfl (by omega)) (FrM_trans (FrM_s2 rfl (by omega)) (FrM_s2 rfl (by omega))))))
  have hc : ∀ X : GS, X = (s2 (s2 (s2 (s2 (s2 (s2 s 5 (upd (s 5) (aP g) (nI k))) 6 (upd (s 6) (aP g) (nI a))) 7 (upd (s 7) (aP g) (nI p))) 8 (upd (s 8) (aP g) (nI t))) 9 (upd (s 9) (aP g) (nI 1))) 10 (upd (s 10) (aP g) (nI 0))) → X 0 = s 0 ∧ X 5 = upd (s 5) (aP g) (nI k) ∧ X 6 = upd (s 6) (aP g) (nI a) ∧ X 7 = upd (s 7) (aP g) (nI p) ∧ X 8 = upd (s 8) (aP g) (nI t) ∧ X 9 = upd (s 9) (aP g) (nI 1) ∧ X 10 = upd (s 10) (aP g) (nI 0) ∧ X 11 = s 11 ∧ X 13 = s 13 ∧ X 14 = s 14 ∧ X 16 = s 16 ∧ X 17 = s 17 := fun X e => by
    subst e
    exact ⟨rfl, rfl, rfl, rfl, rfl, rfl, rfl, rfl, rfl, rfl, rfl, rfl⟩
  generalize (s2 (s2 (s2 (s2 (s2 (s2 s 5 (upd (s 5) (aP g) (nI k))) 6 (upd (s 6) (aP g) (nI a))) 7 (upd (s 7) (aP g) (nI p))) 8 (upd (s 8) (aP g) (nI t))) 9 (upd (s 9) (aP g) (nI 1))) 10 (upd (s 10) (aP g) (nI 0))) = X at hfr hc ⊢
  obtain ⟨x0, x5, x6, x7, x8, x9, x10, x11, x13, x14, x16, x17⟩ := hc X rfl
  have hX0 : X 0 3 = nI (aP g) := by rw [x0]; exact h.c0
  rw [← s2_id X 11]
  refine pM_newPeak_L64 (g := g) (s := X) hP hX0 _ (fun f hf1 hf2 => ?_) 2000 0 (X 11) (by omega) (by omega) (fun _ _ _ _ => rfl) (fun i hi => by omega)
  have h0 : s2 X 11 f 0 = s 0 := x0
  rw [h0, h.c0, q_add]
  refine pM_look_then (g := addP g k a p t) ⟨⟨?_, ?_, ?_, ?_⟩, fun i hi => ?_, fun i j hi hj => ?_, fun i hi => ?_, fun i hi => ?_⟩ (addP_wf w hk ha hp hh hP hn) (fun f' h5 => ⟨_, rfl, ?_, h5, ?_⟩)
  · rfl
  · exact h.cs
  · exact h.cv
  · exact h.cy
  · have hi2 : i < aP g + 1 := hi
    show X 5 i = nI (uN (g 1) (aP g) k i) ∧ X 6 i = nI (uN (g 2) (aP g) a i) ∧ X 7 i = nI (uN (g 3) (aP g) p i) ∧ X 8 i = nI (uN (g 4) (aP g) t i) ∧ X 10 i = nI (uN (g 5) (aP g) 0 i) ∧ X 9 i = bI ((aW g ||| 2 ^ aP g).testBit i)
    rw [x5, x6, x7, x8, x9, x10]
    by_cases hx : i = aP g
    · subst hx
      refine ⟨by simp (disch := omega) only [nm_s, bd_s, bd2_s, bd3_s, bd4_s, q_gt, q_inB, ↓q_m1, l_166, l_172, l_180, l_188, l_189, l_190, l_191, l_192, l_14, l_17, l_18, l_0, l_1, l_2, l_3, l_4, l_5, l_6, l_7, l_8, l_9, l_10, l_11, l_12, l_20, l_21, l_30, l_31, l_32, l_40, l_48, l_50, l_51, l_57, l_60, l_70, l_71, l_99, l_100, l_101, l_160, l_199, l_200, l_999, l_1000, q_tn, q_add, q_mul, q_sub, q_le, q_lt, q_eq, q_31, n_and, n_or, n_xor, q_shl, q_z, q_b0, q_b1, q_bz, q_em, q_me, q_mm, q_lm, q_ml, q_mle, q_lem, s2_eq, s2_ne, pk_us, pk_un, uN_s, uN_n, if_pos, if_neg, ite_true, ite_false, if_true, if_false, not_true, not_false_iff, Nat.add_zero, Nat.zero_add], by simp (disch := omega) only [nm_s, bd_s, bd2_s, bd3_s, bd4_s, q_gt, q_inB, ↓q_m1, l_166, l_172, l_180, l_188, l_189, l_190, l_191, l_192, l_14, l_17, l_18, l_0, l_1, l_2, l_3, l_4, l_5, l_6, l_7, l_8, l_9, l_10, l_11, l_12, l_20, l_21, l_30, l_31, l_32, l_40, l_48, l_50, l_51, l_57, l_60, l_70, l_71, l_99, l_100, l_101, l_160, l_199, l_200, l_999, l_1000, q_tn, q_add, q_mul, q_sub, q_le, q_lt, q_eq, q_31, n_and, n_or, n_xor, q_shl, q_z, q_b0, q_b1, q_bz, q_em, q_me, q_mm, q_lm, q_ml, q_mle, q_lem, s2_eq, s2_ne, pk_us, pk_un, uN_s, uN_n, if_pos, if_neg, ite_true, ite_false, if_true, if_false, not_true, not_false_iff, Nat.add_zero, Nat.zero_add], by simp (disch := omega) only [nm_s, bd_s, bd2_s, bd3_s, bd4_s, q_gt, q_inB, ↓q_m1, l_166, l_172, l_180, l_188, l_189, l_190, l_191, l_192, l_14, l_17, l_18, l_0, l_1, l_2, l_3, l_4, l_5, l_6, l_7, l_8, l_9, l_10, l_11, l_12, l_20, l_21, l_30, l_31, l_32, l_40, l_48, l_50, l_51, l_57, l_60, l_70, l_71, l_99, l_100, l_101, l_160, l_199, l_200, l_999, l_1000, q_tn, q_add, q_mul, q_sub, q_le, q_lt, q_eq, q_31, n_and, n_or, n_xor, q_shl, q_z, q_b0, q_b1, q_bz, q_em, q_me, q_mm, q_lm, q_ml, q_mle, q_lem, s2_eq, s2_ne, pk_us, pk_un, uN_s, uN_n, if_pos, if_neg, ite_true, ite_false, if_true, if_false, not_true, not_false_iff, Nat.add_zero, Nat.zero_add], by simp (disch := omega) only [nm_s, bd_s, bd2_s, bd3_s, bd4_s, q_gt, q_inB, ↓q_m1, l_166, l_172, l_180, l_188, l_189, l_190, l_191, l_192, l_14, l_17, l_18, l_0, l_1, l_2, l_3, l_4, l_5, l_6, l_7, l_8, l_9, l_10, l_11, l_12, l_20, l_21, l_30, l_31, l_32, l_40, l_48, l_50, l_51, l_57, l_60, l_70, l_71, l_99, l_100, l_101, l_160, l_199, l_200, l_999, l_1000, q_tn, q_add, q_mul, q_sub, q_le, q_lt, q_eq, q_31, n_and, n_or, n_xor, q_shl, q_z, q_b0, q_b1, q_bz, q_em, q_me, q_mm, q_lm, q_ml, q_mle, q_lem, s2_eq, s2_ne, pk_us, pk_un, uN_s, uN_n, if_pos, if_neg, ite_true, ite_false, if_true, if_false, not_true, not_false_iff, Nat.add_zero, Nat.zero_add], by simp (disch := omega) only [nm_s, bd_s, bd2_s, bd3_s, bd4_s, q_gt, q_inB, ↓q_m1, l_166, l_172, l_180, l_188, l_189, l_190, l_191, l_192, l_14, l_17, l_18, l_0, l_1, l_2, l_3, l_4, l_5, l_6, l_7, l_8, l_9, l_10, l_11, l_12, l_20, l_21, l_30, l_31, l_32, l_40, l_48, l_50, l_51, l_57, l_60, l_70, l_71, l_99, l_100, l_101, l_160, l_199, l_200, l_999, l_1000, q_tn, q_add, q_mul, q_sub, q_le, q_lt, q_eq, q_31, n_and, n_or, n_xor, q_shl, q_z, q_b0, q_b1, q_bz, q_em, q_me, q_mm, q_lm, q_ml, q_mle, q_lem, s2_eq, s2_ne, pk_us, pk_un, uN_s, uN_n, if_pos, if_neg, ite_true, ite_false, if_true, if_false, not_true, not_false_iff, Nat.add_zero, Nat.zero_add], ?_⟩
      rw [pk_us, Nat.testBit_or, tb_two, decide_eq_true rfl, Bool.or_true]
      rfl
    · have hx2 : ¬ aP g = i := fun e => hx e.symm
      refine ⟨by simp (disch := omega) only [nm_s, bd_s, bd2_s, bd3_s, bd4_s, q_gt, q_inB, ↓q_m1, l_166, l_172, l_180, l_188, l_189, l_190, l_191, l_192, l_14, l_17, l_18, l_0, l_1, l_2, l_3, l_4, l_5, l_6, l_7, l_8, l_9, l_10, l_11, l_12, l_20, l_21, l_30, l_31, l_32, l_40, l_48, l_50, l_51, l_57, l_60, l_70, l_71, l_99, l_100, l_101, l_160, l_199, l_200, l_999, l_1000, q_tn, q_add, q_mul, q_sub, q_le, q_lt, q_eq, q_31, n_and, n_or, n_xor, q_shl, q_z, q_b0, q_b1, q_bz, q_em, q_me, q_mm, q_lm, q_ml, q_mle, q_lem, s2_eq, s2_ne, pk_us, pk_un, uN_s, uN_n, if_pos, if_neg, ite_true, ite_false, if_true, if_false, not_true, not_false_iff, Nat.add_zero, Nat.zero_add, h.c5], by simp (disch := omega) only [nm_s, bd_s, bd2_s, bd3_s, bd4_s, q_gt, q_inB, ↓q_m1, l_166, l_172, l_180, l_188, l_189, l_190, l_191, l_192, l_14, l_17, l_18, l_0, l_1, l_2, l_3, l_4, l_5, l_6, l_7, l_8, l_9, l_10, l_11, l_12, l_20, l_21, l_30, l_31, l_32, l_40, l_48, l_50, l_51, l_57, l_60, l_70, l_71, l_99, l_100, l_101, l_160, l_199, l_200, l_999, l_1000, q_tn, q_add, q_mul, q_sub, q_le, q_lt, q_eq, q_31, n_and, n_or, n_xor, q_shl, q_z, q_b0, q_b1, q_bz, q_em, q_me, q_mm, q_lm, q_ml, q_mle, q_lem, s2_eq, s2_ne, pk_us, pk_un, uN_s, uN_n, if_pos, if_neg, ite_true, ite_false, if_true, if_false, not_true, not_false_iff, Nat.add_zero, Nat.zero_add, h.c6], by simp (disch := omega) only [nm_s, bd_s, bd2_s, bd3_s, bd4_s, q_gt, q_inB, ↓q_m1, l_166, l_172, l_180, l_188, l_189, l_190, l_191, l_192, l_14, l_17, l_18, l_0, l_1, l_2, l_3, l_4, l_5, l_6, l_7, l_8, l_9, l_10, l_11, l_12, l_20, l_21, l_30, l_31, l_32, l_40, l_48, l_50, l_51, l_57, l_60, l_70, l_71, l_99, l_100, l_101, l_160, l_199, l_200, l_999, l_1000, q_tn, q_add, q_mul, q_sub, q_le, q_lt, q_eq, q_31, n_and, n_or, n_xor, q_shl, q_z, q_b0, q_b1, q_bz, q_em, q_me, q_mm, q_lm, q_ml, q_mle, q_lem, s2_eq, s2_ne, pk_us, pk_un, uN_s, uN_n, if_pos, if_neg, ite_true, ite_false, if_true, if_false, not_true, not_false_iff, Nat.add_zero, Nat.zero_add, h.c7], by simp (disch := omega) only [nm_s, bd_s, bd2_s, bd3_s, bd4_s, q_gt, q_inB, ↓q_m1, l_166, l_172, l_180, l_188, l_189, l_190, l_191, l_192, l_14, l_17, l_18, l_0, l_1, l_2, l_3, l_4, l_5, l_6, l_7, l_8, l_9, l_10, l_11, l_12, l_20, l_21, l_30, l_31, l_32, l_40, l_48, l_50, l_51, l_57, l_60, l_70, l_71, l_99, l_100, l_101, l_160, l_199, l_200, l_999, l_1000, q_tn, q_add, q_mul, q_sub, q_le, q_lt, q_eq, q_31, n_and, n_or, n_xor, q_shl, q_z, q_b0, q_b1, q_bz, q_em, q_me, q_mm, q_lm, q_ml, q_mle, q_lem, s2_eq, s2_ne, pk_us, pk_un, uN_s, uN_n, if_pos, if_neg, ite_true, ite_false, if_true, if_false, not_true, not_false_iff, Nat.add_zero, Nat.zero_add, h.c8], by simp (disch := omega) only [nm_s, bd_s, bd2_s, bd3_s, bd4_s, q_gt, q_inB, ↓q_m1, l_166, l_172, l_180, l_188, l_189, l_190, l_191, l_192, l_14, l_17, l_18, l_0, l_1, l_2, l_3, l_4, l_5, l_6, l_7, l_8, l_9, l_10, l_11, l_12, l_20, l_21, l_30, l_31, l_32, l_40, l_48, l_50, l_51, l_57, l_60, l_70, l_71, l_99, l_100, l_101, l_160, l_199, l_200, l_999, l_1000, q_tn, q_add, q_mul, q_sub, q_le, q_lt, q_eq, q_31, n_and, n_or, n_xor, q_shl, q_z, q_b0, q_b1, q_bz, q_em, q_me, q_mm, q_lm, q_ml, q_mle, q_lem, s2_eq, s2_ne, pk_us, pk_un, uN_s, uN_n, if_pos, if_neg, ite_true, ite_false, if_true, if_false, not_true, not_false_iff, Nat.add_zero, Nat.zero_add, h.c10], ?_⟩
      rw [pk_un hx, h.c9 (by omega), Nat.testBit_or, tb_two, decide_eq_false hx2, Bool.or_false]
  · have hi2 : i < aP g + 1 := hi
    have hj2 : j < aP g + 1 := hj
    show f (10 * i + j) = if (uN (g 7) (aP g) 0 i).testBit j = true then nI (g 8 (10 * i + j)) else mI
    by_cases hx : i = aP g
    · subst hx
      rw [uN_s, Nat.zero_testBit, if_neg ffl]
      exact (hf2 j (by omega)).1
    · rw [uN_n hx]
      by_cases hy : j = aP g
      · subst hy
        have : (g 7 i).testBit (aP g) = false := tb_hi (w.2.1 i (by omega)).2.2.2.2.2 (Nat.le_refl _)
        rw [this, if_neg ffl]
        exact (hf2 i (by omega)).2
      · rw [hf1 i j (by omega) (by omega), x11]
        exact h.c11 (by omega) (by omega)
  · show X 13 i = _ ∧ X 14 i = _
    rw [x13, x14]
    exact h.2.2.2.1 i hi
  · show X 16 i = _ ∧ X 17 i = _
    rw [x16, x17]
    exact h.2.2.2.2 i hi
  · show nI (aP g + 1) - nI 1 = nI (aP g)
    rw [q_sub (by omega)]
    rfl
  · refine FrM_trans hfr (FrM_trans (FrM_s2 (k := 11) (f := f) rfl (by omega)) (FrM_trans (b := s2 (s2 X 11 f) 0 (upd (s 0) 3 (nI (aP g + 1)))) ?_ (FrM_s2 rfl (by omega))))
    rw [← h0]
    exact FrM_slot rfl
theorem pM_newScreen (h : RepM g s) (w : WfN B g) {p t : Nat} (hp : p < 100) (hh : 1 ≤ t ∧ t < 1000) (hS : aS g < 6) : ∃ z, f_X7_newScreen s (nI p) (nI t) = some z ∧ (z.1 = nI (aS g) ∧ RepM (lookA (addS g p t)) z.2 ∧ FrM s z.2) := by
  unfold f_X7_newScreen
  simp (disch := omega) only [nm_s, bd_s, bd2_s, bd3_s, bd4_s, q_gt, q_inB, ↓q_m1, l_166, l_172, l_180, l_188, l_189, l_190, l_191, l_192, l_14, l_17, l_18, l_0, l_1, l_2, l_3, l_4, l_5, l_6, l_7, l_8, l_9, l_10, l_11, l_12, l_20, l_21, l_30, l_31, l_32, l_40, l_48, l_50, l_51, l_57, l_60, l_70, l_71, l_99, l_100, l_101, l_160, l_199, l_200, l_999, l_1000, q_tn, q_add, q_mul, q_sub, q_le, q_lt, q_eq, q_31, n_and, n_or, n_xor, q_shl, q_z, q_b0, q_b1, q_bz, q_em, q_me, q_mm, q_lm, q_ml, q_mle, q_lem, s2_eq, s2_ne, pk_us, pk_un, uN_s, uN_n, if_pos, if_neg, ite_true, ite_false, if_true, if_false, not_true, not_false_iff, Nat.add_zero, Nat.zero_add, h.cs]
  refine pM_look_then (g := addS g p t) ⟨⟨h.c0, rfl, h.cv, h.cy⟩, h.2.1, fun i j hi hj => h.2.2.1 i j hi hj, fun i hi => ?_, h.2.2.2.2⟩ (addS_wf w hp hh hS) (fun f' h5 => ⟨_, rfl, ?_, h5, ?_⟩)
  · have hi2 : i < aS g + 1 := hi
    show upd (s 13) (aS g) (nI p) i = nI (uN (g 9) (aS g) p i) ∧ upd (s 14) (aS g) (nI t) i = nI (uN (g 10) (aS g) t i)
    by_cases hx : i = aS g
    · subst hx
      exact ⟨by simp (disch := omega) only [nm_s, bd_s, bd2_s, bd3_s, bd4_s, q_gt, q_inB, ↓q_m1, l_166, l_172, l_180, l_188, l_189, l_190, l_191, l_192, l_14, l_17, l_18, l_0, l_1, l_2, l_3, l_4, l_5, l_6, l_7, l_8, l_9, l_10, l_11, l_12, l_20, l_21, l_30, l_31, l_32, l_40, l_48, l_50, l_51, l_57, l_60, l_70, l_71, l_99, l_100, l_101, l_160, l_199, l_200, l_999, l_1000, q_tn, q_add, q_mul, q_sub, q_le, q_lt, q_eq, q_31, n_and, n_or, n_xor, q_shl, q_z, q_b0, q_b1, q_bz, q_em, q_me, q_mm, q_lm, q_ml, q_mle, q_lem, s2_eq, s2_ne, pk_us, pk_un, uN_s, uN_n, if_pos, if_neg, ite_true, ite_false, if_true, if_false, not_true, not_false_iff, Nat.add_zero, Nat.zero_add], by simp (disch := omega) only [nm_s, bd_s, bd2_s, bd3_s, bd4_s, q_gt, q_inB, ↓q_m1, l_166, l_172, l_180, l_188, l_189, l_190, l_191, l_192, l_14, l_17, l_18, l_0, l_1, l_2, l_3, l_4, l_5, l_6, l_7, l_8, l_9, l_10, l_11, l_12, l_20, l_21, l_30, l_31, l_32, l_40, l_48, l_50, l_51, l_57, l_60, l_70, l_71, l_99, l_100, l_101, l_160, l_199, l_200, l_999, l_1000, q_tn, q_add, q_mul, q_sub, q_le, q_lt, q_eq, q_31, n_and, n_or, n_xor, q_shl, q_z, q_b0, q_b1, q_bz, q_em, q_me, q_mm, q_lm, q_ml, q_mle, q_lem, s2_eq, s2_ne, pk_us, pk_un, uN_s, uN_n, if_pos, if_neg, ite_true, ite_false, if_true, if_false, not_true, not_false_iff, Nat.add_zero, Nat.zero_add]⟩
    · exact ⟨by simp (disch := omega) only [nm_s, bd_s, bd2_s, bd3_s, bd4_s, q_gt, q_inB, ↓q_m1, l_166, l_172, l_180, l_188, l_189, l_190, l_191, l_192, l_14, l_17, l_18, l_0, l_1, l_2, l_3, l_4, l_5, l_6, l_7, l_8, l_9, l_10, l_11, l_12, l_20, l_21, l_30, l_31, l_32, l_40, l_48, l_50, l_51, l_57, l_60, l_70, l_71, l_99, l_100, l_101, l_160, l_199, l_200, l_999, l_1000, q_tn, q_add, q_mul, q_sub, q_le, q_lt, q_eq, q_31, n_and, n_or, n_xor, q_shl, q_z, q_b0, q_b1, q_bz, q_em, q_me, q_mm, q_lm, q_ml, q_mle, q_lem, s2_eq, s2_ne, pk_us, pk_un, uN_s, uN_n, if_pos, if_neg, ite_true, ite_false, if_true, if_false, not_true, not_false_iff, Nat.add_zero, Nat.zero_add, h.c13], by simp (disch := omega) only [nm_s, bd_s, bd2_s, bd3_s, bd4_s, q_gt, q_inB, ↓q_m1, l_166, l_172, l_180, l_188, l_189, l_190, l_191, l_192, l_14, l_17, l_18, l_0, l_1, l_2, l_3, l_4, l_5, l_6, l_7, l_8, l_9, l_10, l_11, l_12, l_20, l_21, l_30, l_31, l_32, l_40, l_48, l_50, l_51, l_57, l_60, l_70, l_71, l_99, l_100, l_101, l_160, l_199, l_200, l_999, l_1000, q_tn, q_add, q_mul, q_sub, q_le, q_lt, q_eq, q_31, n_and, n_or, n_xor, q_shl, q_z, q_b0, q_b1, q_bz, q_em, q_me, q_mm, q_lm, q_ml, q_mle, q_lem, s2_eq, s2_ne, pk_us, pk_un, uN_s, uN_n, if_pos, if_neg, ite_true, ite_false, if_true, if_false, not_true, not_false_iff, Nat.add_zero, Nat.zero_add, h.c14]⟩
  · show nI (aS g + 1) - nI 1 = nI (aS g)
    rw [q_sub (by omega)]
    rfl
  · exact FrM_trans (FrM_s2 rfl (by omega)) (FrM_trans (FrM_s2 rfl (by omega)) (FrM_trans (FrM_slot rfl) (FrM_s2 rfl (by omega))))
theorem pM_newValley (h : RepM g s) (w : WfN B g) {m : Nat} (hV : aV g < 8) : ∃ z, f_X7_newValley s (nI m) = some z ∧ (z.1 = nI (aV g) ∧ RepM (addV g m) z.2 ∧ FrM s z.2) := by
  unfold f_X7_newValley
  simp (disch := omega) only [nm_s, bd_s, bd2_s, bd3_s, bd4_s, q_gt, q_inB, ↓q_m1, l_166, l_172, l_180, l_188, l_189, l_190, l_191, l_192, l_14, l_17, l_18, l_0, l_1, l_2, l_3, l_4, l_5, l_6, l_7, l_8, l_9, l_10, l_11, l_12, l_20, l_21, l_30, l_31, l_32, l_40, l_48, l_50, l_51, l_57, l_60, l_70, l_71, l_99, l_100, l_101, l_160, l_199, l_200, l_999, l_1000, q_tn, q_add, q_mul, q_sub, q_le, q_lt, q_eq, q_31, n_and, n_or, n_xor, q_shl, q_z, q_b0, q_b1, q_bz, q_em, q_me, q_mm, q_lm, q_ml, q_mle, q_lem, s2_eq, s2_ne, pk_us, pk_un, uN_s, uN_n, if_pos, if_neg, ite_true, ite_false, if_true, if_false, not_true, not_false_iff, Nat.add_zero, Nat.zero_add, h.cv]
  refine ⟨_, rfl, rfl, ⟨⟨h.c0, h.cs, rfl, h.cy⟩, h.2.1, h.2.2.1, h.2.2.2.1, fun i hi => ?_⟩, ?_⟩
  · have hi2 : i < aV g + 1 := hi
    show upd (s 16) (aV g) (nI m) i = nI (uN (g 11) (aV g) m i) ∧ upd (s 17) (aV g) (nI 0) i = nI (uN (g 12) (aV g) 0 i)
    by_cases hx : i = aV g
    · subst hx
      exact ⟨by simp (disch := omega) only [nm_s, bd_s, bd2_s, bd3_s, bd4_s, q_gt, q_inB, ↓q_m1, l_166, l_172, l_180, l_188, l_189, l_190, l_191, l_192, l_14, l_17, l_18, l_0, l_1, l_2, l_3, l_4, l_5, l_6, l_7, l_8, l_9, l_10, l_11, l_12, l_20, l_21, l_30, l_31, l_32, l_40, l_48, l_50, l_51, l_57, l_60, l_70, l_71, l_99, l_100, l_101, l_160, l_199, l_200, l_999, l_1000, q_tn, q_add, q_mul, q_sub, q_le, q_lt, q_eq, q_31, n_and, n_or, n_xor, q_shl, q_z, q_b0, q_b1, q_bz, q_em, q_me, q_mm, q_lm, q_ml, q_mle, q_lem, s2_eq, s2_ne, pk_us, pk_un, uN_s, uN_n, if_pos, if_neg, ite_true, ite_false, if_true, if_false, not_true, not_false_iff, Nat.add_zero, Nat.zero_add], by simp (disch := omega) only [nm_s, bd_s, bd2_s, bd3_s, bd4_s, q_gt, q_inB, ↓q_m1, l_166, l_172, l_180, l_188, l_189, l_190, l_191, l_192, l_14, l_17, l_18, l_0, l_1, l_2, l_3, l_4, l_5, l_6, l_7, l_8, l_9, l_10, l_11, l_12, l_20, l_21, l_30, l_31, l_32, l_40, l_48, l_50, l_51, l_57, l_60, l_70, l_71, l_99, l_100, l_101, l_160, l_199, l_200, l_999, l_1000, q_tn, q_add, q_mul, q_sub, q_le, q_lt, q_eq, q_31, n_and, n_or, n_xor, q_shl, q_z, q_b0, q_b1, q_bz, q_em, q_me, q_mm, q_lm, q_ml, q_mle, q_lem, s2_eq, s2_ne, pk_us, pk_un, uN_s, uN_n, if_pos, if_neg, ite_true, ite_false, if_true, if_false, not_true, not_false_iff, Nat.add_zero, Nat.zero_add]⟩
    · exact ⟨by simp (disch := omega) only [nm_s, bd_s, bd2_s, bd3_s, bd4_s, q_gt, q_inB, ↓q_m1, l_166, l_172, l_180, l_188, l_189, l_190, l_191, l_192, l_14, l_17, l_18, l_0, l_1, l_2, l_3, l_4, l_5, l_6, l_7, l_8, l_9, l_10, l_11, l_12, l_20, l_21, l_30, l_31, l_32, l_40, l_48, l_50, l_51, l_57, l_60, l_70, l_71, l_99, l_100, l_101, l_160, l_199, l_200, l_999, l_1000, q_tn, q_add, q_mul, q_sub, q_le, q_lt, q_eq, q_31, n_and, n_or, n_xor, q_shl, q_z, q_b0, q_b1, q_bz, q_em, q_me, q_mm, q_lm, q_ml, q_mle, q_lem, s2_eq, s2_ne, pk_us, pk_un, uN_s, uN_n, if_pos, if_neg, ite_true, ite_false, if_true, if_false, not_true, not_false_iff, Nat.add_zero, Nat.zero_add, h.c16], by simp (disch := omega) only [nm_s, bd_s, bd2_s, bd3_s, bd4_s, q_gt, q_inB, ↓q_m1, l_166, l_172, l_180, l_188, l_189, l_190, l_191, l_192, l_14, l_17, l_18, l_0, l_1, l_2, l_3, l_4, l_5, l_6, l_7, l_8, l_9, l_10, l_11, l_12, l_20, l_21, l_30, l_31, l_32, l_40, l_48, l_50, l_51, l_57, l_60, l_70, l_71, l_99, l_100, l_101, l_160, l_199, l_200, l_999, l_1000, q_tn, q_add, q_mul, q_sub, q_le, q_lt, q_eq, q_31, n_and, n_or, n_xor, q_shl, q_z, q_b0, q_b1, q_bz, q_em, q_me, q_mm, q_lm, q_ml, q_mle, q_lem, s2_eq, s2_ne, pk_us, pk_un, uN_s, uN_n, if_pos, if_neg, ite_true, ite_false, if_true, if_false, not_true, not_false_iff, Nat.add_zero, Nat.zero_add, h.c17]⟩
  · exact FrM_trans (FrM_s2 rfl (by omega)) (FrM_trans (FrM_s2 rfl (by omega)) (FrM_slot rfl))
theorem pM_setU (h : RepM g s) {v u : Nat} : RepM (setU g v u) (s2 s 17 (upd (s 17) v (nI u))) := by
  refine ⟨h.1, h.2.1, h.2.2.1, h.2.2.2.1, fun i hi => ⟨h.c16 hi, ?_⟩⟩
  show upd (s 17) v (nI u) i = nI (uN (g 12) v u i)
  by_cases hx : i = v
  · subst hx; simp (disch := omega) only [nm_s, bd_s, bd2_s, bd3_s, bd4_s, q_gt, q_inB, ↓q_m1, l_166, l_172, l_180, l_188, l_189, l_190, l_191, l_192, l_14, l_17, l_18, l_0, l_1, l_2, l_3, l_4, l_5, l_6, l_7, l_8, l_9, l_10, l_11, l_12, l_20, l_21, l_30, l_31, l_32, l_40, l_48, l_50, l_51, l_57, l_60, l_70, l_71, l_99, l_100, l_101, l_160, l_199, l_200, l_999, l_1000, q_tn, q_add, q_mul, q_sub, q_le, q_lt, q_eq, q_31, n_and, n_or, n_xor, q_shl, q_z, q_b0, q_b1, q_bz, q_em, q_me, q_mm, q_lm, q_ml, q_mle, q_lem, s2_eq, s2_ne, pk_us, pk_un, uN_s, uN_n, if_pos, if_neg, ite_true, ite_false, if_true, if_false, not_true, not_false_iff, Nat.add_zero, Nat.zero_add]
  · simp (disch := omega) only [nm_s, bd_s, bd2_s, bd3_s, bd4_s, q_gt, q_inB, ↓q_m1, l_166, l_172, l_180, l_188, l_189, l_190, l_191, l_192, l_14, l_17, l_18, l_0, l_1, l_2, l_3, l_4, l_5, l_6, l_7, l_8, l_9, l_10, l_11, l_12, l_20, l_21, l_30, l_31, l_32, l_40, l_48, l_50, l_51, l_57, l_60, l_70, l_71, l_99, l_100, l_101, l_160, l_199, l_200, l_999, l_1000, q_tn, q_add, q_mul, q_sub, q_le, q_lt, q_eq, q_31, n_and, n_or, n_xor, q_shl, q_z, q_b0, q_b1, q_bz, q_em, q_me, q_mm, q_lm, q_ml, q_mle, q_lem, s2_eq, s2_ne, pk_us, pk_un, uN_s, uN_n, if_pos, if_neg, ite_true, ite_false, if_true, if_false, not_true, not_false_iff, Nat.add_zero, Nat.zero_add]; exact h.c17 hi
theorem pM_setY (h : RepM g s) {y : Nat} : RepM (setY g y) (s2 s 0 (upd (s 0) 17 (nI y))) := ⟨⟨h.c0, h.cs, h.cv, rfl⟩, h.2⟩
-- how long all that stand mourn yet
theorem j_max0 {u y : Nat} (hu : u < 1073741824) (hy : y < 1073741824) : jmax (nI 0) (nI u - nI y) = nI (u - y) := by
  by_cases h : y ≤ u
  · rw [q_sub h, j_max (by omega) (by omega), Nat.max_eq_right (Nat.zero_le _)]
  · unfold jmax
    have h1 : nI u - nI y < nI 0 := pk_sneg hy (by omega)
    rw [if_neg (fun q => Int32.lt_irrefl (Int32.lt_trans q h1)), show u - y = 0 by omega]
def mrnS (g : AG) (n : Nat) : Nat := sumF (fun p => if stB g p = true then g 5 p - aY g else 0) n
theorem pM_mourning_L4 (h : RepM g s) (w : WfN B g) : ∀ (n i : Nat), i ≤ aP g → aP g - i < n → f_X7_mourning_L4 s n (nI (mrnS g i)) (nI i) = some (nI (mrnS g (aP g)))
  | 0, i, _, h2 => by omega
  | n + 1, i, h1, h2 => by
    have hP := w.1.1
    have hB := w.1.2.2.2
    rw [f_X7_mourning_L4.eq_2]
    by_cases hi : i < aP g
    · have h5 := (w.2.1 i hi).2.2.2.2.1
      have ih := pM_mourning_L4 h w n (i + 1) (by omega) (by omega)
      unfold mrnS at ih ⊢
      rw [sumF] at ih
      cases hs : stB g i with
      | true =>
        rw [hs, if_pos rfl] at ih
        simp (disch := omega) only [nm_s, bd_s, bd2_s, bd3_s, bd4_s, q_gt, q_inB, ↓q_m1, l_166, l_172, l_180, l_188, l_189, l_190, l_191, l_192, l_14, l_17, l_18, l_0, l_1, l_2, l_3, l_4, l_5, l_6, l_7, l_8, l_9, l_10, l_11, l_12, l_20, l_21, l_30, l_31, l_32, l_40, l_48, l_50, l_51, l_57, l_60, l_70, l_71, l_99, l_100, l_101, l_160, l_199, l_200, l_999, l_1000, q_tn, q_31, q_shl, q_z, q_b0, q_b1, q_bz, q_em, q_me, q_mm, q_lm, q_ml, q_mle, q_lem, s2_eq, s2_ne, pk_us, pk_un, uN_s, uN_n, if_pos, if_neg, ite_true, ite_false, if_true, if_false, not_true, not_false_iff, Nat.add_zero, Nat.zero_add, h.c0, h.c9, hs, h.c10, h.cy, j_max0, q_add, q_le, q_eq]
        exact ih
      | false =>
        rw [hs, if_neg ffl] at ih
        simp (disch := omega) only [nm_s, bd_s, bd2_s, bd3_s, bd4_s, q_gt, q_inB, ↓q_m1, l_166, l_172, l_180, l_188, l_189, l_190, l_191, l_192, l_14, l_17, l_18, l_0, l_1, l_2, l_3, l_4, l_5, l_6, l_7, l_8, l_9, l_10, l_11, l_12, l_20, l_21, l_30, l_31, l_32, l_40, l_48, l_50, l_51, l_57, l_60, l_70, l_71, l_99, l_100, l_101, l_160, l_199, l_200, l_999, l_1000, q_tn, q_add, q_mul, q_sub, q_le, q_lt, q_eq, q_31, n_and, n_or, n_xor, q_shl, q_z, q_b0, q_b1, q_bz, q_em, q_me, q_mm, q_lm, q_ml, q_mle, q_lem, s2_eq, s2_ne, pk_us, pk_un, uN_s, uN_n, if_pos, if_neg, ite_true, ite_false, if_true, if_false, not_true, not_false_iff, Nat.add_zero, Nat.zero_add, h.c0, h.c9, hs]
        exact ih
    · have : i = aP g := by omega
      subst this
      simp (disch := omega) only [nm_s, bd_s, bd2_s, bd3_s, bd4_s, q_gt, q_inB, ↓q_m1, l_166, l_172, l_180, l_188, l_189, l_190, l_191, l_192, l_14, l_17, l_18, l_0, l_1, l_2, l_3, l_4, l_5, l_6, l_7, l_8, l_9, l_10, l_11, l_12, l_20, l_21, l_30, l_31, l_32, l_40, l_48, l_50, l_51, l_57, l_60, l_70, l_71, l_99, l_100, l_101, l_160, l_199, l_200, l_999, l_1000, q_tn, q_add, q_mul, q_sub, q_le, q_lt, q_eq, q_31, n_and, n_or, n_xor, q_shl, q_z, q_b0, q_b1, q_bz, q_em, q_me, q_mm, q_lm, q_ml, q_mle, q_lem, s2_eq, s2_ne, pk_us, pk_un, uN_s, uN_n, if_pos, if_neg, ite_true, ite_false, if_true, if_false, not_true, not_false_iff, Nat.add_zero, Nat.zero_add, h.c0]
theorem pM_mourning (h : RepM g s) (w : WfN B g) : f_X7_mourning s = some (nI (mrnS g (aP g))) :=
  pM_mourning_L4 h w 2000 0 (by omega) (by have := w.1.1; omega)
theorem sumF_add (f h : Nat → Nat) : ∀ n, sumF f n + sumF h n = sumF (fun i => f i + h i) n
  | 0 => rfl
  | n + 1 => by
    rw [sumF, sumF, sumF, ← sumF_add f h n]
    omega
theorem sumF_one (l v : Nat) : ∀ n, sumF (fun i => if i = l then v else 0) n = if l < n then v else 0
  | 0 => rfl
  | n + 1 => by
    rw [sumF, sumF_one l v n]
    by_cases h1 : l < n
    · have h2 : ¬ n = l := by omega
      have h3 : l < n + 1 := by omega
      rw [if_pos h1, if_neg h2, if_pos h3, Nat.add_zero]
    · by_cases h2 : n = l
      · have h3 : l < n + 1 := by omega
        rw [if_neg h1, if_pos h2, if_pos h3, Nat.zero_add]
      · have h3 : ¬ l < n + 1 := by omega
        rw [if_neg h1, if_neg h2, if_neg h3]
-- who sees one that is lost stands, and isn't it
theorem see_st (w : WfV g) {q l : Nat} (hq : q < aP g) (hl : l < aP g) (h : seB g q l = true) : stB g q = true ∧ stB g l = true ∧ ¬ q = l := by
  rw [w q l hq hl] at h
  refine ⟨?_, ?_, fun e => ?_⟩
  · unfold visB at h
    cases hx : stB g q with
    | true => rfl
    | false => rw [hx] at h; simp at h
  · unfold visB at h
    cases hx : stB g l with
    | true => rfl
    | false => rw [hx] at h; simp at h
  · rw [e, visB_eq rfl] at h
    cases h
theorem untilB_no {u q l y : Nat} (h : seB g q l = false) : untilB g u q l y = u := by
  unfold untilB
  rw [h, if_neg ffl]
theorem untilB_ge (u q l y : Nat) : u ≤ untilB g u q l y := by
  unfold untilB
  split
  · exact Nat.le_max_left _ _
  · exact Nat.le_refl _
theorem st_drop (l i : Nat) : stB (dropA g l) i = (stB g i && !decide (l = i)) := by
  show (clr (aW g) (2 ^ l)).testBit i = _
  rw [clr_bit, tb_two]
theorem grief_eq (w : WfN B g) (v : WfV g) {l : Nat} (hl : l < aP g) (hs : stB g l = true) : mrnS (loseA g l) (aP g) + (g 5 l - aY g) = mrnS g (aP g) + griefA g l (aY g) := by
  have h1 : (if l < aP g then g 5 l - aY g else 0) = g 5 l - aY g := if_pos hl
  rw [← h1, ← sumF_one]
  unfold mrnS griefA
  rw [sumF_add, sumF_add]
  refine sumF_congr fun q hq => ?_
  have hst : stB (loseA g l) q = (stB g q && !decide (l = q)) := st_drop l q
  have h5 : loseA g l 5 q = untilB g (g 5 q) q l (aY g) := if_pos hq
  have hY : aY (loseA g l) = aY g := rfl
  rw [hst, h5, hY]
  have hge := untilB_ge (g := g) (g 5 q) q l (aY g)
  by_cases hql : q = l
  · subst hql
    have hno : seB g q q = false := by
      cases hx : seB g q q with
      | false => rfl
      | true => exact absurd rfl (see_st v hl hl hx).2.2
    rw [untilB_no hno, if_pos rfl, hs]
    simp
  · have hlq : ¬ l = q := fun e => hql e.symm
    rw [decide_eq_false hlq, Bool.not_false, Bool.and_true, if_neg hql]
    cases hsq : stB g q with
    | true =>
      rw [if_pos rfl, if_pos rfl]
      omega
    | false =>
      have hno : seB g q l = false := by
        cases hx : seB g q l with
        | false => rfl
        | true => rw [(see_st v hq hl hx).1] at hsq; cases hsq
      rw [if_neg ffl, if_neg ffl, untilB_no hno]
      omega
theorem pM_loses_L23 (w : WfN B g) {lost x : Nat} (hl : lost < aP g) (K : GS → Option (Int32 × GS)) {Z : Int32 × GS → Prop} {b : Int32} (hK : ∀ f, RepM (utA g lost (aP g)) (s2 s 10 f) → ∃ z, nmd (s2 (s2 s 10 f) 9 (upd (s 9) lost (nI 0))) (fun sm_12 => bd (f_X7_looks sm_12) (fun sm_13 => bd (f_X7_mourning sm_13) (fun r_15 => some ((r_15 - b), sm_13)))) = some z ∧ Z z) : ∀ (n k : Nat) (f : Nat → Int32), k ≤ aP g → aP g - k < n → RepM (utA g lost k) (s2 s 10 f) → ∃ z, f_X7_loses_L23 (nI lost) b n (nI k) (s2 s 10 f) = some z ∧ Z z
  | 0, k, f, _, h2, _ => by omega
  | n + 1, k, f, h1, h2, h3 => by
    have hP := w.1.1
    have hB := w.1.2.2.2
    have w2 := utA_wf w hl (k := k)
    have h0 : s2 s 10 f 0 3 = nI (aP g) := h3.c0
    have hy : s2 s 10 f 0 17 = nI (aY g) := h3.cy
    rw [f_X7_loses_L23.eq_2]
    by_cases hk : k < aP g
    · have h5 := (w.2.1 k hk).2.2.2.2.1
      have h7 : f k = nI (g 5 k) := by
        have := h3.c10 hk
        rw [s2_eq] at this
        rw [this]
        show nI (if k < k then untilB g (g 5 k) k lost (aY g) else g 5 k) = _
        rw [if_neg (by omega)]
      have next : ∀ f', (∀ i, i < aP g → f' i = if i = k then nI (untilB g (g 5 k) k lost (aY g)) else f i) → ∃ z, f_X7_loses_L23 (nI lost) b n (nI (k + 1)) (s2 s 10 f') = some z ∧ Z z := fun f' hf' => by
        refine pM_loses_L23 w (x := x) hl K hK n (k + 1) f' (by omega) (by omega) ⟨h3.1, fun i hi => ⟨h3.c5 hi, h3.c6 hi, h3.c7 hi, h3.c8 hi, ?_, h3.c9 hi⟩, h3.2.2.1, h3.2.2.2.1, h3.2.2.2.2⟩
        show f' i = nI (if i < k + 1 then untilB g (g 5 i) i lost (aY g) else g 5 i)
        rw [hf' i hi]
        by_cases hx : i = k
        · rw [if_pos hx, hx, if_pos (by omega)]
        · rw [if_neg hx]
          have h8 := h3.c10 hi
          rw [s2_eq] at h8
          rw [h8]
          show nI (if i < k then untilB g (g 5 i) i lost (aY g) else g 5 i) = _
          by_cases hik : i < k
          · rw [if_pos hik, if_pos (by omega)]
          · rw [if_neg hik, if_neg (by omega)]
      have hsee : f_X7_sees (s2 s 10 f) (nI k) (nI lost) = some (bI (seB g k lost)) := pM_sees h3 w2 hk hl
      cases hse : seB g k lost with
      | false =>
        rw [hse] at hsee
        simp (disch := omega) only [nm_s, bd_s, bd2_s, bd3_s, bd4_s, q_gt, q_inB, ↓q_m1, l_166, l_172, l_180, l_188, l_189, l_190, l_191, l_192, l_14, l_17, l_18, l_0, l_1, l_2, l_3, l_4, l_5, l_6, l_7, l_8, l_9, l_10, l_11, l_12, l_20, l_21, l_30, l_31, l_32, l_40, l_48, l_50, l_51, l_57, l_60, l_70, l_71, l_99, l_100, l_101, l_160, l_199, l_200, l_999, l_1000, q_tn, q_add, q_mul, q_sub, q_le, q_lt, q_eq, q_31, n_and, n_or, n_xor, q_shl, q_z, q_b0, q_b1, q_bz, q_em, q_me, q_mm, q_lm, q_ml, q_mle, q_lem, s2_eq, s2_ne, pk_us, pk_un, uN_s, uN_n, if_pos, if_neg, ite_true, ite_false, if_true, if_false, not_true, not_false_iff, Nat.add_zero, Nat.zero_add, h0, hsee, bI_f]
        refine next f (fun i hi => ?_)
        rw [untilB_no hse, ← h7]
        by_cases hx : i = k
        · rw [if_pos hx, hx]
        · rw [if_neg hx]
      | true =>
        rw [hse] at hsee
        have h8 := w.2.2.1 k lost hk hl hse
        have h11 : s2 s 10 f 11 (10 * k + lost) = nI (g 8 (10 * k + lost)) := by
          rw [h3.c11 (g := utA g lost k) hk hl]
          show (if seB g k lost = true then nI (g 8 (10 * k + lost)) else mI) = _
          rw [hse, if_pos rfl]
        have hmo := pM_mourns h3 w2 (i := k) (n := aY g - g 8 (10 * k + lost)) hk (by omega)
        have hmo2 : f_X7_mourns (s2 s 10 f) (nI k) (nI (aY g - g 8 (10 * k + lost))) = some (nI (mournY (g 1 k) (g 2 k) (aY g - g 8 (10 * k + lost)))) := hmo
        have hml := mournY_le (g 1 k) (g 2 k) (aY g - g 8 (10 * k + lost))
        have h10 : s2 s 10 f 10 = f := rfl
        rw [s2_ne (show (11 : Nat) ≠ 10 by decide)] at h11
        rw [s2_ne (show (0 : Nat) ≠ 10 by decide)] at h0 hy
        simp (disch := omega) only [nm_s, bd_s, bd2_s, bd3_s, bd4_s, q_gt, q_inB, ↓q_m1, l_166, l_172, l_180, l_188, l_189, l_190, l_191, l_192, l_14, l_17, l_18, l_0, l_1, l_2, l_3, l_4, l_5, l_6, l_7, l_8, l_9, l_10, l_11, l_12, l_20, l_21, l_30, l_31, l_32, l_40, l_48, l_50, l_51, l_57, l_60, l_70, l_71, l_99, l_100, l_101, l_160, l_199, l_200, l_999, l_1000, q_tn, q_add, q_mul, q_sub, q_le, q_lt, q_eq, q_31, n_and, n_or, n_xor, q_shl, q_z, q_b0, q_b1, q_bz, q_em, q_me, q_mm, q_lm, q_ml, q_mle, q_lem, s2_eq, s2_ne, pk_us, pk_un, uN_s, uN_n, if_pos, if_neg, ite_true, ite_false, if_true, if_false, not_true, not_false_iff, Nat.add_zero, Nat.zero_add, h0, hsee, bI_t, hy, h11, hmo2, h10, h7, j_max]
        rw [s2_s2]
        refine next _ (fun i hi => ?_)
        have hu : untilB g (g 5 k) k lost (aY g) = max (g 5 k) (aY g + mournY (g 1 k) (g 2 k) (aY g - g 8 (10 * k + lost))) := by
          unfold untilB
          rw [hse, if_pos rfl]
        rw [hu]
        by_cases hx : i = k
        · rw [if_pos hx, hx, pk_us]
        · rw [if_neg hx, pk_un hx]
    · have : k = aP g := by omega
      subst this
      rw [s2_ne (show (0 : Nat) ≠ 10 by decide)] at h0
      obtain ⟨z, e, hz⟩ := hK f h3
      refine ⟨z, ?_, hz⟩
      rw [← e]
      simp (disch := omega) only [nm_s, bd_s, bd2_s, bd3_s, bd4_s, q_gt, q_inB, ↓q_m1, l_166, l_172, l_180, l_188, l_189, l_190, l_191, l_192, l_14, l_17, l_18, l_0, l_1, l_2, l_3, l_4, l_5, l_6, l_7, l_8, l_9, l_10, l_11, l_12, l_20, l_21, l_30, l_31, l_32, l_40, l_48, l_50, l_51, l_57, l_60, l_70, l_71, l_99, l_100, l_101, l_160, l_199, l_200, l_999, l_1000, q_tn, q_add, q_mul, q_sub, q_le, q_lt, q_eq, q_31, n_and, n_or, n_xor, q_shl, q_z, q_b0, q_b1, q_bz, q_em, q_me, q_mm, q_lm, q_ml, q_mle, q_lem, s2_eq, s2_ne, pk_us, pk_un, uN_s, uN_n, if_pos, if_neg, ite_true, ite_false, if_true, if_false, not_true, not_false_iff, Nat.add_zero, Nat.zero_add, h0]
theorem pM_loses (h : RepM g s) (w : Wf B g) {lost : Nat} (hl : lost < aP g) (hs : stB g lost = true) : ∃ z, f_X7_loses s (nI lost) = some z ∧ (z.1 = nI (griefA g lost (aY g)) ∧ RepM (loseA g lost) z.2 ∧ FrM s z.2) := by
  have hP := w.1.1.1
  have hB := w.1.1.2.2.2
  have h5 := (w.1.2.1 lost hl).2.2.2.2.1
  unfold f_X7_loses
  rw [pM_mourning h w.1, bd_s]
  simp (disch := omega) only [nm_s, bd_s, bd2_s, bd3_s, bd4_s, q_gt, q_inB, ↓q_m1, l_166, l_172, l_180, l_188, l_189, l_190, l_191, l_192, l_14, l_17, l_18, l_0, l_1, l_2, l_3, l_4, l_5, l_6, l_7, l_8, l_9, l_10, l_11, l_12, l_20, l_21, l_30, l_31, l_32, l_40, l_48, l_50, l_51, l_57, l_60, l_70, l_71, l_99, l_100, l_101, l_160, l_199, l_200, l_999, l_1000, q_tn, q_31, q_shl, q_z, q_b0, q_b1, q_bz, q_em, q_me, q_mm, q_lm, q_ml, q_mle, q_lem, s2_eq, s2_ne, pk_us, pk_un, uN_s, uN_n, if_pos, if_neg, ite_true, ite_false, if_true, if_false, not_true, not_false_iff, Nat.add_zero, Nat.zero_add, h.c10, h.cy, j_max0]
  have key := pM_loses_L23 w.1 (s := s) (x := 0) (lost := lost) hl (fun _ => none) (Z := fun z => z.1 = nI (griefA g lost (aY g)) ∧ RepM (loseA g lost) z.2 ∧ FrM s z.2) (b := nI (mrnS g (aP g)) - nI (g 5 lost - aY g)) (fun f h1 => by
    rw [nm_s]
    refine pM_look_then (g := dropA g lost) ⟨h1.1, fun i hi => ⟨h1.c5 hi, h1.c6 hi, h1.c7 hi, h1.c8 hi, h1.c10 hi, ?_⟩, h1.2.2.1, h1.2.2.2.1, h1.2.2.2.2⟩ (dropA_wf w.1 hl) (fun f' h5 => ?_)
    · show upd (s 9) lost (nI 0) i = bI (stB (dropA g lost) i)
      rw [st_drop]
      by_cases hx : i = lost
      · subst hx
        rw [pk_us]
        simp [bI]
        rfl
      · have hx2 : ¬ lost = i := fun e => hx e.symm
        have h9 : s 9 i = bI (stB g i) := h.c9 hi
        rw [pk_un hx, h9, decide_eq_false hx2, Bool.not_false, Bool.and_true]
    · have hmo := pM_mourning h5 (loseA_wf w.1 hl).1
      rw [hmo, bd_s]
      refine ⟨_, rfl, ?_, h5, FrM_trans (FrM_s2 (k := 10) (f := f) rfl (by omega)) (FrM_trans (FrM_s2 rfl (by omega)) (FrM_s2 rfl (by omega)))⟩
      have hge := grief_eq w.1 w.2 hl hs
      have hle : mrnS g (aP g) ≥ g 5 lost - aY g := by
        unfold mrnS
        have : ∀ n, lost < n → g 5 lost - aY g ≤ sumF (fun p => if stB g p = true then g 5 p - aY g else 0) n := by
          intro n
          induction n with
          | zero => intro hh; omega
          | succ n ih =>
            intro hh
            rw [sumF]
            by_cases hx : lost < n
            · have := ih hx; omega
            · have : n = lost := by omega
              subst this
              rw [hs, if_pos rfl]
              omega
        exact this _ hl
      show nI (mrnS (loseA g lost) (aP g)) - (nI (mrnS g (aP g)) - nI (g 5 lost - aY g)) = _
      rw [q_sub hle, q_sub (by omega)]
      congr 1
      omega) 2000 0 (s 10) (by omega) (by omega) (by
    rw [s2_id]
    exact ⟨h.1, fun i hi => ⟨h.c5 hi, h.c6 hi, h.c7 hi, h.c8 hi, h.c10 hi, h.c9 hi⟩, h.2.2⟩)
  rw [s2_id] at key
  exact key
end RV
