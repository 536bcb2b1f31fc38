-- both sides: lacks, chain, fires
def empN (g : AG) (v : Nat) : Nat := cntF (fun y => decide (milkA g v (black g (aY g + y)) = 0)) 100
theorem empN_le (g : AG) (v : Nat) : empN g v ≤ 100 := cntF_le _ _
theorem sel_some {lt : Nat → Nat → Bool} (n : Nat) : ∃ q, sel (fun _ => true) lt (n + 1) = some q := by
  cases hx : sel (fun _ => true) lt n with
  | none => exact ⟨n, sel_0 rfl hx⟩
  | some q =>
    cases hl : lt n q with
    | true => exact ⟨n, sel_y rfl hx hl⟩
    | false => exact ⟨q, sel_n hx hl⟩
def selG : Option Nat → Int32
  | none => nI 0
  | some q => nI q
theorem selG_I {o : Option Nat} {q : Nat} (h : o = some q) : selG o = selI o := by rw [h]; rfl
section LK1
variable {B : Nat} {g : AG} {r s sk : GS}
theorem pK_years_L6 (h : RepR g r) (w : WfN B g) {v : Nat} (hv : v < aV g) (hk : ∀ y, y < 100 → sk 1 y = nI (black g (aY g + y))) : ∀ (k i : Nat), i ≤ 100 → 100 - i < k → f_X0_yearsWithoutMilk_L6 sk r (nI 100) (nI v) k (nI (cntF (fun y => decide (milkA g v (black g (aY g + y)) = 0)) i)) (nI i) = some (nI (empN g v))
  | 0, i, _, h2 => by omega
  | k + 1, i, h1, h2 => by
    rw [f_X0_yearsWithoutMilk_L6.eq_2]
    by_cases hi : i < 100
    · have ih := pK_years_L6 h w hv hk k (i + 1) (by omega) (by omega)
      have hl := milkA_lt w (b := black g (aY g + i)) hv
      by_cases hz : milkA g v (black g (aY g + i)) = 0
      · rw [cntF_s (decide_eq_true hz)] at ih
        simp (disch := omega) only [nm_s, bd_s, bd2_s, bd3_s, bd4_s, q_gt, q_inB, ↓q_m1, l_166, l_172, l_180, l_188, l_189, l_190, l_191, l_192, l_14, l_17, l_18, l_0, l_1, l_2, l_3, l_4, l_5, l_6, l_7, l_8, l_9, l_10, l_11, l_12, l_20, l_21, l_30, l_31, l_32, l_40, l_48, l_50, l_51, l_57, l_60, l_70, l_71, l_99, l_100, l_101, l_160, l_199, l_200, l_999, l_1000, q_tn, q_add, q_mul, q_sub, q_le, q_lt, q_eq, q_31, n_and, n_or, n_xor, q_shl, q_z, q_b0, q_b1, q_bz, q_em, q_me, q_mm, q_lm, q_ml, q_mle, q_lem, s2_eq, s2_ne, pk_us, pk_un, uN_s, uN_n, if_pos, if_neg, ite_true, ite_false, if_true, if_false, not_true, not_false_iff, Nat.add_zero, Nat.zero_add, inR_t, isIx_t, bI_t, bI_f, neg1, q_clr, hk, pR_milkOf h w hv]
        exact ih
      · rw [cntF_n (decide_eq_false hz)] at ih
        simp (disch := omega) only [nm_s, bd_s, bd2_s, bd3_s, bd4_s, q_gt, q_inB, ↓q_m1, l_166, l_172, l_180, l_188, l_189, l_190, l_191, l_192, l_14, l_17, l_18, l_0, l_1, l_2, l_3, l_4, l_5, l_6, l_7, l_8, l_9, l_10, l_11, l_12, l_20, l_21, l_30, l_31, l_32, l_40, l_48, l_50, l_51, l_57, l_60, l_70, l_71, l_99, l_100, l_101, l_160, l_199, l_200, l_999, l_1000, q_tn, q_add, q_mul, q_sub, q_le, q_lt, q_eq, q_31, n_and, n_or, n_xor, q_shl, q_z, q_b0, q_b1, q_bz, q_em, q_me, q_mm, q_lm, q_ml, q_mle, q_lem, s2_eq, s2_ne, pk_us, pk_un, uN_s, uN_n, if_pos, if_neg, ite_true, ite_false, if_true, if_false, not_true, not_false_iff, Nat.add_zero, Nat.zero_add, inR_t, isIx_t, bI_t, bI_f, neg1, q_clr, hk, pR_milkOf h w hv]
        exact ih
    · have : i = 100 := by omega
      subst this
      simp (disch := omega) only [nm_s, bd_s, bd2_s, bd3_s, bd4_s, q_gt, q_inB, ↓q_m1, l_166, l_172, l_180, l_188, l_189, l_190, l_191, l_192, l_14, l_17, l_18, l_0, l_1, l_2, l_3, l_4, l_5, l_6, l_7, l_8, l_9, l_10, l_11, l_12, l_20, l_21, l_30, l_31, l_32, l_40, l_48, l_50, l_51, l_57, l_60, l_70, l_71, l_99, l_100, l_101, l_160, l_199, l_200, l_999, l_1000, q_tn, q_add, q_mul, q_sub, q_le, q_lt, q_eq, q_31, n_and, n_or, n_xor, q_shl, q_z, q_b0, q_b1, q_bz, q_em, q_me, q_mm, q_lm, q_ml, q_mle, q_lem, s2_eq, s2_ne, pk_us, pk_un, uN_s, uN_n, if_pos, if_neg, ite_true, ite_false, if_true, if_false, not_true, not_false_iff, Nat.add_zero, Nat.zero_add, inR_t, isIx_t, bI_t, bI_f, neg1, q_clr]
      rfl
theorem pK_poorest_L8 (h : RepR g r) (w : WfN B g) (hk : ∀ y, y < 100 → sk 1 y = nI (black g (aY g + y))) : ∀ (n i : Nat), i ≤ aV g → aV g - i < n → f_X0_poorestValley_L8 sk r (nI 100) n (selI (sel (fun _ => true) (maxL (empN g)) i)) (selV (empN g) (nI 0) (sel (fun _ => true) (maxL (empN g)) i)) (nI i) = some (selI (sel (fun _ => true) (maxL (empN g)) (aV g)))
  | 0, i, _, h2 => by omega
  | n + 1, i, h1, h2 => by
    have hV := w.1.2.2.1
    rw [f_X0_poorestValley_L8.eq_2]
    by_cases hi : i < aV g
    · have ih := pK_poorest_L8 h w hk n (i + 1) (by omega) (by omega)
      have hy : f_X0_yearsWithoutMilk sk r (nI 100) (nI i) = some (nI (empN g i)) := pK_years_L6 h w hi hk 2000 0 (by omega) (by omega)
      have he := empN_le g i
      cases hx : sel (fun _ => true) (maxL (empN g)) i with
      | none =>
        rw [sel_0 rfl hx] at ih
        simp only [selI, selV] at ih ⊢
        simp (disch := omega) only [nm_s, bd_s, bd2_s, bd3_s, bd4_s, q_gt, q_inB, ↓q_m1, l_166, l_172, l_180, l_188, l_189, l_190, l_191, l_192, l_14, l_17, l_18, l_0, l_1, l_2, l_3, l_4, l_5, l_6, l_7, l_8, l_9, l_10, l_11, l_12, l_20, l_21, l_30, l_31, l_32, l_40, l_48, l_50, l_51, l_57, l_60, l_70, l_71, l_99, l_100, l_101, l_160, l_199, l_200, l_999, l_1000, q_tn, q_add, q_mul, q_sub, q_le, q_lt, q_eq, q_31, n_and, n_or, n_xor, q_shl, q_z, q_b0, q_b1, q_bz, q_em, q_me, q_mm, q_lm, q_ml, q_mle, q_lem, s2_eq, s2_ne, pk_us, pk_un, uN_s, uN_n, if_pos, if_neg, ite_true, ite_false, if_true, if_false, not_true, not_false_iff, Nat.add_zero, Nat.zero_add, inR_t, isIx_t, bI_t, bI_f, neg1, q_clr, h.cv, hy, f_X0_poorestValley_J39]
        exact ih
      | some q =>
        have hq := (sel_lt hx).1
        have he2 := empN_le g q
        by_cases hc : empN g q < empN g i
        · rw [sel_y rfl hx (decide_eq_true hc)] at ih
          simp only [selI, selV] at ih ⊢
          simp (disch := omega) only [nm_s, bd_s, bd2_s, bd3_s, bd4_s, q_gt, q_inB, ↓q_m1, l_166, l_172, l_180, l_188, l_189, l_190, l_191, l_192, l_14, l_17, l_18, l_0, l_1, l_2, l_3, l_4, l_5, l_6, l_7, l_8, l_9, l_10, l_11, l_12, l_20, l_21, l_30, l_31, l_32, l_40, l_48, l_50, l_51, l_57, l_60, l_70, l_71, l_99, l_100, l_101, l_160, l_199, l_200, l_999, l_1000, q_tn, q_add, q_mul, q_sub, q_le, q_lt, q_eq, q_31, n_and, n_or, n_xor, q_shl, q_z, q_b0, q_b1, q_bz, q_em, q_me, q_mm, q_lm, q_ml, q_mle, q_lem, s2_eq, s2_ne, pk_us, pk_un, uN_s, uN_n, if_pos, if_neg, ite_true, ite_false, if_true, if_false, not_true, not_false_iff, Nat.add_zero, Nat.zero_add, inR_t, isIx_t, bI_t, bI_f, neg1, q_clr, h.cv, hy, f_X0_poorestValley_J39]
          exact ih
        · rw [sel_n hx (decide_eq_false hc)] at ih
          simp only [selI, selV] at ih ⊢
          simp (disch := omega) only [nm_s, bd_s, bd2_s, bd3_s, bd4_s, q_gt, q_inB, ↓q_m1, l_166, l_172, l_180, l_188, l_189, l_190, l_191, l_192, l_14, l_17, l_18, l_0, l_1, l_2, l_3, l_4, l_5, l_6, l_7, l_8, l_9, l_10, l_11, l_12, l_20, l_21, l_30, l_31, l_32, l_40, l_48, l_50, l_51, l_57, l_60, l_70, l_71, l_99, l_100, l_101, l_160, l_199, l_200, l_999, l_1000, q_tn, q_add, q_mul, q_sub, q_le, q_lt, q_eq, q_31, n_and, n_or, n_xor, q_shl, q_z, q_b0, q_b1, q_bz, q_em, q_me, q_mm, q_lm, q_ml, q_mle, q_lem, s2_eq, s2_ne, pk_us, pk_un, uN_s, uN_n, if_pos, if_neg, ite_true, ite_false, if_true, if_false, not_true, not_false_iff, Nat.add_zero, Nat.zero_add, inR_t, isIx_t, bI_t, bI_f, neg1, q_clr, h.cv, hy, f_X0_poorestValley_J39]
          exact ih
    · have : i = aV g := by omega
      subst this
      simp (disch := omega) only [nm_s, bd_s, bd2_s, bd3_s, bd4_s, q_gt, q_inB, ↓q_m1, l_166, l_172, l_180, l_188, l_189, l_190, l_191, l_192, l_14, l_17, l_18, l_0, l_1, l_2, l_3, l_4, l_5, l_6, l_7, l_8, l_9, l_10, l_11, l_12, l_20, l_21, l_30, l_31, l_32, l_40, l_48, l_50, l_51, l_57, l_60, l_70, l_71, l_99, l_100, l_101, l_160, l_199, l_200, l_999, l_1000, q_tn, q_add, q_mul, q_sub, q_le, q_lt, q_eq, q_31, n_and, n_or, n_xor, q_shl, q_z, q_b0, q_b1, q_bz, q_em, q_me, q_mm, q_lm, q_ml, q_mle, q_lem, s2_eq, s2_ne, pk_us, pk_un, uN_s, uN_n, if_pos, if_neg, ite_true, ite_false, if_true, if_false, not_true, not_false_iff, Nat.add_zero, Nat.zero_add, inR_t, isIx_t, bI_t, bI_f, neg1, q_clr, h.cv]
theorem pK_saving_L8 (h : RepR g r) (w : WfN B g) (hk : ∀ y, y < 100 → sk 1 y = nI (black g (aY g + y))) : ∀ (n i : Nat), i ≤ aP g → aP g - i < n → f_X0_savingPeak_L8 sk r (nI 100) n (selI (sel (fun _ => true) (maxL (fun p => yieldW g 100 (2 ^ p))) i)) (selV (fun p => yieldW g 100 (2 ^ p)) (nI 0) (sel (fun _ => true) (maxL (fun p => yieldW g 100 (2 ^ p))) i)) (nI i) = some (selI (sel (fun _ => true) (maxL (fun p => yieldW g 100 (2 ^ p))) (aP g)))
  | 0, i, _, h2 => by omega
  | n + 1, i, h1, h2 => by
    have hP := w.1.1
    rw [f_X0_savingPeak_L8.eq_2]
    by_cases hi : i < aP g
    · have ih := pK_saving_L8 h w hk n (i + 1) (by omega) (by omega)
      have hy := pK_yield (m := 2 ^ i) h w (show 100 ≤ 200 by omega) hk
      have he := yieldW_le (m := 2 ^ i) w (show 100 ≤ 200 by omega)
      cases hx : sel (fun _ => true) (maxL (fun p => yieldW g 100 (2 ^ p))) i with
      | none =>
        rw [sel_0 rfl hx] at ih
        simp only [selI, selV] at ih ⊢
        simp (disch := omega) only [nm_s, bd_s, bd2_s, bd3_s, bd4_s, q_gt, q_inB, ↓q_m1, l_166, l_172, l_180, l_188, l_189, l_190, l_191, l_192, l_14, l_17, l_18, l_0, l_1, l_2, l_3, l_4, l_5, l_6, l_7, l_8, l_9, l_10, l_11, l_12, l_20, l_21, l_30, l_31, l_32, l_40, l_48, l_50, l_51, l_57, l_60, l_70, l_71, l_99, l_100, l_101, l_160, l_199, l_200, l_999, l_1000, q_tn, q_add, q_mul, q_sub, q_le, q_lt, q_eq, q_31, n_and, n_or, n_xor, q_shl, q_z, q_b0, q_b1, q_bz, q_em, q_me, q_mm, q_lm, q_ml, q_mle, q_lem, s2_eq, s2_ne, pk_us, pk_un, uN_s, uN_n, if_pos, if_neg, ite_true, ite_false, if_true, if_false, not_true, not_false_iff, Nat.add_zero, Nat.zero_add, inR_t, isIx_t, bI_t, bI_f, neg1, q_clr, h.c0, hy, f_X0_savingPeak_J41]
        exact ih
      | some q =>
        have hq := (sel_lt hx).1
        have he2 := yieldW_le (m := 2 ^ q) w (show 100 ≤ 200 by omega)
        by_cases hc : yieldW g 100 (2 ^ q) < yieldW g 100 (2 ^ i)
        · rw [sel_y rfl hx (decide_eq_true hc)] at ih
          simp only [selI, selV] at ih ⊢
          simp (disch := omega) only [nm_s, bd_s, bd2_s, bd3_s, bd4_s, q_gt, q_inB, ↓q_m1, l_166, l_172, l_180, l_188, l_189, l_190, l_191, l_192, l_14, l_17, l_18, l_0, l_1, l_2, l_3, l_4, l_5, l_6, l_7, l_8, l_9, l_10, l_11, l_12, l_20, l_21, l_30, l_31, l_32, l_40, l_48, l_50, l_51, l_57, l_60, l_70, l_71, l_99, l_100, l_101, l_160, l_199, l_200, l_999, l_1000, q_tn, q_add, q_mul, q_sub, q_le, q_lt, q_eq, q_31, n_and, n_or, n_xor, q_shl, q_z, q_b0, q_b1, q_bz, q_em, q_me, q_mm, q_lm, q_ml, q_mle, q_lem, s2_eq, s2_ne, pk_us, pk_un, uN_s, uN_n, if_pos, if_neg, ite_true, ite_false, if_true, if_false, not_true, not_false_iff, Nat.add_zero, Nat.zero_add, inR_t, isIx_t, bI_t, bI_f, neg1, q_clr, h.c0, hy, f_X0_savingPeak_J41]
          exact ih
        · rw [sel_n hx (decide_eq_false hc)] at ih
          simp only [selI, selV] at ih ⊢
          simp (disch := omega) only [nm_s, bd_s, bd2_s, bd3_s, bd4_s, q_gt, q_inB, ↓q_m1, l_166, l_172, l_180, l_188, l_189, l_190, l_191, l_192, l_14, l_17, l_18, l_0, l_1, l_2, l_3, l_4, l_5, l_6, l_7, l_8, l_9, l_10, l_11, l_12, l_20, l_21, l_30, l_31, l_32, l_40, l_48, l_50, l_51, l_57, l_60, l_70, l_71, l_99, l_100, l_101, l_160, l_199, l_200, l_999, l_1000, q_tn, q_add, q_mul, q_sub, q_le, q_lt, q_eq, q_31, n_and, n_or, n_xor, q_shl, q_z, q_b0, q_b1, q_bz, q_em, q_me, q_mm, q_lm, q_ml, q_mle, q_lem, s2_eq, s2_ne, pk_us, pk_un, uN_s, uN_n, if_pos, if_neg, ite_true, ite_false, if_true, if_false, not_true, not_false_iff, Nat.add_zero, Nat.zero_add, inR_t, isIx_t, bI_t, bI_f, neg1, q_clr, h.c0, hy, f_X0_savingPeak_J41]
          exact ih
    · have : i = aP g := by omega
      subst this
      simp (disch := omega) only [nm_s, bd_s, bd2_s, bd3_s, bd4_s, q_gt, q_inB, ↓q_m1, l_166, l_172, l_180, l_188, l_189, l_190, l_191, l_192, l_14, l_17, l_18, l_0, l_1, l_2, l_3, l_4, l_5, l_6, l_7, l_8, l_9, l_10, l_11, l_12, l_20, l_21, l_30, l_31, l_32, l_40, l_48, l_50, l_51, l_57, l_60, l_70, l_71, l_99, l_100, l_101, l_160, l_199, l_200, l_999, l_1000, q_tn, q_add, q_mul, q_sub, q_le, q_lt, q_eq, q_31, n_and, n_or, n_xor, q_shl, q_z, q_b0, q_b1, q_bz, q_em, q_me, q_mm, q_lm, q_ml, q_mle, q_lem, s2_eq, s2_ne, pk_us, pk_un, uN_s, uN_n, if_pos, if_neg, ite_true, ite_false, if_true, if_false, not_true, not_false_iff, Nat.add_zero, Nat.zero_add, inR_t, isIx_t, bI_t, bI_f, neg1, q_clr, h.c0]
-- the reference
theorem pM_poorest_L20 (h : RepM g s) (w : WfN B g) (hB : B ≤ 19000000) {v : Nat} (hv : v < aV g) (K : Int32 → GS → Option (Int32 × GS)) : ∀ (k i : Nat), i ≤ 100 → 100 - i < k → f_X7_poorest_L20 (nI v) K k (nI (cntF (fun y => decide (milkA g v (black g (aY g + y)) = 0)) i)) (nI i) s = K (nI (empN g v)) s
  | 0, i, _, h2 => by omega
  | k + 1, i, h1, h2 => by
    rw [f_X7_poorest_L20.eq_2]
    by_cases hi : i < 100
    · have ih := pM_poorest_L20 h w hB hv K k (i + 1) (by omega) (by omega)
      have hl := milkA_lt w (b := black g (aY g + i)) hv
      by_cases hz : milkA g v (black g (aY g + i)) = 0
      · rw [cntF_s (decide_eq_true hz)] at ih
        simp (disch := omega) only [nm_s, bd_s, bd2_s, bd3_s, bd4_s, q_gt, q_inB, ↓q_m1, l_166, l_172, l_180, l_188, l_189, l_190, l_191, l_192, l_14, l_17, l_18, l_0, l_1, l_2, l_3, l_4, l_5, l_6, l_7, l_8, l_9, l_10, l_11, l_12, l_20, l_21, l_30, l_31, l_32, l_40, l_48, l_50, l_51, l_57, l_60, l_70, l_71, l_99, l_100, l_101, l_160, l_199, l_200, l_999, l_1000, q_tn, q_add, q_mul, q_sub, q_le, q_lt, q_eq, q_31, n_and, n_or, n_xor, q_shl, q_z, q_b0, q_b1, q_bz, q_em, q_me, q_mm, q_lm, q_ml, q_mle, q_lem, s2_eq, s2_ne, pk_us, pk_un, uN_s, uN_n, if_pos, if_neg, ite_true, ite_false, if_true, if_false, not_true, not_false_iff, Nat.add_zero, Nat.zero_add, inR_t, isIx_t, bI_t, bI_f, neg1, q_clr, pM_blacksBehind h w hB, pM_gives h w hv]
        exact ih
      · rw [cntF_n (decide_eq_false hz)] at ih
        simp (disch := omega) only [nm_s, bd_s, bd2_s, bd3_s, bd4_s, q_gt, q_inB, ↓q_m1, l_166, l_172, l_180, l_188, l_189, l_190, l_191, l_192, l_14, l_17, l_18, l_0, l_1, l_2, l_3, l_4, l_5, l_6, l_7, l_8, l_9, l_10, l_11, l_12, l_20, l_21, l_30, l_31, l_32, l_40, l_48, l_50, l_51, l_57, l_60, l_70, l_71, l_99, l_100, l_101, l_160, l_199, l_200, l_999, l_1000, q_tn, q_add, q_mul, q_sub, q_le, q_lt, q_eq, q_31, n_and, n_or, n_xor, q_shl, q_z, q_b0, q_b1, q_bz, q_em, q_me, q_mm, q_lm, q_ml, q_mle, q_lem, s2_eq, s2_ne, pk_us, pk_un, uN_s, uN_n, if_pos, if_neg, ite_true, ite_false, if_true, if_false, not_true, not_false_iff, Nat.add_zero, Nat.zero_add, inR_t, isIx_t, bI_t, bI_f, neg1, q_clr, pM_blacksBehind h w hB, pM_gives h w hv]
        exact ih
    · have : i = 100 := by omega
      subst this
      simp (disch := omega) only [nm_s, bd_s, bd2_s, bd3_s, bd4_s, q_gt, q_inB, ↓q_m1, l_166, l_172, l_180, l_188, l_189, l_190, l_191, l_192, l_14, l_17, l_18, l_0, l_1, l_2, l_3, l_4, l_5, l_6, l_7, l_8, l_9, l_10, l_11, l_12, l_20, l_21, l_30, l_31, l_32, l_40, l_48, l_50, l_51, l_57, l_60, l_70, l_71, l_99, l_100, l_101, l_160, l_199, l_200, l_999, l_1000, q_tn, q_add, q_mul, q_sub, q_le, q_lt, q_eq, q_31, n_and, n_or, n_xor, q_shl, q_z, q_b0, q_b1, q_bz, q_em, q_me, q_mm, q_lm, q_ml, q_mle, q_lem, s2_eq, s2_ne, pk_us, pk_un, uN_s, uN_n, if_pos, if_neg, ite_true, ite_false, if_true, if_false, not_true, not_false_iff, Nat.add_zero, Nat.zero_add, inR_t, isIx_t, bI_t, bI_f, neg1, q_clr]
      rfl
theorem pM_poorest_L6 (h : RepM g s) (w : WfN B g) (hB : B ≤ 19000000) : ∀ (n i : Nat), i ≤ aV g → aV g - i < n → f_X7_poorest_L6 n (selG (sel (fun _ => true) (maxL (empN g)) i)) (selV (empN g) mI (sel (fun _ => true) (maxL (empN g)) i)) (nI i) s = some (selG (sel (fun _ => true) (maxL (empN g)) (aV g)), s)
  | 0, i, _, h2 => by omega
  | n + 1, i, h1, h2 => by
    have hV := w.1.2.2.1
    rw [f_X7_poorest_L6.eq_2]
    by_cases hi : i < aV g
    · have ih := pM_poorest_L6 h w hB n (i + 1) (by omega) (by omega)
      have hy : ∀ K, f_X7_poorest_L20 (nI i) K FU (nI 0) (nI 0) s = K (nI (empN g i)) s := fun K => pM_poorest_L20 h w hB hi K 2000 0 (by omega) (by omega)
      have he := empN_le g i
      cases hx : sel (fun _ => true) (maxL (empN g)) i with
      | none =>
        rw [sel_0 rfl hx] at ih
        simp only [selG, selV] at ih ⊢
        simp (disch := omega) only [nm_s, bd_s, bd2_s, bd3_s, bd4_s, q_gt, q_inB, ↓q_m1, l_166, l_172, l_180, l_188, l_189, l_190, l_191, l_192, l_14, l_17, l_18, l_0, l_1, l_2, l_3, l_4, l_5, l_6, l_7, l_8, l_9, l_10, l_11, l_12, l_20, l_21, l_30, l_31, l_32, l_40, l_48, l_50, l_51, l_57, l_60, l_70, l_71, l_99, l_100, l_101, l_160, l_199, l_200, l_999, l_1000, q_tn, q_add, q_mul, q_sub, q_le, q_lt, q_eq, q_31, n_and, n_or, n_xor, q_shl, q_z, q_b0, q_b1, q_bz, q_em, q_me, q_mm, q_lm, q_ml, q_mle, q_lem, s2_eq, s2_ne, pk_us, pk_un, uN_s, uN_n, if_pos, if_neg, ite_true, ite_false, if_true, if_false, not_true, not_false_iff, Nat.add_zero, Nat.zero_add, inR_t, isIx_t, bI_t, bI_f, neg1, q_clr, h.cv, hy]
        exact ih
      | some q =>
        have hq := (sel_lt hx).1
        have he2 := empN_le g q
        by_cases hc : empN g q < empN g i
        · rw [sel_y rfl hx (decide_eq_true hc)] at ih
          simp only [selG, selV] at ih ⊢
          simp (disch := omega) only [nm_s, bd_s, bd2_s, bd3_s, bd4_s, q_gt, q_inB, ↓q_m1, l_166, l_172, l_180, l_188, l_189, l_190, l_191, l_192, l_14, l_17, l_18, l_0, l_1, l_2, l_3, l_4, l_5, l_6, l_7, l_8, l_9, l_10, l_11, l_12, l_20, l_21, l_30, l_31, l_32, l_40, l_48, l_50, l_51, l_57, l_60, l_70, l_71, l_99, l_100, l_101, l_160, l_199, l_200, l_999, l_1000, q_tn, q_add, q_mul, q_sub, q_le, q_lt, q_eq, q_31, n_and, n_or, n_xor, q_shl, q_z, q_b0, q_b1, q_bz, q_em, q_me, q_mm, q_lm, q_ml, q_mle, q_lem, s2_eq, s2_ne, pk_us, pk_un, uN_s, uN_n, if_pos, if_neg, ite_true, ite_false, if_true, if_false, not_true, not_false_iff, Nat.add_zero, Nat.zero_add, inR_t, isIx_t, bI_t, bI_f, neg1, q_clr, h.cv, hy]
          exact ih
        · rw [sel_n hx (decide_eq_false hc)] at ih
          simp only [selG, selV] at ih ⊢
          simp (disch := omega) only [nm_s, bd_s, bd2_s, bd3_s, bd4_s, q_gt, q_inB, ↓q_m1, l_166, l_172, l_180, l_188, l_189, l_190, l_191, l_192, l_14, l_17, l_18, l_0, l_1, l_2, l_3, l_4, l_5, l_6, l_7, l_8, l_9, l_10, l_11, l_12, l_20, l_21, l_30, l_31, l_32, l_40, l_48, l_50, l_51, l_57, l_60, l_70, l_71, l_99, l_100, l_101, l_160, l_199, l_200, l_999, l_1000, q_tn, q_add, q_mul, q_sub, q_le, q_lt, q_eq, q_31, n_and, n_or, n_xor, q_shl, q_z, q_b0, q_b1, q_bz, q_em, q_me, q_mm, q_lm, q_ml, q_mle, q_lem, s2_eq, s2_ne, pk_us, pk_un, uN_s, uN_n, if_pos, if_neg, ite_true, ite_false, if_true, if_false, not_true, not_false_iff, Nat.add_zero, Nat.zero_add, inR_t, isIx_t, bI_t, bI_f, neg1, q_clr, h.cv, hy]
          exact ih
    · have : i = aV g := by omega
      subst this
      simp (disch := omega) only [nm_s, bd_s, bd2_s, bd3_s, bd4_s, q_gt, q_inB, ↓q_m1, l_166, l_172, l_180, l_188, l_189, l_190, l_191, l_192, l_14, l_17, l_18, l_0, l_1, l_2, l_3, l_4, l_5, l_6, l_7, l_8, l_9, l_10, l_11, l_12, l_20, l_21, l_30, l_31, l_32, l_40, l_48, l_50, l_51, l_57, l_60, l_70, l_71, l_99, l_100, l_101, l_160, l_199, l_200, l_999, l_1000, q_tn, q_add, q_mul, q_sub, q_le, q_lt, q_eq, q_31, n_and, n_or, n_xor, q_shl, q_z, q_b0, q_b1, q_bz, q_em, q_me, q_mm, q_lm, q_ml, q_mle, q_lem, s2_eq, s2_ne, pk_us, pk_un, uN_s, uN_n, if_pos, if_neg, ite_true, ite_false, if_true, if_false, not_true, not_false_iff, Nat.add_zero, Nat.zero_add, inR_t, isIx_t, bI_t, bI_f, neg1, q_clr, h.cv]
def uA (g : AG) (p k : Nat) : AG := a2 g 12 (fun v => if v < k then clr (g 12 v) (2 ^ p) else g 12 v)
theorem uA_wf (w : WfN B g) (p k : Nat) : WfN B (uA g p k) := by
  refine ⟨w.1, w.2.1, w.2.2.1, w.2.2.2.1, fun i hi => ?_, w.2.2.2.2.2⟩
  have h2 := w.2.2.2.2.1 i hi
  refine ⟨h2.1, ?_⟩
  show (if i < k then clr (g 12 i) (2 ^ p) else g 12 i) < 2 ^ aP g
  split
  · exact Nat.lt_of_le_of_lt (clr_lt h2.2) h2.2
  · exact h2.2
theorem clr_and (u b m : Nat) : clr u m &&& b = u &&& clr b m := by
  apply Nat.eq_of_testBit_eq
  intro i
  rw [Nat.testBit_and, Nat.testBit_and, clr_bit, clr_bit]
  cases u.testBit i <;> cases b.testBit i <;> cases m.testBit i <;> rfl
theorem uA_yield (p : Nat) : yieldA (uA g p (aV g)) (aY g) 100 = yieldW g 100 (2 ^ p) := by
  unfold yieldA yieldW
  refine sumF_congr fun y _ => ?_
  have hb : black (uA g p (aV g)) (aY g + y) = black g (aY g + y) := black_cg rfl rfl rfl rfl rfl
  rw [hb]
  refine sumF_congr fun v hv => ?_
  have hv2 : v < aV g := hv
  show (if (if v < aV g then clr (g 12 v) (2 ^ p) else g 12 v) &&& black g (aY g + y) = 0 then g 11 v else 0) = if g 12 v &&& clr (black g (aY g + y)) (2 ^ p) = 0 then g 11 v else 0
  rw [if_pos hv2, clr_and]
theorem pM_saved_L25 (w : WfN B g) {p : Nat} (hp : p < aP g) (s : GS) (K : GS → Option (Int32 × GS)) : ∀ (n k : Nat) (f : Nat → Int32), k ≤ aV g → aV g - k < n → RepM (uA g p k) (s2 s 17 f) → ∃ f', f_X7_saved_L25 (nI p) K n (nI k) (s2 s 17 f) = K (s2 s 17 f') ∧ RepM (uA g p (aV g)) (s2 s 17 f')
  | 0, k, f, _, h2, _ => by omega
  | n + 1, k, f, h1, h2, h3 => by
    have hV := w.1.2.2.1
    have hP := w.1.1
    have h0 : s2 s 17 f 0 14 = nI (aV g) := h3.cv
    rw [f_X7_saved_L25.eq_2]
    by_cases hk : k < aV g
    · have h7 : f k = nI (g 12 k) := by
        have := h3.c17 hk
        rw [s2_eq] at this
        rw [this]
        show nI (if k < k then clr (g 12 k) (2 ^ p) else g 12 k) = _
        rw [if_neg (by omega)]
      simp (disch := omega) only [nm_s, bd_s, bd2_s, bd3_s, bd4_s, q_gt, q_inB, ↓q_m1, l_166, l_172, l_180, l_188, l_189, l_190, l_191, l_192, l_14, l_17, l_18, l_0, l_1, l_2, l_3, l_4, l_5, l_6, l_7, l_8, l_9, l_10, l_11, l_12, l_20, l_21, l_30, l_31, l_32, l_40, l_48, l_50, l_51, l_57, l_60, l_70, l_71, l_99, l_100, l_101, l_160, l_199, l_200, l_999, l_1000, q_tn, q_add, q_mul, q_sub, q_le, q_lt, q_eq, q_31, n_and, n_or, n_xor, q_shl, q_z, q_b0, q_b1, q_bz, q_em, q_me, q_mm, q_lm, q_ml, q_mle, q_lem, s2_eq, s2_ne, pk_us, pk_un, uN_s, uN_n, if_pos, if_neg, ite_true, ite_false, if_true, if_false, not_true, not_false_iff, Nat.add_zero, Nat.zero_add, inR_t, isIx_t, bI_t, bI_f, neg1, q_clr, h0, h7, s2_s2]
      refine pM_saved_L25 w hp s K n (k + 1) _ (by omega) (by omega) ⟨h3.1, h3.2.1, h3.2.2.1, h3.2.2.2.1, fun i hi => ⟨h3.c16 hi, ?_⟩⟩
      show upd f k (nI (clr (g 12 k) (2 ^ p))) i = nI (if i < k + 1 then clr (g 12 i) (2 ^ p) else g 12 i)
      by_cases hx : i = k
      · rw [hx, pk_us, if_pos (by omega)]
      · have h8 := h3.c17 hi
        rw [s2_eq] at h8
        rw [pk_un hx, h8]
        show nI (if i < k then clr (g 12 i) (2 ^ p) else g 12 i) = _
        by_cases hik : i < k
        · rw [if_pos hik, if_pos (by omega)]
        · rw [if_neg hik, if_neg (by omega)]
    · have : k = aV g := by omega
      subst this
      simp (disch := omega) only [nm_s, bd_s, bd2_s, bd3_s, bd4_s, q_gt, q_inB, ↓q_m1, l_166, l_172, l_180, l_188, l_189, l_190, l_191, l_192, l_14, l_17, l_18, l_0, l_1, l_2, l_3, l_4, l_5, l_6, l_7, l_8, l_9, l_10, l_11, l_12, l_20, l_21, l_30, l_31, l_32, l_40, l_48, l_50, l_51, l_57, l_60, l_70, l_71, l_99, l_100, l_101, l_160, l_199, l_200, l_999, l_1000, q_tn, q_add, q_mul, q_sub, q_le, q_lt, q_eq, q_31, n_and, n_or, n_xor, q_shl, q_z, q_b0, q_b1, q_bz, q_em, q_me, q_mm, q_lm, q_ml, q_mle, q_lem, s2_eq, s2_ne, pk_us, pk_un, uN_s, uN_n, if_pos, if_neg, ite_true, ite_false, if_true, if_false, not_true, not_false_iff, Nat.add_zero, Nat.zero_add, inR_t, isIx_t, bI_t, bI_f, neg1, q_clr, h0]
      exact ⟨f, rfl, h3⟩
theorem pM_saved_L6 (w : Wf B g) (hB : B ≤ 19000000) : ∀ (n i : Nat) (s : GS), RepM g s → i ≤ aP g → aP g - i < n → ∃ u, f_X7_saved_L6 n (selG (sel (fun _ => true) (maxL (fun p => yieldW g 100 (2 ^ p))) i)) (selV (fun p => yieldW g 100 (2 ^ p)) mI (sel (fun _ => true) (maxL (fun p => yieldW g 100 (2 ^ p))) i)) (nI i) s = some (selG (sel (fun _ => true) (maxL (fun p => yieldW g 100 (2 ^ p))) (aP g)), u) ∧ RepM g u ∧ SmK s u ∧ u 0 18 = s 0 18
  | 0, i, s, _, _, h2 => by omega
  | n + 1, i, s, h, h1, h2 => by
    have hP := w.1.1.1
    rw [f_X7_saved_L6.eq_2]
    by_cases hi : i < aP g
    · obtain ⟨f, d1, d2, d3⟩ := tryM (K := 27) (Or.inl rfl) h w.1
      have hu0 : RepM (uA g i 0) (s2 (s2 s 27 f) 17 ((s2 s 27 f) 17)) := by
        rw [s2_id]
        refine ⟨d2.1, d2.2.1, d2.2.2.1, d2.2.2.2.1, fun v hv => ⟨d2.c16 hv, ?_⟩⟩
        rw [d2.c17 hv]
        show nI (g 12 v) = nI (if v < 0 then clr (g 12 v) (2 ^ i) else g 12 v)
        rw [if_neg (by omega)]
      have he := yieldW_le (m := 2 ^ i) w.1 (show 100 ≤ 200 by omega)
      have step : ∀ K, ∃ f', f_X7_saved_L25 (nI i) K FU (nI 0) (s2 s 27 f) = K (s2 (s2 s 27 f) 17 f') ∧ RepM (uA g i (aV g)) (s2 (s2 s 27 f) 17 f') := fun K => by
        have := pM_saved_L25 w.1 hi (s2 s 27 f) K 2000 0 ((s2 s 27 f) 17) (by omega) (by have := w.1.1.2.2.1; omega) hu0
        rw [s2_id] at this
        exact this
      have back : ∀ f', RepM (uA g i (aV g)) (s2 (s2 s 27 f) 17 f') → ∃ u, f_X7_yieldOf (s2 (s2 s 27 f) 17 f') (nI 100) = some (nI (yieldW g 100 (2 ^ i)), s2 (s2 s 27 f) 17 f') ∧ f_X7_again 27 (s2 (s2 s 27 f) 17 f') = some u ∧ RepM g u ∧ SmK s u ∧ u 0 18 = s 0 18 := fun f' hr => by
        have hy := pM_yieldOf hr (uA_wf w.1 i (aV g)) hB (show 100 ≤ 1000 by omega)
        have hy2 : f_X7_yieldOf (s2 (s2 s 27 f) 17 f') (nI 100) = some (nI (yieldA (uA g i (aV g)) (aY g) 100), s2 (s2 s 27 f) 17 f') := hy
        rw [uA_yield] at hy2
        obtain ⟨u, e1, u1, u2, u3, -⟩ := d3 (s2 (s2 s 27 f) 17 f') (by rw [s2_ne (by omega), s2_eq]) (SmK_trans (SmK_s2 (by omega)) (SmK_fr (FrM_s2 rfl (by omega))))
        exact ⟨u, hy2, e1, u1, u2, u3⟩
      have ihu : ∀ u, RepM g u → _ := fun u hu => pM_saved_L6 w hB n (i + 1) u hu (by omega) (by omega)
      rw [h.c0, if_neg (by rw [n_le (by omega) (by omega)]; omega), d1, bd_s]
      obtain ⟨f', e1, e2⟩ := step (fun sm_19 => bd2 (f_X7_yieldOf sm_19 (nI 100)) (fun r_20 sm_21 => bd (f_X7_again 27 sm_21) (fun sm_23 => if (selV (fun p => yieldW g 100 (2 ^ p)) mI (sel (fun _ => true) (maxL (fun p => yieldW g 100 (2 ^ p))) i)) < r_20 then (nmd (nI i + (1 : Int32)) (fun x3_26 => (f_X7_saved_L6 n) (nI i) r_20 x3_26 sm_23)) else (nmd (nI i + (1 : Int32)) (fun x3_27 => (f_X7_saved_L6 n) (selG (sel (fun _ => true) (maxL (fun p => yieldW g 100 (2 ^ p))) i)) (selV (fun p => yieldW g 100 (2 ^ p)) mI (sel (fun _ => true) (maxL (fun p => yieldW g 100 (2 ^ p))) i)) x3_27 sm_23)))))
      obtain ⟨u, y1, y2, u1, u2, u3⟩ := back f' e2
      obtain ⟨z, ih, z1, z2, z3⟩ := ihu u u1
      refine ⟨z, e1.trans ?_, z1, SmK_trans u2 z2, z3.trans u3⟩
      rw [y1, bd2_s, y2, bd_s]
      cases hx : sel (fun _ => true) (maxL (fun p => yieldW g 100 (2 ^ p))) i with
      | none =>
        rw [sel_0 rfl hx] at ih
        simp only [selG, selV] at ih ⊢
        simp (disch := omega) only [nm_s, bd_s, bd2_s, bd3_s, bd4_s, q_gt, q_inB, ↓q_m1, l_166, l_172, l_180, l_188, l_189, l_190, l_191, l_192, l_14, l_17, l_18, l_0, l_1, l_2, l_3, l_4, l_5, l_6, l_7, l_8, l_9, l_10, l_11, l_12, l_20, l_21, l_30, l_31, l_32, l_40, l_48, l_50, l_51, l_57, l_60, l_70, l_71, l_99, l_100, l_101, l_160, l_199, l_200, l_999, l_1000, q_tn, q_add, q_mul, q_sub, q_le, q_lt, q_eq, q_31, n_and, n_or, n_xor, q_shl, q_z, q_b0, q_b1, q_bz, q_em, q_me, q_mm, q_lm, q_ml, q_mle, q_lem, s2_eq, s2_ne, pk_us, pk_un, uN_s, uN_n, if_pos, if_neg, ite_true, ite_false, if_true, if_false, not_true, not_false_iff, Nat.add_zero, Nat.zero_add, inR_t, isIx_t, bI_t, bI_f, neg1, q_clr]
        exact ih
      | some q =>
        have hq := (sel_lt hx).1
        have he2 := yieldW_le (m := 2 ^ q) w.1 (show 100 ≤ 200 by omega)
        by_cases hc : yieldW g 100 (2 ^ q) < yieldW g 100 (2 ^ i)
        · rw [sel_y rfl hx (decide_eq_true hc)] at ih
          simp only [selG, selV] at ih ⊢
          simp (disch := omega) only [nm_s, bd_s, bd2_s, bd3_s, bd4_s, q_gt, q_inB, ↓q_m1, l_166, l_172, l_180, l_188, l_189, l_190, l_191, l_192, l_14, l_17, l_18, l_0, l_1, l_2, l_3, l_4, l_5, l_6, l_7, l_8, l_9, l_10, l_11, l_12, l_20, l_21, l_30, l_31, l_32, l_40, l_48, l_50, l_51, l_57, l_60, l_70, l_71, l_99, l_100, l_101, l_160, l_199, l_200, l_999, l_1000, q_tn, q_add, q_mul, q_sub, q_le, q_lt, q_eq, q_31, n_and, n_or, n_xor, q_shl, q_z, q_b0, q_b1, q_bz, q_em, q_me, q_mm, q_lm, q_ml, q_mle, q_lem, s2_eq, s2_ne, pk_us, pk_un, uN_s, uN_n, if_pos, if_neg, ite_true, ite_false, if_true, if_false, not_true, not_false_iff, Nat.add_zero, Nat.zero_add, inR_t, isIx_t, bI_t, bI_f, neg1, q_clr]
          exact ih
        · rw [sel_n hx (decide_eq_false hc)] at ih
          simp only [selG, selV] at ih ⊢
          simp (disch := omega) only [nm_s, bd_s, bd2_s, bd3_s, bd4_s, q_gt, q_inB, ↓q_m1, l_166, l_172, l_180, l_188, l_189, l_190, l_191, l_192, l_14, l_17, l_18, l_0, l_1, l_2, l_3, l_4, l_5, l_6, l_7, l_8, l_9, l_10, l_11, l_12, l_20, l_21, l_30, l_31, l_32, l_40, l_48, l_50, l_51, l_57, l_60, l_70, l_71, l_99, l_100, l_101, l_160, l_199, l_200, l_999, l_1000, q_tn, q_add, q_mul, q_sub, q_le, q_lt, q_eq, q_31, n_and, n_or, n_xor, q_shl, q_z, q_b0, q_b1, q_bz, q_em, q_me, q_mm, q_lm, q_ml, q_mle, q_lem, s2_eq, s2_ne, pk_us, pk_un, uN_s, uN_n, if_pos, if_neg, ite_true, ite_false, if_true, if_false, not_true, not_false_iff, Nat.add_zero, Nat.zero_add, inR_t, isIx_t, bI_t, bI_f, neg1, q_clr]
          exact ih
    · have : i = aP g := by omega
      subst this
      simp (disch := omega) only [nm_s, bd_s, bd2_s, bd3_s, bd4_s, q_gt, q_inB, ↓q_m1, l_166, l_172, l_180, l_188, l_189, l_190, l_191, l_192, l_14, l_17, l_18, l_0, l_1, l_2, l_3, l_4, l_5, l_6, l_7, l_8, l_9, l_10, l_11, l_12, l_20, l_21, l_30, l_31, l_32, l_40, l_48, l_50, l_51, l_57, l_60, l_70, l_71, l_99, l_100, l_101, l_160, l_199, l_200, l_999, l_1000, q_tn, q_add, q_mul, q_sub, q_le, q_lt, q_eq, q_31, n_and, n_or, n_xor, q_shl, q_z, q_b0, q_b1, q_bz, q_em, q_me, q_mm, q_lm, q_ml, q_mle, q_lem, s2_eq, s2_ne, pk_us, pk_un, uN_s, uN_n, if_pos, if_neg, ite_true, ite_false, if_true, if_false, not_true, not_false_iff, Nat.add_zero, Nat.zero_add, inR_t, isIx_t, bI_t, bI_f, neg1, q_clr, h.c0]
      exact ⟨_, rfl, h, SmK_rfl _, rfl⟩
end LK1
section SG
variable {B : Nat} {so r0 r1 : GS} {rw : Nat → GS} {re : Nat → Nat → Int64} {sv sm : GS} {sq : Nat → Int64}
theorem sim_lacks (I : Inv B so r0 r1 rw re sv sm sq) (hB : B ≤ 19000000) (sk : GS) (x1 : Int32) : SimP (f_X6_lacks so r0 sk x1) (f_X7_lacks sm x1) (fun x y => x.1 = y.1 ∧ Inv B x.2.1 r0 r1 rw re sv y.2 sq) := by
  have I0 := I
  obtain ⟨g, ⟨h, m, w, hd⟩, hf, hs, hc, ht, hi⟩ := I
  have hP := w.1.1.1
  have hV := w.1.1.2.2.1
  unfold f_X6_lacks f_X7_lacks
  rcases in3 x1 0 1 (by omega) (by omega) with ⟨_, q⟩ | ⟨_, _, q⟩ | ⟨v, _, hv, rfl, _⟩
  · simp (disch := omega) only [nm_s, bd_s, bd2_s, bd3_s, bd4_s, q_gt, q_inB, ↓q_m1, l_166, l_172, l_180, l_188, l_189, l_190, l_191, l_192, l_14, l_17, l_18, l_0, l_1, l_2, l_3, l_4, l_5, l_6, l_7, l_8, l_9, l_10, l_11, l_12, l_20, l_21, l_30, l_31, l_32, l_40, l_48, l_50, l_51, l_57, l_60, l_70, l_71, l_99, l_100, l_101, l_160, l_199, l_200, l_999, l_1000, q_tn, q_add, q_mul, q_sub, q_le, q_lt, q_eq, q_31, n_and, n_or, n_xor, q_shl, q_z, q_b0, q_b1, q_bz, q_em, q_me, q_mm, q_lm, q_ml, q_mle, q_lem, s2_eq, s2_ne, pk_us, pk_un, uN_s, uN_n, if_pos, if_neg, ite_true, ite_false, if_true, if_false, not_true, not_false_iff, Nat.add_zero, Nat.zero_add, inR_t, isIx_t, bI_t, bI_f, neg1, q_clr, out_ne q, pM_within, q, f_X6_lacks_J41, f_X6_lacks_J83, f_X7_lacks_J32, r6_, r7_]
    exact sim_i ⟨rfl, Inv_ref I0 (by omega)⟩
  · simp (disch := omega) only [nm_s, bd_s, bd2_s, bd3_s, bd4_s, q_gt, q_inB, ↓q_m1, l_166, l_172, l_180, l_188, l_189, l_190, l_191, l_192, l_14, l_17, l_18, l_0, l_1, l_2, l_3, l_4, l_5, l_6, l_7, l_8, l_9, l_10, l_11, l_12, l_20, l_21, l_30, l_31, l_32, l_40, l_48, l_50, l_51, l_57, l_60, l_70, l_71, l_99, l_100, l_101, l_160, l_199, l_200, l_999, l_1000, q_tn, q_add, q_mul, q_sub, q_le, q_lt, q_eq, q_31, n_and, n_or, n_xor, q_shl, q_z, q_b0, q_b1, q_bz, q_em, q_me, q_mm, q_lm, q_ml, q_mle, q_lem, s2_eq, s2_ne, pk_us, pk_un, uN_s, uN_n, if_pos, if_neg, ite_true, ite_false, if_true, if_false, not_true, not_false_iff, Nat.add_zero, Nat.zero_add, inR_t, isIx_t, bI_t, bI_f, neg1, q_clr, out_ne q, pM_within, q, f_X6_lacks_J41, f_X6_lacks_J83, f_X7_lacks_J32, r6_, r7_]
    exact sim_i ⟨rfl, Inv_ref I0 (by omega)⟩
  · obtain ⟨k, e, hk⟩ := pK_look (sk := sk) h w.1 (n := 100) (by omega)
    rcases (by omega : v = 0 ∨ v = 1) with rfl | rfl
    · by_cases hz : aV g = 0
      · simp (disch := omega) only [nm_s, bd_s, bd2_s, bd3_s, bd4_s, q_gt, q_inB, ↓q_m1, l_166, l_172, l_180, l_188, l_189, l_190, l_191, l_192, l_14, l_17, l_18, l_0, l_1, l_2, l_3, l_4, l_5, l_6, l_7, l_8, l_9, l_10, l_11, l_12, l_20, l_21, l_30, l_31, l_32, l_40, l_48, l_50, l_51, l_57, l_60, l_70, l_71, l_99, l_100, l_101, l_160, l_199, l_200, l_999, l_1000, q_tn, q_add, q_mul, q_sub, q_le, q_lt, q_eq, q_31, n_and, n_or, n_xor, q_shl, q_z, q_b0, q_b1, q_bz, q_em, q_me, q_mm, q_lm, q_ml, q_mle, q_lem, s2_eq, s2_ne, pk_us, pk_un, uN_s, uN_n, if_pos, if_neg, ite_true, ite_false, if_true, if_false, not_true, not_false_iff, Nat.add_zero, Nat.zero_add, inR_t, isIx_t, bI_t, bI_f, neg1, q_clr, pM_within, h.cv, m.cv, f_X6_lacks_J41, f_X6_lacks_J83, f_X7_lacks_J32, r6_, r7_]
        exact sim_i ⟨rfl, Inv_ref I0 (by omega)⟩
      · have e6 : f_X0_poorestValley k r0 (nI 100) = some (selI (sel (fun _ => true) (maxL (empN g)) (aV g))) := pK_poorest_L8 h w.1 hk 2000 0 (by omega) (by omega)
        have e7 : f_X7_poorest sm = some (selG (sel (fun _ => true) (maxL (empN g)) (aV g)), sm) := pM_poorest_L6 m w.1 hB 2000 0 (by omega) (by omega)
        obtain ⟨q, hq⟩ : ∃ q, sel (fun _ => true) (maxL (empN g)) (aV g) = some q := by
          rw [show aV g = (aV g - 1) + 1 by omega]; exact sel_some _
        rw [selG_I hq] at e7
        simp (disch := omega) only [nm_s, bd_s, bd2_s, bd3_s, bd4_s, q_gt, q_inB, ↓q_m1, l_166, l_172, l_180, l_188, l_189, l_190, l_191, l_192, l_14, l_17, l_18, l_0, l_1, l_2, l_3, l_4, l_5, l_6, l_7, l_8, l_9, l_10, l_11, l_12, l_20, l_21, l_30, l_31, l_32, l_40, l_48, l_50, l_51, l_57, l_60, l_70, l_71, l_99, l_100, l_101, l_160, l_199, l_200, l_999, l_1000, q_tn, q_add, q_mul, q_sub, q_le, q_lt, q_eq, q_31, n_and, n_or, n_xor, q_shl, q_z, q_b0, q_b1, q_bz, q_em, q_me, q_mm, q_lm, q_ml, q_mle, q_lem, s2_eq, s2_ne, pk_us, pk_un, uN_s, uN_n, if_pos, if_neg, ite_true, ite_false, if_true, if_false, not_true, not_false_iff, Nat.add_zero, Nat.zero_add, inR_t, isIx_t, bI_t, bI_f, neg1, q_clr, pM_within, h.cv, m.cv, e, e6, f_X7_lacks_J20, f_X7_lacks_J39, e7]
        exact sim_i ⟨rfl, I0⟩
    · by_cases hz : aP g = 0
      · simp (disch := omega) only [nm_s, bd_s, bd2_s, bd3_s, bd4_s, q_gt, q_inB, ↓q_m1, l_166, l_172, l_180, l_188, l_189, l_190, l_191, l_192, l_14, l_17, l_18, l_0, l_1, l_2, l_3, l_4, l_5, l_6, l_7, l_8, l_9, l_10, l_11, l_12, l_20, l_21, l_30, l_31, l_32, l_40, l_48, l_50, l_51, l_57, l_60, l_70, l_71, l_99, l_100, l_101, l_160, l_199, l_200, l_999, l_1000, q_tn, q_add, q_mul, q_sub, q_le, q_lt, q_eq, q_31, n_and, n_or, n_xor, q_shl, q_z, q_b0, q_b1, q_bz, q_em, q_me, q_mm, q_lm, q_ml, q_mle, q_lem, s2_eq, s2_ne, pk_us, pk_un, uN_s, uN_n, if_pos, if_neg, ite_true, ite_false, if_true, if_false, not_true, not_false_iff, Nat.add_zero, Nat.zero_add, inR_t, isIx_t, bI_t, bI_f, neg1, q_clr, pM_within, h.c0, m.c0, f_X6_lacks_J41, f_X6_lacks_J83, f_X7_lacks_J20, f_X7_lacks_J32, r6_, r7_]
        exact sim_i ⟨rfl, Inv_ref I0 (by omega)⟩
      · have e6 : f_X0_savingPeak k r0 (nI 100) = some (selI (sel (fun _ => true) (maxL (fun p => yieldW g 100 (2 ^ p))) (aP g))) := pK_saving_L8 h w.1 hk 2000 0 (by omega) (by omega)
        obtain ⟨u, e7, u1, u2, u3⟩ := pM_saved_L6 w hB 2000 0 sm m (by omega) (by omega)
        have e7' : f_X7_saved sm = some (selG (sel (fun _ => true) (maxL (fun p => yieldW g 100 (2 ^ p))) (aP g)), u) := e7
        obtain ⟨q, hq⟩ : ∃ q, sel (fun _ => true) (maxL (fun p => yieldW g 100 (2 ^ p))) (aP g) = some q := by
          rw [show aP g = (aP g - 1) + 1 by omega]; exact sel_some _
        rw [selG_I hq] at e7'
        simp (disch := omega) only [nm_s, bd_s, bd2_s, bd3_s, bd4_s, q_gt, q_inB, ↓q_m1, l_166, l_172, l_180, l_188, l_189, l_190, l_191, l_192, l_14, l_17, l_18, l_0, l_1, l_2, l_3, l_4, l_5, l_6, l_7, l_8, l_9, l_10, l_11, l_12, l_20, l_21, l_30, l_31, l_32, l_40, l_48, l_50, l_51, l_57, l_60, l_70, l_71, l_99, l_100, l_101, l_160, l_199, l_200, l_999, l_1000, q_tn, q_add, q_mul, q_sub, q_le, q_lt, q_eq, q_31, n_and, n_or, n_xor, q_shl, q_z, q_b0, q_b1, q_bz, q_em, q_me, q_mm, q_lm, q_ml, q_mle, q_lem, s2_eq, s2_ne, pk_us, pk_un, uN_s, uN_n, if_pos, if_neg, ite_true, ite_false, if_true, if_false, not_true, not_false_iff, Nat.add_zero, Nat.zero_add, inR_t, isIx_t, bI_t, bI_f, neg1, q_clr, pM_within, h.c0, m.c0, e, e6, f_X6_lacks_J41, f_X7_lacks_J20, f_X7_lacks_J39, e7']
        exact sim_i ⟨rfl, Inv_scr I0 h w hs u1 u2 (hd.trans u3.symm)⟩
end SG
-- chain
def knA (g : AG) (p : Nat) : Nat → Nat
  | 0 => 2 ^ p
  | n + 1 => knA g p n ||| watchM g (knA g p n)
theorem fstI_all {P : Nat → Bool} : ∀ k i, (∀ j, i ≤ j → j < i + k → P j = true) → fstI P k i = mI
  | 0, i, _ => rfl
  | k + 1, i, h => by
    rw [fstI_y (h i (by omega) (by omega))]
    exact fstI_all k (i + 1) fun j h1 h2 => h j (by omega) (by omega)
theorem fstI_tail {P : Nat → Bool} (b : Nat) : ∀ a i, ((∀ t, i ≤ t → t < i + a → P t = true) → ∀ j, i + a ≤ j → j < i + a + b → P j = true) → fstI P (a + b) i = fstI P a i
  | 0, i, h => by
    rw [Nat.zero_add]
    exact (fstI_all b i fun j h1 h2 => h (fun t h3 h4 => by omega) j (by omega) (by omega))
  | a + 1, i, h => by
    rw [show a + 1 + b = (a + b) + 1 by omega]
    cases hp : P i with
    | false => rw [fstI_n hp, fstI_n hp]
    | true =>
      rw [fstI_y hp, fstI_y hp]
      refine fstI_tail b a (i + 1) fun ha j h1 h2 => h (fun t h3 h4 => ?_) j (by omega) (by omega)
      by_cases hti : t = i
      · rw [hti]; exact hp
      · exact ha t (by omega) (by omega)
section CH
variable {B : Nat} {g : AG} {r s : GS}
theorem knA_lt {p : Nat} (hp : p < aP g) : ∀ n, knA g p n < 2 ^ aP g
  | 0 => two_lt hp
  | n + 1 => or_lt (knA_lt hp n) (watch_lt _)
theorem knA_grow {p : Nat} (hp : p < aP g) : ∀ n, knA g p (n + 1) = knA g p n ∨ n + 2 ≤ cntF (knA g p (n + 1)).testBit (aP g)
  | 0 => by
    by_cases h : knA g p 1 = knA g p 0
    · exact Or.inl h
    · have h1 := cnt_more (knA_lt hp 0) (knA_lt hp 1) (subM_or _ _) h
      have h2 := cnt_pos (knA_lt hp 0) (by have := two_pos p; show ¬ 2 ^ p = 0; omega)
      exact Or.inr (by show 2 ≤ cntF (knA g p 1).testBit (aP g); omega)
  | n + 1 => by
    by_cases h : knA g p (n + 2) = knA g p (n + 1)
    · exact Or.inl h
    · rcases knA_grow hp n with h2 | h2
      · exfalso
        apply h
        show knA g p (n + 1) ||| watchM g (knA g p (n + 1)) = _
        rw [h2]
        exact h2
      · have h1 := cnt_more (knA_lt hp (n + 1)) (knA_lt hp (n + 2)) (subM_or _ _) h
        exact Or.inr (by show n + 1 + 2 ≤ cntF (knA g p (n + 2)).testBit (aP g); omega)
theorem knA_stay {p n : Nat} (h : knA g p (n + 1) = knA g p n) : ∀ d, knA g p (n + d) = knA g p n
  | 0 => rfl
  | d + 1 => by
    have ih := knA_stay h d
    show knA g p (n + d) ||| watchM g (knA g p (n + d)) = _
    rw [ih]
    exact h
theorem chain_tail {p o : Nat} (hp : p < aP g) (hP : aP g ≤ 10) : fstI (fun i => !(knA g p (i + 1)).testBit o) 10 0 = fstI (fun i => !(knA g p (i + 1)).testBit o) (aP g) 0 := by
  have h := fstI_tail (P := fun i => !(knA g p (i + 1)).testBit o) (10 - aP g) (aP g) 0 (fun ha j h1 h2 => by
    have h3 : knA g p (aP g) = knA g p (aP g - 1) := by
      have h4 := knA_grow (g := g) hp (aP g - 1)
      rw [show aP g - 1 + 1 = aP g by omega, show aP g - 1 + 2 = aP g + 1 by omega] at h4
      rcases h4 with h4 | h4
      · exact h4
      · have := cntF_le (knA g p (aP g)).testBit (aP g)
        omega
    have h5 : knA g p (aP g - 1 + 1) = knA g p (aP g - 1) := by rw [show aP g - 1 + 1 = aP g by omega]; exact h3
    have h6 := knA_stay h5 (j + 1 - (aP g - 1))
    rw [show aP g - 1 + (j + 1 - (aP g - 1)) = j + 1 by omega] at h6
    have h7 := ha (aP g - 1) (by omega) (by omega)
    rw [h6, ← h5]
    exact h7)
  rw [show aP g + (10 - aP g) = 10 by omega] at h
  exact h
theorem pR_chain_L75 (h : RepR g r) (w : WfN B g) {p o : Nat} (hp : p < aP g) (ho : o < aP g) (so : GS) : ∀ (n i : Nat), i ≤ aP g → aP g - i < n → f_X6_chain_L75 r (nI o) so n (nI (knA g p i)) (nI i) = some (fstI (fun i => !(knA g p (i + 1)).testBit o) (aP g - i) i, so)
  | 0, i, _, h2 => by omega
  | n + 1, i, h1, h2 => by
    have hP := w.1.1
    rw [f_X6_chain_L75.eq_2]
    by_cases hi : i < aP g
    · have ih := pR_chain_L75 h w hp ho so n (i + 1) (by omega) (by omega)
      have hl := lt31 (knA_lt (g := g) hp (i + 1)) (by omega)
      have hb := p_bit (w := knA g p (i + 1)) (i := o) (by omega) (by omega)
      have hb2 : f_X6_bit (nI (knA g p i ||| watchM g (knA g p i))) (nI o) = some (bI ((knA g p (i + 1)).testBit o)) := hb
      rw [show aP g - i = (aP g - (i + 1)) + 1 by omega]
      cases ht : (knA g p (i + 1)).testBit o with
      | true =>
        rw [ht] at hb2
        rw [fstI_n (by rw [ht]; rfl)]
        simp (disch := omega) only [nm_s, bd_s, bd2_s, bd3_s, bd4_s, q_gt, q_inB, ↓q_m1, l_166, l_172, l_180, l_188, l_189, l_190, l_191, l_192, l_14, l_17, l_18, l_0, l_1, l_2, l_3, l_4, l_5, l_6, l_7, l_8, l_9, l_10, l_11, l_12, l_20, l_21, l_30, l_31, l_32, l_40, l_48, l_50, l_51, l_57, l_60, l_70, l_71, l_99, l_100, l_101, l_160, l_199, l_200, l_999, l_1000, q_tn, q_add, q_mul, q_sub, q_le, q_lt, q_eq, q_31, n_and, n_or, n_xor, q_shl, q_z, q_b0, q_b1, q_bz, q_em, q_me, q_mm, q_lm, q_ml, q_mle, q_lem, s2_eq, s2_ne, pk_us, pk_un, uN_s, uN_n, if_pos, if_neg, ite_true, ite_false, if_true, if_false, not_true, not_false_iff, Nat.add_zero, Nat.zero_add, inR_t, isIx_t, bI_t, bI_f, neg1, q_clr, h.c0, pR_watchersOf h w, hb2]
      | false =>
        rw [ht] at hb2
        rw [fstI_y (by rw [ht]; rfl)]
        simp (disch := omega) only [nm_s, bd_s, bd2_s, bd3_s, bd4_s, q_gt, q_inB, ↓q_m1, l_166, l_172, l_180, l_188, l_189, l_190, l_191, l_192, l_14, l_17, l_18, l_0, l_1, l_2, l_3, l_4, l_5, l_6, l_7, l_8, l_9, l_10, l_11, l_12, l_20, l_21, l_30, l_31, l_32, l_40, l_48, l_50, l_51, l_57, l_60, l_70, l_71, l_99, l_100, l_101, l_160, l_199, l_200, l_999, l_1000, q_tn, q_add, q_mul, q_sub, q_le, q_lt, q_eq, q_31, n_and, n_or, n_xor, q_shl, q_z, q_b0, q_b1, q_bz, q_em, q_me, q_mm, q_lm, q_ml, q_mle, q_lem, s2_eq, s2_ne, pk_us, pk_un, uN_s, uN_n, if_pos, if_neg, ite_true, ite_false, if_true, if_false, not_true, not_false_iff, Nat.add_zero, Nat.zero_add, inR_t, isIx_t, bI_t, bI_f, neg1, q_clr, h.c0, pR_watchersOf h w, hb2]
        exact ih
    · have : i = aP g := by omega
      subst this
      simp (disch := omega) only [nm_s, bd_s, bd2_s, bd3_s, bd4_s, q_gt, q_inB, ↓q_m1, l_166, l_172, l_180, l_188, l_189, l_190, l_191, l_192, l_14, l_17, l_18, l_0, l_1, l_2, l_3, l_4, l_5, l_6, l_7, l_8, l_9, l_10, l_11, l_12, l_20, l_21, l_30, l_31, l_32, l_40, l_48, l_50, l_51, l_57, l_60, l_70, l_71, l_99, l_100, l_101, l_160, l_199, l_200, l_999, l_1000, q_tn, q_add, q_mul, q_sub, q_le, q_lt, q_eq, q_31, n_and, n_or, n_xor, q_shl, q_z, q_b0, q_b1, q_bz, q_em, q_me, q_mm, q_lm, q_ml, q_mle, q_lem, s2_eq, s2_ne, pk_us, pk_un, uN_s, uN_n, if_pos, if_neg, ite_true, ite_false, if_true, if_false, not_true, not_false_iff, Nat.add_zero, Nat.zero_add, inR_t, isIx_t, bI_t, bI_f, neg1, q_clr, h.c0]
      rw [Nat.sub_self]
      rfl
theorem pM_chain_L70 (h : RepM g s) (w : WfN B g) {m : Nat} (hm : m < 2147483648) (K : Int32 → Option (Int32 × GS)) : ∀ (n i : Nat), i ≤ aP g → aP g - i < n → f_X7_chain_L70 (nI m) s K n (nI (m ||| msk (fun q => !decide (g 7 q &&& m = 0)) i)) (nI i) = K (nI (m ||| watchM g m))
  | 0, i, _, h2 => by omega
  | n + 1, i, h1, h2 => by
    have hP := w.1.1
    rw [f_X7_chain_L70.eq_2]
    by_cases hi : i < aP g
    · have ih := pM_chain_L70 h w hm K n (i + 1) (by omega) (by omega)
      have hse := pM_seesAny h w (i := i) hi hm
      by_cases hz : g 7 i &&& m = 0
      · rw [decide_eq_true hz] at hse
        rw [← msk_n (by rw [decide_eq_true hz]; rfl)] at ih
        simp (disch := omega) only [nm_s, bd_s, bd2_s, bd3_s, bd4_s, q_gt, q_inB, ↓q_m1, l_166, l_172, l_180, l_188, l_189, l_190, l_191, l_192, l_14, l_17, l_18, l_0, l_1, l_2, l_3, l_4, l_5, l_6, l_7, l_8, l_9, l_10, l_11, l_12, l_20, l_21, l_30, l_31, l_32, l_40, l_48, l_50, l_51, l_57, l_60, l_70, l_71, l_99, l_100, l_101, l_160, l_199, l_200, l_999, l_1000, q_tn, q_add, q_mul, q_sub, q_le, q_lt, q_eq, q_31, n_and, n_or, n_xor, q_shl, q_z, q_b0, q_b1, q_bz, q_em, q_me, q_mm, q_lm, q_ml, q_mle, q_lem, s2_eq, s2_ne, pk_us, pk_un, uN_s, uN_n, if_pos, if_neg, ite_true, ite_false, if_true, if_false, not_true, not_false_iff, Nat.add_zero, Nat.zero_add, inR_t, isIx_t, bI_t, bI_f, neg1, q_clr, h.c0, hse, Bool.not_true]
        exact ih
      · rw [decide_eq_false hz] at hse
        rw [← msk_s (by rw [decide_eq_false hz]; rfl), ← Nat.or_assoc] at ih
        simp (disch := omega) only [nm_s, bd_s, bd2_s, bd3_s, bd4_s, q_gt, q_inB, ↓q_m1, l_166, l_172, l_180, l_188, l_189, l_190, l_191, l_192, l_14, l_17, l_18, l_0, l_1, l_2, l_3, l_4, l_5, l_6, l_7, l_8, l_9, l_10, l_11, l_12, l_20, l_21, l_30, l_31, l_32, l_40, l_48, l_50, l_51, l_57, l_60, l_70, l_71, l_99, l_100, l_101, l_160, l_199, l_200, l_999, l_1000, q_tn, q_add, q_mul, q_sub, q_le, q_lt, q_eq, q_31, n_and, n_or, n_xor, q_shl, q_z, q_b0, q_b1, q_bz, q_em, q_me, q_mm, q_lm, q_ml, q_mle, q_lem, s2_eq, s2_ne, pk_us, pk_un, uN_s, uN_n, if_pos, if_neg, ite_true, ite_false, if_true, if_false, not_true, not_false_iff, Nat.add_zero, Nat.zero_add, inR_t, isIx_t, bI_t, bI_f, neg1, q_clr, h.c0, hse, Bool.not_false]
        exact ih
    · have : i = aP g := by omega
      subst this
      simp (disch := omega) only [nm_s, bd_s, bd2_s, bd3_s, bd4_s, q_gt, q_inB, ↓q_m1, l_166, l_172, l_180, l_188, l_189, l_190, l_191, l_192, l_14, l_17, l_18, l_0, l_1, l_2, l_3, l_4, l_5, l_6, l_7, l_8, l_9, l_10, l_11, l_12, l_20, l_21, l_30, l_31, l_32, l_40, l_48, l_50, l_51, l_57, l_60, l_70, l_71, l_99, l_100, l_101, l_160, l_199, l_200, l_999, l_1000, q_tn, q_add, q_mul, q_sub, q_le, q_lt, q_eq, q_31, n_and, n_or, n_xor, q_shl, q_z, q_b0, q_b1, q_bz, q_em, q_me, q_mm, q_lm, q_ml, q_mle, q_lem, s2_eq, s2_ne, pk_us, pk_un, uN_s, uN_n, if_pos, if_neg, ite_true, ite_false, if_true, if_false, not_true, not_false_iff, Nat.add_zero, Nat.zero_add, inR_t, isIx_t, bI_t, bI_f, neg1, q_clr, h.c0]
      rfl
theorem pM_chain_L57 (h : RepM g s) (w : WfN B g) {p o : Nat} (hp : p < aP g) (ho : o < aP g) : ∀ (n i : Nat), i ≤ 10 → 10 - i < n → f_X7_chain_L57 (nI o) s n (nI (knA g p i)) (nI i) = some (fstI (fun i => !(knA g p (i + 1)).testBit o) (10 - i) i, s)
  | 0, i, _, h2 => by omega
  | n + 1, i, h1, h2 => by
    have hP := w.1.1
    rw [f_X7_chain_L57.eq_2]
    by_cases hi : i < 10
    · have ih := pM_chain_L57 h w hp ho n (i + 1) (by omega) (by omega)
      have hl0 := lt31 (knA_lt (g := g) hp i) (by omega)
      have hl := lt31 (knA_lt (g := g) hp (i + 1)) (by omega)
      have hL : ∀ K, f_X7_chain_L70 (nI (knA g p i)) s K FU (nI (knA g p i)) (nI 0) = K (nI (knA g p (i + 1))) := fun K => by
        have h3 := pM_chain_L70 h w (m := knA g p i) (by omega) K 2000 0 (by omega) (by omega)
        rw [msk, Nat.or_zero] at h3
        exact h3
      have hb := pM_has (w := knA g p (i + 1)) (i := o) (by omega) (by omega)
      rw [show 10 - i = (10 - (i + 1)) + 1 by omega]
      cases ht : (knA g p (i + 1)).testBit o with
      | true =>
        rw [ht] at hb
        rw [fstI_n (by rw [ht]; rfl)]
        simp (disch := omega) only [nm_s, bd_s, bd2_s, bd3_s, bd4_s, q_gt, q_inB, ↓q_m1, l_166, l_172, l_180, l_188, l_189, l_190, l_191, l_192, l_14, l_17, l_18, l_0, l_1, l_2, l_3, l_4, l_5, l_6, l_7, l_8, l_9, l_10, l_11, l_12, l_20, l_21, l_30, l_31, l_32, l_40, l_48, l_50, l_51, l_57, l_60, l_70, l_71, l_99, l_100, l_101, l_160, l_199, l_200, l_999, l_1000, q_tn, q_add, q_mul, q_sub, q_le, q_lt, q_eq, q_31, n_and, n_or, n_xor, q_shl, q_z, q_b0, q_b1, q_bz, q_em, q_me, q_mm, q_lm, q_ml, q_mle, q_lem, s2_eq, s2_ne, pk_us, pk_un, uN_s, uN_n, if_pos, if_neg, ite_true, ite_false, if_true, if_false, not_true, not_false_iff, Nat.add_zero, Nat.zero_add, inR_t, isIx_t, bI_t, bI_f, neg1, q_clr, hL, hb]
      | false =>
        rw [ht] at hb
        rw [fstI_y (by rw [ht]; rfl)]
        simp (disch := omega) only [nm_s, bd_s, bd2_s, bd3_s, bd4_s, q_gt, q_inB, ↓q_m1, l_166, l_172, l_180, l_188, l_189, l_190, l_191, l_192, l_14, l_17, l_18, l_0, l_1, l_2, l_3, l_4, l_5, l_6, l_7, l_8, l_9, l_10, l_11, l_12, l_20, l_21, l_30, l_31, l_32, l_40, l_48, l_50, l_51, l_57, l_60, l_70, l_71, l_99, l_100, l_101, l_160, l_199, l_200, l_999, l_1000, q_tn, q_add, q_mul, q_sub, q_le, q_lt, q_eq, q_31, n_and, n_or, n_xor, q_shl, q_z, q_b0, q_b1, q_bz, q_em, q_me, q_mm, q_lm, q_ml, q_mle, q_lem, s2_eq, s2_ne, pk_us, pk_un, uN_s, uN_n, if_pos, if_neg, ite_true, ite_false, if_true, if_false, not_true, not_false_iff, Nat.add_zero, Nat.zero_add, inR_t, isIx_t, bI_t, bI_f, neg1, q_clr, hL, hb]
        exact ih
    · have : i = 10 := by omega
      subst this
      simp (disch := omega) only [nm_s, bd_s, bd2_s, bd3_s, bd4_s, q_gt, q_inB, ↓q_m1, l_166, l_172, l_180, l_188, l_189, l_190, l_191, l_192, l_14, l_17, l_18, l_0, l_1, l_2, l_3, l_4, l_5, l_6, l_7, l_8, l_9, l_10, l_11, l_12, l_20, l_21, l_30, l_31, l_32, l_40, l_48, l_50, l_51, l_57, l_60, l_70, l_71, l_99, l_100, l_101, l_160, l_199, l_200, l_999, l_1000, q_tn, q_add, q_mul, q_sub, q_le, q_lt, q_eq, q_31, n_and, n_or, n_xor, q_shl, q_z, q_b0, q_b1, q_bz, q_em, q_me, q_mm, q_lm, q_ml, q_mle, q_lem, s2_eq, s2_ne, pk_us, pk_un, uN_s, uN_n, if_pos, if_neg, ite_true, ite_false, if_true, if_false, not_true, not_false_iff, Nat.add_zero, Nat.zero_add, inR_t, isIx_t, bI_t, bI_f, neg1, q_clr]
      rfl
end CH
section SG2
variable {B : Nat} {so r0 r1 : GS} {rw : Nat → GS} {re : Nat → Nat → Int64} {sv sm : GS} {sq : Nat → Int64}
theorem pR_chain_F {g : AG} (h : RepR g r0) (w : WfN B g) {p o : Nat} (hp : p < aP g) (ho : o < aP g) (so : GS) : f_X6_chain_L75 r0 (nI o) so FU (nI (2 ^ p)) (nI 0) = some (fstI (fun i => !(knA g p (i + 1)).testBit o) (aP g) 0, so) := by
  have e := pR_chain_L75 h w hp ho so FU 0 (by omega) (by have := w.1.1; rw [FU_def]; omega)
  rw [Nat.sub_zero] at e
  exact e
theorem pM_chain_F {g : AG} (h : RepM g sm) (w : WfN B g) {p o : Nat} (hp : p < aP g) (ho : o < aP g) : f_X7_chain_L57 (nI o) sm FU (nI (2 ^ p)) (nI 0) = some (fstI (fun i => !(knA g p (i + 1)).testBit o) 10 0, sm) := by
  have e := pM_chain_L57 h w hp ho FU 0 (by omega) (by rw [FU_def]; omega)
  rw [Nat.sub_zero] at e
  exact e
theorem chain_c1 {g : AG} (h : RepR g r0) (w : WfN B g) {p o : Nat} (hp : p < aP g) (ho : o < aP g) (hpo : ¬ p = o) (sp : stB g p = true) (sq : stB g o = true) : f_X6_chain so r0 (nI p) (nI o) = some (fstI (fun i => !(knA g p (i + 1)).testBit o) (aP g) 0, so) := by
  have hP := w.1.1
  have e6 := pR_chain_F h w hp ho so
  unfold f_X6_chain
  rw [pR_isPeak h, bd_s, isIx_t hp (by omega), if_neg (by decide), pR_isPeak h, bd_s, isIx_t ho (by omega), if_neg (by decide), if_neg (by rw [n_eq (by omega) (by omega)]; exact hpo), pR_isStanding h w, bd_s, isSt_n w (by omega), sp, if_neg (by decide), pR_isStanding h w, bd_s, isSt_n w (by omega), sq, if_neg (by decide), n_shl (by omega), nm_s]
  exact e6
theorem chain_c2 {g : AG} (h : RepM g sm) (w : WfN B g) {p o : Nat} (hp : p < aP g) (ho : o < aP g) (hpo : ¬ p = o) (sp : stB g p = true) (sq : stB g o = true) : f_X7_chain sm (nI p) (nI o) = some (fstI (fun i => !(knA g p (i + 1)).testBit o) (aP g) 0, sm) := by
  have hP := w.1.1
  have e7 := pM_chain_F h w hp ho
  rw [chain_tail hp hP] at e7
  unfold f_X7_chain
  rw [pM_isPeak h w, bd_s, isIx_t hp (by omega), if_neg (by decide), pM_isPeak h w, bd_s, isIx_t ho (by omega), if_neg (by decide), if_neg (by rw [n_eq (by omega) (by omega)]; exact hpo), pM_isThere h w, bd_s, isSt_n w (by omega), sp, if_neg (by decide), pM_isThere h w, bd_s, isSt_n w (by omega), sq, if_neg (by decide), n_shl (by omega), nm_s]
  exact e7
theorem chain_6 : f_X6_chain_J22 so = some (mI - nI 10, soR so 1) ∧ f_X6_chain_J58 so = some (-nI 6 - nI 10, soR so 6) := by
  unfold f_X6_chain_J22 f_X6_chain_J58
  refine ⟨?_, ?_⟩
  · simp (disch := omega) only [nm_s, bd_s, bd2_s, bd3_s, bd4_s, q_gt, q_inB, ↓q_m1, l_166, l_172, l_180, l_188, l_189, l_190, l_191, l_192, l_14, l_17, l_18, l_0, l_1, l_2, l_3, l_4, l_5, l_6, l_7, l_8, l_9, l_10, l_11, l_12, l_20, l_21, l_30, l_31, l_32, l_40, l_48, l_50, l_51, l_57, l_60, l_70, l_71, l_99, l_100, l_101, l_160, l_199, l_200, l_999, l_1000, q_tn, q_add, q_mul, q_sub, q_le, q_lt, q_eq, q_31, n_and, n_or, n_xor, q_shl, q_z, q_b0, q_b1, q_bz, q_em, q_me, q_mm, q_lm, q_ml, q_mle, q_lem, s2_eq, s2_ne, pk_us, pk_un, uN_s, uN_n, if_pos, if_neg, ite_true, ite_false, if_true, if_false, not_true, not_false_iff, Nat.add_zero, Nat.zero_add, inR_t, isIx_t, bI_t, bI_f, neg1, q_clr, r6_]
  · simp (disch := omega) only [nm_s, bd_s, bd2_s, bd3_s, bd4_s, q_gt, q_inB, ↓q_m1, l_166, l_172, l_180, l_188, l_189, l_190, l_191, l_192, l_14, l_17, l_18, l_0, l_1, l_2, l_3, l_4, l_5, l_6, l_7, l_8, l_9, l_10, l_11, l_12, l_20, l_21, l_30, l_31, l_32, l_40, l_48, l_50, l_51, l_57, l_60, l_70, l_71, l_99, l_100, l_101, l_160, l_199, l_200, l_999, l_1000, q_tn, q_add, q_mul, q_sub, q_le, q_lt, q_eq, q_31, n_and, n_or, n_xor, q_shl, q_z, q_b0, q_b1, q_bz, q_em, q_me, q_mm, q_lm, q_ml, q_mle, q_lem, s2_eq, s2_ne, pk_us, pk_un, uN_s, uN_n, if_pos, if_neg, ite_true, ite_false, if_true, if_false, not_true, not_false_iff, Nat.add_zero, Nat.zero_add, inR_t, isIx_t, bI_t, bI_f, neg1, q_clr, r6_]
theorem chain_7 : f_X7_chain_J16 sm = some (mI - nI 10, smR sm 1) ∧ f_X7_chain_J43 sm = some (-nI 6 - nI 10, smR sm 6) := by
  unfold f_X7_chain_J16 f_X7_chain_J43
  refine ⟨?_, ?_⟩
  · simp (disch := omega) only [nm_s, bd_s, bd2_s, bd3_s, bd4_s, q_gt, q_inB, ↓q_m1, l_166, l_172, l_180, l_188, l_189, l_190, l_191, l_192, l_14, l_17, l_18, l_0, l_1, l_2, l_3, l_4, l_5, l_6, l_7, l_8, l_9, l_10, l_11, l_12, l_20, l_21, l_30, l_31, l_32, l_40, l_48, l_50, l_51, l_57, l_60, l_70, l_71, l_99, l_100, l_101, l_160, l_199, l_200, l_999, l_1000, q_tn, q_add, q_mul, q_sub, q_le, q_lt, q_eq, q_31, n_and, n_or, n_xor, q_shl, q_z, q_b0, q_b1, q_bz, q_em, q_me, q_mm, q_lm, q_ml, q_mle, q_lem, s2_eq, s2_ne, pk_us, pk_un, uN_s, uN_n, if_pos, if_neg, ite_true, ite_false, if_true, if_false, not_true, not_false_iff, Nat.add_zero, Nat.zero_add, inR_t, isIx_t, bI_t, bI_f, neg1, q_clr, n10_1]
  · simp (disch := omega) only [nm_s, bd_s, bd2_s, bd3_s, bd4_s, q_gt, q_inB, ↓q_m1, l_166, l_172, l_180, l_188, l_189, l_190, l_191, l_192, l_14, l_17, l_18, l_0, l_1, l_2, l_3, l_4, l_5, l_6, l_7, l_8, l_9, l_10, l_11, l_12, l_20, l_21, l_30, l_31, l_32, l_40, l_48, l_50, l_51, l_57, l_60, l_70, l_71, l_99, l_100, l_101, l_160, l_199, l_200, l_999, l_1000, q_tn, q_add, q_mul, q_sub, q_le, q_lt, q_eq, q_31, n_and, n_or, n_xor, q_shl, q_z, q_b0, q_b1, q_bz, q_em, q_me, q_mm, q_lm, q_ml, q_mle, q_lem, s2_eq, s2_ne, pk_us, pk_un, uN_s, uN_n, if_pos, if_neg, ite_true, ite_false, if_true, if_false, not_true, not_false_iff, Nat.add_zero, Nat.zero_add, inR_t, isIx_t, bI_t, bI_f, neg1, q_clr, n10_]
theorem sim_chain (I : Inv B so r0 r1 rw re sv sm sq) (x1 x2 : Int32) : SimP (f_X6_chain so r0 x1 x2) (f_X7_chain sm x1 x2) (fun x y => x.1 = y.1 ∧ Inv B x.2 r0 r1 rw re sv y.2 sq) := by
  have I0 := I
  obtain ⟨g, ⟨h, m, w, hd⟩, hf, hs, hc, ht, hi⟩ := I
  have hP := w.1.1.1
  rcases ixl x1 (aP g) (by omega) with p0 | ⟨p, hp, rfl, p1⟩
  · unfold f_X6_chain f_X7_chain
    rw [pR_isPeak h, pM_isPeak m w.1, p0, bd_s, bd_s, if_pos (show bI false = 0 from rfl), if_pos (show bI false = 0 from rfl), chain_6.1, chain_7.1]
    exact sim_i ⟨rfl, Inv_ref I0 (by omega)⟩
  · rcases ixl x2 (aP g) (by omega) with o0 | ⟨o, ho, rfl, o1⟩
    · unfold f_X6_chain f_X7_chain
      rw [pR_isPeak h, pM_isPeak m w.1, p1, bd_s, bd_s, if_neg (show ¬ bI true = 0 by decide), if_neg (show ¬ bI true = 0 by decide), pR_isPeak h, pM_isPeak m w.1, o0, bd_s, bd_s, if_pos (show bI false = 0 from rfl), if_pos (show bI false = 0 from rfl), chain_6.1, chain_7.1]
      exact sim_i ⟨rfl, Inv_ref I0 (by omega)⟩
    · by_cases hpo : p = o
      · unfold f_X6_chain f_X7_chain
        rw [pR_isPeak h, pM_isPeak m w.1, p1, bd_s, bd_s, if_neg (show ¬ bI true = 0 by decide), if_neg (show ¬ bI true = 0 by decide), pR_isPeak h, pM_isPeak m w.1, o1, bd_s, bd_s, if_neg (show ¬ bI true = 0 by decide), if_neg (show ¬ bI true = 0 by decide), if_pos (by rw [hpo]), if_pos (by rw [hpo]), chain_6.2, chain_7.2]
        exact sim_i ⟨rfl, Inv_ref I0 (by omega)⟩
      · have hne : ¬ nI p = nI o := by rw [n_eq (by omega) (by omega)]; exact hpo
        cases hst : stB g p with
        | false =>
          unfold f_X6_chain f_X7_chain
          rw [pR_isPeak h, pM_isPeak m w.1, p1, bd_s, bd_s, if_neg (show ¬ bI true = 0 by decide), if_neg (show ¬ bI true = 0 by decide), pR_isPeak h, pM_isPeak m w.1, o1, bd_s, bd_s, if_neg (show ¬ bI true = 0 by decide), if_neg (show ¬ bI true = 0 by decide), if_neg hne, if_neg hne, pR_isStanding h w.1, pM_isThere m w.1, bd_s, bd_s, isSt_n w.1 (by omega), hst, if_pos (show bI false = 0 from rfl), if_pos (show bI false = 0 from rfl), chain_6.2, chain_7.2]
          exact sim_i ⟨rfl, Inv_ref I0 (by omega)⟩
        | true =>
          cases hso : stB g o with
          | false =>
            unfold f_X6_chain f_X7_chain
            rw [pR_isPeak h, pM_isPeak m w.1, p1, bd_s, bd_s, if_neg (show ¬ bI true = 0 by decide), if_neg (show ¬ bI true = 0 by decide), pR_isPeak h, pM_isPeak m w.1, o1, bd_s, bd_s, if_neg (show ¬ bI true = 0 by decide), if_neg (show ¬ bI true = 0 by decide), if_neg hne, if_neg hne, pR_isStanding h w.1, pM_isThere m w.1, bd_s, bd_s, isSt_n w.1 (by omega), hst, if_neg (show ¬ bI true = 0 by decide), if_neg (show ¬ bI true = 0 by decide), pR_isStanding h w.1, pM_isThere m w.1, bd_s, bd_s, isSt_n w.1 (by omega), hso, if_pos (show bI false = 0 from rfl), if_pos (show bI false = 0 from rfl), chain_6.2, chain_7.2]
            exact sim_i ⟨rfl, Inv_ref I0 (by omega)⟩
          | true =>
            rw [chain_c1 h w.1 hp ho hpo hst hso, chain_c2 m w.1 hp ho hpo hst hso]
            exact sim_i ⟨rfl, I0⟩
end SG2
-- fires
theorem sel_none {ok : Nat → Bool} {lt : Nat → Nat → Bool} : ∀ {n : Nat}, sel ok lt n = none → ∀ f, f < n → ok f = false
  | 0, _, f, h => by omega
  | n + 1, hs, f, h => by
    cases hx : sel ok lt n with
    | none =>
      by_cases hf : f = n
      · cases ho : ok n with
        | false => rw [hf]; exact ho
        | true => rw [sel_0 ho hx] at hs; cases hs
      · exact sel_none hx f (by omega)
    | some q =>
      cases ho : ok n with
      | false => rw [sel_no ho, hx] at hs; cases hs
      | true =>
        cases hl : lt n q with
        | true => rw [sel_y ho hx hl] at hs; cases hs
        | false => rw [sel_n hx hl] at hs; cases hs
def bestN (ok : Nat → Bool) (c : Nat → Nat) (lo hi F : Nat) : Prop := ok F = true ∧ F < hi ∧ ∀ f, lo ≤ f → f < hi → ok f = true → c F ≤ c f ∧ (c F = c f → F ≤ f)
theorem sel_best {ok : Nat → Bool} {c : Nat → Nat} : ∀ {n q : Nat}, sel ok (minL c) n = some q → bestN ok c 0 n q
  | 0, q, h => by cases h
  | n + 1, q, h => by
    cases hx : sel ok (minL c) n with
    | none =>
      have hno := sel_none hx
      cases ho : ok n with
      | false => rw [sel_no ho, hx] at h; cases h
      | true =>
        rw [sel_0 ho hx] at h
        cases h
        refine ⟨ho, by omega, fun f _ h2 h3 => ?_⟩
        by_cases hf : f = n
        · subst hf; exact ⟨Nat.le_refl _, fun _ => Nat.le_refl _⟩
        · rw [hno f (by omega)] at h3; cases h3
    | some p =>
      obtain ⟨b1, b2, b3⟩ := sel_best hx
      cases ho : ok n with
      | false =>
        rw [sel_no ho, hx] at h
        cases h
        refine ⟨b1, by omega, fun f _ h2 h3 => ?_⟩
        by_cases hf : f = n
        · rw [hf, ho] at h3; cases h3
        · exact b3 f (by omega) (by omega) h3
      | true =>
        by_cases hl : c n < c p
        · rw [sel_y ho hx (decide_eq_true hl)] at h
          cases h
          refine ⟨ho, by omega, fun f _ h2 h3 => ?_⟩
          by_cases hf : f = n
          · subst hf; exact ⟨Nat.le_refl _, fun _ => Nat.le_refl _⟩
          · have := b3 f (by omega) (by omega) h3
            exact ⟨by omega, fun e => by omega⟩
        · rw [sel_n hx (decide_eq_false hl)] at h
          cases h
          refine ⟨b1, by omega, fun f _ h2 h3 => ?_⟩
          by_cases hf : f = n
          · subst hf; exact ⟨by omega, fun _ => by omega⟩
          · exact b3 f (by omega) (by omega) h3
theorem best_uniq {ok : Nat → Bool} {c : Nat → Nat} {n F G : Nat} (h : bestN ok c 0 n F) (h2 : bestN ok c 0 n G) : F = G := by
  have a := h.2.2 G (by omega) h2.2.1 h2.1
  have b := h2.2.2 F (by omega) h.2.1 h.1
  have e : c F = c G := by omega
  have := a.2 e
  have := b.2 e.symm
  omega
theorem negP : ∀ P, P < 11 → -(nI (2 ^ P)) = nI (4294967296 - 2 ^ P) := by decide
theorem nI_all (x : Int32) : x = nI x.toBitVec.toNat := by
  apply Int32.toBitVec_inj.mp
  show x.toBitVec = BitVec.ofNat 32 x.toBitVec.toNat
  apply BitVec.eq_of_toNat_eq
  rw [BitVec.toNat_ofNat]
  exact (Nat.mod_eq_of_lt x.toBitVec.isLt).symm
theorem mask_bit {P i : Nat} (hP : P < 11) : (4294967296 - 2 ^ P).testBit i = (decide (i < 32) && !decide (i < P)) := by
  have h1 : 2 ^ P - 1 < 2 ^ 32 := by
    have : 2 ^ P ≤ 2 ^ 11 := Nat.pow_le_pow_right (by omega) (by omega)
    omega
  have h2 := Nat.testBit_two_pow_sub_succ h1 i
  rw [Nat.testBit_two_pow_sub_one] at h2
  have h3 := two_pos P
  rw [show 2 ^ P - 1 + 1 = 2 ^ P by omega] at h2
  exact h2
theorem mask_in {P v : Nat} (hP : P < 11) (hv : v < 2 ^ P) : (nI v &&& -(nI (2 ^ P)) = nI 0) = True := by
  apply eq_true
  rw [negP P hP, n_and]
  congr 1
  apply Nat.eq_of_testBit_eq
  intro i
  rw [Nat.testBit_and, mask_bit hP, Nat.zero_testBit]
  by_cases hi : i < P
  · simp [hi]
  · rw [tb_hi hv (by omega)]; rfl
theorem mask_out {P : Nat} {x : Int32} (hP : P < 11) (h : inR x 0 (2 ^ P - 1) = false) : (x &&& -(nI (2 ^ P)) = nI 0) = False := by
  apply eq_false
  intro e
  have hx := nI_all x
  have hl := x.toBitVec.isLt
  generalize x.toBitVec.toNat = v at hx hl
  subst hx
  rw [negP P hP, n_and] at e
  have e2 := congrArg (fun y : Int32 => y.toBitVec.toNat) e
  have e3 : (v &&& (4294967296 - 2 ^ P)) % 4294967296 = 0 := e2
  have h4 : v &&& (4294967296 - 2 ^ P) ≤ v := Nat.and_le_left
  rw [Nat.mod_eq_of_lt (by omega)] at e3
  have hp2 : 2 ^ P ≤ 2 ^ 10 := Nat.pow_le_pow_right (by omega) (by omega)
  have h5 : v < 2 ^ P := by
    apply Nat.lt_pow_two_of_testBit
    intro i hi
    by_cases h32 : i < 32
    · have h6 := congrArg (fun y : Nat => y.testBit i) e3
      rw [Nat.testBit_and, mask_bit hP, Nat.zero_testBit, decide_eq_true h32, decide_eq_false (show ¬ i < P by omega)] at h6
      simpa using h6
    · exact tb_hi hl (by omega)
  rw [inR_t (by omega) (by omega) (by omega)] at h
  cases h
section FI
variable {B : Nat} {g : AG} {r s : GS}
def fok (g : AG) (m f : Nat) : Bool := decide (clr f (aW g) = 0) && litB g m f
def fct (g : AG) (f : Nat) : Nat := cntF f.testBit (aP g)
theorem pR_fires_L53 (h : RepR g r) (w : WfN B g) {m : Nat} (hm : m < 1073741825) (so : GS) : ∀ (n t F : Nat), t ≤ 2 ^ aP g → t < n → bestN (fok g m) (fct g) t (2 ^ aP g) F → ∃ G, f_X6_fires_L53 r (nI m) so n (nI F) (nI t - nI 1) = some (nI G, so) ∧ bestN (fok g m) (fct g) 0 (2 ^ aP g) G
  | 0, t, F, _, h2, _ => by omega
  | n + 1, t', F, h1, h2, hb => by
    rcases nat_c t' with rfl | ⟨t, rfl⟩
    · rw [f_X6_fires_L53.eq_2, z_m1]
      simp (disch := omega) only [nm_s, bd_s, bd2_s, bd3_s, bd4_s, q_gt, q_inB, ↓q_m1, l_166, l_172, l_180, l_188, l_189, l_190, l_191, l_192, l_14, l_17, l_18, l_0, l_1, l_2, l_3, l_4, l_5, l_6, l_7, l_8, l_9, l_10, l_11, l_12, l_20, l_21, l_30, l_31, l_32, l_40, l_48, l_50, l_51, l_57, l_60, l_70, l_71, l_99, l_100, l_101, l_160, l_199, l_200, l_999, l_1000, q_tn, q_add, q_mul, q_sub, q_le, q_lt, q_eq, q_31, n_and, n_or, n_xor, q_shl, q_z, q_b0, q_b1, q_bz, q_em, q_me, q_mm, q_lm, q_ml, q_mle, q_lem, s2_eq, s2_ne, pk_us, pk_un, uN_s, uN_n, if_pos, if_neg, ite_true, ite_false, if_true, if_false, not_true, not_false_iff, Nat.add_zero, Nat.zero_add, inR_t, isIx_t, bI_t, bI_f, neg1, q_clr]
      exact ⟨F, rfl, hb⟩
    have hP := w.1.1
    have h10 : 2 ^ aP g ≤ 2 ^ 10 := Nat.pow_le_pow_right (by omega) (by omega)
    have hcl := clr_lt (w := t) (m := aW g) (b := t + 1) (by omega)
    have ct := pc_of (a := t) (P := aP g) (by omega) hP
    have cF := pc_of (a := F) (P := aP g) hb.2.1 hP
    have hl1 := cntF_le t.testBit (aP g)
    have hl2 := cntF_le F.testBit (aP g)
    have ct2 : f_J6_bitCount_0f7a4 (nI t) = some (nI (fct g t)) := ct
    have cF2 : f_J6_bitCount_0f7a4 (nI F) = some (nI (fct g F)) := cF
    have ht1 : fct g t ≤ 10 := Nat.le_trans hl1 hP
    have ht2 : fct g F ≤ 10 := Nat.le_trans hl2 hP
    have hs := pR_allSeeOne h w (m := m) (f := t) hm (by omega)
    have keep : (fok g m t = false ∨ fct g F < fct g t) → bestN (fok g m) (fct g) t (2 ^ aP g) F := fun hk => by
      refine ⟨hb.1, hb.2.1, fun f h3 h4 h5 => ?_⟩
      by_cases hf : f = t
      · subst hf
        rcases hk with hk | hk
        · rw [hk] at h5; cases h5
        · exact ⟨by omega, fun e => by omega⟩
      · exact hb.2.2 f (by omega) h4 h5
    have ih := fun F' hb' => pR_fires_L53 h w hm so n t F' (by omega) (by omega) hb'
    rw [f_X6_fires_L53.eq_2]
    by_cases hc : clr t (aW g) = 0
    · by_cases hlt : fct g F < fct g t
      · simp (disch := omega) only [nm_s, bd_s, bd2_s, bd3_s, bd4_s, q_gt, q_inB, ↓q_m1, l_166, l_172, l_180, l_188, l_189, l_190, l_191, l_192, l_14, l_17, l_18, l_0, l_1, l_2, l_3, l_4, l_5, l_6, l_7, l_8, l_9, l_10, l_11, l_12, l_20, l_21, l_30, l_31, l_32, l_40, l_48, l_50, l_51, l_57, l_60, l_70, l_71, l_99, l_100, l_101, l_160, l_199, l_200, l_999, l_1000, q_tn, q_add, q_mul, q_sub, q_le, q_lt, q_eq, q_31, n_and, n_or, n_xor, q_shl, q_z, q_b0, q_b1, q_bz, q_em, q_me, q_mm, q_lm, q_ml, q_mle, q_lem, s2_eq, s2_ne, pk_us, pk_un, uN_s, uN_n, if_pos, if_neg, ite_true, ite_false, if_true, if_false, not_true, not_false_iff, Nat.add_zero, Nat.zero_add, inR_t, isIx_t, bI_t, bI_f, neg1, q_clr, q_am, Nat.add_sub_cancel, h.c1, ct2, cF2]
        exact ih F (keep (Or.inr hlt))
      · cases hlit : litB g m t with
        | false =>
          rw [hlit] at hs
          simp (disch := omega) only [nm_s, bd_s, bd2_s, bd3_s, bd4_s, q_gt, q_inB, ↓q_m1, l_166, l_172, l_180, l_188, l_189, l_190, l_191, l_192, l_14, l_17, l_18, l_0, l_1, l_2, l_3, l_4, l_5, l_6, l_7, l_8, l_9, l_10, l_11, l_12, l_20, l_21, l_30, l_31, l_32, l_40, l_48, l_50, l_51, l_57, l_60, l_70, l_71, l_99, l_100, l_101, l_160, l_199, l_200, l_999, l_1000, q_tn, q_add, q_mul, q_sub, q_le, q_lt, q_eq, q_31, n_and, n_or, n_xor, q_shl, q_z, q_b0, q_b1, q_bz, q_em, q_me, q_mm, q_lm, q_ml, q_mle, q_lem, s2_eq, s2_ne, pk_us, pk_un, uN_s, uN_n, if_pos, if_neg, ite_true, ite_false, if_true, if_false, not_true, not_false_iff, Nat.add_zero, Nat.zero_add, inR_t, isIx_t, bI_t, bI_f, neg1, q_clr, q_am, Nat.add_sub_cancel, h.c1, ct2, cF2, hs]
          exact ih F (keep (Or.inl (by unfold fok; rw [hlit, Bool.and_false])))
        | true =>
          rw [hlit] at hs
          simp (disch := omega) only [nm_s, bd_s, bd2_s, bd3_s, bd4_s, q_gt, q_inB, ↓q_m1, l_166, l_172, l_180, l_188, l_189, l_190, l_191, l_192, l_14, l_17, l_18, l_0, l_1, l_2, l_3, l_4, l_5, l_6, l_7, l_8, l_9, l_10, l_11, l_12, l_20, l_21, l_30, l_31, l_32, l_40, l_48, l_50, l_51, l_57, l_60, l_70, l_71, l_99, l_100, l_101, l_160, l_199, l_200, l_999, l_1000, q_tn, q_add, q_mul, q_sub, q_le, q_lt, q_eq, q_31, n_and, n_or, n_xor, q_shl, q_z, q_b0, q_b1, q_bz, q_em, q_me, q_mm, q_lm, q_ml, q_mle, q_lem, s2_eq, s2_ne, pk_us, pk_un, uN_s, uN_n, if_pos, if_neg, ite_true, ite_false, if_true, if_false, not_true, not_false_iff, Nat.add_zero, Nat.zero_add, inR_t, isIx_t, bI_t, bI_f, neg1, q_clr, q_am, Nat.add_sub_cancel, h.c1, ct2, cF2, hs]
          refine ih t ⟨by unfold fok; rw [decide_eq_true hc, hlit]; rfl, by omega, fun f h3 h4 h5 => ?_⟩
          by_cases hf : f = t
          · subst hf; exact ⟨Nat.le_refl _, fun _ => Nat.le_refl _⟩
          · have := hb.2.2 f (by omega) h4 h5
            exact ⟨by omega, fun _ => by omega⟩
    · simp (disch := omega) only [nm_s, bd_s, bd2_s, bd3_s, bd4_s, q_gt, q_inB, ↓q_m1, l_166, l_172, l_180, l_188, l_189, l_190, l_191, l_192, l_14, l_17, l_18, l_0, l_1, l_2, l_3, l_4, l_5, l_6, l_7, l_8, l_9, l_10, l_11, l_12, l_20, l_21, l_30, l_31, l_32, l_40, l_48, l_50, l_51, l_57, l_60, l_70, l_71, l_99, l_100, l_101, l_160, l_199, l_200, l_999, l_1000, q_tn, q_add, q_mul, q_sub, q_le, q_lt, q_eq, q_31, n_and, n_or, n_xor, q_shl, q_z, q_b0, q_b1, q_bz, q_em, q_me, q_mm, q_lm, q_ml, q_mle, q_lem, s2_eq, s2_ne, pk_us, pk_un, uN_s, uN_n, if_pos, if_neg, ite_true, ite_false, if_true, if_false, not_true, not_false_iff, Nat.add_zero, Nat.zero_add, inR_t, isIx_t, bI_t, bI_f, neg1, q_clr, q_am, Nat.add_sub_cancel, h.c1]
      rw [← q_sub (show 1 ≤ t by omega)]
      exact ih F (keep (Or.inl (by unfold fok; rw [decide_eq_false hc]; rfl)))
theorem pM_fires_L31 (h : RepM g s) (w : WfN B g) {v : Nat} (hv : v < 2 ^ aP g) : ∀ (n i : Nat), i ≤ 2 ^ aP g → 2 ^ aP g - i < n → f_X7_fires_L31 (nI v) (nI (aW g)) s n (selI (sel (fok g (v &&& aW g)) (minL (fct g)) i)) (nI i) = some (selI (sel (fok g (v &&& aW g)) (minL (fct g)) (2 ^ aP g)), s)
  | 0, i, _, h2 => by omega
  | n + 1, i, h1, h2 => by
    have hP := w.1.1
    have h10 : 2 ^ aP g ≤ 2 ^ 10 := Nat.pow_le_pow_right (by omega) (by omega)
    rw [f_X7_fires_L31.eq_2]
    by_cases hi : i < 2 ^ aP g
    · have ih := pM_fires_L31 h w hv n (i + 1) (by omega) (by omega)
      have hcl := clr_lt (w := i) (m := aW g) (b := i + 1) (by omega)
      have hvw : v &&& aW g ≤ v := Nat.and_le_left
      have ci : f_J6_bitCount_0f7a4 (nI i) = some (nI (fct g i)) := pc_of (a := i) (P := aP g) hi hP
      have hl1 : fct g i ≤ 10 := Nat.le_trans (cntF_le i.testBit (aP g)) hP
      have hs := pM_isLit h w (m := v &&& aW g) (f := i) (by omega) (by omega)
      by_cases hc : clr i (aW g) = 0
      · have okl : ∀ b, litB g (v &&& aW g) i = b → fok g (v &&& aW g) i = b := fun b hb => by
          unfold fok
          rw [decide_eq_true hc, hb]
          rfl
        cases hx : sel (fok g (v &&& aW g)) (minL (fct g)) i with
        | none =>
          cases hlit : litB g (v &&& aW g) i with
          | false =>
            rw [hlit] at hs
            rw [sel_no (okl _ hlit), hx] at ih
            simp only [selI] at ih ⊢
            simp (disch := omega) only [nm_s, bd_s, bd2_s, bd3_s, bd4_s, q_gt, q_inB, ↓q_m1, l_166, l_172, l_180, l_188, l_189, l_190, l_191, l_192, l_14, l_17, l_18, l_0, l_1, l_2, l_3, l_4, l_5, l_6, l_7, l_8, l_9, l_10, l_11, l_12, l_20, l_21, l_30, l_31, l_32, l_40, l_48, l_50, l_51, l_57, l_60, l_70, l_71, l_99, l_100, l_101, l_160, l_199, l_200, l_999, l_1000, q_tn, q_add, q_mul, q_sub, q_le, q_lt, q_eq, q_31, n_and, n_or, n_xor, q_shl, q_z, q_b0, q_b1, q_bz, q_em, q_me, q_mm, q_lm, q_ml, q_mle, q_lem, s2_eq, s2_ne, pk_us, pk_un, uN_s, uN_n, if_pos, if_neg, ite_true, ite_false, if_true, if_false, not_true, not_false_iff, Nat.add_zero, Nat.zero_add, inR_t, isIx_t, bI_t, bI_f, neg1, q_clr, h.c0, f_X7_fires_J71, hs]
            exact ih
          | true =>
            rw [hlit] at hs
            rw [sel_0 (okl _ hlit) hx] at ih
            simp only [selI] at ih ⊢
            simp (disch := omega) only [nm_s, bd_s, bd2_s, bd3_s, bd4_s, q_gt, q_inB, ↓q_m1, l_166, l_172, l_180, l_188, l_189, l_190, l_191, l_192, l_14, l_17, l_18, l_0, l_1, l_2, l_3, l_4, l_5, l_6, l_7, l_8, l_9, l_10, l_11, l_12, l_20, l_21, l_30, l_31, l_32, l_40, l_48, l_50, l_51, l_57, l_60, l_70, l_71, l_99, l_100, l_101, l_160, l_199, l_200, l_999, l_1000, q_tn, q_add, q_mul, q_sub, q_le, q_lt, q_eq, q_31, n_and, n_or, n_xor, q_shl, q_z, q_b0, q_b1, q_bz, q_em, q_me, q_mm, q_lm, q_ml, q_mle, q_lem, s2_eq, s2_ne, pk_us, pk_un, uN_s, uN_n, if_pos, if_neg, ite_true, ite_false, if_true, if_false, not_true, not_false_iff, Nat.add_zero, Nat.zero_add, inR_t, isIx_t, bI_t, bI_f, neg1, q_clr, h.c0, f_X7_fires_J71, hs]
            exact ih
        | some q =>
          have hq := (sel_lt hx).1
          have cq : f_J6_bitCount_0f7a4 (nI q) = some (nI (fct g q)) := pc_of (a := q) (P := aP g) (by omega) hP
          have hl2 : fct g q ≤ 10 := Nat.le_trans (cntF_le q.testBit (aP g)) hP
          by_cases hlt : fct g i < fct g q
          · cases hlit : litB g (v &&& aW g) i with
            | false =>
              rw [hlit] at hs
              rw [sel_no (okl _ hlit), hx] at ih
              simp only [selI] at ih ⊢
              simp (disch := omega) only [nm_s, bd_s, bd2_s, bd3_s, bd4_s, q_gt, q_inB, ↓q_m1, l_166, l_172, l_180, l_188, l_189, l_190, l_191, l_192, l_14, l_17, l_18, l_0, l_1, l_2, l_3, l_4, l_5, l_6, l_7, l_8, l_9, l_10, l_11, l_12, l_20, l_21, l_30, l_31, l_32, l_40, l_48, l_50, l_51, l_57, l_60, l_70, l_71, l_99, l_100, l_101, l_160, l_199, l_200, l_999, l_1000, q_tn, q_add, q_mul, q_sub, q_le, q_lt, q_eq, q_31, n_and, n_or, n_xor, q_shl, q_z, q_b0, q_b1, q_bz, q_em, q_me, q_mm, q_lm, q_ml, q_mle, q_lem, s2_eq, s2_ne, pk_us, pk_un, uN_s, uN_n, if_pos, if_neg, ite_true, ite_false, if_true, if_false, not_true, not_false_iff, Nat.add_zero, Nat.zero_add, inR_t, isIx_t, bI_t, bI_f, neg1, q_clr, h.c0, ci, cq, f_X7_fires_J71, hs]
              exact ih
            | true =>
              rw [hlit] at hs
              rw [sel_y (okl _ hlit) hx (decide_eq_true hlt)] at ih
              simp only [selI] at ih ⊢
              simp (disch := omega) only [nm_s, bd_s, bd2_s, bd3_s, bd4_s, q_gt, q_inB, ↓q_m1, l_166, l_172, l_180, l_188, l_189, l_190, l_191, l_192, l_14, l_17, l_18, l_0, l_1, l_2, l_3, l_4, l_5, l_6, l_7, l_8, l_9, l_10, l_11, l_12, l_20, l_21, l_30, l_31, l_32, l_40, l_48, l_50, l_51, l_57, l_60, l_70, l_71, l_99, l_100, l_101, l_160, l_199, l_200, l_999, l_1000, q_tn, q_add, q_mul, q_sub, q_le, q_lt, q_eq, q_31, n_and, n_or, n_xor, q_shl, q_z, q_b0, q_b1, q_bz, q_em, q_me, q_mm, q_lm, q_ml, q_mle, q_lem, s2_eq, s2_ne, pk_us, pk_un, uN_s, uN_n, if_pos, if_neg, ite_true, ite_false, if_true, if_false, not_true, not_false_iff, Nat.add_zero, Nat.zero_add, inR_t, isIx_t, bI_t, bI_f, neg1, q_clr, h.c0, ci, cq, f_X7_fires_J71, hs]
              exact ih
          · rw [sel_n hx (decide_eq_false hlt)] at ih
            simp only [selI] at ih ⊢
            simp (disch := omega) only [nm_s, bd_s, bd2_s, bd3_s, bd4_s, q_gt, q_inB, ↓q_m1, l_166, l_172, l_180, l_188, l_189, l_190, l_191, l_192, l_14, l_17, l_18, l_0, l_1, l_2, l_3, l_4, l_5, l_6, l_7, l_8, l_9, l_10, l_11, l_12, l_20, l_21, l_30, l_31, l_32, l_40, l_48, l_50, l_51, l_57, l_60, l_70, l_71, l_99, l_100, l_101, l_160, l_199, l_200, l_999, l_1000, q_tn, q_add, q_mul, q_sub, q_le, q_lt, q_eq, q_31, n_and, n_or, n_xor, q_shl, q_z, q_b0, q_b1, q_bz, q_em, q_me, q_mm, q_lm, q_ml, q_mle, q_lem, s2_eq, s2_ne, pk_us, pk_un, uN_s, uN_n, if_pos, if_neg, ite_true, ite_false, if_true, if_false, not_true, not_false_iff, Nat.add_zero, Nat.zero_add, inR_t, isIx_t, bI_t, bI_f, neg1, q_clr, h.c0, ci, cq]
            exact ih
      · rw [sel_no (show fok g (v &&& aW g) i = false by unfold fok; rw [decide_eq_false hc]; rfl)] at ih
        simp (disch := omega) only [nm_s, bd_s, bd2_s, bd3_s, bd4_s, q_gt, q_inB, ↓q_m1, l_166, l_172, l_180, l_188, l_189, l_190, l_191, l_192, l_14, l_17, l_18, l_0, l_1, l_2, l_3, l_4, l_5, l_6, l_7, l_8, l_9, l_10, l_11, l_12, l_20, l_21, l_30, l_31, l_32, l_40, l_48, l_50, l_51, l_57, l_60, l_70, l_71, l_99, l_100, l_101, l_160, l_199, l_200, l_999, l_1000, q_tn, q_add, q_mul, q_sub, q_le, q_lt, q_eq, q_31, n_and, n_or, n_xor, q_shl, q_z, q_b0, q_b1, q_bz, q_em, q_me, q_mm, q_lm, q_ml, q_mle, q_lem, s2_eq, s2_ne, pk_us, pk_un, uN_s, uN_n, if_pos, if_neg, ite_true, ite_false, if_true, if_false, not_true, not_false_iff, Nat.add_zero, Nat.zero_add, inR_t, isIx_t, bI_t, bI_f, neg1, q_clr, h.c0]
        exact ih
    · have : i = 2 ^ aP g := by omega
      subst this
      simp (disch := omega) only [nm_s, bd_s, bd2_s, bd3_s, bd4_s, q_gt, q_inB, ↓q_m1, l_166, l_172, l_180, l_188, l_189, l_190, l_191, l_192, l_14, l_17, l_18, l_0, l_1, l_2, l_3, l_4, l_5, l_6, l_7, l_8, l_9, l_10, l_11, l_12, l_20, l_21, l_30, l_31, l_32, l_40, l_48, l_50, l_51, l_57, l_60, l_70, l_71, l_99, l_100, l_101, l_160, l_199, l_200, l_999, l_1000, q_tn, q_add, q_mul, q_sub, q_le, q_lt, q_eq, q_31, n_and, n_or, n_xor, q_shl, q_z, q_b0, q_b1, q_bz, q_em, q_me, q_mm, q_lm, q_ml, q_mle, q_lem, s2_eq, s2_ne, pk_us, pk_un, uN_s, uN_n, if_pos, if_neg, ite_true, ite_false, if_true, if_false, not_true, not_false_iff, Nat.add_zero, Nat.zero_add, inR_t, isIx_t, bI_t, bI_f, neg1, q_clr, h.c0]
theorem fok_W (w : WfN B g) (v : Nat) : fok g (v &&& aW g) (aW g) = true := by
  unfold fok
  have h1 : clr (aW g) (aW g) = 0 := by
    unfold clr
    rw [Nat.and_self, Nat.xor_self]
  rw [decide_eq_true h1, Bool.true_and]
  unfold litB
  rw [anyF_no fun p hp => ?_]
  · rfl
  · cases hb : (v &&& aW g).testBit p with
    | false => rfl
    | true =>
      have h2 : (aW g).testBit p = true := by
        rw [Nat.testBit_and] at hb
        cases hx : (aW g).testBit p with
        | true => rfl
        | false => rw [hx, Bool.and_false] at hb; cases hb
      rw [lit_or, h2, Bool.not_true, Bool.and_false, Bool.and_false]
end FI
section SG3
variable {B : Nat} {so r0 r1 : GS} {rw : Nat → GS} {re : Nat → Nat → Int64} {sv sm : GS} {sq : Nat → Int64}
theorem sim_fires (I : Inv B so r0 r1 rw re sv sm sq) (x1 : Int32) : SimP (f_X6_fires so r0 x1) (f_X7_fires sm x1) (fun x y => x.1 = y.1 ∧ Inv B x.2 r0 r1 rw re sv y.2 sq) := by
  have I0 := I
  obtain ⟨g, ⟨h, m, w, hd⟩, hf, hs, hc, ht, hi⟩ := I
  have hP := w.1.1.1
  have h10 : 2 ^ aP g ≤ 2 ^ 10 := Nat.pow_le_pow_right (by omega) (by omega)
  have h1 := two_pos (aP g)
  unfold f_X6_fires f_X7_fires
  rcases in3 x1 0 (2 ^ aP g - 1) (by omega) (by omega) with ⟨q1, q⟩ | ⟨q1, q2, q⟩ | ⟨v, _, hv, rfl, _⟩
  · simp (disch := omega) only [nm_s, bd_s, bd2_s, bd3_s, bd4_s, q_gt, q_inB, ↓q_m1, l_166, l_172, l_180, l_188, l_189, l_190, l_191, l_192, l_14, l_17, l_18, l_0, l_1, l_2, l_3, l_4, l_5, l_6, l_7, l_8, l_9, l_10, l_11, l_12, l_20, l_21, l_30, l_31, l_32, l_40, l_48, l_50, l_51, l_57, l_60, l_70, l_71, l_99, l_100, l_101, l_160, l_199, l_200, l_999, l_1000, q_tn, q_add, q_mul, q_sub, q_le, q_lt, q_eq, q_31, n_and, n_or, n_xor, q_shl, q_z, q_b0, q_b1, q_bz, q_em, q_me, q_mm, q_lm, q_ml, q_mle, q_lem, s2_eq, s2_ne, pk_us, pk_un, uN_s, uN_n, if_pos, if_neg, ite_true, ite_false, if_true, if_false, not_true, not_false_iff, Nat.add_zero, Nat.zero_add, inR_t, isIx_t, bI_t, bI_f, neg1, q_clr, h.c0, m.c0, mask_out (P := aP g) (by omega) q, q1, f_X7_fires_J14, r6_, r7_]
    exact sim_i ⟨rfl, Inv_ref I0 (by omega)⟩
  · have q3 : ¬ x1 < nI (2 ^ aP g) := by
      have := Int32.not_le.mp q2
      rw [n_lt_s (by omega), show 2 ^ aP g - 1 + 1 = 2 ^ aP g by omega] at this
      exact this
    simp (disch := omega) only [nm_s, bd_s, bd2_s, bd3_s, bd4_s, q_gt, q_inB, ↓q_m1, l_166, l_172, l_180, l_188, l_189, l_190, l_191, l_192, l_14, l_17, l_18, l_0, l_1, l_2, l_3, l_4, l_5, l_6, l_7, l_8, l_9, l_10, l_11, l_12, l_20, l_21, l_30, l_31, l_32, l_40, l_48, l_50, l_51, l_57, l_60, l_70, l_71, l_99, l_100, l_101, l_160, l_199, l_200, l_999, l_1000, q_tn, q_add, q_mul, q_sub, q_le, q_lt, q_eq, q_31, n_and, n_or, n_xor, q_shl, q_z, q_b0, q_b1, q_bz, q_em, q_me, q_mm, q_lm, q_ml, q_mle, q_lem, s2_eq, s2_ne, pk_us, pk_un, uN_s, uN_n, if_pos, if_neg, ite_true, ite_false, if_true, if_false, not_true, not_false_iff, Nat.add_zero, Nat.zero_add, inR_t, isIx_t, bI_t, bI_f, neg1, q_clr, h.c0, m.c0, mask_out (P := aP g) (by omega) q, q1, q3, f_X7_fires_J14, r6_, r7_]
    exact sim_i ⟨rfl, Inv_ref I0 (by omega)⟩
  · have hvw : v &&& aW g ≤ v := Nat.and_le_left
    obtain ⟨G, e6, hG⟩ := pR_fires_L53 h w.1 (m := v &&& aW g) (by omega) so 2000 (2 ^ aP g) (aW g) (by omega) (by omega) ⟨fok_W w.1 v, w.1.1.2.2.2.2.2, fun f h3 h4 _ => by omega⟩
    have e7 : f_X7_fires_L31 (nI v) (nI (aW g)) sm FU mI (nI 0) = some (selI (sel (fok g (v &&& aW g)) (minL (fct g)) (2 ^ aP g)), sm) := pM_fires_L31 m w.1 (by omega) 2000 0 (by omega) (by omega)
    cases hx : sel (fok g (v &&& aW g)) (minL (fct g)) (2 ^ aP g) with
    | none =>
      have := sel_none hx (aW g) w.1.1.2.2.2.2.2
      rw [fok_W w.1 v] at this
      cases this
    | some q =>
      have hq := best_uniq hG (sel_best hx)
      rw [hx] at e7
      subst hq
      have e6' : f_X6_fires_L53 r0 (nI (v &&& aW g)) so FU (nI (aW g)) (nI (2 ^ aP g - 1)) = some (nI G, so) := by
        rw [← q_sub (by omega)]
        exact e6
      have e7' : f_X7_fires_L31 (nI v) (nI (aW g)) sm FU mI (nI 0) = some (nI G, sm) := e7
      simp (disch := omega) only [nm_s, bd_s, bd2_s, bd3_s, bd4_s, q_gt, q_inB, ↓q_m1, l_166, l_172, l_180, l_188, l_189, l_190, l_191, l_192, l_14, l_17, l_18, l_0, l_1, l_2, l_3, l_4, l_5, l_6, l_7, l_8, l_9, l_10, l_11, l_12, l_20, l_21, l_30, l_31, l_32, l_40, l_48, l_50, l_51, l_57, l_60, l_70, l_71, l_99, l_100, l_101, l_160, l_199, l_200, l_999, l_1000, q_tn, q_add, q_mul, q_sub, q_le, q_lt, q_eq, q_31, n_and, n_or, n_xor, q_shl, q_z, q_b0, q_b1, q_bz, q_em, q_me, q_mm, q_lm, q_ml, q_mle, q_lem, s2_eq, s2_ne, pk_us, pk_un, uN_s, uN_n, if_pos, if_neg, ite_true, ite_false, if_true, if_false, not_true, not_false_iff, Nat.add_zero, Nat.zero_add, inR_t, isIx_t, bI_t, bI_f, neg1, q_clr, h.c0, m.c0, h.c1, mask_in (P := aP g) (v := v) (by omega) (by omega), pM_there m w.1, e6', e7']
      exact sim_i ⟨rfl, I0⟩
end SG3
