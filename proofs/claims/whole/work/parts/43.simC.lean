-- both sides: griefs, yields, the shelves' plain answers
section MK
variable {B : Nat} {g : AG} {r sk : GS}
theorem pK_look_L2 (h : RepR g r) (w : WfN B g) {n : Nat} (hn : n ≤ 200) : ∀ (m i : Nat) (sk : GS), i ≤ n → n - i < m → (∀ y, y < i → sk 1 y = nI (black g (aY g + y))) → ∃ z, f_X0_look_L2 r (nI n) m (nI i) sk = some z ∧ ∀ y, y < n → z 1 y = nI (black g (aY g + y))
  | 0, i, sk, _, h2, _ => by omega
  | m + 1, i, sk, h1, h2, h3 => by
    have hY := w.1.2.2.2
    rw [f_X0_look_L2.eq_2]
    by_cases hi : i < n
    · simp (disch := omega) only [nm_s, bd_s, bd2_s, bd3_s, bd4_s, q_gt, q_inB, ↓q_m1, l_166, l_172, l_180, l_188, l_189, l_190, l_191, l_192, l_14, l_17, l_18, l_0, l_1, l_2, l_3, l_4, l_5, l_6, l_7, l_8, l_9, l_10, l_11, l_12, l_20, l_21, l_30, l_31, l_32, l_40, l_48, l_50, l_51, l_57, l_60, l_70, l_71, l_99, l_100, l_101, l_160, l_199, l_200, l_999, l_1000, q_tn, q_add, q_mul, q_sub, q_le, q_lt, q_eq, q_31, n_and, n_or, n_xor, q_shl, q_z, q_b0, q_b1, q_bz, q_em, q_me, q_mm, q_lm, q_ml, q_mle, q_lem, s2_eq, s2_ne, pk_us, pk_un, uN_s, uN_n, if_pos, if_neg, ite_true, ite_false, if_true, if_false, not_true, not_false_iff, Nat.add_zero, Nat.zero_add, inR_t, isIx_t, bI_t, bI_f, neg1, q_clr, h.cy, pR_blackIn h w]
      refine pK_look_L2 h w hn m (i + 1) _ (by omega) (by omega) (fun y hy => ?_)
      rw [s2_eq]
      by_cases hx : y = i
      · rw [hx, pk_us]
      · rw [pk_un hx]
        exact h3 y (by omega)
    · have : i = n := by omega
      subst this
      simp (disch := omega) only [nm_s, bd_s, bd2_s, bd3_s, bd4_s, q_gt, q_inB, ↓q_m1, l_166, l_172, l_180, l_188, l_189, l_190, l_191, l_192, l_14, l_17, l_18, l_0, l_1, l_2, l_3, l_4, l_5, l_6, l_7, l_8, l_9, l_10, l_11, l_12, l_20, l_21, l_30, l_31, l_32, l_40, l_48, l_50, l_51, l_57, l_60, l_70, l_71, l_99, l_100, l_101, l_160, l_199, l_200, l_999, l_1000, q_tn, q_add, q_mul, q_sub, q_le, q_lt, q_eq, q_31, n_and, n_or, n_xor, q_shl, q_z, q_b0, q_b1, q_bz, q_em, q_me, q_mm, q_lm, q_ml, q_mle, q_lem, s2_eq, s2_ne, pk_us, pk_un, uN_s, uN_n, if_pos, if_neg, ite_true, ite_false, if_true, if_false, not_true, not_false_iff, Nat.add_zero, Nat.zero_add, inR_t, isIx_t, bI_t, bI_f, neg1, q_clr]
      exact ⟨_, rfl, h3⟩
theorem pK_look (h : RepR g r) (w : WfN B g) {n : Nat} (hn : n ≤ 200) : ∃ z, f_X0_look sk r (nI n) = some z ∧ ∀ y, y < n → z 1 y = nI (black g (aY g + y)) :=
  pK_look_L2 h w hn 2000 0 sk (by omega) (by omega) (fun y hy => by omega)
def yieldW (g : AG) (n m : Nat) : Nat := sumF (fun y => milkS g (clr (black g (aY g + y)) m)) n
theorem pK_yield_L6 (h : RepR g r) (w : WfN B g) {n m : Nat} (hn : n ≤ 200) (hk : ∀ y, y < n → sk 1 y = nI (black g (aY g + y))) : ∀ (k i : Nat), i ≤ n → n - i < k → f_X0_yieldWithout_L6 sk r (nI n) (nI m) k (nI (yieldW g i m)) (nI i) = some (nI (yieldW g n m))
  | 0, i, _, h2 => by omega
  | k + 1, i, h1, h2 => by
    rw [f_X0_yieldWithout_L6.eq_2]
    by_cases hi : i < n
    · simp (disch := omega) only [nm_s, bd_s, bd2_s, bd3_s, bd4_s, q_gt, q_inB, ↓q_m1, l_166, l_172, l_180, l_188, l_189, l_190, l_191, l_192, l_14, l_17, l_18, l_0, l_1, l_2, l_3, l_4, l_5, l_6, l_7, l_8, l_9, l_10, l_11, l_12, l_20, l_21, l_30, l_31, l_32, l_40, l_48, l_50, l_51, l_57, l_60, l_70, l_71, l_99, l_100, l_101, l_160, l_199, l_200, l_999, l_1000, q_tn, q_add, q_mul, q_sub, q_le, q_lt, q_eq, q_31, n_and, n_or, n_xor, q_shl, q_z, q_b0, q_b1, q_bz, q_em, q_me, q_mm, q_lm, q_ml, q_mle, q_lem, s2_eq, s2_ne, pk_us, pk_un, uN_s, uN_n, if_pos, if_neg, ite_true, ite_false, if_true, if_false, not_true, not_false_iff, Nat.add_zero, Nat.zero_add, inR_t, isIx_t, bI_t, bI_f, neg1, q_clr, hk, pR_milkOfAll h w, q_clr]
      exact pK_yield_L6 h w hn hk k (i + 1) (by omega) (by omega)
    · have : i = n := by omega
      subst this
      simp (disch := omega) only [nm_s, bd_s, bd2_s, bd3_s, bd4_s, q_gt, q_inB, ↓q_m1, l_166, l_172, l_180, l_188, l_189, l_190, l_191, l_192, l_14, l_17, l_18, l_0, l_1, l_2, l_3, l_4, l_5, l_6, l_7, l_8, l_9, l_10, l_11, l_12, l_20, l_21, l_30, l_31, l_32, l_40, l_48, l_50, l_51, l_57, l_60, l_70, l_71, l_99, l_100, l_101, l_160, l_199, l_200, l_999, l_1000, q_tn, q_add, q_mul, q_sub, q_le, q_lt, q_eq, q_31, n_and, n_or, n_xor, q_shl, q_z, q_b0, q_b1, q_bz, q_em, q_me, q_mm, q_lm, q_ml, q_mle, q_lem, s2_eq, s2_ne, pk_us, pk_un, uN_s, uN_n, if_pos, if_neg, ite_true, ite_false, if_true, if_false, not_true, not_false_iff, Nat.add_zero, Nat.zero_add, inR_t, isIx_t, bI_t, bI_f, neg1, q_clr]
theorem pK_yield (h : RepR g r) (w : WfN B g) {n m : Nat} (hn : n ≤ 200) (hk : ∀ y, y < n → sk 1 y = nI (black g (aY g + y))) : f_X0_yieldWithout sk r (nI n) (nI m) = some (nI (yieldW g n m)) :=
  pK_yield_L6 h w hn hk 2000 0 (by omega) (by omega)
theorem clr_0 (b : Nat) : clr b 0 = b := by
  unfold clr
  rw [Nat.and_zero, Nat.xor_zero]
theorem yieldW_0 (n : Nat) : yieldW g n 0 = yieldA g (aY g) n := by
  unfold yieldW yieldA
  exact sumF_congr fun y _ => by rw [clr_0]
theorem yieldA_le (w : WfN B g) (y : Nat) {n : Nat} (hn : n ≤ 200) : yieldA g y n ≤ 1598400 :=
  Nat.le_trans (sumF_le (b := 7992) fun _ _ => milkS_le w _) (by omega)
theorem yieldW_le (w : WfN B g) {n m : Nat} (hn : n ≤ 200) : yieldW g n m ≤ 1598400 :=
  Nat.le_trans (sumF_le (b := 7992) fun _ _ => milkS_le w _) (by omega)
end MK
-- the reference's griefOf
section GR
variable {B : Nat} {g : AG} {s : GS}
theorem tryM {K : Nat} (hK : K = 27 ∨ K = 28 ∨ K = 26) (h : RepM g s) (w : WfN B g) : ∃ f, f_X7_keep K s = some (s2 s K f) ∧ RepM g (s2 s K f) ∧ ∀ t, t K = f → SmK s t → ∃ u, f_X7_again K t = some u ∧ RepM g u ∧ SmK s u ∧ u 0 18 = s 0 18 ∧ (∀ k, rgC k = false → u k = t k) := by
  obtain ⟨f, e, hh, hr⟩ := keepM (B := B) (K := K) (by omega) h
  refine ⟨f, e, hr, fun t ht k => ?_⟩
  obtain ⟨u, e2, h1, h2, h3, h4⟩ := againM (s := t) (K := K) (sd := s 0 18) (by omega) w (by rw [ht]; exact hh)
  refine ⟨u, e2, h1, SmK_trans k ⟨⟨h3 1 rfl, h3 2 rfl, h3 21 rfl, h3 23 rfl, h3 25 rfl⟩, h4 19 rfl (by omega), h4 21 rfl (by omega), h4 23 rfl (by omega)⟩, h2, h3⟩
theorem pM_griefOf (h : RepM g s) (w : Wf B g) {p : Nat} (hp : p < aP g) (hst : stB g p = true) : ∃ u, f_X7_griefOf s (nI p) = some (nI (griefA g p (aY g)), u) ∧ RepM g u ∧ SmK s u ∧ u 0 18 = s 0 18 := by
  obtain ⟨f, e, hr, hb⟩ := tryM (K := 27) (Or.inl rfl) h w.1
  obtain ⟨⟨v, t⟩, e1, e2, e3, e4⟩ := pM_loses hr w hp hst
  dsimp only at e2 e3 e4
  subst e2
  obtain ⟨u, e5, h1, h2, h3, -⟩ := hb t (by rw [e4.1 27 rfl, s2_eq]) (SmK_trans (SmK_s2 (by omega)) (SmK_fr e4))
  refine ⟨u, ?_, h1, h2, h3⟩
  unfold f_X7_griefOf
  rw [e, bd_s, e1, bd2_s, e5, bd_s]
theorem pM_least_L6 (w : Wf B g) : ∀ (n i : Nat) (s : GS), RepM g s → i ≤ aP g → aP g - i < n → ∃ u, f_X7_least_L6 n (selI (sel (stB g) (minL fun p => griefA g p (aY g)) i)) (selV (fun p => griefA g p (aY g)) (nI 0) (sel (stB g) (minL fun p => griefA g p (aY g)) i)) (nI i) s = some (selI (sel (stB g) (minL fun p => griefA g p (aY g)) (aP g)), u) ∧ RepM g u ∧ SmK s u ∧ u 0 18 = s 0 18
  | 0, i, s, _, _, h2 => by omega
  | n + 1, i, s, h, h1, h2 => by
    have hP := w.1.1.1
    have hB := w.1.1.2.2.2
    rw [f_X7_least_L6.eq_2]
    by_cases hi : i < aP g
    · cases hs : stB g i with
      | false =>
        have ih := pM_least_L6 w n (i + 1) s h (by omega) (by omega)
        rw [sel_no hs] at ih
        simp (disch := omega) only [nm_s, bd_s, bd2_s, bd3_s, bd4_s, q_gt, q_inB, ↓q_m1, l_166, l_172, l_180, l_188, l_189, l_190, l_191, l_192, l_14, l_17, l_18, l_0, l_1, l_2, l_3, l_4, l_5, l_6, l_7, l_8, l_9, l_10, l_11, l_12, l_20, l_21, l_30, l_31, l_32, l_40, l_48, l_50, l_51, l_57, l_60, l_70, l_71, l_99, l_100, l_101, l_160, l_199, l_200, l_999, l_1000, q_tn, q_add, q_mul, q_sub, q_le, q_lt, q_eq, q_31, n_and, n_or, n_xor, q_shl, q_z, q_b0, q_b1, q_bz, q_em, q_me, q_mm, q_lm, q_ml, q_mle, q_lem, s2_eq, s2_ne, pk_us, pk_un, uN_s, uN_n, if_pos, if_neg, ite_true, ite_false, if_true, if_false, not_true, not_false_iff, Nat.add_zero, Nat.zero_add, inR_t, isIx_t, bI_t, bI_f, neg1, q_clr, h.c0, pM_isThere h w.1, isSt_n w.1, hs]
        exact ih
      | true =>
        obtain ⟨u, e, hu1, hu2, hu3⟩ := pM_griefOf h w hi hs
        have hgl := griefA_le w.1 (lost := i) (y := aY g) hi (by omega)
        obtain ⟨z, ih, z1, z2, z3⟩ := pM_least_L6 w n (i + 1) u hu1 (by omega) (by omega)
        refine ⟨z, ?_, z1, SmK_trans hu2 z2, z3.trans hu3⟩
        cases hx : sel (stB g) (minL fun p => griefA g p (aY g)) i with
        | none =>
          rw [sel_0 hs hx] at ih
          simp only [selI, selV] at ih ⊢
          simp (disch := omega) only [nm_s, bd_s, bd2_s, bd3_s, bd4_s, q_gt, q_inB, ↓q_m1, l_166, l_172, l_180, l_188, l_189, l_190, l_191, l_192, l_14, l_17, l_18, l_0, l_1, l_2, l_3, l_4, l_5, l_6, l_7, l_8, l_9, l_10, l_11, l_12, l_20, l_21, l_30, l_31, l_32, l_40, l_48, l_50, l_51, l_57, l_60, l_70, l_71, l_99, l_100, l_101, l_160, l_199, l_200, l_999, l_1000, q_tn, q_add, q_mul, q_sub, q_le, q_lt, q_eq, q_31, n_and, n_or, n_xor, q_shl, q_z, q_b0, q_b1, q_bz, q_em, q_me, q_mm, q_lm, q_ml, q_mle, q_lem, s2_eq, s2_ne, pk_us, pk_un, uN_s, uN_n, if_pos, if_neg, ite_true, ite_false, if_true, if_false, not_true, not_false_iff, Nat.add_zero, Nat.zero_add, inR_t, isIx_t, bI_t, bI_f, neg1, q_clr, h.c0, pM_isThere h w.1, isSt_n w.1, hs, e, f_X7_least_J46]
          exact ih
        | some q =>
          have hq := sel_lt hx
          have hgq := griefA_le w.1 (lost := q) (y := aY g) (by omega) (by omega)
          by_cases hc : griefA g i (aY g) < griefA g q (aY g)
          · rw [sel_y hs hx (decide_eq_true hc)] at ih
            simp only [selI, selV] at ih ⊢
            simp (disch := omega) only [nm_s, bd_s, bd2_s, bd3_s, bd4_s, q_gt, q_inB, ↓q_m1, l_166, l_172, l_180, l_188, l_189, l_190, l_191, l_192, l_14, l_17, l_18, l_0, l_1, l_2, l_3, l_4, l_5, l_6, l_7, l_8, l_9, l_10, l_11, l_12, l_20, l_21, l_30, l_31, l_32, l_40, l_48, l_50, l_51, l_57, l_60, l_70, l_71, l_99, l_100, l_101, l_160, l_199, l_200, l_999, l_1000, q_tn, q_add, q_mul, q_sub, q_le, q_lt, q_eq, q_31, n_and, n_or, n_xor, q_shl, q_z, q_b0, q_b1, q_bz, q_em, q_me, q_mm, q_lm, q_ml, q_mle, q_lem, s2_eq, s2_ne, pk_us, pk_un, uN_s, uN_n, if_pos, if_neg, ite_true, ite_false, if_true, if_false, not_true, not_false_iff, Nat.add_zero, Nat.zero_add, inR_t, isIx_t, bI_t, bI_f, neg1, q_clr, h.c0, pM_isThere h w.1, isSt_n w.1, hs, e, f_X7_least_J46]
            exact ih
          · rw [sel_n hx (decide_eq_false hc)] at ih
            simp only [selI, selV] at ih ⊢
            simp (disch := omega) only [nm_s, bd_s, bd2_s, bd3_s, bd4_s, q_gt, q_inB, ↓q_m1, l_166, l_172, l_180, l_188, l_189, l_190, l_191, l_192, l_14, l_17, l_18, l_0, l_1, l_2, l_3, l_4, l_5, l_6, l_7, l_8, l_9, l_10, l_11, l_12, l_20, l_21, l_30, l_31, l_32, l_40, l_48, l_50, l_51, l_57, l_60, l_70, l_71, l_99, l_100, l_101, l_160, l_199, l_200, l_999, l_1000, q_tn, q_add, q_mul, q_sub, q_le, q_lt, q_eq, q_31, n_and, n_or, n_xor, q_shl, q_z, q_b0, q_b1, q_bz, q_em, q_me, q_mm, q_lm, q_ml, q_mle, q_lem, s2_eq, s2_ne, pk_us, pk_un, uN_s, uN_n, if_pos, if_neg, ite_true, ite_false, if_true, if_false, not_true, not_false_iff, Nat.add_zero, Nat.zero_add, inR_t, isIx_t, bI_t, bI_f, neg1, q_clr, h.c0, pM_isThere h w.1, isSt_n w.1, hs, e, f_X7_least_J46]
            exact ih
    · have : i = aP g := by omega
      subst this
      simp (disch := omega) only [nm_s, bd_s, bd2_s, bd3_s, bd4_s, q_gt, q_inB, ↓q_m1, l_166, l_172, l_180, l_188, l_189, l_190, l_191, l_192, l_14, l_17, l_18, l_0, l_1, l_2, l_3, l_4, l_5, l_6, l_7, l_8, l_9, l_10, l_11, l_12, l_20, l_21, l_30, l_31, l_32, l_40, l_48, l_50, l_51, l_57, l_60, l_70, l_71, l_99, l_100, l_101, l_160, l_199, l_200, l_999, l_1000, q_tn, q_add, q_mul, q_sub, q_le, q_lt, q_eq, q_31, n_and, n_or, n_xor, q_shl, q_z, q_b0, q_b1, q_bz, q_em, q_me, q_mm, q_lm, q_ml, q_mle, q_lem, s2_eq, s2_ne, pk_us, pk_un, uN_s, uN_n, if_pos, if_neg, ite_true, ite_false, if_true, if_false, not_true, not_false_iff, Nat.add_zero, Nat.zero_add, inR_t, isIx_t, bI_t, bI_f, neg1, q_clr, h.c0]
      exact ⟨_, rfl, h, SmK_rfl _, rfl⟩
end GR
section SC
variable {B : Nat} {so r0 r1 : GS} {rw : Nat → GS} {re : Nat → Nat → Int64} {sv sm : GS} {sq : Nat → Int64}
-- nothing but scratch has changed
theorem Inv_scr {g : AG} {sm' : GS} (I : Inv B so r0 r1 rw re sv sm sq) (h : RepR g r0) (w : Wf B g) (hs : Shs so rw re sm sq (aP g)) (m : RepM g sm') (k : SmK sm sm') (hd : r0 0 17 = sm' 0 18) : Inv B so r0 r1 rw re sv sm' sq := by
  have hB := B_ok I
  obtain ⟨g1, ⟨h1, m1, w1, hd1⟩, hf, hs1, hc, ht, hi⟩ := I
  exact Inv_range hs hf hc ht hi (Nat.le_refl _) hB k h m w hd (Nat.le_refl _)
theorem sim_yields (I : Inv B so r0 r1 rw re sv sm sq) (hB : B ≤ 19000000) (sk : GS) (x1 : Int32) : SimP (f_X6_yields so r0 sk x1) (f_X7_yields sm x1) (fun x y => x.1 = y.1 ∧ Inv B x.2.1 r0 r1 rw re sv y.2 sq) := by
  have I0 := I
  obtain ⟨g, ⟨h, m, w, hd⟩, hf, hs, hc, ht, hi⟩ := I
  unfold f_X6_yields f_X7_yields
  rcases in3 x1 0 200 (by omega) (by omega) with ⟨q1, q⟩ | ⟨q1, q2, q⟩ | ⟨n, _, hn, rfl, _⟩
  · simp (disch := omega) only [nm_s, bd_s, bd2_s, bd3_s, bd4_s, q_gt, q_inB, ↓q_m1, l_166, l_172, l_180, l_188, l_189, l_190, l_191, l_192, l_14, l_17, l_18, l_0, l_1, l_2, l_3, l_4, l_5, l_6, l_7, l_8, l_9, l_10, l_11, l_12, l_20, l_21, l_30, l_31, l_32, l_40, l_48, l_50, l_51, l_57, l_60, l_70, l_71, l_99, l_100, l_101, l_160, l_199, l_200, l_999, l_1000, q_tn, q_add, q_mul, q_sub, q_le, q_lt, q_eq, q_31, n_and, n_or, n_xor, q_shl, q_z, q_b0, q_b1, q_bz, q_em, q_me, q_mm, q_lm, q_ml, q_mle, q_lem, s2_eq, s2_ne, pk_us, pk_un, uN_s, uN_n, if_pos, if_neg, ite_true, ite_false, if_true, if_false, not_true, not_false_iff, Nat.add_zero, Nat.zero_add, inR_t, isIx_t, bI_t, bI_f, neg1, q_clr, q1, pM_within, q, f_X6_yields_J11, r6_, r7_]
    exact sim_i ⟨rfl, Inv_ref I0 (by omega)⟩
  · simp (disch := omega) only [nm_s, bd_s, bd2_s, bd3_s, bd4_s, q_gt, q_inB, ↓q_m1, l_166, l_172, l_180, l_188, l_189, l_190, l_191, l_192, l_14, l_17, l_18, l_0, l_1, l_2, l_3, l_4, l_5, l_6, l_7, l_8, l_9, l_10, l_11, l_12, l_20, l_21, l_30, l_31, l_32, l_40, l_48, l_50, l_51, l_57, l_60, l_70, l_71, l_99, l_100, l_101, l_160, l_199, l_200, l_999, l_1000, q_tn, q_add, q_mul, q_sub, q_le, q_lt, q_eq, q_31, n_and, n_or, n_xor, q_shl, q_z, q_b0, q_b1, q_bz, q_em, q_me, q_mm, q_lm, q_ml, q_mle, q_lem, s2_eq, s2_ne, pk_us, pk_un, uN_s, uN_n, if_pos, if_neg, ite_true, ite_false, if_true, if_false, not_true, not_false_iff, Nat.add_zero, Nat.zero_add, inR_t, isIx_t, bI_t, bI_f, neg1, q_clr, q1, q2, pM_within, q, f_X6_yields_J11, r6_, r7_]
    exact sim_i ⟨rfl, Inv_ref I0 (by omega)⟩
  · obtain ⟨k, e, hk⟩ := pK_look (sk := sk) h w.1 hn
    simp (disch := omega) only [nm_s, bd_s, bd2_s, bd3_s, bd4_s, q_gt, q_inB, ↓q_m1, l_166, l_172, l_180, l_188, l_189, l_190, l_191, l_192, l_14, l_17, l_18, l_0, l_1, l_2, l_3, l_4, l_5, l_6, l_7, l_8, l_9, l_10, l_11, l_12, l_20, l_21, l_30, l_31, l_32, l_40, l_48, l_50, l_51, l_57, l_60, l_70, l_71, l_99, l_100, l_101, l_160, l_199, l_200, l_999, l_1000, q_tn, q_add, q_mul, q_sub, q_le, q_lt, q_eq, q_31, n_and, n_or, n_xor, q_shl, q_z, q_b0, q_b1, q_bz, q_em, q_me, q_mm, q_lm, q_ml, q_mle, q_lem, s2_eq, s2_ne, pk_us, pk_un, uN_s, uN_n, if_pos, if_neg, ite_true, ite_false, if_true, if_false, not_true, not_false_iff, Nat.add_zero, Nat.zero_add, inR_t, isIx_t, bI_t, bI_f, neg1, q_clr, pM_within, e, pK_yield h w.1 hn hk, pM_yieldOf m w.1, yieldW_0]
    exact sim_i ⟨rfl, I0⟩
theorem sim_grief (I : Inv B so r0 r1 rw re sv sm sq) (x1 : Int32) : SimP (f_X6_grief so r0 x1) (f_X7_grief sm x1) (fun x y => x.1 = y.1 ∧ Inv B x.2 r0 r1 rw re sv y.2 sq) := by
  have I0 := I
  obtain ⟨g, ⟨h, m, w, hd⟩, hf, hs, hc, ht, hi⟩ := I
  have hP := w.1.1.1
  have hY := w.1.1.2.2.2
  unfold f_X6_grief f_X7_grief
  rcases ixl x1 (aP g) (by omega) with p0 | ⟨p, hp, rfl, p1⟩
  · simp (disch := omega) only [nm_s, bd_s, bd2_s, bd3_s, bd4_s, q_gt, q_inB, ↓q_m1, l_166, l_172, l_180, l_188, l_189, l_190, l_191, l_192, l_14, l_17, l_18, l_0, l_1, l_2, l_3, l_4, l_5, l_6, l_7, l_8, l_9, l_10, l_11, l_12, l_20, l_21, l_30, l_31, l_32, l_40, l_48, l_50, l_51, l_57, l_60, l_70, l_71, l_99, l_100, l_101, l_160, l_199, l_200, l_999, l_1000, q_tn, q_add, q_mul, q_sub, q_le, q_lt, q_eq, q_31, n_and, n_or, n_xor, q_shl, q_z, q_b0, q_b1, q_bz, q_em, q_me, q_mm, q_lm, q_ml, q_mle, q_lem, s2_eq, s2_ne, pk_us, pk_un, uN_s, uN_n, if_pos, if_neg, ite_true, ite_false, if_true, if_false, not_true, not_false_iff, Nat.add_zero, Nat.zero_add, inR_t, isIx_t, bI_t, bI_f, neg1, q_clr, pR_isPeak h, pM_isPeak m w.1, p0, r6_, r7_1]
    exact sim_i ⟨rfl, Inv_ref I0 (by omega)⟩
  · cases hst : stB g p with
    | false =>
      simp (disch := omega) only [nm_s, bd_s, bd2_s, bd3_s, bd4_s, q_gt, q_inB, ↓q_m1, l_166, l_172, l_180, l_188, l_189, l_190, l_191, l_192, l_14, l_17, l_18, l_0, l_1, l_2, l_3, l_4, l_5, l_6, l_7, l_8, l_9, l_10, l_11, l_12, l_20, l_21, l_30, l_31, l_32, l_40, l_48, l_50, l_51, l_57, l_60, l_70, l_71, l_99, l_100, l_101, l_160, l_199, l_200, l_999, l_1000, q_tn, q_add, q_mul, q_sub, q_le, q_lt, q_eq, q_31, n_and, n_or, n_xor, q_shl, q_z, q_b0, q_b1, q_bz, q_em, q_me, q_mm, q_lm, q_ml, q_mle, q_lem, s2_eq, s2_ne, pk_us, pk_un, uN_s, uN_n, if_pos, if_neg, ite_true, ite_false, if_true, if_false, not_true, not_false_iff, Nat.add_zero, Nat.zero_add, inR_t, isIx_t, bI_t, bI_f, neg1, q_clr, pR_isPeak h, pM_isPeak m w.1, pR_isStanding h w.1, pM_isThere m w.1, isSt_n w.1, hst, r6_, r7_]
      exact sim_i ⟨rfl, Inv_ref I0 (by omega)⟩
    | true =>
      obtain ⟨u, e, h1, h2, h3⟩ := pM_griefOf m w hp hst
      simp (disch := omega) only [nm_s, bd_s, bd2_s, bd3_s, bd4_s, q_gt, q_inB, ↓q_m1, l_166, l_172, l_180, l_188, l_189, l_190, l_191, l_192, l_14, l_17, l_18, l_0, l_1, l_2, l_3, l_4, l_5, l_6, l_7, l_8, l_9, l_10, l_11, l_12, l_20, l_21, l_30, l_31, l_32, l_40, l_48, l_50, l_51, l_57, l_60, l_70, l_71, l_99, l_100, l_101, l_160, l_199, l_200, l_999, l_1000, q_tn, q_add, q_mul, q_sub, q_le, q_lt, q_eq, q_31, n_and, n_or, n_xor, q_shl, q_z, q_b0, q_b1, q_bz, q_em, q_me, q_mm, q_lm, q_ml, q_mle, q_lem, s2_eq, s2_ne, pk_us, pk_un, uN_s, uN_n, if_pos, if_neg, ite_true, ite_false, if_true, if_false, not_true, not_false_iff, Nat.add_zero, Nat.zero_add, inR_t, isIx_t, bI_t, bI_f, neg1, q_clr, pR_isPeak h, pM_isPeak m w.1, pR_isStanding h w.1, pM_isThere m w.1, isSt_n w.1, hst, h.cy, pR_griefOf h w.1, e]
      exact sim_i ⟨rfl, Inv_scr I0 h w hs h1 h2 (hd.trans h3.symm)⟩
theorem sim_least (I : Inv B so r0 r1 rw re sv sm sq) : SimP (f_X6_least r0) (f_X7_least sm) (fun x y => x = y.1 ∧ Inv B so r0 r1 rw re sv y.2 sq) := by
  have I0 := I
  obtain ⟨g, ⟨h, m, w, hd⟩, hf, hs, hc, ht, hi⟩ := I
  have hP := w.1.1.1
  obtain ⟨u, e, h1, h2, h3⟩ := pM_least_L6 w 2000 0 sm m (by omega) (by omega)
  have e2 : f_X7_least sm = some (selI (sel (stB g) (minL fun p => griefA g p (aY g)) (aP g)), u) := e
  rw [pR_least h w.1, e2]
  exact sim_i ⟨rfl, Inv_scr I0 h w hs h1 h2 (hd.trans h3.symm)⟩
theorem sim_send (I : Inv B so r0 r1 rw re sv sm sq) : SimP (f_X6_send r0) (f_X7_send sm) (fun x y => x = y) := by
  obtain ⟨g, ⟨h, m, w, hd⟩, hf, hs, hc, ht, hi⟩ := I
  rw [pR_send h w.1, pM_send m w.1]
  exact sim_i rfl
theorem sim_fault (I : Inv B so r0 r1 rw re sv sm sq) : SimP (f_X6_fault so) (f_X7_fault sm) (fun x y => x = y) := by
  obtain ⟨g, ⟨h, m, w, hd⟩, hf, hs, hc, ht, hi⟩ := I
  exact sim_i hf
theorem sim_holds (I : Inv B so r0 r1 rw re sv sm sq) (x1 : Int32) : SimP (f_X6_holds so x1) (f_X7_holds sm x1) (fun x y => x = y) := by
  obtain ⟨g, ⟨h, m, w, hd⟩, hf, hs, hc, ht, hi⟩ := I
  unfold f_X6_holds f_X7_holds
  rcases ixl x1 8 (by omega) with p0 | ⟨p, hp, rfl, p1⟩
  · simp (disch := omega) only [nm_s, bd_s, bd2_s, bd3_s, bd4_s, q_gt, q_inB, ↓q_m1, l_166, l_172, l_180, l_188, l_189, l_190, l_191, l_192, l_14, l_17, l_18, l_0, l_1, l_2, l_3, l_4, l_5, l_6, l_7, l_8, l_9, l_10, l_11, l_12, l_20, l_21, l_30, l_31, l_32, l_40, l_48, l_50, l_51, l_57, l_60, l_70, l_71, l_99, l_100, l_101, l_160, l_199, l_200, l_999, l_1000, q_tn, q_add, q_mul, q_sub, q_le, q_lt, q_eq, q_31, n_and, n_or, n_xor, q_shl, q_z, q_b0, q_b1, q_bz, q_em, q_me, q_mm, q_lm, q_ml, q_mle, q_lem, s2_eq, s2_ne, pk_us, pk_un, uN_s, uN_n, if_pos, if_neg, ite_true, ite_false, if_true, if_false, not_true, not_false_iff, Nat.add_zero, Nat.zero_add, inR_t, isIx_t, bI_t, bI_f, neg1, q_clr, p6_isShelf, w7_sh, p0]
    exact sim_i rfl
  · simp (disch := omega) only [nm_s, bd_s, bd2_s, bd3_s, bd4_s, q_gt, q_inB, ↓q_m1, l_166, l_172, l_180, l_188, l_189, l_190, l_191, l_192, l_14, l_17, l_18, l_0, l_1, l_2, l_3, l_4, l_5, l_6, l_7, l_8, l_9, l_10, l_11, l_12, l_20, l_21, l_30, l_31, l_32, l_40, l_48, l_50, l_51, l_57, l_60, l_70, l_71, l_99, l_100, l_101, l_160, l_199, l_200, l_999, l_1000, q_tn, q_add, q_mul, q_sub, q_le, q_lt, q_eq, q_31, n_and, n_or, n_xor, q_shl, q_z, q_b0, q_b1, q_bz, q_em, q_me, q_mm, q_lm, q_ml, q_mle, q_lem, s2_eq, s2_ne, pk_us, pk_un, uN_s, uN_n, if_pos, if_neg, ite_true, ite_false, if_true, if_false, not_true, not_false_iff, Nat.add_zero, Nat.zero_add, inR_t, isIx_t, bI_t, bI_f, neg1, q_clr, p6_isShelf, w7_sh, p1]
    exact sim_i (hs p hp).1
theorem sim_trace (I : Inv B so r0 r1 rw re sv sm sq) (x1 : Int32) : SimP (f_X6_trace sv x1) (f_X7_trace sm x1) (fun x y => x = y) := by
  obtain ⟨g, ⟨h, m, w, hd⟩, hf, hs, hc, ⟨t, t1, t2, t3, t4⟩, hi⟩ := I
  unfold f_X6_trace f_X7_trace
  by_cases q1 : x1 < nI 0
  · simp (disch := omega) only [nm_s, bd_s, bd2_s, bd3_s, bd4_s, q_gt, q_inB, ↓q_m1, l_166, l_172, l_180, l_188, l_189, l_190, l_191, l_192, l_14, l_17, l_18, l_0, l_1, l_2, l_3, l_4, l_5, l_6, l_7, l_8, l_9, l_10, l_11, l_12, l_20, l_21, l_30, l_31, l_32, l_40, l_48, l_50, l_51, l_57, l_60, l_70, l_71, l_99, l_100, l_101, l_160, l_199, l_200, l_999, l_1000, q_tn, q_add, q_mul, q_sub, q_le, q_lt, q_eq, q_31, n_and, n_or, n_xor, q_shl, q_z, q_b0, q_b1, q_bz, q_em, q_me, q_mm, q_lm, q_ml, q_mle, q_lem, s2_eq, s2_ne, pk_us, pk_un, uN_s, uN_n, if_pos, if_neg, ite_true, ite_false, if_true, if_false, not_true, not_false_iff, Nat.add_zero, Nat.zero_add, inR_t, isIx_t, bI_t, bI_f, neg1, q_clr, q1]
    exact sim_i rfl
  · obtain ⟨v, hv, rfl⟩ := nn_of q1
    by_cases q2 : t ≤ v
    · simp (disch := omega) only [nm_s, bd_s, bd2_s, bd3_s, bd4_s, q_gt, q_inB, ↓q_m1, l_166, l_172, l_180, l_188, l_189, l_190, l_191, l_192, l_14, l_17, l_18, l_0, l_1, l_2, l_3, l_4, l_5, l_6, l_7, l_8, l_9, l_10, l_11, l_12, l_20, l_21, l_30, l_31, l_32, l_40, l_48, l_50, l_51, l_57, l_60, l_70, l_71, l_99, l_100, l_101, l_160, l_199, l_200, l_999, l_1000, q_tn, q_add, q_mul, q_sub, q_le, q_lt, q_eq, q_31, n_and, n_or, n_xor, q_shl, q_z, q_b0, q_b1, q_bz, q_em, q_me, q_mm, q_lm, q_ml, q_mle, q_lem, s2_eq, s2_ne, pk_us, pk_un, uN_s, uN_n, if_pos, if_neg, ite_true, ite_false, if_true, if_false, not_true, not_false_iff, Nat.add_zero, Nat.zero_add, inR_t, isIx_t, bI_t, bI_f, neg1, q_clr, t2, t3]
      exact sim_i rfl
    · by_cases q3 : 20 ≤ v
      · simp (disch := omega) only [nm_s, bd_s, bd2_s, bd3_s, bd4_s, q_gt, q_inB, ↓q_m1, l_166, l_172, l_180, l_188, l_189, l_190, l_191, l_192, l_14, l_17, l_18, l_0, l_1, l_2, l_3, l_4, l_5, l_6, l_7, l_8, l_9, l_10, l_11, l_12, l_20, l_21, l_30, l_31, l_32, l_40, l_48, l_50, l_51, l_57, l_60, l_70, l_71, l_99, l_100, l_101, l_160, l_199, l_200, l_999, l_1000, q_tn, q_add, q_mul, q_sub, q_le, q_lt, q_eq, q_31, n_and, n_or, n_xor, q_shl, q_z, q_b0, q_b1, q_bz, q_em, q_me, q_mm, q_lm, q_ml, q_mle, q_lem, s2_eq, s2_ne, pk_us, pk_un, uN_s, uN_n, if_pos, if_neg, ite_true, ite_false, if_true, if_false, not_true, not_false_iff, Nat.add_zero, Nat.zero_add, inR_t, isIx_t, bI_t, bI_f, neg1, q_clr, t2, t3]
        exact sim_i rfl
      · simp (disch := omega) only [nm_s, bd_s, bd2_s, bd3_s, bd4_s, q_gt, q_inB, ↓q_m1, l_166, l_172, l_180, l_188, l_189, l_190, l_191, l_192, l_14, l_17, l_18, l_0, l_1, l_2, l_3, l_4, l_5, l_6, l_7, l_8, l_9, l_10, l_11, l_12, l_20, l_21, l_30, l_31, l_32, l_40, l_48, l_50, l_51, l_57, l_60, l_70, l_71, l_99, l_100, l_101, l_160, l_199, l_200, l_999, l_1000, q_tn, q_add, q_mul, q_sub, q_le, q_lt, q_eq, q_31, n_and, n_or, n_xor, q_shl, q_z, q_b0, q_b1, q_bz, q_em, q_me, q_mm, q_lm, q_ml, q_mle, q_lem, s2_eq, s2_ne, pk_us, pk_un, uN_s, uN_n, if_pos, if_neg, ite_true, ite_false, if_true, if_false, not_true, not_false_iff, Nat.add_zero, Nat.zero_add, inR_t, isIx_t, bI_t, bI_f, neg1, q_clr, t2, t3, t4]
        exact sim_i rfl
end SC
