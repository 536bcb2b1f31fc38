-- the reference: milk, years, counts, fires, chains
def yieldA (g : AG) (y n : Nat) : Nat := sumF (fun i => milkS g (black g (y + i))) n
theorem pc_all : ∀ m, m < 1024 → f_J6_bitCount_0f7a4 (nI m) = some (nI (cntF m.testBit 10)) := by decide +kernel
theorem cnt_ext {a P : Nat} (ha : a < 2 ^ P) : ∀ d, cntF a.testBit (P + d) = cntF a.testBit P
  | 0 => rfl
  | d + 1 => by
    rw [show P + (d + 1) = (P + d) + 1 by omega, cntF_n (tb_hi ha (by omega)), cnt_ext ha d]
theorem pc_of {a P : Nat} (ha : a < 2 ^ P) (hP : P ≤ 10) : f_J6_bitCount_0f7a4 (nI a) = some (nI (cntF a.testBit P)) := by
  have h1 : a < 1024 := Nat.lt_of_lt_of_le ha (by
    have := Nat.pow_le_pow_right (n := 2) (by omega) hP
    omega)
  rw [pc_all a h1]
  have := cnt_ext ha (10 - P)
  rw [show P + (10 - P) = 10 by omega] at this
  rw [this]
theorem yr_back {s : GS} {y : Nat} {v : Int32} (h : s 0 17 = nI y) : s2 (s2 s 0 (upd (s 0) 17 v)) 0 (upd (upd (s 0) 17 v) 17 (nI y)) = s := by
  rw [s2_s2]
  funext k
  by_cases hk : k = 0
  · rw [hk, s2_eq]
    funext j
    by_cases hj : j = 17
    · rw [hj, pk_us, h]
    · rw [pk_un hj, pk_un hj]
  · rw [s2_ne hk]
theorem crt_cg {g g' : AG} (h1 : g' 1 = g 1) (h7 : g' 7 = g 7) (m : Nat) : ∀ n, crt g' m n = crt g m n
  | 0 => rfl
  | n + 1 => by
    rw [crt, crt, crt_cg h1 h7 m n, h1, h7]
theorem blkIt_cg {g g' : AG} (h0 : aP g' = aP g) (h1 : g' 1 = g 1) (h7 : g' 7 = g 7) : ∀ n m, blkIt g' m n = blkIt g m n
  | 0, m => rfl
  | n + 1, m => by
    rw [blkIt, blkIt, crt_cg h1 h7, h0, blkIt_cg h0 h1 h7 n]
theorem black_cg {g g' : AG} {y : Nat} (h0 : aP g' = aP g) (h1 : g' 1 = g 1) (h5 : g' 5 = g 5) (h6 : g' 6 = g 6) (h7 : g' 7 = g 7) : black g' y = black g y := by
  unfold black blk0 mournM polM stB aW
  rw [blkIt_cg h0 h1 h7, h0, h1, h5, h6, h7]
theorem black_setY (g : AG) (y' y : Nat) : black (setY g y') y = black g y := black_cg rfl rfl rfl rfl rfl
theorem milkS_setY (g : AG) (y' b : Nat) : milkS (setY g y') b = milkS g b := rfl
theorem grief_setY (g : AG) (y' l y : Nat) : griefA (setY g y') l y = griefA g l y := rfl
section RQ2
variable {B : Nat} {g : AG} {s : GS}
theorem setY_w {y : Nat} (w : Wf B g) (h1 : aY g ≤ y) (h2 : B ≤ y) (h3 : y ≤ 20000000) : Wf y (setY g y) := ⟨setY_wf (Wf.mono w.1 h2 h3) h1 (Nat.le_refl _), setY_v w.2⟩
theorem pM_gives (h : RepM g s) (w : WfN B g) {v b : Nat} (hv : v < aV g) : f_X7_gives s (nI v) (nI b) = some (nI (milkA g v b)) := by
  have hV := w.1.2.2.1
  have hu := Wf.ult w hv
  have hle : g 12 v &&& b ≤ g 12 v := Nat.and_le_left
  unfold f_X7_gives milkA
  by_cases hz : g 12 v &&& b = 0
  · simp (disch := omega) only [nm_s, bd_s, bd2_s, bd3_s, bd4_s, q_gt, q_inB, ↓q_m1, l_166, l_172, l_180, l_188, l_189, l_190, l_191, l_192, l_14, l_17, l_18, l_0, l_1, l_2, l_3, l_4, l_5, l_6, l_7, l_8, l_9, l_10, l_11, l_12, l_20, l_21, l_30, l_31, l_32, l_40, l_48, l_50, l_51, l_57, l_60, l_70, l_71, l_99, l_100, l_101, l_160, l_199, l_200, l_999, l_1000, q_tn, q_add, q_mul, q_sub, q_le, q_lt, q_eq, q_31, n_and, n_or, n_xor, q_shl, q_z, q_b0, q_b1, q_bz, q_em, q_me, q_mm, q_lm, q_ml, q_mle, q_lem, s2_eq, s2_ne, pk_us, pk_un, uN_s, uN_n, if_pos, if_neg, ite_true, ite_false, if_true, if_false, not_true, not_false_iff, Nat.add_zero, Nat.zero_add, h.c17, h.c16, hz]
  · simp (disch := omega) only [nm_s, bd_s, bd2_s, bd3_s, bd4_s, q_gt, q_inB, ↓q_m1, l_166, l_172, l_180, l_188, l_189, l_190, l_191, l_192, l_14, l_17, l_18, l_0, l_1, l_2, l_3, l_4, l_5, l_6, l_7, l_8, l_9, l_10, l_11, l_12, l_20, l_21, l_30, l_31, l_32, l_40, l_48, l_50, l_51, l_57, l_60, l_70, l_71, l_99, l_100, l_101, l_160, l_199, l_200, l_999, l_1000, q_tn, q_add, q_mul, q_sub, q_le, q_lt, q_eq, q_31, n_and, n_or, n_xor, q_shl, q_z, q_b0, q_b1, q_bz, q_em, q_me, q_mm, q_lm, q_ml, q_mle, q_lem, s2_eq, s2_ne, pk_us, pk_un, uN_s, uN_n, if_pos, if_neg, ite_true, ite_false, if_true, if_false, not_true, not_false_iff, Nat.add_zero, Nat.zero_add, h.c17, h.c16]
theorem pM_allMilk_L9 (h : RepM g s) (w : WfN B g) {b : Nat} : ∀ (n i : Nat), i ≤ aV g → aV g - i < n → f_X7_allMilk_L9 s (nI b) n (nI (sumF (fun v => milkA g v b) i)) (nI i) = some (nI (milkS g b))
  | 0, i, _, h2 => by omega
  | n + 1, i, h1, h2 => by
    have hV := w.1.2.2.1
    rw [f_X7_allMilk_L9.eq_2]
    by_cases hi : i < aV g
    · simp (disch := omega) only [nm_s, bd_s, bd2_s, bd3_s, bd4_s, q_gt, q_inB, ↓q_m1, l_166, l_172, l_180, l_188, l_189, l_190, l_191, l_192, l_14, l_17, l_18, l_0, l_1, l_2, l_3, l_4, l_5, l_6, l_7, l_8, l_9, l_10, l_11, l_12, l_20, l_21, l_30, l_31, l_32, l_40, l_48, l_50, l_51, l_57, l_60, l_70, l_71, l_99, l_100, l_101, l_160, l_199, l_200, l_999, l_1000, q_tn, q_add, q_mul, q_sub, q_le, q_lt, q_eq, q_31, n_and, n_or, n_xor, q_shl, q_z, q_b0, q_b1, q_bz, q_em, q_me, q_mm, q_lm, q_ml, q_mle, q_lem, s2_eq, s2_ne, pk_us, pk_un, uN_s, uN_n, if_pos, if_neg, ite_true, ite_false, if_true, if_false, not_true, not_false_iff, Nat.add_zero, Nat.zero_add, h.cv, pM_gives h w]
      exact pM_allMilk_L9 h w n (i + 1) (by omega) (by omega)
    · have : i = aV g := by omega
      subst this
      simp (disch := omega) only [nm_s, bd_s, bd2_s, bd3_s, bd4_s, q_gt, q_inB, ↓q_m1, l_166, l_172, l_180, l_188, l_189, l_190, l_191, l_192, l_14, l_17, l_18, l_0, l_1, l_2, l_3, l_4, l_5, l_6, l_7, l_8, l_9, l_10, l_11, l_12, l_20, l_21, l_30, l_31, l_32, l_40, l_48, l_50, l_51, l_57, l_60, l_70, l_71, l_99, l_100, l_101, l_160, l_199, l_200, l_999, l_1000, q_tn, q_add, q_mul, q_sub, q_le, q_lt, q_eq, q_31, n_and, n_or, n_xor, q_shl, q_z, q_b0, q_b1, q_bz, q_em, q_me, q_mm, q_lm, q_ml, q_mle, q_lem, s2_eq, s2_ne, pk_us, pk_un, uN_s, uN_n, if_pos, if_neg, ite_true, ite_false, if_true, if_false, not_true, not_false_iff, Nat.add_zero, Nat.zero_add, h.cv]
      rfl
theorem pM_allMilk (h : RepM g s) (w : WfN B g) : f_X7_allMilk s = some (nI (milkS g (black g (aY g)))) := by
  unfold f_X7_allMilk
  rw [pM_blacks h w, bd_s]
  exact pM_allMilk_L9 h w 2000 0 (by omega) (by have := w.1.2.2.1; omega)
theorem pM_blacksAt (h : RepM g s) (w : WfN B g) (y : Nat) (hy : aY g ≤ y) (hy2 : y ≤ 20000000) : f_X7_blacks (s2 s 0 (upd (s 0) 17 (nI y))) = some (nI (black g y)) := by
  have h1 := pM_blacks (pM_setY h (y := y)) (setY_wf (Wf.mono w (show B ≤ max B y by omega) (by have := w.1.2.2.2.2.1; omega)) hy (by omega))
  rw [h1, black_setY]
  rfl
theorem pM_allMilkAt (h : RepM g s) (w : WfN B g) (y : Nat) (hy : aY g ≤ y) (hy2 : y ≤ 20000000) : f_X7_allMilk (s2 s 0 (upd (s 0) 17 (nI y))) = some (nI (milkS g (black g y))) := by
  have h1 := pM_allMilk (pM_setY h (y := y)) (setY_wf (Wf.mono w (show B ≤ max B y by omega) (by have := w.1.2.2.2.2.1; omega)) hy (by omega))
  rw [h1, black_setY]
  rfl
theorem pM_blacksBehind (h : RepM g s) (w : WfN B g) {n : Nat} (hB : B ≤ 19000000) (hn : n ≤ 1000) : f_X7_blacksBehind s (nI n) = some (nI (black g (aY g + n)), s) := by
  have hY := w.1.2.2.2.1
  unfold f_X7_blacksBehind
  simp (disch := omega) only [nm_s, bd_s, bd2_s, bd3_s, bd4_s, q_gt, q_inB, ↓q_m1, l_166, l_172, l_180, l_188, l_189, l_190, l_191, l_192, l_14, l_17, l_18, l_0, l_1, l_2, l_3, l_4, l_5, l_6, l_7, l_8, l_9, l_10, l_11, l_12, l_20, l_21, l_30, l_31, l_32, l_40, l_48, l_50, l_51, l_57, l_60, l_70, l_71, l_99, l_100, l_101, l_160, l_199, l_200, l_999, l_1000, q_tn, q_add, q_mul, q_sub, q_le, q_lt, q_eq, q_31, n_and, n_or, n_xor, q_shl, q_z, q_b0, q_b1, q_bz, q_em, q_me, q_mm, q_lm, q_ml, q_mle, q_lem, s2_eq, s2_ne, pk_us, pk_un, uN_s, uN_n, if_pos, if_neg, ite_true, ite_false, if_true, if_false, not_true, not_false_iff, Nat.add_zero, Nat.zero_add, h.cy, pM_blacksAt h w]
  rw [show aY g + n - n = aY g by omega, yr_back h.cy]
theorem pM_yieldOf_L4 (h : RepM g s) (w : WfN B g) {n : Nat} (hB : B ≤ 19000000) (hn : n ≤ 1000) : ∀ (m i : Nat), i ≤ n → n - i < m → f_X7_yieldOf_L4 (nI n) m (nI (yieldA g (aY g) i)) (nI i) (s2 s 0 (upd (s 0) 17 (nI (aY g + i)))) = some (nI (yieldA g (aY g) n), s)
  | 0, i, _, h2 => by omega
  | m + 1, i, h1, h2 => by
    have hY := w.1.2.2.2.1
    rw [f_X7_yieldOf_L4.eq_2]
    by_cases hi : i < n
    · simp (disch := omega) only [nm_s, bd_s, bd2_s, bd3_s, bd4_s, q_gt, q_inB, ↓q_m1, l_166, l_172, l_180, l_188, l_189, l_190, l_191, l_192, l_14, l_17, l_18, l_0, l_1, l_2, l_3, l_4, l_5, l_6, l_7, l_8, l_9, l_10, l_11, l_12, l_20, l_21, l_30, l_31, l_32, l_40, l_48, l_50, l_51, l_57, l_60, l_70, l_71, l_99, l_100, l_101, l_160, l_199, l_200, l_999, l_1000, q_tn, q_add, q_mul, q_sub, q_le, q_lt, q_eq, q_31, n_and, n_or, n_xor, q_shl, q_z, q_b0, q_b1, q_bz, q_em, q_me, q_mm, q_lm, q_ml, q_mle, q_lem, s2_eq, s2_ne, pk_us, pk_un, uN_s, uN_n, if_pos, if_neg, ite_true, ite_false, if_true, if_false, not_true, not_false_iff, Nat.add_zero, Nat.zero_add, pM_allMilkAt h w]
      have ih := pM_yieldOf_L4 h w hB hn m (i + 1) (by omega) (by omega)
      rw [s2_s2]
      have e : upd (upd (s 0) 17 (nI (aY g + i))) 17 (nI (aY g + i + 1)) = upd (s 0) 17 (nI (aY g + (i + 1))) := by
        funext j
        by_cases hj : j = 17
        · rw [hj, pk_us, pk_us]; rfl
        · rw [pk_un hj, pk_un hj, pk_un hj]
      rw [e]
      exact ih
    · have : i = n := by omega
      subst this
      simp (disch := omega) only [nm_s, bd_s, bd2_s, bd3_s, bd4_s, q_gt, q_inB, ↓q_m1, l_166, l_172, l_180, l_188, l_189, l_190, l_191, l_192, l_14, l_17, l_18, l_0, l_1, l_2, l_3, l_4, l_5, l_6, l_7, l_8, l_9, l_10, l_11, l_12, l_20, l_21, l_30, l_31, l_32, l_40, l_48, l_50, l_51, l_57, l_60, l_70, l_71, l_99, l_100, l_101, l_160, l_199, l_200, l_999, l_1000, q_tn, q_add, q_mul, q_sub, q_le, q_lt, q_eq, q_31, n_and, n_or, n_xor, q_shl, q_z, q_b0, q_b1, q_bz, q_em, q_me, q_mm, q_lm, q_ml, q_mle, q_lem, s2_eq, s2_ne, pk_us, pk_un, uN_s, uN_n, if_pos, if_neg, ite_true, ite_false, if_true, if_false, not_true, not_false_iff, Nat.add_zero, Nat.zero_add]
      rw [show aY g + i - i = aY g by omega, yr_back h.cy]
theorem pM_yieldOf (h : RepM g s) (w : WfN B g) {n : Nat} (hB : B ≤ 19000000) (hn : n ≤ 1000) : f_X7_yieldOf s (nI n) = some (nI (yieldA g (aY g) n), s) := by
  have h1 := pM_yieldOf_L4 h w hB hn 2000 0 (by omega) (by omega)
  have e : s2 s 0 (upd (s 0) 17 (nI (aY g + 0))) = s := by
    funext k
    by_cases hk : k = 0
    · rw [hk, s2_eq]
      funext j
      by_cases hj : j = 17
      · rw [hj, pk_us, h.cy]; rfl
      · rw [pk_un hj]
    · rw [s2_ne hk]
  rw [e] at h1
  exact h1
theorem pM_standing_L4 (h : RepM g s) (w : WfN B g) : ∀ (n i : Nat), i ≤ aP g → aP g - i < n → f_X7_standing_L4 s n (nI (cntF (stB g) i)) (nI i) = some (nI (cntF (stB g) (aP g)))
  | 0, i, _, h2 => by omega
  | n + 1, i, h1, h2 => by
    have hP := w.1.1
    rw [f_X7_standing_L4.eq_2]
    by_cases hi : i < aP g
    · have ih := pM_standing_L4 h w n (i + 1) (by omega) (by omega)
      cases hs : stB g i with
      | true =>
        rw [cntF_s hs] at ih
        simp (disch := omega) only [nm_s, bd_s, bd2_s, bd3_s, bd4_s, q_gt, q_inB, ↓q_m1, l_166, l_172, l_180, l_188, l_189, l_190, l_191, l_192, l_14, l_17, l_18, l_0, l_1, l_2, l_3, l_4, l_5, l_6, l_7, l_8, l_9, l_10, l_11, l_12, l_20, l_21, l_30, l_31, l_32, l_40, l_48, l_50, l_51, l_57, l_60, l_70, l_71, l_99, l_100, l_101, l_160, l_199, l_200, l_999, l_1000, q_tn, q_add, q_mul, q_sub, q_le, q_lt, q_eq, q_31, n_and, n_or, n_xor, q_shl, q_z, q_b0, q_b1, q_bz, q_em, q_me, q_mm, q_lm, q_ml, q_mle, q_lem, s2_eq, s2_ne, pk_us, pk_un, uN_s, uN_n, if_pos, if_neg, ite_true, ite_false, if_true, if_false, not_true, not_false_iff, Nat.add_zero, Nat.zero_add, h.c0, h.c9, hs, bI_t]
        exact ih
      | false =>
        rw [cntF_n hs] at ih
        simp (disch := omega) only [nm_s, bd_s, bd2_s, bd3_s, bd4_s, q_gt, q_inB, ↓q_m1, l_166, l_172, l_180, l_188, l_189, l_190, l_191, l_192, l_14, l_17, l_18, l_0, l_1, l_2, l_3, l_4, l_5, l_6, l_7, l_8, l_9, l_10, l_11, l_12, l_20, l_21, l_30, l_31, l_32, l_40, l_48, l_50, l_51, l_57, l_60, l_70, l_71, l_99, l_100, l_101, l_160, l_199, l_200, l_999, l_1000, q_tn, q_add, q_mul, q_sub, q_le, q_lt, q_eq, q_31, n_and, n_or, n_xor, q_shl, q_z, q_b0, q_b1, q_bz, q_em, q_me, q_mm, q_lm, q_ml, q_mle, q_lem, s2_eq, s2_ne, pk_us, pk_un, uN_s, uN_n, if_pos, if_neg, ite_true, ite_false, if_true, if_false, not_true, not_false_iff, Nat.add_zero, Nat.zero_add, h.c0, h.c9, hs, bI_f]
        exact ih
    · have : i = aP g := by omega
      subst this
      simp (disch := omega) only [nm_s, bd_s, bd2_s, bd3_s, bd4_s, q_gt, q_inB, ↓q_m1, l_166, l_172, l_180, l_188, l_189, l_190, l_191, l_192, l_14, l_17, l_18, l_0, l_1, l_2, l_3, l_4, l_5, l_6, l_7, l_8, l_9, l_10, l_11, l_12, l_20, l_21, l_30, l_31, l_32, l_40, l_48, l_50, l_51, l_57, l_60, l_70, l_71, l_99, l_100, l_101, l_160, l_199, l_200, l_999, l_1000, q_tn, q_add, q_mul, q_sub, q_le, q_lt, q_eq, q_31, n_and, n_or, n_xor, q_shl, q_z, q_b0, q_b1, q_bz, q_em, q_me, q_mm, q_lm, q_ml, q_mle, q_lem, s2_eq, s2_ne, pk_us, pk_un, uN_s, uN_n, if_pos, if_neg, ite_true, ite_false, if_true, if_false, not_true, not_false_iff, Nat.add_zero, Nat.zero_add, h.c0]
theorem pM_standing (h : RepM g s) (w : WfN B g) : f_X7_standing s = some (nI (cntF (stB g) (aP g))) :=
  pM_standing_L4 h w 2000 0 (by omega) (by have := w.1.1; omega)
theorem pM_there_L4 (h : RepM g s) (w : WfN B g) : ∀ (n i : Nat), i ≤ aP g → aP g - i < n → f_X7_there_L4 s n (nI (msk (stB g) i)) (nI i) = some (nI (aW g))
  | 0, i, _, h2 => by omega
  | n + 1, i, h1, h2 => by
    have hP := w.1.1
    rw [f_X7_there_L4.eq_2]
    by_cases hi : i < aP g
    · have ih := pM_there_L4 h w n (i + 1) (by omega) (by omega)
      cases hs : stB g i with
      | true =>
        rw [← msk_s hs] at ih
        simp (disch := omega) only [nm_s, bd_s, bd2_s, bd3_s, bd4_s, q_gt, q_inB, ↓q_m1, l_166, l_172, l_180, l_188, l_189, l_190, l_191, l_192, l_14, l_17, l_18, l_0, l_1, l_2, l_3, l_4, l_5, l_6, l_7, l_8, l_9, l_10, l_11, l_12, l_20, l_21, l_30, l_31, l_32, l_40, l_48, l_50, l_51, l_57, l_60, l_70, l_71, l_99, l_100, l_101, l_160, l_199, l_200, l_999, l_1000, q_tn, q_add, q_mul, q_sub, q_le, q_lt, q_eq, q_31, n_and, n_or, n_xor, q_shl, q_z, q_b0, q_b1, q_bz, q_em, q_me, q_mm, q_lm, q_ml, q_mle, q_lem, s2_eq, s2_ne, pk_us, pk_un, uN_s, uN_n, if_pos, if_neg, ite_true, ite_false, if_true, if_false, not_true, not_false_iff, Nat.add_zero, Nat.zero_add, h.c0, h.c9, hs, q_31]
        exact ih
      | false =>
        rw [← msk_n hs] at ih
        simp (disch := omega) only [nm_s, bd_s, bd2_s, bd3_s, bd4_s, q_gt, q_inB, ↓q_m1, l_166, l_172, l_180, l_188, l_189, l_190, l_191, l_192, l_14, l_17, l_18, l_0, l_1, l_2, l_3, l_4, l_5, l_6, l_7, l_8, l_9, l_10, l_11, l_12, l_20, l_21, l_30, l_31, l_32, l_40, l_48, l_50, l_51, l_57, l_60, l_70, l_71, l_99, l_100, l_101, l_160, l_199, l_200, l_999, l_1000, q_tn, q_add, q_mul, q_sub, q_le, q_lt, q_eq, q_31, n_and, n_or, n_xor, q_shl, q_z, q_b0, q_b1, q_bz, q_em, q_me, q_mm, q_lm, q_ml, q_mle, q_lem, s2_eq, s2_ne, pk_us, pk_un, uN_s, uN_n, if_pos, if_neg, ite_true, ite_false, if_true, if_false, not_true, not_false_iff, Nat.add_zero, Nat.zero_add, h.c0, h.c9, hs]
        exact ih
    · have : i = aP g := by omega
      subst this
      simp (disch := omega) only [nm_s, bd_s, bd2_s, bd3_s, bd4_s, q_gt, q_inB, ↓q_m1, l_166, l_172, l_180, l_188, l_189, l_190, l_191, l_192, l_14, l_17, l_18, l_0, l_1, l_2, l_3, l_4, l_5, l_6, l_7, l_8, l_9, l_10, l_11, l_12, l_20, l_21, l_30, l_31, l_32, l_40, l_48, l_50, l_51, l_57, l_60, l_70, l_71, l_99, l_100, l_101, l_160, l_199, l_200, l_999, l_1000, q_tn, q_add, q_mul, q_sub, q_le, q_lt, q_eq, q_31, n_and, n_or, n_xor, q_shl, q_z, q_b0, q_b1, q_bz, q_em, q_me, q_mm, q_lm, q_ml, q_mle, q_lem, s2_eq, s2_ne, pk_us, pk_un, uN_s, uN_n, if_pos, if_neg, ite_true, ite_false, if_true, if_false, not_true, not_false_iff, Nat.add_zero, Nat.zero_add, h.c0]
      rw [msk_of w.1.2.2.2.2.2]
theorem pM_there (h : RepM g s) (w : WfN B g) : f_X7_there s = some (nI (aW g)) :=
  pM_there_L4 h w 2000 0 (by omega) (by have := w.1.1; omega)
theorem lit_or {a f i : Nat} : decide ((a ||| 2 ^ i) &&& f = 0) = (decide (a &&& f = 0) && !f.testBit i) := by
  have hb : ((a ||| 2 ^ i) &&& f = 0) ↔ (a &&& f = 0 ∧ f.testBit i = false) := by
    constructor
    · intro h
      refine ⟨Nat.eq_of_testBit_eq fun j => ?_, ?_⟩
      · have h1 := congrArg (fun x => x.testBit j) h
        simp only [Nat.testBit_and, Nat.testBit_or, Nat.zero_testBit] at h1 ⊢
        cases h2 : a.testBit j <;> cases h3 : f.testBit j <;> simp_all
      · have h1 := congrArg (fun x => x.testBit i) h
        simp only [Nat.testBit_and, Nat.testBit_or, Nat.zero_testBit, tb_two, decide_true, Bool.or_true, Bool.true_and] at h1
        exact h1
    · rintro ⟨h1, h2⟩
      apply Nat.eq_of_testBit_eq
      intro j
      have h3 := congrArg (fun x => x.testBit j) h1
      simp only [Nat.testBit_and, Nat.testBit_or, Nat.zero_testBit, tb_two] at h3 ⊢
      by_cases hij : i = j
      · subst hij
        rw [h2, Bool.and_false]
      · rw [decide_eq_false hij, Bool.or_false, h3]
  by_cases h : (a ||| 2 ^ i) &&& f = 0
  · rw [decide_eq_true h]
    obtain ⟨h1, h2⟩ := hb.mp h
    rw [decide_eq_true h1, h2]
    rfl
  · rw [decide_eq_false h]
    cases h1 : decide (a &&& f = 0) with
    | false => rfl
    | true =>
      cases h2 : f.testBit i with
      | true => rfl
      | false => exact absurd (hb.mpr ⟨of_decide_eq_true h1, h2⟩) h
theorem pM_isLit_L2 (h : RepM g s) (w : WfN B g) {m f : Nat} (hm : m < 1073741825) (hf : f < 1073741825) : ∀ (n i : Nat), i ≤ aP g → aP g - i < n → (∀ j, j < i → (m.testBit j && decide ((g 7 j ||| 2 ^ j) &&& f = 0)) = false) → f_X7_isLit_L2 s (nI m) (nI f) n (nI i) = some (bI (litB g m f))
  | 0, i, _, h2, _ => by omega
  | n + 1, i, h1, h2, h3 => by
    have hp := w.1.1
    rw [f_X7_isLit_L2.eq_2]
    by_cases hi : i < aP g
    · have next : (m.testBit i && decide ((g 7 i ||| 2 ^ i) &&& f = 0)) = false → f_X7_isLit_L2 s (nI m) (nI f) n (nI (i + 1)) = some (bI (litB g m f)) := fun hq =>
        pM_isLit_L2 h w hm hf n (i + 1) (by omega) (by omega) (fun j hj => by
          by_cases hji : j = i
          · subst hji; exact hq
          · exact h3 j (by omega))
      rw [lit_or] at next
      cases hb : m.testBit i with
      | false =>
        simp (disch := omega) only [nm_s, bd_s, bd2_s, bd3_s, bd4_s, q_gt, q_inB, ↓q_m1, l_166, l_172, l_180, l_188, l_189, l_190, l_191, l_192, l_14, l_17, l_18, l_0, l_1, l_2, l_3, l_4, l_5, l_6, l_7, l_8, l_9, l_10, l_11, l_12, l_20, l_21, l_30, l_31, l_32, l_40, l_48, l_50, l_51, l_57, l_60, l_70, l_71, l_99, l_100, l_101, l_160, l_199, l_200, l_999, l_1000, q_tn, q_add, q_mul, q_sub, q_le, q_lt, q_eq, q_31, n_and, n_or, n_xor, q_shl, q_z, q_b0, q_b1, q_bz, q_em, q_me, q_mm, q_lm, q_ml, q_mle, q_lem, s2_eq, s2_ne, pk_us, pk_un, uN_s, uN_n, if_pos, if_neg, ite_true, ite_false, if_true, if_false, not_true, not_false_iff, Nat.add_zero, Nat.zero_add, h.c0, pM_has, hb]
        exact next (by simp [hb])
      | true =>
        cases hfb : f.testBit i with
        | true =>
          simp (disch := omega) only [nm_s, bd_s, bd2_s, bd3_s, bd4_s, q_gt, q_inB, ↓q_m1, l_166, l_172, l_180, l_188, l_189, l_190, l_191, l_192, l_14, l_17, l_18, l_0, l_1, l_2, l_3, l_4, l_5, l_6, l_7, l_8, l_9, l_10, l_11, l_12, l_20, l_21, l_30, l_31, l_32, l_40, l_48, l_50, l_51, l_57, l_60, l_70, l_71, l_99, l_100, l_101, l_160, l_199, l_200, l_999, l_1000, q_tn, q_add, q_mul, q_sub, q_le, q_lt, q_eq, q_31, n_and, n_or, n_xor, q_shl, q_z, q_b0, q_b1, q_bz, q_em, q_me, q_mm, q_lm, q_ml, q_mle, q_lem, s2_eq, s2_ne, pk_us, pk_un, uN_s, uN_n, if_pos, if_neg, ite_true, ite_false, if_true, if_false, not_true, not_false_iff, Nat.add_zero, Nat.zero_add, h.c0, pM_has, hb, hfb, bI_t]
          exact next (by simp [hfb])
        | false =>
          by_cases hz : g 7 i &&& f = 0
          · simp (disch := omega) only [nm_s, bd_s, bd2_s, bd3_s, bd4_s, q_gt, q_inB, ↓q_m1, l_166, l_172, l_180, l_188, l_189, l_190, l_191, l_192, l_14, l_17, l_18, l_0, l_1, l_2, l_3, l_4, l_5, l_6, l_7, l_8, l_9, l_10, l_11, l_12, l_20, l_21, l_30, l_31, l_32, l_40, l_48, l_50, l_51, l_57, l_60, l_70, l_71, l_99, l_100, l_101, l_160, l_199, l_200, l_999, l_1000, q_tn, q_add, q_mul, q_sub, q_le, q_lt, q_eq, q_31, n_and, n_or, n_xor, q_shl, q_z, q_b0, q_b1, q_bz, q_em, q_me, q_mm, q_lm, q_ml, q_mle, q_lem, s2_eq, s2_ne, pk_us, pk_un, uN_s, uN_n, if_pos, if_neg, ite_true, ite_false, if_true, if_false, not_true, not_false_iff, Nat.add_zero, Nat.zero_add, h.c0, pM_has, hb, hfb, bI_t, pM_seesAny h w, hz, decide_true, Bool.not_true]
            have : litB g m f = false := by
              unfold litB
              rw [anyF_yes hi (by rw [lit_or, hb, hfb, decide_eq_true hz]; rfl)]
              rfl
            rw [this]; rfl
          · simp (disch := omega) only [nm_s, bd_s, bd2_s, bd3_s, bd4_s, q_gt, q_inB, ↓q_m1, l_166, l_172, l_180, l_188, l_189, l_190, l_191, l_192, l_14, l_17, l_18, l_0, l_1, l_2, l_3, l_4, l_5, l_6, l_7, l_8, l_9, l_10, l_11, l_12, l_20, l_21, l_30, l_31, l_32, l_40, l_48, l_50, l_51, l_57, l_60, l_70, l_71, l_99, l_100, l_101, l_160, l_199, l_200, l_999, l_1000, q_tn, q_add, q_mul, q_sub, q_le, q_lt, q_eq, q_31, n_and, n_or, n_xor, q_shl, q_z, q_b0, q_b1, q_bz, q_em, q_me, q_mm, q_lm, q_ml, q_mle, q_lem, s2_eq, s2_ne, pk_us, pk_un, uN_s, uN_n, if_pos, if_neg, ite_true, ite_false, if_true, if_false, not_true, not_false_iff, Nat.add_zero, Nat.zero_add, h.c0, pM_has, hb, hfb, bI_t, pM_seesAny h w, hz, decide_false, Bool.not_false]
            exact next (by simp [hz])
    · simp (disch := omega) only [nm_s, bd_s, bd2_s, bd3_s, bd4_s, q_gt, q_inB, ↓q_m1, l_166, l_172, l_180, l_188, l_189, l_190, l_191, l_192, l_14, l_17, l_18, l_0, l_1, l_2, l_3, l_4, l_5, l_6, l_7, l_8, l_9, l_10, l_11, l_12, l_20, l_21, l_30, l_31, l_32, l_40, l_48, l_50, l_51, l_57, l_60, l_70, l_71, l_99, l_100, l_101, l_160, l_199, l_200, l_999, l_1000, q_tn, q_add, q_mul, q_sub, q_le, q_lt, q_eq, q_31, n_and, n_or, n_xor, q_shl, q_z, q_b0, q_b1, q_bz, q_em, q_me, q_mm, q_lm, q_ml, q_mle, q_lem, s2_eq, s2_ne, pk_us, pk_un, uN_s, uN_n, if_pos, if_neg, ite_true, ite_false, if_true, if_false, not_true, not_false_iff, Nat.add_zero, Nat.zero_add, h.c0]
      have : litB g m f = true := by
        unfold litB
        rw [anyF_no fun j hj => h3 j (by omega)]
        rfl
      rw [this]; rfl
theorem pM_isLit (h : RepM g s) (w : WfN B g) {m f : Nat} (hm : m < 1073741825) (hf : f < 1073741825) : f_X7_isLit s (nI m) (nI f) = some (bI (litB g m f)) :=
  pM_isLit_L2 h w hm hf 2000 0 (by omega) (by have := w.1.1; omega) (fun j hj => by omega)
theorem pM_seenBy_L4 (h : RepM g s) (w : WfN B g) {o : Nat} (ho : o < aP g) : ∀ (n i : Nat), i ≤ aP g → aP g - i < n → f_X7_seenBy_L4 s (nI o) n (nI (cntF (fun p => seB g p o) i)) (nI i) = some (nI (cntF (fun p => seB g p o) (aP g)))
  | 0, i, _, h2 => by omega
  | n + 1, i, h1, h2 => by
    have hP := w.1.1
    rw [f_X7_seenBy_L4.eq_2]
    by_cases hi : i < aP g
    · have ih := pM_seenBy_L4 h w ho n (i + 1) (by omega) (by omega)
      cases hs : seB g i o with
      | true =>
        rw [cntF_s (f := fun p => seB g p o) hs] at ih
        simp (disch := omega) only [nm_s, bd_s, bd2_s, bd3_s, bd4_s, q_gt, q_inB, ↓q_m1, l_166, l_172, l_180, l_188, l_189, l_190, l_191, l_192, l_14, l_17, l_18, l_0, l_1, l_2, l_3, l_4, l_5, l_6, l_7, l_8, l_9, l_10, l_11, l_12, l_20, l_21, l_30, l_31, l_32, l_40, l_48, l_50, l_51, l_57, l_60, l_70, l_71, l_99, l_100, l_101, l_160, l_199, l_200, l_999, l_1000, q_tn, q_add, q_mul, q_sub, q_le, q_lt, q_eq, q_31, n_and, n_or, n_xor, q_shl, q_z, q_b0, q_b1, q_bz, q_em, q_me, q_mm, q_lm, q_ml, q_mle, q_lem, s2_eq, s2_ne, pk_us, pk_un, uN_s, uN_n, if_pos, if_neg, ite_true, ite_false, if_true, if_false, not_true, not_false_iff, Nat.add_zero, Nat.zero_add, h.c0, pM_sees h w, hs, bI_t]
        exact ih
      | false =>
        rw [cntF_n (f := fun p => seB g p o) hs] at ih
        simp (disch := omega) only [nm_s, bd_s, bd2_s, bd3_s, bd4_s, q_gt, q_inB, ↓q_m1, l_166, l_172, l_180, l_188, l_189, l_190, l_191, l_192, l_14, l_17, l_18, l_0, l_1, l_2, l_3, l_4, l_5, l_6, l_7, l_8, l_9, l_10, l_11, l_12, l_20, l_21, l_30, l_31, l_32, l_40, l_48, l_50, l_51, l_57, l_60, l_70, l_71, l_99, l_100, l_101, l_160, l_199, l_200, l_999, l_1000, q_tn, q_add, q_mul, q_sub, q_le, q_lt, q_eq, q_31, n_and, n_or, n_xor, q_shl, q_z, q_b0, q_b1, q_bz, q_em, q_me, q_mm, q_lm, q_ml, q_mle, q_lem, s2_eq, s2_ne, pk_us, pk_un, uN_s, uN_n, if_pos, if_neg, ite_true, ite_false, if_true, if_false, not_true, not_false_iff, Nat.add_zero, Nat.zero_add, h.c0, pM_sees h w, hs, bI_f]
        exact ih
    · have : i = aP g := by omega
      subst this
      simp (disch := omega) only [nm_s, bd_s, bd2_s, bd3_s, bd4_s, q_gt, q_inB, ↓q_m1, l_166, l_172, l_180, l_188, l_189, l_190, l_191, l_192, l_14, l_17, l_18, l_0, l_1, l_2, l_3, l_4, l_5, l_6, l_7, l_8, l_9, l_10, l_11, l_12, l_20, l_21, l_30, l_31, l_32, l_40, l_48, l_50, l_51, l_57, l_60, l_70, l_71, l_99, l_100, l_101, l_160, l_199, l_200, l_999, l_1000, q_tn, q_add, q_mul, q_sub, q_le, q_lt, q_eq, q_31, n_and, n_or, n_xor, q_shl, q_z, q_b0, q_b1, q_bz, q_em, q_me, q_mm, q_lm, q_ml, q_mle, q_lem, s2_eq, s2_ne, pk_us, pk_un, uN_s, uN_n, if_pos, if_neg, ite_true, ite_false, if_true, if_false, not_true, not_false_iff, Nat.add_zero, Nat.zero_add, h.c0]
theorem pM_seenBy (h : RepM g s) (w : WfN B g) {o : Nat} (ho : o < aP g) : f_X7_seenBy s (nI o) = some (nI (cntF (fun p => seB g p o) (aP g))) :=
  pM_seenBy_L4 h w ho 2000 0 (by omega) (by have := w.1.1; omega)
theorem watch_bit (m q : Nat) : (watchM g m).testBit q = (decide (q < aP g) && !decide (g 7 q &&& m = 0)) := msk_bit _ _ _
theorem and_two (a o : Nat) : decide (a &&& 2 ^ o = 0) = !a.testBit o := by
  have h := lit_or (a := 0) (f := a) (i := o)
  rw [Nat.zero_or, Nat.zero_and, decide_eq_true rfl, Bool.true_and] at h
  rw [Nat.and_comm]
  exact h
theorem watch_cnt {o : Nat} : cntF (watchM g (2 ^ o)).testBit (aP g) = cntF (fun p => seB g p o) (aP g) := by
  unfold cntF
  refine sumF_congr fun i hi => ?_
  rw [watch_bit, decide_eq_true hi, and_two, Bool.not_not, Bool.true_and]
theorem watch_lt (m : Nat) : watchM g m < 2 ^ aP g := msk_lt _ _
theorem pM_isFree_L2 (h : RepM g s) (w : WfN B g) {q : Nat} (hq : q < 1000) : ∀ (n i : Nat), i ≤ aP g → aP g - i < n → (∀ j, j < i → (decide (g 3 j = q) && stB g j) = false) → f_X7_isFree_L2 s (nI q) n (nI i) = some (bI (!anyF (fun j => decide (g 3 j = q) && stB g j) (aP g)))
  | 0, i, _, h2, _ => by omega
  | n + 1, i, h1, h2, h3 => by
    have hp := w.1.1
    rw [f_X7_isFree_L2.eq_2]
    by_cases hi : i < aP g
    · have h5 := (w.2.1 i hi).2.2.1
      have next : (decide (g 3 i = q) && stB g i) = false → f_X7_isFree_L2 s (nI q) n (nI (i + 1)) = some (bI (!anyF (fun j => decide (g 3 j = q) && stB g j) (aP g))) := fun hf =>
        pM_isFree_L2 h w hq n (i + 1) (by omega) (by omega) (fun j hj => by
          by_cases hji : j = i
          · subst hji; exact hf
          · exact h3 j (by omega))
      cases hs : stB g i with
      | false =>
        simp (disch := omega) only [nm_s, bd_s, bd2_s, bd3_s, bd4_s, q_gt, q_inB, ↓q_m1, l_166, l_172, l_180, l_188, l_189, l_190, l_191, l_192, l_14, l_17, l_18, l_0, l_1, l_2, l_3, l_4, l_5, l_6, l_7, l_8, l_9, l_10, l_11, l_12, l_20, l_21, l_30, l_31, l_32, l_40, l_48, l_50, l_51, l_57, l_60, l_70, l_71, l_99, l_100, l_101, l_160, l_199, l_200, l_999, l_1000, q_tn, q_add, q_mul, q_sub, q_le, q_lt, q_eq, q_31, n_and, n_or, n_xor, q_shl, q_z, q_b0, q_b1, q_bz, q_em, q_me, q_mm, q_lm, q_ml, q_mle, q_lem, s2_eq, s2_ne, pk_us, pk_un, uN_s, uN_n, if_pos, if_neg, ite_true, ite_false, if_true, if_false, not_true, not_false_iff, Nat.add_zero, Nat.zero_add, h.c0, h.c9, hs]
        exact next (by rw [hs, Bool.and_false])
      | true =>
        by_cases hc : g 3 i = q
        · simp (disch := omega) only [nm_s, bd_s, bd2_s, bd3_s, bd4_s, q_gt, q_inB, ↓q_m1, l_166, l_172, l_180, l_188, l_189, l_190, l_191, l_192, l_14, l_17, l_18, l_0, l_1, l_2, l_3, l_4, l_5, l_6, l_7, l_8, l_9, l_10, l_11, l_12, l_20, l_21, l_30, l_31, l_32, l_40, l_48, l_50, l_51, l_57, l_60, l_70, l_71, l_99, l_100, l_101, l_160, l_199, l_200, l_999, l_1000, q_tn, q_add, q_mul, q_sub, q_le, q_lt, q_eq, q_31, n_and, n_or, n_xor, q_shl, q_z, q_b0, q_b1, q_bz, q_em, q_me, q_mm, q_lm, q_ml, q_mle, q_lem, s2_eq, s2_ne, pk_us, pk_un, uN_s, uN_n, if_pos, if_neg, ite_true, ite_false, if_true, if_false, not_true, not_false_iff, Nat.add_zero, Nat.zero_add, h.c0, h.c9, hs, h.c7]
          rw [anyF_yes hi (by simp [hc, hs])]; rfl
        · simp (disch := omega) only [nm_s, bd_s, bd2_s, bd3_s, bd4_s, q_gt, q_inB, ↓q_m1, l_166, l_172, l_180, l_188, l_189, l_190, l_191, l_192, l_14, l_17, l_18, l_0, l_1, l_2, l_3, l_4, l_5, l_6, l_7, l_8, l_9, l_10, l_11, l_12, l_20, l_21, l_30, l_31, l_32, l_40, l_48, l_50, l_51, l_57, l_60, l_70, l_71, l_99, l_100, l_101, l_160, l_199, l_200, l_999, l_1000, q_tn, q_add, q_mul, q_sub, q_le, q_lt, q_eq, q_31, n_and, n_or, n_xor, q_shl, q_z, q_b0, q_b1, q_bz, q_em, q_me, q_mm, q_lm, q_ml, q_mle, q_lem, s2_eq, s2_ne, pk_us, pk_un, uN_s, uN_n, if_pos, if_neg, ite_true, ite_false, if_true, if_false, not_true, not_false_iff, Nat.add_zero, Nat.zero_add, h.c0, h.c9, hs, h.c7]
          exact next (by simp [hc])
    · simp (disch := omega) only [nm_s, bd_s, bd2_s, bd3_s, bd4_s, q_gt, q_inB, ↓q_m1, l_166, l_172, l_180, l_188, l_189, l_190, l_191, l_192, l_14, l_17, l_18, l_0, l_1, l_2, l_3, l_4, l_5, l_6, l_7, l_8, l_9, l_10, l_11, l_12, l_20, l_21, l_30, l_31, l_32, l_40, l_48, l_50, l_51, l_57, l_60, l_70, l_71, l_99, l_100, l_101, l_160, l_199, l_200, l_999, l_1000, q_tn, q_add, q_mul, q_sub, q_le, q_lt, q_eq, q_31, n_and, n_or, n_xor, q_shl, q_z, q_b0, q_b1, q_bz, q_em, q_me, q_mm, q_lm, q_ml, q_mle, q_lem, s2_eq, s2_ne, pk_us, pk_un, uN_s, uN_n, if_pos, if_neg, ite_true, ite_false, if_true, if_false, not_true, not_false_iff, Nat.add_zero, Nat.zero_add, h.c0]
      rw [anyF_no fun j hj => h3 j (by omega)]; rfl
theorem pM_isFree (h : RepM g s) (w : WfN B g) {q : Nat} (hq : q < 1000) : f_X7_isFree s (nI q) = some (bI (!anyF (fun j => decide (g 3 j = q) && stB g j) (aP g))) :=
  pM_isFree_L2 h w hq 2000 0 (by omega) (by have := w.1.1; omega) (fun j hj => by omega)
end RQ2
