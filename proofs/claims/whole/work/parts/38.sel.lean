-- the first best of several, on both sides
def sel (ok : Nat → Bool) (lt : Nat → Nat → Bool) : Nat → Option Nat
  | 0 => none
  | n + 1 => match sel ok lt n with
    | none => if ok n = true then some n else none
    | some q => if ok n = true ∧ lt n q = true then some n else some q
def selI : Option Nat → Int32
  | none => mI
  | some q => nI q
def selV (f : Nat → Nat) (d : Int32) : Option Nat → Int32
  | none => d
  | some q => nI (f q)
theorem sel_lt {ok : Nat → Bool} {lt : Nat → Nat → Bool} : ∀ {n q : Nat}, sel ok lt n = some q → q < n ∧ ok q = true
  | 0, q, h => by cases h
  | n + 1, q, h => by
    unfold sel at h
    cases hs : sel ok lt n with
    | none =>
      rw [hs] at h
      dsimp only at h
      by_cases ho : ok n = true
      · rw [if_pos ho] at h; cases h; exact ⟨by omega, ho⟩
      · rw [if_neg ho] at h; cases h
    | some p =>
      rw [hs] at h
      dsimp only at h
      by_cases ho : ok n = true ∧ lt n p = true
      · rw [if_pos ho] at h; cases h; exact ⟨by omega, ho.1⟩
      · rw [if_neg ho] at h; cases h
        have := sel_lt hs
        exact ⟨by omega, this.2⟩
theorem sel_no {ok : Nat → Bool} {lt : Nat → Nat → Bool} {n : Nat} (h : ok n = false) : sel ok lt (n + 1) = sel ok lt n := by
  rw [sel]
  cases hs : sel ok lt n with
  | none => dsimp only; rw [h, if_neg ffl]
  | some p => dsimp only; rw [h, if_neg (fun q => ffl q.1)]
theorem sel_0 {ok : Nat → Bool} {lt : Nat → Nat → Bool} {n : Nat} (h : ok n = true) (hs : sel ok lt n = none) : sel ok lt (n + 1) = some n := by
  rw [sel, hs]
  dsimp only
  rw [if_pos h]
theorem sel_y {ok : Nat → Bool} {lt : Nat → Nat → Bool} {n q : Nat} (h : ok n = true) (hs : sel ok lt n = some q) (hl : lt n q = true) : sel ok lt (n + 1) = some n := by
  rw [sel, hs]
  dsimp only
  rw [if_pos ⟨h, hl⟩]
theorem sel_n {ok : Nat → Bool} {lt : Nat → Nat → Bool} {n q : Nat} (hs : sel ok lt n = some q) (hl : lt n q = false) : sel ok lt (n + 1) = some q := by
  rw [sel, hs]
  dsimp only
  rw [if_neg (fun e => by rw [hl] at e; exact ffl e.2)]
def minL (f : Nat → Nat) (a b : Nat) : Bool := decide (f a < f b)
def maxL (f : Nat → Nat) (a b : Nat) : Bool := decide (f b < f a)
section SE
variable {B : Nat} {g : AG} {r s : GS}
-- LEAST
theorem pR_least_L6 (h : RepR g r) (w : WfN B g) : ∀ (n i : Nat), i ≤ aP g → aP g - i < n → f_X6_least_L6 r n (selI (sel (stB g) (minL fun p => griefA g p (aY g)) i)) (selV (fun p => griefA g p (aY g)) (nI 0) (sel (stB g) (minL fun p => griefA g p (aY g)) i)) (nI i) = some (selI (sel (stB g) (minL fun p => griefA g p (aY g)) (aP g)))
  | 0, i, _, h2 => by omega
  | n + 1, i, h1, h2 => by
    have hP := w.1.1
    have hB := w.1.2.2.2
    rw [f_X6_least_L6.eq_2]
    by_cases hi : i < aP g
    · have ih := pR_least_L6 h w n (i + 1) (by omega) (by omega)
      cases hs : stB g i with
      | false =>
        rw [sel_no hs] at ih
        simp (disch := omega) only [nm_s, bd_s, bd2_s, bd3_s, bd4_s, q_gt, q_inB, ↓q_m1, l_166, l_172, l_180, l_188, l_189, l_190, l_191, l_192, l_14, l_17, l_18, l_0, l_1, l_2, l_3, l_4, l_5, l_6, l_7, l_8, l_9, l_10, l_11, l_12, l_20, l_21, l_30, l_31, l_32, l_40, l_48, l_50, l_51, l_57, l_60, l_70, l_71, l_99, l_100, l_101, l_160, l_199, l_200, l_999, l_1000, q_tn, q_add, q_mul, q_sub, q_le, q_lt, q_eq, q_31, n_and, n_or, n_xor, q_shl, q_z, q_b0, q_b1, q_bz, q_em, q_me, q_mm, q_lm, q_ml, q_mle, q_lem, s2_eq, s2_ne, pk_us, pk_un, uN_s, uN_n, if_pos, if_neg, ite_true, ite_false, if_true, if_false, not_true, not_false_iff, Nat.add_zero, Nat.zero_add, h.c0, pR_isStanding h w, isSt_n w, hs, bI_f]
        exact ih
      | true =>
        have hg := pR_griefOf h w (lost := i) hi (Nat.le_refl _) (by omega)
        have hgl := griefA_le w (lost := i) (y := aY g) hi (by omega)
        cases hx : sel (stB g) (minL fun p => griefA g p (aY g)) i with
        | none =>
          rw [sel_0 hs hx] at ih
          simp only [selI, selV] at ih ⊢
          simp (disch := omega) only [nm_s, bd_s, bd2_s, bd3_s, bd4_s, q_gt, q_inB, ↓q_m1, l_166, l_172, l_180, l_188, l_189, l_190, l_191, l_192, l_14, l_17, l_18, l_0, l_1, l_2, l_3, l_4, l_5, l_6, l_7, l_8, l_9, l_10, l_11, l_12, l_20, l_21, l_30, l_31, l_32, l_40, l_48, l_50, l_51, l_57, l_60, l_70, l_71, l_99, l_100, l_101, l_160, l_199, l_200, l_999, l_1000, q_tn, q_add, q_mul, q_sub, q_le, q_lt, q_eq, q_31, n_and, n_or, n_xor, q_shl, q_z, q_b0, q_b1, q_bz, q_em, q_me, q_mm, q_lm, q_ml, q_mle, q_lem, s2_eq, s2_ne, pk_us, pk_un, uN_s, uN_n, if_pos, if_neg, ite_true, ite_false, if_true, if_false, not_true, not_false_iff, Nat.add_zero, Nat.zero_add, h.c0, pR_isStanding h w, isSt_n w, hs, bI_t, h.cy, hg, f_X6_least_J56]
          exact ih
        | some q =>
          have hq := sel_lt hx
          have hgq := griefA_le w (lost := q) (y := aY g) (by omega) (by omega)
          by_cases hc : griefA g i (aY g) < griefA g q (aY g)
          · rw [sel_y hs hx (decide_eq_true hc)] at ih
            simp only [selI, selV] at ih ⊢
            simp (disch := omega) only [nm_s, bd_s, bd2_s, bd3_s, bd4_s, q_gt, q_inB, ↓q_m1, l_166, l_172, l_180, l_188, l_189, l_190, l_191, l_192, l_14, l_17, l_18, l_0, l_1, l_2, l_3, l_4, l_5, l_6, l_7, l_8, l_9, l_10, l_11, l_12, l_20, l_21, l_30, l_31, l_32, l_40, l_48, l_50, l_51, l_57, l_60, l_70, l_71, l_99, l_100, l_101, l_160, l_199, l_200, l_999, l_1000, q_tn, q_add, q_mul, q_sub, q_le, q_lt, q_eq, q_31, n_and, n_or, n_xor, q_shl, q_z, q_b0, q_b1, q_bz, q_em, q_me, q_mm, q_lm, q_ml, q_mle, q_lem, s2_eq, s2_ne, pk_us, pk_un, uN_s, uN_n, if_pos, if_neg, ite_true, ite_false, if_true, if_false, not_true, not_false_iff, Nat.add_zero, Nat.zero_add, h.c0, pR_isStanding h w, isSt_n w, hs, bI_t, h.cy, hg, f_X6_least_J56]
            exact ih
          · rw [sel_n hx (decide_eq_false hc)] at ih
            simp only [selI, selV] at ih ⊢
            simp (disch := omega) only [nm_s, bd_s, bd2_s, bd3_s, bd4_s, q_gt, q_inB, ↓q_m1, l_166, l_172, l_180, l_188, l_189, l_190, l_191, l_192, l_14, l_17, l_18, l_0, l_1, l_2, l_3, l_4, l_5, l_6, l_7, l_8, l_9, l_10, l_11, l_12, l_20, l_21, l_30, l_31, l_32, l_40, l_48, l_50, l_51, l_57, l_60, l_70, l_71, l_99, l_100, l_101, l_160, l_199, l_200, l_999, l_1000, q_tn, q_add, q_mul, q_sub, q_le, q_lt, q_eq, q_31, n_and, n_or, n_xor, q_shl, q_z, q_b0, q_b1, q_bz, q_em, q_me, q_mm, q_lm, q_ml, q_mle, q_lem, s2_eq, s2_ne, pk_us, pk_un, uN_s, uN_n, if_pos, if_neg, ite_true, ite_false, if_true, if_false, not_true, not_false_iff, Nat.add_zero, Nat.zero_add, h.c0, pR_isStanding h w, isSt_n w, hs, bI_t, h.cy, hg, f_X6_least_J56]
            exact ih
    · have : i = aP g := by omega
      subst this
      simp (disch := omega) only [nm_s, bd_s, bd2_s, bd3_s, bd4_s, q_gt, q_inB, ↓q_m1, l_166, l_172, l_180, l_188, l_189, l_190, l_191, l_192, l_14, l_17, l_18, l_0, l_1, l_2, l_3, l_4, l_5, l_6, l_7, l_8, l_9, l_10, l_11, l_12, l_20, l_21, l_30, l_31, l_32, l_40, l_48, l_50, l_51, l_57, l_60, l_70, l_71, l_99, l_100, l_101, l_160, l_199, l_200, l_999, l_1000, q_tn, q_add, q_mul, q_sub, q_le, q_lt, q_eq, q_31, n_and, n_or, n_xor, q_shl, q_z, q_b0, q_b1, q_bz, q_em, q_me, q_mm, q_lm, q_ml, q_mle, q_lem, s2_eq, s2_ne, pk_us, pk_un, uN_s, uN_n, if_pos, if_neg, ite_true, ite_false, if_true, if_false, not_true, not_false_iff, Nat.add_zero, Nat.zero_add, h.c0]
theorem pR_least (h : RepR g r) (w : WfN B g) : f_X6_least r = some (selI (sel (stB g) (minL fun p => griefA g p (aY g)) (aP g))) :=
  pR_least_L6 h w 2000 0 (by omega) (by have := w.1.1; omega)
-- SEND
def seenN (g : AG) (o : Nat) : Nat := cntF (fun p => seB g p o) (aP g)
theorem seenN_le (g : AG) (o : Nat) : seenN g o ≤ aP g := cntF_le _ _
theorem pM_seen (h : RepM g s) (w : WfN B g) {o : Nat} (ho : o < aP g) : f_X7_seenBy s (nI o) = some (nI (seenN g o)) := pM_seenBy h w ho
theorem pR_seen (h : RepR g r) (w : WfN B g) {o : Nat} (ho : o < aP g) : f_J6_bitCount_0f7a4 (nI (watchM g (2 ^ o))) = some (nI (seenN g o)) := by
  have hw := pc_of (watch_lt (g := g) (2 ^ o)) w.1.1
  rw [watch_cnt] at hw
  exact hw
theorem send_step (h : RepR g r) (w : WfN B g) {n i : Nat} (hi : i < aP g) (hs : stB g i = true) (x y : Int32) : f_X6_send_L6 r (n + 1) x y (nI i) = if x = mI then f_X6_send_L6 r n (nI i) (nI (seenN g i)) (nI (i + 1)) else if nI (seenN g i) ≤ y then f_X6_send_L6 r n x y (nI (i + 1)) else f_X6_send_L6 r n (nI i) (nI (seenN g i)) (nI (i + 1)) := by
  have hP := w.1.1
  rw [f_X6_send_L6.eq_2, h.c0, if_neg (by rw [n_le (by omega) (by omega)]; omega), pR_isStanding h w, bd_s, isSt_n w (by omega), hs, if_neg (by decide), n_shl (by omega), pR_watchersOf h w, bd_s, pR_seen h w hi, bd_s]
  unfold f_X6_send_J54
  simp only [nm_s, n_s]
  rfl
theorem pR_send_L6 (h : RepR g r) (w : WfN B g) : ∀ (n i : Nat), i ≤ aP g → aP g - i < n → f_X6_send_L6 r n (selI (sel (stB g) (maxL (seenN g)) i)) (selV (seenN g) (nI 0) (sel (stB g) (maxL (seenN g)) i)) (nI i) = some (selI (sel (stB g) (maxL (seenN g)) (aP g)))
  | 0, i, _, h2 => by omega
  | n + 1, i, h1, h2 => by
    have hP := w.1.1
    by_cases hi : i < aP g
    · have ih := pR_send_L6 h w n (i + 1) (by omega) (by omega)
      cases hs : stB g i with
      | false =>
        rw [sel_no hs] at ih
        rw [f_X6_send_L6.eq_2]
        simp (disch := omega) only [nm_s, bd_s, bd2_s, bd3_s, bd4_s, q_gt, q_inB, ↓q_m1, l_166, l_172, l_180, l_188, l_189, l_190, l_191, l_192, l_14, l_17, l_18, l_0, l_1, l_2, l_3, l_4, l_5, l_6, l_7, l_8, l_9, l_10, l_11, l_12, l_20, l_21, l_30, l_31, l_32, l_40, l_48, l_50, l_51, l_57, l_60, l_70, l_71, l_99, l_100, l_101, l_160, l_199, l_200, l_999, l_1000, q_tn, q_add, q_mul, q_sub, q_le, q_lt, q_eq, q_31, n_and, n_or, n_xor, q_shl, q_z, q_b0, q_b1, q_bz, q_em, q_me, q_mm, q_lm, q_ml, q_mle, q_lem, s2_eq, s2_ne, pk_us, pk_un, uN_s, uN_n, if_pos, if_neg, ite_true, ite_false, if_true, if_false, not_true, not_false_iff, Nat.add_zero, Nat.zero_add, h.c0, pR_isStanding h w, isSt_n w, hs, bI_f]
        exact ih
      | true =>
        have hl := seenN_le g i
        cases hx : sel (stB g) (maxL (seenN g)) i with
        | none =>
          rw [sel_0 hs hx] at ih
          simp only [selI, selV] at ih ⊢
          rw [send_step h w hi hs]
          simp (disch := omega) only [nm_s, bd_s, bd2_s, bd3_s, bd4_s, q_gt, q_inB, ↓q_m1, l_166, l_172, l_180, l_188, l_189, l_190, l_191, l_192, l_14, l_17, l_18, l_0, l_1, l_2, l_3, l_4, l_5, l_6, l_7, l_8, l_9, l_10, l_11, l_12, l_20, l_21, l_30, l_31, l_32, l_40, l_48, l_50, l_51, l_57, l_60, l_70, l_71, l_99, l_100, l_101, l_160, l_199, l_200, l_999, l_1000, q_tn, q_add, q_mul, q_sub, q_le, q_lt, q_eq, q_31, n_and, n_or, n_xor, q_shl, q_z, q_b0, q_b1, q_bz, q_em, q_me, q_mm, q_lm, q_ml, q_mle, q_lem, s2_eq, s2_ne, pk_us, pk_un, uN_s, uN_n, if_pos, if_neg, ite_true, ite_false, if_true, if_false, not_true, not_false_iff, Nat.add_zero, Nat.zero_add]
          exact ih
        | some q =>
          have hq := sel_lt hx
          have hlq := seenN_le g q
          by_cases hc : seenN g q < seenN g i
          · rw [sel_y hs hx (decide_eq_true hc)] at ih
            simp only [selI, selV] at ih ⊢
            rw [send_step h w hi hs]
            simp (disch := omega) only [nm_s, bd_s, bd2_s, bd3_s, bd4_s, q_gt, q_inB, ↓q_m1, l_166, l_172, l_180, l_188, l_189, l_190, l_191, l_192, l_14, l_17, l_18, l_0, l_1, l_2, l_3, l_4, l_5, l_6, l_7, l_8, l_9, l_10, l_11, l_12, l_20, l_21, l_30, l_31, l_32, l_40, l_48, l_50, l_51, l_57, l_60, l_70, l_71, l_99, l_100, l_101, l_160, l_199, l_200, l_999, l_1000, q_tn, q_add, q_mul, q_sub, q_le, q_lt, q_eq, q_31, n_and, n_or, n_xor, q_shl, q_z, q_b0, q_b1, q_bz, q_em, q_me, q_mm, q_lm, q_ml, q_mle, q_lem, s2_eq, s2_ne, pk_us, pk_un, uN_s, uN_n, if_pos, if_neg, ite_true, ite_false, if_true, if_false, not_true, not_false_iff, Nat.add_zero, Nat.zero_add]
            exact ih
          · rw [sel_n hx (decide_eq_false hc)] at ih
            simp only [selI, selV] at ih ⊢
            rw [send_step h w hi hs]
            simp (disch := omega) only [nm_s, bd_s, bd2_s, bd3_s, bd4_s, q_gt, q_inB, ↓q_m1, l_166, l_172, l_180, l_188, l_189, l_190, l_191, l_192, l_14, l_17, l_18, l_0, l_1, l_2, l_3, l_4, l_5, l_6, l_7, l_8, l_9, l_10, l_11, l_12, l_20, l_21, l_30, l_31, l_32, l_40, l_48, l_50, l_51, l_57, l_60, l_70, l_71, l_99, l_100, l_101, l_160, l_199, l_200, l_999, l_1000, q_tn, q_add, q_mul, q_sub, q_le, q_lt, q_eq, q_31, n_and, n_or, n_xor, q_shl, q_z, q_b0, q_b1, q_bz, q_em, q_me, q_mm, q_lm, q_ml, q_mle, q_lem, s2_eq, s2_ne, pk_us, pk_un, uN_s, uN_n, if_pos, if_neg, ite_true, ite_false, if_true, if_false, not_true, not_false_iff, Nat.add_zero, Nat.zero_add]
            exact ih
    · have : i = aP g := by omega
      subst this
      rw [f_X6_send_L6.eq_2]
      simp (disch := omega) only [nm_s, bd_s, bd2_s, bd3_s, bd4_s, q_gt, q_inB, ↓q_m1, l_166, l_172, l_180, l_188, l_189, l_190, l_191, l_192, l_14, l_17, l_18, l_0, l_1, l_2, l_3, l_4, l_5, l_6, l_7, l_8, l_9, l_10, l_11, l_12, l_20, l_21, l_30, l_31, l_32, l_40, l_48, l_50, l_51, l_57, l_60, l_70, l_71, l_99, l_100, l_101, l_160, l_199, l_200, l_999, l_1000, q_tn, q_add, q_mul, q_sub, q_le, q_lt, q_eq, q_31, n_and, n_or, n_xor, q_shl, q_z, q_b0, q_b1, q_bz, q_em, q_me, q_mm, q_lm, q_ml, q_mle, q_lem, s2_eq, s2_ne, pk_us, pk_un, uN_s, uN_n, if_pos, if_neg, ite_true, ite_false, if_true, if_false, not_true, not_false_iff, Nat.add_zero, Nat.zero_add, h.c0]
theorem pR_send (h : RepR g r) (w : WfN B g) : f_X6_send r = some (selI (sel (stB g) (maxL (seenN g)) (aP g))) :=
  pR_send_L6 h w 2000 0 (by omega) (by have := w.1.1; omega)
theorem pM_send_L4 (h : RepM g s) (w : WfN B g) : ∀ (n i : Nat), i ≤ aP g → aP g - i < n → f_X7_send_L4 s n (selI (sel (stB g) (maxL (seenN g)) i)) (nI i) = some (selI (sel (stB g) (maxL (seenN g)) (aP g)))
  | 0, i, _, h2 => by omega
  | n + 1, i, h1, h2 => by
    have hP := w.1.1
    rw [f_X7_send_L4.eq_2]
    by_cases hi : i < aP g
    · have ih := pM_send_L4 h w n (i + 1) (by omega) (by omega)
      cases hs : stB g i with
      | false =>
        rw [sel_no hs] at ih
        simp (disch := omega) only [nm_s, bd_s, bd2_s, bd3_s, bd4_s, q_gt, q_inB, ↓q_m1, l_166, l_172, l_180, l_188, l_189, l_190, l_191, l_192, l_14, l_17, l_18, l_0, l_1, l_2, l_3, l_4, l_5, l_6, l_7, l_8, l_9, l_10, l_11, l_12, l_20, l_21, l_30, l_31, l_32, l_40, l_48, l_50, l_51, l_57, l_60, l_70, l_71, l_99, l_100, l_101, l_160, l_199, l_200, l_999, l_1000, q_tn, q_add, q_mul, q_sub, q_le, q_lt, q_eq, q_31, n_and, n_or, n_xor, q_shl, q_z, q_b0, q_b1, q_bz, q_em, q_me, q_mm, q_lm, q_ml, q_mle, q_lem, s2_eq, s2_ne, pk_us, pk_un, uN_s, uN_n, if_pos, if_neg, ite_true, ite_false, if_true, if_false, not_true, not_false_iff, Nat.add_zero, Nat.zero_add, h.c0, pM_isThere h w, isSt_n w, hs, bI_f]
        exact ih
      | true =>
        have hl := seenN_le g i
        cases hx : sel (stB g) (maxL (seenN g)) i with
        | none =>
          rw [sel_0 hs hx] at ih
          simp only [selI, selV] at ih ⊢
          simp (disch := omega) only [nm_s, bd_s, bd2_s, bd3_s, bd4_s, q_gt, q_inB, ↓q_m1, l_166, l_172, l_180, l_188, l_189, l_190, l_191, l_192, l_14, l_17, l_18, l_0, l_1, l_2, l_3, l_4, l_5, l_6, l_7, l_8, l_9, l_10, l_11, l_12, l_20, l_21, l_30, l_31, l_32, l_40, l_48, l_50, l_51, l_57, l_60, l_70, l_71, l_99, l_100, l_101, l_160, l_199, l_200, l_999, l_1000, q_tn, q_add, q_mul, q_sub, q_le, q_lt, q_eq, q_31, n_and, n_or, n_xor, q_shl, q_z, q_b0, q_b1, q_bz, q_em, q_me, q_mm, q_lm, q_ml, q_mle, q_lem, s2_eq, s2_ne, pk_us, pk_un, uN_s, uN_n, if_pos, if_neg, ite_true, ite_false, if_true, if_false, not_true, not_false_iff, Nat.add_zero, Nat.zero_add, h.c0, pM_isThere h w, isSt_n w, hs, bI_t, pM_seen h w, f_X7_send_J38]
          exact ih
        | some q =>
          have hq := sel_lt hx
          have hlq := seenN_le g q
          by_cases hc : seenN g q < seenN g i
          · rw [sel_y hs hx (decide_eq_true hc)] at ih
            simp only [selI, selV] at ih ⊢
            simp (disch := omega) only [nm_s, bd_s, bd2_s, bd3_s, bd4_s, q_gt, q_inB, ↓q_m1, l_166, l_172, l_180, l_188, l_189, l_190, l_191, l_192, l_14, l_17, l_18, l_0, l_1, l_2, l_3, l_4, l_5, l_6, l_7, l_8, l_9, l_10, l_11, l_12, l_20, l_21, l_30, l_31, l_32, l_40, l_48, l_50, l_51, l_57, l_60, l_70, l_71, l_99, l_100, l_101, l_160, l_199, l_200, l_999, l_1000, q_tn, q_add, q_mul, q_sub, q_le, q_lt, q_eq, q_31, n_and, n_or, n_xor, q_shl, q_z, q_b0, q_b1, q_bz, q_em, q_me, q_mm, q_lm, q_ml, q_mle, q_lem, s2_eq, s2_ne, pk_us, pk_un, uN_s, uN_n, if_pos, if_neg, ite_true, ite_false, if_true, if_false, not_true, not_false_iff, Nat.add_zero, Nat.zero_add, h.c0, pM_isThere h w, isSt_n w, hs, bI_t, pM_seen h w, f_X7_send_J38]
            exact ih
          · rw [sel_n hx (decide_eq_false hc)] at ih
            simp only [selI, selV] at ih ⊢
            simp (disch := omega) only [nm_s, bd_s, bd2_s, bd3_s, bd4_s, q_gt, q_inB, ↓q_m1, l_166, l_172, l_180, l_188, l_189, l_190, l_191, l_192, l_14, l_17, l_18, l_0, l_1, l_2, l_3, l_4, l_5, l_6, l_7, l_8, l_9, l_10, l_11, l_12, l_20, l_21, l_30, l_31, l_32, l_40, l_48, l_50, l_51, l_57, l_60, l_70, l_71, l_99, l_100, l_101, l_160, l_199, l_200, l_999, l_1000, q_tn, q_add, q_mul, q_sub, q_le, q_lt, q_eq, q_31, n_and, n_or, n_xor, q_shl, q_z, q_b0, q_b1, q_bz, q_em, q_me, q_mm, q_lm, q_ml, q_mle, q_lem, s2_eq, s2_ne, pk_us, pk_un, uN_s, uN_n, if_pos, if_neg, ite_true, ite_false, if_true, if_false, not_true, not_false_iff, Nat.add_zero, Nat.zero_add, h.c0, pM_isThere h w, isSt_n w, hs, bI_t, pM_seen h w, f_X7_send_J38]
            exact ih
    · have : i = aP g := by omega
      subst this
      simp (disch := omega) only [nm_s, bd_s, bd2_s, bd3_s, bd4_s, q_gt, q_inB, ↓q_m1, l_166, l_172, l_180, l_188, l_189, l_190, l_191, l_192, l_14, l_17, l_18, l_0, l_1, l_2, l_3, l_4, l_5, l_6, l_7, l_8, l_9, l_10, l_11, l_12, l_20, l_21, l_30, l_31, l_32, l_40, l_48, l_50, l_51, l_57, l_60, l_70, l_71, l_99, l_100, l_101, l_160, l_199, l_200, l_999, l_1000, q_tn, q_add, q_mul, q_sub, q_le, q_lt, q_eq, q_31, n_and, n_or, n_xor, q_shl, q_z, q_b0, q_b1, q_bz, q_em, q_me, q_mm, q_lm, q_ml, q_mle, q_lem, s2_eq, s2_ne, pk_us, pk_un, uN_s, uN_n, if_pos, if_neg, ite_true, ite_false, if_true, if_false, not_true, not_false_iff, Nat.add_zero, Nat.zero_add, h.c0]
theorem pM_send (h : RepM g s) (w : WfN B g) : f_X7_send s = some (selI (sel (stB g) (maxL (seenN g)) (aP g))) :=
  pM_send_L4 h w 2000 0 (by omega) (by have := w.1.1; omega)
-- SCREENED, HIDE
theorem ceil_le {a b c : Nat} (hb : 0 < b) : ((a + b - 1) / b ≤ c) = (a ≤ c * b) := by
  apply propext
  have h1 : (a + b - 1) / b < c + 1 ↔ a + b - 1 < (c + 1) * b := Nat.div_lt_iff_lt_mul hb
  rw [Nat.succ_mul] at h1
  constructor
  · intro h
    have := h1.mp (by omega)
    omega
  · intro h
    have := h1.mpr (by omega)
    omega
theorem lsN_bd (w : WfN B g) {l q at_ : Nat} (hl : l < aP g) (hq : q < aP g) (h1 : g 3 l < at_) (h2 : at_ < g 3 q) : 1 ≤ lsN g l q at_ ∧ lsN g l q at_ ≤ 999 := by
  have w1 := (w.2.1 l hl).2.2.2.1
  have w2 := (w.2.1 q hq).2.2.2.1
  unfold lsN
  have hb : 0 < g 3 q - g 3 l := by omega
  have e : g 3 q - g 3 l = (g 3 q - at_) + (at_ - g 3 l) := by omega
  have a1 : 1 * (g 3 q - at_) ≤ g 4 l * (g 3 q - at_) := Nat.mul_le_mul_right _ w1.1
  have a2 : 1 * (at_ - g 3 l) ≤ g 4 q * (at_ - g 3 l) := Nat.mul_le_mul_right _ w2.1
  have b1 : g 4 l * (g 3 q - at_) ≤ 999 * (g 3 q - at_) := Nat.mul_le_mul_right _ (by omega)
  have b2 : g 4 q * (at_ - g 3 l) ≤ 999 * (at_ - g 3 l) := Nat.mul_le_mul_right _ (by omega)
  constructor
  · have h0 : ¬ (g 4 l * (g 3 q - at_) + g 4 q * (at_ - g 3 l) + (g 3 q - g 3 l) - 1) / (g 3 q - g 3 l) ≤ 0 := by
      rw [ceil_le hb]
      omega
    omega
  · rw [ceil_le hb, e, Nat.mul_add]
    omega
theorem blk_ls {l q at_ t : Nat} (h1 : g 3 l < at_) (h2 : at_ < g 3 q) : blk g l q at_ t = decide (lsN g l q at_ ≤ t) := by
  unfold blk lsN
  rw [decide_eq_true h1, decide_eq_true h2, Bool.true_and, Bool.true_and]
  have hb : 0 < g 3 q - g 3 l := by omega
  simp only [ceil_le hb]
theorem pM_screenedAt_L15 (h : RepM g s) (w : WfN B g) {p o at_ N : Nat} (hp : p < aP g) (ho : o < aP g) (ha : min (g 3 p) (g 3 o) < at_ ∧ at_ < max (g 3 p) (g 3 o)) (hN : N ≤ 999) (hb : ∀ t, blkO g p o at_ t = decide (N ≤ t)) : ∀ (n k : Nat), k ≤ N → N - k < n → f_X7_screenedAt_L15 s (nI p) (nI o) (nI at_) n (nI k) = some (nI N)
  | 0, k, _, h2 => by omega
  | n + 1, k, h1, h2 => by
    have hP := w.1.1
    have h3 := w.2.1 p hp
    have h4 := w.2.1 o ho
    rw [f_X7_screenedAt_L15.eq_2]
    have hbel := pM_isBelow h w hp ho ha (t := k) (by omega)
    rw [hb] at hbel
    by_cases hk : k = N
    · subst hk
      rw [decide_eq_true (Nat.le_refl _)] at hbel
      simp (disch := omega) only [nm_s, bd_s, bd2_s, bd3_s, bd4_s, q_gt, q_inB, ↓q_m1, l_166, l_172, l_180, l_188, l_189, l_190, l_191, l_192, l_14, l_17, l_18, l_0, l_1, l_2, l_3, l_4, l_5, l_6, l_7, l_8, l_9, l_10, l_11, l_12, l_20, l_21, l_30, l_31, l_32, l_40, l_48, l_50, l_51, l_57, l_60, l_70, l_71, l_99, l_100, l_101, l_160, l_199, l_200, l_999, l_1000, q_tn, q_add, q_mul, q_sub, q_le, q_lt, q_eq, q_31, n_and, n_or, n_xor, q_shl, q_z, q_b0, q_b1, q_bz, q_em, q_me, q_mm, q_lm, q_ml, q_mle, q_lem, s2_eq, s2_ne, pk_us, pk_un, uN_s, uN_n, if_pos, if_neg, ite_true, ite_false, if_true, if_false, not_true, not_false_iff, Nat.add_zero, Nat.zero_add, hbel, bI_f, Bool.not_true]
    · rw [decide_eq_false (by omega)] at hbel
      simp (disch := omega) only [nm_s, bd_s, bd2_s, bd3_s, bd4_s, q_gt, q_inB, ↓q_m1, l_166, l_172, l_180, l_188, l_189, l_190, l_191, l_192, l_14, l_17, l_18, l_0, l_1, l_2, l_3, l_4, l_5, l_6, l_7, l_8, l_9, l_10, l_11, l_12, l_20, l_21, l_30, l_31, l_32, l_40, l_48, l_50, l_51, l_57, l_60, l_70, l_71, l_99, l_100, l_101, l_160, l_199, l_200, l_999, l_1000, q_tn, q_add, q_mul, q_sub, q_le, q_lt, q_eq, q_31, n_and, n_or, n_xor, q_shl, q_z, q_b0, q_b1, q_bz, q_em, q_me, q_mm, q_lm, q_ml, q_mle, q_lem, s2_eq, s2_ne, pk_us, pk_un, uN_s, uN_n, if_pos, if_neg, ite_true, ite_false, if_true, if_false, not_true, not_false_iff, Nat.add_zero, Nat.zero_add, hbel, bI_t, Bool.not_false]
      exact pM_screenedAt_L15 h w hp ho ha hN hb n (k + 1) (by omega) (by omega)
theorem pM_screenedAt (h : RepM g s) (w : WfN B g) {p o at_ : Nat} (hp : p < aP g) (ho : o < aP g) (hne : g 3 p ≠ g 3 o) (ha : at_ < 100) : f_X7_screenedAt s (nI p) (nI o) (nI at_) = some (lsI g p o at_) := by
  have hP := w.1.1
  unfold f_X7_screenedAt lsI
  rw [pM_isBetween h w hp ho (by omega), bd_s]
  by_cases hl : g 3 p < g 3 o
  · rw [if_pos hl, Nat.min_eq_left (by omega), Nat.max_eq_right (by omega)]
    by_cases hc : g 3 p < at_ ∧ at_ < g 3 o
    · have hbd := lsN_bd w hp ho hc.1 hc.2
      rw [if_pos hc, decide_eq_true hc.1, decide_eq_true hc.2, if_neg (by decide)]
      refine pM_screenedAt_L15 h w hp ho (by omega) hbd.2 (fun t => ?_) 2000 1 hbd.1 (by omega)
      unfold blkO
      rw [if_pos hl, blk_ls hc.1 hc.2]
    · rw [if_neg hc]
      have : (decide (g 3 p < at_) && decide (at_ < g 3 o)) = false := by
        cases hx : (decide (g 3 p < at_) && decide (at_ < g 3 o)) with
        | false => rfl
        | true => exact absurd (by simpa using hx) hc
      rw [this, if_pos (by rfl)]
      rfl
  · rw [if_neg hl, if_pos (show g 3 o < g 3 p by omega), Nat.min_eq_right (by omega), Nat.max_eq_left (by omega)]
    by_cases hc : g 3 o < at_ ∧ at_ < g 3 p
    · have hbd := lsN_bd w ho hp hc.1 hc.2
      rw [if_pos hc, decide_eq_true hc.1, decide_eq_true hc.2, if_neg (by decide)]
      refine pM_screenedAt_L15 h w hp ho (by omega) hbd.2 (fun t => ?_) 2000 1 hbd.1 (by omega)
      unfold blkO
      rw [if_neg hl, blk_ls hc.1 hc.2]
    · rw [if_neg hc]
      have : (decide (g 3 o < at_) && decide (at_ < g 3 p)) = false := by
        cases hx : (decide (g 3 o < at_) && decide (at_ < g 3 p)) with
        | false => rfl
        | true => exact absurd (by simpa using hx) hc
      rw [this, if_pos (by rfl)]
      rfl
-- the least screen as a number, if there is one
def lsO (g : AG) (p q at_ : Nat) : Option Nat :=
  if anyF (fun j => decide (g 3 j = at_) && stB g j) (aP g) = true then none
  else if g 3 p < g 3 q then (if g 3 p < at_ ∧ at_ < g 3 q then some (lsN g p q at_) else none)
  else if g 3 q < g 3 p then (if g 3 q < at_ ∧ at_ < g 3 p then some (lsN g q p at_) else none) else none
def lsV (g : AG) (p q at_ : Nat) : Nat := (lsO g p q at_).getD 0
theorem lsO_bd (w : WfN B g) {p q at_ v : Nat} (hp : p < aP g) (hq : q < aP g) (h : lsO g p q at_ = some v) : 1 ≤ v ∧ v ≤ 999 := by
  unfold lsO at h
  split at h
  · cases h
  · split at h
    · split at h
      · rename_i hc
        cases h
        exact lsN_bd w hp hq hc.1 hc.2
      · cases h
    · split at h
      · split at h
        · rename_i hc
          cases h
          exact lsN_bd w hq hp hc.1 hc.2
        · cases h
      · cases h
theorem lsO_sel {p q at_ : Nat} (ht : anyF (fun j => decide (g 3 j = at_) && stB g j) (aP g) = false) : lsI g p q at_ = selI (lsO g p q at_) := by
  unfold lsO lsI
  rw [ht, if_neg ffl]
  split
  · split <;> rfl
  · split
    · split <;> rfl
    · rfl
theorem lsO_tk {p q at_ : Nat} (ht : anyF (fun j => decide (g 3 j = at_) && stB g j) (aP g) = true) : lsO g p q at_ = none := by
  unfold lsO
  rw [ht, if_pos rfl]
def hideS (g : AG) (p q n : Nat) : Option Nat := sel (fun a => (lsO g p q a).isSome) (minL (lsV g p q)) n
theorem hide_J {α : Type} (w : WfN B g) {p q i : Nat} (hp : p < aP g) (hq : q < aP g) (hi : i < 100) (d : Int32) (J : Int32 → Int32 → Int32 → Int32 → (Int32 → Int32 → Int32 → Option α) → Option α) (K : Int32 → Int32 → Int32 → Option α)
    (hJ : ∀ a b c t (k : Int32 → Int32 → Int32 → Option α), J a b c t k = if t = mI then k a b (c + nI 1) else if a = mI then k c t (c + nI 1) else if t < b then k c t (c + nI 1) else k a b (c + nI 1)) :
    J (selI (hideS g p q i)) (selV (lsV g p q) d (hideS g p q i)) (nI i) (selI (lsO g p q i)) K = K (selI (hideS g p q (i + 1))) (selV (lsV g p q) d (hideS g p q (i + 1))) (nI (i + 1)) := by
  rw [hJ]
  unfold hideS
  cases ho : lsO g p q i with
  | none =>
    rw [sel_no (by rw [ho]; rfl), q_add]
    simp only [selI, if_true]
  | some v =>
    have hv := lsO_bd w hp hq ho
    have hV : lsV g p q i = v := by unfold lsV; rw [ho]; rfl
    have hok : (lsO g p q i).isSome = true := by rw [ho]; rfl
    cases hx : sel (fun a => (lsO g p q a).isSome) (minL (lsV g p q)) i with
    | none =>
      rw [sel_0 hok hx]
      simp only [selI, selV, hV]
      simp (disch := omega) only [nm_s, bd_s, bd2_s, bd3_s, bd4_s, q_gt, q_inB, ↓q_m1, l_166, l_172, l_180, l_188, l_189, l_190, l_191, l_192, l_14, l_17, l_18, l_0, l_1, l_2, l_3, l_4, l_5, l_6, l_7, l_8, l_9, l_10, l_11, l_12, l_20, l_21, l_30, l_31, l_32, l_40, l_48, l_50, l_51, l_57, l_60, l_70, l_71, l_99, l_100, l_101, l_160, l_199, l_200, l_999, l_1000, q_tn, q_add, q_mul, q_sub, q_le, q_lt, q_eq, q_31, n_and, n_or, n_xor, q_shl, q_z, q_b0, q_b1, q_bz, q_em, q_me, q_mm, q_lm, q_ml, q_mle, q_lem, s2_eq, s2_ne, pk_us, pk_un, uN_s, uN_n, if_pos, if_neg, ite_true, ite_false, if_true, if_false, not_true, not_false_iff, Nat.add_zero, Nat.zero_add]
    | some j =>
      have hj := sel_lt hx
      have hjv : lsV g p q j < 1000 := by
        unfold lsV
        cases hz : lsO g p q j with
        | none => exact (by decide : (0 : Nat) < 1000)
        | some u => have := lsO_bd w hp hq hz; exact (by omega : u < 1000)
      by_cases hc : lsV g p q i < lsV g p q j
      · rw [sel_y hok hx (decide_eq_true hc)]
        simp only [selI, selV]
        rw [hV] at hc ⊢
        simp (disch := omega) only [nm_s, bd_s, bd2_s, bd3_s, bd4_s, q_gt, q_inB, ↓q_m1, l_166, l_172, l_180, l_188, l_189, l_190, l_191, l_192, l_14, l_17, l_18, l_0, l_1, l_2, l_3, l_4, l_5, l_6, l_7, l_8, l_9, l_10, l_11, l_12, l_20, l_21, l_30, l_31, l_32, l_40, l_48, l_50, l_51, l_57, l_60, l_70, l_71, l_99, l_100, l_101, l_160, l_199, l_200, l_999, l_1000, q_tn, q_add, q_mul, q_sub, q_le, q_lt, q_eq, q_31, n_and, n_or, n_xor, q_shl, q_z, q_b0, q_b1, q_bz, q_em, q_me, q_mm, q_lm, q_ml, q_mle, q_lem, s2_eq, s2_ne, pk_us, pk_un, uN_s, uN_n, if_pos, if_neg, ite_true, ite_false, if_true, if_false, not_true, not_false_iff, Nat.add_zero, Nat.zero_add]
      · rw [sel_n hx (decide_eq_false hc)]
        simp only [selI, selV]
        rw [hV] at hc
        simp (disch := omega) only [nm_s, bd_s, bd2_s, bd3_s, bd4_s, q_gt, q_inB, ↓q_m1, l_166, l_172, l_180, l_188, l_189, l_190, l_191, l_192, l_14, l_17, l_18, l_0, l_1, l_2, l_3, l_4, l_5, l_6, l_7, l_8, l_9, l_10, l_11, l_12, l_20, l_21, l_30, l_31, l_32, l_40, l_48, l_50, l_51, l_57, l_60, l_70, l_71, l_99, l_100, l_101, l_160, l_199, l_200, l_999, l_1000, q_tn, q_add, q_mul, q_sub, q_le, q_lt, q_eq, q_31, n_and, n_or, n_xor, q_shl, q_z, q_b0, q_b1, q_bz, q_em, q_me, q_mm, q_lm, q_ml, q_mle, q_lem, s2_eq, s2_ne, pk_us, pk_un, uN_s, uN_n, if_pos, if_neg, ite_true, ite_false, if_true, if_false, not_true, not_false_iff, Nat.add_zero, Nat.zero_add]
theorem pR_hide_L61 (h : RepR g r) (w : WfN B g) (so : GS) {p q : Nat} (hp : p < aP g) (hq : q < aP g) (hne : g 3 p ≠ g 3 q) : ∀ (n i : Nat), i ≤ 100 → 100 - i < n → f_X6_hide_L61 r (nI p) (nI q) so n (selI (hideS g p q i)) (selV (lsV g p q) mI (hideS g p q i)) (nI i) = some (selI (hideS g p q 100), so)
  | 0, i, _, h2 => by omega
  | n + 1, i, h1, h2 => by
    have hP := w.1.1
    rw [f_X6_hide_L61.eq_2]
    by_cases hi : i < 100
    · have ih := pR_hide_L61 h w so hp hq hne n (i + 1) (by omega) (by omega)
      have hJ : ∀ a b c t (k : Int32 → Int32 → Int32 → Option (Int32 × GS)), f_X6_hide_J95 a b c t k = if t = mI then k a b (c + nI 1) else if a = mI then k c t (c + nI 1) else if t < b then k c t (c + nI 1) else k a b (c + nI 1) := by
        intro a b c t k
        unfold f_X6_hide_J95 f_X6_hide_J115
        simp only [nm_s]
        by_cases e1 : t = (-1 : Int32)
        · rw [if_pos e1, if_pos (show t = mI from e1)]; rfl
        · rw [if_neg e1, if_neg (show ¬ t = mI from e1)]
          by_cases e2 : a = (-1 : Int32)
          · rw [if_pos e2, if_pos (show a = mI from e2)]; rfl
          · rw [if_neg e2, if_neg (show ¬ a = mI from e2)]
            by_cases e3 : b ≤ t
            · rw [if_pos e3, if_neg (Int32.not_lt.mpr e3)]; rfl
            · rw [if_neg e3, if_pos (Int32.not_le.mp e3)]; rfl
      have key := hide_J w hp hq hi mI f_X6_hide_J95 (f_X6_hide_L61 r (nI p) (nI q) so n) hJ
      have hst := pR_hasStandingPeakAt h w (q := i) (by omega)
      cases ht : anyF (fun j => decide (g 3 j = i) && stB g j) (aP g) with
      | true =>
        rw [ht] at hst
        rw [lsO_tk ht] at key
        simp (disch := omega) only [nm_s, bd_s, bd2_s, bd3_s, bd4_s, q_gt, q_inB, ↓q_m1, l_166, l_172, l_180, l_188, l_189, l_190, l_191, l_192, l_14, l_17, l_18, l_0, l_1, l_2, l_3, l_4, l_5, l_6, l_7, l_8, l_9, l_10, l_11, l_12, l_20, l_21, l_30, l_31, l_32, l_40, l_48, l_50, l_51, l_57, l_60, l_70, l_71, l_99, l_100, l_101, l_160, l_199, l_200, l_999, l_1000, q_tn, q_add, q_mul, q_sub, q_le, q_lt, q_eq, q_31, n_and, n_or, n_xor, q_shl, q_z, q_b0, q_b1, q_bz, q_em, q_me, q_mm, q_lm, q_ml, q_mle, q_lem, s2_eq, s2_ne, pk_us, pk_un, uN_s, uN_n, if_pos, if_neg, ite_true, ite_false, if_true, if_false, not_true, not_false_iff, Nat.add_zero, Nat.zero_add, hst, bI_t]
        exact key.trans ih
      | false =>
        rw [ht] at hst
        have hl := pR_leastScreen h w hp hq hi hne
        rw [lsO_sel ht] at hl
        simp (disch := omega) only [nm_s, bd_s, bd2_s, bd3_s, bd4_s, q_gt, q_inB, ↓q_m1, l_166, l_172, l_180, l_188, l_189, l_190, l_191, l_192, l_14, l_17, l_18, l_0, l_1, l_2, l_3, l_4, l_5, l_6, l_7, l_8, l_9, l_10, l_11, l_12, l_20, l_21, l_30, l_31, l_32, l_40, l_48, l_50, l_51, l_57, l_60, l_70, l_71, l_99, l_100, l_101, l_160, l_199, l_200, l_999, l_1000, q_tn, q_add, q_mul, q_sub, q_le, q_lt, q_eq, q_31, n_and, n_or, n_xor, q_shl, q_z, q_b0, q_b1, q_bz, q_em, q_me, q_mm, q_lm, q_ml, q_mle, q_lem, s2_eq, s2_ne, pk_us, pk_un, uN_s, uN_n, if_pos, if_neg, ite_true, ite_false, if_true, if_false, not_true, not_false_iff, Nat.add_zero, Nat.zero_add, hst, bI_f, hl]
        exact key.trans ih
    · have : i = 100 := by omega
      subst this
      simp (disch := omega) only [nm_s, bd_s, bd2_s, bd3_s, bd4_s, q_gt, q_inB, ↓q_m1, l_166, l_172, l_180, l_188, l_189, l_190, l_191, l_192, l_14, l_17, l_18, l_0, l_1, l_2, l_3, l_4, l_5, l_6, l_7, l_8, l_9, l_10, l_11, l_12, l_20, l_21, l_30, l_31, l_32, l_40, l_48, l_50, l_51, l_57, l_60, l_70, l_71, l_99, l_100, l_101, l_160, l_199, l_200, l_999, l_1000, q_tn, q_add, q_mul, q_sub, q_le, q_lt, q_eq, q_31, n_and, n_or, n_xor, q_shl, q_z, q_b0, q_b1, q_bz, q_em, q_me, q_mm, q_lm, q_ml, q_mle, q_lem, s2_eq, s2_ne, pk_us, pk_un, uN_s, uN_n, if_pos, if_neg, ite_true, ite_false, if_true, if_false, not_true, not_false_iff, Nat.add_zero, Nat.zero_add]
theorem pM_hide_L46 (h : RepM g s) (w : WfN B g) {p q : Nat} (hp : p < aP g) (hq : q < aP g) (hne : g 3 p ≠ g 3 q) : ∀ (n i : Nat), i ≤ 100 → 100 - i < n → f_X7_hide_L46 (nI p) (nI q) s n (selI (hideS g p q i)) (selV (lsV g p q) (nI 0) (hideS g p q i)) (nI i) = some (selI (hideS g p q 100), s)
  | 0, i, _, h2 => by omega
  | n + 1, i, h1, h2 => by
    have hP := w.1.1
    rw [f_X7_hide_L46.eq_2]
    by_cases hi : i < 100
    · have ih := pM_hide_L46 h w hp hq hne n (i + 1) (by omega) (by omega)
      have hJ : ∀ a b c t (k : Int32 → Int32 → Int32 → Option (Int32 × GS)), f_X7_hide_J74 a b c t k = if t = mI then k a b (c + nI 1) else if a = mI then k c t (c + nI 1) else if t < b then k c t (c + nI 1) else k a b (c + nI 1) := by
        intro a b c t k
        rfl
      have key := hide_J w hp hq hi (nI 0) f_X7_hide_J74 (f_X7_hide_L46 (nI p) (nI q) s n) hJ
      have hst := pM_isFree h w (q := i) (by omega)
      cases ht : anyF (fun j => decide (g 3 j = i) && stB g j) (aP g) with
      | true =>
        rw [ht] at hst
        rw [lsO_tk ht] at key
        simp (disch := omega) only [nm_s, bd_s, bd2_s, bd3_s, bd4_s, q_gt, q_inB, ↓q_m1, l_166, l_172, l_180, l_188, l_189, l_190, l_191, l_192, l_14, l_17, l_18, l_0, l_1, l_2, l_3, l_4, l_5, l_6, l_7, l_8, l_9, l_10, l_11, l_12, l_20, l_21, l_30, l_31, l_32, l_40, l_48, l_50, l_51, l_57, l_60, l_70, l_71, l_99, l_100, l_101, l_160, l_199, l_200, l_999, l_1000, q_tn, q_add, q_mul, q_sub, q_le, q_lt, q_eq, q_31, n_and, n_or, n_xor, q_shl, q_z, q_b0, q_b1, q_bz, q_em, q_me, q_mm, q_lm, q_ml, q_mle, q_lem, s2_eq, s2_ne, pk_us, pk_un, uN_s, uN_n, if_pos, if_neg, ite_true, ite_false, if_true, if_false, not_true, not_false_iff, Nat.add_zero, Nat.zero_add, hst, bI_f, Bool.not_true]
        exact key.trans ih
      | false =>
        rw [ht] at hst
        have hl := pM_screenedAt h w hp hq hne hi
        rw [lsO_sel ht] at hl
        simp (disch := omega) only [nm_s, bd_s, bd2_s, bd3_s, bd4_s, q_gt, q_inB, ↓q_m1, l_166, l_172, l_180, l_188, l_189, l_190, l_191, l_192, l_14, l_17, l_18, l_0, l_1, l_2, l_3, l_4, l_5, l_6, l_7, l_8, l_9, l_10, l_11, l_12, l_20, l_21, l_30, l_31, l_32, l_40, l_48, l_50, l_51, l_57, l_60, l_70, l_71, l_99, l_100, l_101, l_160, l_199, l_200, l_999, l_1000, q_tn, q_add, q_mul, q_sub, q_le, q_lt, q_eq, q_31, n_and, n_or, n_xor, q_shl, q_z, q_b0, q_b1, q_bz, q_em, q_me, q_mm, q_lm, q_ml, q_mle, q_lem, s2_eq, s2_ne, pk_us, pk_un, uN_s, uN_n, if_pos, if_neg, ite_true, ite_false, if_true, if_false, not_true, not_false_iff, Nat.add_zero, Nat.zero_add, hst, bI_t, Bool.not_false, hl]
        exact key.trans ih
    · have : i = 100 := by omega
      subst this
      simp (disch := omega) only [nm_s, bd_s, bd2_s, bd3_s, bd4_s, q_gt, q_inB, ↓q_m1, l_166, l_172, l_180, l_188, l_189, l_190, l_191, l_192, l_14, l_17, l_18, l_0, l_1, l_2, l_3, l_4, l_5, l_6, l_7, l_8, l_9, l_10, l_11, l_12, l_20, l_21, l_30, l_31, l_32, l_40, l_48, l_50, l_51, l_57, l_60, l_70, l_71, l_99, l_100, l_101, l_160, l_199, l_200, l_999, l_1000, q_tn, q_add, q_mul, q_sub, q_le, q_lt, q_eq, q_31, n_and, n_or, n_xor, q_shl, q_z, q_b0, q_b1, q_bz, q_em, q_me, q_mm, q_lm, q_ml, q_mle, q_lem, s2_eq, s2_ne, pk_us, pk_un, uN_s, uN_n, if_pos, if_neg, ite_true, ite_false, if_true, if_false, not_true, not_false_iff, Nat.add_zero, Nat.zero_add]
end SE
