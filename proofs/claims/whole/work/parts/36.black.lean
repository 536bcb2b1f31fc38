-- who is black: both ways lead to the least set that is closed
def subM (a b : Nat) : Prop := ∀ i, a.testBit i = true → b.testBit i = true
theorem subM_rfl (a : Nat) : subM a a := fun _ h => h
theorem subM_trans {a b c : Nat} (h : subM a b) (h2 : subM b c) : subM a c := fun i hi => h2 i (h i hi)
theorem subM_eq {a b : Nat} (h : subM a b) (h2 : subM b a) : a = b := by
  apply Nat.eq_of_testBit_eq
  intro i
  cases ha : a.testBit i with
  | true => exact (h i ha).symm
  | false =>
    cases hb : b.testBit i with
    | false => rfl
    | true => rw [h2 i hb] at ha; cases ha
theorem subM_or (a b : Nat) : subM a (a ||| b) := fun i h => by rw [Nat.testBit_or, h]; rfl
theorem cntF_sub {f h : Nat → Bool} : ∀ {n : Nat}, (∀ i, i < n → f i = true → h i = true) → cntF f n ≤ cntF h n
  | 0, _ => Nat.le_refl _
  | n + 1, hh => by
    have ih := cntF_sub (f := f) (h := h) (n := n) (fun i hi => hh i (by omega))
    cases hf : f n with
    | true => rw [cntF_s hf, cntF_s (hh n (by omega) hf)]; omega
    | false =>
      rw [cntF_n hf]
      cases hn : h n with
      | true => rw [cntF_s hn]; omega
      | false => rw [cntF_n hn]; exact ih
theorem cntF_ssub {f h : Nat → Bool} : ∀ {n i : Nat}, (∀ j, j < n → f j = true → h j = true) → i < n → f i = false → h i = true → cntF f n < cntF h n
  | 0, i, _, hi, _, _ => by omega
  | n + 1, i, hh, hi, h1, h2 => by
    by_cases hx : i = n
    · subst hx
      have := cntF_sub (f := f) (h := h) (n := i) (fun j hj => hh j (by omega))
      rw [cntF_n h1, cntF_s h2]; omega
    · have ih := cntF_ssub (f := f) (h := h) (n := n) (i := i) (fun j hj => hh j (by omega)) (by omega) h1 h2
      cases hf : f n with
      | true => rw [cntF_s hf, cntF_s (hh n (by omega) hf)]; omega
      | false =>
        rw [cntF_n hf]
        cases hn : h n with
        | true => rw [cntF_s hn]; omega
        | false => rw [cntF_n hn]; exact ih
theorem cnt_more {a b P : Nat} (ha : a < 2 ^ P) (hb : b < 2 ^ P) (h : subM a b) (hne : ¬ b = a) : cntF a.testBit P < cntF b.testBit P := by
  have : ∃ i, a.testBit i = false ∧ b.testBit i = true := by
    apply Classical.byContradiction
    intro hno
    apply hne
    refine subM_eq (fun i hi => ?_) h
    cases hx : a.testBit i with
    | true => rfl
    | false => exact absurd ⟨i, hx, hi⟩ hno
  obtain ⟨i, h1, h2⟩ := this
  have hi : i < P := by
    by_cases hx : i < P
    · exact hx
    · rw [tb_hi hb (by omega)] at h2; cases h2
  exact cntF_ssub (fun j _ hj => h j hj) hi h1 h2
theorem cnt_pos {a P : Nat} (ha : a < 2 ^ P) (h : ¬ a = 0) : 0 < cntF a.testBit P := by
  have := cnt_more (a := 0) (Nat.two_pow_pos P) ha (fun i hi => by rw [Nat.zero_testBit] at hi; cases hi) h
  omega
def clsd (g : AG) (c : Nat) : Prop := ∀ p, p < aP g → g 1 p = 3 → ¬ g 7 p &&& c = 0 → c.testBit p = true
theorem and_sub {a b c : Nat} (h : subM b c) (hz : a &&& c = 0) : a &&& b = 0 := by
  apply Nat.eq_of_testBit_eq
  intro i
  have h1 := congrArg (fun x => x.testBit i) hz
  rw [Nat.testBit_and, Nat.zero_testBit] at *
  cases hb : b.testBit i with
  | false => rw [Bool.and_false]
  | true =>
    have h2 : (a.testBit i && c.testBit i) = false := by rw [← Nat.testBit_and, hz, Nat.zero_testBit]
    rw [h i hb] at h2
    exact h2
section BK
variable {g : AG}
theorem crt_sub (m : Nat) : ∀ n, subM m (crt g m n)
  | 0 => subM_rfl m
  | n + 1 => by
    unfold crt
    split
    · exact subM_trans (crt_sub m n) (subM_or _ _)
    · exact crt_sub m n
theorem crt_least {m c : Nat} (hc : clsd g c) (h : subM m c) : ∀ n, n ≤ aP g → subM (crt g m n) c
  | 0, _ => h
  | n + 1, hn => by
    have ih := crt_least hc h n (by omega)
    unfold crt
    split
    · rename_i hh
      intro i hi
      rw [Nat.testBit_or, tb_two] at hi
      by_cases hx : n = i
      · subst hx
        exact hc n (by omega) hh.1 (fun hz => hh.2 (and_sub ih hz))
      · rw [decide_eq_false hx, Bool.or_false] at hi
        exact ih i hi
    · exact ih
theorem crt_stay {m : Nat} : ∀ n, crt g m n = m → ∀ k, k ≤ n → crt g m k = m
  | n, h, k, hk => subM_eq (by
      rw [← h]
      have : ∀ d, subM (crt g m k) (crt g m (k + d)) := by
        intro d
        induction d with
        | zero => exact subM_rfl _
        | succ d ih =>
          refine subM_trans ih ?_
          show subM _ (crt g m (k + d + 1))
          rw [crt]
          split
          · exact subM_or _ _
          · exact subM_rfl _
      have h2 := this (n - k)
      rw [show k + (n - k) = n by omega] at h2
      rw [h] at h2 ⊢
      exact h2) (crt_sub m k)
theorem crt_fix {m : Nat} (h : crt g m (aP g) = m) : clsd g m := fun p hp hk hs => by
  have h1 := crt_stay (g := g) (aP g) h (p + 1) (by omega)
  have h2 := crt_stay (g := g) (aP g) h p (by omega)
  rw [crt, h2, if_pos ⟨hk, hs⟩] at h1
  rw [← h1, Nat.testBit_or, tb_two, decide_eq_true rfl, Bool.or_true]
theorem blkIt_sub : ∀ (n b : Nat), subM b (blkIt g b n)
  | 0, b => subM_rfl b
  | n + 1, b => by
    unfold blkIt
    split
    · exact subM_rfl b
    · exact subM_trans (crt_sub b _) (blkIt_sub n _)
theorem blkIt_least {c : Nat} (hc : clsd g c) : ∀ (n b : Nat), subM b c → subM (blkIt g b n) c
  | 0, b, h => h
  | n + 1, b, h => by
    unfold blkIt
    split
    · exact h
    · exact blkIt_least hc n _ (crt_least hc h _ (Nat.le_refl _))
theorem blkIt_clsd : ∀ (n b : Nat), b < 2 ^ aP g → aP g < n + cntF b.testBit (aP g) → clsd g (blkIt g b n)
  | 0, b, hb, h => by have := cntF_le b.testBit (aP g); omega
  | n + 1, b, hb, h => by
    unfold blkIt
    split
    · rename_i he; exact crt_fix he
    · rename_i he
      have h2 := crt_lt (g := g) hb (aP g) (Nat.le_refl _)
      have := cnt_more hb h2 (crt_sub b _) he
      exact blkIt_clsd n _ h2 (by omega)
theorem crt_0 : ∀ n, crt g 0 n = 0
  | 0 => rfl
  | n + 1 => by
    rw [crt, crt_0 n, if_neg (fun q => q.2 (Nat.and_zero _))]
theorem black_clsd (y : Nat) : clsd g (black g y) := by
  unfold black
  by_cases hz : blk0 g y = 0
  · rw [hz]
    cases hP : aP g with
    | zero => intro p hp; omega
    | succ n =>
      rw [blkIt, if_pos (crt_0 _)]
      intro p hp _ hs
      exact absurd (Nat.and_zero _) hs
  · have := cnt_pos (blk0_lt g y) hz
    exact blkIt_clsd _ _ (blk0_lt g y) (by omega)
theorem black_uniq {y c : Nat} (h1 : clsd g c) (h2 : subM (blk0 g y) c) (h3 : ∀ d, clsd g d → subM (blk0 g y) d → subM c d) : c = black g y :=
  subM_eq (h3 _ (black_clsd y) (blkIt_sub _ _)) (blkIt_least h1 _ _ h2)
-- the reference's round
def jacM (g : AG) (b n : Nat) : Nat := msk (fun p => (g 1 p == 3) && !decide (g 7 p &&& b = 0)) n
def jac (g : AG) (b : Nat) : Nat := b ||| jacM g b (aP g)
theorem jac_lt {b : Nat} (h : b < 2 ^ aP g) : jac g b < 2 ^ aP g := or_lt h (msk_lt _ _)
theorem jac_fix {b : Nat} (h : jac g b = b) : clsd g b := fun p hp hk hs => by
  rw [← h]
  unfold jac jacM
  rw [Nat.testBit_or, msk_bit, decide_eq_true hp, hk, decide_eq_false hs]
  simp
theorem jac_least {b c : Nat} (hc : clsd g c) (h : subM b c) : subM (jac g b) c := fun i hi => by
  unfold jac jacM at hi
  rw [Nat.testBit_or, Bool.or_eq_true, msk_bit] at hi
  rcases hi with hi | hi
  · exact h i hi
  · simp only [Bool.and_eq_true, decide_eq_true_eq, beq_iff_eq, Bool.not_eq_true', decide_eq_false_iff_not] at hi
    exact hc i hi.1 hi.2.1 (fun hz => hi.2.2 (and_sub h hz))
end BK
section RB2
variable {B : Nat} {g : AG} {s : GS}
theorem pM_mourners_L4 (h : RepM g s) (w : WfN B g) : ∀ (n i : Nat), i ≤ aP g → aP g - i < n → f_X7_mourners_L4 s n (nI (msk (fun p => stB g p && decide (aY g < g 5 p)) i)) (nI i) = some (nI (mournM g (aY g)))
  | 0, i, _, h2 => by omega
  | n + 1, i, h1, h2 => by
    have hP := w.1.1
    have hB := w.1.2.2.2
    rw [f_X7_mourners_L4.eq_2]
    by_cases hi : i < aP g
    · have h5 := (w.2.1 i hi).2.2.2.2.1
      have ih := pM_mourners_L4 h w n (i + 1) (by omega) (by omega)
      cases hs : stB g i with
      | false =>
        rw [← msk_n (by simp [hs])] at ih
        simp (disch := omega) only [nm_s, bd_s, bd2_s, bd3_s, bd4_s, q_gt, q_inB, ↓q_m1, l_166, l_172, l_180, l_188, l_189, l_190, l_191, l_192, l_14, l_17, l_18, l_0, l_1, l_2, l_3, l_4, l_5, l_6, l_7, l_8, l_9, l_10, l_11, l_12, l_20, l_21, l_30, l_31, l_32, l_40, l_48, l_50, l_51, l_57, l_60, l_70, l_71, l_99, l_100, l_101, l_160, l_199, l_200, l_999, l_1000, q_tn, q_add, q_mul, q_sub, q_le, q_lt, q_eq, q_31, n_and, n_or, n_xor, q_shl, q_z, q_b0, q_b1, q_bz, q_em, q_me, q_mm, q_lm, q_ml, q_mle, q_lem, s2_eq, s2_ne, pk_us, pk_un, uN_s, uN_n, if_pos, if_neg, ite_true, ite_false, if_true, if_false, not_true, not_false_iff, Nat.add_zero, Nat.zero_add, h.c0, h.c9, hs]
        exact ih
      | true =>
        by_cases hc : g 5 i ≤ aY g
        · have hn : ¬ aY g < g 5 i := by omega
          rw [← msk_n (by simp [hn])] at ih
          simp (disch := omega) only [nm_s, bd_s, bd2_s, bd3_s, bd4_s, q_gt, q_inB, ↓q_m1, l_166, l_172, l_180, l_188, l_189, l_190, l_191, l_192, l_14, l_17, l_18, l_0, l_1, l_2, l_3, l_4, l_5, l_6, l_7, l_8, l_9, l_10, l_11, l_12, l_20, l_21, l_30, l_31, l_32, l_40, l_48, l_50, l_51, l_57, l_60, l_70, l_71, l_99, l_100, l_101, l_160, l_199, l_200, l_999, l_1000, q_tn, q_add, q_mul, q_sub, q_le, q_lt, q_eq, q_31, n_and, n_or, n_xor, q_shl, q_z, q_b0, q_b1, q_bz, q_em, q_me, q_mm, q_lm, q_ml, q_mle, q_lem, s2_eq, s2_ne, pk_us, pk_un, uN_s, uN_n, if_pos, if_neg, ite_true, ite_false, if_true, if_false, not_true, not_false_iff, Nat.add_zero, Nat.zero_add, h.c0, h.c9, hs, h.c10, h.cy]
          exact ih
        · have hn : aY g < g 5 i := by omega
          rw [← msk_s (by simp [hs, hn])] at ih
          simp (disch := omega) only [nm_s, bd_s, bd2_s, bd3_s, bd4_s, q_gt, q_inB, ↓q_m1, l_166, l_172, l_180, l_188, l_189, l_190, l_191, l_192, l_14, l_17, l_18, l_0, l_1, l_2, l_3, l_4, l_5, l_6, l_7, l_8, l_9, l_10, l_11, l_12, l_20, l_21, l_30, l_31, l_32, l_40, l_48, l_50, l_51, l_57, l_60, l_70, l_71, l_99, l_100, l_101, l_160, l_199, l_200, l_999, l_1000, q_tn, q_add, q_mul, q_sub, q_le, q_lt, q_eq, q_31, n_and, n_or, n_xor, q_shl, q_z, q_b0, q_b1, q_bz, q_em, q_me, q_mm, q_lm, q_ml, q_mle, q_lem, s2_eq, s2_ne, pk_us, pk_un, uN_s, uN_n, if_pos, if_neg, ite_true, ite_false, if_true, if_false, not_true, not_false_iff, Nat.add_zero, Nat.zero_add, h.c0, h.c9, hs, h.c10, h.cy, q_31]
          exact ih
    · have : i = aP g := by omega
      subst this
      simp (disch := omega) only [nm_s, bd_s, bd2_s, bd3_s, bd4_s, q_gt, q_inB, ↓q_m1, l_166, l_172, l_180, l_188, l_189, l_190, l_191, l_192, l_14, l_17, l_18, l_0, l_1, l_2, l_3, l_4, l_5, l_6, l_7, l_8, l_9, l_10, l_11, l_12, l_20, l_21, l_30, l_31, l_32, l_40, l_48, l_50, l_51, l_57, l_60, l_70, l_71, l_99, l_100, l_101, l_160, l_199, l_200, l_999, l_1000, q_tn, q_add, q_mul, q_sub, q_le, q_lt, q_eq, q_31, n_and, n_or, n_xor, q_shl, q_z, q_b0, q_b1, q_bz, q_em, q_me, q_mm, q_lm, q_ml, q_mle, q_lem, s2_eq, s2_ne, pk_us, pk_un, uN_s, uN_n, if_pos, if_neg, ite_true, ite_false, if_true, if_false, not_true, not_false_iff, Nat.add_zero, Nat.zero_add, h.c0]
      rfl
theorem pM_mourners (h : RepM g s) (w : WfN B g) : f_X7_mourners s = some (nI (mournM g (aY g))) :=
  pM_mourners_L4 h w 2000 0 (by omega) (by have := w.1.1; omega)
theorem pM_blacks_L9 (h : RepM g s) (w : WfN B g) {m : Nat} (hm : m < 2 ^ aP g) (K : Int32 → Option Int32) : ∀ (n i : Nat), i ≤ aP g → aP g - i < n → f_X7_blacks_L9 s (nI m) K n (nI (m ||| msk (fun p => und1 (g 1 p) && !decide (g 7 p &&& m = 0)) i)) (nI i) = K (nI (m ||| polM g m))
  | 0, i, _, h2 => by omega
  | n + 1, i, h1, h2 => by
    have hP := w.1.1
    have hm2 := lt31 hm (by omega)
    rw [f_X7_blacks_L9.eq_2]
    by_cases hi : i < aP g
    · have hk := (w.2.1 i hi).1
      have ih := pM_blacks_L9 h w hm K n (i + 1) (by omega) (by omega)
      cases hu : und1 (g 1 i) with
      | false =>
        rw [← msk_n (by simp [hu])] at ih
        simp (disch := omega) only [nm_s, bd_s, bd2_s, bd3_s, bd4_s, q_gt, q_inB, ↓q_m1, l_166, l_172, l_180, l_188, l_189, l_190, l_191, l_192, l_14, l_17, l_18, l_0, l_1, l_2, l_3, l_4, l_5, l_6, l_7, l_8, l_9, l_10, l_11, l_12, l_20, l_21, l_30, l_31, l_32, l_40, l_48, l_50, l_51, l_57, l_60, l_70, l_71, l_99, l_100, l_101, l_160, l_199, l_200, l_999, l_1000, q_tn, q_add, q_mul, q_sub, q_le, q_lt, q_eq, q_31, n_and, n_or, n_xor, q_shl, q_z, q_b0, q_b1, q_bz, q_em, q_me, q_mm, q_lm, q_ml, q_mle, q_lem, s2_eq, s2_ne, pk_us, pk_un, uN_s, uN_n, if_pos, if_neg, ite_true, ite_false, if_true, if_false, not_true, not_false_iff, Nat.add_zero, Nat.zero_add, h.c0, h.c5, pM_isUnder1, hu]
        exact ih
      | true =>
        by_cases hz : g 7 i &&& m = 0
        · rw [← msk_n (by simp [hz])] at ih
          simp (disch := omega) only [nm_s, bd_s, bd2_s, bd3_s, bd4_s, q_gt, q_inB, ↓q_m1, l_166, l_172, l_180, l_188, l_189, l_190, l_191, l_192, l_14, l_17, l_18, l_0, l_1, l_2, l_3, l_4, l_5, l_6, l_7, l_8, l_9, l_10, l_11, l_12, l_20, l_21, l_30, l_31, l_32, l_40, l_48, l_50, l_51, l_57, l_60, l_70, l_71, l_99, l_100, l_101, l_160, l_199, l_200, l_999, l_1000, q_tn, q_add, q_mul, q_sub, q_le, q_lt, q_eq, q_31, n_and, n_or, n_xor, q_shl, q_z, q_b0, q_b1, q_bz, q_em, q_me, q_mm, q_lm, q_ml, q_mle, q_lem, s2_eq, s2_ne, pk_us, pk_un, uN_s, uN_n, if_pos, if_neg, ite_true, ite_false, if_true, if_false, not_true, not_false_iff, Nat.add_zero, Nat.zero_add, h.c0, h.c5, pM_isUnder1, hu, pM_seesAny h w, hz, decide_true, Bool.not_true]
          exact ih
        · rw [← msk_s (by simp [hz, hu]), ← Nat.or_assoc] at ih
          simp (disch := omega) only [nm_s, bd_s, bd2_s, bd3_s, bd4_s, q_gt, q_inB, ↓q_m1, l_166, l_172, l_180, l_188, l_189, l_190, l_191, l_192, l_14, l_17, l_18, l_0, l_1, l_2, l_3, l_4, l_5, l_6, l_7, l_8, l_9, l_10, l_11, l_12, l_20, l_21, l_30, l_31, l_32, l_40, l_48, l_50, l_51, l_57, l_60, l_70, l_71, l_99, l_100, l_101, l_160, l_199, l_200, l_999, l_1000, q_tn, q_add, q_mul, q_sub, q_le, q_lt, q_eq, q_31, n_and, n_or, n_xor, q_shl, q_z, q_b0, q_b1, q_bz, q_em, q_me, q_mm, q_lm, q_ml, q_mle, q_lem, s2_eq, s2_ne, pk_us, pk_un, uN_s, uN_n, if_pos, if_neg, ite_true, ite_false, if_true, if_false, not_true, not_false_iff, Nat.add_zero, Nat.zero_add, h.c0, h.c5, pM_isUnder1, hu, pM_seesAny h w, hz, decide_false, Bool.not_false]
          exact ih
    · have : i = aP g := by omega
      subst this
      simp (disch := omega) only [nm_s, bd_s, bd2_s, bd3_s, bd4_s, q_gt, q_inB, ↓q_m1, l_166, l_172, l_180, l_188, l_189, l_190, l_191, l_192, l_14, l_17, l_18, l_0, l_1, l_2, l_3, l_4, l_5, l_6, l_7, l_8, l_9, l_10, l_11, l_12, l_20, l_21, l_30, l_31, l_32, l_40, l_48, l_50, l_51, l_57, l_60, l_70, l_71, l_99, l_100, l_101, l_160, l_199, l_200, l_999, l_1000, q_tn, q_add, q_mul, q_sub, q_le, q_lt, q_eq, q_31, n_and, n_or, n_xor, q_shl, q_z, q_b0, q_b1, q_bz, q_em, q_me, q_mm, q_lm, q_ml, q_mle, q_lem, s2_eq, s2_ne, pk_us, pk_un, uN_s, uN_n, if_pos, if_neg, ite_true, ite_false, if_true, if_false, not_true, not_false_iff, Nat.add_zero, Nat.zero_add, h.c0]
      rfl
theorem pM_blacks_L63 (h : RepM g s) (w : WfN B g) {m : Nat} (hm : m < 2 ^ aP g) (K : Int32 → Option Int32) : ∀ (n i : Nat), i ≤ aP g → aP g - i < n → f_X7_blacks_L63 s (nI m) K n (nI (m ||| jacM g m i)) (nI i) = K (nI (jac g m))
  | 0, i, _, h2 => by omega
  | n + 1, i, h1, h2 => by
    have hP := w.1.1
    have hm2 := lt31 hm (by omega)
    rw [f_X7_blacks_L63.eq_2]
    by_cases hi : i < aP g
    · have hk := (w.2.1 i hi).1
      have ih := pM_blacks_L63 h w hm K n (i + 1) (by omega) (by omega)
      unfold jacM at ih ⊢
      by_cases h3 : g 1 i = 3
      · by_cases hz : g 7 i &&& m = 0
        · rw [← msk_n (by simp [hz])] at ih
          simp (disch := omega) only [nm_s, bd_s, bd2_s, bd3_s, bd4_s, q_gt, q_inB, ↓q_m1, l_166, l_172, l_180, l_188, l_189, l_190, l_191, l_192, l_14, l_17, l_18, l_0, l_1, l_2, l_3, l_4, l_5, l_6, l_7, l_8, l_9, l_10, l_11, l_12, l_20, l_21, l_30, l_31, l_32, l_40, l_48, l_50, l_51, l_57, l_60, l_70, l_71, l_99, l_100, l_101, l_160, l_199, l_200, l_999, l_1000, q_tn, q_add, q_mul, q_sub, q_le, q_lt, q_eq, q_31, n_and, n_or, n_xor, q_shl, q_z, q_b0, q_b1, q_bz, q_em, q_me, q_mm, q_lm, q_ml, q_mle, q_lem, s2_eq, s2_ne, pk_us, pk_un, uN_s, uN_n, if_pos, if_neg, ite_true, ite_false, if_true, if_false, not_true, not_false_iff, Nat.add_zero, Nat.zero_add, h.c0, h.c5, pM_seesAny h w, hz, decide_true, Bool.not_true]
          exact ih
        · rw [← msk_s (by simp [hz, h3]), ← Nat.or_assoc] at ih
          simp (disch := omega) only [nm_s, bd_s, bd2_s, bd3_s, bd4_s, q_gt, q_inB, ↓q_m1, l_166, l_172, l_180, l_188, l_189, l_190, l_191, l_192, l_14, l_17, l_18, l_0, l_1, l_2, l_3, l_4, l_5, l_6, l_7, l_8, l_9, l_10, l_11, l_12, l_20, l_21, l_30, l_31, l_32, l_40, l_48, l_50, l_51, l_57, l_60, l_70, l_71, l_99, l_100, l_101, l_160, l_199, l_200, l_999, l_1000, q_tn, q_add, q_mul, q_sub, q_le, q_lt, q_eq, q_31, n_and, n_or, n_xor, q_shl, q_z, q_b0, q_b1, q_bz, q_em, q_me, q_mm, q_lm, q_ml, q_mle, q_lem, s2_eq, s2_ne, pk_us, pk_un, uN_s, uN_n, if_pos, if_neg, ite_true, ite_false, if_true, if_false, not_true, not_false_iff, Nat.add_zero, Nat.zero_add, h.c0, h.c5, pM_seesAny h w, hz, decide_false, Bool.not_false]
          exact ih
      · rw [← msk_n (by simp [h3])] at ih
        simp (disch := omega) only [nm_s, bd_s, bd2_s, bd3_s, bd4_s, q_gt, q_inB, ↓q_m1, l_166, l_172, l_180, l_188, l_189, l_190, l_191, l_192, l_14, l_17, l_18, l_0, l_1, l_2, l_3, l_4, l_5, l_6, l_7, l_8, l_9, l_10, l_11, l_12, l_20, l_21, l_30, l_31, l_32, l_40, l_48, l_50, l_51, l_57, l_60, l_70, l_71, l_99, l_100, l_101, l_160, l_199, l_200, l_999, l_1000, q_tn, q_add, q_mul, q_sub, q_le, q_lt, q_eq, q_31, n_and, n_or, n_xor, q_shl, q_z, q_b0, q_b1, q_bz, q_em, q_me, q_mm, q_lm, q_ml, q_mle, q_lem, s2_eq, s2_ne, pk_us, pk_un, uN_s, uN_n, if_pos, if_neg, ite_true, ite_false, if_true, if_false, not_true, not_false_iff, Nat.add_zero, Nat.zero_add, h.c0, h.c5]
        exact ih
    · have : i = aP g := by omega
      subst this
      simp (disch := omega) only [nm_s, bd_s, bd2_s, bd3_s, bd4_s, q_gt, q_inB, ↓q_m1, l_166, l_172, l_180, l_188, l_189, l_190, l_191, l_192, l_14, l_17, l_18, l_0, l_1, l_2, l_3, l_4, l_5, l_6, l_7, l_8, l_9, l_10, l_11, l_12, l_20, l_21, l_30, l_31, l_32, l_40, l_48, l_50, l_51, l_57, l_60, l_70, l_71, l_99, l_100, l_101, l_160, l_199, l_200, l_999, l_1000, q_tn, q_add, q_mul, q_sub, q_le, q_lt, q_eq, q_31, n_and, n_or, n_xor, q_shl, q_z, q_b0, q_b1, q_bz, q_em, q_me, q_mm, q_lm, q_ml, q_mle, q_lem, s2_eq, s2_ne, pk_us, pk_un, uN_s, uN_n, if_pos, if_neg, ite_true, ite_false, if_true, if_false, not_true, not_false_iff, Nat.add_zero, Nat.zero_add, h.c0]
      rfl
theorem pM_blacks_L53 (h : RepM g s) (w : WfN B g) {y : Nat} : ∀ (n b : Nat), b < 2 ^ aP g → aP g < n + cntF b.testBit (aP g) → subM (blk0 g y) b → (∀ d, clsd g d → subM (blk0 g y) d → subM b d) → f_X7_blacks_L53 s (n + 1) (nI (jac g b)) (nI b) = some (nI (black g y))
  | n, b, hb, hn, h1, h2 => by
    have hP := w.1.1
    have hb2 := lt31 hb (by omega)
    have hj := jac_lt (g := g) hb
    have hj2 := lt31 hj (by omega)
    rw [f_X7_blacks_L53.eq_2, ifc (n_eq (by omega) (by omega))]
    by_cases he : jac g b = b
    · rw [if_pos he, he, black_uniq (jac_fix he) h1 h2]
    · rw [if_neg he]
      have hc := cnt_more hb hj (subM_or _ _) he
      have hc2 := cntF_le (jac g b).testBit (aP g)
      cases n with
      | zero => omega
      | succ n =>
        have h63 := pM_blacks_L63 h w hj (fun x2_35 => f_X7_blacks_L53 s (n + 1) x2_35 (nI (jac g b))) 2000 0 (by omega) (by omega)
        unfold jacM at h63
        rw [msk, Nat.or_zero] at h63
        refine h63.trans ?_
        exact pM_blacks_L53 h w n (jac g b) hj (by omega) (subM_trans h1 (subM_or _ _)) (fun d hd hs => jac_least hd (h2 d hd hs))
theorem pM_blacks (h : RepM g s) (w : WfN B g) : f_X7_blacks s = some (nI (black g (aY g))) := by
  have hP := w.1.1
  have h0 := lt31 (blk0_lt g (aY g)) (by omega)
  unfold f_X7_blacks
  rw [pM_mourners h w, bd_s]
  have h9 := pM_blacks_L9 h w (mournM_lt g (aY g)) (fun x2_18 => f_X7_blacks_L53 s FU x2_18 (-1 : Int32)) 2000 0 (by omega) (by omega)
  rw [msk, Nat.or_zero] at h9
  refine h9.trans ?_
  show f_X7_blacks_L53 s (1999 + 1) (nI (blk0 g (aY g))) (-1 : Int32) = _
  rw [f_X7_blacks_L53.eq_2, if_neg (by rw [n_m1 (by omega)]; exact id)]
  have h63 := pM_blacks_L63 h w (blk0_lt g (aY g)) (fun x2_35 => f_X7_blacks_L53 s 1999 x2_35 (nI (blk0 g (aY g)))) 2000 0 (by omega) (by omega)
  unfold jacM at h63
  rw [msk, Nat.or_zero] at h63
  refine h63.trans ?_
  exact pM_blacks_L53 h w 1998 _ (blk0_lt g (aY g)) (by omega) (subM_rfl _) (fun d _ hs => hs)
end RB2
