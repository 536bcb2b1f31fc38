-- the class's Range: writes
def addP (g : AG) (k a p h : Nat) : AG := fun c => match c with
  | 0 => uN (g 0) 0 (aP g + 1)
  | 1 => uN (g 1) (aP g) k
  | 2 => uN (g 2) (aP g) a
  | 3 => uN (g 3) (aP g) p
  | 4 => uN (g 4) (aP g) h
  | 5 => uN (g 5) (aP g) 0
  | 6 => fun _ => aW g ||| 2 ^ aP g
  | 7 => uN (g 7) (aP g) 0
  | c + 8 => g (c + 8)
def addS (g : AG) (p h : Nat) : AG := a2 (a2 (a2 g 0 (uN (g 0) 1 (aS g + 1))) 9 (uN (g 9) (aS g) p)) 10 (uN (g 10) (aS g) h)
def addV (g : AG) (m : Nat) : AG := a2 (a2 (a2 g 0 (uN (g 0) 2 (aV g + 1))) 11 (uN (g 11) (aV g) m)) 12 (uN (g 12) (aV g) 0)
def setU (g : AG) (v u : Nat) : AG := a2 g 12 (uN (g 12) v u)
def setY (g : AG) (y : Nat) : AG := a2 g 0 (uN (g 0) 3 y)
def utA (g : AG) (lost k : Nat) : AG := a2 g 5 (fun q => if q < k then untilB g (g 5 q) q lost (aY g) else g 5 q)
def dropA (g : AG) (lost : Nat) : AG := a2 (utA g lost (aP g)) 6 (fun _ => clr (aW g) (2 ^ lost))
def loseA (g : AG) (lost : Nat) : AG := lookA (dropA g lost)
theorem Wf.L {B : Nat} {g : AG} (w : WfN B g) : WfL B g := by
  refine ⟨w.1, fun i hi => ?_, w.2.2.1, w.2.2.2.1, w.2.2.2.2.1, w.2.2.2.2.2⟩
  obtain ⟨h1, h2, h3, h4, h5, h6⟩ := w.2.1 i hi
  exact ⟨h1, h2, h3, h4, h5, Nat.lt_of_lt_of_le h6 (Nat.pow_le_pow_right (by omega) w.1.1)⟩
theorem Wf.mono {B B' : Nat} {g : AG} (w : WfN B g) (h : B ≤ B') (h2 : B' ≤ 20000000) : WfN B' g := by
  refine ⟨⟨w.1.1, w.1.2.1, w.1.2.2.1, by have := w.1.2.2.2.1; omega, h2, w.1.2.2.2.2.2⟩, fun i hi => ?_, w.2.2.1, w.2.2.2.1, w.2.2.2.2.1, w.2.2.2.2.2⟩
  obtain ⟨h1, h2, h3, h4, h5, h6⟩ := w.2.1 i hi
  exact ⟨h1, h2, h3, h4, by omega, h6⟩
theorem two_pos (i : Nat) : 0 < 2 ^ i := Nat.two_pow_pos i
theorem addP_wf {B : Nat} {g : AG} (w : WfN B g) {k a p h : Nat} (hk : k < 7) (ha : a < 10) (hp : p < 100) (hh : 1 ≤ h ∧ h < 1000) (hP : aP g < 10) (hn : ∀ i, i < aP g → ¬ g 3 i = p) : WfL B (addP g k a p h) := by
  refine ⟨⟨?_, w.1.2.1, w.1.2.2.1, w.1.2.2.2.1, w.1.2.2.2.2.1, ?_⟩, fun i hi => ?_, fun i j hi hj hs => ?_, w.2.2.2.1, fun v hv => ?_, fun i j hi hj he => ?_⟩
  · show aP g + 1 ≤ 10
    omega
  · show aW g ||| 2 ^ aP g < 2 ^ (aP g + 1)
    exact or_lt (Nat.lt_of_lt_of_le w.1.2.2.2.2.2 (Nat.pow_le_pow_right (by omega) (by omega))) (two_lt (by omega))
  · have hi2 : i < aP g + 1 := hi
    show uN (g 1) (aP g) k i < 7 ∧ uN (g 2) (aP g) a i < 10 ∧ uN (g 3) (aP g) p i < 100 ∧ (1 ≤ uN (g 4) (aP g) h i ∧ uN (g 4) (aP g) h i < 1000) ∧ uN (g 5) (aP g) 0 i ≤ 3 * B ∧ uN (g 7) (aP g) 0 i < 2 ^ 10
    by_cases hx : i = aP g
    · rw [hx, uN_s, uN_s, uN_s, uN_s, uN_s, uN_s]
      exact ⟨hk, ha, hp, hh, Nat.zero_le _, two_pos _⟩
    · rw [uN_n hx, uN_n hx, uN_n hx, uN_n hx, uN_n hx, uN_n hx]
      exact (Wf.L w).2.1 i (by omega)
  · have hi2 : i < aP g + 1 := hi
    have hj2 : j < aP g + 1 := hj
    have hs2 : (uN (g 7) (aP g) 0 i).testBit j = true := hs
    by_cases hx : i = aP g
    · rw [hx, uN_s, Nat.zero_testBit] at hs2
      cases hs2
    · rw [uN_n hx] at hs2
      exact w.2.2.1 i j (by omega) (Wf.se_lt w (by omega) hs2) hs2
  · obtain ⟨h1, h2⟩ := w.2.2.2.2.1 v hv
    refine ⟨h1, Nat.lt_of_lt_of_le h2 (Nat.pow_le_pow_right (by omega) ?_)⟩
    show aP g ≤ aP g + 1
    omega
  · have hi2 : i < aP g + 1 := hi
    have hj2 : j < aP g + 1 := hj
    have he2 : uN (g 3) (aP g) p i = uN (g 3) (aP g) p j := he
    by_cases hx : i = aP g
    · by_cases hy : j = aP g
      · omega
      · rw [hx, uN_s, uN_n hy] at he2
        exact absurd he2.symm (hn j (by omega))
    · by_cases hy : j = aP g
      · rw [hy, uN_s, uN_n hx] at he2
        exact absurd he2 (hn i (by omega))
      · rw [uN_n hx, uN_n hy] at he2
        exact w.2.2.2.2.2 i j (by omega) (by omega) he2
theorem addS_wf {B : Nat} {g : AG} (w : WfN B g) {p h : Nat} (hp : p < 100) (hh : 1 ≤ h ∧ h < 1000) (hS : aS g < 6) : WfL B (addS g p h) := by
  refine ⟨⟨w.1.1, ?_, w.1.2.2.1, w.1.2.2.2.1, w.1.2.2.2.2.1, w.1.2.2.2.2.2⟩, (Wf.L w).2.1, w.2.2.1, fun i hi => ?_, w.2.2.2.2.1, w.2.2.2.2.2⟩
  · show aS g + 1 ≤ 6
    omega
  · have hi2 : i < aS g + 1 := hi
    show uN (g 9) (aS g) p i < 100 ∧ (1 ≤ uN (g 10) (aS g) h i ∧ uN (g 10) (aS g) h i < 1000)
    by_cases hx : i = aS g
    · rw [hx, uN_s, uN_s]
      exact ⟨hp, hh⟩
    · rw [uN_n hx, uN_n hx]
      exact w.2.2.2.1 i (by omega)
theorem addV_wf {B : Nat} {g : AG} (w : WfN B g) {m : Nat} (hm : m < 1000) (hV : aV g < 8) : WfN B (addV g m) := by
  refine ⟨⟨w.1.1, w.1.2.1, ?_, w.1.2.2.2.1, w.1.2.2.2.2.1, w.1.2.2.2.2.2⟩, w.2.1, w.2.2.1, w.2.2.2.1, fun i hi => ?_, w.2.2.2.2.2⟩
  · show aV g + 1 ≤ 8
    omega
  · have hi2 : i < aV g + 1 := hi
    show uN (g 11) (aV g) m i < 1000 ∧ uN (g 12) (aV g) 0 i < 2 ^ aP g
    by_cases hx : i = aV g
    · rw [hx, uN_s, uN_s]
      exact ⟨hm, two_pos _⟩
    · rw [uN_n hx, uN_n hx]
      exact w.2.2.2.2.1 i (by omega)
theorem setU_wf {B : Nat} {g : AG} (w : WfN B g) {v u : Nat} (hu : u < 2 ^ aP g) : WfN B (setU g v u) := by
  refine ⟨w.1, w.2.1, w.2.2.1, w.2.2.2.1, fun i hi => ?_, w.2.2.2.2.2⟩
  show g 11 i < 1000 ∧ uN (g 12) v u i < 2 ^ aP g
  by_cases hx : i = v
  · rw [hx, uN_s]
    exact ⟨(w.2.2.2.2.1 v (by rw [← hx]; exact hi)).1, hu⟩
  · rw [uN_n hx]
    exact w.2.2.2.2.1 i hi
theorem setY_wf {B : Nat} {g : AG} (w : WfN B g) {y : Nat} (h1 : aY g ≤ y) (h2 : y ≤ B) : WfN B (setY g y) := by
  refine ⟨⟨w.1.1, w.1.2.1, w.1.2.2.1, h2, w.1.2.2.2.2.1, w.1.2.2.2.2.2⟩, w.2.1, fun i j hi hj hs => ?_, w.2.2.2.1, w.2.2.2.2.1, w.2.2.2.2.2⟩
  have := w.2.2.1 i j hi hj hs
  exact Nat.le_trans this h1
theorem setY_v {g : AG} {y : Nat} (w : WfV g) : WfV (setY g y) := w
theorem setU_v {g : AG} {v u : Nat} (w : WfV g) : WfV (setU g v u) := w
theorem addV_v {g : AG} {m : Nat} (w : WfV g) : WfV (addV g m) := w
theorem utA_wf {B : Nat} {g : AG} (w : WfN B g) {lost k : Nat} (hl : lost < aP g) : WfN B (utA g lost k) := by
  refine ⟨w.1, fun i hi => ?_, w.2.2.1, w.2.2.2.1, w.2.2.2.2.1, w.2.2.2.2.2⟩
  obtain ⟨h1, h2, h3, h4, h5, h6⟩ := w.2.1 i hi
  refine ⟨h1, h2, h3, h4, ?_, h6⟩
  show (if i < k then untilB g (g 5 i) i lost (aY g) else g 5 i) ≤ 3 * B
  have hy := w.1.2.2.2.1
  split
  · unfold untilB
    split
    · have := mournY_le (g 1 i) (g 2 i) (aY g - g 8 (10 * i + lost))
      omega
    · exact h5
  · exact h5
theorem dropA_wf {B : Nat} {g : AG} (w : WfN B g) {lost : Nat} (hl : lost < aP g) : WfL B (dropA g lost) := by
  have w2 := Wf.L (utA_wf w hl (k := aP g))
  refine ⟨⟨w.1.1, w.1.2.1, w.1.2.2.1, w.1.2.2.2.1, w.1.2.2.2.2.1, ?_⟩, w2.2.1, w2.2.2.1, w2.2.2.2.1, w2.2.2.2.2.1, w2.2.2.2.2.2⟩
  exact Nat.lt_of_le_of_lt (clr_lt w.1.2.2.2.2.2) w.1.2.2.2.2.2
theorem loseA_wf {B : Nat} {g : AG} (w : WfN B g) {lost : Nat} (hl : lost < aP g) : Wf B (loseA g lost) := lookA_wf (dropA_wf w hl)
section RW
variable {B : Nat} {g : AG} {r : GS}
theorem pR_look_then {α : Type} {K : GS → Option α} {Z : α → Prop} (w : WfL B g) (hr : RepB g r) (h8 : ∀ i, i < aP g → r 8 i = nI (g 7 i)) (h9 : ∀ i j, i < aP g → j < aP g → seB g i j = true → r 9 (10 * i + j) = nI (g 8 (10 * i + j))) (hK : ∀ r', RepR (lookA g) r' → r' 0 = r 0 → ∃ z, K r' = some z ∧ Z z) : ∃ z, bd (f_X3_lookAround r) K = some z ∧ Z z := by
  obtain ⟨r', e, h1, h2⟩ := pR_lookAround w hr h8 h9
  rw [e, bd_s]
  exact hK r' h1 h2
theorem RepR.toB (h : RepR g r) : RepB g r := ⟨h.1, fun i hi => ⟨h.c3 hi, h.c4 hi, h.c5 hi, h.c6 hi, h.c7 hi⟩, h.2.2.2.1, h.2.2.2.2⟩
theorem pR_addPeak (h : RepR g r) (w : WfN B g) {k a p t : Nat} (hk : k < 7) (ha : a < 10) (hp : p < 100) (hh : 1 ≤ t ∧ t < 1000) (hP : aP g < 10) (hn : ∀ i, i < aP g → ¬ g 3 i = p) : ∃ z, f_X3_addPeak r (nI k) (nI a) (nI p) (nI t) = some z ∧ (z.1 = nI (aP g) ∧ RepR (lookA (addP g k a p t)) z.2 ∧ z.2 0 17 = r 0 17) := by
  unfold f_X3_addPeak
  simp (disch := omega) only [nm_s, bd_s, bd2_s, bd3_s, bd4_s, q_gt, q_inB, ↓q_m1, l_166, l_172, l_180, l_188, l_189, l_190, l_191, l_192, l_14, l_17, l_18, l_0, l_1, l_2, l_3, l_4, l_5, l_6, l_7, l_8, l_9, l_10, l_11, l_12, l_20, l_21, l_30, l_31, l_32, l_40, l_48, l_50, l_51, l_57, l_60, l_70, l_71, l_99, l_100, l_101, l_160, l_199, l_200, l_999, l_1000, q_tn, q_add, q_mul, q_sub, q_le, q_lt, q_eq, q_31, n_and, n_or, n_xor, q_shl, q_z, q_b0, q_b1, q_bz, q_em, q_me, q_mm, q_lm, q_ml, q_mle, q_lem, s2_eq, s2_ne, pk_us, pk_un, uN_s, uN_n, if_pos, if_neg, ite_true, ite_false, if_true, if_false, not_true, not_false_iff, Nat.add_zero, Nat.zero_add, h.c0, h.c1]
  refine pR_look_then (addP_wf w hk ha hp hh hP hn) ⟨?_, fun i hi => ?_, ?_, ?_⟩ (fun i hi => ?_) (fun i j hi hj hs => ?_) (fun r' h1 h2 => ⟨_, rfl, rfl, h1, ?_⟩)
  · refine ⟨?_, ?_, ?_, ?_, ?_⟩
    · simp (disch := omega) only [nm_s, bd_s, bd2_s, bd3_s, bd4_s, q_gt, q_inB, ↓q_m1, l_166, l_172, l_180, l_188, l_189, l_190, l_191, l_192, l_14, l_17, l_18, l_0, l_1, l_2, l_3, l_4, l_5, l_6, l_7, l_8, l_9, l_10, l_11, l_12, l_20, l_21, l_30, l_31, l_32, l_40, l_48, l_50, l_51, l_57, l_60, l_70, l_71, l_99, l_100, l_101, l_160, l_199, l_200, l_999, l_1000, q_tn, q_add, q_mul, q_sub, q_le, q_lt, q_eq, q_31, n_and, n_or, n_xor, q_shl, q_z, q_b0, q_b1, q_bz, q_em, q_me, q_mm, q_lm, q_ml, q_mle, q_lem, s2_eq, s2_ne, pk_us, pk_un, uN_s, uN_n, if_pos, if_neg, ite_true, ite_false, if_true, if_false, not_true, not_false_iff, Nat.add_zero, Nat.zero_add]; rfl
    · simp (disch := omega) only [nm_s, bd_s, bd2_s, bd3_s, bd4_s, q_gt, q_inB, ↓q_m1, l_166, l_172, l_180, l_188, l_189, l_190, l_191, l_192, l_14, l_17, l_18, l_0, l_1, l_2, l_3, l_4, l_5, l_6, l_7, l_8, l_9, l_10, l_11, l_12, l_20, l_21, l_30, l_31, l_32, l_40, l_48, l_50, l_51, l_57, l_60, l_70, l_71, l_99, l_100, l_101, l_160, l_199, l_200, l_999, l_1000, q_tn, q_add, q_mul, q_sub, q_le, q_lt, q_eq, q_31, n_and, n_or, n_xor, q_shl, q_z, q_b0, q_b1, q_bz, q_em, q_me, q_mm, q_lm, q_ml, q_mle, q_lem, s2_eq, s2_ne, pk_us, pk_un, uN_s, uN_n, if_pos, if_neg, ite_true, ite_false, if_true, if_false, not_true, not_false_iff, Nat.add_zero, Nat.zero_add]; rfl
    · simp (disch := omega) only [nm_s, bd_s, bd2_s, bd3_s, bd4_s, q_gt, q_inB, ↓q_m1, l_166, l_172, l_180, l_188, l_189, l_190, l_191, l_192, l_14, l_17, l_18, l_0, l_1, l_2, l_3, l_4, l_5, l_6, l_7, l_8, l_9, l_10, l_11, l_12, l_20, l_21, l_30, l_31, l_32, l_40, l_48, l_50, l_51, l_57, l_60, l_70, l_71, l_99, l_100, l_101, l_160, l_199, l_200, l_999, l_1000, q_tn, q_add, q_mul, q_sub, q_le, q_lt, q_eq, q_31, n_and, n_or, n_xor, q_shl, q_z, q_b0, q_b1, q_bz, q_em, q_me, q_mm, q_lm, q_ml, q_mle, q_lem, s2_eq, s2_ne, pk_us, pk_un, uN_s, uN_n, if_pos, if_neg, ite_true, ite_false, if_true, if_false, not_true, not_false_iff, Nat.add_zero, Nat.zero_add]; exact h.cs
    · simp (disch := omega) only [nm_s, bd_s, bd2_s, bd3_s, bd4_s, q_gt, q_inB, ↓q_m1, l_166, l_172, l_180, l_188, l_189, l_190, l_191, l_192, l_14, l_17, l_18, l_0, l_1, l_2, l_3, l_4, l_5, l_6, l_7, l_8, l_9, l_10, l_11, l_12, l_20, l_21, l_30, l_31, l_32, l_40, l_48, l_50, l_51, l_57, l_60, l_70, l_71, l_99, l_100, l_101, l_160, l_199, l_200, l_999, l_1000, q_tn, q_add, q_mul, q_sub, q_le, q_lt, q_eq, q_31, n_and, n_or, n_xor, q_shl, q_z, q_b0, q_b1, q_bz, q_em, q_me, q_mm, q_lm, q_ml, q_mle, q_lem, s2_eq, s2_ne, pk_us, pk_un, uN_s, uN_n, if_pos, if_neg, ite_true, ite_false, if_true, if_false, not_true, not_false_iff, Nat.add_zero, Nat.zero_add]; exact h.cv
    · simp (disch := omega) only [nm_s, bd_s, bd2_s, bd3_s, bd4_s, q_gt, q_inB, ↓q_m1, l_166, l_172, l_180, l_188, l_189, l_190, l_191, l_192, l_14, l_17, l_18, l_0, l_1, l_2, l_3, l_4, l_5, l_6, l_7, l_8, l_9, l_10, l_11, l_12, l_20, l_21, l_30, l_31, l_32, l_40, l_48, l_50, l_51, l_57, l_60, l_70, l_71, l_99, l_100, l_101, l_160, l_199, l_200, l_999, l_1000, q_tn, q_add, q_mul, q_sub, q_le, q_lt, q_eq, q_31, n_and, n_or, n_xor, q_shl, q_z, q_b0, q_b1, q_bz, q_em, q_me, q_mm, q_lm, q_ml, q_mle, q_lem, s2_eq, s2_ne, pk_us, pk_un, uN_s, uN_n, if_pos, if_neg, ite_true, ite_false, if_true, if_false, not_true, not_false_iff, Nat.add_zero, Nat.zero_add]; exact h.cy
  · have hi2 : i < aP g + 1 := hi
    show _ = nI (uN (g 1) (aP g) k i) ∧ _ = nI (uN (g 2) (aP g) a i) ∧ _ = nI (uN (g 3) (aP g) p i) ∧ _ = nI (uN (g 4) (aP g) t i) ∧ _ = nI (uN (g 5) (aP g) 0 i)
    by_cases hx : i = aP g
    · subst hx
      refine ⟨?_, ?_, ?_, ?_, ?_⟩ <;> simp (disch := omega) only [nm_s, bd_s, bd2_s, bd3_s, bd4_s, q_gt, q_inB, ↓q_m1, l_166, l_172, l_180, l_188, l_189, l_190, l_191, l_192, l_14, l_17, l_18, l_0, l_1, l_2, l_3, l_4, l_5, l_6, l_7, l_8, l_9, l_10, l_11, l_12, l_20, l_21, l_30, l_31, l_32, l_40, l_48, l_50, l_51, l_57, l_60, l_70, l_71, l_99, l_100, l_101, l_160, l_199, l_200, l_999, l_1000, q_tn, q_add, q_mul, q_sub, q_le, q_lt, q_eq, q_31, n_and, n_or, n_xor, q_shl, q_z, q_b0, q_b1, q_bz, q_em, q_me, q_mm, q_lm, q_ml, q_mle, q_lem, s2_eq, s2_ne, pk_us, pk_un, uN_s, uN_n, if_pos, if_neg, ite_true, ite_false, if_true, if_false, not_true, not_false_iff, Nat.add_zero, Nat.zero_add]
    · refine ⟨?_, ?_, ?_, ?_, ?_⟩ <;> simp (disch := omega) only [nm_s, bd_s, bd2_s, bd3_s, bd4_s, q_gt, q_inB, ↓q_m1, l_166, l_172, l_180, l_188, l_189, l_190, l_191, l_192, l_14, l_17, l_18, l_0, l_1, l_2, l_3, l_4, l_5, l_6, l_7, l_8, l_9, l_10, l_11, l_12, l_20, l_21, l_30, l_31, l_32, l_40, l_48, l_50, l_51, l_57, l_60, l_70, l_71, l_99, l_100, l_101, l_160, l_199, l_200, l_999, l_1000, q_tn, q_add, q_mul, q_sub, q_le, q_lt, q_eq, q_31, n_and, n_or, n_xor, q_shl, q_z, q_b0, q_b1, q_bz, q_em, q_me, q_mm, q_lm, q_ml, q_mle, q_lem, s2_eq, s2_ne, pk_us, pk_un, uN_s, uN_n, if_pos, if_neg, ite_true, ite_false, if_true, if_false, not_true, not_false_iff, Nat.add_zero, Nat.zero_add, h.c3, h.c4, h.c5, h.c6, h.c7]
  · intro i hi
    refine ⟨?_, ?_⟩
    · simp (disch := omega) only [nm_s, bd_s, bd2_s, bd3_s, bd4_s, q_gt, q_inB, ↓q_m1, l_166, l_172, l_180, l_188, l_189, l_190, l_191, l_192, l_14, l_17, l_18, l_0, l_1, l_2, l_3, l_4, l_5, l_6, l_7, l_8, l_9, l_10, l_11, l_12, l_20, l_21, l_30, l_31, l_32, l_40, l_48, l_50, l_51, l_57, l_60, l_70, l_71, l_99, l_100, l_101, l_160, l_199, l_200, l_999, l_1000, q_tn, q_add, q_mul, q_sub, q_le, q_lt, q_eq, q_31, n_and, n_or, n_xor, q_shl, q_z, q_b0, q_b1, q_bz, q_em, q_me, q_mm, q_lm, q_ml, q_mle, q_lem, s2_eq, s2_ne, pk_us, pk_un, uN_s, uN_n, if_pos, if_neg, ite_true, ite_false, if_true, if_false, not_true, not_false_iff, Nat.add_zero, Nat.zero_add]; exact h.c12 hi
    · simp (disch := omega) only [nm_s, bd_s, bd2_s, bd3_s, bd4_s, q_gt, q_inB, ↓q_m1, l_166, l_172, l_180, l_188, l_189, l_190, l_191, l_192, l_14, l_17, l_18, l_0, l_1, l_2, l_3, l_4, l_5, l_6, l_7, l_8, l_9, l_10, l_11, l_12, l_20, l_21, l_30, l_31, l_32, l_40, l_48, l_50, l_51, l_57, l_60, l_70, l_71, l_99, l_100, l_101, l_160, l_199, l_200, l_999, l_1000, q_tn, q_add, q_mul, q_sub, q_le, q_lt, q_eq, q_31, n_and, n_or, n_xor, q_shl, q_z, q_b0, q_b1, q_bz, q_em, q_me, q_mm, q_lm, q_ml, q_mle, q_lem, s2_eq, s2_ne, pk_us, pk_un, uN_s, uN_n, if_pos, if_neg, ite_true, ite_false, if_true, if_false, not_true, not_false_iff, Nat.add_zero, Nat.zero_add]; exact h.c13 hi
  · intro i hi
    refine ⟨?_, ?_⟩
    · simp (disch := omega) only [nm_s, bd_s, bd2_s, bd3_s, bd4_s, q_gt, q_inB, ↓q_m1, l_166, l_172, l_180, l_188, l_189, l_190, l_191, l_192, l_14, l_17, l_18, l_0, l_1, l_2, l_3, l_4, l_5, l_6, l_7, l_8, l_9, l_10, l_11, l_12, l_20, l_21, l_30, l_31, l_32, l_40, l_48, l_50, l_51, l_57, l_60, l_70, l_71, l_99, l_100, l_101, l_160, l_199, l_200, l_999, l_1000, q_tn, q_add, q_mul, q_sub, q_le, q_lt, q_eq, q_31, n_and, n_or, n_xor, q_shl, q_z, q_b0, q_b1, q_bz, q_em, q_me, q_mm, q_lm, q_ml, q_mle, q_lem, s2_eq, s2_ne, pk_us, pk_un, uN_s, uN_n, if_pos, if_neg, ite_true, ite_false, if_true, if_false, not_true, not_false_iff, Nat.add_zero, Nat.zero_add]; exact h.c15 hi
    · simp (disch := omega) only [nm_s, bd_s, bd2_s, bd3_s, bd4_s, q_gt, q_inB, ↓q_m1, l_166, l_172, l_180, l_188, l_189, l_190, l_191, l_192, l_14, l_17, l_18, l_0, l_1, l_2, l_3, l_4, l_5, l_6, l_7, l_8, l_9, l_10, l_11, l_12, l_20, l_21, l_30, l_31, l_32, l_40, l_48, l_50, l_51, l_57, l_60, l_70, l_71, l_99, l_100, l_101, l_160, l_199, l_200, l_999, l_1000, q_tn, q_add, q_mul, q_sub, q_le, q_lt, q_eq, q_31, n_and, n_or, n_xor, q_shl, q_z, q_b0, q_b1, q_bz, q_em, q_me, q_mm, q_lm, q_ml, q_mle, q_lem, s2_eq, s2_ne, pk_us, pk_un, uN_s, uN_n, if_pos, if_neg, ite_true, ite_false, if_true, if_false, not_true, not_false_iff, Nat.add_zero, Nat.zero_add]; exact h.c16 hi
  · have hi2 : i < aP g + 1 := hi
    show _ = nI (uN (g 7) (aP g) 0 i)
    by_cases hx : i = aP g
    · subst hx
      simp (disch := omega) only [nm_s, bd_s, bd2_s, bd3_s, bd4_s, q_gt, q_inB, ↓q_m1, l_166, l_172, l_180, l_188, l_189, l_190, l_191, l_192, l_14, l_17, l_18, l_0, l_1, l_2, l_3, l_4, l_5, l_6, l_7, l_8, l_9, l_10, l_11, l_12, l_20, l_21, l_30, l_31, l_32, l_40, l_48, l_50, l_51, l_57, l_60, l_70, l_71, l_99, l_100, l_101, l_160, l_199, l_200, l_999, l_1000, q_tn, q_add, q_mul, q_sub, q_le, q_lt, q_eq, q_31, n_and, n_or, n_xor, q_shl, q_z, q_b0, q_b1, q_bz, q_em, q_me, q_mm, q_lm, q_ml, q_mle, q_lem, s2_eq, s2_ne, pk_us, pk_un, uN_s, uN_n, if_pos, if_neg, ite_true, ite_false, if_true, if_false, not_true, not_false_iff, Nat.add_zero, Nat.zero_add]
    · simp (disch := omega) only [nm_s, bd_s, bd2_s, bd3_s, bd4_s, q_gt, q_inB, ↓q_m1, l_166, l_172, l_180, l_188, l_189, l_190, l_191, l_192, l_14, l_17, l_18, l_0, l_1, l_2, l_3, l_4, l_5, l_6, l_7, l_8, l_9, l_10, l_11, l_12, l_20, l_21, l_30, l_31, l_32, l_40, l_48, l_50, l_51, l_57, l_60, l_70, l_71, l_99, l_100, l_101, l_160, l_199, l_200, l_999, l_1000, q_tn, q_add, q_mul, q_sub, q_le, q_lt, q_eq, q_31, n_and, n_or, n_xor, q_shl, q_z, q_b0, q_b1, q_bz, q_em, q_me, q_mm, q_lm, q_ml, q_mle, q_lem, s2_eq, s2_ne, pk_us, pk_un, uN_s, uN_n, if_pos, if_neg, ite_true, ite_false, if_true, if_false, not_true, not_false_iff, Nat.add_zero, Nat.zero_add, h.c8]
  · have hi2 : i < aP g + 1 := hi
    have hs2 : (uN (g 7) (aP g) 0 i).testBit j = true := hs
    by_cases hx : i = aP g
    · rw [hx, uN_s, Nat.zero_testBit] at hs2
      cases hs2
    · rw [uN_n hx] at hs2
      simp (disch := omega) only [nm_s, bd_s, bd2_s, bd3_s, bd4_s, q_gt, q_inB, ↓q_m1, l_166, l_172, l_180, l_188, l_189, l_190, l_191, l_192, l_14, l_17, l_18, l_0, l_1, l_2, l_3, l_4, l_5, l_6, l_7, l_8, l_9, l_10, l_11, l_12, l_20, l_21, l_30, l_31, l_32, l_40, l_48, l_50, l_51, l_57, l_60, l_70, l_71, l_99, l_100, l_101, l_160, l_199, l_200, l_999, l_1000, q_tn, q_add, q_mul, q_sub, q_le, q_lt, q_eq, q_31, n_and, n_or, n_xor, q_shl, q_z, q_b0, q_b1, q_bz, q_em, q_me, q_mm, q_lm, q_ml, q_mle, q_lem, s2_eq, s2_ne, pk_us, pk_un, uN_s, uN_n, if_pos, if_neg, ite_true, ite_false, if_true, if_false, not_true, not_false_iff, Nat.add_zero, Nat.zero_add]
      exact h.2.2.1 i j (by omega) (Wf.se_lt w (by omega) hs2) hs2
  · show r' 0 17 = r 0 17
    rw [h2]
    simp (disch := omega) only [nm_s, bd_s, bd2_s, bd3_s, bd4_s, q_gt, q_inB, ↓q_m1, l_166, l_172, l_180, l_188, l_189, l_190, l_191, l_192, l_14, l_17, l_18, l_0, l_1, l_2, l_3, l_4, l_5, l_6, l_7, l_8, l_9, l_10, l_11, l_12, l_20, l_21, l_30, l_31, l_32, l_40, l_48, l_50, l_51, l_57, l_60, l_70, l_71, l_99, l_100, l_101, l_160, l_199, l_200, l_999, l_1000, q_tn, q_add, q_mul, q_sub, q_le, q_lt, q_eq, q_31, n_and, n_or, n_xor, q_shl, q_z, q_b0, q_b1, q_bz, q_em, q_me, q_mm, q_lm, q_ml, q_mle, q_lem, s2_eq, s2_ne, pk_us, pk_un, uN_s, uN_n, if_pos, if_neg, ite_true, ite_false, if_true, if_false, not_true, not_false_iff, Nat.add_zero, Nat.zero_add]
theorem pR_addScreen (h : RepR g r) (w : WfN B g) {p t : Nat} (hp : p < 100) (hh : 1 ≤ t ∧ t < 1000) (hS : aS g < 6) : ∃ z, f_X3_addScreen r (nI p) (nI t) = some z ∧ (z.1 = nI (aS g) ∧ RepR (lookA (addS g p t)) z.2 ∧ z.2 0 17 = r 0 17) := by
  unfold f_X3_addScreen
  simp (disch := omega) only [nm_s, bd_s, bd2_s, bd3_s, bd4_s, q_gt, q_inB, ↓q_m1, l_166, l_172, l_180, l_188, l_189, l_190, l_191, l_192, l_14, l_17, l_18, l_0, l_1, l_2, l_3, l_4, l_5, l_6, l_7, l_8, l_9, l_10, l_11, l_12, l_20, l_21, l_30, l_31, l_32, l_40, l_48, l_50, l_51, l_57, l_60, l_70, l_71, l_99, l_100, l_101, l_160, l_199, l_200, l_999, l_1000, q_tn, q_add, q_mul, q_sub, q_le, q_lt, q_eq, q_31, n_and, n_or, n_xor, q_shl, q_z, q_b0, q_b1, q_bz, q_em, q_me, q_mm, q_lm, q_ml, q_mle, q_lem, s2_eq, s2_ne, pk_us, pk_un, uN_s, uN_n, if_pos, if_neg, ite_true, ite_false, if_true, if_false, not_true, not_false_iff, Nat.add_zero, Nat.zero_add, h.cs]
  refine pR_look_then (addS_wf w hp hh hS) ⟨?_, fun i hi => ?_, fun i hi => ?_, fun i hi => ?_⟩ (fun i hi => ?_) (fun i j hi hj hs => ?_) (fun r' h1 h2 => ⟨_, rfl, ?_, h1, ?_⟩)
  · refine ⟨?_, ?_, ?_, ?_, ?_⟩
    · simp (disch := omega) only [nm_s, bd_s, bd2_s, bd3_s, bd4_s, q_gt, q_inB, ↓q_m1, l_166, l_172, l_180, l_188, l_189, l_190, l_191, l_192, l_14, l_17, l_18, l_0, l_1, l_2, l_3, l_4, l_5, l_6, l_7, l_8, l_9, l_10, l_11, l_12, l_20, l_21, l_30, l_31, l_32, l_40, l_48, l_50, l_51, l_57, l_60, l_70, l_71, l_99, l_100, l_101, l_160, l_199, l_200, l_999, l_1000, q_tn, q_add, q_mul, q_sub, q_le, q_lt, q_eq, q_31, n_and, n_or, n_xor, q_shl, q_z, q_b0, q_b1, q_bz, q_em, q_me, q_mm, q_lm, q_ml, q_mle, q_lem, s2_eq, s2_ne, pk_us, pk_un, uN_s, uN_n, if_pos, if_neg, ite_true, ite_false, if_true, if_false, not_true, not_false_iff, Nat.add_zero, Nat.zero_add]; exact h.c0
    · simp (disch := omega) only [nm_s, bd_s, bd2_s, bd3_s, bd4_s, q_gt, q_inB, ↓q_m1, l_166, l_172, l_180, l_188, l_189, l_190, l_191, l_192, l_14, l_17, l_18, l_0, l_1, l_2, l_3, l_4, l_5, l_6, l_7, l_8, l_9, l_10, l_11, l_12, l_20, l_21, l_30, l_31, l_32, l_40, l_48, l_50, l_51, l_57, l_60, l_70, l_71, l_99, l_100, l_101, l_160, l_199, l_200, l_999, l_1000, q_tn, q_add, q_mul, q_sub, q_le, q_lt, q_eq, q_31, n_and, n_or, n_xor, q_shl, q_z, q_b0, q_b1, q_bz, q_em, q_me, q_mm, q_lm, q_ml, q_mle, q_lem, s2_eq, s2_ne, pk_us, pk_un, uN_s, uN_n, if_pos, if_neg, ite_true, ite_false, if_true, if_false, not_true, not_false_iff, Nat.add_zero, Nat.zero_add]; exact h.c1
    · simp (disch := omega) only [nm_s, bd_s, bd2_s, bd3_s, bd4_s, q_gt, q_inB, ↓q_m1, l_166, l_172, l_180, l_188, l_189, l_190, l_191, l_192, l_14, l_17, l_18, l_0, l_1, l_2, l_3, l_4, l_5, l_6, l_7, l_8, l_9, l_10, l_11, l_12, l_20, l_21, l_30, l_31, l_32, l_40, l_48, l_50, l_51, l_57, l_60, l_70, l_71, l_99, l_100, l_101, l_160, l_199, l_200, l_999, l_1000, q_tn, q_add, q_mul, q_sub, q_le, q_lt, q_eq, q_31, n_and, n_or, n_xor, q_shl, q_z, q_b0, q_b1, q_bz, q_em, q_me, q_mm, q_lm, q_ml, q_mle, q_lem, s2_eq, s2_ne, pk_us, pk_un, uN_s, uN_n, if_pos, if_neg, ite_true, ite_false, if_true, if_false, not_true, not_false_iff, Nat.add_zero, Nat.zero_add]; rfl
    · simp (disch := omega) only [nm_s, bd_s, bd2_s, bd3_s, bd4_s, q_gt, q_inB, ↓q_m1, l_166, l_172, l_180, l_188, l_189, l_190, l_191, l_192, l_14, l_17, l_18, l_0, l_1, l_2, l_3, l_4, l_5, l_6, l_7, l_8, l_9, l_10, l_11, l_12, l_20, l_21, l_30, l_31, l_32, l_40, l_48, l_50, l_51, l_57, l_60, l_70, l_71, l_99, l_100, l_101, l_160, l_199, l_200, l_999, l_1000, q_tn, q_add, q_mul, q_sub, q_le, q_lt, q_eq, q_31, n_and, n_or, n_xor, q_shl, q_z, q_b0, q_b1, q_bz, q_em, q_me, q_mm, q_lm, q_ml, q_mle, q_lem, s2_eq, s2_ne, pk_us, pk_un, uN_s, uN_n, if_pos, if_neg, ite_true, ite_false, if_true, if_false, not_true, not_false_iff, Nat.add_zero, Nat.zero_add]; exact h.cv
    · simp (disch := omega) only [nm_s, bd_s, bd2_s, bd3_s, bd4_s, q_gt, q_inB, ↓q_m1, l_166, l_172, l_180, l_188, l_189, l_190, l_191, l_192, l_14, l_17, l_18, l_0, l_1, l_2, l_3, l_4, l_5, l_6, l_7, l_8, l_9, l_10, l_11, l_12, l_20, l_21, l_30, l_31, l_32, l_40, l_48, l_50, l_51, l_57, l_60, l_70, l_71, l_99, l_100, l_101, l_160, l_199, l_200, l_999, l_1000, q_tn, q_add, q_mul, q_sub, q_le, q_lt, q_eq, q_31, n_and, n_or, n_xor, q_shl, q_z, q_b0, q_b1, q_bz, q_em, q_me, q_mm, q_lm, q_ml, q_mle, q_lem, s2_eq, s2_ne, pk_us, pk_un, uN_s, uN_n, if_pos, if_neg, ite_true, ite_false, if_true, if_false, not_true, not_false_iff, Nat.add_zero, Nat.zero_add]; exact h.cy
  · refine ⟨?_, ?_, ?_, ?_, ?_⟩
    · simp (disch := omega) only [nm_s, bd_s, bd2_s, bd3_s, bd4_s, q_gt, q_inB, ↓q_m1, l_166, l_172, l_180, l_188, l_189, l_190, l_191, l_192, l_14, l_17, l_18, l_0, l_1, l_2, l_3, l_4, l_5, l_6, l_7, l_8, l_9, l_10, l_11, l_12, l_20, l_21, l_30, l_31, l_32, l_40, l_48, l_50, l_51, l_57, l_60, l_70, l_71, l_99, l_100, l_101, l_160, l_199, l_200, l_999, l_1000, q_tn, q_add, q_mul, q_sub, q_le, q_lt, q_eq, q_31, n_and, n_or, n_xor, q_shl, q_z, q_b0, q_b1, q_bz, q_em, q_me, q_mm, q_lm, q_ml, q_mle, q_lem, s2_eq, s2_ne, pk_us, pk_un, uN_s, uN_n, if_pos, if_neg, ite_true, ite_false, if_true, if_false, not_true, not_false_iff, Nat.add_zero, Nat.zero_add]; exact h.c3 hi
    · simp (disch := omega) only [nm_s, bd_s, bd2_s, bd3_s, bd4_s, q_gt, q_inB, ↓q_m1, l_166, l_172, l_180, l_188, l_189, l_190, l_191, l_192, l_14, l_17, l_18, l_0, l_1, l_2, l_3, l_4, l_5, l_6, l_7, l_8, l_9, l_10, l_11, l_12, l_20, l_21, l_30, l_31, l_32, l_40, l_48, l_50, l_51, l_57, l_60, l_70, l_71, l_99, l_100, l_101, l_160, l_199, l_200, l_999, l_1000, q_tn, q_add, q_mul, q_sub, q_le, q_lt, q_eq, q_31, n_and, n_or, n_xor, q_shl, q_z, q_b0, q_b1, q_bz, q_em, q_me, q_mm, q_lm, q_ml, q_mle, q_lem, s2_eq, s2_ne, pk_us, pk_un, uN_s, uN_n, if_pos, if_neg, ite_true, ite_false, if_true, if_false, not_true, not_false_iff, Nat.add_zero, Nat.zero_add]; exact h.c4 hi
    · simp (disch := omega) only [nm_s, bd_s, bd2_s, bd3_s, bd4_s, q_gt, q_inB, ↓q_m1, l_166, l_172, l_180, l_188, l_189, l_190, l_191, l_192, l_14, l_17, l_18, l_0, l_1, l_2, l_3, l_4, l_5, l_6, l_7, l_8, l_9, l_10, l_11, l_12, l_20, l_21, l_30, l_31, l_32, l_40, l_48, l_50, l_51, l_57, l_60, l_70, l_71, l_99, l_100, l_101, l_160, l_199, l_200, l_999, l_1000, q_tn, q_add, q_mul, q_sub, q_le, q_lt, q_eq, q_31, n_and, n_or, n_xor, q_shl, q_z, q_b0, q_b1, q_bz, q_em, q_me, q_mm, q_lm, q_ml, q_mle, q_lem, s2_eq, s2_ne, pk_us, pk_un, uN_s, uN_n, if_pos, if_neg, ite_true, ite_false, if_true, if_false, not_true, not_false_iff, Nat.add_zero, Nat.zero_add]; exact h.c5 hi
    · simp (disch := omega) only [nm_s, bd_s, bd2_s, bd3_s, bd4_s, q_gt, q_inB, ↓q_m1, l_166, l_172, l_180, l_188, l_189, l_190, l_191, l_192, l_14, l_17, l_18, l_0, l_1, l_2, l_3, l_4, l_5, l_6, l_7, l_8, l_9, l_10, l_11, l_12, l_20, l_21, l_30, l_31, l_32, l_40, l_48, l_50, l_51, l_57, l_60, l_70, l_71, l_99, l_100, l_101, l_160, l_199, l_200, l_999, l_1000, q_tn, q_add, q_mul, q_sub, q_le, q_lt, q_eq, q_31, n_and, n_or, n_xor, q_shl, q_z, q_b0, q_b1, q_bz, q_em, q_me, q_mm, q_lm, q_ml, q_mle, q_lem, s2_eq, s2_ne, pk_us, pk_un, uN_s, uN_n, if_pos, if_neg, ite_true, ite_false, if_true, if_false, not_true, not_false_iff, Nat.add_zero, Nat.zero_add]; exact h.c6 hi
    · simp (disch := omega) only [nm_s, bd_s, bd2_s, bd3_s, bd4_s, q_gt, q_inB, ↓q_m1, l_166, l_172, l_180, l_188, l_189, l_190, l_191, l_192, l_14, l_17, l_18, l_0, l_1, l_2, l_3, l_4, l_5, l_6, l_7, l_8, l_9, l_10, l_11, l_12, l_20, l_21, l_30, l_31, l_32, l_40, l_48, l_50, l_51, l_57, l_60, l_70, l_71, l_99, l_100, l_101, l_160, l_199, l_200, l_999, l_1000, q_tn, q_add, q_mul, q_sub, q_le, q_lt, q_eq, q_31, n_and, n_or, n_xor, q_shl, q_z, q_b0, q_b1, q_bz, q_em, q_me, q_mm, q_lm, q_ml, q_mle, q_lem, s2_eq, s2_ne, pk_us, pk_un, uN_s, uN_n, if_pos, if_neg, ite_true, ite_false, if_true, if_false, not_true, not_false_iff, Nat.add_zero, Nat.zero_add]; exact h.c7 hi
  · have hi2 : i < aS g + 1 := hi
    show _ = nI (uN (g 9) (aS g) p i) ∧ _ = nI (uN (g 10) (aS g) t i)
    by_cases hx : i = aS g
    · subst hx
      refine ⟨?_, ?_⟩ <;> simp (disch := omega) only [nm_s, bd_s, bd2_s, bd3_s, bd4_s, q_gt, q_inB, ↓q_m1, l_166, l_172, l_180, l_188, l_189, l_190, l_191, l_192, l_14, l_17, l_18, l_0, l_1, l_2, l_3, l_4, l_5, l_6, l_7, l_8, l_9, l_10, l_11, l_12, l_20, l_21, l_30, l_31, l_32, l_40, l_48, l_50, l_51, l_57, l_60, l_70, l_71, l_99, l_100, l_101, l_160, l_199, l_200, l_999, l_1000, q_tn, q_add, q_mul, q_sub, q_le, q_lt, q_eq, q_31, n_and, n_or, n_xor, q_shl, q_z, q_b0, q_b1, q_bz, q_em, q_me, q_mm, q_lm, q_ml, q_mle, q_lem, s2_eq, s2_ne, pk_us, pk_un, uN_s, uN_n, if_pos, if_neg, ite_true, ite_false, if_true, if_false, not_true, not_false_iff, Nat.add_zero, Nat.zero_add]
    · refine ⟨?_, ?_⟩ <;> simp (disch := omega) only [nm_s, bd_s, bd2_s, bd3_s, bd4_s, q_gt, q_inB, ↓q_m1, l_166, l_172, l_180, l_188, l_189, l_190, l_191, l_192, l_14, l_17, l_18, l_0, l_1, l_2, l_3, l_4, l_5, l_6, l_7, l_8, l_9, l_10, l_11, l_12, l_20, l_21, l_30, l_31, l_32, l_40, l_48, l_50, l_51, l_57, l_60, l_70, l_71, l_99, l_100, l_101, l_160, l_199, l_200, l_999, l_1000, q_tn, q_add, q_mul, q_sub, q_le, q_lt, q_eq, q_31, n_and, n_or, n_xor, q_shl, q_z, q_b0, q_b1, q_bz, q_em, q_me, q_mm, q_lm, q_ml, q_mle, q_lem, s2_eq, s2_ne, pk_us, pk_un, uN_s, uN_n, if_pos, if_neg, ite_true, ite_false, if_true, if_false, not_true, not_false_iff, Nat.add_zero, Nat.zero_add, h.c12, h.c13]
  · refine ⟨?_, ?_⟩
    · simp (disch := omega) only [nm_s, bd_s, bd2_s, bd3_s, bd4_s, q_gt, q_inB, ↓q_m1, l_166, l_172, l_180, l_188, l_189, l_190, l_191, l_192, l_14, l_17, l_18, l_0, l_1, l_2, l_3, l_4, l_5, l_6, l_7, l_8, l_9, l_10, l_11, l_12, l_20, l_21, l_30, l_31, l_32, l_40, l_48, l_50, l_51, l_57, l_60, l_70, l_71, l_99, l_100, l_101, l_160, l_199, l_200, l_999, l_1000, q_tn, q_add, q_mul, q_sub, q_le, q_lt, q_eq, q_31, n_and, n_or, n_xor, q_shl, q_z, q_b0, q_b1, q_bz, q_em, q_me, q_mm, q_lm, q_ml, q_mle, q_lem, s2_eq, s2_ne, pk_us, pk_un, uN_s, uN_n, if_pos, if_neg, ite_true, ite_false, if_true, if_false, not_true, not_false_iff, Nat.add_zero, Nat.zero_add]; exact h.c15 hi
    · simp (disch := omega) only [nm_s, bd_s, bd2_s, bd3_s, bd4_s, q_gt, q_inB, ↓q_m1, l_166, l_172, l_180, l_188, l_189, l_190, l_191, l_192, l_14, l_17, l_18, l_0, l_1, l_2, l_3, l_4, l_5, l_6, l_7, l_8, l_9, l_10, l_11, l_12, l_20, l_21, l_30, l_31, l_32, l_40, l_48, l_50, l_51, l_57, l_60, l_70, l_71, l_99, l_100, l_101, l_160, l_199, l_200, l_999, l_1000, q_tn, q_add, q_mul, q_sub, q_le, q_lt, q_eq, q_31, n_and, n_or, n_xor, q_shl, q_z, q_b0, q_b1, q_bz, q_em, q_me, q_mm, q_lm, q_ml, q_mle, q_lem, s2_eq, s2_ne, pk_us, pk_un, uN_s, uN_n, if_pos, if_neg, ite_true, ite_false, if_true, if_false, not_true, not_false_iff, Nat.add_zero, Nat.zero_add]; exact h.c16 hi
  · simp (disch := omega) only [nm_s, bd_s, bd2_s, bd3_s, bd4_s, q_gt, q_inB, ↓q_m1, l_166, l_172, l_180, l_188, l_189, l_190, l_191, l_192, l_14, l_17, l_18, l_0, l_1, l_2, l_3, l_4, l_5, l_6, l_7, l_8, l_9, l_10, l_11, l_12, l_20, l_21, l_30, l_31, l_32, l_40, l_48, l_50, l_51, l_57, l_60, l_70, l_71, l_99, l_100, l_101, l_160, l_199, l_200, l_999, l_1000, q_tn, q_add, q_mul, q_sub, q_le, q_lt, q_eq, q_31, n_and, n_or, n_xor, q_shl, q_z, q_b0, q_b1, q_bz, q_em, q_me, q_mm, q_lm, q_ml, q_mle, q_lem, s2_eq, s2_ne, pk_us, pk_un, uN_s, uN_n, if_pos, if_neg, ite_true, ite_false, if_true, if_false, not_true, not_false_iff, Nat.add_zero, Nat.zero_add]; exact h.c8 hi
  · simp (disch := omega) only [nm_s, bd_s, bd2_s, bd3_s, bd4_s, q_gt, q_inB, ↓q_m1, l_166, l_172, l_180, l_188, l_189, l_190, l_191, l_192, l_14, l_17, l_18, l_0, l_1, l_2, l_3, l_4, l_5, l_6, l_7, l_8, l_9, l_10, l_11, l_12, l_20, l_21, l_30, l_31, l_32, l_40, l_48, l_50, l_51, l_57, l_60, l_70, l_71, l_99, l_100, l_101, l_160, l_199, l_200, l_999, l_1000, q_tn, q_add, q_mul, q_sub, q_le, q_lt, q_eq, q_31, n_and, n_or, n_xor, q_shl, q_z, q_b0, q_b1, q_bz, q_em, q_me, q_mm, q_lm, q_ml, q_mle, q_lem, s2_eq, s2_ne, pk_us, pk_un, uN_s, uN_n, if_pos, if_neg, ite_true, ite_false, if_true, if_false, not_true, not_false_iff, Nat.add_zero, Nat.zero_add]; exact h.2.2.1 i j hi hj hs
  · show r' 0 10 - nI 1 = nI (aS g)
    rw [h2]
    simp (disch := omega) only [nm_s, bd_s, bd2_s, bd3_s, bd4_s, q_gt, q_inB, ↓q_m1, l_166, l_172, l_180, l_188, l_189, l_190, l_191, l_192, l_14, l_17, l_18, l_0, l_1, l_2, l_3, l_4, l_5, l_6, l_7, l_8, l_9, l_10, l_11, l_12, l_20, l_21, l_30, l_31, l_32, l_40, l_48, l_50, l_51, l_57, l_60, l_70, l_71, l_99, l_100, l_101, l_160, l_199, l_200, l_999, l_1000, q_tn, q_add, q_mul, q_sub, q_le, q_lt, q_eq, q_31, n_and, n_or, n_xor, q_shl, q_z, q_b0, q_b1, q_bz, q_em, q_me, q_mm, q_lm, q_ml, q_mle, q_lem, s2_eq, s2_ne, pk_us, pk_un, uN_s, uN_n, if_pos, if_neg, ite_true, ite_false, if_true, if_false, not_true, not_false_iff, Nat.add_zero, Nat.zero_add]
    rfl
  · show r' 0 17 = r 0 17
    rw [h2]
    simp (disch := omega) only [nm_s, bd_s, bd2_s, bd3_s, bd4_s, q_gt, q_inB, ↓q_m1, l_166, l_172, l_180, l_188, l_189, l_190, l_191, l_192, l_14, l_17, l_18, l_0, l_1, l_2, l_3, l_4, l_5, l_6, l_7, l_8, l_9, l_10, l_11, l_12, l_20, l_21, l_30, l_31, l_32, l_40, l_48, l_50, l_51, l_57, l_60, l_70, l_71, l_99, l_100, l_101, l_160, l_199, l_200, l_999, l_1000, q_tn, q_add, q_mul, q_sub, q_le, q_lt, q_eq, q_31, n_and, n_or, n_xor, q_shl, q_z, q_b0, q_b1, q_bz, q_em, q_me, q_mm, q_lm, q_ml, q_mle, q_lem, s2_eq, s2_ne, pk_us, pk_un, uN_s, uN_n, if_pos, if_neg, ite_true, ite_false, if_true, if_false, not_true, not_false_iff, Nat.add_zero, Nat.zero_add]
theorem pR_addValley (h : RepR g r) (w : WfN B g) {m : Nat} (hV : aV g < 8) : ∃ z, f_X3_addValley r (nI m) = some z ∧ (z.1 = nI (aV g) ∧ RepR (addV g m) z.2 ∧ z.2 0 17 = r 0 17) := by
  unfold f_X3_addValley
  simp (disch := omega) only [nm_s, bd_s, bd2_s, bd3_s, bd4_s, q_gt, q_inB, ↓q_m1, l_166, l_172, l_180, l_188, l_189, l_190, l_191, l_192, l_14, l_17, l_18, l_0, l_1, l_2, l_3, l_4, l_5, l_6, l_7, l_8, l_9, l_10, l_11, l_12, l_20, l_21, l_30, l_31, l_32, l_40, l_48, l_50, l_51, l_57, l_60, l_70, l_71, l_99, l_100, l_101, l_160, l_199, l_200, l_999, l_1000, q_tn, q_add, q_mul, q_sub, q_le, q_lt, q_eq, q_31, n_and, n_or, n_xor, q_shl, q_z, q_b0, q_b1, q_bz, q_em, q_me, q_mm, q_lm, q_ml, q_mle, q_lem, s2_eq, s2_ne, pk_us, pk_un, uN_s, uN_n, if_pos, if_neg, ite_true, ite_false, if_true, if_false, not_true, not_false_iff, Nat.add_zero, Nat.zero_add, h.cv]
  refine ⟨_, rfl, ?_, ⟨?_, fun i hi => ?_, fun i j hi hj hs => ?_, fun i hi => ?_, fun i hi => ?_⟩, ?_⟩
  · rfl
  · refine ⟨?_, ?_, ?_, ?_, ?_⟩
    · simp (disch := omega) only [nm_s, bd_s, bd2_s, bd3_s, bd4_s, q_gt, q_inB, ↓q_m1, l_166, l_172, l_180, l_188, l_189, l_190, l_191, l_192, l_14, l_17, l_18, l_0, l_1, l_2, l_3, l_4, l_5, l_6, l_7, l_8, l_9, l_10, l_11, l_12, l_20, l_21, l_30, l_31, l_32, l_40, l_48, l_50, l_51, l_57, l_60, l_70, l_71, l_99, l_100, l_101, l_160, l_199, l_200, l_999, l_1000, q_tn, q_add, q_mul, q_sub, q_le, q_lt, q_eq, q_31, n_and, n_or, n_xor, q_shl, q_z, q_b0, q_b1, q_bz, q_em, q_me, q_mm, q_lm, q_ml, q_mle, q_lem, s2_eq, s2_ne, pk_us, pk_un, uN_s, uN_n, if_pos, if_neg, ite_true, ite_false, if_true, if_false, not_true, not_false_iff, Nat.add_zero, Nat.zero_add]; exact h.c0
    · simp (disch := omega) only [nm_s, bd_s, bd2_s, bd3_s, bd4_s, q_gt, q_inB, ↓q_m1, l_166, l_172, l_180, l_188, l_189, l_190, l_191, l_192, l_14, l_17, l_18, l_0, l_1, l_2, l_3, l_4, l_5, l_6, l_7, l_8, l_9, l_10, l_11, l_12, l_20, l_21, l_30, l_31, l_32, l_40, l_48, l_50, l_51, l_57, l_60, l_70, l_71, l_99, l_100, l_101, l_160, l_199, l_200, l_999, l_1000, q_tn, q_add, q_mul, q_sub, q_le, q_lt, q_eq, q_31, n_and, n_or, n_xor, q_shl, q_z, q_b0, q_b1, q_bz, q_em, q_me, q_mm, q_lm, q_ml, q_mle, q_lem, s2_eq, s2_ne, pk_us, pk_un, uN_s, uN_n, if_pos, if_neg, ite_true, ite_false, if_true, if_false, not_true, not_false_iff, Nat.add_zero, Nat.zero_add]; exact h.c1
    · simp (disch := omega) only [nm_s, bd_s, bd2_s, bd3_s, bd4_s, q_gt, q_inB, ↓q_m1, l_166, l_172, l_180, l_188, l_189, l_190, l_191, l_192, l_14, l_17, l_18, l_0, l_1, l_2, l_3, l_4, l_5, l_6, l_7, l_8, l_9, l_10, l_11, l_12, l_20, l_21, l_30, l_31, l_32, l_40, l_48, l_50, l_51, l_57, l_60, l_70, l_71, l_99, l_100, l_101, l_160, l_199, l_200, l_999, l_1000, q_tn, q_add, q_mul, q_sub, q_le, q_lt, q_eq, q_31, n_and, n_or, n_xor, q_shl, q_z, q_b0, q_b1, q_bz, q_em, q_me, q_mm, q_lm, q_ml, q_mle, q_lem, s2_eq, s2_ne, pk_us, pk_un, uN_s, uN_n, if_pos, if_neg, ite_true, ite_false, if_true, if_false, not_true, not_false_iff, Nat.add_zero, Nat.zero_add]; exact h.cs
    · simp (disch := omega) only [nm_s, bd_s, bd2_s, bd3_s, bd4_s, q_gt, q_inB, ↓q_m1, l_166, l_172, l_180, l_188, l_189, l_190, l_191, l_192, l_14, l_17, l_18, l_0, l_1, l_2, l_3, l_4, l_5, l_6, l_7, l_8, l_9, l_10, l_11, l_12, l_20, l_21, l_30, l_31, l_32, l_40, l_48, l_50, l_51, l_57, l_60, l_70, l_71, l_99, l_100, l_101, l_160, l_199, l_200, l_999, l_1000, q_tn, q_add, q_mul, q_sub, q_le, q_lt, q_eq, q_31, n_and, n_or, n_xor, q_shl, q_z, q_b0, q_b1, q_bz, q_em, q_me, q_mm, q_lm, q_ml, q_mle, q_lem, s2_eq, s2_ne, pk_us, pk_un, uN_s, uN_n, if_pos, if_neg, ite_true, ite_false, if_true, if_false, not_true, not_false_iff, Nat.add_zero, Nat.zero_add]; rfl
    · simp (disch := omega) only [nm_s, bd_s, bd2_s, bd3_s, bd4_s, q_gt, q_inB, ↓q_m1, l_166, l_172, l_180, l_188, l_189, l_190, l_191, l_192, l_14, l_17, l_18, l_0, l_1, l_2, l_3, l_4, l_5, l_6, l_7, l_8, l_9, l_10, l_11, l_12, l_20, l_21, l_30, l_31, l_32, l_40, l_48, l_50, l_51, l_57, l_60, l_70, l_71, l_99, l_100, l_101, l_160, l_199, l_200, l_999, l_1000, q_tn, q_add, q_mul, q_sub, q_le, q_lt, q_eq, q_31, n_and, n_or, n_xor, q_shl, q_z, q_b0, q_b1, q_bz, q_em, q_me, q_mm, q_lm, q_ml, q_mle, q_lem, s2_eq, s2_ne, pk_us, pk_un, uN_s, uN_n, if_pos, if_neg, ite_true, ite_false, if_true, if_false, not_true, not_false_iff, Nat.add_zero, Nat.zero_add]; exact h.cy
  · exact h.2.1 i hi
  · exact h.2.2.1 i j hi hj hs
  · exact h.2.2.2.1 i hi
  · have hi2 : i < aV g + 1 := hi
    show _ = nI (uN (g 11) (aV g) m i) ∧ _ = nI (uN (g 12) (aV g) 0 i)
    by_cases hx : i = aV g
    · subst hx
      refine ⟨?_, ?_⟩ <;> simp (disch := omega) only [nm_s, bd_s, bd2_s, bd3_s, bd4_s, q_gt, q_inB, ↓q_m1, l_166, l_172, l_180, l_188, l_189, l_190, l_191, l_192, l_14, l_17, l_18, l_0, l_1, l_2, l_3, l_4, l_5, l_6, l_7, l_8, l_9, l_10, l_11, l_12, l_20, l_21, l_30, l_31, l_32, l_40, l_48, l_50, l_51, l_57, l_60, l_70, l_71, l_99, l_100, l_101, l_160, l_199, l_200, l_999, l_1000, q_tn, q_add, q_mul, q_sub, q_le, q_lt, q_eq, q_31, n_and, n_or, n_xor, q_shl, q_z, q_b0, q_b1, q_bz, q_em, q_me, q_mm, q_lm, q_ml, q_mle, q_lem, s2_eq, s2_ne, pk_us, pk_un, uN_s, uN_n, if_pos, if_neg, ite_true, ite_false, if_true, if_false, not_true, not_false_iff, Nat.add_zero, Nat.zero_add]
    · refine ⟨?_, ?_⟩ <;> simp (disch := omega) only [nm_s, bd_s, bd2_s, bd3_s, bd4_s, q_gt, q_inB, ↓q_m1, l_166, l_172, l_180, l_188, l_189, l_190, l_191, l_192, l_14, l_17, l_18, l_0, l_1, l_2, l_3, l_4, l_5, l_6, l_7, l_8, l_9, l_10, l_11, l_12, l_20, l_21, l_30, l_31, l_32, l_40, l_48, l_50, l_51, l_57, l_60, l_70, l_71, l_99, l_100, l_101, l_160, l_199, l_200, l_999, l_1000, q_tn, q_add, q_mul, q_sub, q_le, q_lt, q_eq, q_31, n_and, n_or, n_xor, q_shl, q_z, q_b0, q_b1, q_bz, q_em, q_me, q_mm, q_lm, q_ml, q_mle, q_lem, s2_eq, s2_ne, pk_us, pk_un, uN_s, uN_n, if_pos, if_neg, ite_true, ite_false, if_true, if_false, not_true, not_false_iff, Nat.add_zero, Nat.zero_add, h.c15, h.c16]
  · rfl
theorem pR_setU (h : RepR g r) {v u : Nat} : RepR (setU g v u) (s2 r 16 (upd (r 16) v (nI u))) := by
  refine ⟨h.1, h.2.1, h.2.2.1, h.2.2.2.1, fun i hi => ⟨h.c15 hi, ?_⟩⟩
  show upd (r 16) v (nI u) i = nI (uN (g 12) v u i)
  by_cases hx : i = v
  · subst hx; simp (disch := omega) only [nm_s, bd_s, bd2_s, bd3_s, bd4_s, q_gt, q_inB, ↓q_m1, l_166, l_172, l_180, l_188, l_189, l_190, l_191, l_192, l_14, l_17, l_18, l_0, l_1, l_2, l_3, l_4, l_5, l_6, l_7, l_8, l_9, l_10, l_11, l_12, l_20, l_21, l_30, l_31, l_32, l_40, l_48, l_50, l_51, l_57, l_60, l_70, l_71, l_99, l_100, l_101, l_160, l_199, l_200, l_999, l_1000, q_tn, q_add, q_mul, q_sub, q_le, q_lt, q_eq, q_31, n_and, n_or, n_xor, q_shl, q_z, q_b0, q_b1, q_bz, q_em, q_me, q_mm, q_lm, q_ml, q_mle, q_lem, s2_eq, s2_ne, pk_us, pk_un, uN_s, uN_n, if_pos, if_neg, ite_true, ite_false, if_true, if_false, not_true, not_false_iff, Nat.add_zero, Nat.zero_add]
  · simp (disch := omega) only [nm_s, bd_s, bd2_s, bd3_s, bd4_s, q_gt, q_inB, ↓q_m1, l_166, l_172, l_180, l_188, l_189, l_190, l_191, l_192, l_14, l_17, l_18, l_0, l_1, l_2, l_3, l_4, l_5, l_6, l_7, l_8, l_9, l_10, l_11, l_12, l_20, l_21, l_30, l_31, l_32, l_40, l_48, l_50, l_51, l_57, l_60, l_70, l_71, l_99, l_100, l_101, l_160, l_199, l_200, l_999, l_1000, q_tn, q_add, q_mul, q_sub, q_le, q_lt, q_eq, q_31, n_and, n_or, n_xor, q_shl, q_z, q_b0, q_b1, q_bz, q_em, q_me, q_mm, q_lm, q_ml, q_mle, q_lem, s2_eq, s2_ne, pk_us, pk_un, uN_s, uN_n, if_pos, if_neg, ite_true, ite_false, if_true, if_false, not_true, not_false_iff, Nat.add_zero, Nat.zero_add]; exact h.c16 hi
theorem pR_putUnder (h : RepR g r) (w : WfN B g) {v p : Nat} (hv : v < aV g) (hp : p < aP g) (b : Bool) : ∃ z, f_X3_putUnder r (nI v) (nI p) (bI b) = some z ∧ (RepR (setU g v (if b = true then g 12 v ||| 2 ^ p else clr (g 12 v) (2 ^ p))) z ∧ z 0 17 = r 0 17) := by
  have hP := w.1.1
  have hV := w.1.2.2.1
  unfold f_X3_putUnder
  cases b with
  | false =>
    rw [if_pos (show bI false = 0 from rfl), gd_t (n_inB (by omega) (by omega)), n_tn (by omega), h.c16 hv, n_shl (by omega), n_clr, nm_s, gd_t (n_inB (by omega) (by omega)), nm_s]
    exact ⟨_, rfl, pR_setU h, rfl⟩
  | true =>
    rw [if_neg (show ¬ bI true = 0 by decide), gd_t (n_inB (by omega) (by omega)), n_tn (by omega), h.c16 hv, n_shl (by omega), n_or, nm_s, gd_t (n_inB (by omega) (by omega)), nm_s]
    exact ⟨_, rfl, pR_setU h, rfl⟩
theorem pR_utA (h : RepR g r) {lost k : Nat} (h0 : r 7 k = nI (untilB g (g 5 k) k lost (aY g))) : RepR g r := h
theorem pR_lose_L12 (w : WfN B g) {lost : Nat} (hl : lost < aP g) (K : GS → Option (Int32 × GS)) {Z : Int32 × GS → Prop} (r0 : Nat → Int32) (hK : ∀ r', RepR (utA g lost (aP g)) r' → r' 0 = r0 → ∃ z, K r' = some z ∧ Z z) : ∀ (n k : Nat) (r : GS), k ≤ aP g → aP g - k < n → RepR (utA g lost k) r → r 0 = r0 → ∃ z, f_X3_lose_L12 (nI lost) K n (nI k) r = some z ∧ Z z
  | 0, k, r, _, h2, _, _ => by omega
  | n + 1, k, r, h1, h2, h3, h4 => by
    have hP := w.1.1
    have hB := w.1.2.2.2
    have w2 := utA_wf w hl (k := k)
    have h0 : r 0 0 = nI (aP g) := h3.c0
    rw [f_X3_lose_L12.eq_2]
    by_cases hk : k < aP g
    · have h5 := (w.2.1 k hk).2.2.2.2.1
      have h7 : r 7 k = nI (g 5 k) := by
        rw [h3.c7 hk]
        show nI (if k < k then untilB g (g 5 k) k lost (aY g) else g 5 k) = _
        rw [if_neg (by omega)]
      have hu := pR_untilBehind h3 w2 (u := g 5 k) (q := k) (lost := lost) (y := aY g) hk hl (by omega) (Nat.le_refl _) (by omega)
      have hy : r 0 16 = nI (aY g) := h3.cy
      rw [← hy] at hu
      simp (disch := omega) only [nm_s, bd_s, bd2_s, bd3_s, bd4_s, q_gt, q_inB, ↓q_m1, l_166, l_172, l_180, l_188, l_189, l_190, l_191, l_192, l_14, l_17, l_18, l_0, l_1, l_2, l_3, l_4, l_5, l_6, l_7, l_8, l_9, l_10, l_11, l_12, l_20, l_21, l_30, l_31, l_32, l_40, l_48, l_50, l_51, l_57, l_60, l_70, l_71, l_99, l_100, l_101, l_160, l_199, l_200, l_999, l_1000, q_tn, q_add, q_mul, q_sub, q_le, q_lt, q_eq, q_31, n_and, n_or, n_xor, q_shl, q_z, q_b0, q_b1, q_bz, q_em, q_me, q_mm, q_lm, q_ml, q_mle, q_lem, s2_eq, s2_ne, pk_us, pk_un, uN_s, uN_n, if_pos, if_neg, ite_true, ite_false, if_true, if_false, not_true, not_false_iff, Nat.add_zero, Nat.zero_add, h0, h7, hu]
      refine pR_lose_L12 w hl K r0 hK n (k + 1) _ (by omega) (by omega) ⟨h3.1, fun i hi => ?_, h3.2.2.1, h3.2.2.2.1, h3.2.2.2.2⟩ h4
      refine ⟨h3.c3 hi, h3.c4 hi, h3.c5 hi, h3.c6 hi, ?_, h3.c8 hi⟩
      show upd (r 7) k (nI (untilB g (g 5 k) k lost (aY g))) i = nI (if i < k + 1 then untilB g (g 5 i) i lost (aY g) else g 5 i)
      by_cases hx : i = k
      · subst hx; simp (disch := omega) only [nm_s, bd_s, bd2_s, bd3_s, bd4_s, q_gt, q_inB, ↓q_m1, l_166, l_172, l_180, l_188, l_189, l_190, l_191, l_192, l_14, l_17, l_18, l_0, l_1, l_2, l_3, l_4, l_5, l_6, l_7, l_8, l_9, l_10, l_11, l_12, l_20, l_21, l_30, l_31, l_32, l_40, l_48, l_50, l_51, l_57, l_60, l_70, l_71, l_99, l_100, l_101, l_160, l_199, l_200, l_999, l_1000, q_tn, q_add, q_mul, q_sub, q_le, q_lt, q_eq, q_31, n_and, n_or, n_xor, q_shl, q_z, q_b0, q_b1, q_bz, q_em, q_me, q_mm, q_lm, q_ml, q_mle, q_lem, s2_eq, s2_ne, pk_us, pk_un, uN_s, uN_n, if_pos, if_neg, ite_true, ite_false, if_true, if_false, not_true, not_false_iff, Nat.add_zero, Nat.zero_add]
      · have h8 := h3.c7 hi
        rw [pk_un hx, h8]
        show nI (if i < k then untilB g (g 5 i) i lost (aY g) else g 5 i) = _
        by_cases hik : i < k
        · rw [if_pos hik, if_pos (by omega)]
        · rw [if_neg hik, if_neg (by omega)]
    · have : k = aP g := by omega
      subst this
      simp (disch := omega) only [nm_s, bd_s, bd2_s, bd3_s, bd4_s, q_gt, q_inB, ↓q_m1, l_166, l_172, l_180, l_188, l_189, l_190, l_191, l_192, l_14, l_17, l_18, l_0, l_1, l_2, l_3, l_4, l_5, l_6, l_7, l_8, l_9, l_10, l_11, l_12, l_20, l_21, l_30, l_31, l_32, l_40, l_48, l_50, l_51, l_57, l_60, l_70, l_71, l_99, l_100, l_101, l_160, l_199, l_200, l_999, l_1000, q_tn, q_add, q_mul, q_sub, q_le, q_lt, q_eq, q_31, n_and, n_or, n_xor, q_shl, q_z, q_b0, q_b1, q_bz, q_em, q_me, q_mm, q_lm, q_ml, q_mle, q_lem, s2_eq, s2_ne, pk_us, pk_un, uN_s, uN_n, if_pos, if_neg, ite_true, ite_false, if_true, if_false, not_true, not_false_iff, Nat.add_zero, Nat.zero_add, h0]
      exact hK r h3 h4
theorem pR_lose (h : RepR g r) (w : WfN B g) {lost : Nat} (hl : lost < aP g) : ∃ z, f_X3_lose r (nI lost) = some z ∧ (z.1 = nI (griefA g lost (aY g)) ∧ RepR (loseA g lost) z.2 ∧ z.2 0 17 = r 0 17) := by
  have hP := w.1.1
  have hB := w.1.2.2.2
  unfold f_X3_lose
  rw [h.cy, pR_griefOf h w hl (Nat.le_refl _) (by omega), bd_s]
  refine pR_lose_L12 w hl _ (r 0) (fun r' h1 h2 => ?_) 2000 0 r (by omega) (by omega) ⟨h.1, fun i hi => ⟨h.c3 hi, h.c4 hi, h.c5 hi, h.c6 hi, h.c7 hi, h.c8 hi⟩, h.2.2⟩ rfl
  have hw : r' 0 1 = nI (aW g) := h1.c1
  rw [hw, n_shl (by omega), n_clr, nm_s, nm_s]
  refine pR_look_then (dropA_wf w hl) ⟨?_, fun i hi => ⟨h1.c3 hi, h1.c4 hi, h1.c5 hi, h1.c6 hi, h1.c7 hi⟩, h1.2.2.2.1, h1.2.2.2.2⟩ (fun i hi => h1.c8 hi) (fun i j hi hj hs => h1.2.2.1 i j hi hj hs) (fun r'' h3 h4 => ⟨_, rfl, rfl, h3, ?_⟩)
  · exact ⟨h1.c0, rfl, h1.cs, h1.cv, h1.cy⟩
  · show r'' 0 17 = r 0 17
    rw [h4]
    show r' 0 17 = _
    rw [h2]
end RW
