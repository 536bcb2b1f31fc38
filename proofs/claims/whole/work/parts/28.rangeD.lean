-- become, draws, who stands where, takings
theorem ffl : ¬ (false = true) := by decide
theorem va_cpy0 {α : Type} {f h : Nat → α} {n k : Nat} (hk : k < n) : va_cpy f h 0 0 n k = f k := by
  unfold va_cpy
  rw [if_pos ⟨by omega, by omega⟩]
  congr 1
  omega
section RD
variable {B : Nat} {g : AG} {r q : GS}
theorem pR_become (h : RepR g q) (w : WfN B g) : ∃ z, f_X3_become r q = some z ∧ (RepR g z ∧ z 0 17 = q 0 17) := by
  have hP := w.1.1
  have hS := w.1.2.1
  have hV := w.1.2.2.1
  unfold f_X3_become
  simp only [nm_s]
  refine ⟨_, rfl, ⟨⟨h.c0, h.c1, h.cs, h.cv, h.cy⟩, fun i hi => ?_, fun i j hi hj hs => ?_, fun i hi => ?_, fun i hi => ?_⟩, rfl⟩
  · refine ⟨?_, ?_, ?_, ?_, ?_, ?_⟩
    · exact (va_cpy0 (n := 10) (by omega)).trans (h.c3 hi)
    · exact (va_cpy0 (n := 10) (by omega)).trans (h.c4 hi)
    · exact (va_cpy0 (n := 10) (by omega)).trans (h.c5 hi)
    · exact (va_cpy0 (n := 10) (by omega)).trans (h.c6 hi)
    · exact (va_cpy0 (n := 10) (by omega)).trans (h.c7 hi)
    · exact (va_cpy0 (n := 10) (by omega)).trans (h.c8 hi)
  · exact (va_cpy0 (n := 100) (by omega)).trans (h.2.2.1 i j hi hj hs)
  · refine ⟨?_, ?_⟩
    · exact (va_cpy0 (n := 6) (by omega)).trans (h.c12 hi)
    · exact (va_cpy0 (n := 6) (by omega)).trans (h.c13 hi)
  · refine ⟨?_, ?_⟩
    · exact (va_cpy0 (n := 8) (by omega)).trans (h.c15 hi)
    · exact (va_cpy0 (n := 8) (by omega)).trans (h.c16 hi)
end RD
-- draws
def drw (s : Int32) : Int32 := s * 1103515245 + 12345
def drv (s x : Int32) : Int32 := ((s.toUInt32 >>> ((16 : Int32).toUInt32 &&& Int32.toUInt32 31)).toInt32) - ((s.toUInt32 >>> ((16 : Int32).toUInt32 &&& Int32.toUInt32 31)).toInt32) / x * x
theorem n_ofU (u : UInt32) : u.toInt32 = nI u.toNat := by
  apply Int32.toBitVec_inj.mp
  show u.toBitVec = BitVec.ofNat 32 u.toNat
  apply BitVec.eq_of_toNat_eq
  rw [BitVec.toNat_ofNat]
  exact (Nat.mod_eq_of_lt u.toBitVec.isLt).symm
theorem drv_n (s : Int32) {n : Nat} (h0 : 0 < n) (hn : n < 2147483648) : ∃ v, v < n ∧ drv s (nI n) = nI v := by
  have hu : (s.toUInt32 >>> ((16 : Int32).toUInt32 &&& Int32.toUInt32 31)).toNat = s.toUInt32.toNat / 65536 := by
    rw [UInt32.toNat_shiftRight]
    have : ((16 : Int32).toUInt32 &&& Int32.toUInt32 31).toNat % 32 = 16 := by decide
    rw [this, Nat.shiftRight_eq_div_pow]
  have hlt : s.toUInt32.toNat < 4294967296 := s.toUInt32.toBitVec.isLt
  refine ⟨s.toUInt32.toNat / 65536 % n, Nat.mod_lt _ h0, ?_⟩
  unfold drv
  rw [n_ofU, hu, q_div (by omega) (by omega) h0, q_mul, q_sub (Nat.div_mul_le_self _ _)]
  congr 1
  have := Nat.div_add_mod (s.toUInt32.toNat / 65536) n
  rw [Nat.mul_comm] at this
  omega
section DR
variable {B : Nat} {g : AG} {r : GS}
theorem pR_draw (r : GS) {n : Nat} (h0 : 0 < n) (hn : n < 2147483648) : f_X3_draw r (nI n) = some (drv (drw (r 0 17)) (nI n), s2 r 0 (upd (r 0) 17 (drw (r 0 17)))) := by
  unfold f_X3_draw
  rw [nm_s, nm_s, if_neg (by rw [n_le0 hn]; omega), gd_t (q_neB hn h0)]
  rfl
theorem RepR.seed (h : RepR g r) (v : Int32) : RepR g (s2 r 0 (upd (r 0) 17 v)) := h
theorem cntF_s {f : Nat → Bool} {n : Nat} (h : f n = true) : cntF f (n + 1) = cntF f n + 1 := by
  unfold cntF
  rw [sumF, if_pos h]
theorem cntF_n {f : Nat → Bool} {n : Nat} (h : f n = false) : cntF f (n + 1) = cntF f n := by
  unfold cntF
  rw [sumF, if_neg (by rw [h]; decide), Nat.add_zero]
theorem cntF_le (f : Nat → Bool) : ∀ n : Nat, cntF f n ≤ n
  | 0 => Nat.le_refl _
  | n + 1 => by
    have := cntF_le f n
    cases h : f n with
    | true => rw [cntF_s h]; omega
    | false => rw [cntF_n h]; omega
theorem cntF_mono (f : Nat → Bool) {a : Nat} : ∀ {b : Nat}, a ≤ b → cntF f a ≤ cntF f b
  | 0, h => by rw [show a = 0 by omega]; exact Nat.le_refl _
  | b + 1, h => by
    by_cases hb : a = b + 1
    · rw [hb]; exact Nat.le_refl _
    · have := cntF_mono f (a := a) (b := b) (by omega)
      cases h : f b with
      | true => rw [cntF_s h]; omega
      | false => rw [cntF_n h]; omega
theorem cntF_inj {f : Nat → Bool} {a b : Nat} (ha : f a = true) (hb : f b = true) (h : cntF f a = cntF f b) : a = b := by
  rcases Nat.lt_trichotomy a b with h1 | h1 | h1
  · have := cntF_mono f (show a + 1 ≤ b by omega)
    rw [cntF_s ha] at this
    omega
  · exact h1
  · have := cntF_mono f (show b + 1 ≤ a by omega)
    rw [cntF_s hb] at this
    omega
theorem pR_standingAt_L4 (h : RepR g r) (w : WfN B g) {i : Nat} (hi : i < cntF (stB g) (aP g)) : ∀ (n p : Nat), p ≤ aP g → aP g - p < n → cntF (stB g) p ≤ i → ∃ q, q < aP g ∧ stB g q = true ∧ cntF (stB g) q = i ∧ f_X3_standingAt_L4 r (nI i) n (nI (cntF (stB g) p)) (nI p) = some (nI q)
  | 0, p, _, h2, _ => by omega
  | n + 1, p, h1, h2, h3 => by
    have hP := w.1.1
    have hc := cntF_le (stB g) p
    have hc2 := cntF_le (stB g) (aP g)
    rw [f_X3_standingAt_L4.eq_2]
    by_cases hp : p < aP g
    · cases hs : stB g p with
      | false =>
        have ih := pR_standingAt_L4 h w hi n (p + 1) (by omega) (by omega) (by rw [cntF_n hs]; exact h3)
        rw [cntF_n hs] at ih
        simp (disch := omega) only [nm_s, bd_s, bd2_s, bd3_s, bd4_s, q_gt, q_inB, ↓q_m1, l_166, l_172, l_180, l_188, l_189, l_190, l_191, l_192, l_14, l_17, l_18, l_0, l_1, l_2, l_3, l_4, l_5, l_6, l_7, l_8, l_9, l_10, l_11, l_12, l_20, l_21, l_30, l_31, l_32, l_40, l_48, l_50, l_51, l_57, l_60, l_70, l_71, l_99, l_100, l_101, l_160, l_199, l_200, l_999, l_1000, q_tn, q_add, q_mul, q_sub, q_le, q_lt, q_eq, q_31, n_and, n_or, n_xor, q_shl, q_z, q_b0, q_b1, q_bz, q_em, q_me, q_mm, q_lm, q_ml, q_mle, q_lem, s2_eq, s2_ne, pk_us, pk_un, uN_s, uN_n, if_pos, if_neg, ite_true, ite_false, if_true, if_false, not_true, not_false_iff, Nat.add_zero, Nat.zero_add, h.c0, pR_isStanding h w, isSt_n w, hs, bI_f, n_eq]
        exact ih
      | true =>
        by_cases he : cntF (stB g) p = i
        · refine ⟨p, hp, hs, he, ?_⟩
          simp (disch := omega) only [nm_s, bd_s, bd2_s, bd3_s, bd4_s, q_gt, q_inB, ↓q_m1, l_166, l_172, l_180, l_188, l_189, l_190, l_191, l_192, l_14, l_17, l_18, l_0, l_1, l_2, l_3, l_4, l_5, l_6, l_7, l_8, l_9, l_10, l_11, l_12, l_20, l_21, l_30, l_31, l_32, l_40, l_48, l_50, l_51, l_57, l_60, l_70, l_71, l_99, l_100, l_101, l_160, l_199, l_200, l_999, l_1000, q_tn, q_add, q_mul, q_sub, q_le, q_lt, q_eq, q_31, n_and, n_or, n_xor, q_shl, q_z, q_b0, q_b1, q_bz, q_em, q_me, q_mm, q_lm, q_ml, q_mle, q_lem, s2_eq, s2_ne, pk_us, pk_un, uN_s, uN_n, if_pos, if_neg, ite_true, ite_false, if_true, if_false, not_true, not_false_iff, Nat.add_zero, Nat.zero_add, h.c0, pR_isStanding h w, isSt_n w, hs, bI_t]
        · have ih := pR_standingAt_L4 h w hi n (p + 1) (by omega) (by omega) (by rw [cntF_s hs]; omega)
          rw [cntF_s hs] at ih
          simp (disch := omega) only [nm_s, bd_s, bd2_s, bd3_s, bd4_s, q_gt, q_inB, ↓q_m1, l_166, l_172, l_180, l_188, l_189, l_190, l_191, l_192, l_14, l_17, l_18, l_0, l_1, l_2, l_3, l_4, l_5, l_6, l_7, l_8, l_9, l_10, l_11, l_12, l_20, l_21, l_30, l_31, l_32, l_40, l_48, l_50, l_51, l_57, l_60, l_70, l_71, l_99, l_100, l_101, l_160, l_199, l_200, l_999, l_1000, q_tn, q_add, q_mul, q_sub, q_le, q_lt, q_eq, q_31, n_and, n_or, n_xor, q_shl, q_z, q_b0, q_b1, q_bz, q_em, q_me, q_mm, q_lm, q_ml, q_mle, q_lem, s2_eq, s2_ne, pk_us, pk_un, uN_s, uN_n, if_pos, if_neg, ite_true, ite_false, if_true, if_false, not_true, not_false_iff, Nat.add_zero, Nat.zero_add, h.c0, pR_isStanding h w, isSt_n w, hs, bI_t]
          exact ih
    · have : p = aP g := by omega
      subst this
      omega
theorem pR_standingAt (h : RepR g r) (w : WfN B g) {i : Nat} (hi : i < cntF (stB g) (aP g)) : ∃ q, q < aP g ∧ stB g q = true ∧ cntF (stB g) q = i ∧ f_X3_standingAt r (nI i) = some (nI q) :=
  pR_standingAt_L4 h w hi 2000 0 (by omega) (by have := w.1.1; omega) (Nat.zero_le _)
end DR
-- rows and told takings
def RowR (L : Nat) (e : Nat → Int64) (sw : GS) (sl : Nat → Int64) : Prop := sw 0 2 = nI L ∧ L ≤ 160 ∧ ∀ i, i < L → sl i = e i
theorem pW_has {sw : GS} {L : Nat} (h : sw 0 2 = nI L) (x : Int32) : f_X5_has sw x = some (bI (isIx x L)) := isPk_eq h
theorem pW_intAt {L : Nat} {e : Nat → Int64} {sw : GS} {sl : Nat → Int64} (h : RowR L e sw sl) (x : Int32) : f_X5_intAt sw sl x = some (if isIx x L = true then (e x.toNatClampNeg).toInt32 else 0) := by
  have hL := h.2.1
  unfold f_X5_intAt
  rw [pW_has h.1, bd_s, ifc (bI_0 _)]
  cases hx : isIx x L with
  | false => rw [if_pos rfl, if_neg (by decide)]
  | true =>
    obtain ⟨i, hi, rfl⟩ := isIx_of (by omega) hx
    rw [if_neg (by decide), if_pos rfl, gd_t (n_inB (by omega) (by omega)), n_tn (by omega), h.2.2 i hi]
theorem pW_intN {L : Nat} {e : Nat → Int64} {sw : GS} {sl : Nat → Int64} (h : RowR L e sw sl) {i : Nat} (hi : i < L) : f_X5_intAt sw sl (nI i) = some ((e i).toInt32) := by
  have hL := h.2.1
  rw [pW_intAt h, isIx_n (by omega) (by omega), n_tn (by omega), decide_eq_true hi, if_pos rfl]
def isYr (x : Int32) : Bool := decide (¬ x < 101) && decide (¬ (199 : Int32) < x)
theorem isYr_of {x : Int32} (h : isYr x = true) : ∃ v, (101 ≤ v ∧ v ≤ 199) ∧ x = nI v := by
  unfold isYr at h
  rw [Bool.and_eq_true, decide_eq_true_eq, decide_eq_true_eq] at h
  have h1 : ¬ x < 0 := fun q => h.1 (Int32.lt_trans q (by decide))
  have h2 : x < nI 200 := by
    have := Int32.not_lt.mp h.2
    exact Int32.lt_of_le_of_lt this (by decide)
  have h3 : isIx x 200 = true := by unfold isIx; rw [Bool.and_eq_true, decide_eq_true_eq, decide_eq_true_eq]; exact ⟨h1, h2⟩
  obtain ⟨i, hi, rfl⟩ := isIx_of (by omega) h3
  refine ⟨i, ⟨?_, by omega⟩, rfl⟩
  have h4 := h.1
  rw [n_lt101 (by omega)] at h4
  omega
theorem isYr_n {v : Nat} (h : v < 2147483648) : isYr (nI v) = decide (101 ≤ v ∧ v ≤ 199) := by
  unfold isYr
  simp only [n_lt101 h, n_199lt h]
  by_cases h1 : v < 101
  · have : ¬ (101 ≤ v ∧ v ≤ 199) := by omega
    simp only [h1, this, not_true, decide_false, Bool.false_and]
  · by_cases h2 : 199 < v
    · have : ¬ (101 ≤ v ∧ v ≤ 199) := by omega
      simp only [h1, h2, this, not_true, not_false_iff, decide_true, decide_false, Bool.and_false]
    · have : 101 ≤ v ∧ v ≤ 199 := by omega
      simp only [h1, h2, this, not_false_iff, decide_true, Bool.and_true, and_self]
def livA (T : Nat → Int32) : Nat → Nat → Nat → AG → Option Nat × Nat × AG
  | 0, _, s, g => (none, s, g)
  | k + 1, i, s, g =>
    if isYr (T i) = true then livA T k (i + 1) s (setY g (aY g + ((T i).toNatClampNeg - 100)))
    else if isSt g (T i) = true then livA T k (i + 1) (s + griefA g (T i).toNatClampNeg (aY g)) (loseA g (T i).toNatClampNeg)
    else (some i, s, g)
theorem isSt_of {B : Nat} {g : AG} (w : WfN B g) {x : Int32} (h : isSt g x = true) : ∃ p, p < aP g ∧ stB g p = true ∧ x = nI p := by
  have hP := w.1.1
  unfold isSt at h
  rw [Bool.and_eq_true] at h
  obtain ⟨i, hi, rfl⟩ := isIx_of (by omega) h.1
  rw [n_tn (by omega)] at h
  exact ⟨i, hi, h.2, rfl⟩
theorem livA_wf {T : Nat → Int32} : ∀ (k i s : Nat) (g : AG) (B : Nat), Wf B g → B + 99 * k ≤ 20000000 → Wf (B + 99 * k) (livA T k i s g).2.2
  | 0, i, s, g, B, w, h => w
  | k + 1, i, s, g, B, w, h => by
    have hy := w.1.1.2.2.2.1
    unfold livA
    cases h1 : isYr (T i) with
    | true =>
      rw [if_pos rfl]
      obtain ⟨v, hv, e⟩ := isYr_of h1
      rw [e, n_tn (by omega), show B + 99 * (k + 1) = B + 99 + 99 * k by omega]
      exact livA_wf k (i + 1) s _ (B + 99) ⟨setY_wf (Wf.mono w.1 (by omega) (by omega)) (by omega) (by omega), setY_v w.2⟩ (by omega)
    | false =>
      rw [if_neg (by decide)]
      have w2 := Wf.mono w.1 (show B ≤ B + 99 by omega) (by omega)
      cases h2 : isSt g (T i) with
      | true =>
        rw [if_pos rfl]
        obtain ⟨p, hp, _, e⟩ := isSt_of w.1 h2
        have hP := w.1.1.1
        rw [e, n_tn (by omega), show B + 99 * (k + 1) = B + 99 + 99 * k by omega]
        exact livA_wf k (i + 1) _ _ (B + 99) (loseA_wf w2 hp) (by omega)
      | false =>
        rw [if_neg (by decide)]
        exact ⟨Wf.mono w.1 (by omega) (by omega), w.2⟩
theorem pR_comeToPass_L5 {L : Nat} {e : Nat → Int64} {sw : GS} {sl : Nat → Int64} (hr : RowR L e sw sl) : ∀ (n k i s : Nat) (g : AG) (B : Nat) (r : GS), RepR g r → WfN B g → k < n → i + k ≤ L → B + 99 * k ≤ 20000000 → (livA (fun i => (e i).toInt32) k i s g).1 = none → ∃ z, f_X3_comeToPass_L5 sw sl (nI (i + k)) n (nI s) (nI i) r = some z ∧ (z.1 = nI (livA (fun i => (e i).toInt32) k i s g).2.1 ∧ RepR (livA (fun i => (e i).toInt32) k i s g).2.2 z.2 ∧ z.2 0 17 = r 0 17)
  | 0, k, i, s, g, B, r, _, _, h2, _, _, _ => by omega
  | n + 1, 0, i, s, g, B, r, h, w, h2, h3, h4, h5 => by
    have hL := hr.2.1
    rw [f_X3_comeToPass_L5.eq_2]
    simp (disch := omega) only [nm_s, bd_s, bd2_s, bd3_s, bd4_s, q_gt, q_inB, ↓q_m1, l_166, l_172, l_180, l_188, l_189, l_190, l_191, l_192, l_14, l_17, l_18, l_0, l_1, l_2, l_3, l_4, l_5, l_6, l_7, l_8, l_9, l_10, l_11, l_12, l_20, l_21, l_30, l_31, l_32, l_40, l_48, l_50, l_51, l_57, l_60, l_70, l_71, l_99, l_100, l_101, l_160, l_199, l_200, l_999, l_1000, q_tn, q_add, q_mul, q_sub, q_le, q_lt, q_eq, q_31, n_and, n_or, n_xor, q_shl, q_z, q_b0, q_b1, q_bz, q_em, q_me, q_mm, q_lm, q_ml, q_mle, q_lem, s2_eq, s2_ne, pk_us, pk_un, uN_s, uN_n, if_pos, if_neg, ite_true, ite_false, if_true, if_false, not_true, not_false_iff, Nat.add_zero, Nat.zero_add]
    exact ⟨_, rfl, rfl, h, rfl⟩
  | n + 1, k + 1, i, s, g, B, r, h, w, h2, h3, h4, h5 => by
    have hL := hr.2.1
    have hy := w.1.2.2.2.1
    have hP := w.1.1
    have hT := pW_intN hr (i := i) (by omega)
    rw [f_X3_comeToPass_L5.eq_2]
    unfold livA at h5 ⊢
    cases h6 : isYr ((e i).toInt32) with
    | true =>
      rw [h6, if_pos rfl] at h5
      rw [if_pos rfl]
      obtain ⟨v, hv, ev⟩ := isYr_of h6
      rw [ev, n_tn (by omega)] at h5 ⊢
      rw [ev] at hT
      have ih := pR_comeToPass_L5 hr n k (i + 1) s (setY g (aY g + (v - 100))) (B + 99) (s2 r 0 (upd (r 0) 16 (nI (aY g + (v - 100))))) ⟨⟨h.c0, h.c1, h.cs, h.cv, rfl⟩, h.2⟩ (setY_wf (Wf.mono w (by omega) (by omega)) (by omega) (by omega)) (by omega) (by omega) (by omega) h5
      rw [show i + 1 + k = i + (k + 1) by omega] at ih
      simp (disch := omega) only [nm_s, bd_s, bd2_s, bd3_s, bd4_s, q_gt, q_inB, ↓q_m1, l_166, l_172, l_180, l_188, l_189, l_190, l_191, l_192, l_14, l_17, l_18, l_0, l_1, l_2, l_3, l_4, l_5, l_6, l_7, l_8, l_9, l_10, l_11, l_12, l_20, l_21, l_30, l_31, l_32, l_40, l_48, l_50, l_51, l_57, l_60, l_70, l_71, l_99, l_100, l_101, l_160, l_199, l_200, l_999, l_1000, q_tn, q_add, q_mul, q_sub, q_le, q_lt, q_eq, q_31, n_and, n_or, n_xor, q_shl, q_z, q_b0, q_b1, q_bz, q_em, q_me, q_mm, q_lm, q_ml, q_mle, q_lem, s2_eq, s2_ne, pk_us, pk_un, uN_s, uN_n, if_pos, if_neg, ite_true, ite_false, if_true, if_false, not_true, not_false_iff, Nat.add_zero, Nat.zero_add, hT, h.cy]
      exact ih
    | false =>
      rw [h6, if_neg ffl] at h5
      rw [if_neg ffl]
      cases h7 : isSt g ((e i).toInt32) with
      | false => rw [h7, if_neg ffl] at h5; cases h5
      | true =>
        rw [h7, if_pos rfl] at h5
        rw [if_pos rfl]
        obtain ⟨p, hp, hsp, ev⟩ := isSt_of w h7
        rw [ev, n_tn (by omega)] at h5 ⊢
        rw [ev] at hT
        have w2 := Wf.mono w (show B ≤ B + 99 by omega) (by omega)
        obtain ⟨z, e1, e2, e3, e4⟩ := pR_lose h w hp
        obtain ⟨z1, z2⟩ := z
        dsimp only at e2 e3 e4
        subst e2
        have ih := pR_comeToPass_L5 hr n k (i + 1) (s + griefA g p (aY g)) (loseA g p) (B + 99) z2 e3 (loseA_wf w2 hp).1 (by omega) (by omega) (by omega) h5
        rw [show i + 1 + k = i + (k + 1) by omega, e4] at ih
        simp (disch := omega) only [nm_s, bd_s, bd2_s, bd3_s, bd4_s, q_gt, q_inB, ↓q_m1, l_166, l_172, l_180, l_188, l_189, l_190, l_191, l_192, l_14, l_17, l_18, l_0, l_1, l_2, l_3, l_4, l_5, l_6, l_7, l_8, l_9, l_10, l_11, l_12, l_20, l_21, l_30, l_31, l_32, l_40, l_48, l_50, l_51, l_57, l_60, l_70, l_71, l_99, l_100, l_101, l_160, l_199, l_200, l_999, l_1000, q_tn, q_add, q_mul, q_sub, q_le, q_lt, q_eq, q_31, n_and, n_or, n_xor, q_shl, q_z, q_b0, q_b1, q_bz, q_em, q_me, q_mm, q_lm, q_ml, q_mle, q_lem, s2_eq, s2_ne, pk_us, pk_un, uN_s, uN_n, if_pos, if_neg, ite_true, ite_false, if_true, if_false, not_true, not_false_iff, Nat.add_zero, Nat.zero_add, hT, pR_isStanding h w, isSt_n w, hsp, bI_t, e1]
        exact ih
