-- the reference: reads
section RM
variable {g : AG} {s : GS}
theorem RepM.c0 (h : RepM g s) : s 0 3 = nI (aP g) := h.1.1
theorem RepM.cs (h : RepM g s) : s 0 11 = nI (aS g) := h.1.2.1
theorem RepM.cv (h : RepM g s) : s 0 14 = nI (aV g) := h.1.2.2.1
theorem RepM.cy (h : RepM g s) : s 0 17 = nI (aY g) := h.1.2.2.2
theorem RepM.c5 (h : RepM g s) {i : Nat} (hi : i < aP g) : s 5 i = nI (g 1 i) := (h.2.1 i hi).1
theorem RepM.c6 (h : RepM g s) {i : Nat} (hi : i < aP g) : s 6 i = nI (g 2 i) := (h.2.1 i hi).2.1
theorem RepM.c7 (h : RepM g s) {i : Nat} (hi : i < aP g) : s 7 i = nI (g 3 i) := (h.2.1 i hi).2.2.1
theorem RepM.c8 (h : RepM g s) {i : Nat} (hi : i < aP g) : s 8 i = nI (g 4 i) := (h.2.1 i hi).2.2.2.1
theorem RepM.c10 (h : RepM g s) {i : Nat} (hi : i < aP g) : s 10 i = nI (g 5 i) := (h.2.1 i hi).2.2.2.2.1
theorem RepM.c9 (h : RepM g s) {i : Nat} (hi : i < aP g) : s 9 i = bI (stB g i) := (h.2.1 i hi).2.2.2.2.2
theorem RepM.c13 (h : RepM g s) {i : Nat} (hi : i < aS g) : s 13 i = nI (g 9 i) := (h.2.2.2.1 i hi).1
theorem RepM.c14 (h : RepM g s) {i : Nat} (hi : i < aS g) : s 14 i = nI (g 10 i) := (h.2.2.2.1 i hi).2
theorem RepM.c16 (h : RepM g s) {i : Nat} (hi : i < aV g) : s 16 i = nI (g 11 i) := (h.2.2.2.2 i hi).1
theorem RepM.c17 (h : RepM g s) {i : Nat} (hi : i < aV g) : s 17 i = nI (g 12 i) := (h.2.2.2.2 i hi).2
theorem RepM.c11 (h : RepM g s) {i j : Nat} (hi : i < aP g) (hj : j < aP g) : s 11 (10 * i + j) = if seB g i j = true then nI (g 8 (10 * i + j)) else mI := h.2.2.1 i j hi hj
end RM
-- within
def inR (x : Int32) (lo hi : Nat) : Bool := decide (¬ x < nI lo) && decide (¬ nI hi < x)
theorem pM_within (x : Int32) (lo hi : Nat) : f_X7_within x (nI lo) (nI hi) = some (bI (inR x lo hi)) := by
  unfold f_X7_within inR bI
  by_cases h1 : x < nI lo
  · rw [if_pos h1]; simp [h1]
  · rw [if_neg h1]
    by_cases h2 : nI hi < x
    · rw [if_pos h2]; simp [h2]
    · rw [if_neg h2]; simp [h1, h2]
theorem n_lt_s {x : Int32} {n : Nat} (h : n + 1 < 2147483648) : (nI n < x) = (¬ x < nI (n + 1)) := by
  apply propext
  rw [Int32.lt_iff_toInt_lt, Int32.lt_iff_toInt_lt, n_toInt (by omega), n_toInt h]
  omega
theorem inR_ix {x : Int32} {n : Nat} (h : n + 1 < 2147483648) : inR x 0 n = isIx x (n + 1) := by
  unfold inR isIx
  simp only [n_lt_s h, show nI 0 = (0 : Int32) from rfl, Decidable.not_not]
theorem pM_isIx {s : GS} {x y : Int32} {n : Nat} (hy : y = nI n) (hn : n < 2147483648) : f_X7_within x (0 : Int32) (y - (1 : Int32)) = some (bI (isIx x n)) := by
  subst hy
  cases n with
  | succ n =>
    rw [show (1 : Int32) = nI 1 from rfl, q_sub (by omega), show n + 1 - 1 = n by omega, show (0 : Int32) = nI 0 from rfl, pM_within, inR_ix hn]
  | zero =>
    have hf : isIx x 0 = false := by
      unfold isIx
      by_cases h1 : x < 0
      · simp [h1]
      · have h2 : ¬ x < nI 0 := h1
        simp [h1, h2]
    rw [hf]
    unfold f_X7_within
    by_cases h1 : x < 0
    · rw [if_pos h1]; rfl
    · rw [if_neg h1]
      have h3 : nI 0 - 1 < x := by
        have h5 : nI 0 - (1 : Int32) = mI := rfl
        rw [h5]
        have h6 : mI.toInt = -1 := rfl
        have h7 : ¬ x.toInt < 0 := fun q => h1 (Int32.lt_iff_toInt_lt.mpr q)
        apply Int32.lt_iff_toInt_lt.mpr
        omega
      rw [if_pos h3]; rfl
theorem isZ_gd {α : Type} {b : Bool} {a : Option α} : gd (isZ (bI b)) a = a := gd_t (bI_z b)
section RN
variable {B : Nat} {g : AG} {s : GS}
theorem pM_isPeak (h : RepM g s) (w : WfN B g) (x : Int32) : f_X7_isPeak s x = some (bI (isIx x (aP g))) := by
  have hP := w.1.1
  unfold f_X7_isPeak
  rw [pM_isIx (s := s) h.c0 (by omega), bd_s, isZ_gd]
theorem pM_isValley (h : RepM g s) (w : WfN B g) (x : Int32) : f_X7_isValley s x = some (bI (isIx x (aV g))) := by
  have hV := w.1.2.2.1
  unfold f_X7_isValley
  rw [pM_isIx (s := s) h.cv (by omega), bd_s, isZ_gd]
theorem pM_isPlace (x : Int32) : f_X7_isPlace x = some (bI (isIx x 100)) := by
  unfold f_X7_isPlace
  rw [show (0 : Int32) = nI 0 from rfl, show (99 : Int32) = nI 99 from rfl, pM_within, bd_s, isZ_gd, inR_ix (by omega)]
theorem pM_isHeight (x : Int32) : f_X7_isHeight x = some (bI (inR x 1 999)) := by
  unfold f_X7_isHeight
  rw [show (1 : Int32) = nI 1 from rfl, show (999 : Int32) = nI 999 from rfl, pM_within, bd_s, isZ_gd]
theorem pM_has {w i : Nat} (hw : w < 2147483648) (hi : i < 32) : f_X7_has (nI w) (nI i) = some (bI (w.testBit i)) := by
  unfold f_X7_has
  rw [n_bit hw hi, ifc (bI_1 _)]
  cases w.testBit i <;> rfl
theorem pM_isThere (h : RepM g s) (w : WfN B g) (x : Int32) : f_X7_isThere s x = some (bI (isSt g x)) := by
  have hP := w.1.1
  unfold f_X7_isThere isSt
  rw [pM_isPeak h w, bd_s]
  cases hx : isIx x (aP g) with
  | false => rw [if_pos (by rfl)]; rfl
  | true =>
    obtain ⟨i, hi, rfl⟩ := isIx_of (by omega) hx
    rw [if_neg (by decide), gd_t (n_inB (by omega) (by omega)), n_tn (by omega), h.c9 hi, ifc (bI_1 _)]
    show _ = some (bI (true && stB g i))
    cases stB g i <;> rfl
theorem pM_isTaken_L2 (h : RepM g s) (w : WfN B g) {q : Nat} (hq : q < 1000) : ∀ (n i : Nat), i ≤ aP g → aP g - i < n → (∀ j, j < i → ¬ g 3 j = q) → f_X7_isTaken_L2 s (nI q) n (nI i) = some (bI (anyF (fun j => decide (g 3 j = q)) (aP g)))
  | 0, i, _, h2, _ => by omega
  | n + 1, i, h1, h2, h3 => by
    have hp := w.1.1
    rw [f_X7_isTaken_L2.eq_2]
    by_cases hi : i < aP g
    · have h5 := (w.2.1 i hi).2.2.1
      by_cases hc : g 3 i = q
      · simp (disch := omega) only [nm_s, bd_s, bd2_s, bd3_s, bd4_s, q_gt, q_inB, ↓q_m1, l_166, l_172, l_180, l_188, l_189, l_190, l_191, l_192, l_14, l_17, l_18, l_0, l_1, l_2, l_3, l_4, l_5, l_6, l_7, l_8, l_9, l_10, l_11, l_12, l_20, l_21, l_30, l_31, l_32, l_40, l_48, l_50, l_51, l_57, l_60, l_70, l_71, l_99, l_100, l_101, l_160, l_199, l_200, l_999, l_1000, q_tn, q_add, q_mul, q_sub, q_le, q_lt, q_eq, q_31, n_and, n_or, n_xor, q_shl, q_z, q_b0, q_b1, q_bz, q_em, q_me, q_mm, q_lm, q_ml, q_mle, q_lem, s2_eq, s2_ne, pk_us, pk_un, uN_s, uN_n, if_pos, if_neg, ite_true, ite_false, if_true, if_false, not_true, not_false_iff, Nat.add_zero, Nat.zero_add, h.c0, h.c7]
        rw [anyF_yes hi (by simpa using hc)]; rfl
      · simp (disch := omega) only [nm_s, bd_s, bd2_s, bd3_s, bd4_s, q_gt, q_inB, ↓q_m1, l_166, l_172, l_180, l_188, l_189, l_190, l_191, l_192, l_14, l_17, l_18, l_0, l_1, l_2, l_3, l_4, l_5, l_6, l_7, l_8, l_9, l_10, l_11, l_12, l_20, l_21, l_30, l_31, l_32, l_40, l_48, l_50, l_51, l_57, l_60, l_70, l_71, l_99, l_100, l_101, l_160, l_199, l_200, l_999, l_1000, q_tn, q_add, q_mul, q_sub, q_le, q_lt, q_eq, q_31, n_and, n_or, n_xor, q_shl, q_z, q_b0, q_b1, q_bz, q_em, q_me, q_mm, q_lm, q_ml, q_mle, q_lem, s2_eq, s2_ne, pk_us, pk_un, uN_s, uN_n, if_pos, if_neg, ite_true, ite_false, if_true, if_false, not_true, not_false_iff, Nat.add_zero, Nat.zero_add, h.c0, h.c7]
        exact pM_isTaken_L2 h w hq n (i + 1) (by omega) (by omega) (fun j hj => by
          by_cases hji : j = i
          · subst hji; exact hc
          · exact h3 j (by omega))
    · simp (disch := omega) only [nm_s, bd_s, bd2_s, bd3_s, bd4_s, q_gt, q_inB, ↓q_m1, l_166, l_172, l_180, l_188, l_189, l_190, l_191, l_192, l_14, l_17, l_18, l_0, l_1, l_2, l_3, l_4, l_5, l_6, l_7, l_8, l_9, l_10, l_11, l_12, l_20, l_21, l_30, l_31, l_32, l_40, l_48, l_50, l_51, l_57, l_60, l_70, l_71, l_99, l_100, l_101, l_160, l_199, l_200, l_999, l_1000, q_tn, q_add, q_mul, q_sub, q_le, q_lt, q_eq, q_31, n_and, n_or, n_xor, q_shl, q_z, q_b0, q_b1, q_bz, q_em, q_me, q_mm, q_lm, q_ml, q_mle, q_lem, s2_eq, s2_ne, pk_us, pk_un, uN_s, uN_n, if_pos, if_neg, ite_true, ite_false, if_true, if_false, not_true, not_false_iff, Nat.add_zero, Nat.zero_add, h.c0]
      rw [anyF_no fun j hj => by simpa using h3 j (by omega)]; rfl
theorem pM_isTaken (h : RepM g s) (w : WfN B g) {q : Nat} (hq : q < 1000) : f_X7_isTaken s (nI q) = some (bI (anyF (fun j => decide (g 3 j = q)) (aP g))) :=
  pM_isTaken_L2 h w hq 2000 0 (by omega) (by have := w.1.1; omega) (fun j hj => by omega)
theorem pM_isUnder : ∀ k, k < 7 → ∀ w, w < 7 → f_X7_isUnder (nI k) (nI w) = some (bI (underK k w)) := by decide +kernel
theorem pM_isUnder4 {k : Nat} (h : k < 7) : f_X7_isUnder (nI k) (nI 4) = some (bI (farK k)) := by
  rw [← und_far k h]; exact pM_isUnder k h 4 (by omega)
theorem pM_isUnder1 {k : Nat} (h : k < 7) : f_X7_isUnder (nI k) (nI 1) = some (bI (und1 k)) := by
  rw [← und_pol k h]; exact pM_isUnder k h 1 (by omega)
theorem pM_sees (h : RepM g s) (w : WfN B g) {i j : Nat} (hi : i < aP g) (hj : j < aP g) : f_X7_sees s (nI i) (nI j) = some (bI (seB g i j)) := by
  have hp := w.1.1
  have hy := w.1.2.2.2
  unfold f_X7_sees
  cases hs : seB g i j with
  | true =>
    have h8 := w.2.2.1 i j hi hj hs
    simp (disch := omega) only [nm_s, bd_s, bd2_s, bd3_s, bd4_s, q_gt, q_inB, ↓q_m1, l_166, l_172, l_180, l_188, l_189, l_190, l_191, l_192, l_14, l_17, l_18, l_0, l_1, l_2, l_3, l_4, l_5, l_6, l_7, l_8, l_9, l_10, l_11, l_12, l_20, l_21, l_30, l_31, l_32, l_40, l_48, l_50, l_51, l_57, l_60, l_70, l_71, l_99, l_100, l_101, l_160, l_199, l_200, l_999, l_1000, q_tn, q_add, q_mul, q_sub, q_le, q_lt, q_eq, q_31, n_and, n_or, n_xor, q_shl, q_z, q_b0, q_b1, q_bz, q_em, q_me, q_mm, q_lm, q_ml, q_mle, q_lem, s2_eq, s2_ne, pk_us, pk_un, uN_s, uN_n, if_pos, if_neg, ite_true, ite_false, if_true, if_false, not_true, not_false_iff, Nat.add_zero, Nat.zero_add, h.c11, hs]
    rfl
  | false =>
    simp (disch := omega) only [nm_s, bd_s, bd2_s, bd3_s, bd4_s, q_gt, q_inB, ↓q_m1, l_166, l_172, l_180, l_188, l_189, l_190, l_191, l_192, l_14, l_17, l_18, l_0, l_1, l_2, l_3, l_4, l_5, l_6, l_7, l_8, l_9, l_10, l_11, l_12, l_20, l_21, l_30, l_31, l_32, l_40, l_48, l_50, l_51, l_57, l_60, l_70, l_71, l_99, l_100, l_101, l_160, l_199, l_200, l_999, l_1000, q_tn, q_add, q_mul, q_sub, q_le, q_lt, q_eq, q_31, n_and, n_or, n_xor, q_shl, q_z, q_b0, q_b1, q_bz, q_em, q_me, q_mm, q_lm, q_ml, q_mle, q_lem, s2_eq, s2_ne, pk_us, pk_un, uN_s, uN_n, if_pos, if_neg, ite_true, ite_false, if_true, if_false, not_true, not_false_iff, Nat.add_zero, Nat.zero_add, h.c11, hs]
    rfl
theorem pM_seesAny_L2 (h : RepM g s) (w : WfN B g) {i m : Nat} (hi : i < aP g) (hm : m < 2147483648) : ∀ (n o : Nat), o ≤ aP g → aP g - o < n → (∀ j, j < o → (m.testBit j && seB g i j) = false) → f_X7_seesAny_L2 s (nI i) (nI m) n (nI o) = some (bI (anyF (fun j => m.testBit j && seB g i j) (aP g)))
  | 0, o, _, h2, _ => by omega
  | n + 1, o, h1, h2, h3 => by
    have hp := w.1.1
    rw [f_X7_seesAny_L2.eq_2]
    by_cases ho : o < aP g
    · have next : (m.testBit o && seB g i o) = false → f_X7_seesAny_L2 s (nI i) (nI m) n (nI (o + 1)) = some (bI (anyF (fun j => m.testBit j && seB g i j) (aP g))) := fun hf =>
        pM_seesAny_L2 h w hi hm n (o + 1) (by omega) (by omega) (fun j hj => by
          by_cases hji : j = o
          · subst hji; exact hf
          · exact h3 j (by omega))
      cases hb : m.testBit o with
      | false =>
        simp (disch := omega) only [nm_s, bd_s, bd2_s, bd3_s, bd4_s, q_gt, q_inB, ↓q_m1, l_166, l_172, l_180, l_188, l_189, l_190, l_191, l_192, l_14, l_17, l_18, l_0, l_1, l_2, l_3, l_4, l_5, l_6, l_7, l_8, l_9, l_10, l_11, l_12, l_20, l_21, l_30, l_31, l_32, l_40, l_48, l_50, l_51, l_57, l_60, l_70, l_71, l_99, l_100, l_101, l_160, l_199, l_200, l_999, l_1000, q_tn, q_add, q_mul, q_sub, q_le, q_lt, q_eq, q_31, n_and, n_or, n_xor, q_shl, q_z, q_b0, q_b1, q_bz, q_em, q_me, q_mm, q_lm, q_ml, q_mle, q_lem, s2_eq, s2_ne, pk_us, pk_un, uN_s, uN_n, if_pos, if_neg, ite_true, ite_false, if_true, if_false, not_true, not_false_iff, Nat.add_zero, Nat.zero_add, h.c0, pM_has, hb]
        exact next (by simp [hb])
      | true =>
        cases hs : seB g i o with
        | false =>
          simp (disch := omega) only [nm_s, bd_s, bd2_s, bd3_s, bd4_s, q_gt, q_inB, ↓q_m1, l_166, l_172, l_180, l_188, l_189, l_190, l_191, l_192, l_14, l_17, l_18, l_0, l_1, l_2, l_3, l_4, l_5, l_6, l_7, l_8, l_9, l_10, l_11, l_12, l_20, l_21, l_30, l_31, l_32, l_40, l_48, l_50, l_51, l_57, l_60, l_70, l_71, l_99, l_100, l_101, l_160, l_199, l_200, l_999, l_1000, q_tn, q_add, q_mul, q_sub, q_le, q_lt, q_eq, q_31, n_and, n_or, n_xor, q_shl, q_z, q_b0, q_b1, q_bz, q_em, q_me, q_mm, q_lm, q_ml, q_mle, q_lem, s2_eq, s2_ne, pk_us, pk_un, uN_s, uN_n, if_pos, if_neg, ite_true, ite_false, if_true, if_false, not_true, not_false_iff, Nat.add_zero, Nat.zero_add, h.c0, pM_has, hb, pM_sees h w, hs, bI_t]
          exact next (by simp [hs])
        | true =>
          simp (disch := omega) only [nm_s, bd_s, bd2_s, bd3_s, bd4_s, q_gt, q_inB, ↓q_m1, l_166, l_172, l_180, l_188, l_189, l_190, l_191, l_192, l_14, l_17, l_18, l_0, l_1, l_2, l_3, l_4, l_5, l_6, l_7, l_8, l_9, l_10, l_11, l_12, l_20, l_21, l_30, l_31, l_32, l_40, l_48, l_50, l_51, l_57, l_60, l_70, l_71, l_99, l_100, l_101, l_160, l_199, l_200, l_999, l_1000, q_tn, q_add, q_mul, q_sub, q_le, q_lt, q_eq, q_31, n_and, n_or, n_xor, q_shl, q_z, q_b0, q_b1, q_bz, q_em, q_me, q_mm, q_lm, q_ml, q_mle, q_lem, s2_eq, s2_ne, pk_us, pk_un, uN_s, uN_n, if_pos, if_neg, ite_true, ite_false, if_true, if_false, not_true, not_false_iff, Nat.add_zero, Nat.zero_add, h.c0, pM_has, hb, pM_sees h w, hs, bI_t]
          rw [anyF_yes ho (by simp [hb, hs])]; rfl
    · simp (disch := omega) only [nm_s, bd_s, bd2_s, bd3_s, bd4_s, q_gt, q_inB, ↓q_m1, l_166, l_172, l_180, l_188, l_189, l_190, l_191, l_192, l_14, l_17, l_18, l_0, l_1, l_2, l_3, l_4, l_5, l_6, l_7, l_8, l_9, l_10, l_11, l_12, l_20, l_21, l_30, l_31, l_32, l_40, l_48, l_50, l_51, l_57, l_60, l_70, l_71, l_99, l_100, l_101, l_160, l_199, l_200, l_999, l_1000, q_tn, q_add, q_mul, q_sub, q_le, q_lt, q_eq, q_31, n_and, n_or, n_xor, q_shl, q_z, q_b0, q_b1, q_bz, q_em, q_me, q_mm, q_lm, q_ml, q_mle, q_lem, s2_eq, s2_ne, pk_us, pk_un, uN_s, uN_n, if_pos, if_neg, ite_true, ite_false, if_true, if_false, not_true, not_false_iff, Nat.add_zero, Nat.zero_add, h.c0]
      rw [anyF_no fun j hj => h3 j (by omega)]; rfl
theorem pM_seesAny0 (h : RepM g s) (w : WfN B g) {i m : Nat} (hi : i < aP g) (hm : m < 2147483648) : f_X7_seesAny s (nI i) (nI m) = some (bI (anyF (fun j => m.testBit j && seB g i j) (aP g))) :=
  pM_seesAny_L2 h w hi hm 2000 0 (by omega) (by have := w.1.1; omega) (fun j hj => by omega)
theorem pM_seesAny (h : RepM g s) (w : WfN B g) {i m : Nat} (hi : i < aP g) (hm : m < 2147483648) : f_X7_seesAny s (nI i) (nI m) = some (bI (!decide (g 7 i &&& m = 0))) := by
  rw [pM_seesAny0 h w hi hm]
  have h1 := and_zero_iff (a := g 7 i) (b := m) (n := aP g) (w.2.1 i hi).2.2.2.2.2
  have h2 : anyF (fun j => m.testBit j && seB g i j) (aP g) = anyF (fun j => (g 7 i).testBit j && m.testBit j) (aP g) := anyF_congr fun j _ => Bool.and_comm _ _
  rw [h2]
  simp only [h1]
  cases anyF (fun j => (g 7 i).testBit j && m.testBit j) (aP g) <;> rfl
theorem pM_mourns (h : RepM g s) (w : WfN B g) {i n : Nat} (hi : i < aP g) (hn : n < 1000000000) : f_X7_mourns s (nI i) (nI n) = some (nI (mournY (g 1 i) (g 2 i) n)) := by
  have hp := w.1.1
  have hk := (w.2.1 i hi).1
  have ha := (w.2.1 i hi).2.1
  unfold f_X7_mourns mournY
  by_cases h2 : g 1 i = 2
  · simp (disch := omega) only [nm_s, bd_s, bd2_s, bd3_s, bd4_s, q_gt, q_inB, ↓q_m1, l_166, l_172, l_180, l_188, l_189, l_190, l_191, l_192, l_14, l_17, l_18, l_0, l_1, l_2, l_3, l_4, l_5, l_6, l_7, l_8, l_9, l_10, l_11, l_12, l_20, l_21, l_30, l_31, l_32, l_40, l_48, l_50, l_51, l_57, l_60, l_70, l_71, l_99, l_100, l_101, l_160, l_199, l_200, l_999, l_1000, q_tn, q_add, q_mul, q_sub, q_le, q_lt, q_eq, q_31, n_and, n_or, n_xor, q_shl, q_z, q_b0, q_b1, q_bz, q_em, q_me, q_mm, q_lm, q_ml, q_mle, q_lem, s2_eq, s2_ne, pk_us, pk_un, uN_s, uN_n, if_pos, if_neg, ite_true, ite_false, if_true, if_false, not_true, not_false_iff, Nat.add_zero, Nat.zero_add, h.c5, q_div]
  · by_cases h3 : g 1 i = 3
    · simp (disch := omega) only [nm_s, bd_s, bd2_s, bd3_s, bd4_s, q_gt, q_inB, ↓q_m1, l_166, l_172, l_180, l_188, l_189, l_190, l_191, l_192, l_14, l_17, l_18, l_0, l_1, l_2, l_3, l_4, l_5, l_6, l_7, l_8, l_9, l_10, l_11, l_12, l_20, l_21, l_30, l_31, l_32, l_40, l_48, l_50, l_51, l_57, l_60, l_70, l_71, l_99, l_100, l_101, l_160, l_199, l_200, l_999, l_1000, q_tn, q_add, q_mul, q_sub, q_le, q_lt, q_eq, q_31, n_and, n_or, n_xor, q_shl, q_z, q_b0, q_b1, q_bz, q_em, q_me, q_mm, q_lm, q_ml, q_mle, q_lem, s2_eq, s2_ne, pk_us, pk_un, uN_s, uN_n, if_pos, if_neg, ite_true, ite_false, if_true, if_false, not_true, not_false_iff, Nat.add_zero, Nat.zero_add, h.c5, q_div]
    · by_cases h4 : g 1 i = 4
      · simp (disch := omega) only [nm_s, bd_s, bd2_s, bd3_s, bd4_s, q_gt, q_inB, ↓q_m1, l_166, l_172, l_180, l_188, l_189, l_190, l_191, l_192, l_14, l_17, l_18, l_0, l_1, l_2, l_3, l_4, l_5, l_6, l_7, l_8, l_9, l_10, l_11, l_12, l_20, l_21, l_30, l_31, l_32, l_40, l_48, l_50, l_51, l_57, l_60, l_70, l_71, l_99, l_100, l_101, l_160, l_199, l_200, l_999, l_1000, q_tn, q_add, q_mul, q_sub, q_le, q_lt, q_eq, q_31, n_and, n_or, n_xor, q_shl, q_z, q_b0, q_b1, q_bz, q_em, q_me, q_mm, q_lm, q_ml, q_mle, q_lem, s2_eq, s2_ne, pk_us, pk_un, uN_s, uN_n, if_pos, if_neg, ite_true, ite_false, if_true, if_false, not_true, not_false_iff, Nat.add_zero, Nat.zero_add, h.c5, q_div]
      · by_cases h5 : g 1 i = 5
        · simp (disch := omega) only [nm_s, bd_s, bd2_s, bd3_s, bd4_s, q_gt, q_inB, ↓q_m1, l_166, l_172, l_180, l_188, l_189, l_190, l_191, l_192, l_14, l_17, l_18, l_0, l_1, l_2, l_3, l_4, l_5, l_6, l_7, l_8, l_9, l_10, l_11, l_12, l_20, l_21, l_30, l_31, l_32, l_40, l_48, l_50, l_51, l_57, l_60, l_70, l_71, l_99, l_100, l_101, l_160, l_199, l_200, l_999, l_1000, q_tn, q_add, q_mul, q_sub, q_le, q_lt, q_eq, q_31, n_and, n_or, n_xor, q_shl, q_z, q_b0, q_b1, q_bz, q_em, q_me, q_mm, q_lm, q_ml, q_mle, q_lem, s2_eq, s2_ne, pk_us, pk_un, uN_s, uN_n, if_pos, if_neg, ite_true, ite_false, if_true, if_false, not_true, not_false_iff, Nat.add_zero, Nat.zero_add, h.c5, h.c6, q_div, j_min]
        · by_cases h6 : g 1 i = 6
          · simp (disch := omega) only [nm_s, bd_s, bd2_s, bd3_s, bd4_s, q_gt, q_inB, ↓q_m1, l_166, l_172, l_180, l_188, l_189, l_190, l_191, l_192, l_14, l_17, l_18, l_0, l_1, l_2, l_3, l_4, l_5, l_6, l_7, l_8, l_9, l_10, l_11, l_12, l_20, l_21, l_30, l_31, l_32, l_40, l_48, l_50, l_51, l_57, l_60, l_70, l_71, l_99, l_100, l_101, l_160, l_199, l_200, l_999, l_1000, q_tn, q_add, q_mul, q_sub, q_le, q_lt, q_eq, q_31, n_and, n_or, n_xor, q_shl, q_z, q_b0, q_b1, q_bz, q_em, q_me, q_mm, q_lm, q_ml, q_mle, q_lem, s2_eq, s2_ne, pk_us, pk_un, uN_s, uN_n, if_pos, if_neg, ite_true, ite_false, if_true, if_false, not_true, not_false_iff, Nat.add_zero, Nat.zero_add, h.c5, q_div, Nat.mul_comm]
          · simp (disch := omega) only [nm_s, bd_s, bd2_s, bd3_s, bd4_s, q_gt, q_inB, ↓q_m1, l_166, l_172, l_180, l_188, l_189, l_190, l_191, l_192, l_14, l_17, l_18, l_0, l_1, l_2, l_3, l_4, l_5, l_6, l_7, l_8, l_9, l_10, l_11, l_12, l_20, l_21, l_30, l_31, l_32, l_40, l_48, l_50, l_51, l_57, l_60, l_70, l_71, l_99, l_100, l_101, l_160, l_199, l_200, l_999, l_1000, q_tn, q_add, q_mul, q_sub, q_le, q_lt, q_eq, q_31, n_and, n_or, n_xor, q_shl, q_z, q_b0, q_b1, q_bz, q_em, q_me, q_mm, q_lm, q_ml, q_mle, q_lem, s2_eq, s2_ne, pk_us, pk_un, uN_s, uN_n, if_pos, if_neg, ite_true, ite_false, if_true, if_false, not_true, not_false_iff, Nat.add_zero, Nat.zero_add, h.c5, q_div]
theorem pM_isBetween (h : RepM g s) (w : WfN B g) {p q at_ : Nat} (hp : p < aP g) (hq : q < aP g) (ha : at_ < 1000) : f_X7_isBetween s (nI p) (nI q) (nI at_) = some (bI (decide (min (g 3 p) (g 3 q) < at_) && decide (at_ < max (g 3 p) (g 3 q)))) := by
  have hP := w.1.1
  have h1 := (w.2.1 p hp).2.2.1
  have h2 := (w.2.1 q hq).2.2.1
  have m1 : min (g 3 p) (g 3 q) < 100 := by omega
  have m2 : max (g 3 p) (g 3 q) < 100 := by omega
  unfold f_X7_isBetween
  by_cases c1 : at_ ≤ min (g 3 p) (g 3 q)
  · simp (disch := omega) only [nm_s, bd_s, bd2_s, bd3_s, bd4_s, q_gt, q_inB, ↓q_m1, l_166, l_172, l_180, l_188, l_189, l_190, l_191, l_192, l_14, l_17, l_18, l_0, l_1, l_2, l_3, l_4, l_5, l_6, l_7, l_8, l_9, l_10, l_11, l_12, l_20, l_21, l_30, l_31, l_32, l_40, l_48, l_50, l_51, l_57, l_60, l_70, l_71, l_99, l_100, l_101, l_160, l_199, l_200, l_999, l_1000, q_tn, q_add, q_mul, q_sub, q_le, q_lt, q_eq, q_31, n_and, n_or, n_xor, q_shl, q_z, q_b0, q_b1, q_bz, q_em, q_me, q_mm, q_lm, q_ml, q_mle, q_lem, s2_eq, s2_ne, pk_us, pk_un, uN_s, uN_n, if_pos, if_neg, ite_true, ite_false, if_true, if_false, not_true, not_false_iff, Nat.add_zero, Nat.zero_add, h.c7, j_min, j_max]
    have : ¬ min (g 3 p) (g 3 q) < at_ := by omega
    simp [this, bI]
    rfl
  · by_cases c2 : max (g 3 p) (g 3 q) ≤ at_
    · simp (disch := omega) only [nm_s, bd_s, bd2_s, bd3_s, bd4_s, q_gt, q_inB, ↓q_m1, l_166, l_172, l_180, l_188, l_189, l_190, l_191, l_192, l_14, l_17, l_18, l_0, l_1, l_2, l_3, l_4, l_5, l_6, l_7, l_8, l_9, l_10, l_11, l_12, l_20, l_21, l_30, l_31, l_32, l_40, l_48, l_50, l_51, l_57, l_60, l_70, l_71, l_99, l_100, l_101, l_160, l_199, l_200, l_999, l_1000, q_tn, q_add, q_mul, q_sub, q_le, q_lt, q_eq, q_31, n_and, n_or, n_xor, q_shl, q_z, q_b0, q_b1, q_bz, q_em, q_me, q_mm, q_lm, q_ml, q_mle, q_lem, s2_eq, s2_ne, pk_us, pk_un, uN_s, uN_n, if_pos, if_neg, ite_true, ite_false, if_true, if_false, not_true, not_false_iff, Nat.add_zero, Nat.zero_add, h.c7, j_min, j_max]
      have : ¬ at_ < max (g 3 p) (g 3 q) := by omega
      simp [this, bI]
      rfl
    · simp (disch := omega) only [nm_s, bd_s, bd2_s, bd3_s, bd4_s, q_gt, q_inB, ↓q_m1, l_166, l_172, l_180, l_188, l_189, l_190, l_191, l_192, l_14, l_17, l_18, l_0, l_1, l_2, l_3, l_4, l_5, l_6, l_7, l_8, l_9, l_10, l_11, l_12, l_20, l_21, l_30, l_31, l_32, l_40, l_48, l_50, l_51, l_57, l_60, l_70, l_71, l_99, l_100, l_101, l_160, l_199, l_200, l_999, l_1000, q_tn, q_add, q_mul, q_sub, q_le, q_lt, q_eq, q_31, n_and, n_or, n_xor, q_shl, q_z, q_b0, q_b1, q_bz, q_em, q_me, q_mm, q_lm, q_ml, q_mle, q_lem, s2_eq, s2_ne, pk_us, pk_un, uN_s, uN_n, if_pos, if_neg, ite_true, ite_false, if_true, if_false, not_true, not_false_iff, Nat.add_zero, Nat.zero_add, h.c7, j_min, j_max]
      have a1 : min (g 3 p) (g 3 q) < at_ := by omega
      have a2 : at_ < max (g 3 p) (g 3 q) := by omega
      simp [a1, a2, bI]
      rfl
end RN
