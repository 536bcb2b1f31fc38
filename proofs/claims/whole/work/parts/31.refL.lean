-- the reference: who could see whom, looks
theorem n_iI (n : Nat) : nI n = Int32.ofInt (n : Int) := (Int32.ofInt_eq_ofNat).symm
theorem i_le {a b : Int} (h1 : -2147483648 ≤ a) (h2 : a ≤ 2147483647) (h3 : -2147483648 ≤ b) (h4 : b ≤ 2147483647) : (Int32.ofInt a ≤ Int32.ofInt b) = (a ≤ b) :=
  propext (Int32.ofInt_le_iff_le h1 h2 h3 h4)
theorem lineA (hp ho pp at_ po : Nat) (h1 : pp ≤ at_) (h2 : at_ ≤ po) : (hp : Int) * ((po : Int) - pp) + ((ho : Int) - hp) * ((at_ : Int) - pp) = ((hp * (po - at_) + ho * (at_ - pp) : Nat) : Int) := by
  obtain ⟨v, rfl⟩ := Nat.exists_eq_add_of_le h1
  obtain ⟨u, rfl⟩ := Nat.exists_eq_add_of_le h2
  rw [show pp + v + u - (pp + v) = u by omega, show pp + v - pp = v by omega, show (((pp + v + u : Nat) : Int) - pp) = (v : Int) + u by omega, show (((pp + v : Nat) : Int) - pp) = (v : Int) by omega, Int.mul_add, Int.sub_mul, Int.natCast_add, Int.natCast_mul, Int.natCast_mul]
  omega
theorem lineB (hp ho pp at_ po : Nat) (h1 : po ≤ at_) (h2 : at_ ≤ pp) : (hp : Int) * ((po : Int) - pp) + ((ho : Int) - hp) * ((at_ : Int) - pp) = -((ho * (pp - at_) + hp * (at_ - po) : Nat) : Int) := by
  obtain ⟨v, rfl⟩ := Nat.exists_eq_add_of_le h1
  obtain ⟨u, rfl⟩ := Nat.exists_eq_add_of_le h2
  rw [show po + v + u - (po + v) = u by omega, show po + v - po = v by omega, show ((po : Int) - (po + v + u : Nat)) = -((v : Int) + u) by omega, show (((po + v : Nat) : Int) - (po + v + u : Nat)) = -(u : Int) by omega, Int.mul_neg, Int.mul_neg, Int.mul_add, Int.sub_mul, Int.natCast_add, Int.natCast_mul, Int.natCast_mul]
  omega
theorem mulC (h a b : Nat) (hab : a ≤ b) : (h : Int) * ((b : Int) - a) = ((h * (b - a) : Nat) : Int) := by
  rw [Int.natCast_mul, Int.natCast_sub hab]
theorem mulD (h a b : Nat) (hab : a ≤ b) : (h : Int) * ((a : Int) - b) = -((h * (b - a) : Nat) : Int) := by
  rw [Int.natCast_mul, Int.natCast_sub hab, ← Int.mul_neg]
  congr 1
  omega
-- between two, whichever is the left one
def blkO (g : AG) (p o at_ top : Nat) : Bool := if g 3 p < g 3 o then blk g p o at_ top else blk g o p at_ top
def freeO (g : AG) (p o : Nat) : Bool := if g 3 p < g 3 o then freeB g p o else freeB g o p
section RK
variable {B : Nat} {g : AG} {s : GS}
theorem pM_isBelow (h : RepM g s) (w : WfN B g) {p o at_ t : Nat} (hp : p < aP g) (ho : o < aP g) (ha : min (g 3 p) (g 3 o) < at_ ∧ at_ < max (g 3 p) (g 3 o)) (ht : t < 1000) : f_X7_isBelow s (nI p) (nI o) (nI at_) (nI t) = some (bI (!blkO g p o at_ t)) := by
  have hP := w.1.1
  have wp := w.2.1 p hp
  have wo := w.2.1 o ho
  have e0 : (0 : Int32) = Int32.ofInt 0 := rfl
  have hi := fun (h : Nat) (a b : Nat) (hh : h < 1000) (hab : a - b < 100) => Nat.mul_le_mul (show h ≤ 1000 by omega) (show a - b ≤ 100 by omega)
  unfold f_X7_isBelow blkO
  rw [gd_t (n_inB (by omega) (by omega)), gd_t (n_inB (by omega) (by omega)), nm_s, gd_t (n_inB (by omega) (by omega)), gd_t (n_inB (by omega) (by omega)), gd_t (n_inB (by omega) (by omega)), gd_t (n_inB (by omega) (by omega)), nm_s, n_tn (by omega), n_tn (by omega), h.c7 hp, h.c7 ho, h.c8 hp, h.c8 ho, e0]
  rw [n_iI (g 3 p), n_iI (g 3 o), n_iI (g 4 p), n_iI (g 4 o), n_iI at_, n_iI t, ← Int32.ofInt_sub, ← Int32.ofInt_sub, ← Int32.ofInt_sub, ← Int32.ofInt_mul, ← Int32.ofInt_mul, ← Int32.ofInt_mul, ← Int32.ofInt_add, ifc (i_le (by omega) (by omega) (by omega) (by omega))]
  by_cases hl : g 3 p < g 3 o
  · have hL := line_lt (a := g 4 p) (b := g 3 o - at_) (c := g 4 o) (d := at_ - g 3 p) (by omega) (by omega) (by omega) (by omega)
    have hT := hi t (g 3 o) (g 3 p) ht (by omega)
    rw [if_neg (by omega), if_pos hl, lineA _ _ _ _ _ (by omega) (by omega), mulC _ _ _ (by omega), ifc (i_le (by omega) (by omega) (by omega) (by omega))]
    unfold blk
    have a1 : g 3 p < at_ := by omega
    have a2 : at_ < g 3 o := by omega
    by_cases hc : g 4 p * (g 3 o - at_) + g 4 o * (at_ - g 3 p) ≤ t * (g 3 o - g 3 p)
    · rw [if_pos (by omega)]
      simp only [a1, a2, hc, decide_true, Bool.and_self, Bool.not_true]
      rfl
    · rw [if_neg (by omega)]
      simp only [a1, a2, hc, decide_true, decide_false, Bool.and_false, Bool.not_false]
      rfl
  · have hL := line_lt (a := g 4 o) (b := g 3 p - at_) (c := g 4 p) (d := at_ - g 3 o) (by omega) (by omega) (by omega) (by omega)
    have hT := hi t (g 3 p) (g 3 o) ht (by omega)
    rw [if_pos (by omega), if_neg hl, lineB _ _ _ _ _ (by omega) (by omega), mulD _ _ _ (by omega), ifc (i_le (by omega) (by omega) (by omega) (by omega))]
    unfold blk
    have a1 : g 3 o < at_ := by omega
    have a2 : at_ < g 3 p := by omega
    by_cases hc : g 4 o * (g 3 p - at_) + g 4 p * (at_ - g 3 o) ≤ t * (g 3 p - g 3 o)
    · rw [if_pos (by omega)]
      simp only [a1, a2, hc, decide_true, Bool.and_self, Bool.not_true]
      rfl
    · rw [if_neg (by omega)]
      simp only [a1, a2, hc, decide_true, decide_false, Bool.and_false, Bool.not_false]
      rfl
theorem blkO_no {p o at_ t : Nat} (h : (decide (min (g 3 p) (g 3 o) < at_) && decide (at_ < max (g 3 p) (g 3 o))) = false) : blkO g p o at_ t = false := by
  unfold blkO blk
  by_cases hl : g 3 p < g 3 o
  · rw [Nat.min_eq_left (by omega), Nat.max_eq_right (by omega)] at h
    rw [if_pos hl, ← Bool.and_assoc, h, Bool.false_and]
  · rw [Nat.min_eq_right (by omega), Nat.max_eq_left (by omega)] at h
    rw [if_neg hl, ← Bool.and_assoc, h, Bool.false_and]
theorem pM_couldSee_L137 (h : RepM g s) (w : WfN B g) {p o : Nat} (hp : p < aP g) (ho : o < aP g) : ∀ (n i : Nat), i ≤ aS g → aS g - i < n → (∀ j, j < i → blkO g p o (g 9 j) (g 10 j) = false) → f_X7_couldSee_L137 s (nI p) (nI o) n (nI i) = some (bI (!anyF (fun i => blkO g p o (g 9 i) (g 10 i)) (aS g)))
  | 0, i, _, h2, _ => by omega
  | n + 1, i, h1, h2, h3 => by
    have hS := w.1.2.1
    rw [f_X7_couldSee_L137.eq_2]
    by_cases hi : i < aS g
    · have ws := w.2.2.2.1 i hi
      have next : blkO g p o (g 9 i) (g 10 i) = false → f_X7_couldSee_L137 s (nI p) (nI o) n (nI (i + 1)) = some (bI (!anyF (fun i => blkO g p o (g 9 i) (g 10 i)) (aS g))) := fun hf =>
        pM_couldSee_L137 h w hp ho n (i + 1) (by omega) (by omega) (fun j hj => by
          by_cases hji : j = i
          · subst hji; exact hf
          · exact h3 j (by omega))
      cases hb : (decide (min (g 3 p) (g 3 o) < g 9 i) && decide (g 9 i < max (g 3 p) (g 3 o))) with
      | false =>
        simp (disch := omega) only [nm_s, bd_s, bd2_s, bd3_s, bd4_s, q_gt, q_inB, ↓q_m1, l_166, l_172, l_180, l_188, l_189, l_190, l_191, l_192, l_14, l_17, l_18, l_0, l_1, l_2, l_3, l_4, l_5, l_6, l_7, l_8, l_9, l_10, l_11, l_12, l_20, l_21, l_30, l_31, l_32, l_40, l_48, l_50, l_51, l_57, l_60, l_70, l_71, l_99, l_100, l_101, l_160, l_199, l_200, l_999, l_1000, q_tn, q_add, q_mul, q_sub, q_le, q_lt, q_eq, q_31, n_and, n_or, n_xor, q_shl, q_z, q_b0, q_b1, q_bz, q_em, q_me, q_mm, q_lm, q_ml, q_mle, q_lem, s2_eq, s2_ne, pk_us, pk_un, uN_s, uN_n, if_pos, if_neg, ite_true, ite_false, if_true, if_false, not_true, not_false_iff, Nat.add_zero, Nat.zero_add, h.cs, h.c13, pM_isBetween h w, hb]
        exact next (blkO_no hb)
      | true =>
        have hb2 : min (g 3 p) (g 3 o) < g 9 i ∧ g 9 i < max (g 3 p) (g 3 o) := by simpa using hb
        cases hk : blkO g p o (g 9 i) (g 10 i) with
        | false =>
          simp (disch := omega) only [nm_s, bd_s, bd2_s, bd3_s, bd4_s, q_gt, q_inB, ↓q_m1, l_166, l_172, l_180, l_188, l_189, l_190, l_191, l_192, l_14, l_17, l_18, l_0, l_1, l_2, l_3, l_4, l_5, l_6, l_7, l_8, l_9, l_10, l_11, l_12, l_20, l_21, l_30, l_31, l_32, l_40, l_48, l_50, l_51, l_57, l_60, l_70, l_71, l_99, l_100, l_101, l_160, l_199, l_200, l_999, l_1000, q_tn, q_add, q_mul, q_sub, q_le, q_lt, q_eq, q_31, n_and, n_or, n_xor, q_shl, q_z, q_b0, q_b1, q_bz, q_em, q_me, q_mm, q_lm, q_ml, q_mle, q_lem, s2_eq, s2_ne, pk_us, pk_un, uN_s, uN_n, if_pos, if_neg, ite_true, ite_false, if_true, if_false, not_true, not_false_iff, Nat.add_zero, Nat.zero_add, h.cs, h.c13, h.c14, pM_isBetween h w, hb, pM_isBelow h w, hk, bI_t, Bool.not_false]
          exact next hk
        | true =>
          simp (disch := omega) only [nm_s, bd_s, bd2_s, bd3_s, bd4_s, q_gt, q_inB, ↓q_m1, l_166, l_172, l_180, l_188, l_189, l_190, l_191, l_192, l_14, l_17, l_18, l_0, l_1, l_2, l_3, l_4, l_5, l_6, l_7, l_8, l_9, l_10, l_11, l_12, l_20, l_21, l_30, l_31, l_32, l_40, l_48, l_50, l_51, l_57, l_60, l_70, l_71, l_99, l_100, l_101, l_160, l_199, l_200, l_999, l_1000, q_tn, q_add, q_mul, q_sub, q_le, q_lt, q_eq, q_31, n_and, n_or, n_xor, q_shl, q_z, q_b0, q_b1, q_bz, q_em, q_me, q_mm, q_lm, q_ml, q_mle, q_lem, s2_eq, s2_ne, pk_us, pk_un, uN_s, uN_n, if_pos, if_neg, ite_true, ite_false, if_true, if_false, not_true, not_false_iff, Nat.add_zero, Nat.zero_add, h.cs, h.c13, h.c14, pM_isBetween h w, hb, pM_isBelow h w, hk, bI_t, bI_f, Bool.not_true]
          rw [anyF_yes hi hk]; rfl
    · simp (disch := omega) only [nm_s, bd_s, bd2_s, bd3_s, bd4_s, q_gt, q_inB, ↓q_m1, l_166, l_172, l_180, l_188, l_189, l_190, l_191, l_192, l_14, l_17, l_18, l_0, l_1, l_2, l_3, l_4, l_5, l_6, l_7, l_8, l_9, l_10, l_11, l_12, l_20, l_21, l_30, l_31, l_32, l_40, l_48, l_50, l_51, l_57, l_60, l_70, l_71, l_99, l_100, l_101, l_160, l_199, l_200, l_999, l_1000, q_tn, q_add, q_mul, q_sub, q_le, q_lt, q_eq, q_31, n_and, n_or, n_xor, q_shl, q_z, q_b0, q_b1, q_bz, q_em, q_me, q_mm, q_lm, q_ml, q_mle, q_lem, s2_eq, s2_ne, pk_us, pk_un, uN_s, uN_n, if_pos, if_neg, ite_true, ite_false, if_true, if_false, not_true, not_false_iff, Nat.add_zero, Nat.zero_add, h.cs]
      rw [anyF_no fun j hj => h3 j (by omega)]; rfl
theorem pM_couldSee_L73 (h : RepM g s) (w : WfN B g) {p o : Nat} (hp : p < aP g) (ho : o < aP g) (K : Option Int32) : ∀ (n i : Nat), i ≤ aP g → aP g - i < n → (∀ j, j < i → (stB g j && blkO g p o (g 3 j) (g 4 j)) = false) → f_X7_couldSee_L73 s (nI p) (nI o) K n (nI i) = if anyF (fun i => stB g i && blkO g p o (g 3 i) (g 4 i)) (aP g) = true then some 0 else K
  | 0, i, _, h2, _ => by omega
  | n + 1, i, h1, h2, h3 => by
    have hP := w.1.1
    rw [f_X7_couldSee_L73.eq_2]
    by_cases hi : i < aP g
    · have ws := w.2.1 i hi
      have next : (stB g i && blkO g p o (g 3 i) (g 4 i)) = false → f_X7_couldSee_L73 s (nI p) (nI o) K n (nI (i + 1)) = if anyF (fun i => stB g i && blkO g p o (g 3 i) (g 4 i)) (aP g) = true then some 0 else K := fun hf =>
        pM_couldSee_L73 h w hp ho K n (i + 1) (by omega) (by omega) (fun j hj => by
          by_cases hji : j = i
          · subst hji; exact hf
          · exact h3 j (by omega))
      cases hst : stB g i with
      | false =>
        simp (disch := omega) only [nm_s, bd_s, bd2_s, bd3_s, bd4_s, q_gt, q_inB, ↓q_m1, l_166, l_172, l_180, l_188, l_189, l_190, l_191, l_192, l_14, l_17, l_18, l_0, l_1, l_2, l_3, l_4, l_5, l_6, l_7, l_8, l_9, l_10, l_11, l_12, l_20, l_21, l_30, l_31, l_32, l_40, l_48, l_50, l_51, l_57, l_60, l_70, l_71, l_99, l_100, l_101, l_160, l_199, l_200, l_999, l_1000, q_tn, q_add, q_mul, q_sub, q_le, q_lt, q_eq, q_31, n_and, n_or, n_xor, q_shl, q_z, q_b0, q_b1, q_bz, q_em, q_me, q_mm, q_lm, q_ml, q_mle, q_lem, s2_eq, s2_ne, pk_us, pk_un, uN_s, uN_n, if_pos, if_neg, ite_true, ite_false, if_true, if_false, not_true, not_false_iff, Nat.add_zero, Nat.zero_add, h.c0, h.c9, hst]
        exact next (by rw [hst]; rfl)
      | true =>
        cases hb : (decide (min (g 3 p) (g 3 o) < g 3 i) && decide (g 3 i < max (g 3 p) (g 3 o))) with
        | false =>
          simp (disch := omega) only [nm_s, bd_s, bd2_s, bd3_s, bd4_s, q_gt, q_inB, ↓q_m1, l_166, l_172, l_180, l_188, l_189, l_190, l_191, l_192, l_14, l_17, l_18, l_0, l_1, l_2, l_3, l_4, l_5, l_6, l_7, l_8, l_9, l_10, l_11, l_12, l_20, l_21, l_30, l_31, l_32, l_40, l_48, l_50, l_51, l_57, l_60, l_70, l_71, l_99, l_100, l_101, l_160, l_199, l_200, l_999, l_1000, q_tn, q_add, q_mul, q_sub, q_le, q_lt, q_eq, q_31, n_and, n_or, n_xor, q_shl, q_z, q_b0, q_b1, q_bz, q_em, q_me, q_mm, q_lm, q_ml, q_mle, q_lem, s2_eq, s2_ne, pk_us, pk_un, uN_s, uN_n, if_pos, if_neg, ite_true, ite_false, if_true, if_false, not_true, not_false_iff, Nat.add_zero, Nat.zero_add, h.c0, h.c7, h.c9, hst, pM_isBetween h w, hb]
          exact next (by rw [blkO_no hb, Bool.and_false])
        | true =>
          have hb2 : min (g 3 p) (g 3 o) < g 3 i ∧ g 3 i < max (g 3 p) (g 3 o) := by simpa using hb
          cases hk : blkO g p o (g 3 i) (g 4 i) with
          | false =>
            simp (disch := omega) only [nm_s, bd_s, bd2_s, bd3_s, bd4_s, q_gt, q_inB, ↓q_m1, l_166, l_172, l_180, l_188, l_189, l_190, l_191, l_192, l_14, l_17, l_18, l_0, l_1, l_2, l_3, l_4, l_5, l_6, l_7, l_8, l_9, l_10, l_11, l_12, l_20, l_21, l_30, l_31, l_32, l_40, l_48, l_50, l_51, l_57, l_60, l_70, l_71, l_99, l_100, l_101, l_160, l_199, l_200, l_999, l_1000, q_tn, q_add, q_mul, q_sub, q_le, q_lt, q_eq, q_31, n_and, n_or, n_xor, q_shl, q_z, q_b0, q_b1, q_bz, q_em, q_me, q_mm, q_lm, q_ml, q_mle, q_lem, s2_eq, s2_ne, pk_us, pk_un, uN_s, uN_n, if_pos, if_neg, ite_true, ite_false, if_true, if_false, not_true, not_false_iff, Nat.add_zero, Nat.zero_add, h.c0, h.c7, h.c8, h.c9, hst, pM_isBetween h w, hb, pM_isBelow h w, hk, bI_t, Bool.not_false]
            exact next (by rw [hk, Bool.and_false])
          | true =>
            simp (disch := omega) only [nm_s, bd_s, bd2_s, bd3_s, bd4_s, q_gt, q_inB, ↓q_m1, l_166, l_172, l_180, l_188, l_189, l_190, l_191, l_192, l_14, l_17, l_18, l_0, l_1, l_2, l_3, l_4, l_5, l_6, l_7, l_8, l_9, l_10, l_11, l_12, l_20, l_21, l_30, l_31, l_32, l_40, l_48, l_50, l_51, l_57, l_60, l_70, l_71, l_99, l_100, l_101, l_160, l_199, l_200, l_999, l_1000, q_tn, q_add, q_mul, q_sub, q_le, q_lt, q_eq, q_31, n_and, n_or, n_xor, q_shl, q_z, q_b0, q_b1, q_bz, q_em, q_me, q_mm, q_lm, q_ml, q_mle, q_lem, s2_eq, s2_ne, pk_us, pk_un, uN_s, uN_n, if_pos, if_neg, ite_true, ite_false, if_true, if_false, not_true, not_false_iff, Nat.add_zero, Nat.zero_add, h.c0, h.c7, h.c8, h.c9, hst, pM_isBetween h w, hb, pM_isBelow h w, hk, bI_t, bI_f, Bool.not_true]
            rw [anyF_yes hi (by rw [hst, hk]; rfl), if_pos rfl]
    · simp (disch := omega) only [nm_s, bd_s, bd2_s, bd3_s, bd4_s, q_gt, q_inB, ↓q_m1, l_166, l_172, l_180, l_188, l_189, l_190, l_191, l_192, l_14, l_17, l_18, l_0, l_1, l_2, l_3, l_4, l_5, l_6, l_7, l_8, l_9, l_10, l_11, l_12, l_20, l_21, l_30, l_31, l_32, l_40, l_48, l_50, l_51, l_57, l_60, l_70, l_71, l_99, l_100, l_101, l_160, l_199, l_200, l_999, l_1000, q_tn, q_add, q_mul, q_sub, q_le, q_lt, q_eq, q_31, n_and, n_or, n_xor, q_shl, q_z, q_b0, q_b1, q_bz, q_em, q_me, q_mm, q_lm, q_ml, q_mle, q_lem, s2_eq, s2_ne, pk_us, pk_un, uN_s, uN_n, if_pos, if_neg, ite_true, ite_false, if_true, if_false, not_true, not_false_iff, Nat.add_zero, Nat.zero_add, h.c0]
      rw [anyF_no fun j hj => h3 j (by omega), if_neg (by decide)]
theorem freeO_eq (p o : Nat) : (!anyF (fun i => stB g i && blkO g p o (g 3 i) (g 4 i)) (aP g) && !anyF (fun i => blkO g p o (g 9 i) (g 10 i)) (aS g)) = freeO g p o := by
  unfold freeO freeB blkO
  by_cases hl : g 3 p < g 3 o
  · rw [if_pos hl]
    simp only [hl, if_true]
  · rw [if_neg hl]
    simp only [hl, if_false]
theorem jabs_n {a b : Nat} (ha : a < 100) (hb : b < 100) : jabs (nI a - nI b) = nI (if a < b then b - a else a - b) := jabs_sub ha hb
theorem visB_O (w : WfN B g) {p o : Nat} (hp : p < aP g) (ho : o < aP g) (hne : ¬ p = o) : visB g p o = ((stB g p && stB g o) && (freeO g p o && nearB g p o)) := by
  have hd : ¬ g 3 p = g 3 o := fun e => hne (w.2.2.2.2.2 p o hp ho e)
  unfold freeO
  by_cases hl : g 3 p < g 3 o
  · rw [if_pos hl, visB_lt hl]
  · rw [if_neg hl, visB_gt (show g 3 o < g 3 p by omega)]
theorem pM_couldSee (h : RepM g s) (w : WfN B g) {p o : Nat} (hp : p < aP g) (ho : o < aP g) : f_X7_couldSee s (nI p) (nI o) = some (bI (visB g p o)) := by
  have hP := w.1.1
  have wp := w.2.1 p hp
  have wo := w.2.1 o ho
  unfold f_X7_couldSee
  by_cases hne : p = o
  · subst hne
    rw [visB_eq rfl]
    simp (disch := omega) only [nm_s, bd_s, bd2_s, bd3_s, bd4_s, q_gt, q_inB, ↓q_m1, l_166, l_172, l_180, l_188, l_189, l_190, l_191, l_192, l_14, l_17, l_18, l_0, l_1, l_2, l_3, l_4, l_5, l_6, l_7, l_8, l_9, l_10, l_11, l_12, l_20, l_21, l_30, l_31, l_32, l_40, l_48, l_50, l_51, l_57, l_60, l_70, l_71, l_99, l_100, l_101, l_160, l_199, l_200, l_999, l_1000, q_tn, q_add, q_mul, q_sub, q_le, q_lt, q_eq, q_31, n_and, n_or, n_xor, q_shl, q_z, q_b0, q_b1, q_bz, q_em, q_me, q_mm, q_lm, q_ml, q_mle, q_lem, s2_eq, s2_ne, pk_us, pk_un, uN_s, uN_n, if_pos, if_neg, ite_true, ite_false, if_true, if_false, not_true, not_false_iff, Nat.add_zero, Nat.zero_add]
    rfl
  · rw [visB_O w hp ho hne]
    have h137 := pM_couldSee_L137 h w hp ho 2000 0 (by omega) (by have := w.1.2.1; omega) (fun j hj => by omega)
    have h73 := pM_couldSee_L73 h w hp ho (f_X7_couldSee_L137 s (nI p) (nI o) FU (0 : Int32)) 2000 0 (by omega) (by omega) (fun j hj => by omega)
    have hall : f_X7_couldSee_L73 s (nI p) (nI o) (f_X7_couldSee_L137 s (nI p) (nI o) FU (nI 0)) FU (nI 0) = some (bI (freeO g p o)) := by
      refine h73.trans ?_
      rw [← freeO_eq]
      cases hc : anyF (fun i => stB g i && blkO g p o (g 3 i) (g 4 i)) (aP g) with
      | true => rw [if_pos rfl]; rfl
      | false => rw [if_neg (by decide)]; exact h137
    cases h1 : stB g p with
    | false => simp (disch := omega) only [nm_s, bd_s, bd2_s, bd3_s, bd4_s, q_gt, q_inB, ↓q_m1, l_166, l_172, l_180, l_188, l_189, l_190, l_191, l_192, l_14, l_17, l_18, l_0, l_1, l_2, l_3, l_4, l_5, l_6, l_7, l_8, l_9, l_10, l_11, l_12, l_20, l_21, l_30, l_31, l_32, l_40, l_48, l_50, l_51, l_57, l_60, l_70, l_71, l_99, l_100, l_101, l_160, l_199, l_200, l_999, l_1000, q_tn, q_add, q_mul, q_sub, q_le, q_lt, q_eq, q_31, n_and, n_or, n_xor, q_shl, q_z, q_b0, q_b1, q_bz, q_em, q_me, q_mm, q_lm, q_ml, q_mle, q_lem, s2_eq, s2_ne, pk_us, pk_un, uN_s, uN_n, if_pos, if_neg, ite_true, ite_false, if_true, if_false, not_true, not_false_iff, Nat.add_zero, Nat.zero_add, h.c9, h1, bI_f]; rfl
    | true =>
      cases h2 : stB g o with
      | false => simp (disch := omega) only [nm_s, bd_s, bd2_s, bd3_s, bd4_s, q_gt, q_inB, ↓q_m1, l_166, l_172, l_180, l_188, l_189, l_190, l_191, l_192, l_14, l_17, l_18, l_0, l_1, l_2, l_3, l_4, l_5, l_6, l_7, l_8, l_9, l_10, l_11, l_12, l_20, l_21, l_30, l_31, l_32, l_40, l_48, l_50, l_51, l_57, l_60, l_70, l_71, l_99, l_100, l_101, l_160, l_199, l_200, l_999, l_1000, q_tn, q_add, q_mul, q_sub, q_le, q_lt, q_eq, q_31, n_and, n_or, n_xor, q_shl, q_z, q_b0, q_b1, q_bz, q_em, q_me, q_mm, q_lm, q_ml, q_mle, q_lem, s2_eq, s2_ne, pk_us, pk_un, uN_s, uN_n, if_pos, if_neg, ite_true, ite_false, if_true, if_false, not_true, not_false_iff, Nat.add_zero, Nat.zero_add, h.c9, h1, h2, bI_t, bI_f]; rfl
      | true =>
        cases hf : farK (g 1 p) with
        | false =>
          have hn : nearB g p o = true := by unfold nearB; rw [hf]; rfl
          simp (disch := omega) only [nm_s, bd_s, bd2_s, bd3_s, bd4_s, q_gt, q_inB, ↓q_m1, l_166, l_172, l_180, l_188, l_189, l_190, l_191, l_192, l_14, l_17, l_18, l_0, l_1, l_2, l_3, l_4, l_5, l_6, l_7, l_8, l_9, l_10, l_11, l_12, l_20, l_21, l_30, l_31, l_32, l_40, l_48, l_50, l_51, l_57, l_60, l_70, l_71, l_99, l_100, l_101, l_160, l_199, l_200, l_999, l_1000, q_tn, q_add, q_mul, q_sub, q_le, q_lt, q_eq, q_31, n_and, n_or, n_xor, q_shl, q_z, q_b0, q_b1, q_bz, q_em, q_me, q_mm, q_lm, q_ml, q_mle, q_lem, s2_eq, s2_ne, pk_us, pk_un, uN_s, uN_n, if_pos, if_neg, ite_true, ite_false, if_true, if_false, not_true, not_false_iff, Nat.add_zero, Nat.zero_add, h.c9, h.c5, h1, h2, bI_t, bI_f, pM_isUnder4, hf, hall, hn]
          cases freeO g p o <;> rfl
        | true =>
          by_cases hd : (if g 3 p < g 3 o then g 3 o - g 3 p else g 3 p - g 3 o) ≤ 10 * g 2 p + 10
          · have hn : nearB g p o = true := by unfold nearB; rw [hf]; simp [hd]
            have hd2 : (if g 3 p < g 3 o then g 3 o - g 3 p else g 3 p - g 3 o) < 2147483648 := by split <;> omega
            rw [hn]
            simp (disch := omega) only [nm_s, bd_s, bd2_s, bd3_s, bd4_s, q_gt, q_inB, ↓q_m1, l_166, l_172, l_180, l_188, l_189, l_190, l_191, l_192, l_14, l_17, l_18, l_0, l_1, l_2, l_3, l_4, l_5, l_6, l_7, l_8, l_9, l_10, l_11, l_12, l_20, l_21, l_30, l_31, l_32, l_40, l_48, l_50, l_51, l_57, l_60, l_70, l_71, l_99, l_100, l_101, l_160, l_199, l_200, l_999, l_1000, q_tn, q_31, q_shl, q_z, q_b0, q_b1, q_bz, q_em, q_me, q_mm, q_lm, q_ml, q_mle, q_lem, s2_eq, s2_ne, pk_us, pk_un, uN_s, uN_n, if_pos, if_neg, ite_true, ite_false, if_true, if_false, not_true, not_false_iff, Nat.add_zero, Nat.zero_add, h.c9, h.c5, h.c6, h.c7, h1, h2, bI_t, bI_f, pM_isUnder4, hf, hall, jabs_n, q_add, q_mul, q_le, q_eq]
            cases freeO g p o <;> rfl
          · have hn : nearB g p o = false := by unfold nearB; rw [hf]; simp [hd]
            have hd2 : (if g 3 p < g 3 o then g 3 o - g 3 p else g 3 p - g 3 o) < 2147483648 := by split <;> omega
            rw [hn]
            simp (disch := omega) only [nm_s, bd_s, bd2_s, bd3_s, bd4_s, q_gt, q_inB, ↓q_m1, l_166, l_172, l_180, l_188, l_189, l_190, l_191, l_192, l_14, l_17, l_18, l_0, l_1, l_2, l_3, l_4, l_5, l_6, l_7, l_8, l_9, l_10, l_11, l_12, l_20, l_21, l_30, l_31, l_32, l_40, l_48, l_50, l_51, l_57, l_60, l_70, l_71, l_99, l_100, l_101, l_160, l_199, l_200, l_999, l_1000, q_tn, q_31, q_shl, q_z, q_b0, q_b1, q_bz, q_em, q_me, q_mm, q_lm, q_ml, q_mle, q_lem, s2_eq, s2_ne, pk_us, pk_un, uN_s, uN_n, if_pos, if_neg, ite_true, ite_false, if_true, if_false, not_true, not_false_iff, Nat.add_zero, Nat.zero_add, h.c9, h.c5, h.c6, h.c7, h1, h2, bI_t, bI_f, pM_isUnder4, hf, hall, jabs_n, q_add, q_mul, q_le, q_eq]
            cases freeO g p o <;> rfl
end RK
