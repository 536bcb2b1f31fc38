-- rules for walking through a pure function
def mI : Int32 := -1
def uN (f : Nat → Nat) (i v : Nat) : Nat → Nat := fun j => if j = i then v else f j
theorem uN_s (f : Nat → Nat) (i v : Nat) : uN f i v i = v := if_pos rfl
theorem uN_n {f : Nat → Nat} {i v j : Nat} (h : j ≠ i) : uN f i v j = f j := if_neg h
def a2 (g : AG) (c : Nat) (f : Nat → Nat) : AG := fun j => if j = c then f else g j
theorem q_m1 : (-1 : Int32) = mI := rfl
theorem l_166 : (166 : Int32) = nI 166 := rfl
theorem l_172 : (172 : Int32) = nI 172 := rfl
theorem l_180 : (180 : Int32) = nI 180 := rfl
theorem l_188 : (188 : Int32) = nI 188 := rfl
theorem l_189 : (189 : Int32) = nI 189 := rfl
theorem l_190 : (190 : Int32) = nI 190 := rfl
theorem l_191 : (191 : Int32) = nI 191 := rfl
theorem l_192 : (192 : Int32) = nI 192 := rfl
theorem l_14 : (14 : Int32) = nI 14 := rfl
theorem l_17 : (17 : Int32) = nI 17 := rfl
theorem l_18 : (18 : Int32) = nI 18 := rfl
theorem l_0 : (0 : Int32) = nI 0 := rfl
theorem l_1 : (1 : Int32) = nI 1 := rfl
theorem l_2 : (2 : Int32) = nI 2 := rfl
theorem l_3 : (3 : Int32) = nI 3 := rfl
theorem l_4 : (4 : Int32) = nI 4 := rfl
theorem l_5 : (5 : Int32) = nI 5 := rfl
theorem l_6 : (6 : Int32) = nI 6 := rfl
theorem l_7 : (7 : Int32) = nI 7 := rfl
theorem l_8 : (8 : Int32) = nI 8 := rfl
theorem l_9 : (9 : Int32) = nI 9 := rfl
theorem l_10 : (10 : Int32) = nI 10 := rfl
theorem l_11 : (11 : Int32) = nI 11 := rfl
theorem l_12 : (12 : Int32) = nI 12 := rfl
theorem l_20 : (20 : Int32) = nI 20 := rfl
theorem l_21 : (21 : Int32) = nI 21 := rfl
theorem l_30 : (30 : Int32) = nI 30 := rfl
theorem l_31 : (31 : Int32) = nI 31 := rfl
theorem l_32 : (32 : Int32) = nI 32 := rfl
theorem l_40 : (40 : Int32) = nI 40 := rfl
theorem l_48 : (48 : Int32) = nI 48 := rfl
theorem l_50 : (50 : Int32) = nI 50 := rfl
theorem l_51 : (51 : Int32) = nI 51 := rfl
theorem l_57 : (57 : Int32) = nI 57 := rfl
theorem l_60 : (60 : Int32) = nI 60 := rfl
theorem l_70 : (70 : Int32) = nI 70 := rfl
theorem l_71 : (71 : Int32) = nI 71 := rfl
theorem l_99 : (99 : Int32) = nI 99 := rfl
theorem l_100 : (100 : Int32) = nI 100 := rfl
theorem l_101 : (101 : Int32) = nI 101 := rfl
theorem l_160 : (160 : Int32) = nI 160 := rfl
theorem l_199 : (199 : Int32) = nI 199 := rfl
theorem l_200 : (200 : Int32) = nI 200 := rfl
theorem l_999 : (999 : Int32) = nI 999 := rfl
theorem l_1000 : (1000 : Int32) = nI 1000 := rfl
theorem q_gt {α : Type} {a : Option α} : gd true a = a := rfl
theorem q_inB {i n : Nat} (h : i < n) (hn : n < 2147483648) : inB (nI i) n = true := n_inB h hn
theorem q_tn {n : Nat} (h : n < 2147483648) : (nI n).toNatClampNeg = n := nI_clamp h
theorem q_add (a b : Nat) : nI a + nI b = nI (a + b) := nI_add a b
theorem q_mul (a b : Nat) : nI a * nI b = nI (a * b) := pk_mul a b
theorem q_sub {a b : Nat} (h : b ≤ a) : nI a - nI b = nI (a - b) := pk_sub h
theorem q_le {a b : Nat} (ha : a < 2147483648) (hb : b < 2147483648) : (nI a ≤ nI b) = (a ≤ b) := propext (nI_leI ha hb)
theorem q_lt {a b : Nat} (ha : a < 2147483648) (hb : b < 2147483648) : (nI a < nI b) = (a < b) := propext (nI_ltI ha hb)
theorem q_eq {a b : Nat} (ha : a < 2147483648) (hb : b < 2147483648) : (nI a = nI b) = (a = b) := propext (nI_eq ha hb)
theorem q_31 {i : Nat} (h : i < 32) : i &&& 31 = i := by
  have := Nat.and_two_pow_sub_one_eq_mod i 5
  rw [show 31 = 2 ^ 5 - 1 by rfl, this]
  exact Nat.mod_eq_of_lt h
theorem q_shl {i : Nat} (h : i < 31) : nI 1 <<< nI i = nI (2 ^ i) := by
  have := n_shl h
  rw [show (31 : Int32) = nI 31 from rfl, n_and, q_31 (by omega)] at this
  exact this
theorem q_z : isZ (nI 0) = true := rfl
theorem q_b0 (b : Bool) : (bI b = nI 0) = (b = false) := bI_0 b
theorem q_b1 (b : Bool) : (bI b = nI 1) = (b = true) := bI_1 b
theorem q_bz (b : Bool) : isZ (bI b) = true := bI_z b
theorem q_em {n : Nat} (h : n < 2147483648) : (nI n = mI) = False := n_m1 h
theorem q_me {n : Nat} (h : n < 2147483648) : (mI = nI n) = False := propext ⟨fun q => by rw [← n_m1 h]; exact q.symm, False.elim⟩
theorem q_mm : (mI = mI) = True := eq_self mI
theorem q_ml {n : Nat} (h : n < 2147483648) : (mI < nI n) = True := by
  apply propext
  refine ⟨fun _ => trivial, fun _ => ?_⟩
  apply Int32.lt_iff_toInt_lt.mpr
  have h1 : mI.toInt = -1 := rfl
  rw [h1, n_toInt h]
  omega
theorem q_lm {n : Nat} (h : n < 2147483648) : (nI n < mI) = False := by
  apply propext
  refine ⟨fun q => ?_, False.elim⟩
  have h2 := Int32.lt_iff_toInt_lt.mp q
  have h1 : mI.toInt = -1 := rfl
  rw [h1, n_toInt h] at h2
  omega
theorem q_mle {n : Nat} (h : n < 2147483648) : (mI ≤ nI n) = True := by
  apply propext
  refine ⟨fun _ => trivial, fun _ => ?_⟩
  apply Int32.le_iff_toInt_le.mpr
  have h1 : mI.toInt = -1 := rfl
  rw [h1, n_toInt h]
  omega
theorem q_lem {n : Nat} (h : n < 2147483648) : (nI n ≤ mI) = False := by
  apply propext
  refine ⟨fun q => ?_, False.elim⟩
  have h2 := Int32.le_iff_toInt_le.mp q
  have h1 : mI.toInt = -1 := rfl
  rw [h1, n_toInt h] at h2
  omega
section RG
variable {g : AG} {r : GS}
theorem RepR.c0 (h : RepR g r) : r 0 0 = nI (aP g) := h.1.1
theorem RepR.c1 (h : RepR g r) : r 0 1 = nI (aW g) := h.1.2.1
theorem RepR.cs (h : RepR g r) : r 0 10 = nI (aS g) := h.1.2.2.1
theorem RepR.cv (h : RepR g r) : r 0 13 = nI (aV g) := h.1.2.2.2.1
theorem RepR.cy (h : RepR g r) : r 0 16 = nI (aY g) := h.1.2.2.2.2
theorem RepR.c3 (h : RepR g r) {i : Nat} (hi : i < aP g) : r 3 i = nI (g 1 i) := (h.2.1 i hi).1
theorem RepR.c4 (h : RepR g r) {i : Nat} (hi : i < aP g) : r 4 i = nI (g 2 i) := (h.2.1 i hi).2.1
theorem RepR.c5 (h : RepR g r) {i : Nat} (hi : i < aP g) : r 5 i = nI (g 3 i) := (h.2.1 i hi).2.2.1
theorem RepR.c6 (h : RepR g r) {i : Nat} (hi : i < aP g) : r 6 i = nI (g 4 i) := (h.2.1 i hi).2.2.2.1
theorem RepR.c7 (h : RepR g r) {i : Nat} (hi : i < aP g) : r 7 i = nI (g 5 i) := (h.2.1 i hi).2.2.2.2.1
theorem RepR.c8 (h : RepR g r) {i : Nat} (hi : i < aP g) : r 8 i = nI (g 7 i) := (h.2.1 i hi).2.2.2.2.2
theorem RepR.c12 (h : RepR g r) {i : Nat} (hi : i < aS g) : r 12 i = nI (g 9 i) := (h.2.2.2.1 i hi).1
theorem RepR.c13 (h : RepR g r) {i : Nat} (hi : i < aS g) : r 13 i = nI (g 10 i) := (h.2.2.2.1 i hi).2
theorem RepR.c15 (h : RepR g r) {i : Nat} (hi : i < aV g) : r 15 i = nI (g 11 i) := (h.2.2.2.2 i hi).1
theorem RepR.c16 (h : RepR g r) {i : Nat} (hi : i < aV g) : r 16 i = nI (g 12 i) := (h.2.2.2.2 i hi).2
end RG
theorem q_div {a b : Nat} (ha : a < 2147483648) (hb : b < 2147483648) (hb0 : 0 < b) : nI a / nI b = nI (a / b) := pk_div ha hb0 hb
theorem q_neB {n : Nat} (h : n < 2147483648) (h0 : 0 < n) : neB (nI n) = true := by
  unfold neB
  rw [decide_eq_true_eq]
  intro q
  have := (n_z h).mp q
  omega
-- the least screen
def lsN (g : AG) (l r at_ : Nat) : Nat := (g 4 l * (g 3 r - at_) + g 4 r * (at_ - g 3 l) + (g 3 r - g 3 l) - 1) / (g 3 r - g 3 l)
def lsI (g : AG) (p q at_ : Nat) : Int32 :=
  if g 3 p < g 3 q then (if g 3 p < at_ ∧ at_ < g 3 q then nI (lsN g p q at_) else mI)
  else if g 3 q < g 3 p then (if g 3 q < at_ ∧ at_ < g 3 p then nI (lsN g q p at_) else mI) else mI
section LS
variable {B : Nat} {g : AG} {r : GS}
theorem pR_ls33 (h : RepR g r) (w : WfN B g) {p q at_ : Nat} (hp : p < aP g) (hq : q < aP g) (ha : at_ < 100) (hpq : g 3 p < g 3 q) : f_X3_leastScreen_J33 r (nI at_) (nI p) (nI q) = some (if g 3 p < at_ ∧ at_ < g 3 q then nI (lsN g p q at_) else mI) := by
  have hP := w.1.1
  have w1 := w.2.1 p hp
  have w2 := w.2.1 q hq
  unfold f_X3_leastScreen_J33
  simp (disch := omega) only [nm_s, bd_s, bd2_s, bd3_s, bd4_s, q_gt, q_inB, ↓q_m1, l_166, l_172, l_180, l_188, l_189, l_190, l_191, l_192, l_14, l_17, l_18, l_0, l_1, l_2, l_3, l_4, l_5, l_6, l_7, l_8, l_9, l_10, l_11, l_12, l_20, l_21, l_30, l_31, l_32, l_40, l_48, l_50, l_51, l_57, l_60, l_70, l_71, l_99, l_100, l_101, l_160, l_199, l_200, l_999, l_1000, q_tn, q_add, q_mul, q_sub, q_le, q_lt, q_eq, q_31, n_and, n_or, n_xor, q_shl, q_z, q_b0, q_b1, q_bz, q_em, q_me, q_mm, q_lm, q_ml, q_mle, q_lem, s2_eq, s2_ne, pk_us, pk_un, uN_s, uN_n, if_pos, if_neg, ite_true, ite_false, if_true, if_false, not_true, not_false_iff, Nat.add_zero, Nat.zero_add, h.c5]
  by_cases h1 : at_ ≤ g 3 p
  · simp (disch := omega) only [nm_s, bd_s, bd2_s, bd3_s, bd4_s, q_gt, q_inB, ↓q_m1, l_166, l_172, l_180, l_188, l_189, l_190, l_191, l_192, l_14, l_17, l_18, l_0, l_1, l_2, l_3, l_4, l_5, l_6, l_7, l_8, l_9, l_10, l_11, l_12, l_20, l_21, l_30, l_31, l_32, l_40, l_48, l_50, l_51, l_57, l_60, l_70, l_71, l_99, l_100, l_101, l_160, l_199, l_200, l_999, l_1000, q_tn, q_add, q_mul, q_sub, q_le, q_lt, q_eq, q_31, n_and, n_or, n_xor, q_shl, q_z, q_b0, q_b1, q_bz, q_em, q_me, q_mm, q_lm, q_ml, q_mle, q_lem, s2_eq, s2_ne, pk_us, pk_un, uN_s, uN_n, if_pos, if_neg, ite_true, ite_false, if_true, if_false, not_true, not_false_iff, Nat.add_zero, Nat.zero_add, h.c5]
  · by_cases h2 : at_ < g 3 q
    · have hl := line_lt (a := g 4 p) (b := g 3 q - at_) (c := g 4 q) (d := at_ - g 3 p) (by omega) (by omega) (by omega) (by omega)
      simp (disch := omega) only [nm_s, bd_s, bd2_s, bd3_s, bd4_s, q_gt, q_inB, ↓q_m1, l_166, l_172, l_180, l_188, l_189, l_190, l_191, l_192, l_14, l_17, l_18, l_0, l_1, l_2, l_3, l_4, l_5, l_6, l_7, l_8, l_9, l_10, l_11, l_12, l_20, l_21, l_30, l_31, l_32, l_40, l_48, l_50, l_51, l_57, l_60, l_70, l_71, l_99, l_100, l_101, l_160, l_199, l_200, l_999, l_1000, q_tn, q_add, q_mul, q_sub, q_le, q_lt, q_eq, q_31, n_and, n_or, n_xor, q_shl, q_z, q_b0, q_b1, q_bz, q_em, q_me, q_mm, q_lm, q_ml, q_mle, q_lem, s2_eq, s2_ne, pk_us, pk_un, uN_s, uN_n, if_pos, if_neg, ite_true, ite_false, if_true, if_false, not_true, not_false_iff, Nat.add_zero, Nat.zero_add, h.c5, pR_lineOver h w, q_neB, q_div]
      rfl
    · simp (disch := omega) only [nm_s, bd_s, bd2_s, bd3_s, bd4_s, q_gt, q_inB, ↓q_m1, l_166, l_172, l_180, l_188, l_189, l_190, l_191, l_192, l_14, l_17, l_18, l_0, l_1, l_2, l_3, l_4, l_5, l_6, l_7, l_8, l_9, l_10, l_11, l_12, l_20, l_21, l_30, l_31, l_32, l_40, l_48, l_50, l_51, l_57, l_60, l_70, l_71, l_99, l_100, l_101, l_160, l_199, l_200, l_999, l_1000, q_tn, q_add, q_mul, q_sub, q_le, q_lt, q_eq, q_31, n_and, n_or, n_xor, q_shl, q_z, q_b0, q_b1, q_bz, q_em, q_me, q_mm, q_lm, q_ml, q_mle, q_lem, s2_eq, s2_ne, pk_us, pk_un, uN_s, uN_n, if_pos, if_neg, ite_true, ite_false, if_true, if_false, not_true, not_false_iff, Nat.add_zero, Nat.zero_add, h.c5]
theorem pR_leastScreen (h : RepR g r) (w : WfN B g) {p q at_ : Nat} (hp : p < aP g) (hq : q < aP g) (ha : at_ < 100) (hpq : g 3 p ≠ g 3 q) : f_X3_leastScreen r (nI p) (nI q) (nI at_) = some (lsI g p q at_) := by
  have hP := w.1.1
  have w1 := w.2.1 p hp
  have w2 := w.2.1 q hq
  unfold f_X3_leastScreen lsI
  by_cases hl : g 3 p < g 3 q
  · have hne : ¬ p = q := fun e => by rw [e] at hl; omega
    simp (disch := omega) only [nm_s, bd_s, bd2_s, bd3_s, bd4_s, q_gt, q_inB, ↓q_m1, l_166, l_172, l_180, l_188, l_189, l_190, l_191, l_192, l_14, l_17, l_18, l_0, l_1, l_2, l_3, l_4, l_5, l_6, l_7, l_8, l_9, l_10, l_11, l_12, l_20, l_21, l_30, l_31, l_32, l_40, l_48, l_50, l_51, l_57, l_60, l_70, l_71, l_99, l_100, l_101, l_160, l_199, l_200, l_999, l_1000, q_tn, q_add, q_mul, q_sub, q_le, q_lt, q_eq, q_31, n_and, n_or, n_xor, q_shl, q_z, q_b0, q_b1, q_bz, q_em, q_me, q_mm, q_lm, q_ml, q_mle, q_lem, s2_eq, s2_ne, pk_us, pk_un, uN_s, uN_n, if_pos, if_neg, ite_true, ite_false, if_true, if_false, not_true, not_false_iff, Nat.add_zero, Nat.zero_add, h.c5]
    unfold f_X3_leastScreen_J20
    simp (disch := omega) only [nm_s, bd_s, bd2_s, bd3_s, bd4_s, q_gt, q_inB, ↓q_m1, l_166, l_172, l_180, l_188, l_189, l_190, l_191, l_192, l_14, l_17, l_18, l_0, l_1, l_2, l_3, l_4, l_5, l_6, l_7, l_8, l_9, l_10, l_11, l_12, l_20, l_21, l_30, l_31, l_32, l_40, l_48, l_50, l_51, l_57, l_60, l_70, l_71, l_99, l_100, l_101, l_160, l_199, l_200, l_999, l_1000, q_tn, q_add, q_mul, q_sub, q_le, q_lt, q_eq, q_31, n_and, n_or, n_xor, q_shl, q_z, q_b0, q_b1, q_bz, q_em, q_me, q_mm, q_lm, q_ml, q_mle, q_lem, s2_eq, s2_ne, pk_us, pk_un, uN_s, uN_n, if_pos, if_neg, ite_true, ite_false, if_true, if_false, not_true, not_false_iff, Nat.add_zero, Nat.zero_add, pR_ls33 h w]
  · have hne : ¬ p = q := fun e => by rw [e] at hpq; omega
    simp (disch := omega) only [nm_s, bd_s, bd2_s, bd3_s, bd4_s, q_gt, q_inB, ↓q_m1, l_166, l_172, l_180, l_188, l_189, l_190, l_191, l_192, l_14, l_17, l_18, l_0, l_1, l_2, l_3, l_4, l_5, l_6, l_7, l_8, l_9, l_10, l_11, l_12, l_20, l_21, l_30, l_31, l_32, l_40, l_48, l_50, l_51, l_57, l_60, l_70, l_71, l_99, l_100, l_101, l_160, l_199, l_200, l_999, l_1000, q_tn, q_add, q_mul, q_sub, q_le, q_lt, q_eq, q_31, n_and, n_or, n_xor, q_shl, q_z, q_b0, q_b1, q_bz, q_em, q_me, q_mm, q_lm, q_ml, q_mle, q_lem, s2_eq, s2_ne, pk_us, pk_un, uN_s, uN_n, if_pos, if_neg, ite_true, ite_false, if_true, if_false, not_true, not_false_iff, Nat.add_zero, Nat.zero_add, h.c5]
    unfold f_X3_leastScreen_J20
    simp (disch := omega) only [nm_s, bd_s, bd2_s, bd3_s, bd4_s, q_gt, q_inB, ↓q_m1, l_166, l_172, l_180, l_188, l_189, l_190, l_191, l_192, l_14, l_17, l_18, l_0, l_1, l_2, l_3, l_4, l_5, l_6, l_7, l_8, l_9, l_10, l_11, l_12, l_20, l_21, l_30, l_31, l_32, l_40, l_48, l_50, l_51, l_57, l_60, l_70, l_71, l_99, l_100, l_101, l_160, l_199, l_200, l_999, l_1000, q_tn, q_add, q_mul, q_sub, q_le, q_lt, q_eq, q_31, n_and, n_or, n_xor, q_shl, q_z, q_b0, q_b1, q_bz, q_em, q_me, q_mm, q_lm, q_ml, q_mle, q_lem, s2_eq, s2_ne, pk_us, pk_un, uN_s, uN_n, if_pos, if_neg, ite_true, ite_false, if_true, if_false, not_true, not_false_iff, Nat.add_zero, Nat.zero_add, pR_ls33 h w]
end LS
