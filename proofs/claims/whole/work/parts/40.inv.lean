-- what holds between the two after every call
def ShR (so : GS) (rw : Nat → GS) (re : Nat → Nat → Int64) (sm : GS) (sq : Nat → Int64) (P i : Nat) : Prop :=
  so 6 i = mI ∨ (∃ p, p < P ∧ so 6 i = nI p) ∨
  (∃ k L, k < 4 ∧ so 6 i = nI (100 + k) ∧ rw i 0 1 = nI k ∧ rw i 0 2 = nI L ∧ sm 2 i = nI L ∧ L ≤ 160 ∧ ∀ j, j < L → re i j = sq (160 * i + j))
def Trc (sv sm : GS) : Prop := ∃ t, t ≤ 1000 ∧ sv 0 0 = nI t ∧ sm 0 21 = nI t ∧ ∀ i, i < 20 → i < t → sv 2 i = sm 23 i
def Img (B : Nat) (so r1 sm : GS) : Prop := ∃ b : Bool, so 0 3 = bI b ∧ sm 0 23 = bI b ∧ (b = true → ∃ g1, RepR g1 r1 ∧ HoldM g1 (r1 0 17) (sm 25) ∧ Wf B g1)
def Shs (so : GS) (rw : Nat → GS) (re : Nat → Nat → Int64) (sm : GS) (sq : Nat → Int64) (P : Nat) : Prop := ∀ i, i < 8 → so 6 i = sm 1 i ∧ ShR so rw re sm sq P i
def Inv (B : Nat) (so r0 r1 : GS) (rw : Nat → GS) (re : Nat → Nat → Int64) (sv sm : GS) (sq : Nat → Int64) : Prop :=
  ∃ g, (RepR g r0 ∧ RepM g sm ∧ Wf B g ∧ r0 0 17 = sm 0 18) ∧ so 0 7 = sm 0 19 ∧ Shs so rw re sm sq (aP g) ∧ (∀ i, i < 8 → so 7 i = sm 21 i) ∧ Trc sv sm ∧ Img B so r1 sm
-- what of the reference the relation reads beside the range
def SmK (s t : GS) : Prop := (t 1 = s 1 ∧ t 2 = s 2 ∧ t 21 = s 21 ∧ t 23 = s 23 ∧ t 25 = s 25) ∧ t 0 19 = s 0 19 ∧ t 0 21 = s 0 21 ∧ t 0 23 = s 0 23
theorem SmK_rfl (s : GS) : SmK s s := ⟨⟨rfl, rfl, rfl, rfl, rfl⟩, rfl, rfl, rfl⟩
theorem SmK_trans {a b c : GS} (h : SmK a b) (h2 : SmK b c) : SmK a c :=
  ⟨⟨h2.1.1.trans h.1.1, h2.1.2.1.trans h.1.2.1, h2.1.2.2.1.trans h.1.2.2.1, h2.1.2.2.2.1.trans h.1.2.2.2.1, h2.1.2.2.2.2.trans h.1.2.2.2.2⟩, h2.2.1.trans h.2.1, h2.2.2.1.trans h.2.2.1, h2.2.2.2.trans h.2.2.2⟩
theorem SmK_fr {a b : GS} (h : FrM a b) : SmK a b :=
  ⟨⟨h.1 1 rfl, h.1 2 rfl, h.1 21 rfl, h.1 23 rfl, h.1 25 rfl⟩, h.2 19 rfl, h.2 21 rfl, h.2 23 rfl⟩
theorem SmK_s2 {s : GS} {k : Nat} {f : Nat → Int32} (h : 26 ≤ k) : SmK s (s2 s k f) :=
  ⟨⟨s2_ne (by omega), s2_ne (by omega), s2_ne (by omega), s2_ne (by omega), s2_ne (by omega)⟩, congrFun (s2_ne (by omega)) _, congrFun (s2_ne (by omega)) _, congrFun (s2_ne (by omega)) _⟩
theorem SmK_slot {s : GS} {j : Nat} {v : Int32} (h1 : j ≠ 19) (h2 : j ≠ 21) (h3 : j ≠ 23) : SmK s (s2 s 0 (upd (s 0) j v)) :=
  ⟨⟨rfl, rfl, rfl, rfl, rfl⟩, pk_un (Ne.symm h1), pk_un (Ne.symm h2), pk_un (Ne.symm h3)⟩
theorem ShR_mono {so : GS} {rw : Nat → GS} {re : Nat → Nat → Int64} {sm sm' : GS} {sq : Nat → Int64} {P P' i : Nat} (h : ShR so rw re sm sq P i) (hP : P ≤ P') (e : sm' 2 = sm 2) : ShR so rw re sm' sq P' i := by
  rcases h with h | ⟨p, h1, h2⟩ | ⟨k, L, h1, h2, h3, h4, h5, h6, h7⟩
  · exact Or.inl h
  · exact Or.inr (Or.inl ⟨p, by omega, h2⟩)
  · exact Or.inr (Or.inr ⟨k, L, h1, h2, h3, h4, by rw [e]; exact h5, h6, h7⟩)
section IV
variable {B : Nat} {so r0 r1 : GS} {rw : Nat → GS} {re : Nat → Nat → Int64} {sv sm : GS} {sq : Nat → Int64}
-- a step on the range
theorem Inv_range {B' : Nat} {g' : AG} {r0' sm' : GS} {g : AG} (hs : Shs so rw re sm sq (aP g)) (hf : so 0 7 = sm 0 19) (hc : ∀ i, i < 8 → so 7 i = sm 21 i) (ht : Trc sv sm) (hi : Img B so r1 sm) (hB : B ≤ B') (hB2 : B' ≤ 20000000) (k : SmK sm sm') (h : RepR g' r0') (m : RepM g' sm') (w : Wf B' g') (hd : r0' 0 17 = sm' 0 18) (hP : aP g ≤ aP g') : Inv B' so r0' r1 rw re sv sm' sq := by
  obtain ⟨⟨k1, k2, k3, k4, k5⟩, k6, k7, k8⟩ := k
  refine ⟨g', ⟨h, m, w, hd⟩, by rw [k6]; exact hf, fun i hi => ?_, fun i hi => by rw [k3]; exact hc i hi, ?_, ?_⟩
  · obtain ⟨a, b⟩ := hs i hi
    exact ⟨by rw [k1]; exact a, ShR_mono b hP k2⟩
  · obtain ⟨t, h1, h2, h3, h4⟩ := ht
    exact ⟨t, h1, h2, by rw [k7]; exact h3, fun i hi1 hi2 => by rw [k4]; exact h4 i hi1 hi2⟩
  · obtain ⟨b, h1, h2, h3⟩ := hi
    refine ⟨b, h1, by rw [k8]; exact h2, fun hb => ?_⟩
    obtain ⟨g1, e1, e2, e3⟩ := h3 hb
    exact ⟨g1, e1, by rw [k5]; exact e2, Wf.mono e3.1 hB hB2, e3.2⟩
theorem Inv_mono {B' : Nat} (I : Inv B so r0 r1 rw re sv sm sq) (hB : B ≤ B') (hB2 : B' ≤ 20000000) : Inv B' so r0 r1 rw re sv sm sq := by
  obtain ⟨g, ⟨h, m, w, hd⟩, hf, hs, hc, ht, hi⟩ := I
  exact Inv_range hs hf hc ht hi hB hB2 (SmK_rfl sm) h m ⟨Wf.mono w.1 hB hB2, w.2⟩ hd (Nat.le_refl _)
-- refusals
def soR (so : GS) (c : Nat) : GS := s2 so 7 (upd (so 7) c (so 7 c + nI 1))
def smR (sm : GS) (c : Nat) : GS := s2 sm 21 (upd (sm 21) c (sm 21 c + nI 1))
theorem r6_ (so : GS) {c : Nat} (hc : c < 8) : f_X6_refused so (nI c) = some (-nI c, soR so c) := by
  unfold f_X6_refused soR
  simp (disch := omega) only [nm_s, bd_s, bd2_s, bd3_s, bd4_s, q_gt, q_inB, ↓q_m1, l_166, l_172, l_180, l_188, l_189, l_190, l_191, l_192, l_14, l_17, l_18, l_0, l_1, l_2, l_3, l_4, l_5, l_6, l_7, l_8, l_9, l_10, l_11, l_12, l_20, l_21, l_30, l_31, l_32, l_40, l_48, l_50, l_51, l_57, l_60, l_70, l_71, l_99, l_100, l_101, l_160, l_199, l_200, l_999, l_1000, q_tn, q_add, q_mul, q_sub, q_le, q_lt, q_eq, q_31, n_and, n_or, n_xor, q_shl, q_z, q_b0, q_b1, q_bz, q_em, q_me, q_mm, q_lm, q_ml, q_mle, q_lem, s2_eq, s2_ne, pk_us, pk_un, uN_s, uN_n, if_pos, if_neg, ite_true, ite_false, if_true, if_false, not_true, not_false_iff, Nat.add_zero, Nat.zero_add]
theorem neg_neg32 (x : Int32) : - -x = x := by
  apply Int32.toBitVec_inj.mp
  show - -x.toBitVec = x.toBitVec
  exact BitVec.neg_neg
theorem r7_ (sm : GS) {c : Nat} (hc : c < 8) : f_X7_no sm (-nI c) = some (-nI c, smR sm c) := by
  unfold f_X7_no smR
  rw [neg_neg32]
  simp (disch := omega) only [nm_s, bd_s, bd2_s, bd3_s, bd4_s, q_gt, q_inB, ↓q_m1, l_166, l_172, l_180, l_188, l_189, l_190, l_191, l_192, l_14, l_17, l_18, l_0, l_1, l_2, l_3, l_4, l_5, l_6, l_7, l_8, l_9, l_10, l_11, l_12, l_20, l_21, l_30, l_31, l_32, l_40, l_48, l_50, l_51, l_57, l_60, l_70, l_71, l_99, l_100, l_101, l_160, l_199, l_200, l_999, l_1000, q_tn, q_add, q_mul, q_sub, q_le, q_lt, q_eq, q_31, n_and, n_or, n_xor, q_shl, q_z, q_b0, q_b1, q_bz, q_em, q_me, q_mm, q_lm, q_ml, q_mle, q_lem, s2_eq, s2_ne, pk_us, pk_un, uN_s, uN_n, if_pos, if_neg, ite_true, ite_false, if_true, if_false, not_true, not_false_iff, Nat.add_zero, Nat.zero_add]
theorem r7_1 (sm : GS) : f_X7_no sm mI = some (mI, smR sm 1) := r7_ sm (c := 1) (by omega)
theorem neg1 : -nI 1 = mI := rfl
theorem Inv_ref (I : Inv B so r0 r1 rw re sv sm sq) {c : Nat} (hc : c < 8) : Inv B (soR so c) r0 r1 rw re sv (smR sm c) sq := by
  obtain ⟨g, ⟨h, m, w, hd⟩, hf, hs, hr, ht, hi⟩ := I
  refine ⟨g, ⟨h, m, w, hd⟩, hf, hs, fun i hi => ?_, ht, hi⟩
  show upd (so 7) c (so 7 c + nI 1) i = upd (sm 21) c (sm 21 c + nI 1) i
  by_cases hx : i = c
  · rw [hx, pk_us, pk_us, hr c hc]
  · rw [pk_un hx, pk_un hx, hr i hi]
end IV
-- both sides answer, and the answers stand in a relation
def SimP {α β : Type} (a : Option α) (b : Option β) (R : α → β → Prop) : Prop := ∃ x, a = some x ∧ ∃ y, b = some y ∧ R x y
theorem sim_i {α β : Type} {x : α} {y : β} {R : α → β → Prop} (h : R x y) : SimP (some x) (some y) R := ⟨x, rfl, y, rfl, h⟩
theorem sim_bd {α β γ δ : Type} {a : Option α} {b : Option β} {R : α → β → Prop} {K : α → Option γ} {L : β → Option δ} {Q : γ → δ → Prop} (h : SimP a b R) (h2 : ∀ x y, R x y → SimP (K x) (L y) Q) : SimP (bd a K) (bd b L) Q := by
  obtain ⟨x, rfl, y, rfl, hr⟩ := h
  exact h2 x y hr
theorem in3 (x : Int32) (lo hi : Nat) (hl : lo < 2147483648) (h : hi < 2147483647) : (x < nI lo ∧ inR x lo hi = false) ∨ (¬ x < nI lo ∧ ¬ x ≤ nI hi ∧ inR x lo hi = false) ∨ (∃ v, lo ≤ v ∧ v ≤ hi ∧ x = nI v ∧ inR x lo hi = true) := by
  unfold inR
  by_cases h1 : x < nI lo
  · exact Or.inl ⟨h1, by simp [h1]⟩
  · by_cases h2 : nI hi < x
    · exact Or.inr (Or.inl ⟨h1, fun q => Int32.not_lt.mpr q h2, by simp [h2]⟩)
    · refine Or.inr (Or.inr ?_)
      have a1 : ¬ x.toInt < lo := by
        rw [← n_toInt hl]
        exact fun q => h1 (Int32.lt_iff_toInt_lt.mpr q)
      have a2 : ¬ (hi : Int) < x.toInt := by
        rw [← n_toInt (show hi < 2147483648 by omega)]
        exact fun q => h2 (Int32.lt_iff_toInt_lt.mpr q)
      refine ⟨x.toInt.toNat, by omega, by omega, ?_, by simp [h1, h2]⟩
      apply Int32.toInt_inj.mp
      rw [n_toInt (by omega)]
      omega
theorem ixl (x : Int32) (n : Nat) (h : n < 2147483648) : isIx x n = false ∨ ∃ i, i < n ∧ x = nI i ∧ isIx x n = true := by
  cases hx : isIx x n with
  | false => exact Or.inl rfl
  | true =>
    obtain ⟨i, hi, e⟩ := isIx_of h hx
    exact Or.inr ⟨i, hi, e, rfl⟩
theorem p6_isKind (x : Int32) : f_X6_isKind x = some (bI (isIx x 7)) := isPk_eq (p := 7) rfl
theorem p6_isShelf (x : Int32) : f_X6_isShelf x = some (bI (isIx x 8)) := isPk_eq (p := 8) rfl
theorem p6_isPlace (x : Int32) : f_X6_isPlace x = some (bI (isIx x 100)) := isPk_eq (p := 100) rfl
theorem p6_isA (x : Int32) : f_X6_isA x = some (bI (inR x 0 9)) := pM_within x 0 9
theorem p6_isHeight (x : Int32) : f_X6_isHeight x = some (bI (inR x 1 999)) := pM_within x 1 999
theorem w7_ix (x : Int32) : f_X7_within x (nI 0) (nI 6) = some (bI (isIx x 7)) := by rw [pM_within, inR_ix (by omega)]
theorem w7_sh (x : Int32) : f_X7_within x (nI 0) (nI 7) = some (bI (isIx x 8)) := by rw [pM_within, inR_ix (by omega)]
theorem p7_isYears (x : Int32) : f_X7_isYears x = some (bI (inR x 0 999)) := by
  unfold f_X7_isYears
  rw [show (0 : Int32) = nI 0 from rfl, show (999 : Int32) = nI 999 from rfl, pM_within, bd_s, isZ_gd]
theorem inR_t {v lo hi : Nat} (h1 : lo ≤ v) (h2 : v ≤ hi) (h3 : hi < 2147483648) : inR (nI v) lo hi = true := by
  unfold inR
  simp only [n_lt (show v < 2147483648 by omega) (show lo < 2147483648 by omega), n_lt h3 (show v < 2147483648 by omega)]
  have a1 : ¬ v < lo := by omega
  have a2 : ¬ hi < v := by omega
  simp [a1, a2]
theorem isIx_t {i n : Nat} (h : i < n) (hn : n < 2147483648) : isIx (nI i) n = true := by
  rw [isIx_n (by omega) hn, decide_eq_true h]
theorem q_clr (w m : Nat) : nI w &&& (nI m ^^^ mI) = nI (clr w m) := n_clr w m
theorem out_ne {x : Int32} {lo hi k : Nat} (h : inR x lo hi = false) (h1 : lo ≤ k) (h2 : k ≤ hi) (h3 : hi < 2147483648) : (x = nI k) = False := by
  apply propext
  refine ⟨fun e => ?_, False.elim⟩
  rw [e, inR_t h1 h2 h3] at h
  cases h
theorem nn_of {x : Int32} (h : ¬ x < nI 0) : ∃ v, v < 2147483648 ∧ x = nI v := by
  have h7 : ¬ x.toInt < 0 := fun q => h (Int32.lt_iff_toInt_lt.mpr q)
  have h8 : x.toInt < 2147483648 := x.toInt_lt
  refine ⟨x.toInt.toNat, by omega, ?_⟩
  apply Int32.toInt_inj.mp
  rw [n_toInt (by omega)]
  omega
