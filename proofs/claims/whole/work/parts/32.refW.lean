-- the reference: looks, what comes, what is lost
def RepN (g : AG) (s : GS) : Prop :=
  (s 0 3 = nI (aP g) ∧ s 0 11 = nI (aS g) ∧ s 0 14 = nI (aV g) ∧ s 0 17 = nI (aY g)) ∧
  (∀ i, i < aP g → s 5 i = nI (g 1 i) ∧ s 6 i = nI (g 2 i) ∧ s 7 i = nI (g 3 i) ∧ s 8 i = nI (g 4 i) ∧ s 10 i = nI (g 5 i) ∧ s 9 i = bI (stB g i)) ∧
  (∀ i, i < aS g → s 13 i = nI (g 9 i) ∧ s 14 i = nI (g 10 i)) ∧
  (∀ i, i < aV g → s 16 i = nI (g 11 i) ∧ s 17 i = nI (g 12 i))
theorem RepM.toN {g : AG} {s : GS} (h : RepM g s) : RepN g s := ⟨h.1, h.2.1, h.2.2.2⟩
theorem RepN.no {g : AG} {s : GS} (h : RepN g s) : RepM (noSee g) (s2 s 11 (fun _ => mI)) := by
  refine ⟨h.1, h.2.1, fun i j hi hj => ?_, h.2.2⟩
  have : seB (noSee g) i j = false := Nat.zero_testBit j
  rw [this, if_neg ffl]
  rfl
theorem RepN.s11 {g : AG} {s : GS} (h : RepN g s) (f : Nat → Int32) : RepN g (s2 s 11 f) := h
theorem between_11 (s : GS) (f : Nat → Int32) (x y z : Int32) : f_X7_isBetween (s2 s 11 f) x y z = f_X7_isBetween s x y z := by
  unfold f_X7_isBetween
  simp only [s2_ne (show (7 : Nat) ≠ 11 by decide)]
theorem below_11 (s : GS) (f : Nat → Int32) (x y z u : Int32) : f_X7_isBelow (s2 s 11 f) x y z u = f_X7_isBelow s x y z u := by
  unfold f_X7_isBelow
  simp only [s2_ne (show (7 : Nat) ≠ 11 by decide), s2_ne (show (8 : Nat) ≠ 11 by decide)]
theorem could137_11 (s : GS) (f : Nat → Int32) (x y : Int32) : ∀ (n : Nat) (i : Int32), f_X7_couldSee_L137 (s2 s 11 f) x y n i = f_X7_couldSee_L137 s x y n i
  | 0, _ => rfl
  | n + 1, i => by
    rw [f_X7_couldSee_L137.eq_2, f_X7_couldSee_L137.eq_2]
    simp only [between_11, below_11, could137_11 s f x y n]
    rfl
theorem could73_11 (s : GS) (f : Nat → Int32) (x y : Int32) (K : Option Int32) : ∀ (n : Nat) (i : Int32), f_X7_couldSee_L73 (s2 s 11 f) x y K n i = f_X7_couldSee_L73 s x y K n i
  | 0, _ => rfl
  | n + 1, i => by
    rw [f_X7_couldSee_L73.eq_2, f_X7_couldSee_L73.eq_2]
    simp only [between_11, below_11, could73_11 s f x y K n]
    rfl
theorem could_11 (s : GS) (f : Nat → Int32) (x y : Int32) : f_X7_couldSee (s2 s 11 f) x y = f_X7_couldSee s x y := by
  unfold f_X7_couldSee
  simp only [could73_11, could137_11]
  rfl
theorem s2_s2 (s : GS) (k : Nat) (f h : Nat → Int32) : s2 (s2 s k f) k h = s2 s k h := by
  funext j
  unfold s2
  by_cases hj : j = k
  · rw [if_pos hj, if_pos hj]
  · rw [if_neg hj, if_neg hj, if_neg hj]
theorem s2_id (s : GS) (k : Nat) : s2 s k (s k) = s := by
  funext j
  unfold s2
  by_cases hj : j = k
  · rw [if_pos hj, hj]
  · rw [if_neg hj]
def oldS (g : AG) (i j : Nat) : Int32 := if seB g i j = true then nI (g 8 (10 * i + j)) else mI
def newS (g : AG) (i j : Nat) : Int32 := if visB g i j = true then nI (if seB g i j = true then g 8 (10 * i + j) else aY g) else mI
def LkM (g : AG) (f : Nat → Int32) (p q : Nat) : Prop := ∀ i j, i < aP g → j < aP g → f (10 * i + j) = if prc p q i j = true then newS g i j else oldS g i j
section RL2
variable {B : Nat} {g : AG} {s : GS}
theorem nm_could (h : RepN g s) (w : WfL B g) (f : Nat → Int32) {p o : Nat} (hp : p < aP g) (ho : o < aP g) : f_X7_couldSee (s2 s 11 f) (nI p) (nI o) = some (bI (visB g p o)) := by
  rw [could_11, ← could_11 s (fun _ => mI), pM_couldSee h.no (noSee_wf w) hp ho]
  rfl
theorem pM_looks_L12 (h : RepN g s) (w : WfL B g) {p : Nat} (hp : p < aP g) (K : GS → Option GS) {Z : GS → Prop} (hK : ∀ f, LkM g f (p + 1) 0 → ∃ z, K (s2 s 11 f) = some z ∧ Z z) : ∀ (n q : Nat) (f : Nat → Int32), q ≤ aP g → aP g - q < n → LkM g f p q → ∃ z, f_X7_looks_L12 (nI p) K n (nI q) (s2 s 11 f) = some z ∧ Z z
  | 0, q, f, _, h2, _ => by omega
  | n + 1, q, f, h1, h2, h3 => by
    have hP := w.1.1
    have hY := w.1.2.2.2
    have h0 : s2 s 11 f 0 3 = nI (aP g) := h.1.1
    have hy : s2 s 11 f 0 17 = nI (aY g) := h.1.2.2.2
    have h11 : s2 s 11 f 11 = f := rfl
    rw [f_X7_looks_L12.eq_2]
    by_cases hq : q < aP g
    · have hpos := h3 p q hp hq
      have hpr : prc p q p q = false := by unfold prc; simp
      rw [hpr, if_neg ffl] at hpos
      have next : ∀ f', (f' = upd f (10 * p + q) (newS g p q)) → ∃ z, f_X7_looks_L12 (nI p) K n (nI (q + 1)) (s2 s 11 f') = some z ∧ Z z := fun f' hf' =>
        pM_looks_L12 h w hp K hK n (q + 1) f' (by omega) (by omega) (fun i j hi hj => by
          rw [hf', prc_s]
          by_cases hij : i = p ∧ j = q
          · obtain ⟨rfl, rfl⟩ := hij
            rw [pk_us]
            simp
          · rw [pk_un (by omega), h3 i j hi hj]
            have : (decide (i = p) && decide (j = q)) = false := by simpa using hij
            rw [this, Bool.or_false])
      cases hv : visB g p q with
      | false =>
        simp (disch := omega) only [nm_s, bd_s, bd2_s, bd3_s, bd4_s, q_gt, q_inB, ↓q_m1, l_166, l_172, l_180, l_188, l_189, l_190, l_191, l_192, l_14, l_17, l_18, l_0, l_1, l_2, l_3, l_4, l_5, l_6, l_7, l_8, l_9, l_10, l_11, l_12, l_20, l_21, l_30, l_31, l_32, l_40, l_48, l_50, l_51, l_57, l_60, l_70, l_71, l_99, l_100, l_101, l_160, l_199, l_200, l_999, l_1000, q_tn, q_add, q_mul, q_sub, q_le, q_lt, q_eq, q_31, n_and, n_or, n_xor, q_shl, q_z, q_b0, q_b1, q_bz, q_em, q_me, q_mm, q_lm, q_ml, q_mle, q_lem, s2_eq, s2_ne, pk_us, pk_un, uN_s, uN_n, if_pos, if_neg, ite_true, ite_false, if_true, if_false, not_true, not_false_iff, Nat.add_zero, Nat.zero_add, h0, h11, nm_could h w, hv, bI_f]
        rw [s2_s2]
        refine next _ ?_
        unfold newS
        rw [hv, if_neg ffl]
      | true =>
        cases hs : seB g p q with
        | false =>
          have hold : f (10 * p + q) = mI := by rw [hpos]; unfold oldS; rw [hs, if_neg ffl]
          simp (disch := omega) only [nm_s, bd_s, bd2_s, bd3_s, bd4_s, q_gt, q_inB, ↓q_m1, l_166, l_172, l_180, l_188, l_189, l_190, l_191, l_192, l_14, l_17, l_18, l_0, l_1, l_2, l_3, l_4, l_5, l_6, l_7, l_8, l_9, l_10, l_11, l_12, l_20, l_21, l_30, l_31, l_32, l_40, l_48, l_50, l_51, l_57, l_60, l_70, l_71, l_99, l_100, l_101, l_160, l_199, l_200, l_999, l_1000, q_tn, q_add, q_mul, q_sub, q_le, q_lt, q_eq, q_31, n_and, n_or, n_xor, q_shl, q_z, q_b0, q_b1, q_bz, q_em, q_me, q_mm, q_lm, q_ml, q_mle, q_lem, s2_eq, s2_ne, pk_us, pk_un, uN_s, uN_n, if_pos, if_neg, ite_true, ite_false, if_true, if_false, not_true, not_false_iff, Nat.add_zero, Nat.zero_add, h0, h11, nm_could h w, hv, bI_t, hold, hy]
          rw [s2_s2]
          refine next _ ?_
          unfold newS
          rw [hv, if_pos rfl, hs, if_neg ffl]
        | true =>
          have h8 := w.2.2.1 p q hp hq hs
          have hold : f (10 * p + q) = nI (g 8 (10 * p + q)) := by rw [hpos]; unfold oldS; rw [hs, if_pos rfl]
          simp (disch := omega) only [nm_s, bd_s, bd2_s, bd3_s, bd4_s, q_gt, q_inB, ↓q_m1, l_166, l_172, l_180, l_188, l_189, l_190, l_191, l_192, l_14, l_17, l_18, l_0, l_1, l_2, l_3, l_4, l_5, l_6, l_7, l_8, l_9, l_10, l_11, l_12, l_20, l_21, l_30, l_31, l_32, l_40, l_48, l_50, l_51, l_57, l_60, l_70, l_71, l_99, l_100, l_101, l_160, l_199, l_200, l_999, l_1000, q_tn, q_add, q_mul, q_sub, q_le, q_lt, q_eq, q_31, n_and, n_or, n_xor, q_shl, q_z, q_b0, q_b1, q_bz, q_em, q_me, q_mm, q_lm, q_ml, q_mle, q_lem, s2_eq, s2_ne, pk_us, pk_un, uN_s, uN_n, if_pos, if_neg, ite_true, ite_false, if_true, if_false, not_true, not_false_iff, Nat.add_zero, Nat.zero_add, h0, h11, nm_could h w, hv, bI_t, hold]
          refine next f ?_
          have : newS g p q = f (10 * p + q) := by
            unfold newS
            rw [hv, if_pos rfl, hs, if_pos rfl, hold]
          rw [this]
          funext k
          by_cases hk : k = 10 * p + q
          · rw [hk, pk_us]
          · rw [pk_un hk]
    · have : q = aP g := by omega
      subst this
      simp (disch := omega) only [nm_s, bd_s, bd2_s, bd3_s, bd4_s, q_gt, q_inB, ↓q_m1, l_166, l_172, l_180, l_188, l_189, l_190, l_191, l_192, l_14, l_17, l_18, l_0, l_1, l_2, l_3, l_4, l_5, l_6, l_7, l_8, l_9, l_10, l_11, l_12, l_20, l_21, l_30, l_31, l_32, l_40, l_48, l_50, l_51, l_57, l_60, l_70, l_71, l_99, l_100, l_101, l_160, l_199, l_200, l_999, l_1000, q_tn, q_add, q_mul, q_sub, q_le, q_lt, q_eq, q_31, n_and, n_or, n_xor, q_shl, q_z, q_b0, q_b1, q_bz, q_em, q_me, q_mm, q_lm, q_ml, q_mle, q_lem, s2_eq, s2_ne, pk_us, pk_un, uN_s, uN_n, if_pos, if_neg, ite_true, ite_false, if_true, if_false, not_true, not_false_iff, Nat.add_zero, Nat.zero_add, h0]
      refine hK f (fun i j hi hj => ?_)
      rw [h3 i j hi hj]
      congr 1
      unfold prc
      by_cases h5 : i < p
      · have : i < p + 1 := by omega
        simp [h5, this]
      · by_cases h6 : i = p
        · have : i < p + 1 := by omega
          simp [h6, hj]
        · have : ¬ i < p + 1 := by omega
          simp [h5, h6, this]
theorem pM_looks_L2 (h : RepN g s) (w : WfL B g) : ∀ (n p : Nat) (f : Nat → Int32), p ≤ aP g → aP g - p < n → LkM g f p 0 → ∃ z, f_X7_looks_L2 n (nI p) (s2 s 11 f) = some z ∧ (∃ f', z = s2 s 11 f' ∧ LkM g f' (aP g) 0)
  | 0, p, f, _, h2, _ => by omega
  | n + 1, p, f, h1, h2, h3 => by
    have hP := w.1.1
    have h0 : s2 s 11 f 0 3 = nI (aP g) := h.1.1
    rw [f_X7_looks_L2.eq_2]
    by_cases hp : p < aP g
    · rw [h0, if_neg (by rw [n_le (by omega) (by omega)]; omega)]
      refine pM_looks_L12 h w hp _ (Z := fun z => ∃ f', z = s2 s 11 f' ∧ LkM g f' (aP g) 0) (fun f' h5 => ?_) 2000 0 f (by omega) (by omega) h3
      rw [nm_s, n_s]
      exact pM_looks_L2 h w n (p + 1) f' (by omega) (by omega) h5
    · have : p = aP g := by omega
      subst this
      rw [h0, if_pos (by rw [n_le (by omega) (by omega)]; omega)]
      exact ⟨_, rfl, f, rfl, h3⟩
theorem pM_looks (h : RepM g s) (w : WfL B g) : ∃ f, f_X7_looks s = some (s2 s 11 f) ∧ RepM (lookA g) (s2 s 11 f) := by
  have hP := w.1.1
  have h1 := pM_looks_L2 h.toN w 2000 0 (s 11) (by omega) (by omega) (fun i j hi hj => by
    have : prc 0 0 i j = false := by unfold prc; simp
    rw [this, if_neg ffl, h.c11 hi hj]
    rfl)
  rw [s2_id] at h1
  obtain ⟨z, e, f, rfl, hf⟩ := h1
  refine ⟨f, e, ⟨h.1, h.2.1, fun i j hi hj => ?_, h.2.2.2⟩⟩
  have hi2 : i < aP g := hi
  have hj2 : j < aP g := hj
  have hse : seB (lookA g) i j = visB g i j := by
    have : seB (lookA g) i j = (decide (j < aP g) && visB g i j) := msk_bit _ _ _
    rw [this, decide_eq_true hj2, Bool.true_and]
  have hpr : prc (aP g) 0 i j = true := by unfold prc; simp [hi2]
  show f (10 * i + j) = _
  rw [hf i j hi2 hj2, hpr, if_pos rfl, hse]
  unfold newS
  show _ = if visB g i j = true then nI (if seB g ((10 * i + j) / 10) ((10 * i + j) % 10) = true then _ else _) else mI
  rw [show (10 * i + j) / 10 = i by omega, show (10 * i + j) % 10 = j by omega]
theorem pM_look_then {α : Type} {K : GS → Option α} {Z : α → Prop} (h : RepM g s) (w : WfL B g) (hK : ∀ f, RepM (lookA g) (s2 s 11 f) → ∃ z, K (s2 s 11 f) = some z ∧ Z z) : ∃ z, bd (f_X7_looks s) K = some z ∧ Z z := by
  obtain ⟨f, e, h1⟩ := pM_looks h w
  rw [e, bd_s]
  exact hK f h1
end RL2
-- what a step on the range leaves alone
def rgC (k : Nat) : Bool := k == 0 || (decide (5 ≤ k) && decide (k ≤ 17))
def rgS (j : Nat) : Bool := j == 3 || (j == 11 || (j == 14 || j == 17))
def FrM (s s' : GS) : Prop := (∀ k, rgC k = false → s' k = s k) ∧ (∀ j, rgS j = false → s' 0 j = s 0 j)
theorem FrM_rfl (s : GS) : FrM s s := ⟨fun _ _ => rfl, fun _ _ => rfl⟩
theorem FrM_trans {a b c : GS} (h : FrM a b) (h2 : FrM b c) : FrM a c := ⟨fun k hk => (h2.1 k hk).trans (h.1 k hk), fun j hj => (h2.2 j hj).trans (h.2 j hj)⟩
theorem FrM_s2 {s : GS} {k : Nat} {f : Nat → Int32} (hk : rgC k = true) (h0 : k ≠ 0) : FrM s (s2 s k f) := by
  refine ⟨fun j hj => s2_ne fun e => ?_, fun j _ => ?_⟩
  · rw [e, hk] at hj; cases hj
  · rw [s2_ne (Ne.symm h0)]
theorem FrM_slot {s : GS} {j : Nat} {v : Int32} (hj : rgS j = true) : FrM s (s2 s 0 (upd (s 0) j v)) := by
  refine ⟨fun k hk => s2_ne fun e => ?_, fun i hi => ?_⟩
  · rw [e] at hk; cases hk
  · rw [s2_eq, pk_un fun e => by rw [e, hj] at hi; cases hi]
