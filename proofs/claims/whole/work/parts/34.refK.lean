-- the reference: keep and again
def ixA (i : Nat) : Nat × Nat :=
  if i < 10 then (5, i - 0) else
  if i < 20 then (6, i - 10) else
  if i < 30 then (7, i - 20) else
  if i < 40 then (8, i - 30) else
  if i < 50 then (9, i - 40) else
  if i < 60 then (10, i - 50) else
  if i < 160 then (11, i - 60) else
  if i < 166 then (13, i - 160) else
  if i < 172 then (14, i - 166) else
  if i < 180 then (16, i - 172) else
  if i < 188 then (17, i - 180) else
  if i = 188 then (0, 3) else if i = 189 then (0, 11) else if i = 190 then (0, 14) else if i = 191 then (0, 17) else (0, 18)
def posA (p : Nat × Nat) : Nat :=
  if p.1 = 5 then 0 + p.2 else
  if p.1 = 6 then 10 + p.2 else
  if p.1 = 7 then 20 + p.2 else
  if p.1 = 8 then 30 + p.2 else
  if p.1 = 9 then 40 + p.2 else
  if p.1 = 10 then 50 + p.2 else
  if p.1 = 11 then 60 + p.2 else
  if p.1 = 13 then 160 + p.2 else
  if p.1 = 14 then 166 + p.2 else
  if p.1 = 16 then 172 + p.2 else
  if p.1 = 17 then 180 + p.2 else
  if p.2 = 3 then 188 else if p.2 = 11 then 189 else if p.2 = 14 then 190 else if p.2 = 17 then 191 else 192
theorem posA_ix : ∀ i, i < 193 → posA (ixA i) = i := by decide +kernel
def pkA (s : GS) (i : Nat) : Int32 := s (ixA i).1 (ixA i).2
theorem pkA_of {s : GS} {i c k : Nat} (h : ixA i = (c, k)) : pkA s i = s c k := by
  unfold pkA
  rw [h]
theorem ix5 : ∀ i, i < 10 → ixA (i) = (5, i) := by decide +kernel
theorem pkA5 {s : GS} {i : Nat} (h : i < 10) : pkA s (i) = s 5 i := pkA_of (ix5 i h)
theorem ix6 : ∀ i, i < 10 → ixA (10 + i) = (6, i) := by decide +kernel
theorem pkA6 {s : GS} {i : Nat} (h : i < 10) : pkA s (10 + i) = s 6 i := pkA_of (ix6 i h)
theorem ix7 : ∀ i, i < 10 → ixA (20 + i) = (7, i) := by decide +kernel
theorem pkA7 {s : GS} {i : Nat} (h : i < 10) : pkA s (20 + i) = s 7 i := pkA_of (ix7 i h)
theorem ix8 : ∀ i, i < 10 → ixA (30 + i) = (8, i) := by decide +kernel
theorem pkA8 {s : GS} {i : Nat} (h : i < 10) : pkA s (30 + i) = s 8 i := pkA_of (ix8 i h)
theorem ix9 : ∀ i, i < 10 → ixA (40 + i) = (9, i) := by decide +kernel
theorem pkA9 {s : GS} {i : Nat} (h : i < 10) : pkA s (40 + i) = s 9 i := pkA_of (ix9 i h)
theorem ix10 : ∀ i, i < 10 → ixA (50 + i) = (10, i) := by decide +kernel
theorem pkA10 {s : GS} {i : Nat} (h : i < 10) : pkA s (50 + i) = s 10 i := pkA_of (ix10 i h)
theorem ix11 : ∀ i, i < 100 → ixA (60 + i) = (11, i) := by decide +kernel
theorem pkA11 {s : GS} {i : Nat} (h : i < 100) : pkA s (60 + i) = s 11 i := pkA_of (ix11 i h)
theorem ix13 : ∀ i, i < 6 → ixA (160 + i) = (13, i) := by decide +kernel
theorem pkA13 {s : GS} {i : Nat} (h : i < 6) : pkA s (160 + i) = s 13 i := pkA_of (ix13 i h)
theorem ix14 : ∀ i, i < 6 → ixA (166 + i) = (14, i) := by decide +kernel
theorem pkA14 {s : GS} {i : Nat} (h : i < 6) : pkA s (166 + i) = s 14 i := pkA_of (ix14 i h)
theorem ix16 : ∀ i, i < 8 → ixA (172 + i) = (16, i) := by decide +kernel
theorem pkA16 {s : GS} {i : Nat} (h : i < 8) : pkA s (172 + i) = s 16 i := pkA_of (ix16 i h)
theorem ix17 : ∀ i, i < 8 → ixA (180 + i) = (17, i) := by decide +kernel
theorem pkA17 {s : GS} {i : Nat} (h : i < 8) : pkA s (180 + i) = s 17 i := pkA_of (ix17 i h)
theorem pkA_P (s : GS) : pkA s 188 = s 0 3 := rfl
theorem pkA_S (s : GS) : pkA s 189 = s 0 11 := rfl
theorem pkA_V (s : GS) : pkA s 190 = s 0 14 := rfl
theorem pkA_Y (s : GS) : pkA s 191 = s 0 17 := rfl
theorem pkA_D (s : GS) : pkA s 192 = s 0 18 := rfl
-- what an array holds of a range
def HoldM (g : AG) (sd : Int32) (a : Nat → Int32) : Prop := ∃ s0, RepM g s0 ∧ s0 0 18 = sd ∧ ∀ i, i < 193 → a i = pkA s0 i
theorem RepM_pk {B : Nat} {g : AG} {s s' : GS} (w : WfN B g) (h : RepM g s) (e : ∀ i, i < 193 → pkA s' i = pkA s i) : RepM g s' ∧ s' 0 18 = s 0 18 := by
  have hP := w.1.1
  have hS := w.1.2.1
  have hV := w.1.2.2.1
  refine ⟨⟨⟨(e 188 (by omega)).trans h.c0, (e 189 (by omega)).trans h.cs, (e 190 (by omega)).trans h.cv, (e 191 (by omega)).trans h.cy⟩, fun i hi => ⟨?_, ?_, ?_, ?_, ?_, ?_⟩, fun i j hi hj => ?_, fun i hi => ⟨?_, ?_⟩, fun i hi => ⟨?_, ?_⟩⟩, e 192 (by omega)⟩
  · rw [← pkA5 (s := s') (show i < 10 by omega), e _ (by omega), pkA5 (by omega)]; exact h.c5 hi
  · rw [← pkA6 (s := s') (show i < 10 by omega), e _ (by omega), pkA6 (by omega)]; exact h.c6 hi
  · rw [← pkA7 (s := s') (show i < 10 by omega), e _ (by omega), pkA7 (by omega)]; exact h.c7 hi
  · rw [← pkA8 (s := s') (show i < 10 by omega), e _ (by omega), pkA8 (by omega)]; exact h.c8 hi
  · rw [← pkA10 (s := s') (show i < 10 by omega), e _ (by omega), pkA10 (by omega)]; exact h.c10 hi
  · rw [← pkA9 (s := s') (show i < 10 by omega), e _ (by omega), pkA9 (by omega)]; exact h.c9 hi
  · rw [← pkA11 (s := s') (show 10 * i + j < 100 by omega), e _ (by omega), pkA11 (by omega)]; exact h.2.2.1 i j hi hj
  · rw [← pkA13 (s := s') (show i < 6 by omega), e _ (by omega), pkA13 (by omega)]; exact h.c13 hi
  · rw [← pkA14 (s := s') (show i < 6 by omega), e _ (by omega), pkA14 (by omega)]; exact h.c14 hi
  · rw [← pkA16 (s := s') (show i < 8 by omega), e _ (by omega), pkA16 (by omega)]; exact h.c16 hi
  · rw [← pkA17 (s := s') (show i < 8 by omega), e _ (by omega), pkA17 (by omega)]; exact h.c17 hi
-- what keep has done so far: the first n of those marked
def KpS (s : GS) (K : Nat) (D : Nat → Bool) (f : Nat → Int32) : Prop := ∀ i, i < 193 → D i = true → f i = pkA s i
theorem KpS.up {s : GS} {K : Nat} {D D' : Nat → Bool} {f f' : Nat → Int32} (h : KpS s K D f) (h2 : ∀ i, i < 193 → D' i = true → (D i = true ∧ f' i = f i) ∨ f' i = pkA s i) : KpS s K D' f' := fun i hi hd => by
  rcases h2 i hi hd with ⟨a, b⟩ | a
  · rw [b]; exact h i hi a
  · exact a
theorem KpS.set {s : GS} {K : Nat} {D : Nat → Bool} {f : Nat → Int32} {x : Nat} {v : Int32} (h : KpS s K D f) (hv : v = pkA s x) : KpS s K (fun i => D i || i == x) (upd f x v) := fun i hi hd => by
  by_cases hx : i = x
  · rw [hx, pk_us]; exact hv
  · rw [pk_un hx]
    have : (i == x) = false := by simpa using hx
    dsimp only at hd
    rw [this, Bool.or_false] at hd
    exact h i hi hd
theorem KpS.le {s : GS} {K : Nat} {D D' : Nat → Bool} {f : Nat → Int32} (h : KpS s K D f) (h2 : ∀ i, i < 193 → D' i = true → D i = true) : KpS s K D' f := fun i hi hd => h i hi (h2 i hi hd)
section KP
variable {s : GS} {K : Nat}
theorem kp_ne (hK : 18 ≤ K) {f : Nat → Int32} {k : Nat} (h : k < 18) : s2 s K f k = s k := s2_ne (by omega)
theorem pM_keep_L2 (hK : 18 ≤ K) (C : GS → Option GS) {Z : GS → Prop} (hC : ∀ f, KpS s K (fun i => decide (i < 60)) f → ∃ z, C (s2 s K f) = some z ∧ Z z) : ∀ (n k : Nat) (f : Nat → Int32), k ≤ 10 → 10 - k < n → KpS s K (fun i => decide (i < 60) && decide (i % 10 < k)) f → ∃ z, f_X7_keep_L2 K C n (nI k) (s2 s K f) = some z ∧ Z z
  | 0, k, f, _, h2, _ => by omega
  | n + 1, k, f, h1, h2, h3 => by
    rw [f_X7_keep_L2.eq_2]
    by_cases hk : k < 10
    · simp (disch := omega) only [nm_s, q_gt, q_inB, q_tn, l_10, l_20, l_30, l_40, l_50, l_1, q_add, q_le, if_neg, s2_s2, s2_eq, kp_ne hK]
      refine pM_keep_L2 hK C hC n (k + 1) _ (by omega) (by omega) ?_
      refine ((((((h3.set (pkA5 (by omega)).symm).set (pkA6 (by omega)).symm).set (pkA7 (by omega)).symm).set (pkA8 (by omega)).symm).set (pkA9 (by omega)).symm).set (pkA10 (by omega)).symm).le (fun i hi hd => ?_)
      simp only [Bool.and_eq_true, Bool.or_eq_true, decide_eq_true_eq, beq_iff_eq] at hd ⊢
      omega
    · have : k = 10 := by omega
      subst this
      simp (disch := omega) only [l_10, q_le, if_pos]
      exact hC f (h3.le fun i hi hd => by
        simp only [Bool.and_eq_true, decide_eq_true_eq] at hd ⊢
        omega)
theorem pM_keep_L85 (hK : 18 ≤ K) (C : GS → Option GS) {Z : GS → Prop} (hC : ∀ f, KpS s K (fun i => decide (i < 160)) f → ∃ z, C (s2 s K f) = some z ∧ Z z) : ∀ (n k : Nat) (f : Nat → Int32), k ≤ 100 → 100 - k < n → KpS s K (fun i => decide (i < 60 + k)) f → ∃ z, f_X7_keep_L85 K C n (nI k) (s2 s K f) = some z ∧ Z z
  | 0, k, f, _, h2, _ => by omega
  | n + 1, k, f, h1, h2, h3 => by
    rw [f_X7_keep_L85.eq_2]
    by_cases hk : k < 100
    · simp (disch := omega) only [nm_s, q_gt, q_inB, q_tn, l_60, l_100, l_1, q_add, q_le, if_neg, s2_s2, s2_eq, kp_ne hK]
      refine pM_keep_L85 hK C hC n (k + 1) _ (by omega) (by omega) ?_
      refine (h3.set (pkA11 (by omega)).symm).le (fun i hi hd => ?_)
      simp only [Bool.and_eq_true, Bool.or_eq_true, decide_eq_true_eq, beq_iff_eq] at hd ⊢
      omega
    · have : k = 100 := by omega
      subst this
      simp (disch := omega) only [l_100, q_le, if_pos]
      exact hC f h3
theorem pM_keep_L111 (hK : 18 ≤ K) (C : GS → Option GS) {Z : GS → Prop} (hC : ∀ f, KpS s K (fun i => decide (i < 172)) f → ∃ z, C (s2 s K f) = some z ∧ Z z) : ∀ (n k : Nat) (f : Nat → Int32), k ≤ 6 → 6 - k < n → KpS s K (fun i => decide (i < 160 + k) || (decide (166 ≤ i) && decide (i < 166 + k))) f → ∃ z, f_X7_keep_L111 K C n (nI k) (s2 s K f) = some z ∧ Z z
  | 0, k, f, _, h2, _ => by omega
  | n + 1, k, f, h1, h2, h3 => by
    rw [f_X7_keep_L111.eq_2]
    by_cases hk : k < 6
    · simp (disch := omega) only [nm_s, q_gt, q_inB, q_tn, l_160, l_166, l_6, l_1, q_add, q_le, if_neg, s2_s2, s2_eq, kp_ne hK]
      refine pM_keep_L111 hK C hC n (k + 1) _ (by omega) (by omega) ?_
      refine ((h3.set (pkA13 (by omega)).symm).set (pkA14 (by omega)).symm).le (fun i hi hd => ?_)
      simp only [Bool.and_eq_true, Bool.or_eq_true, decide_eq_true_eq, beq_iff_eq] at hd ⊢
      omega
    · have : k = 6 := by omega
      subst this
      simp (disch := omega) only [l_6, q_le, if_pos]
      exact hC f (h3.le fun i hi hd => by
        simp only [Bool.and_eq_true, Bool.or_eq_true, decide_eq_true_eq] at hd ⊢
        omega)
theorem pM_keep_L151 (hK : 18 ≤ K) (C : GS → Option GS) {Z : GS → Prop} (hC : ∀ f, KpS s K (fun i => decide (i < 188)) f → ∃ z, C (s2 s K f) = some z ∧ Z z) : ∀ (n k : Nat) (f : Nat → Int32), k ≤ 8 → 8 - k < n → KpS s K (fun i => decide (i < 172 + k) || (decide (180 ≤ i) && decide (i < 180 + k))) f → ∃ z, f_X7_keep_L151 K C n (nI k) (s2 s K f) = some z ∧ Z z
  | 0, k, f, _, h2, _ => by omega
  | n + 1, k, f, h1, h2, h3 => by
    rw [f_X7_keep_L151.eq_2]
    by_cases hk : k < 8
    · simp (disch := omega) only [nm_s, q_gt, q_inB, q_tn, l_172, l_180, l_8, l_1, q_add, q_le, if_neg, s2_s2, s2_eq, kp_ne hK]
      refine pM_keep_L151 hK C hC n (k + 1) _ (by omega) (by omega) ?_
      refine ((h3.set (pkA16 (by omega)).symm).set (pkA17 (by omega)).symm).le (fun i hi hd => ?_)
      simp only [Bool.and_eq_true, Bool.or_eq_true, decide_eq_true_eq, beq_iff_eq] at hd ⊢
      omega
    · have : k = 8 := by omega
      subst this
      simp (disch := omega) only [l_8, q_le, if_pos]
      exact hC f (h3.le fun i hi hd => by
        simp only [Bool.and_eq_true, Bool.or_eq_true, decide_eq_true_eq] at hd ⊢
        omega)
theorem pM_keep (hK : 18 ≤ K) : ∃ f, f_X7_keep K s = some (s2 s K f) ∧ ∀ i, i < 193 → f i = pkA s i := by
  have h := pM_keep_L2 (s := s) hK (fun sm_29 => f_X7_keep_L85 K (fun sm_38 => f_X7_keep_L111 K (fun sm_51 => f_X7_keep_L151 K (fun sm_64 => nmd (sm_64 0 3) (fun u_65 => nmd (s2 sm_64 K (upd (sm_64 K) (188 : Int32).toNatClampNeg u_65)) (fun sm_66 => nmd (sm_66 0 11) (fun u_67 => nmd (s2 sm_66 K (upd (sm_66 K) (189 : Int32).toNatClampNeg u_67)) (fun sm_68 => nmd (sm_68 0 14) (fun u_69 => nmd (s2 sm_68 K (upd (sm_68 K) (190 : Int32).toNatClampNeg u_69)) (fun sm_70 => nmd (sm_70 0 17) (fun u_71 => nmd (s2 sm_70 K (upd (sm_70 K) (191 : Int32).toNatClampNeg u_71)) (fun sm_72 => nmd (sm_72 0 18) (fun u_73 => nmd (s2 sm_72 K (upd (sm_72 K) (192 : Int32).toNatClampNeg u_73)) (fun sm_74 => some sm_74))))))))))) FU (0 : Int32) sm_51) FU (0 : Int32) sm_38) FU (0 : Int32) sm_29) (Z := fun z => ∃ f, z = s2 s K f ∧ ∀ i, i < 193 → f i = pkA s i) (fun f1 h1 => ?_) 2000 0 (s K) (by omega) (by omega) (fun i hi hd => by
      simp only [Bool.and_eq_true, decide_eq_true_eq] at hd
      omega)
  · rw [s2_id] at h
    obtain ⟨z, e, f, rfl, hf⟩ := h
    exact ⟨f, e, hf⟩
  · refine pM_keep_L85 hK _ (fun f2 h2 => ?_) 2000 0 f1 (by omega) (by omega) h1
    refine pM_keep_L111 hK _ (fun f3 h3 => ?_) 2000 0 f2 (by omega) (by omega) (h2.le fun i hi hd => by
      simp only [Bool.and_eq_true, Bool.or_eq_true, decide_eq_true_eq] at hd ⊢
      omega)
    refine pM_keep_L151 hK _ (fun f4 h4 => ?_) 2000 0 f3 (by omega) (by omega) (h3.le fun i hi hd => by
      simp only [Bool.and_eq_true, Bool.or_eq_true, decide_eq_true_eq] at hd ⊢
      omega)
    simp (disch := omega) only [nm_s, q_tn, l_188, l_189, l_190, l_191, l_192, s2_s2, s2_eq, kp_ne hK]
    refine ⟨_, rfl, _, rfl, ?_⟩
    have h5 := ((((h4.set (x := 188) (pkA_P s).symm).set (x := 189) (pkA_S s).symm).set (x := 190) (pkA_V s).symm).set (x := 191) (pkA_Y s).symm).set (x := 192) (pkA_D s).symm
    intro i hi
    refine h5 i hi ?_
    simp only [Bool.and_eq_true, Bool.or_eq_true, decide_eq_true_eq, beq_iff_eq]
    omega
end KP
