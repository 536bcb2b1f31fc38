-- the reference: again
def AgS (s : GS) (K : Nat) (D : Nat → Bool) (t : GS) : Prop := (∀ i, i < 193 → D i = true → pkA t i = s K i) ∧ (∀ k, rgC k = false → t k = s k) ∧ (∀ j, rgS j = false → j ≠ 18 → t 0 j = s 0 j)
theorem AgS.le {s t : GS} {K : Nat} {D D' : Nat → Bool} (h : AgS s K D t) (h2 : ∀ i, i < 193 → D' i = true → D i = true) : AgS s K D' t := ⟨fun i hi hd => h.1 i hi (h2 i hi hd), h.2⟩
theorem AgS.rk {s t : GS} {K : Nat} {D : Nat → Bool} (h : AgS s K D t) (hK : 18 ≤ K) : t K = s K := by
  refine h.2.1 K ?_
  unfold rgC
  have h1 : (K == 0) = false := by simp; omega
  have h2 : decide (K ≤ 17) = false := by simp; omega
  rw [h1, h2, Bool.and_false]
  rfl
theorem AgS.set {s t : GS} {K : Nat} {D : Nat → Bool} (h : AgS s K D t) {x c k : Nat} {v : Int32} (hx : x < 193) (e : ixA x = (c, k)) (hv : v = s K x) (hc : rgC c = true) (h0 : c = 0 → rgS k = true ∨ k = 18) : AgS s K (fun i => D i || i == x) (s2 t c (upd (t c) k v)) := by
  refine ⟨fun i hi hd => ?_, fun j hj => ?_, fun j hj hj2 => ?_⟩
  · by_cases hix : i = x
    · rw [hix, pkA_of e, s2_eq, pk_us, hv]
    · have hne : ixA i ≠ (c, k) := fun q => hix (by rw [← posA_ix i hi, ← posA_ix x hx, q, e])
      have hb : (i == x) = false := by simpa using hix
      dsimp only at hd
      rw [hb, Bool.or_false] at hd
      rw [← h.1 i hi hd]
      unfold pkA
      by_cases h1 : (ixA i).1 = c
      · rw [h1, s2_eq, pk_un fun q => hne (Prod.ext h1 q)]
      · rw [s2_ne h1]
  · rw [s2_ne fun q => by rw [q, hc] at hj; cases hj]
    exact h.2.1 j hj
  · by_cases h1 : c = 0
    · subst h1
      rw [s2_eq, pk_un fun q => ?_]
      · exact h.2.2 j hj hj2
      · rcases h0 rfl with h3 | h3
        · rw [q, h3] at hj; cases hj
        · exact hj2 (q.trans h3)
    · rw [s2_ne (Ne.symm h1)]
      exact h.2.2 j hj hj2
theorem ag_ne {t : GS} {K c : Nat} {f : Nat → Int32} (hK : 18 ≤ K) (h : c < 18) : s2 t c f K = t K := s2_ne (by omega)
section AG1
variable {s : GS} {K : Nat}
theorem pM_again_L2 (hK : 18 ≤ K) (C : GS → Option GS) {Z : GS → Prop} (hC : ∀ t, AgS s K (fun i => decide (i < 60)) t → ∃ z, C t = some z ∧ Z z) : ∀ (n k : Nat) (t : GS), k ≤ 10 → 10 - k < n → AgS s K (fun i => decide (i < 60) && decide (i % 10 < k)) t → ∃ z, f_X7_again_L2 K C n (nI k) t = some z ∧ Z z
  | 0, k, t, _, h2, _ => by omega
  | n + 1, k, t, h1, h2, h3 => by
    rw [f_X7_again_L2.eq_2]
    by_cases hk : k < 10
    · have hr := h3.rk hK
      simp (disch := omega) only [nm_s, q_gt, q_inB, q_tn, l_10, l_20, l_30, l_40, l_50, l_1, q_add, q_le, if_neg, ag_ne hK]
      refine pM_again_L2 hK C hC n (k + 1) _ (by omega) (by omega) ?_
      refine ((((((h3.set (x := k) (c := 5) (k := k) (by omega) (ix5 k (by omega)) (congrFun hr _) rfl (fun q => by omega)).set (x := 10 + k) (c := 6) (k := k) (by omega) (ix6 k (by omega)) (congrFun hr _) rfl (fun q => by omega)).set (x := 20 + k) (c := 7) (k := k) (by omega) (ix7 k (by omega)) (congrFun hr _) rfl (fun q => by omega)).set (x := 30 + k) (c := 8) (k := k) (by omega) (ix8 k (by omega)) (congrFun hr _) rfl (fun q => by omega)).set (x := 40 + k) (c := 9) (k := k) (by omega) (ix9 k (by omega)) (congrFun hr _) rfl (fun q => by omega)).set (x := 50 + k) (c := 10) (k := k) (by omega) (ix10 k (by omega)) (congrFun hr _) rfl (fun q => by omega)).le (fun i hi hd => ?_)
      simp only [Bool.and_eq_true, Bool.or_eq_true, decide_eq_true_eq, beq_iff_eq] at hd ⊢
      omega
    · have : k = 10 := by omega
      subst this
      simp (disch := omega) only [l_10, q_le, if_pos]
      exact hC t (h3.le fun i hi hd => by
        simp only [Bool.and_eq_true, Bool.or_eq_true, decide_eq_true_eq] at hd ⊢
        omega)
theorem pM_again_L85 (hK : 18 ≤ K) (C : GS → Option GS) {Z : GS → Prop} (hC : ∀ t, AgS s K (fun i => decide (i < 160)) t → ∃ z, C t = some z ∧ Z z) : ∀ (n k : Nat) (t : GS), k ≤ 100 → 100 - k < n → AgS s K (fun i => decide (i < 60 + k)) t → ∃ z, f_X7_again_L85 K C n (nI k) t = some z ∧ Z z
  | 0, k, t, _, h2, _ => by omega
  | n + 1, k, t, h1, h2, h3 => by
    rw [f_X7_again_L85.eq_2]
    by_cases hk : k < 100
    · have hr := h3.rk hK
      simp (disch := omega) only [nm_s, q_gt, q_inB, q_tn, l_60, l_100, l_1, q_add, q_le, if_neg, ag_ne hK]
      refine pM_again_L85 hK C hC n (k + 1) _ (by omega) (by omega) ?_
      refine (h3.set (x := 60 + k) (c := 11) (k := k) (by omega) (ix11 k (by omega)) (congrFun hr _) rfl (fun q => by omega)).le (fun i hi hd => ?_)
      simp only [Bool.and_eq_true, Bool.or_eq_true, decide_eq_true_eq, beq_iff_eq] at hd ⊢
      omega
    · have : k = 100 := by omega
      subst this
      simp (disch := omega) only [l_100, q_le, if_pos]
      exact hC t (h3.le fun i hi hd => by
        simp only [Bool.and_eq_true, Bool.or_eq_true, decide_eq_true_eq] at hd ⊢
        omega)
theorem pM_again_L111 (hK : 18 ≤ K) (C : GS → Option GS) {Z : GS → Prop} (hC : ∀ t, AgS s K (fun i => decide (i < 172)) t → ∃ z, C t = some z ∧ Z z) : ∀ (n k : Nat) (t : GS), k ≤ 6 → 6 - k < n → AgS s K (fun i => decide (i < 160 + k) || (decide (166 ≤ i) && decide (i < 166 + k))) t → ∃ z, f_X7_again_L111 K C n (nI k) t = some z ∧ Z z
  | 0, k, t, _, h2, _ => by omega
  | n + 1, k, t, h1, h2, h3 => by
    rw [f_X7_again_L111.eq_2]
    by_cases hk : k < 6
    · have hr := h3.rk hK
      simp (disch := omega) only [nm_s, q_gt, q_inB, q_tn, l_160, l_166, l_6, l_1, q_add, q_le, if_neg, ag_ne hK]
      refine pM_again_L111 hK C hC n (k + 1) _ (by omega) (by omega) ?_
      refine ((h3.set (x := 160 + k) (c := 13) (k := k) (by omega) (ix13 k (by omega)) (congrFun hr _) rfl (fun q => by omega)).set (x := 166 + k) (c := 14) (k := k) (by omega) (ix14 k (by omega)) (congrFun hr _) rfl (fun q => by omega)).le (fun i hi hd => ?_)
      simp only [Bool.and_eq_true, Bool.or_eq_true, decide_eq_true_eq, beq_iff_eq] at hd ⊢
      omega
    · have : k = 6 := by omega
      subst this
      simp (disch := omega) only [l_6, q_le, if_pos]
      exact hC t (h3.le fun i hi hd => by
        simp only [Bool.and_eq_true, Bool.or_eq_true, decide_eq_true_eq] at hd ⊢
        omega)
theorem pM_again_L151 (hK : 18 ≤ K) (C : GS → Option GS) {Z : GS → Prop} (hC : ∀ t, AgS s K (fun i => decide (i < 188)) t → ∃ z, C t = some z ∧ Z z) : ∀ (n k : Nat) (t : GS), k ≤ 8 → 8 - k < n → AgS s K (fun i => decide (i < 172 + k) || (decide (180 ≤ i) && decide (i < 180 + k))) t → ∃ z, f_X7_again_L151 K C n (nI k) t = some z ∧ Z z
  | 0, k, t, _, h2, _ => by omega
  | n + 1, k, t, h1, h2, h3 => by
    rw [f_X7_again_L151.eq_2]
    by_cases hk : k < 8
    · have hr := h3.rk hK
      simp (disch := omega) only [nm_s, q_gt, q_inB, q_tn, l_172, l_180, l_8, l_1, q_add, q_le, if_neg, ag_ne hK]
      refine pM_again_L151 hK C hC n (k + 1) _ (by omega) (by omega) ?_
      refine ((h3.set (x := 172 + k) (c := 16) (k := k) (by omega) (ix16 k (by omega)) (congrFun hr _) rfl (fun q => by omega)).set (x := 180 + k) (c := 17) (k := k) (by omega) (ix17 k (by omega)) (congrFun hr _) rfl (fun q => by omega)).le (fun i hi hd => ?_)
      simp only [Bool.and_eq_true, Bool.or_eq_true, decide_eq_true_eq, beq_iff_eq] at hd ⊢
      omega
    · have : k = 8 := by omega
      subst this
      simp (disch := omega) only [l_8, q_le, if_pos]
      exact hC t (h3.le fun i hi hd => by
        simp only [Bool.and_eq_true, Bool.or_eq_true, decide_eq_true_eq] at hd ⊢
        omega)
theorem pM_again (hK : 18 ≤ K) : ∃ t, f_X7_again K s = some t ∧ (∀ i, i < 193 → pkA t i = s K i) ∧ (∀ k, rgC k = false → t k = s k) ∧ (∀ j, rgS j = false → j ≠ 18 → t 0 j = s 0 j) := by
  have h := pM_again_L2 (s := s) hK (fun sm_29 => f_X7_again_L85 K (fun sm_38 => f_X7_again_L111 K (fun sm_51 => f_X7_again_L151 K (fun sm_64 => nmd (sm_64 K (188 : Int32).toNatClampNeg) (fun u_65 => nmd (s2 sm_64 0 (upd (sm_64 0) 3 u_65)) (fun sm_66 => nmd (sm_66 K (189 : Int32).toNatClampNeg) (fun u_67 => nmd (s2 sm_66 0 (upd (sm_66 0) 11 u_67)) (fun sm_68 => nmd (sm_68 K (190 : Int32).toNatClampNeg) (fun u_69 => nmd (s2 sm_68 0 (upd (sm_68 0) 14 u_69)) (fun sm_70 => nmd (sm_70 K (191 : Int32).toNatClampNeg) (fun u_71 => nmd (s2 sm_70 0 (upd (sm_70 0) 17 u_71)) (fun sm_72 => nmd (sm_72 K (192 : Int32).toNatClampNeg) (fun u_73 => nmd (s2 sm_72 0 (upd (sm_72 0) 18 u_73)) (fun sm_74 => some sm_74))))))))))) FU (0 : Int32) sm_51) FU (0 : Int32) sm_38) FU (0 : Int32) sm_29) (Z := fun t => AgS s K (fun _ => true) t) (fun t1 h1 => ?_) 2000 0 s (by omega) (by omega) ⟨fun i hi hd => by
      simp only [Bool.and_eq_true, decide_eq_true_eq] at hd
      omega, fun _ _ => rfl, fun _ _ _ => rfl⟩
  · obtain ⟨z, e, hz⟩ := h
    exact ⟨z, e, fun i hi => hz.1 i hi rfl, hz.2⟩
  · refine pM_again_L85 hK _ (fun t2 h2 => ?_) 2000 0 t1 (by omega) (by omega) h1
    refine pM_again_L111 hK _ (fun t3 h3 => ?_) 2000 0 t2 (by omega) (by omega) (h2.le fun i hi hd => by
      simp only [Bool.and_eq_true, Bool.or_eq_true, decide_eq_true_eq] at hd ⊢
      omega)
    refine pM_again_L151 hK _ (fun t4 h4 => ?_) 2000 0 t3 (by omega) (by omega) (h3.le fun i hi hd => by
      simp only [Bool.and_eq_true, Bool.or_eq_true, decide_eq_true_eq] at hd ⊢
      omega)
    have hr := h4.rk hK
    simp (disch := omega) only [nm_s, q_tn, l_188, l_189, l_190, l_191, l_192, ag_ne hK]
    refine ⟨_, rfl, ?_⟩
    have h5 := ((((h4.set (x := 188) (by omega) (show ixA 188 = (0, 3) from rfl) (congrFun hr _) rfl (fun _ => Or.inl rfl)).set (x := 189) (by omega) (show ixA 189 = (0, 11) from rfl) (congrFun hr _) rfl (fun _ => Or.inl rfl)).set (x := 190) (by omega) (show ixA 190 = (0, 14) from rfl) (congrFun hr _) rfl (fun _ => Or.inl rfl)).set (x := 191) (by omega) (show ixA 191 = (0, 17) from rfl) (congrFun hr _) rfl (fun _ => Or.inl rfl)).set (x := 192) (by omega) (show ixA 192 = (0, 18) from rfl) (congrFun hr _) rfl (fun _ => Or.inr rfl)
    refine h5.le fun i hi _ => ?_
    simp only [Bool.and_eq_true, Bool.or_eq_true, decide_eq_true_eq, beq_iff_eq]
    omega
end AG1
theorem keepM {B : Nat} {g : AG} {s : GS} {K : Nat} (hK : 18 ≤ K) (h : RepM g s) : ∃ f, f_X7_keep K s = some (s2 s K f) ∧ HoldM g (s 0 18) f ∧ RepM g (s2 s K f) := by
  obtain ⟨f, e, hf⟩ := pM_keep (s := s) hK
  refine ⟨f, e, ⟨s, h, rfl, hf⟩, ?_⟩
  have e1 : ∀ k, k < 18 → s2 s K f k = s k := fun k hk => s2_ne (by omega)
  unfold RepM
  rw [e1 0 (by omega), e1 5 (by omega), e1 6 (by omega), e1 7 (by omega), e1 8 (by omega), e1 9 (by omega), e1 10 (by omega), e1 11 (by omega), e1 13 (by omega), e1 14 (by omega), e1 16 (by omega), e1 17 (by omega)]
  exact h
theorem againM {B : Nat} {g : AG} {s : GS} {K : Nat} {sd : Int32} (hK : 18 ≤ K) (w : WfN B g) (h : HoldM g sd (s K)) : ∃ t, f_X7_again K s = some t ∧ RepM g t ∧ t 0 18 = sd ∧ (∀ k, rgC k = false → t k = s k) ∧ (∀ j, rgS j = false → j ≠ 18 → t 0 j = s 0 j) := by
  obtain ⟨t, e, h1, h2, h3⟩ := pM_again (s := s) hK
  obtain ⟨s0, hr, hs, ha⟩ := h
  obtain ⟨h4, h5⟩ := RepM_pk w hr (s' := t) (fun i hi => (h1 i hi).trans (ha i hi))
  exact ⟨t, e, h4, h5.trans hs, h2, h3⟩
