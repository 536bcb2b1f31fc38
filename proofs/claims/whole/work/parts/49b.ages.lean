-- both sides: ages
theorem cnt_zero {f : Nat → Bool} : ∀ {n : Nat}, (∀ i, i < n → f i = false) → cntF f n = 0
  | 0, _ => rfl
  | n + 1, h => by rw [cntF_n (h n (by omega))]; exact cnt_zero fun i hi => h i (by omega)
section AG
variable {B : Nat} {g : AG} {so r0 r1 r s : GS} {rw : Nat → GS} {re : Nat → Nat → Int64} {sv sm : GS} {sq : Nat → Int64}
theorem cnt_st (w : WfN B g) : cntF (stB g) (aP g) = 0 ↔ aW g = 0 := by
  constructor
  · intro h
    by_cases h0 : aW g = 0
    · exact h0
    · have h1 := cnt_pos w.1.2.2.2.2.2 h0
      have h2 : cntF (aW g).testBit (aP g) = cntF (stB g) (aP g) := rfl
      omega
  · intro h
    refine cnt_zero fun i _ => ?_
    show (aW g).testBit i = false
    rw [h, Nat.zero_testBit]
theorem RepM_seed (m : RepM g s) (v : Int32) : RepM g (s2 s 0 (upd (s 0) 18 v)) := ⟨⟨m.c0, m.cs, m.cv, m.cy⟩, m.2⟩
theorem pM_draw (s : GS) {n : Nat} (h0 : 0 < n) (hn : n < 2147483648) : f_X7_draw s (nI n) = some (drv (drw (s 0 18)) (nI n), s2 s 0 (upd (s 0) 18 (drw (s 0 18)))) := by
  unfold f_X7_draw
  rw [nm_s, nm_s, gd_t (q_neB hn h0)]
  rfl
theorem pM_standingOne_L4 (h : RepM g s) (w : WfN B g) {i : Nat} (hi : i < cntF (stB g) (aP g)) : ∀ (n p : Nat), p ≤ aP g → aP g - p < n → cntF (stB g) p ≤ i → ∃ q, q < aP g ∧ stB g q = true ∧ cntF (stB g) q = i ∧ f_X7_standingOne_L4 s n (nI (i - cntF (stB g) p)) (nI p) = some (nI q)
  | 0, p, _, h2, _ => by omega
  | n + 1, p, h1, h2, h3 => by
    have hP := w.1.1
    have hc := cntF_le (stB g) p
    have hc2 := cntF_le (stB g) (aP g)
    rw [f_X7_standingOne_L4.eq_2]
    by_cases hp : p < aP g
    · cases hs : stB g p with
      | false =>
        have ih := pM_standingOne_L4 h w hi n (p + 1) (by omega) (by omega) (by rw [cntF_n hs]; exact h3)
        rw [cntF_n hs] at ih
        simp (disch := omega) only [nm_s, bd_s, bd2_s, bd3_s, bd4_s, q_gt, q_inB, ↓q_m1, l_166, l_172, l_180, l_188, l_189, l_190, l_191, l_192, l_14, l_17, l_18, l_0, l_1, l_2, l_3, l_4, l_5, l_6, l_7, l_8, l_9, l_10, l_11, l_12, l_20, l_21, l_30, l_31, l_32, l_40, l_48, l_50, l_51, l_57, l_60, l_70, l_71, l_99, l_100, l_101, l_160, l_199, l_200, l_999, l_1000, q_tn, q_add, q_mul, q_sub, q_le, q_lt, q_eq, q_31, n_and, n_or, n_xor, q_shl, q_z, q_b0, q_b1, q_bz, q_em, q_me, q_mm, q_lm, q_ml, q_mle, q_lem, s2_eq, s2_ne, pk_us, pk_un, uN_s, uN_n, if_pos, if_neg, ite_true, ite_false, if_true, if_false, not_true, not_false_iff, Nat.add_zero, Nat.zero_add, inR_t, isIx_t, bI_t, bI_f, neg1, q_clr, h.c0, h.c9, hs]
        exact ih
      | true =>
        by_cases he : cntF (stB g) p = i
        · refine ⟨p, hp, hs, he, ?_⟩
          simp (disch := omega) only [nm_s, bd_s, bd2_s, bd3_s, bd4_s, q_gt, q_inB, ↓q_m1, l_166, l_172, l_180, l_188, l_189, l_190, l_191, l_192, l_14, l_17, l_18, l_0, l_1, l_2, l_3, l_4, l_5, l_6, l_7, l_8, l_9, l_10, l_11, l_12, l_20, l_21, l_30, l_31, l_32, l_40, l_48, l_50, l_51, l_57, l_60, l_70, l_71, l_99, l_100, l_101, l_160, l_199, l_200, l_999, l_1000, q_tn, q_add, q_mul, q_sub, q_le, q_lt, q_eq, q_31, n_and, n_or, n_xor, q_shl, q_z, q_b0, q_b1, q_bz, q_em, q_me, q_mm, q_lm, q_ml, q_mle, q_lem, s2_eq, s2_ne, pk_us, pk_un, uN_s, uN_n, if_pos, if_neg, ite_true, ite_false, if_true, if_false, not_true, not_false_iff, Nat.add_zero, Nat.zero_add, inR_t, isIx_t, bI_t, bI_f, neg1, q_clr, h.c0, h.c9, hs]
        · have ih := pM_standingOne_L4 h w hi n (p + 1) (by omega) (by omega) (by rw [cntF_s hs]; omega)
          rw [cntF_s hs, show i - (cntF (stB g) p + 1) = i - cntF (stB g) p - 1 by omega] at ih
          simp (disch := omega) only [nm_s, bd_s, bd2_s, bd3_s, bd4_s, q_gt, q_inB, ↓q_m1, l_166, l_172, l_180, l_188, l_189, l_190, l_191, l_192, l_14, l_17, l_18, l_0, l_1, l_2, l_3, l_4, l_5, l_6, l_7, l_8, l_9, l_10, l_11, l_12, l_20, l_21, l_30, l_31, l_32, l_40, l_48, l_50, l_51, l_57, l_60, l_70, l_71, l_99, l_100, l_101, l_160, l_199, l_200, l_999, l_1000, q_tn, q_add, q_mul, q_sub, q_le, q_lt, q_eq, q_31, n_and, n_or, n_xor, q_shl, q_z, q_b0, q_b1, q_bz, q_em, q_me, q_mm, q_lm, q_ml, q_mle, q_lem, s2_eq, s2_ne, pk_us, pk_un, uN_s, uN_n, if_pos, if_neg, ite_true, ite_false, if_true, if_false, not_true, not_false_iff, Nat.add_zero, Nat.zero_add, inR_t, isIx_t, bI_t, bI_f, neg1, q_clr, h.c0, h.c9, hs, q_am]
          exact ih
    · have : p = aP g := by omega
      subst this
      omega
theorem sim_ages_L (so : GS) {N : Nat} (hN : N ≤ 200) : ∀ (n i lost : Nat) (g : AG) (B : Nat) (r s : GS), RepR g r → RepM g s → Wf B g → r 0 17 = s 0 18 → i ≤ N → N - i < n → B + (N - i) ≤ 20000000 → SimP (f_X6_ages_L23 (nI N) so n (nI lost) (nI i) r) (f_X7_ages_L22 (nI N) n (nI lost) (nI i) s) (fun x y => (x.1 = y.1 ∧ x.2.1 = so) ∧ ∃ g', (RepR g' x.2.2 ∧ RepM g' y.2 ∧ Wf (B + (N - i)) g') ∧ x.2.2 0 17 = y.2 0 18 ∧ SmK s y.2 ∧ aP g' = aP g)
  | 0, i, lost, g, B, r, s, _, _, _, _, _, h2, _ => by omega
  | n + 1, i, lost, g, B, r, s, h, m, w, hd, h1, h2, h3 => by
    have hP := w.1.1.1
    have hy := w.1.1.2.2.2.1
    rw [f_X6_ages_L23.eq_2, f_X7_ages_L22.eq_2]
    by_cases hi : i < N
    · have step : ∀ (lost' : Nat) (g2 : AG) (r2 s2' : GS), RepR g2 r2 → RepM g2 s2' → Wf B g2 → r2 0 17 = s2' 0 18 → SmK s s2' → aP g2 = aP g → aY g2 = aY g → SimP (f_X6_ages_J85 (nI lost') (nI i) r2 (f_X6_ages_L23 (nI N) so n)) (f_X7_ages_J63 (nI lost') (nI i) s2' (f_X7_ages_L22 (nI N) n)) (fun x y => (x.1 = y.1 ∧ x.2.1 = so) ∧ ∃ g', (RepR g' x.2.2 ∧ RepM g' y.2 ∧ Wf (B + (N - i)) g') ∧ x.2.2 0 17 = y.2 0 18 ∧ SmK s y.2 ∧ aP g' = aP g) := fun lost' g2 r2 s2' a1 a2 a3 a4 a5 a6 a7 => by
        unfold f_X6_ages_J85 f_X7_ages_J63
        have w2 : Wf (B + 1) (setY g2 (aY g2 + 1)) := ⟨setY_wf (Wf.mono a3.1 (by omega) (by omega)) (by omega) (by omega), setY_v a3.2⟩
        have ih := sim_ages_L so hN n (i + 1) lost' (setY g2 (aY g2 + 1)) (B + 1) (s2 r2 0 (upd (r2 0) 16 (nI (aY g2 + 1)))) (s2 s2' 0 (upd (s2' 0) 17 (nI (aY g2 + 1)))) ⟨⟨a1.c0, a1.c1, a1.cs, a1.cv, rfl⟩, a1.2⟩ (pM_setY a2) w2 a4 (by omega) (by omega) (by omega)
        rw [show B + 1 + (N - (i + 1)) = B + (N - i) by omega] at ih
        rw [a1.cy, a2.cy, nm_s, nm_s, nm_s, nm_s, nm_s, nm_s, n_s, n_s]
        obtain ⟨x, e1, y, e2, e3, g', e4, e5, e6, e7⟩ := ih
        exact ⟨x, e1, y, e2, e3, g', e4, e5, SmK_trans a5 (SmK_trans (SmK_slot (by omega) (by omega) (by omega)) e6), e7.trans a6⟩
      have c1 : ¬ nI N ≤ nI i := by rw [n_le (by omega) (by omega)]; omega
      obtain ⟨v, hv, ev⟩ := drv_n (drw (r 0 17)) (n := 20) (by omega) (by omega)
      have d6 := pR_draw r (n := 20) (by omega) (by omega)
      have d7 := pM_draw s (n := 20) (by omega) (by omega)
      rw [← hd] at d7
      rw [ev] at d6 d7
      have d6' : f_X3_draw r (20 : Int32) = some (nI v, s2 r 0 (upd (r 0) 17 (drw (r 0 17)))) := d6
      have d7' : f_X7_draw s (20 : Int32) = some (nI v, s2 s 0 (upd (s 0) 18 (drw (r 0 17)))) := d7
      have hr1 : RepR g (s2 r 0 (upd (r 0) 17 (drw (r 0 17)))) := RepR.seed h _
      have hm1 : RepM g (s2 s 0 (upd (s 0) 18 (drw (r 0 17)))) := RepM_seed m _
      have k1 : SmK s (s2 s 0 (upd (s 0) 18 (drw (r 0 17)))) := SmK_slot (by omega) (by omega) (by omega)
      rw [if_neg c1, if_neg c1, d6', d7', bd2_s, bd2_s]
      by_cases h0 : v = 0
      · rw [h0, if_pos z00, if_pos z00, hr1.c1]
        have hst := pM_standing hm1 w.1
        have hcl := cntF_le (stB g) (aP g)
        rw [hst, bd_s]
        by_cases hz : aW g = 0
        · have hz2 := (cnt_st w.1).mpr hz
          rw [hz, if_pos z00, hz2, if_pos (show nI 0 ≤ (0 : Int32) by decide)]
          exact step lost g _ _ hr1 hm1 w rfl k1 rfl rfl
        · have hz2 : ¬ cntF (stB g) (aP g) = 0 := fun e => hz ((cnt_st w.1).mp e)
          have hwl := Wf.wlt w.1
          have hbc : f_J6_bitCount_0f7a4 (nI (aW g)) = some (nI (cntF (stB g) (aP g))) := pc_of w.1.1.2.2.2.2.2 hP
          rw [if_neg (by rw [n_z (by omega)]; exact hz), hbc, bd_s, if_neg (by rw [n_le0 (by omega)]; exact hz2), bd_s]
          obtain ⟨v2, hv2, ev2⟩ := drv_n (drw (drw (r 0 17))) (n := cntF (stB g) (aP g)) (by omega) (by omega)
          have f6 := pR_draw (s2 r 0 (upd (r 0) 17 (drw (r 0 17)))) (n := cntF (stB g) (aP g)) (by omega) (by omega)
          have f7 := pM_draw (s2 s 0 (upd (s 0) 18 (drw (r 0 17)))) (n := cntF (stB g) (aP g)) (by omega) (by omega)
          have g6 : (s2 r 0 (upd (r 0) 17 (drw (r 0 17)))) 0 17 = drw (r 0 17) := rfl
          have g7 : (s2 s 0 (upd (s 0) 18 (drw (r 0 17)))) 0 18 = drw (r 0 17) := rfl
          rw [g6, ev2] at f6
          rw [g7, ev2] at f7
          have hr2 := RepR.seed hr1 (drw (drw (r 0 17)))
          have hm2 : RepM g (s2 (s2 s 0 (upd (s 0) 18 (drw (r 0 17)))) 0 (upd ((s2 s 0 (upd (s 0) 18 (drw (r 0 17)))) 0) 18 (drw (drw (r 0 17))))) := RepM_seed hm1 _
          obtain ⟨q, q1, q2, q3, q4⟩ := pR_standingAt hr2 w.1 (i := v2) hv2
          obtain ⟨q', p1, p2, p3, p4⟩ := pM_standingOne_L4 hm2 w.1 (i := v2) hv2 2000 0 (by omega) (by omega) (by show (0 : Nat) ≤ v2; omega)
          have hqq : q' = q := cntF_inj p2 q2 (p3.trans q3.symm)
          subst hqq
          have p4' : f_X7_standingOne (s2 (s2 s 0 (upd (s 0) 18 (drw (r 0 17)))) 0 (upd ((s2 s 0 (upd (s 0) 18 (drw (r 0 17)))) 0) 18 (drw (drw (r 0 17))))) (nI v2) = some (nI q') := p4
          obtain ⟨⟨x1, x2⟩, x3, x4, x5, x6⟩ := pR_lose hr2 w.1 q1
          obtain ⟨⟨y1, y2⟩, y3, y4, y5, y6⟩ := pM_loses hm2 w q1 p2
          dsimp only at x4 x5 x6 y4 y5 y6
          rw [f6, f7, bd2_s, bd2_s, q4, p4', bd_s, bd_s, x3, y3, bd2_s, bd2_s, nm_s, nm_s, n_s]
          refine step (lost + 1) (loseA g q') _ _ x5 y5 (loseA_wf w.1 q1) ?_ (SmK_trans k1 (SmK_trans (SmK_slot (by omega) (by omega) (by omega)) (SmK_fr y6))) rfl rfl
          rw [x6, y6.2 18 rfl]
          rfl
      · have c2 : ¬ nI v = (0 : Int32) := by rw [n_z (by omega)]; exact h0
        rw [if_neg c2, if_neg c2]
        exact step lost g _ _ hr1 hm1 w rfl k1 rfl rfl
    · have hiN : i = N := by omega
      subst hiN
      have c1 : nI i ≤ nI i := by rw [n_le (by omega) (by omega)]; omega
      rw [if_pos c1, if_pos c1, Nat.sub_self]
      exact sim_i ⟨⟨rfl, rfl⟩, g, ⟨h, m, w⟩, hd, SmK_rfl s, rfl⟩
theorem sim_ages (I : Inv B so r0 r1 rw re sv sm sq) (hB : B ≤ 19000000) (x1 : Int32) : SimP (f_X6_ages so r0 x1) (f_X7_ages sm x1) (fun x y => x.1 = y.1 ∧ Inv (B + 200) x.2.1 x.2.2 r1 rw re sv y.2 sq) := by
  have I0 := Inv_mono I (show B ≤ B + 200 by omega) (by omega)
  obtain ⟨g, ⟨h, m, w, hd⟩, hf, hs, hc, ht, hi⟩ := I
  unfold f_X6_ages f_X7_ages
  rcases in3 x1 1 200 (by omega) (by omega) with ⟨q1, q⟩ | ⟨q1, q2, q⟩ | ⟨N, hN1, hN, rfl, _⟩
  · simp (disch := omega) only [nm_s, bd_s, bd2_s, bd3_s, bd4_s, q_gt, q_inB, ↓q_m1, l_166, l_172, l_180, l_188, l_189, l_190, l_191, l_192, l_14, l_17, l_18, l_0, l_1, l_2, l_3, l_4, l_5, l_6, l_7, l_8, l_9, l_10, l_11, l_12, l_20, l_21, l_30, l_31, l_32, l_40, l_48, l_50, l_51, l_57, l_60, l_70, l_71, l_99, l_100, l_101, l_160, l_199, l_200, l_999, l_1000, q_tn, q_add, q_mul, q_sub, q_le, q_lt, q_eq, q_31, n_and, n_or, n_xor, q_shl, q_z, q_b0, q_b1, q_bz, q_em, q_me, q_mm, q_lm, q_ml, q_mle, q_lem, s2_eq, s2_ne, pk_us, pk_un, uN_s, uN_n, if_pos, if_neg, ite_true, ite_false, if_true, if_false, not_true, not_false_iff, Nat.add_zero, Nat.zero_add, inR_t, isIx_t, bI_t, bI_f, neg1, q_clr, q1, pM_within, q, f_X6_ages_J12, r6_, r7_]
    exact sim_i ⟨rfl, Inv_ref I0 (by omega)⟩
  · simp (disch := omega) only [nm_s, bd_s, bd2_s, bd3_s, bd4_s, q_gt, q_inB, ↓q_m1, l_166, l_172, l_180, l_188, l_189, l_190, l_191, l_192, l_14, l_17, l_18, l_0, l_1, l_2, l_3, l_4, l_5, l_6, l_7, l_8, l_9, l_10, l_11, l_12, l_20, l_21, l_30, l_31, l_32, l_40, l_48, l_50, l_51, l_57, l_60, l_70, l_71, l_99, l_100, l_101, l_160, l_199, l_200, l_999, l_1000, q_tn, q_add, q_mul, q_sub, q_le, q_lt, q_eq, q_31, n_and, n_or, n_xor, q_shl, q_z, q_b0, q_b1, q_bz, q_em, q_me, q_mm, q_lm, q_ml, q_mle, q_lem, s2_eq, s2_ne, pk_us, pk_un, uN_s, uN_n, if_pos, if_neg, ite_true, ite_false, if_true, if_false, not_true, not_false_iff, Nat.add_zero, Nat.zero_add, inR_t, isIx_t, bI_t, bI_f, neg1, q_clr, q1, q2, pM_within, q, f_X6_ages_J12, r6_, r7_]
    exact sim_i ⟨rfl, Inv_ref I0 (by omega)⟩
  · obtain ⟨x, e1, y, e2, ⟨e3, e4⟩, g', ⟨e5, e6, e7⟩, e8, e9, e10⟩ := sim_ages_L so hN FU 0 0 g B r0 sm h m w hd (by omega) (by rw [FU_def]; omega) (by omega)
    obtain ⟨x0, xs, xr⟩ := x
    dsimp only at e3 e4 e5 e8
    subst e4
    simp (disch := omega) only [nm_s, bd_s, bd2_s, bd3_s, bd4_s, q_gt, q_inB, ↓q_m1, l_166, l_172, l_180, l_188, l_189, l_190, l_191, l_192, l_14, l_17, l_18, l_0, l_1, l_2, l_3, l_4, l_5, l_6, l_7, l_8, l_9, l_10, l_11, l_12, l_20, l_21, l_30, l_31, l_32, l_40, l_48, l_50, l_51, l_57, l_60, l_70, l_71, l_99, l_100, l_101, l_160, l_199, l_200, l_999, l_1000, q_tn, q_add, q_mul, q_sub, q_le, q_lt, q_eq, q_31, n_and, n_or, n_xor, q_shl, q_z, q_b0, q_b1, q_bz, q_em, q_me, q_mm, q_lm, q_ml, q_mle, q_lem, s2_eq, s2_ne, pk_us, pk_un, uN_s, uN_n, if_pos, if_neg, ite_true, ite_false, if_true, if_false, not_true, not_false_iff, Nat.add_zero, Nat.zero_add, inR_t, isIx_t, bI_t, bI_f, neg1, q_clr, pM_within, e1, e2]
    exact sim_i ⟨e3, Inv_range hs hf hc ht hi (by omega) (by omega) e9 e5 e6 ⟨Wf.mono e7.1 (by omega) (by omega), e7.2⟩ e8 (by omega)⟩
end AG
