-- both sides: range
section RT
variable {B i0 L : Nat} {so r0 r1 : GS} {rw : Nat → GS} {re : Nat → Nat → Int64} {sv sm : GS} {sq : Nat → Int64} {g : AG}
theorem range_fail {f26 : Nat → Int32} (h : RepR g r0) (w : Wf B g) (hd : r0 0 17 = sm 0 18) (hs : Shs so rw re sm sq (aP g)) (hc : ∀ i, i < 8 → so 7 i = sm 21 i) (ht : Trc sv sm) (hi : Img B so r1 sm) (hB : B ≤ 19000000) (hh : HoldM g (sm 0 18) f26) {f n : Nat} {r2 se s : GS} {x3 x3' : Int32} (hf : f ≤ 160) (e1 : se 0 2 = nI f) (e2 : s 0 32 = nI f) (hk : SmK sm s) (h26 : s 26 = f26) : SimP (f_X6_range_J90 (nI i0) x3 so r0 r2 se) (f_X7_range_L39 sq (nI i0) (n + 1) x3' (0 : Int32) s) (fun x y => x.1 = y.1 ∧ Inv (B + 26000) x.2.1 x.2.2.1 r1 rw re sv y.2 sq) := by
  obtain ⟨t, t1, t2, t3, t4, t5⟩ := againM (B := B) (K := 26) (s := s2 s 0 (upd (s 0) 19 (nI f))) (sd := sm 0 18) (by omega) w.1 (by
    show HoldM g (sm 0 18) (s 26)
    rw [h26]; exact hh)
  obtain ⟨⟨k1, k2, k3, k4, k5⟩, k6, k7, k8⟩ := hk
  have I1 : Inv B (s2 so 0 (upd (so 0) 7 (nI f))) r0 r1 rw re sv t sq := by
    refine ⟨g, ⟨h, t2, w, hd.trans t3.symm⟩, ?_, fun i hi8 => ?_, fun i hi8 => ?_, ?_, ?_⟩
    · show upd (so 0) 7 (nI f) 7 = t 0 19
      rw [t5 19 rfl (by omega), pk_us]
      show nI f = upd (s 0) 19 (nI f) 19
      rw [pk_us]
    · obtain ⟨a, b⟩ := hs i hi8
      have e : t 1 = sm 1 := (t4 1 rfl).trans k1
      have e' : t 2 = sm 2 := (t4 2 rfl).trans k2
      refine ⟨?_, ShR_ne b rfl rfl rfl (by rw [e']) (fun _ _ => rfl)⟩
      rw [e]
      exact a
    · have e : t 21 = sm 21 := (t4 21 rfl).trans k3
      rw [e]
      exact hc i hi8
    · obtain ⟨y, y1, y2, y3, y4⟩ := ht
      have e : t 0 21 = sm 0 21 := (t5 21 rfl (by omega)).trans ((show upd (s 0) 19 (nI f) 21 = s 0 21 from pk_un (by omega)).trans k7)
      have e' : t 23 = sm 23 := (t4 23 rfl).trans k4
      exact ⟨y, y1, y2, by rw [e]; exact y3, fun i h1 h2 => by rw [e']; exact y4 i h1 h2⟩
    · obtain ⟨b, b1, b2, b3⟩ := hi
      have e : t 0 23 = sm 0 23 := (t5 23 rfl (by omega)).trans ((show upd (s 0) 19 (nI f) 23 = s 0 23 from pk_un (by omega)).trans k8)
      have e' : t 25 = sm 25 := (t4 25 rfl).trans k5
      refine ⟨b, ?_, by rw [e]; exact b2, fun hb => ?_⟩
      · show upd (so 0) 7 (nI f) 3 = bI b
        rw [pk_un (by omega)]; exact b1
      · obtain ⟨g1, q1, q2, q3⟩ := b3 hb
        exact ⟨g1, q1, by rw [e']; exact q2, q3⟩
  have es : (s2 so 0 (upd (so 0) 7 (nI f))) 0 7 = nI f := rfl
  unfold f_X6_range_J90
  rw [f_X7_range_L39.eq_2, e1, nm_s, nm_s, es, if_neg (show ¬ nI f = (-1 : Int32) by rw [n_m1 (by omega)]; exact id), if_pos zz32, e2, nm_s, nm_s, t1, bd_s, show (6 : Int32) = nI 6 from rfl, r6_ _ (by omega), r7_ _ (by omega), bd2_s, bd2_s]
  exact sim_i ⟨rfl, Inv_mono (Inv_ref I1 (by omega)) (by omega) (by omega)⟩
theorem range_good {g' : AG} (hd : r0 0 17 = sm 0 18) (hs : Shs so rw re sm sq (aP g)) (hc : ∀ i, i < 8 → so 7 i = sm 21 i) (ht : Trc sv sm) (hi : Img B so r1 sm) (hB : B ≤ 19000000) {r2 se s : GS} {x3 : Int32} (e1 : se 0 2 = mI) (hk : SmK sm s) (h18 : s 0 18 = sm 0 18) (h' : RepR g' r2) (m' : RepM g' s) (w' : Wf (B + 26000) g') (h17 : r2 0 17 = r0 0 17) (hP : aP g ≤ aP g') : SimP (f_X6_range_J90 (nI i0) x3 so r0 r2 se) (some (x3, s2 s 0 (upd (s 0) 19 mI))) (fun x y => x.1 = y.1 ∧ Inv (B + 26000) x.2.1 x.2.2.1 r1 rw re sv y.2 sq) := by
  obtain ⟨z, z1, z2, z3⟩ := pR_become (r := r0) h' w'.1
  obtain ⟨⟨k1, k2, k3, k4, k5⟩, k6, k7, k8⟩ := hk
  have es : (s2 so 0 (upd (so 0) 7 mI)) 0 7 = mI := rfl
  unfold f_X6_range_J90
  rw [e1, nm_s, nm_s, es, if_pos (show mI = (-1 : Int32) from rfl), z1, bd_s]
  refine sim_i ⟨rfl, g', ⟨z2, ⟨⟨m'.c0, m'.cs, m'.cv, m'.cy⟩, m'.2⟩, w', ?_⟩, ?_, fun i hi8 => ?_, fun i hi8 => ?_, ?_, ?_⟩
  · show z 0 17 = s 0 18
    rw [z3, h17, hd, h18]
  · show upd (so 0) 7 mI 7 = upd (s 0) 19 mI 19
    rw [pk_us, pk_us]
  · obtain ⟨a, b⟩ := hs i hi8
    refine ⟨?_, ?_⟩
    · show so 6 i = s 1 i
      rw [k1]; exact a
    · exact ShR_mono (so := s2 so 0 (upd (so 0) 7 mI)) (sm := s2 s 0 (upd (s 0) 19 mI)) (ShR_ne b rfl rfl rfl (congrFun k2 _) (fun _ _ => rfl)) hP rfl
  · show so 7 i = s 21 i
    rw [k3]; exact hc i hi8
  · obtain ⟨y, y1, y2, y3, y4⟩ := ht
    refine ⟨y, y1, y2, ?_, fun i h1 h2 => ?_⟩
    · show upd (s 0) 19 mI 21 = nI y
      rw [pk_un (by omega), k7]; exact y3
    · show sv 2 i = s 23 i
      rw [k4]; exact y4 i h1 h2
  · obtain ⟨b, b1, b2, b3⟩ := hi
    refine ⟨b, ?_, ?_, fun hb => ?_⟩
    · show upd (so 0) 7 mI 3 = bI b
      rw [pk_un (by omega)]; exact b1
    · show upd (s 0) 19 mI 23 = bI b
      rw [pk_un (by omega), k8]; exact b2
    · obtain ⟨g1, q1, q2, q3⟩ := b3 hb
      refine ⟨g1, q1, ?_, Wf.mono q3.1 (by omega) (by omega), q3.2⟩
      show HoldM g1 (r1 0 17) (s 25)
      rw [k5]; exact q2
theorem range_L {f26 : Nat → Int32} {s00 : GS} (h8 : i0 < 8) (h2 : rw i0 0 2 = nI L) (hL : L ≤ 160) (hq : ∀ j, j < L → re i0 j = sq (160 * i0 + j)) (h : RepR g r0) (w : Wf B g) (hd : r0 0 17 = sm 0 18) (hs : Shs so rw re sm sq (aP g)) (hc : ∀ i, i < 8 → so 7 i = sm 21 i) (ht : Trc sv sm) (hi : Img B so r1 sm) (hB : B ≤ 19000000) (hh : HoldM g (sm 0 18) f26) (hk : SmK sm s00) (h26 : s00 26 = f26) (h18 : s00 0 18 = sm 0 18) : ∀ (n it a : Nat) (g' : AG) (r2 se s : GS), (L - a) + 2 ≤ n → a ≤ L → 6 * it ≤ a → Wf (B + 999 * it) g' → RepR g' r2 → LkT g' s00 i0 L a 0 (fun _ => 0) s → se 0 1 = nI a → se 0 2 = mI → r2 0 17 = r0 0 17 → aP g ≤ aP g' → SimP (f_X6_range_L42 rw re (nI i0) (fun x3_26 r2_27 se_28 => f_X6_range_J90 (nI i0) x3_26 so r0 r2_27 se_28) (fun x3_42 r2_43 se_44 => f_X6_range_J90 (nI i0) x3_42 so r0 r2_43 se_44) n (nI it) r2 se) (f_X7_range_L39 sq (nI i0) n (nI it) (1 : Int32) s) (fun x y => x.1 = y.1 ∧ Inv (B + 26000) x.2.1 x.2.2.1 r1 rw re sv y.2 sq)
  | 0, it, a, g', r2, se, s, q1, _, _, _, _, _, _, _, _, _ => by omega
  | n + 1, it, a, g', r2, se, s, q1, q2, q3, w', h', hT, c1, c2, h17, hP => by
    have fl : ∀ (x3 : Int32) (r2' : GS) (f : Nat) (se' s' : GS), f ≤ 160 → se' 0 2 = nI f → s' 0 32 = nI f → FrS s00 s' → SimP (f_X6_range_J90 (nI i0) x3 so r0 r2' se') (f_X7_range_L39 sq (nI i0) n x3 (0 : Int32) s') (fun x y => x.1 = y.1 ∧ Inv (B + 26000) x.2.1 x.2.2.1 r1 rw re sv y.2 sq) := fun x3 r2' f se' s' a1 a2 a3 a4 => by
      obtain ⟨n', rfl⟩ : ∃ n', n = n' + 1 := ⟨n - 1, by omega⟩
      exact range_fail h w hd hs hc ht hi hB hh a1 a2 a3 (SmK_trans hk a4.1) (a4.2.2.trans h26)
    have hitem := item_j h8 h2 hL hq h' w' (show B + 999 * it + 999 ≤ 20000000 by omega) q2 c1 c2 hT
    rw [f_X6_range_L42.eq_2, f_X7_range_L39.eq_2, if_neg (show ¬ (160 : Int32) ≤ nI it by rw [show (160 : Int32) = nI 160 from rfl, n_le (by omega) (by omega)]; omega), n_tn (show i0 < 2147483648 by omega), if_neg one_nz]
    rcases hitem with ⟨f, se', s', f1, f2, f3, f4, f5, f6, f7⟩ | ⟨se', s', f2, f3, r2', g2, a', f4, f5, f6, f7, f8, f9, f10, f11, f12, f13, f14, f15⟩
    · rw [f2, f3, bd2_s, bd2_s, if_pos zz32, if_pos zz32]
      unfold f_X7_range_J58 f_X7_range_J83
      rw [if_pos zz32, if_pos zz32]
      exact fl _ _ f se' s' f1 f4 f5 f7
    · have w2 : Wf (B + 999 * (it + 1)) g2 := by rw [show B + 999 * (it + 1) = B + 999 * it + 999 by omega]; exact f9
      rw [f2, f3, bd2_s, bd2_s, if_neg one_nz, if_neg one_nz, f4, bd_s, nm_s, nm_s, n_s]
      unfold f_X4_goesOn f_X7_range_J58 f_X7_range_J83
      rw [h2, f14, ifc (n_le (by omega) (by omega)), if_neg one_nz, gd_t (n_inB h8 (by omega)), f6.2.1, n_tn (show i0 < 2147483648 by omega), f6.2.2, ifc (n_eq (by omega) (by omega))]
      by_cases hend : L ≤ a'
      · rw [if_pos hend, if_pos (show a' = L by omega), bd2_s, if_pos zz32, nm_s]
        exact range_good hd hs hc ht hi hB f15 (SmK_trans hk f8.1) (f8.2.1.trans h18) f5 f7 ⟨Wf.mono w2.1 (by omega) (by omega), w2.2⟩ (f10.trans h17) (Nat.le_trans hP f11)
      · rw [if_neg hend, if_neg (show ¬ a' = L by omega), if_neg one_nz]
        by_cases hh59 : a' < L ∧ cAt re i0 a' = (59 : Int32)
        · rw [pass_y h2 hL f14 hh59, is_y h8 hL hq f6.1 f6.2.1 f6.2.2 hh59, bd2_s, bd2_s, if_neg one_nz, bd2_s, if_neg one_nz]
          exact range_L h8 h2 hL hq h w hd hs hc ht hi hB hh hk h26 h18 n (it + 1) (a' + 1) g2 r2' (s2 se' 0 (upd (se' 0) 1 (nI (a' + 1)))) (s2 s' 0 (upd (s' 0) 32 (nI (a' + 1)))) (by omega) (by omega) (by omega) w2 f5 ⟨⟨f6.1, rfl, f6.2.2⟩, RepM_sl f7 (by omega), FrS_tr f8 (FrS_slot (by omega)), fun j hj => by omega⟩ rfl f15 (f10.trans h17) (Nat.le_trans hP f11)
        · rw [pass_n h2 hL f13 (by decide) f14 hh59, is_n h8 hL hq f13 (by decide) f6.1 f6.2.1 f6.2.2 hh59, bd2_s, bd2_s, if_pos zz32, bd2_s, if_pos zz32]
          exact fl _ _ a' _ s' (by omega) rfl f6.2.1 f8
theorem sim_range (I : Inv B so r0 r1 rw re sv sm sq) (hB : B ≤ 19000000) (r2 se : GS) (tn : Option Nat) (x1 : Int32) : SimP (f_X6_range so r0 r2 rw re tn se x1) (f_X7_range sm sq x1) (fun x y => x.1 = y.1 ∧ Inv (B + 26000) x.2.1 x.2.2.1 r1 rw re sv y.2 sq) := by
  have I0 := Inv_mono I (show B ≤ B + 26000 by omega) (by omega)
  obtain ⟨g, ⟨h, m, w, hd⟩, hf, hs, hc, ht, hi⟩ := I
  have hP := w.1.1.1
  unfold f_X6_range f_X7_range
  rcases noRow_c hs hP x1 with ⟨a1, a2⟩ | ⟨a1, a2⟩ | ⟨a1, a2⟩ | ⟨i, k, L, rfl, a1, a2, ⟨hi8, hk, hL⟩, ⟨c1, c2⟩, ⟨c3, c4, c5⟩, c6⟩
  · rw [a1, a2, bd_s, bd_s, if_neg (by decide), if_neg (by decide), r6_ _ (by omega), r7_1, bd2_s, bd2_s]
    exact sim_i ⟨rfl, Inv_ref I0 (by omega)⟩
  · rw [a1, a2, bd_s, bd_s, if_neg (by decide), if_neg (by decide), r6_ _ (by omega), r7_ _ (by omega), bd2_s, bd2_s]
    exact sim_i ⟨rfl, Inv_ref I0 (by omega)⟩
  · rw [a1, a2, bd_s, bd_s, if_neg (by decide), if_neg (by decide), r6_ _ (by omega), r7_ _ (by omega), bd2_s, bd2_s]
    exact sim_i ⟨rfl, Inv_ref I0 (by omega)⟩
  · obtain ⟨z, z1, z2, z3⟩ := pR_become (r := r2) h w.1
    obtain ⟨f, e1, e2, e3⟩ := keepM (B := B) (K := 26) (by omega) m
    have eb : f_X4_begin se = some (s2 (s2 se 0 (upd (se 0) 1 (0 : Int32))) 0 (upd ((s2 se 0 (upd (se 0) 1 (0 : Int32))) 0) 2 (-1 : Int32))) := rfl
    rw [a1, a2, bd_s, bd_s, if_pos z00, if_pos (show (0 : Int32) ≤ nI 0 by decide), z1, bd_s, gd_t (n_inB hi8 (by omega)), eb, bd_s, e1, bd_s, nm_s, nm_s]
    have k0 : SmK sm (s2 (s2 (s2 sm 26 f) 0 (upd ((s2 sm 26 f) 0) 31 (nI i))) 0 (upd ((s2 (s2 sm 26 f) 0 (upd ((s2 sm 26 f) 0) 31 (nI i))) 0) 32 (0 : Int32))) := SmK_trans (SmK_s2 (by omega)) (SmK_trans (SmK_slot (by omega) (by omega) (by omega)) (SmK_slot (by omega) (by omega) (by omega)))
    exact range_L hi8 c4 hL c6 h w hd hs hc ht hi hB e2 k0 rfl rfl FU 0 0 g z _ _ (by rw [FU_def]; omega) (Nat.zero_le _) (Nat.le_refl _) w z2 ⟨⟨rfl, rfl, c5⟩, RepM_sl (RepM_sl e3 (by omega)) (by omega), ⟨SmK_rfl _, rfl, rfl⟩, fun j hj => by omega⟩ rfl rfl z3 (Nat.le_refl _)
end RT
