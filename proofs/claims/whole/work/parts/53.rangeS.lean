-- both sides: an item of a text, whole; the text
section IP
variable {B i0 L : Nat} {g : AG} {s0 r2 : GS} {rw : Nat → GS} {re : Nat → Nat → Int64} {sq : Nat → Int64}
theorem it_peak (h8 : i0 < 8) (h2 : rw i0 0 2 = nI L) (hL : L ≤ 160) (hq : ∀ j, j < L → re i0 j = sq (160 * i0 + j)) (h : RepR g r2) (w : Wf B g) (hB : B + 999 ≤ 20000000) (hroom : aP g < 10) {a b : Nat} {ns : Nat → Nat} {se s : GS} (hb : a + 4 ≤ b) (hbL : b ≤ L) (hC : LkC 0 b 0 ns se) (hM : LkT g s0 i0 L b 0 ns s) : ResO g s0 (ItG B L a g s0 r2 i0) (KW rw re i0 r2 a se) (bd2 (f_X7_number s sq (0 : Int32) (0 : Int32) (6 : Int32)) (fun r_11 sm_12 => if r_11 = 0 then (some ((0 : Int32), sm_12)) else (bd2 (f_X7_number sm_12 sq (1 : Int32) (0 : Int32) (9 : Int32)) (fun r_15 sm_16 => if r_15 = 0 then (some ((0 : Int32), sm_16)) else (nmd ((sm_16 0 32) + (1 : Int32)) (fun u_19 => bd2 (f_X7_number sm_16 sq (2 : Int32) (0 : Int32) (99 : Int32)) (fun r_20 sm_21 => if r_20 = 0 then (some ((0 : Int32), sm_21)) else (bd (f_X7_isTaken sm_21 (sm_21 34 (2 : Int32).toNatClampNeg)) (fun r_24 => if r_24 = 0 then (f_X7_item_J145 sq sm_21 u_19 (1 : Int32)) else (f_X7_item_J145 sq sm_21 u_19 (0 : Int32))))))))))) := by
  have hP := w.1.1.1
  have hr : f_X4_hasRoom se r2 = some (1 : Int32) := by
    unfold f_X4_hasRoom
    rw [hC.2.2.1, if_pos (by decide), h.c0, if_neg (by rw [show (10 : Int32) = nI 10 from rfl, n_le (by omega) (by omega)]; omega)]
  obtain ⟨m, hm⟩ : ∃ m, FU = m + 6 := ⟨1994, rfl⟩
  unfold KW
  rw [hr, bd_s, if_neg one_nz, hm, L88_0 (by omega) hC.2.2.1 (by decide)]
  refine num_j h8 h2 hL hq (i := 0) hC hM hbL (by omega) (fun v => isIx (nI v) 7) (fun _ => true) (fun se' h3 v hv => ?_) (fun v hv => ?_) (fun _ _ _ _ _ hx => by cases hx) (fun v a' se' s' hv ho _ hl1 hl2 hC' hM' => ?_)
  · unfold f_X4_mayBe f_X4_mayBeOfPeak
    rw [h3, if_pos (by decide), if_pos (by decide), p6_isKind, bd_s, isZ_gd, bd_s, isZ_gd, Bool.and_true]
  · rw [show (6 : Int32) = nI 6 from rfl, z0i, w_n, inR_ix (by omega)]
  · have hv7 : v < 7 := by rw [isIx_n (by omega) (by omega)] at ho; exact of_decide_eq_true ho
    try dsimp only
    rw [L88_s (by omega) hC'.2.2.1 (by omega) (by decide)]
    refine num_j h8 h2 hL hq (i := 1) hC' hM' hl2 (by omega) (fun v => inR (nI v) 0 9) (fun _ => true) (fun se' h3 v hv => ?_) (fun v hv => w_n (lo := 0) (hi := 9)) (fun _ _ _ _ _ hx => by cases hx) (fun p a2 se2 s2' hp2 ho2 _ hl3 hl4 hC2 hM2 => ?_)
    · unfold f_X4_mayBe f_X4_mayBeOfPeak
      rw [h3, if_pos (by decide), if_neg (by decide), if_pos (by decide), p6_isA, bd_s, isZ_gd, bd_s, isZ_gd, Bool.and_true]
    · have hp10 : p < 10 := by
        rw [inR_ix (by omega), isIx_n (by omega) (by omega)] at ho2
        exact of_decide_eq_true ho2
      try dsimp only
      rw [L88_s (by omega) hC2.2.2.1 (by omega) (by decide), hM2.1.2.1, n_s, nm_s]
      refine num_j h8 h2 hL hq (i := 2) hC2 hM2 hl4 (by omega) (fun v => isIx (nI v) 100) (fun v => !anyF (fun j => decide (g 3 j = v)) (aP g)) (fun se' h3 v hv => ?_) (fun v hv => ?_) (fun x a3 s3 hx2 hox hex hlx hM3 => ?_) (fun x a3 se3 s3 hx2 hox hex hl5 hl6 hC3 hM3 => ?_)
      · unfold f_X4_mayBe f_X4_mayBeOfPeak
        rw [h3, if_pos (by decide), if_neg (by decide), if_neg (by decide), if_pos (by decide), p6_isPlace, bd_s]
        cases hx : isIx (nI v) 100 with
        | false => rw [if_pos b0z, bd_s]; rfl
        | true =>
          rw [if_neg b1z, pR_hasPeakAt h w.1 hv, bd_s]
          cases hy : anyF (fun j => decide (g 3 j = v)) (aP g) with
          | false => rfl
          | true => rfl
      · rw [show (99 : Int32) = nI 99 from rfl, z0i, w_n, inR_ix (by omega)]
      · have e0 : s3 34 (2 : Int32).toNatClampNeg = nI x := hM3.2.2.2 2 (by omega)
        have hex2 : anyF (fun j => decide (g 3 j = x)) (aP g) = true := by
          cases hy : anyF (fun j => decide (g 3 j = x)) (aP g) with
          | true => rfl
          | false => rw [hy] at hex; cases hex
        refine ⟨s2 s3 0 (upd (s3 0) 32 (nI (a2 + 1))), ?_, rfl, RepM_sl hM3.2.1 (by omega), FrS_tr hM3.2.2.1 (FrS_slot (by omega))⟩
        show bd (f_X7_isTaken s3 (s3 34 (2 : Int32).toNatClampNeg)) _ = _
        unfold f_X7_item_J145 f_X7_stands
        rw [e0, pM_isTaken hM3.2.1 w.1 hx2, bd_s, hex2, if_neg b1z, if_pos zz32, nm_s, gd_t (by decide), bd2_s, if_pos zz32]
      · have e0 : s3 34 (2 : Int32).toNatClampNeg = nI x := hM3.2.2.2 2 (by omega)
        have hx100 : x < 100 := by rw [isIx_n (by omega) (by omega)] at hox; exact of_decide_eq_true hox
        have hex2 : anyF (fun j => decide (g 3 j = x)) (aP g) = false := by
          cases hy : anyF (fun j => decide (g 3 j = x)) (aP g) with
          | false => rfl
          | true => rw [hy] at hex; cases hex
        have hn : ∀ i, i < aP g → ¬ g 3 i = x := fun i hi he => by
          rw [anyF_yes hi (by simpa using he)] at hex2; cases hex2
        try dsimp only
        rw [L88_s (by omega) hC3.2.2.1 (by omega) (by decide), e0, pM_isTaken hM3.2.1 w.1 hx2, bd_s, hex2, if_pos b0z]
        unfold f_X7_item_J145 f_X7_stands
        rw [if_neg one_nz, gd_t (by decide), bd2_s, if_neg one_nz]
        refine num_j h8 h2 hL hq (i := 3) hC3 hM3 hl6 (by omega) (fun v => inR (nI v) 1 999) (fun _ => true) (fun se' h3 v hv => ?_) (fun v hv => w_n (lo := 1) (hi := 999)) (fun _ _ _ _ _ hx => by cases hx) (fun t a4 se4 s4 ht2 hot _ hl7 hl8 hC4 hM4 => ?_)
        · unfold f_X4_mayBe f_X4_mayBeOfPeak
          rw [h3, if_pos (by decide), if_neg (by decide), if_neg (by decide), if_neg (by decide), p6_isHeight, bd_s, isZ_gd, bd_s, isZ_gd, Bool.and_true]
        · have ht1 : 1 ≤ t ∧ t < 1000 := by
            refine ⟨?_, ht2⟩
            by_cases ht0 : t = 0
            · rw [ht0] at hot; exact absurd hot (by decide)
            · omega
          have q0 : s4 34 (0 : Int32).toNatClampNeg = nI v := hM4.2.2.2 0 (by omega)
          have q1 : s4 34 (1 : Int32).toNatClampNeg = nI p := hM4.2.2.2 1 (by omega)
          have q2 : s4 34 (2 : Int32).toNatClampNeg = nI x := hM4.2.2.2 2 (by omega)
          have q3 : s4 34 (3 : Int32).toNatClampNeg = nI t := hM4.2.2.2 3 (by omega)
          have f0 : se4 5 (0 : Int32).toNatClampNeg = nI v := hC4.2.2.2 0 (by omega)
          have f1 : se4 5 (1 : Int32).toNatClampNeg = nI p := hC4.2.2.2 1 (by omega)
          have f2 : se4 5 (2 : Int32).toNatClampNeg = nI x := hC4.2.2.2 2 (by omega)
          have f3 : se4 5 (3 : Int32).toNatClampNeg = nI t := hC4.2.2.2 3 (by omega)
          obtain ⟨⟨x1, x2⟩, x3, x4, x5, x6⟩ := pR_addPeak h w.1 hv7 hp10 hx100 ht1 hroom hn
          obtain ⟨⟨y1, y2⟩, y3, y4, y5, y6⟩ := pM_newPeak hM4.2.1 w.1 hv7 hp10 hx100 ht1 hroom hn
          dsimp only at x4 x5 x6 y4 y5 y6
          refine Or.inr ⟨se4, y2, ?_, ?_, x2, lookA (addP g v p x t), a4, ?_, x5, ⟨(y6.2 31 rfl).trans hM4.1.1, (y6.2 32 rfl).trans hM4.1.2.1, (congrFun (y6.1 2 rfl) _).trans hM4.1.2.2⟩, y5, FrS_tr hM4.2.2.1 (FrS_fr y6), lookA_wf (addP_wf (Wf.mono w.1 (by omega) (by omega)) hv7 hp10 hx100 ht1 hroom hn), x6, Nat.le_succ _, by omega, hl8, hC4.1, hC4.2.1⟩
          · exact L88_e (by omega) hC4.2.2.1 (by decide)
          · show bd2 (f_X7_newPeak s4 (s4 34 (0 : Int32).toNatClampNeg) (s4 34 (1 : Int32).toNatClampNeg) (s4 34 (2 : Int32).toNatClampNeg) (s4 34 (3 : Int32).toNatClampNeg)) _ = _
            rw [q0, q1, q2, q3, y3, bd2_s]
          · unfold f_X4_comeTrue
            rw [hC4.2.2.1, if_pos (by decide), f0, f1, f2, f3, x3, bd2_s]
-- a word there is no room for
theorem kw_full {wi a : Nat} {ns : Nat → Nat} {se : GS} (hr : f_X4_hasRoom se r2 = some (0 : Int32)) (hC : LkC wi a 0 ns se) (c : Nat) : KW rw re i0 r2 c se = some ((0 : Int32), s2 se 0 (upd (se 0) 2 (nI c))) := by
  unfold KW f_X4_faultAt
  rw [hr, bd_s, if_pos zz32, nm_s, bd2_s, gd_t (by decide)]
theorem item_j (h8 : i0 < 8) (h2 : rw i0 0 2 = nI L) (hL : L ≤ 160) (hq : ∀ j, j < L → re i0 j = sq (160 * i0 + j)) (h : RepR g r2) (w : Wf B g) (hB : B + 999 ≤ 20000000) {a : Nat} {se s : GS} (ha : a ≤ L) (c1 : se 0 1 = nI a) (c2 : se 0 2 = mI) (hT : LkT g s0 i0 L a 0 (fun _ => 0) s) : ResO g s0 (ItG B L a g s0 r2 i0) (f_X4_readItem se (rw i0) (re i0) r2) (f_X7_item s sq) := by
  have hP := w.1.1.1
  have hS := w.1.1.2.1
  have hV := w.1.1.2.2.1
  have hsg := sg_m (s := s) h8 hL hq (by omega) hT.1.1 hT.1.2.1 hT.1.2.2
  by_cases hx : ∃ wi, wi < 6 ∧ (a < L ∧ cAt re i0 a = tCh wi (0 : Int32))
  · obtain ⟨wi, hw, hh⟩ := hx
    have hC : LkC wi a 0 (fun _ => 0) (s2 se 0 (upd (se 0) 3 (nI wi))) := ⟨c1, c2, rfl, fun j hj => by omega⟩
    rw [if_pos hh.1, hh.2] at hsg
    rw [readItem_y h2 hL c1 hw hh]
    have hwj := word_j (g := g) (s0 := s0) h8 h2 hL hq hw (KW rw re i0 r2 a) FU 0 a _ s (Nat.zero_le _) (by have := (len_6 wi hw).1; rw [FU_def]; omega) ha hC hT
    rw [Nat.sub_zero] at hwj
    rcases (by omega : wi = 0 ∨ wi = 1 ∨ wi = 2 ∨ wi = 3 ∨ wi = 4 ∨ wi = 5) with rfl | rfl | rfl | rfl | rfl | rfl
    · have hi : f_X7_item s sq = if (10 : Int32) ≤ (s 0 3) then (f_X7_item_J77 sq s (0 : Int32)) else (f_X7_item_J77 sq s (1 : Int32)) := by
        unfold f_X7_item
        rw [hsg, bd_s, if_pos (by decide)]
      rw [hi, hT.2.1.c0]
      rcases hwj with ⟨f, se', s', f1, f2, f3, f4, f5, f6, f7⟩ | ⟨se', s', f1, f2, f3, f4, f5⟩
      · have e := (word_no f3).2
        have : ∀ x, f_X7_item_J77 sq s x = some ((0 : Int32), s') := fun x => by
          unfold f_X7_item_J77
          rw [e x, bd2_s, if_pos zz32]
        rw [this, this, ite_self]
        exact Or.inl ⟨f, se', s', f1, f2, rfl, f4, f5, f6, f7⟩
      · obtain ⟨-, e1, e0⟩ := word_ok f2
        rw [f1]
        by_cases hroom : aP g < 10
        · rw [if_neg (show ¬ (10 : Int32) ≤ nI (aP g) by rw [show (10 : Int32) = nI 10 from rfl, n_le (by omega) (by omega)]; omega)]
          unfold f_X7_item_J77
          rw [e1, bd2_s, if_neg one_nz]
          exact it_peak h8 h2 hL hq h w hB hroom (Nat.le_refl _) f3 f4 f5
        · rw [if_pos (show (10 : Int32) ≤ nI (aP g) by rw [show (10 : Int32) = nI 10 from rfl, n_le (by omega) (by omega)]; omega)]
          have hr : f_X4_hasRoom se' r2 = some (0 : Int32) := by
            unfold f_X4_hasRoom
            rw [f4.2.2.1, if_pos (by decide), h.c0, if_pos (by rw [show (10 : Int32) = nI 10 from rfl, n_le (by omega) (by omega)]; omega)]
          unfold f_X7_item_J77
          rw [e0, bd2_s, if_pos zz32, kw_full hr f4, hT.1.2.1]
          exact Or.inl ⟨a, _, _, by omega, rfl, rfl, rfl, rfl, RepM_sl f5.2.1 (by omega), FrS_tr f5.2.2.1 (FrS_slot (by omega))⟩
    · have hi : f_X7_item s sq = if (6 : Int32) ≤ (s 0 11) then (f_X7_item_J213 sq s (0 : Int32)) else (f_X7_item_J213 sq s (1 : Int32)) := by
        unfold f_X7_item
        rw [hsg, bd_s, if_neg (by decide), if_neg (by decide), if_neg (by decide), if_pos (by decide)]
      rw [hi, hT.2.1.cs]
      rcases hwj with ⟨f, se', s', f1, f2, f3, f4, f5, f6, f7⟩ | ⟨se', s', f1, f2, f3, f4, f5⟩
      · have e := (word_no f3).2
        have : ∀ x, f_X7_item_J213 sq s x = some ((0 : Int32), s') := fun x => by
          unfold f_X7_item_J213
          rw [e x, bd2_s, if_pos zz32]
        rw [this, this, ite_self]
        exact Or.inl ⟨f, se', s', f1, f2, rfl, f4, f5, f6, f7⟩
      · obtain ⟨-, e1, e0⟩ := word_ok f2
        rw [f1]
        by_cases hroom : aS g < 6
        · rw [if_neg (show ¬ (6 : Int32) ≤ nI (aS g) by rw [show (6 : Int32) = nI 6 from rfl, n_le (by omega) (by omega)]; omega)]
          unfold f_X7_item_J213
          rw [e1, bd2_s, if_neg one_nz]
          exact it_screen h8 h2 hL hq h w hB hroom (Nat.le_refl _) f3 f4 f5
        · rw [if_pos (show (6 : Int32) ≤ nI (aS g) by rw [show (6 : Int32) = nI 6 from rfl, n_le (by omega) (by omega)]; omega)]
          have hr : f_X4_hasRoom se' r2 = some (0 : Int32) := by
            unfold f_X4_hasRoom
            rw [f4.2.2.1, if_neg (by decide), if_pos (by decide), h.cs, if_pos (by rw [show (6 : Int32) = nI 6 from rfl, n_le (by omega) (by omega)]; omega)]
          unfold f_X7_item_J213
          rw [e0, bd2_s, if_pos zz32, kw_full hr f4, hT.1.2.1]
          exact Or.inl ⟨a, _, _, by omega, rfl, rfl, rfl, rfl, RepM_sl f5.2.1 (by omega), FrS_tr f5.2.2.1 (FrS_slot (by omega))⟩
    · have hi : f_X7_item s sq = if (8 : Int32) ≤ (s 0 14) then (f_X7_item_J280 sq s (0 : Int32)) else (f_X7_item_J280 sq s (1 : Int32)) := by
        unfold f_X7_item
        rw [hsg, bd_s, if_neg (by decide), if_neg (by decide), if_neg (by decide), if_neg (by decide), if_neg (by decide), if_neg (by decide), if_pos (by decide)]
      rw [hi, hT.2.1.cv]
      rcases hwj with ⟨f, se', s', f1, f2, f3, f4, f5, f6, f7⟩ | ⟨se', s', f1, f2, f3, f4, f5⟩
      · have e := (word_no f3).2
        have : ∀ x, f_X7_item_J280 sq s x = some ((0 : Int32), s') := fun x => by
          unfold f_X7_item_J280
          rw [e x, bd2_s, if_pos zz32]
        rw [this, this, ite_self]
        exact Or.inl ⟨f, se', s', f1, f2, rfl, f4, f5, f6, f7⟩
      · obtain ⟨-, e1, e0⟩ := word_ok f2
        rw [f1]
        by_cases hroom : aV g < 8
        · rw [if_neg (show ¬ (8 : Int32) ≤ nI (aV g) by rw [show (8 : Int32) = nI 8 from rfl, n_le (by omega) (by omega)]; omega)]
          unfold f_X7_item_J280
          rw [e1, bd2_s, if_neg one_nz]
          exact it_valley h8 h2 hL hq h w hB hroom (Nat.le_refl _) f3 f4 f5
        · rw [if_pos (show (8 : Int32) ≤ nI (aV g) by rw [show (8 : Int32) = nI 8 from rfl, n_le (by omega) (by omega)]; omega)]
          have hr : f_X4_hasRoom se' r2 = some (0 : Int32) := by
            unfold f_X4_hasRoom
            rw [f4.2.2.1, if_neg (by decide), if_neg (by decide), if_pos (by decide), h.cv, if_pos (by rw [show (8 : Int32) = nI 8 from rfl, n_le (by omega) (by omega)]; omega)]
          unfold f_X7_item_J280
          rw [e0, bd2_s, if_pos zz32, kw_full hr f4, hT.1.2.1]
          exact Or.inl ⟨a, _, _, by omega, rfl, rfl, rfl, rfl, RepM_sl f5.2.1 (by omega), FrS_tr f5.2.2.1 (FrS_slot (by omega))⟩
    · unfold f_X7_item
      rw [hsg, bd_s, if_neg (by decide), if_neg (by decide), if_neg (by decide), if_neg (by decide), if_neg (by decide), if_pos (by decide)]
      rcases hwj with ⟨f, se', s', f1, f2, f3, f4, f5, f6, f7⟩ | ⟨se', s', f1, f2, f3, f4, f5⟩
      · rw [(word_no f3).1, bd2_s, if_pos zz32]
        exact Or.inl ⟨f, se', s', f1, f2, rfl, f4, f5, f6, f7⟩
      · rw [f1, (word_ok f2).1, bd2_s, if_neg one_nz, f5.2.1.cv]
        exact it_under h8 h2 hL hq h w hB (Nat.le_refl _) f3 f4 f5
    · unfold f_X7_item
      rw [hsg, bd_s, if_neg (by decide), if_neg (by decide), if_neg (by decide), if_neg (by decide), if_neg (by decide), if_neg (by decide), if_neg (by decide), if_neg (by decide), if_neg (by decide), if_pos (by decide)]
      rcases hwj with ⟨f, se', s', f1, f2, f3, f4, f5, f6, f7⟩ | ⟨se', s', f1, f2, f3, f4, f5⟩
      · rw [(word_no f3).1, bd2_s, if_pos zz32]
        exact Or.inl ⟨f, se', s', f1, f2, rfl, f4, f5, f6, f7⟩
      · rw [f1, (word_ok f2).1, bd2_s, if_neg one_nz]
        exact it_years h8 h2 hL hq h w hB (Nat.le_refl _) f3 f4 f5
    · unfold f_X7_item
      rw [hsg, bd_s, if_neg (by decide), if_neg (by decide), if_neg (by decide), if_neg (by decide), if_pos (by decide)]
      rcases hwj with ⟨f, se', s', f1, f2, f3, f4, f5, f6, f7⟩ | ⟨se', s', f1, f2, f3, f4, f5⟩
      · rw [(word_no f3).1, bd2_s, if_pos zz32]
        exact Or.inl ⟨f, se', s', f1, f2, rfl, f4, f5, f6, f7⟩
      · rw [f1, (word_ok f2).1, bd2_s, if_neg one_nz, f5.1.2.1, n_s, nm_s, f5.2.1.c0]
        exact it_take h8 h2 hL hq h w hB (Nat.le_refl _) f3 f4 f5
  · have hno : ∀ wi, wi < 6 → ¬ (a < L ∧ cAt re i0 a = tCh wi (0 : Int32)) := fun wi hw hh => hx ⟨wi, hw, hh⟩
    obtain ⟨se', e1, e2⟩ := readItem_n (r2 := r2) h2 hL (show a ≤ 160 by omega) c1 hno
    have n0 : ∀ wi, wi < 6 → ¬ (if a < L then cAt re i0 a else mI) = tCh wi (0 : Int32) := fun wi hw e => by
      by_cases hl : a < L
      · rw [if_pos hl] at e; exact hno wi hw ⟨hl, e⟩
      · rw [if_neg hl] at e
        exact absurd e.symm ((by decide : ∀ wi, wi < 6 → ¬ tCh wi (0 : Int32) = mI) wi hw)
    have n112 : ¬ (if a < L then cAt re i0 a else mI) = (112 : Int32) := n0 0 (by omega)
    have n115 : ¬ (if a < L then cAt re i0 a else mI) = (115 : Int32) := n0 1 (by omega)
    have n118 : ¬ (if a < L then cAt re i0 a else mI) = (118 : Int32) := n0 2 (by omega)
    have n117 : ¬ (if a < L then cAt re i0 a else mI) = (117 : Int32) := n0 3 (by omega)
    have n121 : ¬ (if a < L then cAt re i0 a else mI) = (121 : Int32) := n0 4 (by omega)
    have n116 : ¬ (if a < L then cAt re i0 a else mI) = (116 : Int32) := n0 5 (by omega)
    have e7 : f_X7_item s sq = some ((0 : Int32), s) := by
      unfold f_X7_item
      rw [hsg, bd_s, if_neg n112, if_neg n115, if_neg n116, if_neg n117, if_neg n118, if_neg n121, ite_self, ite_self, ite_self, ite_self]
    rw [e1, e7]
    exact Or.inl ⟨a, se', s, by omega, rfl, rfl, e2, hT.1.2.1, hT.2.1, hT.2.2.1⟩
end IP
