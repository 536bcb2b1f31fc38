-- both sides: texts
theorem z0i : (0 : Int32) = nI 0 := rfl
theorem b1z : ¬ bI true = (0 : Int32) := by decide
theorem b0z : bI false = (0 : Int32) := rfl
theorem one_nz : ¬ (1 : Int32) = 0 := by decide
theorem b0t : (bI false = (0 : Int32)) = True := eq_true rfl
theorem b1f : (bI true = (0 : Int32)) = False := eq_false (by decide)
theorem zt0 : ((0 : Int32) = 0) = True := eq_true rfl
theorem onef : ((1 : Int32) = 0) = False := eq_false (by decide)
theorem zz32 : (0 : Int32) = (0 : Int32) := rfl
def FrS (s0 s : GS) : Prop := SmK s0 s ∧ s 0 18 = s0 0 18 ∧ s 26 = s0 26
theorem FrS_tr {a b c : GS} (h : FrS a b) (h2 : FrS b c) : FrS a c := ⟨SmK_trans h.1 h2.1, h2.2.1.trans h.2.1, h2.2.2.trans h.2.2⟩
theorem FrS_fr {a b : GS} (h : FrM a b) : FrS a b := ⟨SmK_fr h, h.2 18 rfl, h.1 26 rfl⟩
theorem FrS_slot {s : GS} {j : Nat} {v : Int32} (h : 30 ≤ j) : FrS s (s2 s 0 (upd (s 0) j v)) := ⟨SmK_slot (by omega) (by omega) (by omega), pk_un (by omega), rfl⟩
theorem FrS_s2 {s : GS} {k : Nat} {f : Nat → Int32} (h : 30 ≤ k) : FrS s (s2 s k f) := ⟨SmK_s2 (by omega), congrFun (s2_ne (by omega)) _, s2_ne (by omega)⟩
def LkC (wi a i : Nat) (ns : Nat → Nat) (se : GS) : Prop := se 0 1 = nI a ∧ se 0 2 = mI ∧ se 0 3 = nI wi ∧ ∀ j, j < i → se 5 j = nI (ns j)
def LkT (g : AG) (s0 : GS) (i0 L a i : Nat) (ns : Nat → Nat) (s : GS) : Prop := (s 0 31 = nI i0 ∧ s 0 32 = nI a ∧ s 2 i0 = nI L) ∧ RepM g s ∧ FrS s0 s ∧ ∀ j, j < i → s 34 j = nI (ns j)
def FailO (g : AG) (s0 : GS) (cr mr : Option (Int32 × GS)) : Prop := ∃ f se s, f ≤ 160 ∧ cr = some ((0 : Int32), se) ∧ mr = some ((0 : Int32), s) ∧ se 0 2 = nI f ∧ s 0 32 = nI f ∧ RepM g s ∧ FrS s0 s
def ResO (g : AG) (s0 : GS) (G : GS → GS → Prop) (cr mr : Option (Int32 × GS)) : Prop := FailO g s0 cr mr ∨ ∃ se s, cr = some ((1 : Int32), se) ∧ mr = some ((1 : Int32), s) ∧ G se s
theorem RepM_hi {g : AG} {s : GS} {k : Nat} {f : Nat → Int32} (m : RepM g s) (h : 18 ≤ k) : RepM g (s2 s k f) := by
  have e (j : Nat) (h1 : j < 18 := by omega) : s2 s k f j = s j := s2_ne (by omega)
  unfold RepM
  rw [e 0, e 5, e 6, e 7, e 8, e 9, e 10, e 11, e 13, e 14, e 16, e 17]
  exact m
theorem RepM_sl {g : AG} {s : GS} {j : Nat} {v : Int32} (m : RepM g s) (h : 30 ≤ j) : RepM g (s2 s 0 (upd (s 0) j v)) := by
  refine ⟨⟨?_, ?_, ?_, ?_⟩, m.2⟩
  · show upd (s 0) j v 3 = _
    rw [pk_un (by omega)]; exact m.c0
  · show upd (s 0) j v 11 = _
    rw [pk_un (by omega)]; exact m.cs
  · show upd (s 0) j v 14 = _
    rw [pk_un (by omega)]; exact m.cv
  · show upd (s 0) j v 17 = _
    rw [pk_un (by omega)]; exact m.cy
section TX
variable {B i0 L : Nat} {g : AG} {s0 r2 : GS} {rw : Nat → GS} {re : Nat → Nat → Int64} {sq : Nat → Int64}
-- the letter at a place
def cAt (re : Nat → Nat → Int64) (i0 j : Nat) : Int32 := (re i0 j).toInt32
theorem el_c (h2 : rw i0 0 2 = nI L) (hL : L ≤ 160) {se : GS} {a : Nat} (ha : a ≤ 160) (h1 : se 0 1 = nI a) : f_X4_elementHere se (rw i0) (re i0) = some (if a < L then cAt re i0 a else 0) := by
  have hr : RowR L (re i0) (rw i0) (re i0) := ⟨h2, hL, fun _ _ => rfl⟩
  unfold f_X4_elementHere
  rw [h1, pW_intAt hr, bd_s, isIx_n (by omega) (by omega), n_tn (by omega)]
  by_cases h : a < L
  · rw [decide_eq_true h, if_pos rfl, if_pos h]; rfl
  · rw [decide_eq_false h, if_neg ffl, if_neg h]
theorem sg_m (h8 : i0 < 8) (hL : L ≤ 160) (hq : ∀ j, j < L → re i0 j = sq (160 * i0 + j)) {s : GS} {a : Nat} (ha : a ≤ 160) (h1 : s 0 31 = nI i0) (h2 : s 0 32 = nI a) (h3 : s 2 i0 = nI L) : f_X7_sign s sq = some (if a < L then cAt re i0 a else mI) := by
  unfold f_X7_sign
  rw [h1, h2, gd_t (n_inB h8 (by omega)), n_tn (by omega), h3, ifc (n_le (by omega) (by omega))]
  by_cases h : a < L
  · rw [if_neg (by omega), if_pos h, show (160 : Int32) = nI 160 from rfl, n_mul, n_add, gd_t (n_inB (by omega) (by omega)), n_tn (by omega), ← hq a h]
    rfl
  · rw [if_pos (by omega), if_neg h]; rfl
theorem pass_y (h2 : rw i0 0 2 = nI L) (hL : L ≤ 160) {se : GS} {a : Nat} {x : Int32} (h1 : se 0 1 = nI a) (hh : a < L ∧ cAt re i0 a = x) : f_X4_passLetter se (rw i0) (re i0) x = some ((1 : Int32), s2 se 0 (upd (se 0) 1 (nI (a + 1)))) := by
  unfold f_X4_passLetter
  rw [el_c h2 hL (by omega) h1, bd_s, if_pos (by rw [if_pos hh.1]; exact hh.2), nm_s, nm_s, h1, n_s]
theorem pass_n (h2 : rw i0 0 2 = nI L) (hL : L ≤ 160) {se : GS} {a : Nat} {x : Int32} (ha : a ≤ L) (hx : ¬ x = 0) (h1 : se 0 1 = nI a) (hh : ¬ (a < L ∧ cAt re i0 a = x)) : f_X4_passLetter se (rw i0) (re i0) x = some ((0 : Int32), s2 se 0 (upd (se 0) 2 (nI a))) := by
  unfold f_X4_passLetter f_X4_faultAt
  rw [el_c h2 hL (by omega) h1, bd_s, if_neg (fun e => by
    by_cases h : a < L
    · rw [if_pos h] at e; exact hh ⟨h, e⟩
    · rw [if_neg h] at e; exact hx e.symm), nm_s, bd2_s, gd_t (by decide), h1]
theorem is_y (h8 : i0 < 8) (hL : L ≤ 160) (hq : ∀ j, j < L → re i0 j = sq (160 * i0 + j)) {s : GS} {a : Nat} {x : Int32} (h1 : s 0 31 = nI i0) (h2 : s 0 32 = nI a) (h3 : s 2 i0 = nI L) (hh : a < L ∧ cAt re i0 a = x) : f_X7_is s sq x = some ((1 : Int32), s2 s 0 (upd (s 0) 32 (nI (a + 1)))) := by
  unfold f_X7_is
  rw [sg_m h8 hL hq (by omega) h1 h2 h3, bd_s, if_pos (by rw [if_pos hh.1]; exact hh.2), nm_s, nm_s, h2, n_s]
theorem is_n (h8 : i0 < 8) (hL : L ≤ 160) (hq : ∀ j, j < L → re i0 j = sq (160 * i0 + j)) {s : GS} {a : Nat} {x : Int32} (ha : a ≤ L) (hx : ¬ x = mI) (h1 : s 0 31 = nI i0) (h2 : s 0 32 = nI a) (h3 : s 2 i0 = nI L) (hh : ¬ (a < L ∧ cAt re i0 a = x)) : f_X7_is s sq x = some ((0 : Int32), s) := by
  unfold f_X7_is
  rw [sg_m h8 hL hq (by omega) h1 h2 h3, bd_s, if_neg (fun e => by
    by_cases h : a < L
    · rw [if_pos h] at e; exact hh ⟨h, e⟩
    · rw [if_neg h] at e; exact hx e.symm)]
-- digits
theorem dig_no {x : Int32} (h : ¬ (¬ x < nI 48 ∧ ¬ nI 57 < x)) : (x - (48 : Int32) < 0) ∨ (¬ x - (48 : Int32) < 0 ∧ (9 : Int32) < x - (48 : Int32)) := by
  by_cases h1 : x - (48 : Int32) < 0
  · exact Or.inl h1
  · refine Or.inr ⟨h1, ?_⟩
    rw [Int32.lt_iff_toInt_lt, Int32.lt_iff_toInt_lt, n_toInt (by omega), n_toInt (by omega)] at h
    rw [Int32.lt_iff_toInt_lt] at h1 ⊢
    have e0 : (0 : Int32).toInt = 0 := rfl
    have e9 : (9 : Int32).toInt = 9 := rfl
    have e48 : (48 : Int32).toInt = 48 := rfl
    have b1 : -2147483648 ≤ x.toInt := x.le_toInt
    have b2 : x.toInt < 2147483648 := x.toInt_lt
    rw [Int32.toInt_sub, e48, e0] at h1
    rw [Int32.toInt_sub, e48, e9]
    have hb : (x.toInt - 48).bmod (2 ^ 32) = x.toInt - 48 ∨ (x.toInt < -2147483600 ∧ (x.toInt - 48).bmod (2 ^ 32) = x.toInt - 48 + 4294967296) := by
      by_cases hx : -2147483600 ≤ x.toInt
      · exact Or.inl (Int.bmod_eq_of_le (by omega) (by omega))
      · refine Or.inr ⟨by omega, ?_⟩
        rw [← Int.add_bmod_right, Int.bmod_eq_of_le (by omega) (by omega)]
        omega
    rcases hb with hb | ⟨hb1, hb⟩
    · rw [hb] at h1 ⊢
      omega
    · rw [hb]
      omega
theorem digit_c (h2 : rw i0 0 2 = nI L) (hL : L ≤ 160) {se : GS} {a : Nat} (ha : a ≤ 160) (h1 : se 0 1 = nI a) : (∀ d, d < 10 → a < L → cAt re i0 a = nI (48 + d) → f_X4_digitHere se (rw i0) (re i0) = some (nI d)) ∧ ((∀ d, d < 10 → ¬ (a < L ∧ cAt re i0 a = nI (48 + d))) → f_X4_digitHere se (rw i0) (re i0) = some mI) := by
  refine ⟨fun d hd hl hc => ?_, fun hno => ?_⟩
  · unfold f_X4_digitHere
    rw [el_c h2 hL ha h1, if_pos hl, hc, bd_s, show (48 : Int32) = nI 48 from rfl, n_sub (by omega), show 48 + d - 48 = d by omega, nm_s, if_neg (by rw [n_neg (by omega)]; exact id), if_neg (by rw [show (9 : Int32) = nI 9 from rfl, n_lt (by omega) (by omega)]; omega)]
  · unfold f_X4_digitHere
    rw [el_c h2 hL ha h1, bd_s, nm_s]
    have hn : ¬ (¬ (if a < L then cAt re i0 a else 0) < nI 48 ∧ ¬ nI 57 < (if a < L then cAt re i0 a else 0)) := fun e => by
      by_cases hl : a < L
      · rw [if_pos hl] at e
        have hi : inR (cAt re i0 a) 48 57 = true := by
          unfold inR
          rw [decide_eq_true e.1, decide_eq_true e.2]
          rfl
        rcases in3 (cAt re i0 a) 48 57 (by omega) (by omega) with ⟨_, q⟩ | ⟨_, _, q⟩ | ⟨v, hv1, hv2, e2, _⟩
        · rw [q] at hi; cases hi
        · rw [q] at hi; cases hi
        · exact hno (v - 48) (by omega) ⟨hl, by rw [e2]; congr 1; omega⟩
      · rw [if_neg hl] at e
        exact e.1 (by decide)
    rcases dig_no hn with h3 | ⟨h3, h4⟩
    · rw [if_pos h3]; rfl
    · rw [if_neg h3, if_pos h4]; rfl
theorem num_L (h8 : i0 < 8) (h2 : rw i0 0 2 = nI L) (hL : L ≤ 160) (hq : ∀ j, j < L → re i0 j = sq (160 * i0 + j)) {wi i : Nat} {ns : Nat → Nat} {st : Nat} (KC KM : Int32 → GS → Option (Int32 × GS)) : ∀ (n k a v : Nat) (se s : GS), k < n → a + k = st + 3 → st ≤ a → a ≤ L → (v + 1) * 10 ^ k ≤ 1000 → LkC wi a i ns se → LkT g s0 i0 L a i ns s → ∃ v' a' se' s', f_X4_readNumber_L8 (rw i0) (re i0) (nI st) KC n (nI v) se = KC (nI v') se' ∧ f_X7_number_L20 sq (nI st) KM n (nI v) s = KM (nI v') s' ∧ (a ≤ a' ∧ a' ≤ L ∧ v' < 1000) ∧ LkC wi a' i ns se' ∧ LkT g s0 i0 L a' i ns s'
  | 0, k, a, v, se, s, h, _, _, _, _, _, _ => by omega
  | n + 1, k, a, v, se, s, q1, q2, q3, q4, q5, hC, hM => by
    have h10 : 0 < 10 ^ k := Nat.pow_pos (by omega)
    have hv : v < 1000 := by
      have : v + 1 ≤ (v + 1) * 10 ^ k := Nat.le_mul_of_pos_right _ h10
      omega
    rw [f_X4_readNumber_L8.eq_2, f_X7_number_L20.eq_2, hC.1, hM.1.2.1, n_sub q3]
    by_cases hk : k = 0
    · have c3 : (3 : Int32) ≤ nI (a - st) := by rw [show (3 : Int32) = nI 3 from rfl, n_le (by omega) (by omega)]; omega
      rw [if_pos c3, if_pos c3]
      exact ⟨v, a, se, s, rfl, rfl, ⟨Nat.le_refl _, q4, hv⟩, hC, hM⟩
    · have c3 : ¬ (3 : Int32) ≤ nI (a - st) := by rw [show (3 : Int32) = nI 3 from rfl, n_le (by omega) (by omega)]; omega
      have hsg := sg_m (s := s) h8 hL hq (by omega) hM.1.1 hM.1.2.1 hM.1.2.2
      obtain ⟨dy, dn⟩ := digit_c (re := re) (se := se) h2 hL (show a ≤ 160 by omega) hC.1
      rw [if_neg c3, if_neg c3, hsg, bd_s]
      by_cases hd : ∃ d, d < 10 ∧ a < L ∧ cAt re i0 a = nI (48 + d)
      · obtain ⟨d, hd1, hd2, hd3⟩ := hd
        rw [dy d hd1 hd2 hd3, bd_s, if_neg (show ¬ nI d = (-1 : Int32) by rw [n_m1 (by omega)]; exact id), bd_s, nm_s, nm_s, nm_s, if_pos hd2, hd3, if_neg (show ¬ nI (48 + d) < (48 : Int32) by rw [show (48 : Int32) = nI 48 from rfl, n_lt (by omega) (by omega)]; omega), bd_s, if_neg (show ¬ (57 : Int32) < nI (48 + d) by rw [show (57 : Int32) = nI 57 from rfl, n_lt (by omega) (by omega)]; omega), bd_s, nm_s, nm_s, nm_s]
        obtain ⟨k', rfl⟩ : ∃ k', k = k' + 1 := ⟨k - 1, by omega⟩
        have hb : (10 * v + d + 1) * 10 ^ k' ≤ 1000 := by
          refine Nat.le_trans (Nat.mul_le_mul_right _ (show 10 * v + d + 1 ≤ 10 * (v + 1) by omega)) ?_
          rw [Nat.pow_succ] at q5
          rw [Nat.mul_comm 10 (v + 1), Nat.mul_assoc, Nat.mul_comm 10]
          exact q5
        have e1 : (10 : Int32) * nI v + nI d = nI (10 * v + d) := by rw [show (10 : Int32) = nI 10 from rfl, n_mul, n_add]
        have e2 : (10 : Int32) * nI v + nI (48 + d) - (48 : Int32) = nI (10 * v + d) := by rw [show (10 : Int32) = nI 10 from rfl, show (48 : Int32) = nI 48 from rfl, n_mul, n_add, n_sub (by omega)]; congr 1; omega
        rw [e1, e2, n_s]
        obtain ⟨v', a', se', s', z1, z2, z3, z4, z5⟩ := num_L (st := st) h8 h2 hL hq KC KM n k' (a + 1) (10 * v + d) (s2 se 0 (upd (se 0) 1 (nI (a + 1)))) (s2 s 0 (upd (s 0) 32 (nI (a + 1)))) (by omega) (by omega) (by omega) (by omega) hb ⟨rfl, hC.2.1, hC.2.2.1, hC.2.2.2⟩ ⟨⟨hM.1.1, rfl, hM.1.2.2⟩, RepM_sl hM.2.1 (by omega), FrS_tr hM.2.2.1 (FrS_slot (by omega)), hM.2.2.2⟩
        exact ⟨v', a', se', s', z1, z2, ⟨by omega, z3.2⟩, z4, z5⟩
      · have hno : ∀ d, d < 10 → ¬ (a < L ∧ cAt re i0 a = nI (48 + d)) := fun d hd1 hd2 => hd ⟨d, hd1, hd2⟩
        rw [dn hno, bd_s, if_pos (show mI = (-1 : Int32) from rfl)]
        refine ⟨v, a, se, s, rfl, ?_, ⟨Nat.le_refl _, q4, hv⟩, hC, hM⟩
        by_cases c1 : (if a < L then cAt re i0 a else mI) < (48 : Int32)
        · rw [if_pos c1]
        · rw [if_neg c1, bd_s]
          by_cases c2 : (57 : Int32) < (if a < L then cAt re i0 a else mI)
          · rw [if_pos c2]
          · exfalso
            by_cases hl : a < L
            · rw [if_pos hl] at c1 c2
              have hi : inR (cAt re i0 a) 48 57 = true := by
                unfold inR
                rw [decide_eq_true (show ¬ cAt re i0 a < nI 48 from c1), decide_eq_true (show ¬ nI 57 < cAt re i0 a from c2)]
                rfl
              rcases in3 (cAt re i0 a) 48 57 (by omega) (by omega) with ⟨_, q⟩ | ⟨_, _, q⟩ | ⟨v2, hv1, hv2, e2, _⟩
              · rw [q] at hi; cases hi
              · rw [q] at hi; cases hi
              · exact hno (v2 - 48) (by omega) ⟨hl, by rw [e2]; congr 1; omega⟩
            · rw [if_neg hl] at c1
              exact c1 (by decide)
-- a blank and a number
theorem num_j (h8 : i0 < 8) (h2 : rw i0 0 2 = nI L) (hL : L ≤ 160) (hq : ∀ j, j < L → re i0 j = sq (160 * i0 + j)) {wi i a : Nat} {ns : Nat → Nat} {se s : GS} {KC KM : GS → Option (Int32 × GS)} {G : GS → GS → Prop} {lo hi : Int32} (hC : LkC wi a i ns se) (hM : LkT g s0 i0 L a i ns s) (haL : a ≤ L) (hi4 : i < 4) (okr ex : Nat → Bool)
    (hmb : ∀ se', se' 0 3 = nI wi → ∀ v, v < 1000 → f_X4_mayBe se' r2 (nI i) (nI v) = some (bI (okr v && ex v)))
    (hwn : ∀ v, v < 1000 → f_X7_within (nI v) lo hi = some (bI (okr v)))
    (hbad : ∀ v a' s', v < 1000 → okr v = true → ex v = false → a' ≤ L → LkT g s0 i0 L a' (i + 1) (uN ns i v) s' → ∃ s'', KM s' = some ((0 : Int32), s'') ∧ s'' 0 32 = nI (a + 1) ∧ RepM g s'' ∧ FrS s0 s'')
    (next : ∀ v a' se' s', v < 1000 → okr v = true → ex v = true → a + 2 ≤ a' → a' ≤ L → LkC wi a' (i + 1) (uN ns i v) se' → LkT g s0 i0 L a' (i + 1) (uN ns i v) s' → ResO g s0 G (KC se') (KM s')) :
    ResO g s0 G (bd2 (f_X4_passLetter se (rw i0) (re i0) (32 : Int32)) (fun r se30 => if r = 0 then some ((0 : Int32), se30) else bd2 (f_X4_readNumber se30 (rw i0) (re i0) r2 (nI i)) (fun r33 se34 => if r33 = 0 then some ((0 : Int32), se34) else KC se34))) (bd2 (f_X7_number s sq (nI i) lo hi) (fun r s' => if r = 0 then some ((0 : Int32), s') else KM s')) := by
  by_cases hh : a < L ∧ cAt re i0 a = (32 : Int32)
  · unfold f_X7_number
    rw [pass_y h2 hL hC.1 hh, is_y h8 hL hq hM.1.1 hM.1.2.1 hM.1.2.2 hh, bd2_s, bd2_s, if_neg one_nz, if_neg one_nz, nm_s]
    have hC1 : LkC wi (a + 1) i ns (s2 se 0 (upd (se 0) 1 (nI (a + 1)))) := ⟨rfl, hC.2.1, hC.2.2.1, hC.2.2.2⟩
    have hM1 : LkT g s0 i0 L (a + 1) i ns (s2 s 0 (upd (s 0) 32 (nI (a + 1)))) := ⟨⟨hM.1.1, rfl, hM.1.2.2⟩, RepM_sl hM.2.1 (by omega), FrS_tr hM.2.2.1 (FrS_slot (by omega)), hM.2.2.2⟩
    generalize s2 se 0 (upd (se 0) 1 (nI (a + 1))) = se1 at hC1 ⊢
    generalize s2 s 0 (upd (s 0) 32 (nI (a + 1))) = s1 at hM1 ⊢
    unfold f_X4_readNumber
    rw [hC1.1, hM1.1.2.1, nm_s]
    obtain ⟨v, a', se', s', z1, z2, ⟨z3, z4, z5⟩, z6, z7⟩ := num_L (g := g) (s0 := s0) h8 h2 hL hq (wi := wi) (i := i) (ns := ns) (st := a + 1) (fun x4_15 se_16 => f_X4_readNumber_J51 r2 (nI i) (nI (a + 1)) x4_15 se_16) (fun x5_24 sm_25 => f_X7_number_J77 (nI i) lo hi (nI (a + 1)) x5_24 sm_25) FU 3 (a + 1) 0 se1 s1 (by rw [FU_def]; omega) (by omega) (by omega) (by omega) (by omega) hC1 hM1
    have z1' : f_X4_readNumber_L8 (rw i0) (re i0) (nI (a + 1)) (fun x4_15 se_16 => f_X4_readNumber_J51 r2 (nI i) (nI (a + 1)) x4_15 se_16) FU (0 : Int32) se1 = f_X4_readNumber_J51 r2 (nI i) (nI (a + 1)) (nI v) se' := z1
    have z2' : f_X7_number_L20 sq (nI (a + 1)) (fun x5_24 sm_25 => f_X7_number_J77 (nI i) lo hi (nI (a + 1)) x5_24 sm_25) FU (0 : Int32) s1 = f_X7_number_J77 (nI i) lo hi (nI (a + 1)) (nI v) s' := z2
    rw [z1', z2']
    unfold f_X4_readNumber_J51 f_X7_number_J77 f_X4_faultAt
    rw [z6.1, z7.1.2.1]
    by_cases hz : a' = a + 1
    · have e : nI a' = nI (a + 1) := by rw [hz]
      rw [if_pos e, if_pos e, nm_s, bd2_s, gd_t (by decide), bd2_s, bd2_s, if_pos zz32, if_pos zz32]
      exact Or.inl ⟨a', _, _, by omega, rfl, rfl, rfl, z7.1.2.1, z7.2.1, z7.2.2.1⟩
    · have e : ¬ nI a' = nI (a + 1) := by rw [n_eq (by omega) (by omega)]; exact hz
      rw [if_neg e, if_neg e, gd_t (n_inB hi4 (by omega)), gd_t (n_inB hi4 (by omega)), n_tn (by omega)]
      have hC2 : LkC wi a' (i + 1) (uN ns i v) (s2 se' 5 (upd (se' 5) i (nI v))) := ⟨z6.1, z6.2.1, z6.2.2.1, fun j hj => by
        show upd (se' 5) i (nI v) j = nI (uN ns i v j)
        by_cases hx : j = i
        · rw [hx, pk_us, uN_s]
        · rw [pk_un hx, uN_n hx]; exact z6.2.2.2 j (by omega)⟩
      have hM2 : LkT g s0 i0 L a' (i + 1) (uN ns i v) (s2 s' 34 (upd (s' 34) i (nI v))) := ⟨z7.1, RepM_hi z7.2.1 (by omega), FrS_tr z7.2.2.1 (FrS_s2 (by omega)), fun j hj => by
        show upd (s' 34) i (nI v) j = nI (uN ns i v j)
        by_cases hx : j = i
        · rw [hx, pk_us, uN_s]
        · rw [pk_un hx, uN_n hx]; exact z7.2.2.2 j (by omega)⟩
      simp only [nm_s]
      rw [hmb _ hC2.2.2.1 v z5, hwn v z5]
      cases ho : okr v with
      | false =>
        simp only [nm_s, bd_s, bd2_s, Bool.false_and, b0t, zt0, if_true, isZ_gd]
        exact Or.inl ⟨a + 1, _, _, by omega, rfl, rfl, rfl, rfl, RepM_sl hM2.2.1 (by omega), FrS_tr hM2.2.2.1 (FrS_slot (by omega))⟩
      | true =>
        simp only [nm_s, bd_s, bd2_s, Bool.true_and, b1f, if_false, isZ_gd]
        cases hx : ex v with
        | false =>
          simp only [b0t, zt0, if_true, bd2_s]
          obtain ⟨s'', y1, y2, y3, y4⟩ := hbad v a' _ z5 ho hx z4 hM2
          exact Or.inl ⟨a + 1, _, s'', by omega, rfl, y1, rfl, y2, y3, y4⟩
        | true =>
          simp only [b1f, onef, if_false, bd2_s]
          exact next v a' _ _ z5 ho hx (by omega) z4 hC2 hM2
  · unfold f_X7_number
    rw [pass_n h2 hL haL (by decide) hC.1 hh, is_n h8 hL hq haL (by decide) hM.1.1 hM.1.2.1 hM.1.2.2 hh, bd2_s, bd2_s, if_pos zz32, if_pos zz32, bd2_s, if_pos zz32]
    exact Or.inl ⟨a, _, _, by omega, rfl, rfl, rfl, hM.1.2.1, hM.2.1, hM.2.2.1⟩
-- a word's letters
theorem ch_ok : ∀ wi, wi < 6 → ∀ j, j < tLen.getD wi 0 → ¬ tCh wi (nI j) = 0 ∧ ¬ tCh wi (nI j) = mI := by decide
theorem len_6 : ∀ wi, wi < 6 → tLen.getD wi 0 ≤ 6 ∧ tLn wi = nI (tLen.getD wi 0) := by decide
theorem word_j (h8 : i0 < 8) (h2 : rw i0 0 2 = nI L) (hL : L ≤ 160) (hq : ∀ j, j < L → re i0 j = sq (160 * i0 + j)) {wi : Nat} (hw : wi < 6) {ns : Nat → Nat} (K : GS → Option (Int32 × GS)) : ∀ (n j a : Nat) (se s : GS), j ≤ tLen.getD wi 0 → tLen.getD wi 0 - j < n → a ≤ L → LkC wi a 0 ns se → LkT g s0 i0 L a 0 ns s → FailO g s0 (f_X4_readItem_L41 (rw i0) (re i0) wi K n (nI j) se) (f_X7_word_L2 sq wi n (nI j) s) ∨ ∃ se' s', f_X4_readItem_L41 (rw i0) (re i0) wi K n (nI j) se = K se' ∧ f_X7_word_L2 sq wi n (nI j) s = some ((1 : Int32), s') ∧ a + (tLen.getD wi 0 - j) ≤ L ∧ LkC wi (a + (tLen.getD wi 0 - j)) 0 ns se' ∧ LkT g s0 i0 L (a + (tLen.getD wi 0 - j)) 0 ns s'
  | 0, j, a, se, s, _, h, _, _, _ => by omega
  | n + 1, j, a, se, s, q1, q2, q3, hC, hM => by
    obtain ⟨l1, l2⟩ := len_6 wi hw
    have hg : ∀ a : Option (Int32 × GS), gd (decide (wi < 6)) a = a := fun a => gd_t (decide_eq_true hw)
    rw [f_X4_readItem_L41.eq_2, f_X7_word_L2.eq_2]
    simp only [hg, l2]
    by_cases hj : j < tLen.getD wi 0
    · have c1 : ¬ nI (tLen.getD wi 0) ≤ nI j := by rw [n_le (by omega) (by omega)]; omega
      obtain ⟨x1, x2⟩ := ch_ok wi hw j hj
      rw [if_neg c1, if_neg c1, gd_t (n_inB hj (by omega)), gd_t (n_inB hj (by omega))]
      by_cases hh : a < L ∧ cAt re i0 a = tCh wi (nI j)
      · rw [pass_y h2 hL hC.1 hh, is_y h8 hL hq hM.1.1 hM.1.2.1 hM.1.2.2 hh, bd2_s, bd2_s, if_neg one_nz, if_neg one_nz, nm_s, nm_s, n_s]
        have ih := word_j h8 h2 hL hq hw K n (j + 1) (a + 1) (s2 se 0 (upd (se 0) 1 (nI (a + 1)))) (s2 s 0 (upd (s 0) 32 (nI (a + 1)))) (by omega) (by omega) (by omega) ⟨rfl, hC.2.1, hC.2.2.1, hC.2.2.2⟩ ⟨⟨hM.1.1, rfl, hM.1.2.2⟩, RepM_sl hM.2.1 (by omega), FrS_tr hM.2.2.1 (FrS_slot (by omega)), hM.2.2.2⟩
        rw [show a + 1 + (tLen.getD wi 0 - (j + 1)) = a + (tLen.getD wi 0 - j) by omega] at ih
        exact ih
      · rw [pass_n h2 hL q3 x1 hC.1 hh, is_n h8 hL hq q3 x2 hM.1.1 hM.1.2.1 hM.1.2.2 hh, bd2_s, bd2_s, if_pos zz32, if_pos zz32]
        exact Or.inl ⟨a, _, _, by omega, rfl, rfl, rfl, hM.1.2.1, hM.2.1, hM.2.2.1⟩
    · have c1 : nI (tLen.getD wi 0) ≤ nI j := by rw [n_le (by omega) (by omega)]; omega
      rw [if_pos c1, if_pos c1, show tLen.getD wi 0 - j = 0 by omega, Nat.add_zero]
      exact Or.inr ⟨se, s, rfl, rfl, q3, hC, hM⟩
theorem L88_s {n i wi : Nat} {se : GS} (hw : wi < 6) (h3 : se 0 3 = nI wi) (hi : i < 10) (hn : ¬ tbNums wi ≤ nI i) : f_X4_readItem_L88 (rw i0) (re i0) r2 (n + 1) (nI i) se = bd2 (f_X4_passLetter se (rw i0) (re i0) (32 : Int32)) (fun r se30 => if r = 0 then some ((0 : Int32), se30) else bd2 (f_X4_readNumber se30 (rw i0) (re i0) r2 (nI i)) (fun r33 se34 => if r33 = 0 then some ((0 : Int32), se34) else f_X4_readItem_L88 (rw i0) (re i0) r2 n (nI (i + 1)) se34)) := by
  rw [f_X4_readItem_L88.eq_2, h3, gd_t (n_inB hw (by omega)), n_tn (by omega), if_neg hn]
  simp only [nm_s, n_s]
theorem L88_e {n i wi : Nat} {se : GS} (hw : wi < 6) (h3 : se 0 3 = nI wi) (hn : tbNums wi ≤ nI i) : f_X4_readItem_L88 (rw i0) (re i0) r2 (n + 1) (nI i) se = some ((1 : Int32), se) := by
  rw [f_X4_readItem_L88.eq_2, h3, gd_t (n_inB hw (by omega)), n_tn (by omega), if_pos hn]
-- what an item makes
def ItG (B L a : Nat) (g : AG) (s0 r2 : GS) (i0 : Nat) (se s : GS) : Prop := ∃ r2' g' a', f_X4_comeTrue se r2 = some r2' ∧ RepR g' r2' ∧ (s 0 31 = nI i0 ∧ s 0 32 = nI a' ∧ s 2 i0 = nI L) ∧ RepM g' s ∧ FrS s0 s ∧ Wf (B + 999) g' ∧ r2' 0 17 = r2 0 17 ∧ aP g ≤ aP g' ∧ a + 6 ≤ a' ∧ a' ≤ L ∧ se 0 1 = nI a' ∧ se 0 2 = mI
end TX
