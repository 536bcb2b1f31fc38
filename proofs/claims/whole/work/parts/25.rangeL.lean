-- the class's Range: who sees whom is looked up anew
def RepB (g : AG) (r : GS) : Prop :=
  (r 0 0 = nI (aP g) ∧ r 0 1 = nI (aW g) ∧ r 0 10 = nI (aS g) ∧ r 0 13 = nI (aV g) ∧ r 0 16 = nI (aY g)) ∧
  (∀ i, i < aP g → r 3 i = nI (g 1 i) ∧ r 4 i = nI (g 2 i) ∧ r 5 i = nI (g 3 i) ∧ r 6 i = nI (g 4 i) ∧ r 7 i = nI (g 5 i)) ∧
  (∀ i, i < aS g → r 12 i = nI (g 9 i) ∧ r 13 i = nI (g 10 i)) ∧
  (∀ i, i < aV g → r 15 i = nI (g 11 i) ∧ r 16 i = nI (g 12 i))
-- numbers in their bounds, whatever who sees whom (sees: any masks)
def WfL (B : Nat) (g : AG) : Prop :=
  (aP g ≤ 10 ∧ aS g ≤ 6 ∧ aV g ≤ 8 ∧ aY g ≤ B ∧ B ≤ 20000000 ∧ aW g < 2 ^ aP g) ∧
  (∀ i, i < aP g → g 1 i < 7 ∧ g 2 i < 10 ∧ g 3 i < 100 ∧ (1 ≤ g 4 i ∧ g 4 i < 1000) ∧ g 5 i ≤ 3 * B ∧ g 7 i < 2 ^ 10) ∧
  (∀ i j, i < aP g → j < aP g → seB g i j = true → g 8 (10 * i + j) ≤ aY g) ∧
  (∀ i, i < aS g → g 9 i < 100 ∧ (1 ≤ g 10 i ∧ g 10 i < 1000)) ∧
  (∀ i, i < aV g → g 11 i < 1000 ∧ g 12 i < 2 ^ aP g) ∧
  (∀ i j, i < aP g → j < aP g → g 3 i = g 3 j → i = j)
-- g with no one seeing any one (the reads of places need no more)
def noSee (g : AG) : AG := fun k => if k = 7 then (fun _ => 0) else g k
theorem noSee_wf {B : Nat} {g : AG} (w : WfL B g) : WfN B (noSee g) := by
  refine ⟨w.1, fun i hi => ?_, fun i j hi hj hs => ?_, w.2.2.2.1, w.2.2.2.2.1, w.2.2.2.2.2⟩
  · obtain ⟨h1, h2, h3, h4, h5, -⟩ := w.2.1 i hi
    exact ⟨h1, h2, h3, h4, h5, Nat.two_pow_pos _⟩
  · have : seB (noSee g) i j = false := Nat.zero_testBit j
    rw [this] at hs; cases hs
def LkS (g : AG) (r : GS) (D : Nat → Nat → Bool) : Prop :=
  RepB g r ∧ (∀ i, i < aP g → r 10 i = nI (g 7 i)) ∧ (∀ i, i < aP g → r 8 i = nI (msk (D i) (aP g))) ∧
  (∀ i j, i < aP g → j < aP g → D i j = true → r 9 (10 * i + j) = nI (if seB g i j = true then g 8 (10 * i + j) else aY g)) ∧
  (∀ i j, i < aP g → j < aP g → seB g i j = true → r 9 (10 * i + j) = nI (g 8 (10 * i + j)))
theorem LkS.congr {g : AG} {r : GS} {D D' : Nat → Nat → Bool} (h : LkS g r D) (he : ∀ i j, i < aP g → j < aP g → D' i j = D i j) : LkS g r D' := by
  refine ⟨h.1, h.2.1, fun i hi => ?_, fun i j hi hj hd => h.2.2.2.1 i j hi hj (by rw [← he i j hi hj]; exact hd), h.2.2.2.2⟩
  rw [h.2.2.1 i hi]
  exact congrArg nI (msk_congr fun j hj => (he i j hi hj).symm)
theorem LkS.repN {g : AG} {r : GS} {D : Nat → Nat → Bool} (h : LkS g r D) : RepR (noSee g) (s2 r 8 (fun _ => 0)) := by
  obtain ⟨⟨h1, h2, h3, h4⟩, -⟩ := h
  refine ⟨h1, fun i hi => ?_, fun i j hi hj hs => ?_, h3, h4⟩
  · obtain ⟨a1, a2, a3, a4, a5⟩ := h2 i hi
    exact ⟨a1, a2, a3, a4, a5, rfl⟩
  · have : seB (noSee g) i j = false := Nat.zero_testBit j
    rw [this] at hs; cases hs
theorem blk_noSee (g : AG) (l r a t : Nat) : blk (noSee g) l r a t = blk g l r a t := rfl
theorem freeB_noSee (g : AG) (l r : Nat) : freeB (noSee g) l r = freeB g l r := rfl
-- what does not read who sees whom
theorem isStanding_8 (r : GS) (f : Nat → Int32) (x : Int32) : f_X3_isStanding (s2 r 8 f) x = f_X3_isStanding r x := rfl
theorem lineOver_8 (r : GS) (f : Nat → Int32) (x y z : Int32) : f_X3_lineOver (s2 r 8 f) x y z = f_X3_lineOver r x y z := rfl
theorem blocks_8 (r : GS) (f : Nat → Int32) (x y z u : Int32) : f_X3_blocks (s2 r 8 f) x y z u = f_X3_blocks r x y z u := rfl
theorem free49_8 (r : GS) (f : Nat → Int32) (x y : Int32) : ∀ (n : Nat) (i : Int32), f_X3_isFreeBetween_L49 (s2 r 8 f) x y n i = f_X3_isFreeBetween_L49 r x y n i
  | 0, _ => rfl
  | n + 1, i => by
    rw [f_X3_isFreeBetween_L49.eq_2, f_X3_isFreeBetween_L49.eq_2]
    simp only [blocks_8, free49_8 r f x y n]
    rfl
theorem free2_8 (r : GS) (f : Nat → Int32) (x y : Int32) (K : Option Int32) : ∀ (n : Nat) (i : Int32), f_X3_isFreeBetween_L2 (s2 r 8 f) x y K n i = f_X3_isFreeBetween_L2 r x y K n i
  | 0, _ => rfl
  | n + 1, i => by
    rw [f_X3_isFreeBetween_L2.eq_2, f_X3_isFreeBetween_L2.eq_2]
    simp only [blocks_8, isStanding_8, free2_8 r f x y K n]
    rfl
theorem free_8 (r : GS) (f : Nat → Int32) (x y : Int32) : f_X3_isFreeBetween (s2 r 8 f) x y = f_X3_isFreeBetween r x y := by
  unfold f_X3_isFreeBetween
  rw [free2_8, free49_8]
section RL
variable {B : Nat} {g : AG} {r : GS} {D : Nat → Nat → Bool}
theorem lk_standing (h : LkS g r D) (w : WfL B g) {i : Nat} (hi : i < 1000) : f_X3_isStanding r (nI i) = some (bI (stB g i)) := by
  rw [← isStanding_8 r (fun _ => 0), pR_isStanding h.repN (noSee_wf w), isSt_n (noSee_wf w) (by omega)]
  rfl
theorem lk_free (h : LkS g r D) (w : WfL B g) {i j : Nat} (hi : i < aP g) (hj : j < aP g) : f_X3_isFreeBetween r (nI i) (nI j) = some (bI (freeB g i j)) := by
  rw [← free_8 r (fun _ => 0), pR_isFreeBetween h.repN (noSee_wf w) hi hj, freeB_noSee]
def upD (D : Nat → Nat → Bool) (p q : Nat) : Nat → Nat → Bool := fun i j => D i j || (i == p && j == q)
theorem msk_or {f h : Nat → Bool} {n q : Nat} (hq : q < n) (he : ∀ j, h j = (f j || j == q)) : msk f n ||| 2 ^ q = msk h n := by
  apply Nat.eq_of_testBit_eq
  intro j
  rw [Nat.testBit_or, msk_bit, msk_bit, tb_two, he]
  by_cases hj : j = q
  · subst hj; simp [hq]
  · have h1 : ¬ q = j := fun e => hj e.symm
    have h2 : (j == q) = false := by simpa using hj
    rw [h2]
    simp [h1]
theorem jabs_sub {a b : Nat} (ha : a < 100) (hb : b < 100) : jabs (nI a - nI b) = nI (if a < b then b - a else a - b) := by
  unfold jabs
  by_cases h : a < b
  · rw [if_pos h]
    have h1 : nI a - nI b < 0 := pk_sneg (by omega) h
    rw [if_neg (Int32.not_le.mpr h1)]
    apply Int32.toInt_inj.mp
    have h2 : (nI a - nI b).toInt = (a : Int) - b := pk_sub_toInt (by omega) (by omega)
    have h3 : (nI (b - a)).toInt = ((b - a : Nat) : Int) := n_toInt (by omega)
    rw [h3, Int32.toInt_sub, h2]
    have h0 : (0 : Int32).toInt = 0 := rfl
    rw [h0, Int.bmod_eq_of_le (by omega) (by omega)]
    omega
  · rw [if_neg h, n_sub (by omega), if_pos (nI_pos' (by omega))]
theorem lk_lookFrom (h : LkS g r D) (w : WfL B g) {p q : Nat} (hp : p < aP g) (hq : q < aP g) (hst : stB g p = true) (hpq : p ≠ q) : ∃ r', f_X3_lookFrom r (nI p) (nI q) = some r' ∧ LkS g r' (if nearB g p q = true then upD D p q else D) ∧ r' 0 = r 0 := by
  have hP := w.1.1
  have hwp := w.2.1 p hp
  have hwq := w.2.1 q hq
  have hb := h.1.2.1 p hp
  have hbq := h.1.2.1 q hq
  have hmask : msk (D p) (aP g) < 2 ^ aP g := msk_lt _ _
  have key : ∃ r', f_X3_lookFrom_J38 (nI p) (nI q) r = some r' ∧ LkS g r' (upD D p q) ∧ r' 0 = r 0 := by
    unfold f_X3_lookFrom_J38
    rw [gd_t (n_inB (by omega) (by omega)), nm_s, gd_t (n_inB (by omega) (by omega)), nm_s, gd_t (n_inB (by omega) (by omega)), n_tn (by omega), h.2.2.1 p hp, n_shl (by omega), n_or, s2_ne (by decide), h.2.1 p hp, p_bit (by have : (2:Nat) ^ 10 = 1024 := rfl; omega) (by omega), bd_s, ifc (bI_0 _)]
    have hrow : ∀ i, i < aP g → (upd (r 8) p (nI (msk (D p) (aP g) ||| 2 ^ q))) i = nI (msk (upD D p q i) (aP g)) := fun i hi => by
      by_cases hip : i = p
      · subst hip
        rw [pk_us]
        exact congrArg nI (msk_or hq fun j => by simp [upD])
      · rw [pk_un hip, h.2.2.1 i hi]
        exact congrArg nI (msk_congr fun j _ => by simp [upD, hip])
    cases hs : (g 7 p).testBit q with
    | true =>
      rw [if_neg (by decide)]
      refine ⟨_, rfl, ⟨h.1, h.2.1, hrow, fun i j hi hj hd => ?_, fun i j hi hj hsb => h.2.2.2.2 i j hi hj hsb⟩, rfl⟩
      by_cases hd0 : D i j = true
      · exact h.2.2.2.1 i j hi hj hd0
      · have hij : i = p ∧ j = q := by simpa [upD, hd0] using hd
        rw [hij.1, hij.2, if_pos hs]
        exact h.2.2.2.2 p q hp hq hs
    | false =>
      rw [if_pos rfl, nm_s, show (10 : Int32) = nI 10 from rfl, n_mul, n_add, gd_t (n_inB (by omega) (by omega)), nm_s, n_tn (by omega)]
      have hy : (s2 r 8 (upd (r 8) p (nI (msk (D p) (aP g) ||| 2 ^ q)))) 0 16 = nI (aY g) := h.1.1.2.2.2.2
      refine ⟨_, rfl, ⟨h.1, h.2.1, hrow, fun i j hi hj hd => ?_, fun i j hi hj hsb => ?_⟩, rfl⟩
      · show upd (r 9) (p * 10 + q) _ (10 * i + j) = _
        rw [hy]
        by_cases hij : i = p ∧ j = q
        · rw [hij.1, hij.2, show p * 10 + q = 10 * p + q by omega, pk_us, if_neg (by rw [show seB g p q = false from hs]; decide)]
        · have hne : 10 * i + j ≠ p * 10 + q := fun e => hij (by omega)
          rw [pk_un hne]
          have hd0 : D i j = true := by
            cases hx : D i j with
            | true => rfl
            | false =>
              have : (i == p && j == q) = true := by simpa [upD, hx] using hd
              simp at this
              exact absurd this hij
          exact h.2.2.2.1 i j hi hj hd0
      · show upd (r 9) (p * 10 + q) _ (10 * i + j) = _
        have hne : 10 * i + j ≠ p * 10 + q := fun e => by
          have : i = p ∧ j = q := by omega
          rw [this.1, this.2, show seB g p q = false from hs] at hsb
          cases hsb
        rw [pk_un hne]
        exact h.2.2.2.2 i j hi hj hsb
  unfold f_X3_lookFrom
  rw [gd_t (n_inB (by omega) (by omega)), n_tn (by omega), hb.1, pR_isUnder4 hwp.1, bd_s, ifc (bI_0 _)]
  cases hf : farK (g 1 p) with
  | false =>
    rw [if_pos rfl]
    have hn : nearB g p q = true := by unfold nearB; rw [hf]; rfl
    rw [hn, if_pos rfl]
    exact key
  | true =>
    have hsr : f_X3_sightOf r (nI p) = some (nI (10 * g 2 p + 10)) := by
      unfold f_X3_sightOf
      rw [gd_t (n_inB (by omega) (by omega)), n_tn (by omega), hb.2.1, show (10 : Int32) = nI 10 from rfl, n_mul, n_add]
    rw [if_neg (by decide), gd_t (n_inB (by omega) (by omega)), gd_t (n_inB (by omega) (by omega)), n_tn (by omega), hb.2.2.1, hbq.2.2.1, nm_s, jabs_sub hwp.2.2.1 hwq.2.2.1, hsr, bd_s, ifc (n_le (by split <;> omega) (by omega))]
    by_cases hd : (if g 3 p < g 3 q then g 3 q - g 3 p else g 3 p - g 3 q) ≤ 10 * g 2 p + 10
    · have hn : nearB g p q = true := by unfold nearB; rw [hf]; simp [hd]
      rw [if_pos hd, hn, if_pos rfl]
      exact key
    · have hn : nearB g p q = false := by unfold nearB; rw [hf]; simp [hd]
      rw [if_neg hd, hn, if_neg (by decide)]
      exact ⟨r, rfl, h, rfl⟩
-- pairs that have been looked at: all of rows below p, of row p those below q
def prc (p q x y : Nat) : Bool := decide (x < p) || (decide (x = p) && decide (y < q))
def dnB (g : AG) (p q i j : Nat) : Bool := visB g i j && (if g 3 i < g 3 j then prc p q i j else prc p q j i)
theorem visB_lt {i j : Nat} (h : g 3 i < g 3 j) : visB g i j = ((stB g i && stB g j) && (freeB g i j && nearB g i j)) := by unfold visB; rw [if_pos h]
theorem visB_gt {i j : Nat} (h : g 3 j < g 3 i) : visB g i j = ((stB g i && stB g j) && (freeB g j i && nearB g i j)) := by unfold visB; rw [if_neg (by omega), if_pos h]
theorem visB_eq {i j : Nat} (h : g 3 i = g 3 j) : visB g i j = false := by unfold visB; rw [if_neg (by omega), if_neg (by omega), Bool.and_false]
theorem prc_s {p q x y : Nat} : prc p (q + 1) x y = (prc p q x y || (decide (x = p) && decide (y = q))) := by
  unfold prc
  by_cases h1 : x < p
  · simp [h1]
  · by_cases h2 : x = p
    · by_cases h3 : y < q
      · have : y < q + 1 := by omega
        simp [h2, h3, this]
      · by_cases h4 : y = q
        · have : y < q + 1 := by omega
          simp [h2, h4]
        · have : ¬ y < q + 1 := by omega
          simp [h2, h3, h4, this]
    · simp [h1, h2]
theorem dnB_s {p q i j : Nat} (hl : g 3 p < g 3 q) : dnB g p (q + 1) i j = (dnB g p q i j || (visB g i j && ((decide (i = p) && decide (j = q)) || (decide (i = q) && decide (j = p))))) := by
  unfold dnB
  rw [prc_s, prc_s]
  by_cases h : g 3 i < g 3 j
  · rw [if_pos h, if_pos h]
    have h2 : (decide (i = q) && decide (j = p)) = false := by
      cases hx : (decide (i = q) && decide (j = p)) with
      | false => rfl
      | true =>
        simp at hx
        rw [hx.1, hx.2] at h
        omega
    rw [h2, Bool.or_false]
    cases visB g i j <;> simp
  · rw [if_neg h, if_neg h]
    have h2 : (decide (i = p) && decide (j = q)) = false := by
      cases hx : (decide (i = p) && decide (j = q)) with
      | false => rfl
      | true =>
        simp at hx
        rw [hx.1, hx.2] at h
        omega
    rw [h2, Bool.false_or, Bool.and_comm (decide (j = p))]
    cases visB g i j <;> simp
theorem dnB_n {p q i j : Nat} (hl : ¬ g 3 p < g 3 q) : dnB g p (q + 1) i j = dnB g p q i j := by
  unfold dnB
  rw [prc_s, prc_s]
  by_cases h : g 3 i < g 3 j
  · rw [if_pos h, if_pos h]
    have h2 : (decide (i = p) && decide (j = q)) = false := by
      cases hx : (decide (i = p) && decide (j = q)) with
      | false => rfl
      | true =>
        simp at hx
        rw [hx.1, hx.2] at h
        omega
    rw [h2, Bool.or_false]
  · rw [if_neg h, if_neg h]
    by_cases he : g 3 i = g 3 j
    · rw [visB_eq he, Bool.false_and, Bool.false_and]
    · have h2 : (decide (j = p) && decide (i = q)) = false := by
        cases hx : (decide (j = p) && decide (i = q)) with
        | false => rfl
        | true =>
          simp at hx
          rw [hx.1, hx.2] at h he
          omega
      rw [h2, Bool.or_false]
theorem lk_L47 (w : WfL B g) {p : Nat} (hp : p < aP g) (K : GS → Option GS) {Z : GS → Prop} (r0 : GS) (hK : ∀ r', LkS g r' (dnB g (p + 1) 0) → r' 0 = r0 0 → ∃ z, K r' = some z ∧ Z z) : ∀ (n q : Nat) (r : GS), q ≤ aP g → aP g - q < n → LkS g r (dnB g p q) → r 0 = r0 0 → ∃ z, f_X3_lookAround_L47 (nI p) K n (nI q) r = some z ∧ Z z
  | 0, q, r, _, h2, _, _ => by omega
  | n + 1, q, r, h1, h2, h3, h4 => by
    have hP := w.1.1
    rw [f_X3_lookAround_L47.eq_2, h3.1.1.1, ifc (n_le (by omega) (by omega))]
    by_cases hq : q < aP g
    · have hwp := w.2.1 p hp
      have hwq := w.2.1 q hq
      have nx : ∀ r', LkS g r' (dnB g p (q + 1)) → r' 0 = r0 0 → ∃ z, f_X3_lookAround_L47 (nI p) K n (nI (q + 1)) r' = some z ∧ Z z := fun r' h5 h6 => lk_L47 w hp K r0 hK n (q + 1) r' (by omega) (by omega) h5 h6
      rw [if_neg (by omega), gd_t (n_inB (by omega) (by omega)), gd_t (n_inB (by omega) (by omega)), n_tn (by omega), n_tn (by omega), (h3.1.2.1 p hp).2.2.1, (h3.1.2.1 q hq).2.2.1, ifc (n_le (by omega) (by omega))]
      by_cases hpl : g 3 q ≤ g 3 p
      · rw [if_pos hpl, nm_s, n_s]
        exact nx r (h3.congr fun i j _ _ => dnB_n (by omega)) h4
      · have hlt : g 3 p < g 3 q := by omega
        have hne : p ≠ q := fun e => by rw [e] at hlt; omega
        have same : visB g p q = false → visB g q p = false → ∃ z, f_X3_lookAround_L47 (nI p) K n (nI (q + 1)) r = some z ∧ Z z := fun hv hv2 => nx r (h3.congr fun i j _ _ => by
          rw [dnB_s hlt]
          cases hx : (visB g i j && ((decide (i = p) && decide (j = q)) || (decide (i = q) && decide (j = p)))) with
          | false => rw [Bool.or_false]
          | true =>
            simp at hx
            rcases hx.2 with ⟨e1, e2⟩ | ⟨e1, e2⟩
            · rw [e1, e2, hv] at hx; simp at hx
            · rw [e1, e2, hv2] at hx; simp at hx) h4
        rw [if_neg hpl, lk_standing h3 w (by omega), bd_s, ifc (bI_0 _)]
        cases hsp : stB g p with
        | false =>
          rw [if_pos rfl, nm_s, n_s]
          exact same (by rw [visB_lt hlt, hsp]; rfl) (by rw [visB_gt hlt, hsp]; simp)
        | true =>
          rw [if_neg (by decide), lk_standing h3 w (by omega), bd_s, ifc (bI_0 _)]
          cases hsq : stB g q with
          | false =>
            rw [if_pos rfl, nm_s, n_s]
            exact same (by rw [visB_lt hlt, hsq]; simp) (by rw [visB_gt hlt, hsq]; rfl)
          | true =>
            rw [if_neg (by decide), lk_free h3 w hp hq, bd_s, ifc (bI_0 _)]
            cases hfr : freeB g p q with
            | false =>
              rw [if_pos rfl, nm_s, n_s]
              exact same (by rw [visB_lt hlt, hfr]; simp) (by rw [visB_gt hlt, hfr]; simp)
            | true =>
              obtain ⟨r1, e1, k1, z1⟩ := lk_lookFrom h3 w hp hq hsp hne
              obtain ⟨r2, e2, k2, z2⟩ := lk_lookFrom k1 w hq hp hsq (Ne.symm hne)
              rw [if_neg (by decide), e1, bd_s, e2, bd_s, nm_s, n_s]
              refine nx r2 (k2.congr fun i j _ _ => ?_) (by rw [z2, z1, h4])
              have v1 : visB g p q = nearB g p q := by rw [visB_lt hlt, hsp, hsq, hfr]; rfl
              have v2 : visB g q p = nearB g q p := by rw [visB_gt hlt, hsp, hsq, hfr]; rfl
              rw [dnB_s hlt]
              have hi1 : (i == p) = decide (i = p) := by by_cases hx : i = p <;> simp [hx]
              by_cases c1 : i = p ∧ j = q
              · obtain ⟨rfl, rfl⟩ := c1
                rw [v1]
                have hd : dnB g i j i j = false := by
                  unfold dnB prc
                  rw [if_pos hlt]
                  simp
                have hq2 : (i == j) = false := by simpa using hne
                rw [hd]
                cases n1 : nearB g i j <;> cases n2 : nearB g j i <;> simp [upD, hd, hne]
              · by_cases c2 : i = q ∧ j = p
                · obtain ⟨rfl, rfl⟩ := c2
                  rw [v2]
                  have hd : dnB g j i i j = false := by
                    unfold dnB prc
                    rw [if_neg (by omega)]
                    simp
                  have hne2 : ¬ i = j := fun e => hne e.symm
                  rw [hd]
                  cases n1 : nearB g j i <;> cases n2 : nearB g i j <;> simp [upD, hd, hne2]
                · have e1 : (decide (i = p) && decide (j = q)) = false := by simpa using c1
                  have e2 : (decide (i = q) && decide (j = p)) = false := by simpa using c2
                  have e3 : (i == p && j == q) = false := by simpa using c1
                  have e4 : (i == q && j == p) = false := by simpa using c2
                  rw [e1, e2]
                  cases n1 : nearB g p q <;> cases n2 : nearB g q p <;> simp [upD, e3, e4]
    · have : q = aP g := by omega
      subst this
      rw [if_pos (by omega)]
      refine hK r (h3.congr fun i j hi hj => ?_) h4
      unfold dnB
      have e1 : prc (p + 1) 0 i j = prc p (aP g) i j := by
        unfold prc
        by_cases h5 : i < p
        · have : i < p + 1 := by omega
          simp [h5, this]
        · by_cases h6 : i = p
          · have : i < p + 1 := by omega
            simp [h6, hj]
          · have : ¬ i < p + 1 := by omega
            simp [h5, h6, this]
      have e2 : prc (p + 1) 0 j i = prc p (aP g) j i := by
        unfold prc
        by_cases h5 : j < p
        · have : j < p + 1 := by omega
          simp [h5, this]
        · by_cases h6 : j = p
          · have : j < p + 1 := by omega
            simp [h6, hi]
          · have : ¬ j < p + 1 := by omega
            simp [h5, h6, this]
      rw [e1, e2]
theorem lk_L37 (w : WfL B g) (r0 : GS) : ∀ (n p : Nat) (r : GS), p ≤ aP g → aP g - p < n → LkS g r (dnB g p 0) → r 0 = r0 0 → ∃ z, f_X3_lookAround_L37 n (nI p) r = some z ∧ (LkS g z (visB g) ∧ z 0 = r0 0)
  | 0, p, r, _, h2, _, _ => by omega
  | n + 1, p, r, h1, h2, h3, h4 => by
    have hP := w.1.1
    rw [f_X3_lookAround_L37.eq_2, h3.1.1.1, ifc (n_le (by omega) (by omega))]
    by_cases hp : p < aP g
    · rw [if_neg (by omega)]
      refine lk_L47 w hp _ (Z := fun z => LkS g z (visB g) ∧ z 0 = r0 0) r0 (fun r' h5 h6 => ?_) 2000 0 r (by omega) (by omega) h3 h4
      rw [nm_s, n_s]
      exact lk_L37 w r0 n (p + 1) r' (by omega) (by omega) h5 h6
    · have : p = aP g := by omega
      subst this
      rw [if_pos (by omega)]
      refine ⟨r, rfl, h3.congr fun i j hi hj => ?_, h4⟩
      unfold dnB prc
      simp [hi, hj]
theorem lk_L2 (w : WfL B g) (r0 : GS) (hr0 : RepB g r0) (h8 : ∀ i, i < aP g → r0 8 i = nI (g 7 i)) (h9 : ∀ i j, i < aP g → j < aP g → seB g i j = true → r0 9 (10 * i + j) = nI (g 8 (10 * i + j))) (K : GS → Option GS) {Z : GS → Prop} (hK : ∀ r', LkS g r' (dnB g 0 0) → r' 0 = r0 0 → ∃ z, K r' = some z ∧ Z z) : ∀ (n p : Nat) (r : GS), p ≤ aP g → aP g - p < n → (∀ k, k ≠ 8 → k ≠ 10 → r k = r0 k) → (∀ i, i < aP g → i < p → r 10 i = nI (g 7 i) ∧ r 8 i = 0) → (∀ i, p ≤ i → r 8 i = r0 8 i) → ∃ z, f_X3_lookAround_L2 K n (nI p) r = some z ∧ Z z
  | 0, p, r, _, h2, _, _, _ => by omega
  | n + 1, p, r, h1, h2, h3, h4, h5 => by
    have hP := w.1.1
    have e0 : r 0 = r0 0 := h3 0 (by decide) (by decide)
    rw [f_X3_lookAround_L2.eq_2, e0, hr0.1.1, ifc (n_le (by omega) (by omega))]
    by_cases hp : p < aP g
    · rw [if_neg (by omega), gd_t (n_inB (by omega) (by omega)), nm_s, gd_t (n_inB (by omega) (by omega)), nm_s, gd_t (n_inB (by omega) (by omega)), nm_s, nm_s, n_s, n_tn (by omega)]
      refine lk_L2 w r0 hr0 h8 h9 K hK n (p + 1) _ (by omega) (by omega) (fun k k1 k2 => ?_) (fun i hi hip => ?_) (fun i hip => ?_)
      · rw [s2_ne k1, s2_ne k2]; exact h3 k k1 k2
      · by_cases hx : i = p
        · subst hx
          refine ⟨?_, ?_⟩
          · show upd (r 10) i (r 8 i) i = _
            rw [pk_us, h5 i (Nat.le_refl _), h8 i hi]
          · show upd (r 8) i 0 i = 0
            rw [pk_us]
        · have h6 := h4 i hi (by omega)
          refine ⟨?_, ?_⟩
          · show upd (r 10) p (r 8 p) i = _
            rw [pk_un hx, h6.1]
          · show upd (r 8) p 0 i = 0
            rw [pk_un hx, h6.2]
      · show upd (r 8) p 0 i = _
        rw [pk_un (by omega), h5 i (by omega)]
    · have : p = aP g := by omega
      subst this
      rw [if_pos (by omega)]
      refine hK r ⟨?_, fun i hi => (h4 i hi hi).1, fun i hi => ?_, fun i j hi hj hd => ?_, fun i j hi hj hs => ?_⟩ e0
      · obtain ⟨b1, b2, b3, b4⟩ := hr0
        refine ⟨by rw [e0]; exact b1, ?_, ?_, ?_⟩
        · rw [h3 3 (by decide) (by decide), h3 4 (by decide) (by decide), h3 5 (by decide) (by decide), h3 6 (by decide) (by decide), h3 7 (by decide) (by decide)]; exact b2
        · rw [h3 12 (by decide) (by decide), h3 13 (by decide) (by decide)]; exact b3
        · rw [h3 15 (by decide) (by decide), h3 16 (by decide) (by decide)]; exact b4
      · rw [(h4 i hi hi).2]
        have : msk (dnB g 0 0 i) (aP g) = 0 := by
          apply Nat.eq_of_testBit_eq
          intro j
          rw [msk_bit, Nat.zero_testBit]
          unfold dnB prc
          simp
        rw [this]; rfl
      · unfold dnB prc at hd
        simp at hd
      · rw [h3 9 (by decide) (by decide)]; exact h9 i j hi hj hs
-- the value behind a look
def lookA (g : AG) : AG := fun k => if k = 7 then (fun i => msk (visB g i) (aP g)) else if k = 8 then (fun x => if seB g (x / 10) (x % 10) = true then g 8 x else aY g) else g k
theorem pR_lookAround (w : WfL B g) (hr : RepB g r) (h8 : ∀ i, i < aP g → r 8 i = nI (g 7 i)) (h9 : ∀ i j, i < aP g → j < aP g → seB g i j = true → r 9 (10 * i + j) = nI (g 8 (10 * i + j))) : ∃ r', f_X3_lookAround r = some r' ∧ RepR (lookA g) r' ∧ r' 0 = r 0 := by
  have hP := w.1.1
  unfold f_X3_lookAround
  have h := lk_L2 w r hr h8 h9 (fun r' => f_X3_lookAround_L37 FU 0 r') (Z := fun z => LkS g z (visB g) ∧ z 0 = r 0) (fun r' h5 h6 => lk_L37 w r 2000 0 r' (by omega) (by omega) h5 h6) 2000 0 r (by omega) (by omega) (fun _ _ _ => rfl) (fun i _ hi => by omega) (fun i _ => rfl)
  obtain ⟨z, e1, k, e2⟩ := h
  refine ⟨z, e1, ?_, e2⟩
  obtain ⟨⟨b1, b2, b3, b4⟩, k1, k2, k3, k4⟩ := k
  refine ⟨b1, fun i hi => ?_, fun i j hi hj hs => ?_, b3, b4⟩
  · obtain ⟨a1, a2, a3, a4, a5⟩ := b2 i hi
    exact ⟨a1, a2, a3, a4, a5, k2 i hi⟩
  · have hv : visB g i j = true := by
      have : seB (lookA g) i j = (decide (j < aP g) && visB g i j) := msk_bit _ _ _
      have hj2 : j < aP g := hj
      rw [this, decide_eq_true hj2, Bool.true_and] at hs
      exact hs
    rw [k3 i j hi hj hv]
    show nI _ = nI (if seB g ((10 * i + j) / 10) ((10 * i + j) % 10) = true then _ else _)
    have hj10 : j < 10 := by have : j < aP g := hj; omega
    rw [show (10 * i + j) / 10 = i by omega, show (10 * i + j) % 10 = j by omega]
theorem lookA_wf (w : WfL B g) : Wf B (lookA g) := by
  have hP := w.1.1
  have hse : ∀ i j, j < aP g → seB (lookA g) i j = visB g i j := fun i j hj => by
    have : seB (lookA g) i j = (decide (j < aP g) && visB g i j) := msk_bit _ _ _
    rw [this, decide_eq_true hj, Bool.true_and]
  refine ⟨⟨w.1, fun i hi => ?_, fun i j hi hj hs => ?_, w.2.2.2.1, w.2.2.2.2.1, w.2.2.2.2.2⟩, fun i j hi hj => hse i j hj⟩
  · obtain ⟨h1, h2, h3, h4, h5, -⟩ := w.2.1 i hi
    exact ⟨h1, h2, h3, h4, h5, msk_lt _ _⟩
  · have hi2 : i < aP g := hi
    have hj2 : j < aP g := hj
    show (if seB g ((10 * i + j) / 10) ((10 * i + j) % 10) = true then g 8 (10 * i + j) else aY g) ≤ aY g
    rw [show (10 * i + j) / 10 = i by omega, show (10 * i + j) % 10 = j by omega]
    split
    · rename_i h; exact w.2.2.1 i j hi2 hj2 h
    · exact Nat.le_refl _
end RL
