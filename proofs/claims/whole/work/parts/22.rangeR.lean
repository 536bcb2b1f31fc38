-- the class's Range: reads
section RR
variable {B : Nat} {g : AG} {r : GS}
theorem isPk_eq {x p : Int32} {n : Nat} (hp : p = nI n) : (if x < 0 then (some (0 : Int32)) else (if p ≤ x then (some (0 : Int32)) else (some (1 : Int32)))) = some (bI (isIx x n)) := by
  subst hp
  unfold isIx bI
  by_cases h1 : x < 0
  · rw [if_pos h1]; simp [h1]
  · rw [if_neg h1]
    by_cases h2 : nI n ≤ x
    · rw [if_pos h2]
      have h3 : ¬ x < nI n := Int32.not_lt.mpr h2
      simp [h3]
    · rw [if_neg h2]
      have h3 : x < nI n := Int32.not_le.mp h2
      simp [h1, h3]
theorem pR_isPeak (h : RepR g r) (x : Int32) : f_X3_isPeak r x = some (bI (isIx x (aP g))) := by
  unfold f_X3_isPeak
  exact isPk_eq h.1.1
theorem pR_isValley (h : RepR g r) (x : Int32) : f_X3_isValley r x = some (bI (isIx x (aV g))) := by
  unfold f_X3_isValley
  exact isPk_eq h.1.2.2.2.1
theorem p_bit {w i : Nat} (hw : w < 2147483648) (hi : i < 32) : f_X6_bit (nI w) (nI i) = some (bI (w.testBit i)) := by
  unfold f_X6_bit
  rw [n_bit hw hi]
-- whether an Int32 names one that stands
def isSt (g : AG) (x : Int32) : Bool := isIx x (aP g) && stB g x.toNatClampNeg
theorem isSt_n (h : WfN B g) {i : Nat} (hi : i < 2147483648) : isSt g (nI i) = stB g i := by
  unfold isSt
  rw [isIx_n hi (by have := h.1.1; omega), n_tn hi]
  by_cases hp : i < aP g
  · simp [hp]
  · have : stB g i = false := tb_hi h.1.2.2.2.2.2 (by omega)
    simp [this]
theorem pR_isStanding (h : RepR g r) (w : WfN B g) (x : Int32) : f_X3_isStanding r x = some (bI (isSt g x)) := by
  unfold f_X3_isStanding isSt
  rw [pR_isPeak h, bd_s]
  cases hx : isIx x (aP g) with
  | false => rw [if_pos (by rfl)]; rfl
  | true =>
    obtain ⟨i, hi, rfl⟩ := isIx_of (by have := w.1.1; omega) hx
    rw [if_neg (by decide), h.1.2.1, p_bit (by have := Wf.wlt w; omega) (by have := w.1.1; omega), bd_s, n_tn (by have := w.1.1; omega)]
    show _ = some (bI (true && (aW g).testBit i))
    cases (aW g).testBit i <;> rfl
theorem pR_hasPeakAt_L2 (h : RepR g r) (w : WfN B g) {q : Nat} (hq : q < 1000) : ∀ (n i : Nat), i ≤ aP g → aP g - i < n → (∀ j, j < i → ¬ g 3 j = q) → f_X3_hasPeakAt_L2 r (nI q) n (nI i) = some (bI (anyF (fun j => decide (g 3 j = q)) (aP g)))
  | 0, i, _, h2, _ => by omega
  | n + 1, i, h1, h2, h3 => by
    have hp := w.1.1
    rw [f_X3_hasPeakAt_L2.eq_2, h.1.1, ifc (n_le (by omega) (by omega))]
    by_cases hi : i < aP g
    · have h5 := (w.2.1 i hi).2.2.1
      rw [if_neg (by omega), gd_t (n_inB (by omega) (by omega)), n_tn (by omega), (h.2.1 i hi).2.2.1, ifc (n_eq (by omega) (by omega))]
      by_cases hc : g 3 i = q
      · rw [if_pos hc, anyF_yes hi (by simpa using hc)]; rfl
      · rw [if_neg hc, nm_s, n_s]
        exact pR_hasPeakAt_L2 h w hq n (i + 1) (by omega) (by omega) (fun j hj => by
          by_cases hji : j = i
          · subst hji; exact hc
          · exact h3 j (by omega))
    · rw [if_pos (by omega), anyF_no fun j hj => by simpa using h3 j (by omega)]; rfl
theorem pR_hasPeakAt (h : RepR g r) (w : WfN B g) {q : Nat} (hq : q < 1000) : f_X3_hasPeakAt r (nI q) = some (bI (anyF (fun j => decide (g 3 j = q)) (aP g))) :=
  pR_hasPeakAt_L2 h w hq 2000 0 (by omega) (by have := w.1.1; omega) (fun j hj => by omega)
theorem pR_hasStandingPeakAt_L2 (h : RepR g r) (w : WfN B g) {q : Nat} (hq : q < 1000) : ∀ (n i : Nat), i ≤ aP g → aP g - i < n → (∀ j, j < i → (decide (g 3 j = q) && stB g j) = false) → f_X3_hasStandingPeakAt_L2 r (nI q) n (nI i) = some (bI (anyF (fun j => decide (g 3 j = q) && stB g j) (aP g)))
  | 0, i, _, h2, _ => by omega
  | n + 1, i, h1, h2, h3 => by
    have hp := w.1.1
    rw [f_X3_hasStandingPeakAt_L2.eq_2, h.1.1, ifc (n_le (by omega) (by omega))]
    by_cases hi : i < aP g
    · have h5 := (w.2.1 i hi).2.2.1
      rw [if_neg (by omega), gd_t (n_inB (by omega) (by omega)), n_tn (by omega), (h.2.1 i hi).2.2.1, ifc (n_eq (by omega) (by omega))]
      have next : (decide (g 3 i = q) && stB g i) = false → f_X3_hasStandingPeakAt_L2 r (nI q) n (nI i + 1) = some (bI (anyF (fun j => decide (g 3 j = q) && stB g j) (aP g))) := fun hf => by
        rw [n_s]
        exact pR_hasStandingPeakAt_L2 h w hq n (i + 1) (by omega) (by omega) (fun j hj => by
          by_cases hji : j = i
          · subst hji; exact hf
          · exact h3 j (by omega))
      by_cases hc : g 3 i = q
      · rw [if_pos hc, pR_isStanding h w, bd_s, isSt_n w (by omega), ifc (bI_0 _)]
        cases hs : stB g i with
        | false => rw [if_pos rfl, nm_s]; exact next (by rw [hs]; simp)
        | true => rw [if_neg (by simp), anyF_yes hi (by simp [hc, hs])]; rfl
      · rw [if_neg hc, nm_s]
        exact next (by simp [hc])
    · rw [if_pos (by omega), anyF_no fun j hj => h3 j (by omega)]; rfl
theorem pR_hasStandingPeakAt (h : RepR g r) (w : WfN B g) {q : Nat} (hq : q < 1000) : f_X3_hasStandingPeakAt r (nI q) = some (bI (anyF (fun j => decide (g 3 j = q) && stB g j) (aP g))) :=
  pR_hasStandingPeakAt_L2 h w hq 2000 0 (by omega) (by have := w.1.1; omega) (fun j hj => by omega)
theorem pR_seesPeak (h : RepR g r) (w : WfN B g) {i j : Nat} (hi : i < aP g) (hj : j < aP g) : f_X3_seesPeak r (nI i) (nI j) = some (bI (seB g i j)) := by
  have hp := w.1.1
  unfold f_X3_seesPeak
  rw [gd_t (n_inB (by omega) (by omega)), n_tn (by omega), (h.2.1 i hi).2.2.2.2.2, p_bit (by have := Wf.slt w hi; omega) (by omega), bd_s]
  show _ = some (bI ((g 7 i).testBit j))
  cases (g 7 i).testBit j <;> rfl
theorem pR_sinceOf (h : RepR g r) (w : WfN B g) {i j : Nat} (hi : i < aP g) (hj : j < aP g) (hs : seB g i j = true) : f_X3_sinceOf r (nI i) (nI j) = some (nI (g 8 (10 * i + j))) := by
  have hp := w.1.1
  unfold f_X3_sinceOf
  rw [show (10 : Int32) = nI 10 from rfl, n_mul, n_add, gd_t (n_inB (by omega) (by omega)), n_tn (by omega), show i * 10 + j = 10 * i + j by omega, h.2.2.1 i j hi hj hs]
theorem pR_sightOf (h : RepR g r) (w : WfN B g) {i : Nat} (hi : i < aP g) : f_X3_sightOf r (nI i) = some (nI (10 * g 2 i + 10)) := by
  have hp := w.1.1
  unfold f_X3_sightOf
  rw [gd_t (n_inB (by omega) (by omega)), n_tn (by omega), (h.2.1 i hi).2.1, show (10 : Int32) = nI 10 from rfl, n_mul, n_add]
theorem pR_lineOver (h : RepR g r) (w : WfN B g) {i j q : Nat} (hi : i < aP g) (hj : j < aP g) (h1 : g 3 i ≤ q) (h2 : q ≤ g 3 j) : f_X3_lineOver r (nI i) (nI j) (nI q) = some (nI (g 4 i * (g 3 j - q) + g 4 j * (q - g 3 i))) := by
  have hp := w.1.1
  unfold f_X3_lineOver
  rw [gd_t (n_inB (by omega) (by omega)), gd_t (n_inB (by omega) (by omega)), gd_t (n_inB (by omega) (by omega)), gd_t (n_inB (by omega) (by omega)), n_tn (by omega), n_tn (by omega), (h.2.1 i hi).2.2.1, (h.2.1 i hi).2.2.2.1, (h.2.1 j hj).2.2.1, (h.2.1 j hj).2.2.2.1, n_sub h2, n_sub h1, n_mul, n_mul, n_add]
theorem line_lt {a b c d : Nat} (ha : a < 1000) (hb : b ≤ 100) (hc : c < 1000) (hd : d ≤ 100) : a * b + c * d ≤ 200000 := by
  have h1 : a * b ≤ 1000 * 100 := Nat.mul_le_mul (by omega) hb
  have h2 : c * d ≤ 1000 * 100 := Nat.mul_le_mul (by omega) hd
  omega
theorem pR_blocks (h : RepR g r) (w : WfN B g) {i j q t : Nat} (hi : i < aP g) (hj : j < aP g) (hq : q < 100) (ht : t < 1000) : f_X3_blocks r (nI i) (nI j) (nI q) (nI t) = some (bI (blk g i j q t)) := by
  have hp := w.1.1
  have hwi := w.2.1 i hi
  have hwj := w.2.1 j hj
  unfold f_X3_blocks blk
  rw [gd_t (n_inB (by omega) (by omega)), n_tn (by omega), (h.2.1 i hi).2.2.1, ifc (n_le (by omega) (by omega))]
  by_cases h1 : q ≤ g 3 i
  · rw [if_pos h1]
    have : ¬ g 3 i < q := by omega
    simp [this, bI]
  · rw [if_neg h1, gd_t (n_inB (by omega) (by omega)), n_tn (by omega), (h.2.1 j hj).2.2.1, ifc (n_le (by omega) (by omega))]
    by_cases h2 : g 3 j ≤ q
    · rw [if_pos h2]
      have : ¬ q < g 3 j := by omega
      simp [this, bI]
    · have hl := line_lt (a := g 4 i) (b := g 3 j - q) (c := g 4 j) (d := q - g 3 i) (by omega) (by omega) (by omega) (by omega)
      have hr : t * (g 3 j - g 3 i) ≤ 1000 * 100 := Nat.mul_le_mul (by omega) (by omega)
      rw [if_neg h2, gd_t (n_inB (by omega) (by omega)), gd_t (n_inB (by omega) (by omega)), pR_lineOver h w hi hj (by omega) (by omega), bd_s, n_sub (by omega), n_mul, ifc (n_lt (by omega) (by omega))]
      have a1 : g 3 i < q := by omega
      have a2 : q < g 3 j := by omega
      by_cases h3 : t * (g 3 j - g 3 i) < g 4 i * (g 3 j - q) + g 4 j * (q - g 3 i)
      · rw [if_pos h3]
        have : ¬ g 4 i * (g 3 j - q) + g 4 j * (q - g 3 i) ≤ t * (g 3 j - g 3 i) := by omega
        simp [a1, a2, this, bI]
      · rw [if_neg h3]
        have : g 4 i * (g 3 j - q) + g 4 j * (q - g 3 i) ≤ t * (g 3 j - g 3 i) := by omega
        simp [a1, a2, this, bI]
end RR
