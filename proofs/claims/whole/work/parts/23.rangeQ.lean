-- the class's Range: more reads
def mournY (k a n : Nat) : Nat := if k = 2 then n / 2 else if k = 5 then min (n / 2) a else if k = 6 then n * 2 else n
def untilB (g : AG) (u q lost y : Nat) : Nat := if seB g q lost = true then max u (y + mournY (g 1 q) (g 2 q) (y - g 8 (10 * q + lost))) else u
def griefA (g : AG) (lost y : Nat) : Nat := sumF (fun q => max (untilB g (g 5 q) q lost y) y - max (g 5 q) y) (aP g)
def maxF (f : Nat → Nat) : Nat → Nat
  | 0 => 0
  | n + 1 => max (maxF f n) (f n)
def latestA (g : AG) : Nat := maxF (fun i => if stB g i = true then g 5 i else 0) (aP g)
def mournM (g : AG) (y : Nat) : Nat := msk (fun p => stB g p && decide (y < g 5 p)) (aP g)
def und1 (k : Nat) : Bool := k == 1 || k == 3
def polM (g : AG) (m : Nat) : Nat := msk (fun p => und1 (g 1 p) && !decide (g 7 p &&& m = 0)) (aP g)
def crt (g : AG) (m : Nat) : Nat → Nat
  | 0 => m
  | n + 1 => if g 1 n = 3 ∧ ¬ g 7 n &&& crt g m n = 0 then crt g m n ||| 2 ^ n else crt g m n
def blkIt (g : AG) : Nat → Nat → Nat
  | b, 0 => b
  | b, n + 1 => if crt g b (aP g) = b then b else blkIt g (crt g b (aP g)) n
def blk0 (g : AG) (y : Nat) : Nat := mournM g y ||| polM g (mournM g y)
def black (g : AG) (y : Nat) : Nat := blkIt g (blk0 g y) (aP g)
def milkA (g : AG) (v b : Nat) : Nat := if g 12 v &&& b = 0 then g 11 v else 0
def milkS (g : AG) (b : Nat) : Nat := sumF (fun v => milkA g v b) (aV g)
theorem mournY_le (k a n : Nat) : mournY k a n ≤ 2 * n := by
  unfold mournY
  split
  · omega
  · split
    · have := Nat.min_le_left (n / 2) a; omega
    · split <;> omega
theorem mournY_0 (k a : Nat) : mournY k a 0 = 0 := by
  unfold mournY
  split
  · rfl
  · split
    · simp
    · split <;> rfl
theorem crt_lt {g : AG} {m k : Nat} (hm : m < 2 ^ k) : ∀ n, n ≤ k → crt g m n < 2 ^ k
  | 0, _ => hm
  | n + 1, h => by
    have ih := crt_lt (g := g) hm n (by omega)
    unfold crt
    split
    · exact or_lt ih (two_lt (by omega))
    · exact ih
theorem j_max {a b : Nat} (ha : a < 2147483648) (hb : b < 2147483648) : jmax (nI a) (nI b) = nI (max a b) := by
  unfold jmax
  rw [ifc (n_lt ha hb)]
  by_cases h : a < b
  · rw [if_pos h, Nat.max_eq_right (by omega)]
  · rw [if_neg h, Nat.max_eq_left (by omega)]
theorem j_min {a b : Nat} (ha : a < 2147483648) (hb : b < 2147483648) : jmin (nI a) (nI b) = nI (min a b) := by
  unfold jmin
  rw [ifc (n_lt hb ha)]
  by_cases h : b < a
  · rw [if_pos h, Nat.min_eq_right (by omega)]
  · rw [if_neg h, Nat.min_eq_left (by omega)]
theorem n_half {n : Nat} (h : n < 2147483648) : nI n / (2 : Int32) = nI (n / 2) := pk_div (d := 2) h (by omega) (by omega)
theorem n_dbl (n : Nat) : nI n * (2 : Int32) = nI (n * 2) := pk_mul n 2
section RQ
variable {B : Nat} {g : AG} {r : GS}
theorem pR_mournedYears (h : RepR g r) (w : WfN B g) {i n : Nat} (hi : i < aP g) (hn : n < 1000000000) : f_X3_mournedYears r (nI i) (nI n) = some (nI (mournY (g 1 i) (g 2 i) n)) := by
  have hp := w.1.1
  have hk := (w.2.1 i hi).1
  have ha := (w.2.1 i hi).2.1
  unfold f_X3_mournedYears mournY
  rw [gd_t (n_inB (by omega) (by omega)), n_tn (by omega), (h.2.1 i hi).1]
  rw [ifc (n_e2 (by omega))]
  by_cases h2 : g 1 i = 2
  · rw [if_pos h2, if_pos h2, n_half (by omega)]
  · rw [if_neg h2, if_neg h2, ifc (n_e3 (by omega))]
    by_cases h3 : g 1 i = 3
    · rw [if_pos h3, if_neg (by omega), if_neg (by omega)]
    · rw [if_neg h3, ifc (n_e4 (by omega))]
      by_cases h4 : g 1 i = 4
      · rw [if_pos h4, if_neg (by omega), if_neg (by omega)]
      · rw [if_neg h4, ifc (n_e5 (by omega))]
        by_cases h5 : g 1 i = 5
        · rw [if_pos h5, if_pos h5, gd_t (n_inB (by omega) (by omega)), (h.2.1 i hi).2.1, nm_s, n_half (by omega), j_min (by omega) (by omega)]
        · rw [if_neg h5, if_neg h5, ifc (n_e6 (by omega))]
          by_cases h6 : g 1 i = 6
          · rw [if_pos h6, if_pos h6, n_dbl]
          · rw [if_neg h6, if_neg h6]
theorem untilB_le (w : WfN B g) {u q lost y : Nat} (hq : q < aP g) (hl : lost < aP g) (hu : u ≤ 60000000) (hy : y ≤ 20001000) : untilB g u q lost y ≤ 60003000 := by
  unfold untilB
  split
  · have := mournY_le (g 1 q) (g 2 q) (y - g 8 (10 * q + lost))
    omega
  · omega
theorem pR_untilBehind (h : RepR g r) (w : WfN B g) {u q lost y : Nat} (hq : q < aP g) (hl : lost < aP g) (hu : u ≤ 60003000) (hy : aY g ≤ y) (hy2 : y ≤ 20001000) : f_X3_untilBehind r (nI u) (nI q) (nI lost) (nI y) = some (nI (untilB g u q lost y)) := by
  unfold f_X3_untilBehind untilB
  rw [pR_seesPeak h w hq hl, bd_s, ifc (bI_0 _)]
  cases hs : seB g q lost with
  | false => rw [if_pos rfl, if_neg (by decide)]
  | true =>
    have h8 := w.2.2.1 q lost hq hl hs
    have hm := mournY_le (g 1 q) (g 2 q) (y - g 8 (10 * q + lost))
    rw [if_neg (by decide), if_pos rfl, pR_sinceOf h w hq hl hs, bd_s, n_sub (by omega), pR_mournedYears h w hq (by omega), bd_s, n_add, nm_s, j_max (by omega) (by omega)]
theorem pR_griefOf_L5 (h : RepR g r) (w : WfN B g) {lost y : Nat} (hl : lost < aP g) (hy : aY g ≤ y) (hy2 : y ≤ 20001000) : ∀ (n i : Nat), i ≤ aP g → aP g - i < n → f_X3_griefOf_L5 r (nI lost) (nI y) n (nI (sumF (fun q => max (untilB g (g 5 q) q lost y) y - max (g 5 q) y) i)) (nI i) = some (nI (griefA g lost y))
  | 0, i, _, h2 => by omega
  | n + 1, i, h1, h2 => by
    have hp := w.1.1
    have hB := w.1.2.2.2.2.1
    rw [f_X3_griefOf_L5.eq_2, h.1.1, ifc (n_le (by omega) (by omega))]
    by_cases hi : i < aP g
    · have h5 := (w.2.1 i hi).2.2.2.2.1
      have hub := untilB_le w (u := g 5 i) hi hl (by omega) hy2
      have hge : max (g 5 i) y ≤ max (untilB g (g 5 i) i lost y) y := by
        have : g 5 i ≤ untilB g (g 5 i) i lost y := by
          unfold untilB
          split
          · exact Nat.le_max_left _ _
          · exact Nat.le_refl _
        omega
      rw [if_neg (by omega), gd_t (n_inB (by omega) (by omega)), n_tn (by omega), (h.2.1 i hi).2.2.2.2.1, pR_untilBehind h w hi hl (by omega) hy hy2, bd_s, nm_s, j_max (by omega) (by omega), gd_t (n_inB (by omega) (by omega)), nm_s, j_max (by omega) (by omega), nm_s, nm_s, n_sub hge, n_add, n_s]
      exact pR_griefOf_L5 h w hl hy hy2 n (i + 1) (by omega) (by omega)
    · have : i = aP g := by omega
      subst this
      rw [if_pos (by omega)]
      rfl
theorem pR_griefOf (h : RepR g r) (w : WfN B g) {lost y : Nat} (hl : lost < aP g) (hy : aY g ≤ y) (hy2 : y ≤ 20001000) : f_X3_griefOf r (nI lost) (nI y) = some (nI (griefA g lost y)) :=
  pR_griefOf_L5 h w hl hy hy2 2000 0 (by omega) (by have := w.1.1; omega)
theorem griefA_le (w : WfN B g) {lost y : Nat} (hl : lost < aP g) (hy2 : y ≤ 20001000) : griefA g lost y ≤ 600030000 := by
  have hp := w.1.1
  have hB := w.1.2.2.2.2.1
  refine Nat.le_trans (sumF_le (b := 60003000) fun i hi => ?_) (Nat.le_trans (Nat.mul_le_mul_right _ hp) (by omega))
  have h5 := (w.2.1 i hi).2.2.2.2.1
  have := untilB_le w (u := g 5 i) hi hl (by omega) hy2
  omega
theorem maxF_le {f : Nat → Nat} {b : Nat} : ∀ {n : Nat}, (∀ i, i < n → f i ≤ b) → maxF f n ≤ b
  | 0, _ => Nat.zero_le _
  | n + 1, h => by
    rw [maxF]
    exact Nat.max_le.mpr ⟨maxF_le fun i hi => h i (by omega), h n (by omega)⟩
theorem maxF_ge {f : Nat → Nat} : ∀ {n i : Nat}, i < n → f i ≤ maxF f n
  | 0, i, h => by omega
  | n + 1, i, h => by
    rw [maxF]
    by_cases hi : i = n
    · subst hi; exact Nat.le_max_right _ _
    · exact Nat.le_trans (maxF_ge (by omega)) (Nat.le_max_left _ _)
theorem pR_latestUntil_L4 (h : RepR g r) (w : WfN B g) : ∀ (n i : Nat), i ≤ aP g → aP g - i < n → f_X3_latestUntil_L4 r n (nI (maxF (fun i => if stB g i = true then g 5 i else 0) i)) (nI i) = some (nI (latestA g))
  | 0, i, _, h2 => by omega
  | n + 1, i, h1, h2 => by
    have hp := w.1.1
    have hB := w.1.2.2.2.2.1
    rw [f_X3_latestUntil_L4.eq_2, h.1.1, ifc (n_le (by omega) (by omega))]
    by_cases hi : i < aP g
    · have h5 := (w.2.1 i hi).2.2.2.2.1
      have hm : maxF (fun i => if stB g i = true then g 5 i else 0) i ≤ 60000000 := maxF_le fun j hj => by
        have h6 := (w.2.1 j (by omega)).2.2.2.2.1
        split <;> omega
      have ih := pR_latestUntil_L4 h w n (i + 1) (by omega) (by omega)
      rw [if_neg (by omega), pR_isStanding h w, bd_s, isSt_n w (by omega), ifc (bI_0 _)]
      rw [maxF] at ih
      cases hs : stB g i with
      | false =>
        rw [if_pos rfl, nm_s, n_s]
        rw [hs, if_neg (by decide), Nat.max_eq_left (Nat.zero_le _)] at ih
        exact ih
      | true =>
        rw [if_neg (by decide), gd_t (n_inB (by omega) (by omega)), n_tn (by omega), (h.2.1 i hi).2.2.2.2.1, nm_s, nm_s, n_s, j_max (by omega) (by omega)]
        rw [hs, if_pos rfl] at ih
        exact ih
    · have : i = aP g := by omega
      subst this
      rw [if_pos (by omega)]
      rfl
theorem pR_latestUntil (h : RepR g r) (w : WfN B g) : f_X3_latestUntil r = some (nI (latestA g)) :=
  pR_latestUntil_L4 h w 2000 0 (by omega) (by have := w.1.1; omega)
theorem pR_mourningIn_L4 (h : RepR g r) (w : WfN B g) {y : Nat} (hy : y < 2000000000) : ∀ (n i : Nat), i ≤ aP g → aP g - i < n → f_X3_mourningIn_L4 r (nI y) n (nI (msk (fun p => stB g p && decide (y < g 5 p)) i)) (nI i) = some (nI (mournM g y))
  | 0, i, _, h2 => by omega
  | n + 1, i, h1, h2 => by
    have hp := w.1.1
    have hB := w.1.2.2.2.2.1
    rw [f_X3_mourningIn_L4.eq_2, h.1.1, ifc (n_le (by omega) (by omega))]
    by_cases hi : i < aP g
    · have h5 := (w.2.1 i hi).2.2.2.2.1
      have ih := pR_mourningIn_L4 h w hy n (i + 1) (by omega) (by omega)
      rw [if_neg (by omega), pR_isStanding h w, bd_s, isSt_n w (by omega), ifc (bI_0 _)]
      cases hs : stB g i with
      | false =>
        rw [if_pos rfl, nm_s, n_s, msk_n (by simp [hs])]
        exact ih
      | true =>
        rw [if_neg (by decide), gd_t (n_inB (by omega) (by omega)), n_tn (by omega), (h.2.1 i hi).2.2.2.2.1, ifc (n_le (by omega) (by omega))]
        by_cases hc : g 5 i ≤ y
        · have hn : ¬ y < g 5 i := by omega
          rw [if_pos hc, nm_s, n_s, msk_n (by simp [hn])]
          exact ih
        · have hn : y < g 5 i := by omega
          rw [if_neg hc, nm_s, nm_s, n_s, n_shl (by omega), n_or, msk_s (by simp [hs, hn])]
          exact ih
    · have : i = aP g := by omega
      subst this
      rw [if_pos (by omega)]
      rfl
theorem pR_mourningIn (h : RepR g r) (w : WfN B g) {y : Nat} (hy : y < 2000000000) : f_X3_mourningIn r (nI y) = some (nI (mournM g y)) :=
  pR_mourningIn_L4 h w hy 2000 0 (by omega) (by have := w.1.1; omega)
theorem pR_blackenCourtly_L4 (h : RepR g r) (w : WfN B g) {m : Nat} (hm : m < 2 ^ aP g) : ∀ (n i : Nat), i ≤ aP g → aP g - i < n → f_X3_blackenCourtly_L4 r n (nI (crt g m i)) (nI i) = some (nI (crt g m (aP g)))
  | 0, i, _, h2 => by omega
  | n + 1, i, h1, h2 => by
    have hp := w.1.1
    rw [f_X3_blackenCourtly_L4.eq_2, h.1.1, ifc (n_le (by omega) (by omega))]
    by_cases hi : i < aP g
    · have hk := (w.2.1 i hi).1
      have hs := Wf.slt w hi
      have ih := pR_blackenCourtly_L4 h w hm n (i + 1) (by omega) (by omega)
      rw [crt] at ih
      rw [if_neg (by omega), gd_t (n_inB (by omega) (by omega)), n_tn (by omega), (h.2.1 i hi).1, ifc (n_e3 (by omega))]
      by_cases h3 : g 1 i = 3
      · have hle : g 7 i &&& crt g m i ≤ g 7 i := Nat.and_le_left
        rw [if_pos h3, gd_t (n_inB (by omega) (by omega)), (h.2.1 i hi).2.2.2.2.2, n_and, ifc (n_z (by omega))]
        by_cases hz : g 7 i &&& crt g m i = 0
        · rw [if_pos hz, nm_s, n_s]
          rw [if_neg (fun q => q.2 hz)] at ih
          exact ih
        · rw [if_neg hz, nm_s, nm_s, n_s, n_shl (by omega), n_or]
          rw [if_pos ⟨h3, hz⟩] at ih
          exact ih
      · rw [if_neg h3, nm_s, n_s]
        rw [if_neg (fun q => h3 q.1)] at ih
        exact ih
    · have : i = aP g := by omega
      subst this
      rw [if_pos (by omega)]
theorem pR_blackenCourtly (h : RepR g r) (w : WfN B g) {m : Nat} (hm : m < 2 ^ aP g) : f_X3_blackenCourtly r (nI m) = some (nI (crt g m (aP g))) :=
  pR_blackenCourtly_L4 h w hm 2000 0 (by omega) (by have := w.1.1; omega)
end RQ
