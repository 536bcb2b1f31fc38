-- kinds; black; milk; bits of who sees
def underK (k w : Nat) : Bool := (([[0], [1, 0], [2, 0], [3, 1, 0], [4, 0], [5, 2, 0], [6, 4, 0]] : List (List Nat)).getD k []).contains w
theorem pR_isUnder : ∀ k, k < 7 → ∀ w, w < 7 → f_X6_isUnder (nI k) (nI w) = some (bI (underK k w)) := by decide +kernel
theorem und_far : ∀ k, k < 7 → underK k 4 = farK k := by decide
theorem und_pol : ∀ k, k < 7 → underK k 1 = und1 k := by decide
theorem pR_isUnder4 {k : Nat} (h : k < 7) : f_X6_isUnder (nI k) (4 : Int32) = some (bI (farK k)) := by
  rw [← und_far k h]; exact pR_isUnder k h 4 (by omega)
theorem pR_isUnder1 {k : Nat} (h : k < 7) : f_X6_isUnder (nI k) (1 : Int32) = some (bI (und1 k)) := by
  rw [← und_pol k h]; exact pR_isUnder k h 1 (by omega)
theorem mournM_lt (g : AG) (y : Nat) : mournM g y < 2 ^ aP g := msk_lt _ _
theorem polM_lt (g : AG) (m : Nat) : polM g m < 2 ^ aP g := msk_lt _ _
theorem blk0_lt (g : AG) (y : Nat) : blk0 g y < 2 ^ aP g := or_lt (mournM_lt g y) (polM_lt g _)
theorem blkIt_lt {g : AG} : ∀ (n b : Nat), b < 2 ^ aP g → blkIt g b n < 2 ^ aP g
  | 0, b, h => h
  | n + 1, b, h => by
    unfold blkIt
    split
    · exact h
    · exact blkIt_lt n _ (crt_lt h _ (Nat.le_refl _))
theorem black_lt (g : AG) (y : Nat) : black g y < 2 ^ aP g := blkIt_lt _ _ (blk0_lt g y)
section RB
variable {B : Nat} {g : AG} {r : GS}
theorem pR_blackIn_L62 (h : RepR g r) (w : WfN B g) : ∀ (n i b : Nat), i ≤ aP g → aP g - i < n → b < 2 ^ aP g → f_X3_blackIn_L62 r n (nI b) (nI i) = some (nI (blkIt g b (aP g - i)))
  | 0, i, b, _, h2, _ => by omega
  | n + 1, i, b, h1, h2, h3 => by
    have hp := w.1.1
    rw [f_X3_blackIn_L62.eq_2, h.1.1, ifc (n_le (by omega) (by omega))]
    by_cases hi : i < aP g
    · have hb := lt31 h3 (by omega)
      have hc := lt31 (crt_lt (g := g) h3 _ (Nat.le_refl _)) (by omega)
      rw [if_neg (by omega), pR_blackenCourtly h w h3, bd_s, ifc (n_eq (by omega) (by omega)), show aP g - i = (aP g - (i + 1)) + 1 by omega, blkIt]
      by_cases he : crt g b (aP g) = b
      · rw [if_pos he, if_pos he]
      · rw [if_neg he, if_neg he, nm_s, n_s]
        exact pR_blackIn_L62 h w n (i + 1) _ (by omega) (by omega) (crt_lt h3 _ (Nat.le_refl _))
    · rw [if_pos (by omega), show aP g - i = 0 by omega]
      rfl
theorem pR_blackIn_L11 (h : RepR g r) (w : WfN B g) {m : Nat} (hm : m < 2 ^ aP g) (K : Int32 → Option Int32) : ∀ (n i : Nat), i ≤ aP g → aP g - i < n → f_X3_blackIn_L11 r (nI m) K n (nI (m ||| msk (fun p => und1 (g 1 p) && !decide (g 7 p &&& m = 0)) i)) (nI i) = K (nI (m ||| polM g m))
  | 0, i, _, h2 => by omega
  | n + 1, i, h1, h2 => by
    have hp := w.1.1
    rw [f_X3_blackIn_L11.eq_2, h.1.1, ifc (n_le (by omega) (by omega))]
    by_cases hi : i < aP g
    · have hk := (w.2.1 i hi).1
      have hs := Wf.slt w hi
      have ih := pR_blackIn_L11 h w hm K n (i + 1) (by omega) (by omega)
      rw [if_neg (by omega), gd_t (n_inB (by omega) (by omega)), n_tn (by omega), (h.2.1 i hi).1, pR_isUnder1 hk, bd_s, ifc (bI_0 _)]
      cases hu : und1 (g 1 i) with
      | false =>
        rw [if_pos rfl, nm_s, n_s, msk_n (by simp [hu])]
        exact ih
      | true =>
        have hle : g 7 i &&& m ≤ g 7 i := Nat.and_le_left
        rw [if_neg (by decide), gd_t (n_inB (by omega) (by omega)), (h.2.1 i hi).2.2.2.2.2, n_and, ifc (n_z (by omega))]
        by_cases hz : g 7 i &&& m = 0
        · rw [if_pos hz, nm_s, n_s, msk_n (by simp [hz])]
          exact ih
        · rw [if_neg hz, nm_s, nm_s, n_s, n_shl (by omega), n_or, Nat.or_assoc, msk_s (by simp [hz, hu])]
          exact ih
    · have : i = aP g := by omega
      subst this
      rw [if_pos (by omega)]
      rfl
theorem pR_blackIn (h : RepR g r) (w : WfN B g) {y : Nat} (hy : y < 2000000000) : f_X3_blackIn r (nI y) = some (nI (black g y)) := by
  have hp := w.1.1
  unfold f_X3_blackIn
  rw [pR_mourningIn h w hy, bd_s]
  have h1 := pR_blackIn_L11 h w (mournM_lt g y) (fun x => f_X3_blackIn_L62 r FU x 0) 2000 0 (by omega) (by omega)
  rw [msk, Nat.or_zero] at h1
  refine h1.trans ?_
  exact pR_blackIn_L62 h w 2000 0 _ (by omega) (by omega) (blk0_lt g y)
theorem pR_milkOf (h : RepR g r) (w : WfN B g) {v b : Nat} (hv : v < aV g) : f_X3_milkOf r (nI v) (nI b) = some (nI (milkA g v b)) := by
  have hV := w.1.2.2.1
  have hu := Wf.ult w hv
  have hle : g 12 v &&& b ≤ g 12 v := Nat.and_le_left
  unfold f_X3_milkOf milkA
  rw [gd_t (n_inB (by omega) (by omega)), n_tn (by omega), (h.2.2.2.2 v hv).2, n_and, ifc (n_z (by omega))]
  by_cases hz : g 12 v &&& b = 0
  · rw [if_pos hz, if_pos hz, gd_t (n_inB (by omega) (by omega)), (h.2.2.2.2 v hv).1]
  · rw [if_neg hz, if_neg hz]; rfl
theorem pR_milkOfAll_L4 (h : RepR g r) (w : WfN B g) {b : Nat} : ∀ (n i : Nat), i ≤ aV g → aV g - i < n → f_X3_milkOfAll_L4 r (nI b) n (nI (sumF (fun v => milkA g v b) i)) (nI i) = some (nI (milkS g b))
  | 0, i, _, h2 => by omega
  | n + 1, i, h1, h2 => by
    have hV := w.1.2.2.1
    rw [f_X3_milkOfAll_L4.eq_2, h.1.2.2.2.1, ifc (n_le (by omega) (by omega))]
    by_cases hi : i < aV g
    · rw [if_neg (by omega), pR_milkOf h w hi, bd_s, nm_s, nm_s, n_add, n_s]
      exact pR_milkOfAll_L4 h w n (i + 1) (by omega) (by omega)
    · have : i = aV g := by omega
      subst this
      rw [if_pos (by omega)]
      rfl
theorem pR_milkOfAll (h : RepR g r) (w : WfN B g) (b : Nat) : f_X3_milkOfAll r (nI b) = some (nI (milkS g b)) :=
  pR_milkOfAll_L4 h w 2000 0 (by omega) (by have := w.1.2.2.1; omega)
theorem milkA_lt (w : WfN B g) {v b : Nat} (hv : v < aV g) : milkA g v b ≤ 999 := by
  have := (w.2.2.2.2.1 v hv).1
  unfold milkA
  split <;> omega
theorem milkS_le (w : WfN B g) (b : Nat) : milkS g b ≤ 7992 := by
  have hV := w.1.2.2.1
  refine Nat.le_trans (sumF_le (b := 999) fun i hi => milkA_lt w hi) ?_
  omega
def watchM (g : AG) (m : Nat) : Nat := msk (fun q => !decide (g 7 q &&& m = 0)) (aP g)
theorem pR_watchersOf_L4 (h : RepR g r) (w : WfN B g) {m : Nat} : ∀ (n i : Nat), i ≤ aP g → aP g - i < n → f_X3_watchersOf_L4 r (nI m) n (nI (msk (fun q => !decide (g 7 q &&& m = 0)) i)) (nI i) = some (nI (watchM g m))
  | 0, i, _, h2 => by omega
  | n + 1, i, h1, h2 => by
    have hp := w.1.1
    rw [f_X3_watchersOf_L4.eq_2, h.1.1, ifc (n_le (by omega) (by omega))]
    by_cases hi : i < aP g
    · have hs := Wf.slt w hi
      have ih := pR_watchersOf_L4 h w (m := m) n (i + 1) (by omega) (by omega)
      have hle : g 7 i &&& m ≤ g 7 i := Nat.and_le_left
      rw [if_neg (by omega), gd_t (n_inB (by omega) (by omega)), n_tn (by omega), (h.2.1 i hi).2.2.2.2.2, n_and, ifc (n_z (by omega))]
      by_cases hz : g 7 i &&& m = 0
      · rw [if_pos hz, nm_s, n_s, msk_n (by simp [hz])]
        exact ih
      · rw [if_neg hz, nm_s, nm_s, n_s, n_shl (by omega), n_or, msk_s (by simp [hz])]
        exact ih
    · have : i = aP g := by omega
      subst this
      rw [if_pos (by omega)]
      rfl
theorem pR_watchersOf (h : RepR g r) (w : WfN B g) (m : Nat) : f_X3_watchersOf r (nI m) = some (nI (watchM g m)) :=
  pR_watchersOf_L4 h w 2000 0 (by omega) (by have := w.1.1; omega)
-- all of some have a fire or see one
def litB (g : AG) (m f : Nat) : Bool := !anyF (fun p => m.testBit p && decide ((g 7 p ||| 2 ^ p) &&& f = 0)) (aP g)
theorem pR_allSeeOne_L2 (h : RepR g r) (w : WfN B g) {m f : Nat} (hm : m < 1073741825) (hf : f < 1073741825) : ∀ (n i : Nat), i ≤ aP g → aP g - i < n → (∀ j, j < i → (m.testBit j && decide ((g 7 j ||| 2 ^ j) &&& f = 0)) = false) → f_X3_allSeeOne_L2 r (nI m) (nI f) n (nI i) = some (bI (litB g m f))
  | 0, i, _, h2, _ => by omega
  | n + 1, i, h1, h2, h3 => by
    have hp := w.1.1
    rw [f_X3_allSeeOne_L2.eq_2, h.1.1, ifc (n_le (by omega) (by omega))]
    by_cases hi : i < aP g
    · have hs := Wf.slt w hi
      have next : (m.testBit i && decide ((g 7 i ||| 2 ^ i) &&& f = 0)) = false → f_X3_allSeeOne_L2 r (nI m) (nI f) n (nI (i + 1)) = some (bI (litB g m f)) := fun hq =>
        pR_allSeeOne_L2 h w hm hf n (i + 1) (by omega) (by omega) (fun j hj => by
          by_cases hji : j = i
          · subst hji; exact hq
          · exact h3 j (by omega))
      rw [if_neg (by omega), p_bit (by omega) (by omega), bd_s, ifc (bI_1 _)]
      cases hb : m.testBit i with
      | false => rw [if_neg (by decide), nm_s, n_s]; exact next (by simp [hb])
      | true =>
        have hor : g 7 i ||| 2 ^ i < 2 ^ aP g := or_lt (w.2.1 i hi).2.2.2.2.2 (two_lt hi)
        have hor2 := lt31 hor (by omega)
        have hle : (g 7 i ||| 2 ^ i) &&& f ≤ g 7 i ||| 2 ^ i := Nat.and_le_left
        rw [if_pos rfl, gd_t (n_inB (by omega) (by omega)), n_tn (by omega), (h.2.1 i hi).2.2.2.2.2, n_shl (by omega), n_or, n_and, ifc (n_z (by omega))]
        by_cases hz : (g 7 i ||| 2 ^ i) &&& f = 0
        · rw [if_pos hz]
          have : litB g m f = false := by
            unfold litB
            rw [anyF_yes hi (by simp [hb, hz])]
            rfl
          rw [this]; rfl
        · rw [if_neg hz, nm_s, n_s]
          exact next (by simp [hz])
    · rw [if_pos (by omega)]
      have : litB g m f = true := by
        unfold litB
        rw [anyF_no fun j hj => h3 j (by omega)]
        rfl
      rw [this]; rfl
theorem pR_allSeeOne (h : RepR g r) (w : WfN B g) {m f : Nat} (hm : m < 1073741825) (hf : f < 1073741825) : f_X3_allSeeOne r (nI m) (nI f) = some (bI (litB g m f)) :=
  pR_allSeeOne_L2 h w hm hf 2000 0 (by omega) (by have := w.1.1; omega) (fun j hj => by omega)
-- nothing between
theorem pR_isFreeBetween_L49 (h : RepR g r) (w : WfN B g) {a b : Nat} (ha : a < aP g) (hb : b < aP g) : ∀ (n i : Nat), i ≤ aS g → aS g - i < n → (∀ j, j < i → blk g a b (g 9 j) (g 10 j) = false) → f_X3_isFreeBetween_L49 r (nI a) (nI b) n (nI i) = some (bI (!anyF (fun i => blk g a b (g 9 i) (g 10 i)) (aS g)))
  | 0, i, _, h2, _ => by omega
  | n + 1, i, h1, h2, h3 => by
    have hp := w.1.2.1
    rw [f_X3_isFreeBetween_L49.eq_2, h.1.2.2.1, ifc (n_le (by omega) (by omega))]
    by_cases hi : i < aS g
    · have hs := w.2.2.2.1 i hi
      rw [if_neg (by omega), gd_t (n_inB (by omega) (by omega)), gd_t (n_inB (by omega) (by omega)), n_tn (by omega), (h.2.2.2.1 i hi).1, (h.2.2.2.1 i hi).2, pR_blocks h w ha hb (by omega) (by omega), bd_s, ifc (bI_0 _)]
      cases hbk : blk g a b (g 9 i) (g 10 i) with
      | false =>
        rw [if_pos rfl, nm_s, n_s]
        exact pR_isFreeBetween_L49 h w ha hb n (i + 1) (by omega) (by omega) (fun j hj => by
          by_cases hji : j = i
          · subst hji; exact hbk
          · exact h3 j (by omega))
      | true => rw [if_neg (by decide), anyF_yes hi hbk]; rfl
    · rw [if_pos (by omega), anyF_no fun j hj => h3 j (by omega)]; rfl
theorem pR_isFreeBetween_L2 (h : RepR g r) (w : WfN B g) {a b : Nat} (ha : a < aP g) (hb : b < aP g) (K : Option Int32) : ∀ (n i : Nat), i ≤ aP g → aP g - i < n → (∀ j, j < i → (stB g j && blk g a b (g 3 j) (g 4 j)) = false) → f_X3_isFreeBetween_L2 r (nI a) (nI b) K n (nI i) = if anyF (fun p => stB g p && blk g a b (g 3 p) (g 4 p)) (aP g) = true then some 0 else K
  | 0, i, _, h2, _ => by omega
  | n + 1, i, h1, h2, h3 => by
    have hp := w.1.1
    rw [f_X3_isFreeBetween_L2.eq_2, h.1.1, ifc (n_le (by omega) (by omega))]
    by_cases hi : i < aP g
    · have hs := w.2.1 i hi
      have next : (stB g i && blk g a b (g 3 i) (g 4 i)) = false → f_X3_isFreeBetween_L2 r (nI a) (nI b) K n (nI (i + 1)) = if anyF (fun p => stB g p && blk g a b (g 3 p) (g 4 p)) (aP g) = true then some 0 else K := fun hq =>
        pR_isFreeBetween_L2 h w ha hb K n (i + 1) (by omega) (by omega) (fun j hj => by
          by_cases hji : j = i
          · subst hji; exact hq
          · exact h3 j (by omega))
      rw [if_neg (by omega), pR_isStanding h w, bd_s, isSt_n w (by omega), ifc (bI_0 _)]
      cases hst : stB g i with
      | false => rw [if_pos rfl, nm_s, n_s]; exact next (by simp [hst])
      | true =>
        rw [if_neg (by decide), gd_t (n_inB (by omega) (by omega)), gd_t (n_inB (by omega) (by omega)), n_tn (by omega), (h.2.1 i hi).2.2.1, (h.2.1 i hi).2.2.2.1, pR_blocks h w ha hb (by omega) (by omega), bd_s, ifc (bI_0 _)]
        cases hbk : blk g a b (g 3 i) (g 4 i) with
        | false => rw [if_pos rfl, nm_s, n_s]; exact next (by simp [hbk])
        | true => rw [if_neg (by decide), anyF_yes hi (by simp [hst, hbk]), if_pos rfl]
    · rw [if_pos (by omega), anyF_no fun j hj => h3 j (by omega), if_neg (by decide)]
theorem pR_isFreeBetween (h : RepR g r) (w : WfN B g) {a b : Nat} (ha : a < aP g) (hb : b < aP g) : f_X3_isFreeBetween r (nI a) (nI b) = some (bI (freeB g a b)) := by
  unfold f_X3_isFreeBetween freeB
  have h1 := pR_isFreeBetween_L49 h w ha hb 2000 0 (by omega) (by have := w.1.2.1; omega) (fun j hj => by omega)
  have h2 := pR_isFreeBetween_L2 h w ha hb (f_X3_isFreeBetween_L49 r (nI a) (nI b) FU 0) 2000 0 (by omega) (by have := w.1.1; omega) (fun j hj => by omega)
  refine h2.trans ?_
  cases hc : anyF (fun p => stB g p && blk g a b (g 3 p) (g 4 p)) (aP g) with
  | true => rw [if_pos rfl]; rfl
  | false =>
    rw [if_neg (by decide)]
    refine h1.trans ?_
    rfl
end RB
