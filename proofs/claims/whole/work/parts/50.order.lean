-- both sides: order
def digs : Nat → Nat → List Nat
  | 0, _ => []
  | k + 1, r => r / 10 ^ k % 10 :: digs k r
def rowC : AG → Nat → List Nat → Option Nat
  | _, s, [] => some s
  | g, s, p :: ps => if stB g p = true then rowC (loseA g p) (s + griefA g p (aY g)) ps else none
def rowOk (g : AG) (k r : Nat) : Bool := (rowC g 0 (digs k r)).isSome
def rowV (g : AG) (k r : Nat) : Nat := (rowC g 0 (digs k r)).getD 0
def ordS (g : AG) (k n : Nat) : Option Nat := sel (rowOk g k) (minL (rowV g k)) n
theorem sel_skip {ok : Nat → Bool} {lt : Nat → Nat → Bool} {n : Nat} : ∀ d, (∀ f, n ≤ f → f < n + d → ok f = false) → sel ok lt (n + d) = sel ok lt n
  | 0, _ => rfl
  | d + 1, h => by
    rw [show n + (d + 1) = (n + d) + 1 by omega, sel_no (h (n + d) (by omega) (by omega))]
    exact sel_skip d fun f h1 h2 => h f h1 (by omega)
theorem rowC_s {g : AG} {s p : Nat} {ps : List Nat} (h : stB g p = true) : rowC g s (p :: ps) = rowC (loseA g p) (s + griefA g p (aY g)) ps := if_pos h
theorem rowC_n {g : AG} {s p : Nat} {ps : List Nat} (h : stB g p = false) : rowC g s (p :: ps) = none := if_neg (by rw [h]; decide)
theorem rowC_le {B : Nat} : ∀ (ps : List Nat) (g : AG) (s c : Nat), Wf B g → rowC g s ps = some c → c ≤ s + ps.length * 600030000
  | [], g, s, c, _, h => by
    have : s = c := Option.some.inj h
    omega
  | p :: ps, g, s, c, w, h => by
    cases hs : stB g p with
    | false => rw [rowC_n hs] at h; cases h
    | true =>
      rw [rowC_s hs] at h
      have hp := Wf.st_lt w.1 hs
      have hY := w.1.1.2.2.2
      have h1 := rowC_le ps _ _ c (loseA_wf w.1 hp) h
      have h2 := griefA_le w.1 (lost := p) (y := aY g) hp (by omega)
      rw [List.length_cons, Nat.succ_mul]
      omega
theorem digs_len : ∀ (k r : Nat), (digs k r).length = k
  | 0, _ => rfl
  | k + 1, r => by rw [digs, List.length_cons, digs_len k r]
theorem rowV_le {B : Nat} {g : AG} (w : Wf B g) {k : Nat} (hk : k ≤ 3) (r : Nat) : rowV g k r ≤ 1800090000 := by
  unfold rowV
  cases h : rowC g 0 (digs k r) with
  | none => exact Nat.zero_le _
  | some c =>
    have := rowC_le _ g 0 c w h
    rw [digs_len] at this
    show c ≤ _
    omega
theorem row_is {g : AG} {k r c : Nat} (h : rowC g 0 (digs k r) = some c) : rowOk g k r = true ∧ rowV g k r = c := by
  unfold rowOk rowV
  rw [h]
  exact ⟨rfl, rfl⟩
theorem row_no {g : AG} {k r : Nat} (h : rowC g 0 (digs k r) = none) : rowOk g k r = false := by
  unfold rowOk
  rw [h]
  rfl
-- what later losses of one year leave of who sees whom
def Des (g g' : AG) : Prop := (aP g' = aP g ∧ aY g' = aY g ∧ g' 1 = g 1 ∧ g' 2 = g 2) ∧ ∀ q l, q < aP g → l < aP g → stB g' q = true → stB g' l = true → (seB g q l = true → seB g' q l = true ∧ g' 8 (10 * q + l) = g 8 (10 * q + l)) ∧ (seB g q l = false → seB g' q l = true → g' 8 (10 * q + l) = aY g)
theorem Des_rfl (g : AG) : Des g g := ⟨⟨rfl, rfl, rfl, rfl⟩, fun q l _ _ _ _ => ⟨fun h => ⟨h, rfl⟩, fun h h2 => by rw [h] at h2; cases h2⟩⟩
theorem free_drop {g : AG} (p l r : Nat) (hf : freeB g l r = true) : freeB (dropA g p) l r = true := by
  unfold freeB at hf ⊢
  rw [Bool.and_eq_true] at hf ⊢
  refine ⟨?_, hf.2⟩
  have h1 := hf.1
  have h1' : anyF (fun p => stB g p && blk g l r (g 3 p) (g 4 p)) (aP g) = false := by
    cases hx : anyF (fun p => stB g p && blk g l r (g 3 p) (g 4 p)) (aP g) with
    | false => rfl
    | true => rw [hx] at h1; cases h1
  rw [anyF_no fun i hi => ?_]
  · rfl
  · have hi2 : i < aP g := hi
    cases hs : stB (dropA g p) i with
    | false => rfl
    | true =>
      have hs' : stB g i = true := by
        rw [st_drop, Bool.and_eq_true] at hs
        exact hs.1
      show (true && blk g l r (g 3 i) (g 4 i)) = false
      cases hb : blk g l r (g 3 i) (g 4 i) with
      | false => rfl
      | true =>
        have := anyF_yes (f := fun p => stB g p && blk g l r (g 3 p) (g 4 p)) hi2 (by rw [hs', hb]; rfl)
        rw [this] at h1'; cases h1'
theorem vis_drop {g : AG} {p i j : Nat} (hv : visB g i j = true) (hi : stB (dropA g p) i = true) (hj : stB (dropA g p) j = true) : visB (dropA g p) i j = true := by
  unfold visB at hv ⊢
  rw [Bool.and_eq_true] at hv ⊢
  refine ⟨by rw [hi, hj]; rfl, ?_⟩
  have h2 := hv.2
  show (if g 3 i < g 3 j then freeB (dropA g p) i j && nearB g i j else if g 3 j < g 3 i then freeB (dropA g p) j i && nearB g i j else false) = true
  by_cases h1 : g 3 i < g 3 j
  · rw [if_pos h1] at h2 ⊢
    rw [Bool.and_eq_true] at h2 ⊢
    exact ⟨free_drop p i j h2.1, h2.2⟩
  · rw [if_neg h1] at h2 ⊢
    by_cases h3 : g 3 j < g 3 i
    · rw [if_pos h3] at h2 ⊢
      rw [Bool.and_eq_true] at h2 ⊢
      exact ⟨free_drop p j i h2.1, h2.2⟩
    · rw [if_neg h3] at h2
      cases h2
theorem Des_lose {g g' : AG} (d : Des g g') (v : WfV g') (hP : aP g ≤ 10) (p : Nat) : Des g (loseA g' p) := by
  obtain ⟨⟨d1, d2, d3, d4⟩, d6⟩ := d
  refine ⟨⟨d1, d2, d3, d4⟩, fun q l hq hl sq sl => ?_⟩
  have sq' : stB (dropA g' p) q = true := sq
  have sl' : stB (dropA g' p) l = true := sl
  have hsq : stB g' q = true := by
    have := sq'
    rw [st_drop, Bool.and_eq_true] at this
    exact this.1
  have hsl : stB g' l = true := by
    have := sl'
    rw [st_drop, Bool.and_eq_true] at this
    exact this.1
  have e1 : seB (loseA g' p) q l = visB (dropA g' p) q l := by
    have : seB (loseA g' p) q l = (decide (l < aP g') && visB (dropA g' p) q l) := msk_bit _ _ _
    rw [this, decide_eq_true (by rw [d1]; exact hl), Bool.true_and]
  have e8 : loseA g' p 8 (10 * q + l) = if seB g' q l = true then g' 8 (10 * q + l) else aY g' := by
    show (if seB g' ((10 * q + l) / 10) ((10 * q + l) % 10) = true then g' 8 (10 * q + l) else aY g') = _
    rw [show (10 * q + l) / 10 = q by omega, show (10 * q + l) % 10 = l by omega]
  obtain ⟨f1, f2⟩ := d6 q l hq hl hsq hsl
  refine ⟨fun h => ?_, fun h h2 => ?_⟩
  · obtain ⟨a, b⟩ := f1 h
    refine ⟨?_, ?_⟩
    · rw [e1]
      exact vis_drop (by rw [← v q l (by rw [d1]; exact hq) (by rw [d1]; exact hl)]; exact a) sq' sl'
    · rw [e8, if_pos a, b]
  · rw [e8]
    cases hs : seB g' q l with
    | true => rw [if_pos rfl]; exact f2 h hs
    | false => rw [if_neg ffl]; exact d2
theorem untilB_le2 {B : Nat} {g : AG} (w : WfN B g) {u q lost y : Nat} (hu : u ≤ 60003000) (hy : y ≤ 20001000) : untilB g u q lost y ≤ 60003000 := by
  unfold untilB
  split
  · have := mournY_le (g 1 q) (g 2 q) (y - g 8 (10 * q + lost))
    omega
  · exact hu
theorem behind_bit {g : AG} (p q : Nat) : (clr (aW g) (2 ^ p)).testBit q = (stB g q && !decide (p = q)) := by rw [clr_bit, tb_two]
-- the same grief, and untils that are the same from now on
theorem until_eq {g g' : AG} (d : Des g g') {p q u : Nat} (hq : q < aP g) (hp : p < aP g) (sq : stB g' q = true) (sp : stB g' p = true) (hU : max u (aY g) = max (g' 5 q) (aY g)) : max (untilB g u q p (aY g)) (aY g) = max (untilB g' (g' 5 q) q p (aY g)) (aY g) := by
  obtain ⟨⟨d1, d2, d3, d4⟩, d6⟩ := d
  obtain ⟨f1, f2⟩ := d6 q p hq hp sq sp
  cases hs : seB g q p with
  | true =>
    obtain ⟨a, b⟩ := f1 hs
    unfold untilB
    rw [if_pos hs, if_pos a, b, d3, d4]
    omega
  | false =>
    rw [untilB_no hs]
    cases hs' : seB g' q p with
    | false => rw [untilB_no hs']; exact hU
    | true =>
      have e := f2 hs hs'
      unfold untilB
      rw [if_pos hs', e, Nat.sub_self, mournY_0]
      omega
theorem term_eq {g g' : AG} (d : Des g g') (v : WfV g') {p q u : Nat} (hq : q < aP g) (hp : p < aP g) (sp : stB g' p = true) (hU : stB g' q = true → max u (aY g) = max (g' 5 q) (aY g)) : (if (clr (aW g') (2 ^ p)).testBit q = true then max (untilB g u q p (aY g)) (aY g) - max u (aY g) else 0) = max (untilB g' (g' 5 q) q p (aY g')) (aY g') - max (g' 5 q) (aY g') := by
  have d1 := d.1.1
  have d2 := d.1.2.1
  rw [behind_bit, d2]
  by_cases hpq : p = q
  · subst hpq
    have hno : seB g' p p = false := by
      cases hx : seB g' p p with
      | false => rfl
      | true => exact absurd rfl (see_st v (by omega) (by omega) hx).2.2
    rw [decide_eq_true rfl, Bool.not_true, Bool.and_false, if_neg ffl, untilB_no hno]
    omega
  · rw [decide_eq_false hpq, Bool.not_false, Bool.and_true]
    cases hsq : stB g' q with
    | false =>
      have hno : seB g' q p = false := by
        cases hx : seB g' q p with
        | false => rfl
        | true => rw [(see_st v (by omega) (by omega) hx).1] at hsq; cases hsq
      rw [if_neg ffl, untilB_no hno]
      omega
    | true =>
      rw [if_pos rfl, until_eq d hq hp hsq sp (hU hsq), hU hsq]
section OR1
variable {B : Nat} {g : AG} {r0 : GS}
theorem J80_s {d i : Nat} {V X : Int32} {sd : GS} {F : Nat → Int32} {K : Int32 → Int32 → GS → Option (Int32 × GS)} (hd : d < 3) (hi : i < 10) : f_X2_mournNext_J80 (nI d) V (nI i) X (s2 sd (10 + (d + 1)) F) K = K V (nI (i + 1)) (s2 sd (10 + (d + 1)) (upd F i X)) := by
  unfold f_X2_mournNext_J80
  rw [nm_s, n_s, gd_t (n_inB (by omega) (by omega)), gd_t (n_inB hi (by omega)), n_tn (by omega), n_tn (by omega), nm_s, nm_s, n_s, s2_eq, s2_s2]
theorem pD_next_L6 (h : RepR g r0) (w : WfN B g) {p d c : Nat} (hp : p < aP g) (hd : d < 3) (hc : c < 1073741825) (u : Nat → Nat) (hu : ∀ q, q < aP g → u q ≤ 60003000) (sd : GS) (hsd : ∀ q, q < aP g → sd (10 + d) q = nI (u q)) : ∀ (n i : Nat) (F : Nat → Int32), i ≤ aP g → aP g - i < n → (∀ q, q < i → F q = nI (if c.testBit q = true then untilB g (u q) q p (aY g) else u q)) → ∃ F', f_X2_mournNext_L6 r0 (nI p) (nI d) (nI c) n (nI (sumF (fun q => if c.testBit q = true then max (untilB g (u q) q p (aY g)) (aY g) - max (u q) (aY g) else 0) i)) (nI i) (s2 sd (10 + (d + 1)) F) = some (nI (sumF (fun q => if c.testBit q = true then max (untilB g (u q) q p (aY g)) (aY g) - max (u q) (aY g) else 0) (aP g)), s2 sd (10 + (d + 1)) F') ∧ ∀ q, q < aP g → F' q = nI (if c.testBit q = true then untilB g (u q) q p (aY g) else u q)
  | 0, i, F, _, h2, _ => by omega
  | n + 1, i, F, h1, h2, h3 => by
    have hP := w.1.1
    have hY := w.1.2.2.2
    rw [f_X2_mournNext_L6.eq_2]
    by_cases hi : i < aP g
    · have hui := hu i hi
      have hge := untilB_ge (g := g) (u i) i p (aY g)
      have hle := untilB_le2 w (q := i) (lost := p) (y := aY g) hui (by omega)
      have hut := pR_untilBehind h w (u := u i) (q := i) (lost := p) (y := aY g) hi hp hui (Nat.le_refl _) (by omega)
      have hb := p_bit (w := c) (i := i) (by omega) (by omega)
      have hs : s2 sd (10 + (d + 1)) F (10 + d) i = nI (u i) := by rw [s2_ne (by omega)]; exact hsd i hi
      have next : ∀ v, v = (if c.testBit i = true then untilB g (u i) i p (aY g) else u i) → (∀ q, q < i + 1 → upd F i (nI v) q = nI (if c.testBit q = true then untilB g (u q) q p (aY g) else u q)) := fun v hv q hq => by
        by_cases hx : q = i
        · rw [hx, pk_us, hv]
        · rw [pk_un hx]; exact h3 q (by omega)
      cases ht : c.testBit i with
      | true =>
        rw [ht] at hb
        have hn := next (untilB g (u i) i p (aY g)) (by rw [ht, if_pos rfl])
        obtain ⟨F', e, hF⟩ := pD_next_L6 h w hp hd hc u hu sd hsd n (i + 1) (upd F i (nI (untilB g (u i) i p (aY g)))) (by omega) (by omega) hn
        refine ⟨F', ?_, hF⟩
        rw [sumF, ht, if_pos rfl] at e
        have hge2 : max (u i) (aY g) ≤ max (untilB g (u i) i p (aY g)) (aY g) := by omega
        rw [h.c0, if_neg (by rw [n_le (by omega) (by omega)]; omega), gd_t (n_inB (by omega) (by omega)), gd_t (n_inB (by omega) (by omega)), n_tn (by omega), n_tn (by omega), hs, nm_s, hb, bd_s, if_pos (show bI true = (1 : Int32) from rfl), h.cy, hut, bd_s, nm_s, nm_s, nm_s, j_max (by omega) (by omega), j_max (by omega) (by omega), n_sub hge2, n_add, J80_s hd (by omega)]
        exact e
      | false =>
        rw [ht] at hb
        have hn := next (u i) (by rw [ht, if_neg ffl])
        obtain ⟨F', e, hF⟩ := pD_next_L6 h w hp hd hc u hu sd hsd n (i + 1) (upd F i (nI (u i))) (by omega) (by omega) hn
        refine ⟨F', ?_, hF⟩
        rw [sumF, ht, if_neg ffl, Nat.add_zero] at e
        rw [h.c0, if_neg (by rw [n_le (by omega) (by omega)]; omega), gd_t (n_inB (by omega) (by omega)), gd_t (n_inB (by omega) (by omega)), n_tn (by omega), n_tn (by omega), hs, nm_s, hb, bd_s, if_neg (show ¬ bI false = (1 : Int32) by decide), J80_s hd (by omega)]
        exact e
    · have : i = aP g := by omega
      subst this
      rw [h.c0, if_pos (by rw [n_le (by omega) (by omega)]; omega)]
      exact ⟨F, rfl, h3⟩
theorem pD_next (h : RepR g r0) (w : WfN B g) {g' : AG} (ds : Des g g') (v : WfV g') (w' : WfN B g') {p d : Nat} (hp : p < aP g) (sp : stB g' p = true) (hd : d < 3) (u : Nat → Nat) (hu : ∀ q, q < aP g → u q ≤ 60003000) (hU : ∀ q, q < aP g → stB g' q = true → max (u q) (aY g) = max (g' 5 q) (aY g)) (sd : GS) (hsd : ∀ q, q < aP g → sd (10 + d) q = nI (u q)) : ∃ (u' : Nat → Nat) (F : Nat → Int32), f_X2_mournNext sd r0 (nI p) (nI d) (nI (clr (aW g') (2 ^ p))) = some (nI (griefA g' p (aY g')), s2 sd (10 + (d + 1)) F) ∧ (∀ q, q < aP g → F q = nI (u' q)) ∧ (∀ q, q < aP g → u' q ≤ 60003000) ∧ (∀ q, q < aP g → stB (loseA g' p) q = true → max (u' q) (aY g) = max (loseA g' p 5 q) (aY g)) := by
  have hP := w.1.1
  have hY := w.1.2.2.2
  have d1 := ds.1.1
  have d2 := ds.1.2.1
  have hwl := Wf.wlt w'
  have hcl := clr_lt (m := 2 ^ p) w'.1.2.2.2.2.2
  obtain ⟨F, e, hF⟩ := pD_next_L6 h w hp hd (c := clr (aW g') (2 ^ p)) (by omega) u hu sd hsd 2000 0 (sd (10 + (d + 1))) (by omega) (by omega) (fun q hq => by omega)
  rw [s2_id] at e
  refine ⟨fun q => if (clr (aW g') (2 ^ p)).testBit q = true then untilB g (u q) q p (aY g) else u q, F, ?_, hF, fun q hq => ?_, fun q hq hs => ?_⟩
  · have hg : sumF (fun q => if (clr (aW g') (2 ^ p)).testBit q = true then max (untilB g (u q) q p (aY g)) (aY g) - max (u q) (aY g) else 0) (aP g) = griefA g' p (aY g') := by
      unfold griefA
      rw [d1]
      exact sumF_congr fun q hq => term_eq ds v hq hp sp (hU q hq)
    rw [hg] at e
    exact e
  · dsimp only
    split
    · exact untilB_le2 w (hu q hq) (by omega)
    · exact hu q hq
  · have hs2 : stB g' q = true ∧ ¬ p = q := by
      have h3 : stB (dropA g' p) q = true := hs
      rw [st_drop, Bool.and_eq_true] at h3
      refine ⟨h3.1, fun e => ?_⟩
      rw [decide_eq_true e] at h3
      exact absurd h3.2 ffl
    have hb : (clr (aW g') (2 ^ p)).testBit q = true := by rw [behind_bit, hs2.1, decide_eq_false hs2.2]; rfl
    have h5 : loseA g' p 5 q = untilB g' (g' 5 q) q p (aY g') := if_pos (by rw [d1]; exact hq)
    dsimp only
    rw [if_pos hb, h5, d2]
    exact until_eq ds hq hp hs2.1 sp (hU q hq hs2.1)
def BS (g : AG) (k : Nat) (sd : GS) (S : Option Nat) : Prop := (S = none → sd 0 4 = nI 0) ∧ ∀ q, S = some q → sd 0 4 = nI 1 ∧ sd 0 0 = nI (rowV g k q) ∧ ∀ e, e < k → sd 2 e = nI (q / 10 ^ (k - 1 - e) % 10)
theorem pD_keep (w : Wf B g) {k q s : Nat} (hk : k ≤ 3) (hr : rowC g 0 (digs k q) = some s) (sd : GS) (ht : ∀ e, e < k → sd 3 e = nI (q / 10 ^ (k - 1 - e) % 10)) (hb : BS g k sd (ordS g k q)) : ∃ sd', f_X2_keep sd (nI s) = some sd' ∧ BS g k sd' (ordS g k (q + 1)) ∧ sd' 3 = sd 3 ∧ (∀ e, sd' (10 + e) = sd (10 + e)) := by
  obtain ⟨r1, r2⟩ := row_is hr
  have hs := rowV_le w hk q
  have fin : BS g k (s2 (s2 (s2 sd 0 (upd (sd 0) 4 (nI 1))) 0 (upd (upd (sd 0) 4 (nI 1)) 0 (nI s))) 2 (va_cpy (sd 3) (sd 2) 0 0 3)) (some q) := by
    refine ⟨fun h => (by cases h), fun q' hq' => ?_⟩
    have e : q = q' := Option.some.inj hq'
    subst e
    refine ⟨rfl, ?_, fun e he => ?_⟩
    · rw [r2]; rfl
    · show va_cpy (sd 3) (sd 2) 0 0 3 e = _
      rw [va_cpy0 (by omega)]
      exact ht e he
  have j15 : f_X2_keep_J15 (nI s) sd = some (s2 (s2 (s2 sd 0 (upd (sd 0) 4 (nI 1))) 0 (upd (upd (sd 0) 4 (nI 1)) 0 (nI s))) 2 (va_cpy (sd 3) (sd 2) 0 0 3)) := by
    unfold f_X2_keep_J15
    simp (disch := omega) only [nm_s, bd_s, bd2_s, bd3_s, bd4_s, q_gt, q_inB, ↓q_m1, l_166, l_172, l_180, l_188, l_189, l_190, l_191, l_192, l_14, l_17, l_18, l_0, l_1, l_2, l_3, l_4, l_5, l_6, l_7, l_8, l_9, l_10, l_11, l_12, l_20, l_21, l_30, l_31, l_32, l_40, l_48, l_50, l_51, l_57, l_60, l_70, l_71, l_99, l_100, l_101, l_160, l_199, l_200, l_999, l_1000, q_tn, q_add, q_mul, q_sub, q_le, q_lt, q_eq, q_31, n_and, n_or, n_xor, q_shl, q_z, q_b0, q_b1, q_bz, q_em, q_me, q_mm, q_lm, q_ml, q_mle, q_lem, s2_eq, s2_ne, pk_us, pk_un, uN_s, uN_n, if_pos, if_neg, ite_true, ite_false, if_true, if_false, not_true, not_false_iff, Nat.add_zero, Nat.zero_add, inR_t, isIx_t, bI_t, bI_f, neg1, q_clr]
  have fr : ∀ e, (s2 (s2 (s2 sd 0 (upd (sd 0) 4 (nI 1))) 0 (upd (upd (sd 0) 4 (nI 1)) 0 (nI s))) 2 (va_cpy (sd 3) (sd 2) 0 0 3)) (10 + e) = sd (10 + e) := fun e => by rw [s2_ne (by omega), s2_ne (by omega), s2_ne (by omega)]
  unfold f_X2_keep
  cases hS : ordS g k q with
  | none =>
    have h0 := hb.1 hS
    have e : ordS g k (q + 1) = some q := sel_0 r1 hS
    rw [h0, if_pos z00, j15, e]
    exact ⟨_, rfl, fin, rfl, fr⟩
  | some p =>
    obtain ⟨h0, h1, h2⟩ := hb.2 p hS
    have hp := rowV_le w hk p
    rw [h0, if_neg i0n, h1, ifc (n_le (by omega) (by omega))]
    by_cases hc : rowV g k p ≤ s
    · have e : ordS g k (q + 1) = some p := sel_n hS (decide_eq_false (by omega))
      rw [if_pos hc, e, ← hS]
      exact ⟨_, rfl, hb, rfl, fun _ => rfl⟩
    · have e : ordS g k (q + 1) = some q := sel_y r1 hS (decide_eq_true (by omega))
      rw [if_neg hc, j15, e]
      exact ⟨_, rfl, fin, rfl, fr⟩
theorem dig_c {c p d e : Nat} (hp : p < 10) (he : e < d) : (10 * c + p) / 10 ^ (d - e) % 10 = c / 10 ^ (d - 1 - e) % 10 := by
  rw [show d - e = (d - 1 - e) + 1 by omega, Nat.pow_succ, Nat.mul_comm (10 ^ (d - 1 - e)) 10, ← Nat.div_div_eq_div_mul, show (10 * c + p) / 10 = c by omega]
-- what the search at a depth does: rows c 10^j .. (c + 1) 10^j
def SrC (g : AG) (r0 : GS) (k B j dd : Nat) : Prop := ∀ (d c s : Nat) (g' : AG) (u : Nat → Nat) (sd : GS), d + j = k → Des g g' → Wf B g' → (∀ q, q < aP g → u q ≤ 60003000) → (∀ q, q < aP g → stB g' q = true → max (u q) (aY g) = max (g' 5 q) (aY g)) → (∀ q, q < aP g → sd (10 + d) q = nI (u q)) → (∀ e, e < d → sd 3 e = nI (c / 10 ^ (d - 1 - e) % 10)) → (∀ r, c * 10 ^ j ≤ r → r < (c + 1) * 10 ^ j → rowC g 0 (digs k r) = rowC g' s (digs j r)) → BS g k sd (ordS g k (c * 10 ^ j)) → ∃ sd', f_X2_search dd sd r0 (nI k) (nI d) (nI s) (nI (aW g')) = some sd' ∧ BS g k sd' (ordS g k ((c + 1) * 10 ^ j)) ∧ (∀ e, e ≤ d → sd' (10 + e) = sd (10 + e)) ∧ (∀ e, e < d → sd' 3 e = sd 3 e)
theorem pD_search_0 (w : Wf B g) {k : Nat} (hk : k ≤ 3) (dd : Nat) : SrC g r0 k B 0 (dd + 1) := by
  intro d c s g' u sd h1 h2 h3 h4 h5 h6 h7 h8 h9
  have hdk : d = k := by omega
  subst hdk
  rw [Nat.pow_zero, Nat.mul_one] at h8 h9 ⊢
  rw [Nat.mul_one] at h8
  obtain ⟨sd', e, a, b, b2⟩ := pD_keep w hk (h8 c (Nat.le_refl _) (by omega)) sd h7 h9
  refine ⟨sd', ?_, a, fun e _ => b2 e, fun e _ => by rw [b]⟩
  show f_X2_searchB (f_X2_search dd) sd r0 (nI d) (nI d) (nI s) (nI (aW g')) = some sd'
  unfold f_X2_searchB f_X2_search_J10
  rw [if_pos (by rw [n_le (by omega) (by omega)]; omega), e]
  rfl
theorem div_c {r c X : Nat} (h1 : c * X ≤ r) (h2 : r < (c + 1) * X) : r / X = c := Nat.div_eq_of_lt_le h1 h2
theorem pD_search_L20 (h : RepR g r0) (w : Wf B g) {k j dd : Nat} (hk : k ≤ 3) (ih : SrC g r0 k B j dd) {d c s : Nat} {g' : AG} (u : Nat → Nat) (sd0 : GS) (h1 : d + (j + 1) = k) (h2 : Des g g') (h3 : Wf B g') (h4 : ∀ q, q < aP g → u q ≤ 60003000) (h5 : ∀ q, q < aP g → stB g' q = true → max (u q) (aY g) = max (g' 5 q) (aY g)) (h6 : ∀ q, q < aP g → sd0 (10 + d) q = nI (u q)) (h7 : ∀ e, e < d → sd0 3 e = nI (c / 10 ^ (d - 1 - e) % 10)) (h8 : ∀ r, c * 10 ^ (j + 1) ≤ r → r < (c + 1) * 10 ^ (j + 1) → rowC g 0 (digs k r) = rowC g' s (digs (j + 1) r)) : ∀ (n p : Nat) (sd : GS), p ≤ aP g → aP g - p < n → BS g k sd (ordS g k ((10 * c + p) * 10 ^ j)) → (∀ e, e ≤ d → sd (10 + e) = sd0 (10 + e)) → (∀ e, e < d → sd 3 e = sd0 3 e) → ∃ sd', f_X2_search_L20 r0 (f_X2_search dd) (nI k) (nI d) (nI s) (nI (aW g')) n (nI p) sd = some sd' ∧ BS g k sd' (ordS g k ((10 * c + aP g) * 10 ^ j)) ∧ (∀ e, e ≤ d → sd' (10 + e) = sd0 (10 + e)) ∧ (∀ e, e < d → sd' 3 e = sd0 3 e)
  | 0, p, sd, _, q2, _, _, _ => by omega
  | n + 1, p, sd, q1, q2, q3, q4, q5 => by
    have hP := w.1.1.1
    have d1 := h2.1.1
    have hwl := Wf.wlt h3.1
    have hX := Nat.pow_pos (a := 10) (n := j) (by omega)
    rw [f_X2_search_L20.eq_2]
    by_cases hp : p < aP g
    · have hb := p_bit (w := aW g') (i := p) (by omega) (by omega)
      have hblk : ∀ r, (10 * c + p) * 10 ^ j ≤ r → r < (10 * c + p + 1) * 10 ^ j → rowC g 0 (digs k r) = rowC g' s (p :: digs j r) := fun r a1 a2 => by
        have e10 : c * 10 ^ (j + 1) = 10 * c * 10 ^ j := by rw [Nat.pow_succ, Nat.mul_comm (10 ^ j) 10, ← Nat.mul_assoc, Nat.mul_comm c 10]
        have e11 : (c + 1) * 10 ^ (j + 1) = (10 * c + 10) * 10 ^ j := by rw [Nat.pow_succ, Nat.mul_comm (10 ^ j) 10, ← Nat.mul_assoc, Nat.mul_comm (c + 1) 10]; rfl
        have l1 : 10 * c * 10 ^ j ≤ (10 * c + p) * 10 ^ j := Nat.mul_le_mul_right _ (by omega)
        have l2 : (10 * c + p + 1) * 10 ^ j ≤ (10 * c + 10) * 10 ^ j := Nat.mul_le_mul_right _ (by omega)
        rw [h8 r (by omega) (by omega), digs, div_c a1 a2, show (10 * c + p) % 10 = p by omega]
      cases hst : stB g' p with
      | false =>
        have hst2 : (aW g').testBit p = false := hst
        rw [hst2] at hb
        have hsk : ordS g k ((10 * c + (p + 1)) * 10 ^ j) = ordS g k ((10 * c + p) * 10 ^ j) := by
          rw [show (10 * c + (p + 1)) * 10 ^ j = (10 * c + p) * 10 ^ j + 10 ^ j by rw [← Nat.add_assoc, Nat.succ_mul]]
          refine sel_skip _ fun r a1 a2 => row_no ?_
          rw [hblk r a1 (by rw [Nat.succ_mul]; exact a2), rowC_n hst]
        obtain ⟨sd', e, z1, z2, z3⟩ := pD_search_L20 h w hk ih u sd0 h1 h2 h3 h4 h5 h6 h7 h8 n (p + 1) sd (by omega) (by omega) (by rw [hsk]; exact q3) q4 q5
        refine ⟨sd', ?_, z1, z2, z3⟩
        simp (disch := omega) only [nm_s, bd_s, bd2_s, bd3_s, bd4_s, q_gt, q_inB, ↓q_m1, l_166, l_172, l_180, l_188, l_189, l_190, l_191, l_192, l_14, l_17, l_18, l_0, l_1, l_2, l_3, l_4, l_5, l_6, l_7, l_8, l_9, l_10, l_11, l_12, l_20, l_21, l_30, l_31, l_32, l_40, l_48, l_50, l_51, l_57, l_60, l_70, l_71, l_99, l_100, l_101, l_160, l_199, l_200, l_999, l_1000, q_tn, q_add, q_mul, q_sub, q_le, q_lt, q_eq, q_31, n_and, n_or, n_xor, q_shl, q_z, q_b0, q_b1, q_bz, q_em, q_me, q_mm, q_lm, q_ml, q_mle, q_lem, s2_eq, s2_ne, pk_us, pk_un, uN_s, uN_n, if_pos, if_neg, ite_true, ite_false, if_true, if_false, not_true, not_false_iff, Nat.add_zero, Nat.zero_add, inR_t, isIx_t, bI_t, bI_f, neg1, q_clr, h.c0, hb]
        exact e
      | true =>
        have hst2 : (aW g').testBit p = true := hst
        rw [hst2] at hb
        have hd : d < 3 := by omega
        have hq4 : ∀ q, q < aP g → (s2 sd 3 (upd (sd 3) d (nI p))) (10 + d) q = nI (u q) := fun q hq => by
          rw [s2_ne (by omega), q4 d (Nat.le_refl _)]
          exact h6 q hq
        obtain ⟨u', F, e1, e2, e3, e4⟩ := pD_next h w.1 h2 h3.2 h3.1 hp hst hd u h4 h5 (s2 sd 3 (upd (sd 3) d (nI p))) hq4
        have hY := h2.1.2.1
        have wl := loseA_wf h3.1 (lost := p) (by omega)
        obtain ⟨sd2, f1, f2, f3, f4⟩ := ih (d + 1) (10 * c + p) (s + griefA g' p (aY g')) (loseA g' p) u' (s2 (s2 sd 3 (upd (sd 3) d (nI p))) (10 + (d + 1)) F) (by omega) (Des_lose h2 h3.2 hP p) wl e3 e4 (fun q hq => by rw [s2_eq]; exact e2 q hq) (fun e he => by
          rw [s2_ne (by omega), s2_eq, show d + 1 - 1 - e = d - e by omega]
          by_cases hed : e = d
          · rw [hed, pk_us, Nat.sub_self, Nat.pow_zero, Nat.div_one, show (10 * c + p) % 10 = p by omega]
          · rw [pk_un hed, q5 e (by omega), h7 e (by omega), dig_c (by omega) (by omega)]) (fun r a1 a2 => by rw [hblk r a1 a2, rowC_s hst]) (by
          refine ⟨fun hn => ?_, fun q hq => ?_⟩
          · have := q3.1 hn
            rw [s2_ne (by omega), s2_ne (by omega)]; exact this
          · obtain ⟨m1, m2, m3⟩ := q3.2 q hq
            refine ⟨?_, ?_, fun e he => ?_⟩
            · rw [s2_ne (by omega), s2_ne (by omega)]; exact m1
            · rw [s2_ne (by omega), s2_ne (by omega)]; exact m2
            · rw [s2_ne (by omega), s2_ne (by omega)]; exact m3 e he)
        obtain ⟨sd', e, z1, z2, z3⟩ := pD_search_L20 h w hk ih u sd0 h1 h2 h3 h4 h5 h6 h7 h8 n (p + 1) sd2 (by omega) (by omega) (by rw [← Nat.add_assoc]; exact f2) (fun e he => by
          rw [f3 e (by omega), s2_ne (by omega), s2_ne (by omega)]
          exact q4 e he) (fun e he => by
          rw [f4 e (by omega), s2_ne (by omega), s2_eq, pk_un (by omega)]
          exact q5 e he)
        refine ⟨sd', ?_, z1, z2, z3⟩
        have f1' : f_X2_search dd (s2 (s2 sd 3 (upd (sd 3) d (nI p))) (10 + (d + 1)) F) r0 (nI k) (nI (d + 1)) (nI (s + griefA g' p (aY g'))) (nI (clr (aW g') (2 ^ p))) = some sd2 := f1
        simp (disch := omega) only [nm_s, bd_s, bd2_s, bd3_s, bd4_s, q_gt, q_inB, ↓q_m1, l_166, l_172, l_180, l_188, l_189, l_190, l_191, l_192, l_14, l_17, l_18, l_0, l_1, l_2, l_3, l_4, l_5, l_6, l_7, l_8, l_9, l_10, l_11, l_12, l_20, l_21, l_30, l_31, l_32, l_40, l_48, l_50, l_51, l_57, l_60, l_70, l_71, l_99, l_100, l_101, l_160, l_199, l_200, l_999, l_1000, q_tn, q_add, q_mul, q_sub, q_le, q_lt, q_eq, q_31, n_and, n_or, n_xor, q_shl, q_z, q_b0, q_b1, q_bz, q_em, q_me, q_mm, q_lm, q_ml, q_mle, q_lem, s2_eq, s2_ne, pk_us, pk_un, uN_s, uN_n, if_pos, if_neg, ite_true, ite_false, if_true, if_false, not_true, not_false_iff, Nat.add_zero, Nat.zero_add, inR_t, isIx_t, bI_t, bI_f, neg1, q_clr, h.c0, hb, e1, f1']
        exact e
    · have : p = aP g := by omega
      subst this
      rw [h.c0, if_pos (by rw [n_le (by omega) (by omega)]; omega)]
      exact ⟨sd, rfl, q3, q4, q5⟩
theorem pD_search_s (h : RepR g r0) (w : Wf B g) {k j dd : Nat} (hk : k ≤ 3) (ih : SrC g r0 k B j dd) : SrC g r0 k B (j + 1) (dd + 1) := by
  intro d c s g' u sd h1 h2 h3 h4 h5 h6 h7 h8 h9
  have hP := w.1.1.1
  have e10 : c * 10 ^ (j + 1) = (10 * c + 0) * 10 ^ j := by rw [Nat.pow_succ, Nat.mul_comm (10 ^ j) 10, ← Nat.mul_assoc, Nat.mul_comm c 10]; rfl
  have e11 : (c + 1) * 10 ^ (j + 1) = (10 * c + 10) * 10 ^ j := by rw [Nat.pow_succ, Nat.mul_comm (10 ^ j) 10, ← Nat.mul_assoc, Nat.mul_comm (c + 1) 10]; rfl
  obtain ⟨sd', e, z1, z2, z3⟩ := pD_search_L20 h w hk ih u sd h1 h2 h3 h4 h5 h6 h7 h8 2000 0 sd (by omega) (by omega) (by rw [← e10]; exact h9) (fun _ _ => rfl) (fun _ _ => rfl)
  refine ⟨sd', ?_, ?_, z2, z3⟩
  · show f_X2_searchB (f_X2_search dd) sd r0 (nI k) (nI d) (nI s) (nI (aW g')) = some sd'
    unfold f_X2_searchB
    rw [if_neg (by rw [n_le (by omega) (by omega)]; omega), if_pos (by rw [show (3 : Int32) = nI 3 from rfl, n_lt (by omega) (by omega)]; omega)]
    exact e
  · have hsk : ordS g k ((10 * c + 10) * 10 ^ j) = ordS g k ((10 * c + aP g) * 10 ^ j) := by
      have e12 : (10 * c + 10) * 10 ^ j = (10 * c + aP g) * 10 ^ j + (10 - aP g) * 10 ^ j := by
        rw [← Nat.add_mul]
        congr 1
        omega
      rw [e12]
      refine sel_skip _ fun r a1 a2 => row_no ?_
      have a3 : r < (10 * c + 10) * 10 ^ j := by rw [e12]; exact a2
      have l1 : 10 * c * 10 ^ j ≤ (10 * c + aP g) * 10 ^ j := Nat.mul_le_mul_right _ (by omega)
      have hX : 0 < 10 ^ j := Nat.pow_pos (by omega)
      have t1 : 10 * c + aP g ≤ r / 10 ^ j := (Nat.le_div_iff_mul_le hX).mpr a1
      have t2 : r / 10 ^ j < 10 * c + 10 := (Nat.div_lt_iff_lt_mul hX).mpr a3
      rw [h8 r (by rw [e10]; exact Nat.le_trans l1 a1) (by rw [e11]; exact a3), digs]
      refine rowC_n ?_
      cases hx : stB g' (r / 10 ^ j % 10) with
      | false => rfl
      | true =>
        have := Wf.st_lt h3.1 hx
        rw [h2.1.1] at this
        omega
    rw [e11, hsk]
    exact z1
theorem pD_search (h : RepR g r0) (w : Wf B g) {k : Nat} (hk : k ≤ 3) : ∀ j dd, SrC g r0 k B j (dd + (j + 1))
  | 0, dd => pD_search_0 w hk dd
  | j + 1, dd => pD_search_s h w hk (pD_search h w hk j dd)
theorem pD_find (h : RepR g r0) (w : Wf B g) {k : Nat} (hk : k ≤ 3) (sd : GS) : ∃ sd', f_X2_find sd r0 (nI k) = some sd' ∧ BS g k sd' (ordS g k (10 ^ k)) := by
  have hP := w.1.1.1
  have hB := w.1.1.2.2.2.2.1
  have hS := pD_search h w hk k (5 - k)
  rw [show 5 - k + (k + 1) = 6 by omega] at hS
  obtain ⟨sd', e, z1, -, -⟩ := hS 0 0 0 g (fun q => g 5 q) (s2 (s2 (s2 sd 0 (upd (sd 0) 4 (nI 0))) 0 (upd (upd (sd 0) 4 (nI 0)) 0 (nI 0))) 10 (va_cpy (r0 7) (sd 10) 0 0 10)) (by omega) (Des_rfl g) w (fun q hq => by have := (w.1.2.1 q hq).2.2.2.2.1; omega) (fun _ _ _ => rfl) (fun q hq => by
    show va_cpy (r0 7) (sd 10) 0 0 10 q = _
    rw [va_cpy0 (by omega), h.c7 hq]) (fun e he => by omega) (fun r _ _ => rfl) (by
    rw [Nat.zero_mul]
    exact ⟨fun _ => rfl, fun q hq => by cases hq⟩)
  rw [Nat.zero_add, Nat.one_mul] at z1
  refine ⟨sd', ?_, z1⟩
  unfold f_X2_find
  rw [← h.c1] at e
  simp only [nm_s]
  rw [gd_t (show inB (0 : Int32) 4 = true by decide)]
  exact (congrArg (fun z => bd z (fun sd_5 => some sd_5)) e)
end OR1
