-- both sides: an item of a text
theorem let_k : ∀ k, k < 6 → f_X4_lettersOf (nI k) = some k := by decide
theorem ch_ne : ∀ j, j < 6 → ∀ k, k < j → ¬ tCh j (0 : Int32) = tCh k (0 : Int32) := by decide
theorem ch_z : ∀ k, k < 6 → ¬ tCh k (0 : Int32) = 0 ∧ 0 < tLen.getD k 0 := by decide
section IT
variable {B i0 L : Nat} {g : AG} {s0 r2 : GS} {rw : Nat → GS} {re : Nat → Nat → Int64} {sq : Nat → Int64}
theorem wh_y (h2 : rw i0 0 2 = nI L) (hL : L ≤ 160) {se : GS} {a : Nat} (h1 : se 0 1 = nI a) {wi : Nat} (hw : wi < 6) (hh : a < L ∧ cAt re i0 a = tCh wi (0 : Int32)) : ∀ n k, k ≤ wi → wi - k < n → f_X4_wordHere_L2 se (rw i0) (re i0) n (nI k) = some (nI wi)
  | 0, k, _, h => by omega
  | n + 1, k, q1, q2 => by
    rw [f_X4_wordHere_L2.eq_2, if_neg (by rw [show (6 : Int32) = nI 6 from rfl, n_le (by omega) (by omega)]; omega), el_c h2 hL (by omega) h1, bd_s, let_k k (by omega), bd_s, gd_t (decide_eq_true (show k < 6 by omega)), gd_t (show inB (0 : Int32) (tLen.getD k 0) = true from n_inB (i := 0) (ch_z k (by omega)).2 (by have := (len_6 k (by omega)).1; omega)), if_pos hh.1, hh.2]
    by_cases hk : k = wi
    · rw [if_pos (by rw [hk]), hk]
    · rw [if_neg (ch_ne wi hw k (by omega)), nm_s, n_s]
      exact wh_y h2 hL h1 hw hh n (k + 1) (by omega) (by omega)
theorem wh_n (h2 : rw i0 0 2 = nI L) (hL : L ≤ 160) {se : GS} {a : Nat} (ha : a ≤ 160) (h1 : se 0 1 = nI a) (hh : ∀ wi, wi < 6 → ¬ (a < L ∧ cAt re i0 a = tCh wi (0 : Int32))) : ∀ n k, k ≤ 6 → 6 - k < n → f_X4_wordHere_L2 se (rw i0) (re i0) n (nI k) = some mI
  | 0, k, _, h => by omega
  | n + 1, k, q1, q2 => by
    rw [f_X4_wordHere_L2.eq_2]
    by_cases hk : k < 6
    · rw [if_neg (by rw [show (6 : Int32) = nI 6 from rfl, n_le (by omega) (by omega)]; omega), el_c h2 hL ha h1, bd_s, let_k k hk, bd_s, gd_t (decide_eq_true hk), gd_t (show inB (0 : Int32) (tLen.getD k 0) = true from n_inB (i := 0) (ch_z k hk).2 (by have := (len_6 k hk).1; omega)), if_neg (fun e => by
        by_cases hl : a < L
        · rw [if_pos hl] at e; exact hh k hk ⟨hl, e⟩
        · rw [if_neg hl] at e; exact (ch_z k hk).1 e.symm), nm_s, n_s]
      exact wh_n h2 hL ha h1 hh n (k + 1) (by omega) (by omega)
    · rw [if_pos (by rw [show (6 : Int32) = nI 6 from rfl, n_le (by omega) (by omega)]; omega)]
      rfl
theorem L88_0 {n wi : Nat} {se : GS} (hw : wi < 6) (h3 : se 0 3 = nI wi) (hn : ¬ tbNums wi ≤ nI 0) : f_X4_readItem_L88 (rw i0) (re i0) r2 (n + 1) (0 : Int32) se = bd2 (f_X4_passLetter se (rw i0) (re i0) (32 : Int32)) (fun r se30 => if r = 0 then some ((0 : Int32), se30) else bd2 (f_X4_readNumber se30 (rw i0) (re i0) r2 (nI 0)) (fun r33 se34 => if r33 = 0 then some ((0 : Int32), se34) else f_X4_readItem_L88 (rw i0) (re i0) r2 n (nI (0 + 1)) se34)) := L88_s (i := 0) hw h3 (by omega) hn
def KW (rw : Nat → GS) (re : Nat → Nat → Int64) (i0 : Nat) (r2 : GS) (a : Nat) : GS → Option (Int32 × GS) := fun se_21 => bd (f_X4_hasRoom se_21 r2) (fun r_22 => if r_22 = 0 then (bd2 (f_X4_faultAt se_21 (nI a)) (fun r_38 se_39 => gd (isZ r_38) (some (r_38, se_39)))) else (f_X4_readItem_L88 (rw i0) (re i0) r2 FU (0 : Int32) se_21))
theorem readItem_y (h2 : rw i0 0 2 = nI L) (hL : L ≤ 160) {se : GS} {a : Nat} (h1 : se 0 1 = nI a) {wi : Nat} (hw : wi < 6) (hh : a < L ∧ cAt re i0 a = tCh wi (0 : Int32)) : f_X4_readItem se (rw i0) (re i0) r2 = f_X4_readItem_L41 (rw i0) (re i0) wi (KW rw re i0 r2 a) FU (nI 0) (s2 se 0 (upd (se 0) 3 (nI wi))) := by
  have e : f_X4_wordHere se (rw i0) (re i0) = some (nI wi) := wh_y h2 hL h1 hw hh FU 0 (by omega) (by rw [FU_def]; omega)
  have e3 : (s2 se 0 (upd (se 0) 3 (nI wi))) 0 3 = nI wi := rfl
  unfold f_X4_readItem
  rw [h1, nm_s, e, bd_s, nm_s, e3, if_neg (show ¬ nI wi = (-1 : Int32) by rw [n_m1 (by omega)]; exact id), let_k wi hw, bd_s]
  rfl
theorem readItem_n (h2 : rw i0 0 2 = nI L) (hL : L ≤ 160) {se : GS} {a : Nat} (ha : a ≤ 160) (h1 : se 0 1 = nI a) (hh : ∀ wi, wi < 6 → ¬ (a < L ∧ cAt re i0 a = tCh wi (0 : Int32))) : ∃ se', f_X4_readItem se (rw i0) (re i0) r2 = some ((0 : Int32), se') ∧ se' 0 2 = nI a := by
  have e : f_X4_wordHere se (rw i0) (re i0) = some mI := wh_n h2 hL ha h1 hh FU 0 (by omega) (by rw [FU_def]; omega)
  have e3 : (s2 se 0 (upd (se 0) 3 mI)) 0 3 = mI := rfl
  have e1 : (s2 se 0 (upd (se 0) 3 mI)) 0 1 = nI a := h1
  unfold f_X4_readItem f_X4_faultAt
  rw [h1, nm_s, e, bd_s, nm_s, e3, if_pos (show mI = (-1 : Int32) from rfl), e1, nm_s, bd2_s, gd_t (by decide)]
  exact ⟨_, rfl, rfl⟩
theorem word_ok {s s' : GS} {wi : Nat} (e : f_X7_word_L2 sq wi FU (nI 0) s = some ((1 : Int32), s')) : f_X7_word s sq wi = some ((1 : Int32), s') ∧ f_X7_word_ s sq wi (1 : Int32) = some ((1 : Int32), s') ∧ f_X7_word_ s sq wi (0 : Int32) = some ((0 : Int32), s2 s' 0 (upd (s' 0) 32 (s 0 32))) := by
  have e' : f_X7_word s sq wi = some ((1 : Int32), s') := e
  refine ⟨e', ?_, ?_⟩
  · unfold f_X7_word_ f_X7_word__J26
    rw [e', nm_s, bd2_s, if_neg one_nz, if_neg one_nz, if_neg one_nz, if_neg one_nz]
  · unfold f_X7_word_ f_X7_word__J26
    rw [e', nm_s, bd2_s, if_neg one_nz, if_pos zz32, nm_s, if_neg one_nz, if_pos zz32]
theorem word_no {s s' : GS} {wi : Nat} (e : f_X7_word_L2 sq wi FU (nI 0) s = some ((0 : Int32), s')) : f_X7_word s sq wi = some ((0 : Int32), s') ∧ ∀ x, f_X7_word_ s sq wi x = some ((0 : Int32), s') := by
  have e' : f_X7_word s sq wi = some ((0 : Int32), s') := e
  refine ⟨e', fun x => ?_⟩
  unfold f_X7_word_ f_X7_word__J26
  rw [e', nm_s, bd2_s, if_pos zz32, if_pos zz32]
theorem w_n {lo hi v : Nat} : f_X7_within (nI v) (nI lo) (nI hi) = some (bI (inR (nI v) lo hi)) := pM_within _ _ _
-- each word
theorem it_years (h8 : i0 < 8) (h2 : rw i0 0 2 = nI L) (hL : L ≤ 160) (hq : ∀ j, j < L → re i0 j = sq (160 * i0 + j)) (h : RepR g r2) (w : Wf B g) (hB : B + 999 ≤ 20000000) {a b : Nat} {ns : Nat → Nat} {se s : GS} (hb : a + 5 ≤ b) (hbL : b ≤ L) (hC : LkC 4 b 0 ns se) (hM : LkT g s0 i0 L b 0 ns s) : ResO g s0 (ItG B L a g s0 r2 i0) (KW rw re i0 r2 a se) (bd2 (f_X7_number s sq (0 : Int32) (1 : Int32) (999 : Int32)) (fun r_120 sm_121 => if r_120 = 0 then (some ((0 : Int32), sm_121)) else (nmd ((sm_121 0 17) + (sm_121 34 (0 : Int32).toNatClampNeg)) (fun u_124 => nmd (s2 sm_121 0 (upd (sm_121 0) 17 u_124)) (fun sm_125 => some ((1 : Int32), sm_125)))))) := by
  have hy := w.1.1.2.2.2.1
  have hr : f_X4_hasRoom se r2 = some (1 : Int32) := by
    unfold f_X4_hasRoom
    rw [hC.2.2.1, if_neg (by decide), if_neg (by decide), if_neg (by decide)]
  obtain ⟨m, hm⟩ : ∃ m, FU = m + 6 := ⟨1994, rfl⟩
  unfold KW
  rw [hr, bd_s, if_neg one_nz, hm, L88_0 (by omega) hC.2.2.1 (by decide)]
  refine num_j h8 h2 hL hq (i := 0) hC hM hbL (by omega) (fun v => decide (1 ≤ v)) (fun _ => true) (fun se' h3 v hv => ?_) (fun v hv => ?_) (fun _ _ _ _ _ hx => by cases hx) (fun v a' se' s' hv ho _ hl1 hl2 hC' hM' => ?_)
  · unfold f_X4_mayBe
    rw [h3, if_neg (by decide), if_neg (by decide), if_neg (by decide), if_neg (by decide), if_pos (by decide), Bool.and_true]
    by_cases h1 : 1 ≤ v
    · rw [if_neg (show ¬ nI v < (1 : Int32) by rw [n_lt1 (by omega)]; omega), if_neg (show ¬ (999 : Int32) < nI v by rw [n_999lt (by omega)]; omega), decide_eq_true h1]
      rfl
    · rw [if_pos (show nI v < (1 : Int32) by rw [n_lt1 (by omega)]; omega), decide_eq_false h1]
      rfl
  · rw [show (1 : Int32) = nI 1 from rfl, show (999 : Int32) = nI 999 from rfl, w_n]
    congr 2
    unfold inR
    have a2 : (¬ 999 < v) = True := eq_true (by omega)
    have a1 : (¬ v < 1) = (1 ≤ v) := propext (by omega)
    simp only [n_lt (show v < 2147483648 by omega) (show 1 < 2147483648 by omega), n_lt (show 999 < 2147483648 by omega) (show v < 2147483648 by omega), a1, a2, decide_true, Bool.and_true]
  · have hv1 : 1 ≤ v := of_decide_eq_true ho
    have e0 : s' 34 (0 : Int32).toNatClampNeg = nI v := hM'.2.2.2 0 (by omega)
    have e5 : se' 5 (0 : Int32).toNatClampNeg = nI v := hC'.2.2.2 0 (by omega)
    have ey : s' 0 17 = nI (aY g) := hM'.2.1.cy
    refine Or.inr ⟨se', s2 s' 0 (upd (s' 0) 17 (nI (aY g + v))), ?_, ?_, s2 r2 0 (upd (r2 0) 16 (nI (aY g + v))), setY g (aY g + v), a', ?_, ⟨⟨h.c0, h.c1, h.cs, h.cv, rfl⟩, h.2⟩, hM'.1, pM_setY hM'.2.1, FrS_tr hM'.2.2.1 ⟨SmK_slot (by omega) (by omega) (by omega), rfl, rfl⟩, ⟨setY_wf (Wf.mono w.1 (by omega) (by omega)) (by omega) (by omega), setY_v w.2⟩, rfl, Nat.le_refl _, by omega, hl2, hC'.1, hC'.2.1⟩
    · exact L88_e (by omega) hC'.2.2.1 (by decide)
    · show nmd ((s' 0 17) + (s' 34 (0 : Int32).toNatClampNeg)) _ = _
      rw [e0, ey, n_add, nm_s, nm_s]
    · unfold f_X4_comeTrue
      rw [hC'.2.2.1, if_neg (by decide), if_neg (by decide), if_neg (by decide), if_neg (by decide), if_pos (by decide), e5, h.cy, n_add, nm_s, nm_s]
theorem it_take (h8 : i0 < 8) (h2 : rw i0 0 2 = nI L) (hL : L ≤ 160) (hq : ∀ j, j < L → re i0 j = sq (160 * i0 + j)) (h : RepR g r2) (w : Wf B g) (hB : B + 999 ≤ 20000000) {a b : Nat} {ns : Nat → Nat} {se s : GS} (hb : a + 4 ≤ b) (hbL : b ≤ L) (hC : LkC 5 b 0 ns se) (hM : LkT g s0 i0 L b 0 ns s) : ResO g s0 (ItG B L a g s0 r2 i0) (KW rw re i0 r2 a se) (bd2 (f_X7_number s sq (0 : Int32) (0 : Int32) (nI (aP g) - (1 : Int32))) (fun r_68 sm_69 => if r_68 = 0 then (some ((0 : Int32), sm_69)) else (bd (f_X7_isThere sm_69 (sm_69 34 (0 : Int32).toNatClampNeg)) (fun r_72 => bd2 (f_X7_stands sm_69 (nI (b + 1)) r_72) (fun r_74 sm_75 => if r_74 = 0 then (some ((0 : Int32), sm_75)) else (bd2 (f_X7_loses sm_75 (sm_75 34 (0 : Int32).toNatClampNeg)) (fun r_78 sm_79 => some ((1 : Int32), sm_79)))))))) := by
  have hP := w.1.1.1
  have hr : f_X4_hasRoom se r2 = some (1 : Int32) := by
    unfold f_X4_hasRoom
    rw [hC.2.2.1, if_neg (by decide), if_neg (by decide), if_neg (by decide)]
  obtain ⟨m, hm⟩ : ∃ m, FU = m + 6 := ⟨1994, rfl⟩
  unfold KW
  rw [hr, bd_s, if_neg one_nz, hm, L88_0 (by omega) hC.2.2.1 (by decide)]
  refine num_j h8 h2 hL hq (i := 0) hC hM hbL (by omega) (fun v => isIx (nI v) (aP g)) (fun v => stB g v) (fun se' h3 v hv => ?_) (fun v hv => ?_) (fun v a' s' hv ho hx hl hM' => ?_) (fun v a' se' s' hv ho hx hl1 hl2 hC' hM' => ?_)
  · unfold f_X4_mayBe
    rw [h3, if_neg (by decide), if_neg (by decide), if_neg (by decide), if_neg (by decide), if_neg (by decide), pR_isStanding h w.1, bd_s, isZ_gd]
    unfold isSt
    rw [n_tn (by omega)]
  · exact w7_len (nI v) (aP g) (by omega)
  · have e0 : s' 34 (0 : Int32).toNatClampNeg = nI v := hM'.2.2.2 0 (by omega)
    refine ⟨s2 s' 0 (upd (s' 0) 32 (nI (b + 1))), ?_, rfl, RepM_sl hM'.2.1 (by omega), FrS_tr hM'.2.2.1 (FrS_slot (by omega))⟩
    show bd (f_X7_isThere s' (s' 34 (0 : Int32).toNatClampNeg)) _ = _
    unfold f_X7_stands
    rw [e0, pM_isThere hM'.2.1 w.1, bd_s, isSt_n w.1 (by omega), hx, if_pos b0z, nm_s, isZ_gd, bd2_s, if_pos b0z]
  · have e0 : s' 34 (0 : Int32).toNatClampNeg = nI v := hM'.2.2.2 0 (by omega)
    have e5 : se' 5 (0 : Int32).toNatClampNeg = nI v := hC'.2.2.2 0 (by omega)
    have hvp := Wf.st_lt w.1 hx
    obtain ⟨⟨x1, x2⟩, x3, x4, x5, x6⟩ := pR_lose h w.1 hvp
    obtain ⟨⟨y1, y2⟩, y3, y4, y5, y6⟩ := pM_loses hM'.2.1 w hvp hx
    dsimp only at x4 x5 x6 y4 y5 y6
    refine Or.inr ⟨se', y2, ?_, ?_, x2, loseA g v, a', ?_, x5, ⟨(y6.2 31 rfl).trans hM'.1.1, (y6.2 32 rfl).trans hM'.1.2.1, (congrFun (y6.1 2 rfl) _).trans hM'.1.2.2⟩, y5, FrS_tr hM'.2.2.1 (FrS_fr y6), loseA_wf (Wf.mono w.1 (by omega) (by omega)) hvp, x6, Nat.le_refl _, by omega, hl2, hC'.1, hC'.2.1⟩
    · exact L88_e (by omega) hC'.2.2.1 (by decide)
    · show bd (f_X7_isThere s' (s' 34 (0 : Int32).toNatClampNeg)) _ = _
      unfold f_X7_stands
      rw [e0, pM_isThere hM'.2.1 w.1, bd_s, isSt_n w.1 (by omega), hx, if_neg b1z, isZ_gd, bd2_s, if_neg b1z, e0, y3, bd2_s]
    · unfold f_X4_comeTrue
      rw [hC'.2.2.1, if_neg (by decide), if_neg (by decide), if_neg (by decide), if_neg (by decide), if_neg (by decide), e5, x3, bd2_s]
theorem it_under (h8 : i0 < 8) (h2 : rw i0 0 2 = nI L) (hL : L ≤ 160) (hq : ∀ j, j < L → re i0 j = sq (160 * i0 + j)) (h : RepR g r2) (w : Wf B g) (hB : B + 999 ≤ 20000000) {a b : Nat} {ns : Nat → Nat} {se s : GS} (hb : a + 5 ≤ b) (hbL : b ≤ L) (hC : LkC 3 b 0 ns se) (hM : LkT g s0 i0 L b 0 ns s) : ResO g s0 (ItG B L a g s0 r2 i0) (KW rw re i0 r2 a se) (bd2 (f_X7_number s sq (0 : Int32) (0 : Int32) (nI (aV g) - (1 : Int32))) (fun r_86 sm_87 => if r_86 = 0 then (some ((0 : Int32), sm_87)) else (bd2 (f_X7_number sm_87 sq (1 : Int32) (0 : Int32) ((sm_87 0 3) - (1 : Int32))) (fun r_90 sm_91 => if r_90 = 0 then (some ((0 : Int32), sm_91)) else (gd (inB (sm_91 34 (0 : Int32).toNatClampNeg) 8) (nmd ((sm_91 17 (sm_91 34 (0 : Int32).toNatClampNeg).toNatClampNeg) ||| ((1 : Int32) <<< ((sm_91 34 (1 : Int32).toNatClampNeg) &&& 31))) (fun u_95 => gd (inB (sm_91 34 (0 : Int32).toNatClampNeg) 8) (nmd (s2 sm_91 17 (upd (sm_91 17) (sm_91 34 (0 : Int32).toNatClampNeg).toNatClampNeg u_95)) (fun sm_97 => some ((1 : Int32), sm_97)))))))))) := by
  have hP := w.1.1.1
  have hV := w.1.1.2.2.1
  have hr : f_X4_hasRoom se r2 = some (1 : Int32) := by
    unfold f_X4_hasRoom
    rw [hC.2.2.1, if_neg (by decide), if_neg (by decide), if_neg (by decide)]
  obtain ⟨m, hm⟩ : ∃ m, FU = m + 6 := ⟨1994, rfl⟩
  unfold KW
  rw [hr, bd_s, if_neg one_nz, hm, L88_0 (by omega) hC.2.2.1 (by decide)]
  refine num_j h8 h2 hL hq (i := 0) hC hM hbL (by omega) (fun v => isIx (nI v) (aV g)) (fun _ => true) (fun se' h3 v hv => ?_) (fun v hv => w7_len (nI v) (aV g) (by omega)) (fun _ _ _ _ _ hx => by cases hx) (fun v a' se' s' hv ho _ hl1 hl2 hC' hM' => ?_)
  · unfold f_X4_mayBe
    rw [h3, if_neg (by decide), if_neg (by decide), if_neg (by decide), if_pos (by decide), if_pos (by decide), pR_isValley h, bd_s, isZ_gd, Bool.and_true]
  · have hvV : v < aV g := by rw [isIx_n (by omega) (by omega)] at ho; exact of_decide_eq_true ho
    try dsimp only
    rw [L88_s (by omega) hC'.2.2.1 (by omega) (by decide), hM'.2.1.c0]
    refine num_j h8 h2 hL hq (i := 1) hC' hM' hl2 (by omega) (fun v => isIx (nI v) (aP g)) (fun _ => true) (fun se' h3 v hv => ?_) (fun v hv => w7_len (nI v) (aP g) (by omega)) (fun _ _ _ _ _ hx => by cases hx) (fun p a2 se2 s2' hp2 ho2 _ hl3 hl4 hC2 hM2 => ?_)
    · unfold f_X4_mayBe
      rw [h3, if_neg (by decide), if_neg (by decide), if_neg (by decide), if_pos (by decide), if_neg (by decide), pR_isPeak h, bd_s, isZ_gd, Bool.and_true]
    · have hpP : p < aP g := by rw [isIx_n (by omega) (by omega)] at ho2; exact of_decide_eq_true ho2
      have e0 : s2' 34 (0 : Int32).toNatClampNeg = nI v := hM2.2.2.2 0 (by omega)
      have e1 : s2' 34 (1 : Int32).toNatClampNeg = nI p := hM2.2.2.2 1 (by omega)
      have f0 : se2 5 (0 : Int32).toNatClampNeg = nI v := hC2.2.2.2 0 (by omega)
      have f1 : se2 5 (1 : Int32).toNatClampNeg = nI p := hC2.2.2.2 1 (by omega)
      obtain ⟨r', x1, x2, x3⟩ := pR_putUnder h w.1 hvV hpP true
      have x1' : f_X3_putUnder r2 (nI v) (nI p) (1 : Int32) = some r' := x1
      rw [if_pos rfl] at x2
      have hub := (w.1.2.2.2.2.1 v hvV).2
      refine Or.inr ⟨se2, s2 s2' 17 (upd (s2' 17) v (nI (g 12 v ||| 2 ^ p))), ?_, ?_, r', setU g v (g 12 v ||| 2 ^ p), a2, ?_, x2, hM2.1, pM_setU hM2.2.1, FrS_tr hM2.2.2.1 (FrS_fr (FrM_s2 rfl (by omega))), ⟨setU_wf (Wf.mono w.1 (by omega) (by omega)) (or_lt hub (two_lt hpP)), setU_v w.2⟩, x3, Nat.le_refl _, by omega, hl4, hC2.1, hC2.2.1⟩
      · exact L88_e (by omega) hC2.2.2.1 (by decide)
      · show gd (inB (s2' 34 (0 : Int32).toNatClampNeg) 8) _ = _
        rw [e0, e1, gd_t (n_inB (by omega) (by omega)), n_tn (by omega), hM2.2.1.c17 hvV, n_shl (by omega), n_or, nm_s, gd_t (n_inB (by omega) (by omega)), nm_s]
      · unfold f_X4_comeTrue
        rw [hC2.2.2.1, if_neg (by decide), if_neg (by decide), if_neg (by decide), if_pos (by decide), f0, f1, x1', bd_s]
theorem it_valley (h8 : i0 < 8) (h2 : rw i0 0 2 = nI L) (hL : L ≤ 160) (hq : ∀ j, j < L → re i0 j = sq (160 * i0 + j)) (h : RepR g r2) (w : Wf B g) (hB : B + 999 ≤ 20000000) (hroom : aV g < 8) {a b : Nat} {ns : Nat → Nat} {se s : GS} (hb : a + 6 ≤ b) (hbL : b ≤ L) (hC : LkC 2 b 0 ns se) (hM : LkT g s0 i0 L b 0 ns s) : ResO g s0 (ItG B L a g s0 r2 i0) (KW rw re i0 r2 a se) (bd2 (f_X7_number s sq (0 : Int32) (0 : Int32) (999 : Int32)) (fun r_106 sm_107 => if r_106 = 0 then (some ((0 : Int32), sm_107)) else (bd2 (f_X7_newValley sm_107 (sm_107 34 (0 : Int32).toNatClampNeg)) (fun r_110 sm_111 => some ((1 : Int32), sm_111))))) := by
  have hr : f_X4_hasRoom se r2 = some (1 : Int32) := by
    unfold f_X4_hasRoom
    rw [hC.2.2.1, if_neg (by decide), if_neg (by decide), if_pos (by decide), h.cv, if_neg (by rw [show (8 : Int32) = nI 8 from rfl, n_le (by omega) (by omega)]; omega)]
  obtain ⟨m, hm⟩ : ∃ m, FU = m + 6 := ⟨1994, rfl⟩
  unfold KW
  rw [hr, bd_s, if_neg one_nz, hm, L88_0 (by omega) hC.2.2.1 (by decide)]
  refine num_j h8 h2 hL hq (i := 0) hC hM hbL (by omega) (fun _ => true) (fun _ => true) (fun se' h3 v hv => ?_) (fun v hv => ?_) (fun _ _ _ _ _ hx => by cases hx) (fun v a' se' s' hv ho _ hl1 hl2 hC' hM' => ?_)
  · unfold f_X4_mayBe
    rw [h3, if_neg (by decide), if_neg (by decide), if_pos (by decide), if_neg (show ¬ (999 : Int32) < nI v by rw [n_999lt (by omega)]; omega)]
    rfl
  · rw [show (999 : Int32) = nI 999 from rfl, z0i, w_n, inR_t (by omega) (by omega) (by omega)]
  · have e0 : s' 34 (0 : Int32).toNatClampNeg = nI v := hM'.2.2.2 0 (by omega)
    have e5 : se' 5 (0 : Int32).toNatClampNeg = nI v := hC'.2.2.2 0 (by omega)
    obtain ⟨⟨x1, x2⟩, x3, x4, x5, x6⟩ := pR_addValley h w.1 (m := v) hroom
    obtain ⟨⟨y1, y2⟩, y3, y4, y5, y6⟩ := pM_newValley hM'.2.1 w.1 (m := v) hroom
    dsimp only at x4 x5 x6 y4 y5 y6
    refine Or.inr ⟨se', y2, ?_, ?_, x2, addV g v, a', ?_, x5, ⟨(y6.2 31 rfl).trans hM'.1.1, (y6.2 32 rfl).trans hM'.1.2.1, (congrFun (y6.1 2 rfl) _).trans hM'.1.2.2⟩, y5, FrS_tr hM'.2.2.1 (FrS_fr y6), ⟨addV_wf (Wf.mono w.1 (by omega) (by omega)) hv hroom, addV_v w.2⟩, x6, Nat.le_refl _, by omega, hl2, hC'.1, hC'.2.1⟩
    · exact L88_e (by omega) hC'.2.2.1 (by decide)
    · show bd2 (f_X7_newValley s' (s' 34 (0 : Int32).toNatClampNeg)) _ = _
      rw [e0, y3, bd2_s]
    · unfold f_X4_comeTrue
      rw [hC'.2.2.1, if_neg (by decide), if_neg (by decide), if_pos (by decide), e5, x3, bd2_s]
theorem it_screen (h8 : i0 < 8) (h2 : rw i0 0 2 = nI L) (hL : L ≤ 160) (hq : ∀ j, j < L → re i0 j = sq (160 * i0 + j)) (h : RepR g r2) (w : Wf B g) (hB : B + 999 ≤ 20000000) (hroom : aS g < 6) {a b : Nat} {ns : Nat → Nat} {se s : GS} (hb : a + 6 ≤ b) (hbL : b ≤ L) (hC : LkC 1 b 0 ns se) (hM : LkT g s0 i0 L b 0 ns s) : ResO g s0 (ItG B L a g s0 r2 i0) (KW rw re i0 r2 a se) (bd2 (f_X7_number s sq (0 : Int32) (0 : Int32) (99 : Int32)) (fun r_51 sm_52 => if r_51 = 0 then (some ((0 : Int32), sm_52)) else (bd2 (f_X7_number sm_52 sq (1 : Int32) (1 : Int32) (999 : Int32)) (fun r_55 sm_56 => if r_55 = 0 then (some ((0 : Int32), sm_56)) else (bd2 (f_X7_newScreen sm_56 (sm_56 34 (0 : Int32).toNatClampNeg) (sm_56 34 (1 : Int32).toNatClampNeg)) (fun r_59 sm_60 => some ((1 : Int32), sm_60))))))) := by
  have hr : f_X4_hasRoom se r2 = some (1 : Int32) := by
    unfold f_X4_hasRoom
    rw [hC.2.2.1, if_neg (by decide), if_pos (by decide), h.cs, if_neg (by rw [show (6 : Int32) = nI 6 from rfl, n_le (by omega) (by omega)]; omega)]
  obtain ⟨m, hm⟩ : ∃ m, FU = m + 6 := ⟨1994, rfl⟩
  unfold KW
  rw [hr, bd_s, if_neg one_nz, hm, L88_0 (by omega) hC.2.2.1 (by decide)]
  refine num_j h8 h2 hL hq (i := 0) hC hM hbL (by omega) (fun v => isIx (nI v) 100) (fun _ => true) (fun se' h3 v hv => ?_) (fun v hv => ?_) (fun _ _ _ _ _ hx => by cases hx) (fun v a' se' s' hv ho _ hl1 hl2 hC' hM' => ?_)
  · unfold f_X4_mayBe
    rw [h3, if_neg (by decide), if_pos (by decide), if_pos (by decide), p6_isPlace, bd_s, isZ_gd, Bool.and_true]
  · rw [show (99 : Int32) = nI 99 from rfl, z0i, w_n, inR_ix (by omega)]
  · have hvV : v < 100 := by rw [isIx_n (by omega) (by omega)] at ho; exact of_decide_eq_true ho
    try dsimp only
    rw [L88_s (by omega) hC'.2.2.1 (by omega) (by decide)]
    refine num_j h8 h2 hL hq (i := 1) hC' hM' hl2 (by omega) (fun v => inR (nI v) 1 999) (fun _ => true) (fun se' h3 v hv => ?_) (fun v hv => w_n (lo := 1) (hi := 999)) (fun _ _ _ _ _ hx => by cases hx) (fun p a2 se2 s2' hp2 ho2 _ hl3 hl4 hC2 hM2 => ?_)
    · unfold f_X4_mayBe
      rw [h3, if_neg (by decide), if_pos (by decide), if_neg (by decide), p6_isHeight, bd_s, isZ_gd, Bool.and_true]
    · have hpP : 1 ≤ p ∧ p < 1000 := by
        refine ⟨?_, hp2⟩
        by_cases hp0 : p = 0
        · rw [hp0] at ho2; exact absurd ho2 (by decide)
        · omega
      have e0 : s2' 34 (0 : Int32).toNatClampNeg = nI v := hM2.2.2.2 0 (by omega)
      have e1 : s2' 34 (1 : Int32).toNatClampNeg = nI p := hM2.2.2.2 1 (by omega)
      have f0 : se2 5 (0 : Int32).toNatClampNeg = nI v := hC2.2.2.2 0 (by omega)
      have f1 : se2 5 (1 : Int32).toNatClampNeg = nI p := hC2.2.2.2 1 (by omega)
      obtain ⟨⟨x1, x2⟩, x3, x4, x5, x6⟩ := pR_addScreen h w.1 hvV hpP hroom
      obtain ⟨⟨y1, y2⟩, y3, y4, y5, y6⟩ := pM_newScreen hM2.2.1 w.1 hvV hpP hroom
      dsimp only at x4 x5 x6 y4 y5 y6
      refine Or.inr ⟨se2, y2, ?_, ?_, x2, lookA (addS g v p), a2, ?_, x5, ⟨(y6.2 31 rfl).trans hM2.1.1, (y6.2 32 rfl).trans hM2.1.2.1, (congrFun (y6.1 2 rfl) _).trans hM2.1.2.2⟩, y5, FrS_tr hM2.2.2.1 (FrS_fr y6), lookA_wf (addS_wf (Wf.mono w.1 (by omega) (by omega)) hvV hpP hroom), x6, Nat.le_refl _, by omega, hl4, hC2.1, hC2.2.1⟩
      · exact L88_e (by omega) hC2.2.2.1 (by decide)
      · show bd2 (f_X7_newScreen s2' (s2' 34 (0 : Int32).toNatClampNeg) (s2' 34 (1 : Int32).toNatClampNeg)) _ = _
        rw [e0, e1, y3, bd2_s]
      · unfold f_X4_comeTrue
        rw [hC2.2.2.1, if_neg (by decide), if_pos (by decide), f0, f1, x3, bd2_s]
end IT
