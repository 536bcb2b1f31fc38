-- both sides: MOVES
def stC (b : GS) (t : Nat) (L : Nat → Int32) : GS := s2 (s2 b 2 L) 0 (upd (b 0) 0 (nI t))
def stM (s : GS) (t : Nat) (L : Nat → Int32) : GS := s2 (s2 s 23 L) 0 (upd (s 0) 21 (nI t))
theorem stC_2 (b : GS) (t : Nat) (L : Nat → Int32) : stC b t L 0 2 = b 0 2 := rfl
theorem stC_3 (b : GS) (t : Nat) (L : Nat → Int32) : stC b t L 0 3 = b 0 3 := rfl
theorem stC_4 (b : GS) (t : Nat) (L : Nat → Int32) : stC b t L 0 4 = b 0 4 := rfl
theorem stM_5 (s : GS) (t : Nat) (L : Nat → Int32) : stM s t L 5 = s 5 := rfl
theorem stM_6 (s : GS) (t : Nat) (L : Nat → Int32) : stM s t L 6 = s 6 := rfl
theorem s2_cm (s : GS) {a b : Nat} (f h : Nat → Int32) (hn : a ≠ b) : s2 (s2 s a f) b h = s2 (s2 s b h) a f := by
  funext j
  unfold s2
  by_cases h1 : j = b
  · rw [if_pos h1, if_neg (fun e => hn (e.symm.trans h1)), if_pos h1]
  · rw [if_neg h1, if_neg h1]
theorem upd_upd (f : Nat → Int32) (k : Nat) (x y : Int32) : upd (upd f k x) k y = upd f k y := by
  funext j
  by_cases h : j = k
  · rw [h, pk_us, pk_us]
  · rw [pk_un h, pk_un h, pk_un h]
theorem upd_id {f : Nat → Int32} {k : Nat} {x : Int32} (h : f k = x) : upd f k x = f := by
  funext j
  by_cases hj : j = k
  · rw [hj, pk_us, h]
  · rw [pk_un hj]
theorem stC_u (b : GS) (t t' : Nat) (L L' : Nat → Int32) : s2 (s2 (stC b t L) 2 L') 0 (upd ((stC b t L) 0) 0 (nI t')) = stC b t' L' := by
  unfold stC
  rw [s2_eq, upd_upd, s2_cm _ _ _ (show (0 : Nat) ≠ 2 by omega), s2_s2, s2_s2]
theorem stM_u (b : GS) (t t' : Nat) (L L' : Nat → Int32) : s2 (s2 (stM b t L) 23 L') 0 (upd ((stM b t L) 0) 21 (nI t')) = stM b t' L' := by
  unfold stM
  rw [s2_eq, upd_upd, s2_cm _ _ _ (show (0 : Nat) ≠ 23 by omega), s2_s2, s2_s2]
theorem stC_0 {b : GS} (h : b 0 0 = nI 0) : stC b 0 (b 2) = b := by
  unfold stC
  rw [s2_id, upd_id h, s2_id]
theorem stM_0 {b : GS} (h : b 0 21 = nI 0) : stM b 0 (b 23) = b := by
  unfold stM
  rw [s2_id, upd_id h, s2_id]
theorem note_C {b : GS} {t : Nat} {L : Nat → Int32} (x : Int32) (ht : t < 20) : f_X1_note (stC b t L) x = some (stC b (t + 1) (upd L t x)) := by
  have h0 : stC b t L 0 0 = nI t := rfl
  have h2 : stC b t L 2 = L := rfl
  have hu := stC_u b t (t + 1) L (upd L t x)
  have e0 : s2 (stC b t L) 2 (upd L t x) 0 = stC b t L 0 := s2_ne (by omega)
  unfold f_X1_note
  rw [h0, if_neg (by rw [show (20 : Int32) = nI 20 from rfl, n_le (by omega) (by omega)]; omega), gd_t (n_inB ht (by omega)), n_tn (by omega), h2, nm_s]
  unfold f_X1_note_J19
  rw [nm_s, nm_s, e0, h0, n_s, hu]
theorem ran_M {b : GS} {t : Nat} {L : Nat → Int32} (x : Int32) (ht : t < 20) : f_X7_ran (stM b t L) x = some (stM b (t + 1) (upd L t x)) := by
  have h0 : stM b t L 0 21 = nI t := rfl
  have h2 : stM b t L 23 = L := rfl
  have hu := stM_u b t (t + 1) L (upd L t x)
  have e0 : s2 (stM b t L) 23 (upd L t x) 0 = stM b t L 0 := s2_ne (by omega)
  unfold f_X7_ran
  rw [h0, if_neg (by rw [show (20 : Int32) = nI 20 from rfl, n_le (by omega) (by omega)]; omega), gd_t (n_inB ht (by omega)), n_tn (by omega), h2, nm_s]
  unfold f_X7_ran_J19
  rw [nm_s, nm_s, e0, h0, n_s, hu]
theorem bd2_id {α β : Type} {e : Option (α × β)} : bd2 e (fun r s => some (r, s)) = e := by
  cases e with
  | none => rfl
  | some v => rfl
theorem ag_0 {L M : Nat → Int32} : ∀ i, i < 0 → L i = M i := fun i h => by omega
theorem ag_s {L M : Nat → Int32} {t : Nat} {x : Int32} (h : ∀ i, i < t → L i = M i) : ∀ i, i < t + 1 → upd L t x i = upd M t x i := fun i hi => by
  by_cases hx : i = t
  · rw [hx, pk_us, pk_us]
  · rw [pk_un hx, pk_un hx]
    exact h i (by omega)
theorem run_s (d : Nat) (sv : GS) (a b x y : Int32) : f_X1_run (d + 1) sv a b x y = f_X1_runB (f_X1_run d) sv a b x y := rfl
section AC
variable {b : GS} {k p a t d : Nat} {L : Nat → Int32} {x : Int32} {RUN : GS → Int32 → Int32 → Int32 → Int32 → Option (Int32 × GS)}
theorem tb_0_0 : tbBodies (0 * 7) = nI 10 := rfl
theorem tb_0_1 : tbBodies (0 * 7 + 1) = nI 20 := rfl
theorem tb_0_2 : tbBodies (0 * 7 + 2) = nI 10 := rfl
theorem tb_0_3 : tbBodies (0 * 7 + 3) = nI 20 := rfl
theorem tb_0_4 : tbBodies (0 * 7 + 4) = nI 51 := rfl
theorem tb_0_5 : tbBodies (0 * 7 + 5) = nI 10 := rfl
theorem tb_0_6 : tbBodies (0 * 7 + 6) = nI 70 := rfl
theorem tb_1_0 : tbBodies (1 * 7) = nI 11 := rfl
theorem tb_1_1 : tbBodies (1 * 7 + 1) = nI 11 := rfl
theorem tb_1_2 : tbBodies (1 * 7 + 2) = nI 30 := rfl
theorem tb_1_3 : tbBodies (1 * 7 + 3) = nI 40 := rfl
theorem tb_1_4 : tbBodies (1 * 7 + 4) = nI 11 := rfl
theorem tb_1_5 : tbBodies (1 * 7 + 5) = nI 30 := rfl
theorem tb_1_6 : tbBodies (1 * 7 + 6) = nI 71 := rfl
theorem tb_2_0 : tbBodies (2 * 7) = nI 12 := rfl
theorem tb_2_1 : tbBodies (2 * 7 + 1) = nI 12 := rfl
theorem tb_2_2 : tbBodies (2 * 7 + 2) = nI 12 := rfl
theorem tb_2_3 : tbBodies (2 * 7 + 3) = nI 12 := rfl
theorem tb_2_4 : tbBodies (2 * 7 + 4) = nI 50 := rfl
theorem tb_2_5 : tbBodies (2 * 7 + 5) = nI 60 := rfl
theorem tb_2_6 : tbBodies (2 * 7 + 6) = nI 50 := rfl
theorem ab_20 : tbAbove (20 / 10 - 1) = nI 0 := rfl
theorem ab_30 : tbAbove (30 / 10 - 1) = nI 0 := rfl
theorem ab_40 : tbAbove (40 / 10 - 1) = nI 1 := rfl
theorem ab_50 : tbAbove (50 / 10 - 1) = nI 0 := rfl
theorem ab_51 : tbAbove (51 / 10 - 1) = nI 0 := rfl
theorem ab_60 : tbAbove (60 / 10 - 1) = nI 2 := rfl
theorem ab_70 : tbAbove (70 / 10 - 1) = nI 4 := rfl
theorem ab_71 : tbAbove (71 / 10 - 1) = nI 4 := rfl
theorem rb_0_0 (h2 : b 0 2 = nI k) (h3 : b 0 3 = nI p) (h4 : b 0 4 = nI a) (ht : t < 20) (hd : d ≤ 40) : f_X1_runB RUN (stC b t L) (nI 0) (nI 0) x (nI d) = some (x + nI p, stC b (t + 1) (upd L t (nI 10))) := by
  unfold f_X1_runB
  rw [if_neg (show ¬ (40 : Int32) < nI d by rw [show (40 : Int32) = nI 40 from rfl, n_lt (by omega) (by omega)]; omega), p6_isKind, bd_s, if_neg (show ¬ bI (isIx (nI 0) 7) = (0 : Int32) by decide), gd_t (show inB ((nI 0 * (7 : Int32)) + nI 0) 21 = true by decide), show tbBodies ((nI 0 * (7 : Int32)) + nI 0).toNatClampNeg = (10 : Int32) from by decide, nm_s, note_C _ ht, bd_s, nm_s, n_s, if_neg (show ¬ (10 : Int32) = 11 by decide), if_neg (show ¬ (10 : Int32) = 12 by decide), if_neg (show ¬ (10 : Int32) = 20 by decide), if_neg (show ¬ (10 : Int32) = 30 by decide), if_neg (show ¬ (10 : Int32) = 40 by decide), if_neg (show ¬ (10 : Int32) = 50 by decide), if_neg (show ¬ (10 : Int32) = 51 by decide), if_neg (show ¬ (10 : Int32) = 60 by decide), if_neg (show ¬ (10 : Int32) = 70 by decide), if_neg (show ¬ (10 : Int32) = 71 by decide)]
  try simp only [f_X1_own, bd2_id, stC_2, stC_3, stC_4, h2, h3, h4]
  try rfl
theorem rb_0_1 (h2 : b 0 2 = nI k) (h3 : b 0 3 = nI p) (h4 : b 0 4 = nI a) (ht : t < 20) (hd : d ≤ 40) : f_X1_runB RUN (stC b t L) (nI 1) (nI 0) x (nI d) = bd2 (RUN (stC b (t + 1) (upd L t (nI 20))) (nI 0) (nI 0) x (nI (d + 1))) (fun r s => some (r + s 0 4, s)) := by
  unfold f_X1_runB
  rw [if_neg (show ¬ (40 : Int32) < nI d by rw [show (40 : Int32) = nI 40 from rfl, n_lt (by omega) (by omega)]; omega), p6_isKind, bd_s, if_neg (show ¬ bI (isIx (nI 1) 7) = (0 : Int32) by decide), gd_t (show inB ((nI 0 * (7 : Int32)) + nI 1) 21 = true by decide), show tbBodies ((nI 0 * (7 : Int32)) + nI 1).toNatClampNeg = (20 : Int32) from by decide, nm_s, note_C _ ht, bd_s, nm_s, n_s, if_neg (show ¬ (20 : Int32) = 11 by decide), if_neg (show ¬ (20 : Int32) = 12 by decide), if_pos (show (20 : Int32) = 20 from rfl)]
  unfold f_X1_above
  rw [gd_t (show inB ((20 : Int32) / (10 : Int32) - (1 : Int32)) 7 = true by decide), show tbAbove ((20 : Int32) / (10 : Int32) - (1 : Int32)).toNatClampNeg = (0 : Int32) from by decide]
  try simp only [f_X1_own, bd2_id, stC_2, stC_3, stC_4, h2, h3, h4]
  try rfl
theorem rb_0_2 (h2 : b 0 2 = nI k) (h3 : b 0 3 = nI p) (h4 : b 0 4 = nI a) (ht : t < 20) (hd : d ≤ 40) : f_X1_runB RUN (stC b t L) (nI 2) (nI 0) x (nI d) = some (x + nI p, stC b (t + 1) (upd L t (nI 10))) := by
  unfold f_X1_runB
  rw [if_neg (show ¬ (40 : Int32) < nI d by rw [show (40 : Int32) = nI 40 from rfl, n_lt (by omega) (by omega)]; omega), p6_isKind, bd_s, if_neg (show ¬ bI (isIx (nI 2) 7) = (0 : Int32) by decide), gd_t (show inB ((nI 0 * (7 : Int32)) + nI 2) 21 = true by decide), show tbBodies ((nI 0 * (7 : Int32)) + nI 2).toNatClampNeg = (10 : Int32) from by decide, nm_s, note_C _ ht, bd_s, nm_s, n_s, if_neg (show ¬ (10 : Int32) = 11 by decide), if_neg (show ¬ (10 : Int32) = 12 by decide), if_neg (show ¬ (10 : Int32) = 20 by decide), if_neg (show ¬ (10 : Int32) = 30 by decide), if_neg (show ¬ (10 : Int32) = 40 by decide), if_neg (show ¬ (10 : Int32) = 50 by decide), if_neg (show ¬ (10 : Int32) = 51 by decide), if_neg (show ¬ (10 : Int32) = 60 by decide), if_neg (show ¬ (10 : Int32) = 70 by decide), if_neg (show ¬ (10 : Int32) = 71 by decide)]
  try simp only [f_X1_own, bd2_id, stC_2, stC_3, stC_4, h2, h3, h4]
  try rfl
theorem rb_0_3 (h2 : b 0 2 = nI k) (h3 : b 0 3 = nI p) (h4 : b 0 4 = nI a) (ht : t < 20) (hd : d ≤ 40) : f_X1_runB RUN (stC b t L) (nI 3) (nI 0) x (nI d) = bd2 (RUN (stC b (t + 1) (upd L t (nI 20))) (nI 0) (nI 0) x (nI (d + 1))) (fun r s => some (r + s 0 4, s)) := by
  unfold f_X1_runB
  rw [if_neg (show ¬ (40 : Int32) < nI d by rw [show (40 : Int32) = nI 40 from rfl, n_lt (by omega) (by omega)]; omega), p6_isKind, bd_s, if_neg (show ¬ bI (isIx (nI 3) 7) = (0 : Int32) by decide), gd_t (show inB ((nI 0 * (7 : Int32)) + nI 3) 21 = true by decide), show tbBodies ((nI 0 * (7 : Int32)) + nI 3).toNatClampNeg = (20 : Int32) from by decide, nm_s, note_C _ ht, bd_s, nm_s, n_s, if_neg (show ¬ (20 : Int32) = 11 by decide), if_neg (show ¬ (20 : Int32) = 12 by decide), if_pos (show (20 : Int32) = 20 from rfl)]
  unfold f_X1_above
  rw [gd_t (show inB ((20 : Int32) / (10 : Int32) - (1 : Int32)) 7 = true by decide), show tbAbove ((20 : Int32) / (10 : Int32) - (1 : Int32)).toNatClampNeg = (0 : Int32) from by decide]
  try simp only [f_X1_own, bd2_id, stC_2, stC_3, stC_4, h2, h3, h4]
  try rfl
theorem rb_0_4 (h2 : b 0 2 = nI k) (h3 : b 0 3 = nI p) (h4 : b 0 4 = nI a) (ht : t < 20) (hd : d ≤ 40) : f_X1_runB RUN (stC b t L) (nI 4) (nI 0) x (nI d) = bd2 (RUN (stC b (t + 1) (upd L t (nI 51))) (nI 0) (nI 0) x (nI (d + 1))) (fun r s => some (r - s 0 3, s)) := by
  unfold f_X1_runB
  rw [if_neg (show ¬ (40 : Int32) < nI d by rw [show (40 : Int32) = nI 40 from rfl, n_lt (by omega) (by omega)]; omega), p6_isKind, bd_s, if_neg (show ¬ bI (isIx (nI 4) 7) = (0 : Int32) by decide), gd_t (show inB ((nI 0 * (7 : Int32)) + nI 4) 21 = true by decide), show tbBodies ((nI 0 * (7 : Int32)) + nI 4).toNatClampNeg = (51 : Int32) from by decide, nm_s, note_C _ ht, bd_s, nm_s, n_s, if_neg (show ¬ (51 : Int32) = 11 by decide), if_neg (show ¬ (51 : Int32) = 12 by decide), if_neg (show ¬ (51 : Int32) = 20 by decide), if_neg (show ¬ (51 : Int32) = 30 by decide), if_neg (show ¬ (51 : Int32) = 40 by decide), if_neg (show ¬ (51 : Int32) = 50 by decide), if_pos (show (51 : Int32) = 51 from rfl)]
  unfold f_X1_above
  rw [gd_t (show inB ((51 : Int32) / (10 : Int32) - (1 : Int32)) 7 = true by decide), show tbAbove ((51 : Int32) / (10 : Int32) - (1 : Int32)).toNatClampNeg = (0 : Int32) from by decide]
  try simp only [f_X1_own, bd2_id, stC_2, stC_3, stC_4, h2, h3, h4]
  try rfl
theorem rb_0_5 (h2 : b 0 2 = nI k) (h3 : b 0 3 = nI p) (h4 : b 0 4 = nI a) (ht : t < 20) (hd : d ≤ 40) : f_X1_runB RUN (stC b t L) (nI 5) (nI 0) x (nI d) = some (x + nI p, stC b (t + 1) (upd L t (nI 10))) := by
  unfold f_X1_runB
  rw [if_neg (show ¬ (40 : Int32) < nI d by rw [show (40 : Int32) = nI 40 from rfl, n_lt (by omega) (by omega)]; omega), p6_isKind, bd_s, if_neg (show ¬ bI (isIx (nI 5) 7) = (0 : Int32) by decide), gd_t (show inB ((nI 0 * (7 : Int32)) + nI 5) 21 = true by decide), show tbBodies ((nI 0 * (7 : Int32)) + nI 5).toNatClampNeg = (10 : Int32) from by decide, nm_s, note_C _ ht, bd_s, nm_s, n_s, if_neg (show ¬ (10 : Int32) = 11 by decide), if_neg (show ¬ (10 : Int32) = 12 by decide), if_neg (show ¬ (10 : Int32) = 20 by decide), if_neg (show ¬ (10 : Int32) = 30 by decide), if_neg (show ¬ (10 : Int32) = 40 by decide), if_neg (show ¬ (10 : Int32) = 50 by decide), if_neg (show ¬ (10 : Int32) = 51 by decide), if_neg (show ¬ (10 : Int32) = 60 by decide), if_neg (show ¬ (10 : Int32) = 70 by decide), if_neg (show ¬ (10 : Int32) = 71 by decide)]
  try simp only [f_X1_own, bd2_id, stC_2, stC_3, stC_4, h2, h3, h4]
  try rfl
theorem rb_0_6 (h2 : b 0 2 = nI k) (h3 : b 0 3 = nI p) (h4 : b 0 4 = nI a) (ht : t < 20) (hd : d ≤ 40) : f_X1_runB RUN (stC b t L) (nI 6) (nI 0) x (nI d) = bd2 (RUN (stC b (t + 1) (upd L t (nI 70))) (nI 4) (nI 0) x (nI (d + 1))) (fun r s => some (r * nI 2, s)) := by
  unfold f_X1_runB
  rw [if_neg (show ¬ (40 : Int32) < nI d by rw [show (40 : Int32) = nI 40 from rfl, n_lt (by omega) (by omega)]; omega), p6_isKind, bd_s, if_neg (show ¬ bI (isIx (nI 6) 7) = (0 : Int32) by decide), gd_t (show inB ((nI 0 * (7 : Int32)) + nI 6) 21 = true by decide), show tbBodies ((nI 0 * (7 : Int32)) + nI 6).toNatClampNeg = (70 : Int32) from by decide, nm_s, note_C _ ht, bd_s, nm_s, n_s, if_neg (show ¬ (70 : Int32) = 11 by decide), if_neg (show ¬ (70 : Int32) = 12 by decide), if_neg (show ¬ (70 : Int32) = 20 by decide), if_neg (show ¬ (70 : Int32) = 30 by decide), if_neg (show ¬ (70 : Int32) = 40 by decide), if_neg (show ¬ (70 : Int32) = 50 by decide), if_neg (show ¬ (70 : Int32) = 51 by decide), if_neg (show ¬ (70 : Int32) = 60 by decide), if_pos (show (70 : Int32) = 70 from rfl)]
  unfold f_X1_above
  rw [gd_t (show inB ((70 : Int32) / (10 : Int32) - (1 : Int32)) 7 = true by decide), show tbAbove ((70 : Int32) / (10 : Int32) - (1 : Int32)).toNatClampNeg = (4 : Int32) from by decide]
  try simp only [f_X1_own, bd2_id, stC_2, stC_3, stC_4, h2, h3, h4]
  try rfl
theorem rb_1_0 (h2 : b 0 2 = nI k) (h3 : b 0 3 = nI p) (h4 : b 0 4 = nI a) (ht : t < 20) (hd : d ≤ 40) : f_X1_runB RUN (stC b t L) (nI 0) (nI 1) x (nI d) = bd2 (RUN (stC b (t + 1) (upd L t (nI 11))) (nI k) (nI 0) x (nI (d + 1))) (fun r s => some (r * nI 2, s)) := by
  unfold f_X1_runB
  rw [if_neg (show ¬ (40 : Int32) < nI d by rw [show (40 : Int32) = nI 40 from rfl, n_lt (by omega) (by omega)]; omega), p6_isKind, bd_s, if_neg (show ¬ bI (isIx (nI 0) 7) = (0 : Int32) by decide), gd_t (show inB ((nI 1 * (7 : Int32)) + nI 0) 21 = true by decide), show tbBodies ((nI 1 * (7 : Int32)) + nI 0).toNatClampNeg = (11 : Int32) from by decide, nm_s, note_C _ ht, bd_s, nm_s, n_s, if_pos (show (11 : Int32) = 11 from rfl)]
  try simp only [f_X1_own, bd2_id, stC_2, stC_3, stC_4, h2, h3, h4]
  try rfl
theorem rb_1_1 (h2 : b 0 2 = nI k) (h3 : b 0 3 = nI p) (h4 : b 0 4 = nI a) (ht : t < 20) (hd : d ≤ 40) : f_X1_runB RUN (stC b t L) (nI 1) (nI 1) x (nI d) = bd2 (RUN (stC b (t + 1) (upd L t (nI 11))) (nI k) (nI 0) x (nI (d + 1))) (fun r s => some (r * nI 2, s)) := by
  unfold f_X1_runB
  rw [if_neg (show ¬ (40 : Int32) < nI d by rw [show (40 : Int32) = nI 40 from rfl, n_lt (by omega) (by omega)]; omega), p6_isKind, bd_s, if_neg (show ¬ bI (isIx (nI 1) 7) = (0 : Int32) by decide), gd_t (show inB ((nI 1 * (7 : Int32)) + nI 1) 21 = true by decide), show tbBodies ((nI 1 * (7 : Int32)) + nI 1).toNatClampNeg = (11 : Int32) from by decide, nm_s, note_C _ ht, bd_s, nm_s, n_s, if_pos (show (11 : Int32) = 11 from rfl)]
  try simp only [f_X1_own, bd2_id, stC_2, stC_3, stC_4, h2, h3, h4]
  try rfl
theorem rb_1_2 (h2 : b 0 2 = nI k) (h3 : b 0 3 = nI p) (h4 : b 0 4 = nI a) (ht : t < 20) (hd : d ≤ 40) : f_X1_runB RUN (stC b t L) (nI 2) (nI 1) x (nI d) = bd2 (RUN (stC b (t + 1) (upd L t (nI 30))) (nI 0) (nI 1) x (nI (d + 1))) (fun r s => some (r * nI 3, s)) := by
  unfold f_X1_runB
  rw [if_neg (show ¬ (40 : Int32) < nI d by rw [show (40 : Int32) = nI 40 from rfl, n_lt (by omega) (by omega)]; omega), p6_isKind, bd_s, if_neg (show ¬ bI (isIx (nI 2) 7) = (0 : Int32) by decide), gd_t (show inB ((nI 1 * (7 : Int32)) + nI 2) 21 = true by decide), show tbBodies ((nI 1 * (7 : Int32)) + nI 2).toNatClampNeg = (30 : Int32) from by decide, nm_s, note_C _ ht, bd_s, nm_s, n_s, if_neg (show ¬ (30 : Int32) = 11 by decide), if_neg (show ¬ (30 : Int32) = 12 by decide), if_neg (show ¬ (30 : Int32) = 20 by decide), if_pos (show (30 : Int32) = 30 from rfl)]
  unfold f_X1_above
  rw [gd_t (show inB ((30 : Int32) / (10 : Int32) - (1 : Int32)) 7 = true by decide), show tbAbove ((30 : Int32) / (10 : Int32) - (1 : Int32)).toNatClampNeg = (0 : Int32) from by decide]
  try simp only [f_X1_own, bd2_id, stC_2, stC_3, stC_4, h2, h3, h4]
  try rfl
theorem rb_1_3 (h2 : b 0 2 = nI k) (h3 : b 0 3 = nI p) (h4 : b 0 4 = nI a) (ht : t < 20) (hd : d ≤ 40) : f_X1_runB RUN (stC b t L) (nI 3) (nI 1) x (nI d) = RUN (stC b (t + 1) (upd L t (nI 40))) (nI 1) (nI 1) (x + nI 1) (nI (d + 1)) := by
  unfold f_X1_runB
  rw [if_neg (show ¬ (40 : Int32) < nI d by rw [show (40 : Int32) = nI 40 from rfl, n_lt (by omega) (by omega)]; omega), p6_isKind, bd_s, if_neg (show ¬ bI (isIx (nI 3) 7) = (0 : Int32) by decide), gd_t (show inB ((nI 1 * (7 : Int32)) + nI 3) 21 = true by decide), show tbBodies ((nI 1 * (7 : Int32)) + nI 3).toNatClampNeg = (40 : Int32) from by decide, nm_s, note_C _ ht, bd_s, nm_s, n_s, if_neg (show ¬ (40 : Int32) = 11 by decide), if_neg (show ¬ (40 : Int32) = 12 by decide), if_neg (show ¬ (40 : Int32) = 20 by decide), if_neg (show ¬ (40 : Int32) = 30 by decide), if_pos (show (40 : Int32) = 40 from rfl)]
  unfold f_X1_above
  rw [gd_t (show inB ((40 : Int32) / (10 : Int32) - (1 : Int32)) 7 = true by decide), show tbAbove ((40 : Int32) / (10 : Int32) - (1 : Int32)).toNatClampNeg = (1 : Int32) from by decide]
  try simp only [f_X1_own, bd2_id, stC_2, stC_3, stC_4, h2, h3, h4]
  try rfl
theorem rb_1_4 (h2 : b 0 2 = nI k) (h3 : b 0 3 = nI p) (h4 : b 0 4 = nI a) (ht : t < 20) (hd : d ≤ 40) : f_X1_runB RUN (stC b t L) (nI 4) (nI 1) x (nI d) = bd2 (RUN (stC b (t + 1) (upd L t (nI 11))) (nI k) (nI 0) x (nI (d + 1))) (fun r s => some (r * nI 2, s)) := by
  unfold f_X1_runB
  rw [if_neg (show ¬ (40 : Int32) < nI d by rw [show (40 : Int32) = nI 40 from rfl, n_lt (by omega) (by omega)]; omega), p6_isKind, bd_s, if_neg (show ¬ bI (isIx (nI 4) 7) = (0 : Int32) by decide), gd_t (show inB ((nI 1 * (7 : Int32)) + nI 4) 21 = true by decide), show tbBodies ((nI 1 * (7 : Int32)) + nI 4).toNatClampNeg = (11 : Int32) from by decide, nm_s, note_C _ ht, bd_s, nm_s, n_s, if_pos (show (11 : Int32) = 11 from rfl)]
  try simp only [f_X1_own, bd2_id, stC_2, stC_3, stC_4, h2, h3, h4]
  try rfl
theorem rb_1_5 (h2 : b 0 2 = nI k) (h3 : b 0 3 = nI p) (h4 : b 0 4 = nI a) (ht : t < 20) (hd : d ≤ 40) : f_X1_runB RUN (stC b t L) (nI 5) (nI 1) x (nI d) = bd2 (RUN (stC b (t + 1) (upd L t (nI 30))) (nI 0) (nI 1) x (nI (d + 1))) (fun r s => some (r * nI 3, s)) := by
  unfold f_X1_runB
  rw [if_neg (show ¬ (40 : Int32) < nI d by rw [show (40 : Int32) = nI 40 from rfl, n_lt (by omega) (by omega)]; omega), p6_isKind, bd_s, if_neg (show ¬ bI (isIx (nI 5) 7) = (0 : Int32) by decide), gd_t (show inB ((nI 1 * (7 : Int32)) + nI 5) 21 = true by decide), show tbBodies ((nI 1 * (7 : Int32)) + nI 5).toNatClampNeg = (30 : Int32) from by decide, nm_s, note_C _ ht, bd_s, nm_s, n_s, if_neg (show ¬ (30 : Int32) = 11 by decide), if_neg (show ¬ (30 : Int32) = 12 by decide), if_neg (show ¬ (30 : Int32) = 20 by decide), if_pos (show (30 : Int32) = 30 from rfl)]
  unfold f_X1_above
  rw [gd_t (show inB ((30 : Int32) / (10 : Int32) - (1 : Int32)) 7 = true by decide), show tbAbove ((30 : Int32) / (10 : Int32) - (1 : Int32)).toNatClampNeg = (0 : Int32) from by decide]
  try simp only [f_X1_own, bd2_id, stC_2, stC_3, stC_4, h2, h3, h4]
  try rfl
theorem rb_1_6 (h2 : b 0 2 = nI k) (h3 : b 0 3 = nI p) (h4 : b 0 4 = nI a) (ht : t < 20) (hd : d ≤ 40) : f_X1_runB RUN (stC b t L) (nI 6) (nI 1) x (nI d) = RUN (stC b (t + 1) (upd L t (nI 71))) (nI 4) (nI 1) (x - nI a) (nI (d + 1)) := by
  unfold f_X1_runB
  rw [if_neg (show ¬ (40 : Int32) < nI d by rw [show (40 : Int32) = nI 40 from rfl, n_lt (by omega) (by omega)]; omega), p6_isKind, bd_s, if_neg (show ¬ bI (isIx (nI 6) 7) = (0 : Int32) by decide), gd_t (show inB ((nI 1 * (7 : Int32)) + nI 6) 21 = true by decide), show tbBodies ((nI 1 * (7 : Int32)) + nI 6).toNatClampNeg = (71 : Int32) from by decide, nm_s, note_C _ ht, bd_s, nm_s, n_s, if_neg (show ¬ (71 : Int32) = 11 by decide), if_neg (show ¬ (71 : Int32) = 12 by decide), if_neg (show ¬ (71 : Int32) = 20 by decide), if_neg (show ¬ (71 : Int32) = 30 by decide), if_neg (show ¬ (71 : Int32) = 40 by decide), if_neg (show ¬ (71 : Int32) = 50 by decide), if_neg (show ¬ (71 : Int32) = 51 by decide), if_neg (show ¬ (71 : Int32) = 60 by decide), if_neg (show ¬ (71 : Int32) = 70 by decide), if_pos (show (71 : Int32) = 71 from rfl)]
  unfold f_X1_above
  rw [gd_t (show inB ((71 : Int32) / (10 : Int32) - (1 : Int32)) 7 = true by decide), show tbAbove ((71 : Int32) / (10 : Int32) - (1 : Int32)).toNatClampNeg = (4 : Int32) from by decide]
  try simp only [f_X1_own, bd2_id, stC_2, stC_3, stC_4, h2, h3, h4]
  try rfl
theorem rb_2_0 (h2 : b 0 2 = nI k) (h3 : b 0 3 = nI p) (h4 : b 0 4 = nI a) (ht : t < 20) (hd : d ≤ 40) : f_X1_runB RUN (stC b t L) (nI 0) (nI 2) x (nI d) = bd2 (RUN (stC b (t + 1) (upd L t (nI 12))) (nI k) (nI 1) x (nI (d + 1))) (fun r s => bd2 (RUN s (s 0 2) (nI 0) (x - s 0 4) (nI (d + 1))) (fun r2 u => some (r ^^^ r2, u))) := by
  unfold f_X1_runB
  rw [if_neg (show ¬ (40 : Int32) < nI d by rw [show (40 : Int32) = nI 40 from rfl, n_lt (by omega) (by omega)]; omega), p6_isKind, bd_s, if_neg (show ¬ bI (isIx (nI 0) 7) = (0 : Int32) by decide), gd_t (show inB ((nI 2 * (7 : Int32)) + nI 0) 21 = true by decide), show tbBodies ((nI 2 * (7 : Int32)) + nI 0).toNatClampNeg = (12 : Int32) from by decide, nm_s, note_C _ ht, bd_s, nm_s, n_s, if_neg (show ¬ (12 : Int32) = 11 by decide), if_pos (show (12 : Int32) = 12 from rfl)]
  try simp only [f_X1_own, bd2_id, stC_2, stC_3, stC_4, h2, h3, h4]
  try rfl
theorem rb_2_1 (h2 : b 0 2 = nI k) (h3 : b 0 3 = nI p) (h4 : b 0 4 = nI a) (ht : t < 20) (hd : d ≤ 40) : f_X1_runB RUN (stC b t L) (nI 1) (nI 2) x (nI d) = bd2 (RUN (stC b (t + 1) (upd L t (nI 12))) (nI k) (nI 1) x (nI (d + 1))) (fun r s => bd2 (RUN s (s 0 2) (nI 0) (x - s 0 4) (nI (d + 1))) (fun r2 u => some (r ^^^ r2, u))) := by
  unfold f_X1_runB
  rw [if_neg (show ¬ (40 : Int32) < nI d by rw [show (40 : Int32) = nI 40 from rfl, n_lt (by omega) (by omega)]; omega), p6_isKind, bd_s, if_neg (show ¬ bI (isIx (nI 1) 7) = (0 : Int32) by decide), gd_t (show inB ((nI 2 * (7 : Int32)) + nI 1) 21 = true by decide), show tbBodies ((nI 2 * (7 : Int32)) + nI 1).toNatClampNeg = (12 : Int32) from by decide, nm_s, note_C _ ht, bd_s, nm_s, n_s, if_neg (show ¬ (12 : Int32) = 11 by decide), if_pos (show (12 : Int32) = 12 from rfl)]
  try simp only [f_X1_own, bd2_id, stC_2, stC_3, stC_4, h2, h3, h4]
  try rfl
theorem rb_2_2 (h2 : b 0 2 = nI k) (h3 : b 0 3 = nI p) (h4 : b 0 4 = nI a) (ht : t < 20) (hd : d ≤ 40) : f_X1_runB RUN (stC b t L) (nI 2) (nI 2) x (nI d) = bd2 (RUN (stC b (t + 1) (upd L t (nI 12))) (nI k) (nI 1) x (nI (d + 1))) (fun r s => bd2 (RUN s (s 0 2) (nI 0) (x - s 0 4) (nI (d + 1))) (fun r2 u => some (r ^^^ r2, u))) := by
  unfold f_X1_runB
  rw [if_neg (show ¬ (40 : Int32) < nI d by rw [show (40 : Int32) = nI 40 from rfl, n_lt (by omega) (by omega)]; omega), p6_isKind, bd_s, if_neg (show ¬ bI (isIx (nI 2) 7) = (0 : Int32) by decide), gd_t (show inB ((nI 2 * (7 : Int32)) + nI 2) 21 = true by decide), show tbBodies ((nI 2 * (7 : Int32)) + nI 2).toNatClampNeg = (12 : Int32) from by decide, nm_s, note_C _ ht, bd_s, nm_s, n_s, if_neg (show ¬ (12 : Int32) = 11 by decide), if_pos (show (12 : Int32) = 12 from rfl)]
  try simp only [f_X1_own, bd2_id, stC_2, stC_3, stC_4, h2, h3, h4]
  try rfl
theorem rb_2_3 (h2 : b 0 2 = nI k) (h3 : b 0 3 = nI p) (h4 : b 0 4 = nI a) (ht : t < 20) (hd : d ≤ 40) : f_X1_runB RUN (stC b t L) (nI 3) (nI 2) x (nI d) = bd2 (RUN (stC b (t + 1) (upd L t (nI 12))) (nI k) (nI 1) x (nI (d + 1))) (fun r s => bd2 (RUN s (s 0 2) (nI 0) (x - s 0 4) (nI (d + 1))) (fun r2 u => some (r ^^^ r2, u))) := by
  unfold f_X1_runB
  rw [if_neg (show ¬ (40 : Int32) < nI d by rw [show (40 : Int32) = nI 40 from rfl, n_lt (by omega) (by omega)]; omega), p6_isKind, bd_s, if_neg (show ¬ bI (isIx (nI 3) 7) = (0 : Int32) by decide), gd_t (show inB ((nI 2 * (7 : Int32)) + nI 3) 21 = true by decide), show tbBodies ((nI 2 * (7 : Int32)) + nI 3).toNatClampNeg = (12 : Int32) from by decide, nm_s, note_C _ ht, bd_s, nm_s, n_s, if_neg (show ¬ (12 : Int32) = 11 by decide), if_pos (show (12 : Int32) = 12 from rfl)]
  try simp only [f_X1_own, bd2_id, stC_2, stC_3, stC_4, h2, h3, h4]
  try rfl
theorem rb_2_4 (h2 : b 0 2 = nI k) (h3 : b 0 3 = nI p) (h4 : b 0 4 = nI a) (ht : t < 20) (hd : d ≤ 40) : f_X1_runB RUN (stC b t L) (nI 4) (nI 2) x (nI d) = bd2 (RUN (stC b (t + 1) (upd L t (nI 50))) (nI 0) (nI 2) x (nI (d + 1))) (fun r s => some (-r, s)) := by
  unfold f_X1_runB
  rw [if_neg (show ¬ (40 : Int32) < nI d by rw [show (40 : Int32) = nI 40 from rfl, n_lt (by omega) (by omega)]; omega), p6_isKind, bd_s, if_neg (show ¬ bI (isIx (nI 4) 7) = (0 : Int32) by decide), gd_t (show inB ((nI 2 * (7 : Int32)) + nI 4) 21 = true by decide), show tbBodies ((nI 2 * (7 : Int32)) + nI 4).toNatClampNeg = (50 : Int32) from by decide, nm_s, note_C _ ht, bd_s, nm_s, n_s, if_neg (show ¬ (50 : Int32) = 11 by decide), if_neg (show ¬ (50 : Int32) = 12 by decide), if_neg (show ¬ (50 : Int32) = 20 by decide), if_neg (show ¬ (50 : Int32) = 30 by decide), if_neg (show ¬ (50 : Int32) = 40 by decide), if_pos (show (50 : Int32) = 50 from rfl)]
  unfold f_X1_above
  rw [gd_t (show inB ((50 : Int32) / (10 : Int32) - (1 : Int32)) 7 = true by decide), show tbAbove ((50 : Int32) / (10 : Int32) - (1 : Int32)).toNatClampNeg = (0 : Int32) from by decide]
  try simp only [f_X1_own, bd2_id, stC_2, stC_3, stC_4, h2, h3, h4]
  try rfl
theorem rb_2_5 (h2 : b 0 2 = nI k) (h3 : b 0 3 = nI p) (h4 : b 0 4 = nI a) (ht : t < 20) (hd : d ≤ 40) : f_X1_runB RUN (stC b t L) (nI 5) (nI 2) x (nI d) = bd2 (RUN (stC b (t + 1) (upd L t (nI 60))) (nI 2) (nI 2) x (nI (d + 1))) (fun r s => some (r ^^^ nI 5, s)) := by
  unfold f_X1_runB
  rw [if_neg (show ¬ (40 : Int32) < nI d by rw [show (40 : Int32) = nI 40 from rfl, n_lt (by omega) (by omega)]; omega), p6_isKind, bd_s, if_neg (show ¬ bI (isIx (nI 5) 7) = (0 : Int32) by decide), gd_t (show inB ((nI 2 * (7 : Int32)) + nI 5) 21 = true by decide), show tbBodies ((nI 2 * (7 : Int32)) + nI 5).toNatClampNeg = (60 : Int32) from by decide, nm_s, note_C _ ht, bd_s, nm_s, n_s, if_neg (show ¬ (60 : Int32) = 11 by decide), if_neg (show ¬ (60 : Int32) = 12 by decide), if_neg (show ¬ (60 : Int32) = 20 by decide), if_neg (show ¬ (60 : Int32) = 30 by decide), if_neg (show ¬ (60 : Int32) = 40 by decide), if_neg (show ¬ (60 : Int32) = 50 by decide), if_neg (show ¬ (60 : Int32) = 51 by decide), if_pos (show (60 : Int32) = 60 from rfl)]
  unfold f_X1_above
  rw [gd_t (show inB ((60 : Int32) / (10 : Int32) - (1 : Int32)) 7 = true by decide), show tbAbove ((60 : Int32) / (10 : Int32) - (1 : Int32)).toNatClampNeg = (2 : Int32) from by decide]
  try simp only [f_X1_own, bd2_id, stC_2, stC_3, stC_4, h2, h3, h4]
  try rfl
theorem rb_2_6 (h2 : b 0 2 = nI k) (h3 : b 0 3 = nI p) (h4 : b 0 4 = nI a) (ht : t < 20) (hd : d ≤ 40) : f_X1_runB RUN (stC b t L) (nI 6) (nI 2) x (nI d) = bd2 (RUN (stC b (t + 1) (upd L t (nI 50))) (nI 0) (nI 2) x (nI (d + 1))) (fun r s => some (-r, s)) := by
  unfold f_X1_runB
  rw [if_neg (show ¬ (40 : Int32) < nI d by rw [show (40 : Int32) = nI 40 from rfl, n_lt (by omega) (by omega)]; omega), p6_isKind, bd_s, if_neg (show ¬ bI (isIx (nI 6) 7) = (0 : Int32) by decide), gd_t (show inB ((nI 2 * (7 : Int32)) + nI 6) 21 = true by decide), show tbBodies ((nI 2 * (7 : Int32)) + nI 6).toNatClampNeg = (50 : Int32) from by decide, nm_s, note_C _ ht, bd_s, nm_s, n_s, if_neg (show ¬ (50 : Int32) = 11 by decide), if_neg (show ¬ (50 : Int32) = 12 by decide), if_neg (show ¬ (50 : Int32) = 20 by decide), if_neg (show ¬ (50 : Int32) = 30 by decide), if_neg (show ¬ (50 : Int32) = 40 by decide), if_pos (show (50 : Int32) = 50 from rfl)]
  unfold f_X1_above
  rw [gd_t (show inB ((50 : Int32) / (10 : Int32) - (1 : Int32)) 7 = true by decide), show tbAbove ((50 : Int32) / (10 : Int32) - (1 : Int32)).toNatClampNeg = (0 : Int32) from by decide]
  try simp only [f_X1_own, bd2_id, stC_2, stC_3, stC_4, h2, h3, h4]
  try rfl
end AC
section AR
variable {g : AG} {b s : GS} {p t : Nat} {L : Nat → Int32} {x : Int32}
theorem m_seesBy_0 (h5 : s 5 p = nI 0) (h6 : s 6 p = nI (g 2 p)) (hp : p < 10) (ht : t + 1 < 20) : f_X7_seesBy (stM s t L) (nI p) x = some ((x + nI p), stM s (t + 1) (upd L t (nI 10))) := by
  unfold f_X7_seesBy
  simp (disch := omega) only [nm_s, bd_s, bd2_s, bd3_s, bd4_s, q_gt, q_inB, ↓q_m1, l_166, l_172, l_180, l_188, l_189, l_190, l_191, l_192, l_14, l_17, l_18, l_0, l_1, l_2, l_3, l_4, l_5, l_6, l_7, l_8, l_9, l_10, l_11, l_12, l_20, l_21, l_30, l_31, l_32, l_40, l_48, l_50, l_51, l_57, l_60, l_70, l_71, l_99, l_100, l_101, l_160, l_199, l_200, l_999, l_1000, q_tn, q_add, q_mul, q_sub, q_le, q_lt, q_eq, q_31, n_and, n_or, n_xor, q_shl, q_z, q_b0, q_b1, q_bz, q_em, q_me, q_mm, q_lm, q_ml, q_mle, q_lem, s2_eq, s2_ne, pk_us, pk_un, uN_s, uN_n, if_pos, if_neg, ite_true, ite_false, if_true, if_false, not_true, not_false_iff, Nat.add_zero, Nat.zero_add, inR_t, isIx_t, bI_t, bI_f, neg1, q_clr, ran_M, stM_5, stM_6, h5, h6, f_X7_seesBy_J52, f_X7_seesBy_J46, f_X7_seesBy_J36, f_X7_seesBy_J30, f_X7_seesBy_J19]
theorem m_mournsBy_0 (h5 : s 5 p = nI 0) (h6 : s 6 p = nI (g 2 p)) (hp : p < 10) (ht : t + 2 < 20) : f_X7_mournsBy (stM s t L) (nI p) x = some (((x + nI p) * nI 2), stM s (t + 1 + 1) (upd (upd L t (nI 11)) (t + 1) (nI 10))) := by
  unfold f_X7_mournsBy
  simp (disch := omega) only [nm_s, bd_s, bd2_s, bd3_s, bd4_s, q_gt, q_inB, ↓q_m1, l_166, l_172, l_180, l_188, l_189, l_190, l_191, l_192, l_14, l_17, l_18, l_0, l_1, l_2, l_3, l_4, l_5, l_6, l_7, l_8, l_9, l_10, l_11, l_12, l_20, l_21, l_30, l_31, l_32, l_40, l_48, l_50, l_51, l_57, l_60, l_70, l_71, l_99, l_100, l_101, l_160, l_199, l_200, l_999, l_1000, q_tn, q_add, q_mul, q_sub, q_le, q_lt, q_eq, q_31, n_and, n_or, n_xor, q_shl, q_z, q_b0, q_b1, q_bz, q_em, q_me, q_mm, q_lm, q_ml, q_mle, q_lem, s2_eq, s2_ne, pk_us, pk_un, uN_s, uN_n, if_pos, if_neg, ite_true, ite_false, if_true, if_false, not_true, not_false_iff, Nat.add_zero, Nat.zero_add, inR_t, isIx_t, bI_t, bI_f, neg1, q_clr, ran_M, stM_5, stM_6, h5, h6, f_X7_mournsBy_J64, f_X7_mournsBy_J58, f_X7_mournsBy_J48, f_X7_mournsBy_J32, m_seesBy_0 h5 h6 hp]
theorem m_leansBy_0 (h5 : s 5 p = nI 0) (h6 : s 6 p = nI (g 2 p)) (hp : p < 10) (ht : t + 4 < 20) : f_X7_leansBy (stM s t L) (nI p) x = some ((((x + nI p) * nI 2) ^^^ ((x - nI (g 2 p)) + nI p)), stM s (t + 1 + 1 + 1 + 1) (upd (upd (upd (upd L t (nI 12)) (t + 1) (nI 11)) (t + 1 + 1) (nI 10)) (t + 1 + 1 + 1) (nI 10))) := by
  unfold f_X7_leansBy
  simp (disch := omega) only [nm_s, bd_s, bd2_s, bd3_s, bd4_s, q_gt, q_inB, ↓q_m1, l_166, l_172, l_180, l_188, l_189, l_190, l_191, l_192, l_14, l_17, l_18, l_0, l_1, l_2, l_3, l_4, l_5, l_6, l_7, l_8, l_9, l_10, l_11, l_12, l_20, l_21, l_30, l_31, l_32, l_40, l_48, l_50, l_51, l_57, l_60, l_70, l_71, l_99, l_100, l_101, l_160, l_199, l_200, l_999, l_1000, q_tn, q_add, q_mul, q_sub, q_le, q_lt, q_eq, q_31, n_and, n_or, n_xor, q_shl, q_z, q_b0, q_b1, q_bz, q_em, q_me, q_mm, q_lm, q_ml, q_mle, q_lem, s2_eq, s2_ne, pk_us, pk_un, uN_s, uN_n, if_pos, if_neg, ite_true, ite_false, if_true, if_false, not_true, not_false_iff, Nat.add_zero, Nat.zero_add, inR_t, isIx_t, bI_t, bI_f, neg1, q_clr, ran_M, stM_5, stM_6, h5, h6, f_X7_leansBy_J35, f_X7_leansBy_J24, f_X7_leansBy_J18, m_seesBy_0 h5 h6 hp, m_mournsBy_0 h5 h6 hp]
theorem m_seesBy_1 (h5 : s 5 p = nI 1) (h6 : s 6 p = nI (g 2 p)) (hp : p < 10) (ht : t + 2 < 20) : f_X7_seesBy (stM s t L) (nI p) x = some (((x + nI p) + nI (g 2 p)), stM s (t + 1 + 1) (upd (upd L t (nI 20)) (t + 1) (nI 10))) := by
  unfold f_X7_seesBy
  simp (disch := omega) only [nm_s, bd_s, bd2_s, bd3_s, bd4_s, q_gt, q_inB, ↓q_m1, l_166, l_172, l_180, l_188, l_189, l_190, l_191, l_192, l_14, l_17, l_18, l_0, l_1, l_2, l_3, l_4, l_5, l_6, l_7, l_8, l_9, l_10, l_11, l_12, l_20, l_21, l_30, l_31, l_32, l_40, l_48, l_50, l_51, l_57, l_60, l_70, l_71, l_99, l_100, l_101, l_160, l_199, l_200, l_999, l_1000, q_tn, q_add, q_mul, q_sub, q_le, q_lt, q_eq, q_31, n_and, n_or, n_xor, q_shl, q_z, q_b0, q_b1, q_bz, q_em, q_me, q_mm, q_lm, q_ml, q_mle, q_lem, s2_eq, s2_ne, pk_us, pk_un, uN_s, uN_n, if_pos, if_neg, ite_true, ite_false, if_true, if_false, not_true, not_false_iff, Nat.add_zero, Nat.zero_add, inR_t, isIx_t, bI_t, bI_f, neg1, q_clr, ran_M, stM_5, stM_6, h5, h6, f_X7_seesBy_J52, f_X7_seesBy_J46, f_X7_seesBy_J36, f_X7_seesBy_J30, f_X7_seesBy_J19]
theorem m_mournsBy_1 (h5 : s 5 p = nI 1) (h6 : s 6 p = nI (g 2 p)) (hp : p < 10) (ht : t + 3 < 20) : f_X7_mournsBy (stM s t L) (nI p) x = some ((((x + nI p) + nI (g 2 p)) * nI 2), stM s (t + 1 + 1 + 1) (upd (upd (upd L t (nI 11)) (t + 1) (nI 20)) (t + 1 + 1) (nI 10))) := by
  unfold f_X7_mournsBy
  simp (disch := omega) only [nm_s, bd_s, bd2_s, bd3_s, bd4_s, q_gt, q_inB, ↓q_m1, l_166, l_172, l_180, l_188, l_189, l_190, l_191, l_192, l_14, l_17, l_18, l_0, l_1, l_2, l_3, l_4, l_5, l_6, l_7, l_8, l_9, l_10, l_11, l_12, l_20, l_21, l_30, l_31, l_32, l_40, l_48, l_50, l_51, l_57, l_60, l_70, l_71, l_99, l_100, l_101, l_160, l_199, l_200, l_999, l_1000, q_tn, q_add, q_mul, q_sub, q_le, q_lt, q_eq, q_31, n_and, n_or, n_xor, q_shl, q_z, q_b0, q_b1, q_bz, q_em, q_me, q_mm, q_lm, q_ml, q_mle, q_lem, s2_eq, s2_ne, pk_us, pk_un, uN_s, uN_n, if_pos, if_neg, ite_true, ite_false, if_true, if_false, not_true, not_false_iff, Nat.add_zero, Nat.zero_add, inR_t, isIx_t, bI_t, bI_f, neg1, q_clr, ran_M, stM_5, stM_6, h5, h6, f_X7_mournsBy_J64, f_X7_mournsBy_J58, f_X7_mournsBy_J48, f_X7_mournsBy_J32, m_seesBy_1 h5 h6 hp]
theorem m_leansBy_1 (h5 : s 5 p = nI 1) (h6 : s 6 p = nI (g 2 p)) (hp : p < 10) (ht : t + 6 < 20) : f_X7_leansBy (stM s t L) (nI p) x = some (((((x + nI p) + nI (g 2 p)) * nI 2) ^^^ (((x - nI (g 2 p)) + nI p) + nI (g 2 p))), stM s (t + 1 + 1 + 1 + 1 + 1 + 1) (upd (upd (upd (upd (upd (upd L t (nI 12)) (t + 1) (nI 11)) (t + 1 + 1) (nI 20)) (t + 1 + 1 + 1) (nI 10)) (t + 1 + 1 + 1 + 1) (nI 20)) (t + 1 + 1 + 1 + 1 + 1) (nI 10))) := by
  unfold f_X7_leansBy
  simp (disch := omega) only [nm_s, bd_s, bd2_s, bd3_s, bd4_s, q_gt, q_inB, ↓q_m1, l_166, l_172, l_180, l_188, l_189, l_190, l_191, l_192, l_14, l_17, l_18, l_0, l_1, l_2, l_3, l_4, l_5, l_6, l_7, l_8, l_9, l_10, l_11, l_12, l_20, l_21, l_30, l_31, l_32, l_40, l_48, l_50, l_51, l_57, l_60, l_70, l_71, l_99, l_100, l_101, l_160, l_199, l_200, l_999, l_1000, q_tn, q_add, q_mul, q_sub, q_le, q_lt, q_eq, q_31, n_and, n_or, n_xor, q_shl, q_z, q_b0, q_b1, q_bz, q_em, q_me, q_mm, q_lm, q_ml, q_mle, q_lem, s2_eq, s2_ne, pk_us, pk_un, uN_s, uN_n, if_pos, if_neg, ite_true, ite_false, if_true, if_false, not_true, not_false_iff, Nat.add_zero, Nat.zero_add, inR_t, isIx_t, bI_t, bI_f, neg1, q_clr, ran_M, stM_5, stM_6, h5, h6, f_X7_leansBy_J35, f_X7_leansBy_J24, f_X7_leansBy_J18, m_seesBy_1 h5 h6 hp, m_mournsBy_1 h5 h6 hp]
theorem m_seesBy_2 (h5 : s 5 p = nI 2) (h6 : s 6 p = nI (g 2 p)) (hp : p < 10) (ht : t + 1 < 20) : f_X7_seesBy (stM s t L) (nI p) x = some ((x + nI p), stM s (t + 1) (upd L t (nI 10))) := by
  unfold f_X7_seesBy
  simp (disch := omega) only [nm_s, bd_s, bd2_s, bd3_s, bd4_s, q_gt, q_inB, ↓q_m1, l_166, l_172, l_180, l_188, l_189, l_190, l_191, l_192, l_14, l_17, l_18, l_0, l_1, l_2, l_3, l_4, l_5, l_6, l_7, l_8, l_9, l_10, l_11, l_12, l_20, l_21, l_30, l_31, l_32, l_40, l_48, l_50, l_51, l_57, l_60, l_70, l_71, l_99, l_100, l_101, l_160, l_199, l_200, l_999, l_1000, q_tn, q_add, q_mul, q_sub, q_le, q_lt, q_eq, q_31, n_and, n_or, n_xor, q_shl, q_z, q_b0, q_b1, q_bz, q_em, q_me, q_mm, q_lm, q_ml, q_mle, q_lem, s2_eq, s2_ne, pk_us, pk_un, uN_s, uN_n, if_pos, if_neg, ite_true, ite_false, if_true, if_false, not_true, not_false_iff, Nat.add_zero, Nat.zero_add, inR_t, isIx_t, bI_t, bI_f, neg1, q_clr, ran_M, stM_5, stM_6, h5, h6, f_X7_seesBy_J52, f_X7_seesBy_J46, f_X7_seesBy_J36, f_X7_seesBy_J30, f_X7_seesBy_J19]
theorem m_mournsBy_2 (h5 : s 5 p = nI 2) (h6 : s 6 p = nI (g 2 p)) (hp : p < 10) (ht : t + 3 < 20) : f_X7_mournsBy (stM s t L) (nI p) x = some ((((x + nI p) * nI 2) * nI 3), stM s (t + 1 + 1 + 1) (upd (upd (upd L t (nI 30)) (t + 1) (nI 11)) (t + 1 + 1) (nI 10))) := by
  unfold f_X7_mournsBy
  simp (disch := omega) only [nm_s, bd_s, bd2_s, bd3_s, bd4_s, q_gt, q_inB, ↓q_m1, l_166, l_172, l_180, l_188, l_189, l_190, l_191, l_192, l_14, l_17, l_18, l_0, l_1, l_2, l_3, l_4, l_5, l_6, l_7, l_8, l_9, l_10, l_11, l_12, l_20, l_21, l_30, l_31, l_32, l_40, l_48, l_50, l_51, l_57, l_60, l_70, l_71, l_99, l_100, l_101, l_160, l_199, l_200, l_999, l_1000, q_tn, q_add, q_mul, q_sub, q_le, q_lt, q_eq, q_31, n_and, n_or, n_xor, q_shl, q_z, q_b0, q_b1, q_bz, q_em, q_me, q_mm, q_lm, q_ml, q_mle, q_lem, s2_eq, s2_ne, pk_us, pk_un, uN_s, uN_n, if_pos, if_neg, ite_true, ite_false, if_true, if_false, not_true, not_false_iff, Nat.add_zero, Nat.zero_add, inR_t, isIx_t, bI_t, bI_f, neg1, q_clr, ran_M, stM_5, stM_6, h5, h6, f_X7_mournsBy_J64, f_X7_mournsBy_J58, f_X7_mournsBy_J48, f_X7_mournsBy_J32, m_seesBy_2 h5 h6 hp]
theorem m_leansBy_2 (h5 : s 5 p = nI 2) (h6 : s 6 p = nI (g 2 p)) (hp : p < 10) (ht : t + 5 < 20) : f_X7_leansBy (stM s t L) (nI p) x = some (((((x + nI p) * nI 2) * nI 3) ^^^ ((x - nI (g 2 p)) + nI p)), stM s (t + 1 + 1 + 1 + 1 + 1) (upd (upd (upd (upd (upd L t (nI 12)) (t + 1) (nI 30)) (t + 1 + 1) (nI 11)) (t + 1 + 1 + 1) (nI 10)) (t + 1 + 1 + 1 + 1) (nI 10))) := by
  unfold f_X7_leansBy
  simp (disch := omega) only [nm_s, bd_s, bd2_s, bd3_s, bd4_s, q_gt, q_inB, ↓q_m1, l_166, l_172, l_180, l_188, l_189, l_190, l_191, l_192, l_14, l_17, l_18, l_0, l_1, l_2, l_3, l_4, l_5, l_6, l_7, l_8, l_9, l_10, l_11, l_12, l_20, l_21, l_30, l_31, l_32, l_40, l_48, l_50, l_51, l_57, l_60, l_70, l_71, l_99, l_100, l_101, l_160, l_199, l_200, l_999, l_1000, q_tn, q_add, q_mul, q_sub, q_le, q_lt, q_eq, q_31, n_and, n_or, n_xor, q_shl, q_z, q_b0, q_b1, q_bz, q_em, q_me, q_mm, q_lm, q_ml, q_mle, q_lem, s2_eq, s2_ne, pk_us, pk_un, uN_s, uN_n, if_pos, if_neg, ite_true, ite_false, if_true, if_false, not_true, not_false_iff, Nat.add_zero, Nat.zero_add, inR_t, isIx_t, bI_t, bI_f, neg1, q_clr, ran_M, stM_5, stM_6, h5, h6, f_X7_leansBy_J35, f_X7_leansBy_J24, f_X7_leansBy_J18, m_seesBy_2 h5 h6 hp, m_mournsBy_2 h5 h6 hp]
theorem m_seesBy_3 (h5 : s 5 p = nI 3) (h6 : s 6 p = nI (g 2 p)) (hp : p < 10) (ht : t + 2 < 20) : f_X7_seesBy (stM s t L) (nI p) x = some (((x + nI p) + nI (g 2 p)), stM s (t + 1 + 1) (upd (upd L t (nI 20)) (t + 1) (nI 10))) := by
  unfold f_X7_seesBy
  simp (disch := omega) only [nm_s, bd_s, bd2_s, bd3_s, bd4_s, q_gt, q_inB, ↓q_m1, l_166, l_172, l_180, l_188, l_189, l_190, l_191, l_192, l_14, l_17, l_18, l_0, l_1, l_2, l_3, l_4, l_5, l_6, l_7, l_8, l_9, l_10, l_11, l_12, l_20, l_21, l_30, l_31, l_32, l_40, l_48, l_50, l_51, l_57, l_60, l_70, l_71, l_99, l_100, l_101, l_160, l_199, l_200, l_999, l_1000, q_tn, q_add, q_mul, q_sub, q_le, q_lt, q_eq, q_31, n_and, n_or, n_xor, q_shl, q_z, q_b0, q_b1, q_bz, q_em, q_me, q_mm, q_lm, q_ml, q_mle, q_lem, s2_eq, s2_ne, pk_us, pk_un, uN_s, uN_n, if_pos, if_neg, ite_true, ite_false, if_true, if_false, not_true, not_false_iff, Nat.add_zero, Nat.zero_add, inR_t, isIx_t, bI_t, bI_f, neg1, q_clr, ran_M, stM_5, stM_6, h5, h6, f_X7_seesBy_J52, f_X7_seesBy_J46, f_X7_seesBy_J36, f_X7_seesBy_J30, f_X7_seesBy_J19]
theorem m_mournsBy_3 (h5 : s 5 p = nI 3) (h6 : s 6 p = nI (g 2 p)) (hp : p < 10) (ht : t + 4 < 20) : f_X7_mournsBy (stM s t L) (nI p) x = some (((((x + nI 1) + nI p) + nI (g 2 p)) * nI 2), stM s (t + 1 + 1 + 1 + 1) (upd (upd (upd (upd L t (nI 40)) (t + 1) (nI 11)) (t + 1 + 1) (nI 20)) (t + 1 + 1 + 1) (nI 10))) := by
  unfold f_X7_mournsBy
  simp (disch := omega) only [nm_s, bd_s, bd2_s, bd3_s, bd4_s, q_gt, q_inB, ↓q_m1, l_166, l_172, l_180, l_188, l_189, l_190, l_191, l_192, l_14, l_17, l_18, l_0, l_1, l_2, l_3, l_4, l_5, l_6, l_7, l_8, l_9, l_10, l_11, l_12, l_20, l_21, l_30, l_31, l_32, l_40, l_48, l_50, l_51, l_57, l_60, l_70, l_71, l_99, l_100, l_101, l_160, l_199, l_200, l_999, l_1000, q_tn, q_add, q_mul, q_sub, q_le, q_lt, q_eq, q_31, n_and, n_or, n_xor, q_shl, q_z, q_b0, q_b1, q_bz, q_em, q_me, q_mm, q_lm, q_ml, q_mle, q_lem, s2_eq, s2_ne, pk_us, pk_un, uN_s, uN_n, if_pos, if_neg, ite_true, ite_false, if_true, if_false, not_true, not_false_iff, Nat.add_zero, Nat.zero_add, inR_t, isIx_t, bI_t, bI_f, neg1, q_clr, ran_M, stM_5, stM_6, h5, h6, f_X7_mournsBy_J64, f_X7_mournsBy_J58, f_X7_mournsBy_J48, f_X7_mournsBy_J32, m_seesBy_3 h5 h6 hp]
theorem m_leansBy_3 (h5 : s 5 p = nI 3) (h6 : s 6 p = nI (g 2 p)) (hp : p < 10) (ht : t + 7 < 20) : f_X7_leansBy (stM s t L) (nI p) x = some ((((((x + nI 1) + nI p) + nI (g 2 p)) * nI 2) ^^^ (((x - nI (g 2 p)) + nI p) + nI (g 2 p))), stM s (t + 1 + 1 + 1 + 1 + 1 + 1 + 1) (upd (upd (upd (upd (upd (upd (upd L t (nI 12)) (t + 1) (nI 40)) (t + 1 + 1) (nI 11)) (t + 1 + 1 + 1) (nI 20)) (t + 1 + 1 + 1 + 1) (nI 10)) (t + 1 + 1 + 1 + 1 + 1) (nI 20)) (t + 1 + 1 + 1 + 1 + 1 + 1) (nI 10))) := by
  unfold f_X7_leansBy
  simp (disch := omega) only [nm_s, bd_s, bd2_s, bd3_s, bd4_s, q_gt, q_inB, ↓q_m1, l_166, l_172, l_180, l_188, l_189, l_190, l_191, l_192, l_14, l_17, l_18, l_0, l_1, l_2, l_3, l_4, l_5, l_6, l_7, l_8, l_9, l_10, l_11, l_12, l_20, l_21, l_30, l_31, l_32, l_40, l_48, l_50, l_51, l_57, l_60, l_70, l_71, l_99, l_100, l_101, l_160, l_199, l_200, l_999, l_1000, q_tn, q_add, q_mul, q_sub, q_le, q_lt, q_eq, q_31, n_and, n_or, n_xor, q_shl, q_z, q_b0, q_b1, q_bz, q_em, q_me, q_mm, q_lm, q_ml, q_mle, q_lem, s2_eq, s2_ne, pk_us, pk_un, uN_s, uN_n, if_pos, if_neg, ite_true, ite_false, if_true, if_false, not_true, not_false_iff, Nat.add_zero, Nat.zero_add, inR_t, isIx_t, bI_t, bI_f, neg1, q_clr, ran_M, stM_5, stM_6, h5, h6, f_X7_leansBy_J35, f_X7_leansBy_J24, f_X7_leansBy_J18, m_seesBy_3 h5 h6 hp, m_mournsBy_3 h5 h6 hp]
theorem m_seesBy_4 (h5 : s 5 p = nI 4) (h6 : s 6 p = nI (g 2 p)) (hp : p < 10) (ht : t + 2 < 20) : f_X7_seesBy (stM s t L) (nI p) x = some (((x + nI p) - nI p), stM s (t + 1 + 1) (upd (upd L t (nI 51)) (t + 1) (nI 10))) := by
  unfold f_X7_seesBy
  simp (disch := omega) only [nm_s, bd_s, bd2_s, bd3_s, bd4_s, q_gt, q_inB, ↓q_m1, l_166, l_172, l_180, l_188, l_189, l_190, l_191, l_192, l_14, l_17, l_18, l_0, l_1, l_2, l_3, l_4, l_5, l_6, l_7, l_8, l_9, l_10, l_11, l_12, l_20, l_21, l_30, l_31, l_32, l_40, l_48, l_50, l_51, l_57, l_60, l_70, l_71, l_99, l_100, l_101, l_160, l_199, l_200, l_999, l_1000, q_tn, q_add, q_mul, q_sub, q_le, q_lt, q_eq, q_31, n_and, n_or, n_xor, q_shl, q_z, q_b0, q_b1, q_bz, q_em, q_me, q_mm, q_lm, q_ml, q_mle, q_lem, s2_eq, s2_ne, pk_us, pk_un, uN_s, uN_n, if_pos, if_neg, ite_true, ite_false, if_true, if_false, not_true, not_false_iff, Nat.add_zero, Nat.zero_add, inR_t, isIx_t, bI_t, bI_f, neg1, q_clr, ran_M, stM_5, stM_6, h5, h6, f_X7_seesBy_J52, f_X7_seesBy_J46, f_X7_seesBy_J36, f_X7_seesBy_J30, f_X7_seesBy_J19]
theorem m_mournsBy_4 (h5 : s 5 p = nI 4) (h6 : s 6 p = nI (g 2 p)) (hp : p < 10) (ht : t + 3 < 20) : f_X7_mournsBy (stM s t L) (nI p) x = some ((((x + nI p) - nI p) * nI 2), stM s (t + 1 + 1 + 1) (upd (upd (upd L t (nI 11)) (t + 1) (nI 51)) (t + 1 + 1) (nI 10))) := by
  unfold f_X7_mournsBy
  simp (disch := omega) only [nm_s, bd_s, bd2_s, bd3_s, bd4_s, q_gt, q_inB, ↓q_m1, l_166, l_172, l_180, l_188, l_189, l_190, l_191, l_192, l_14, l_17, l_18, l_0, l_1, l_2, l_3, l_4, l_5, l_6, l_7, l_8, l_9, l_10, l_11, l_12, l_20, l_21, l_30, l_31, l_32, l_40, l_48, l_50, l_51, l_57, l_60, l_70, l_71, l_99, l_100, l_101, l_160, l_199, l_200, l_999, l_1000, q_tn, q_add, q_mul, q_sub, q_le, q_lt, q_eq, q_31, n_and, n_or, n_xor, q_shl, q_z, q_b0, q_b1, q_bz, q_em, q_me, q_mm, q_lm, q_ml, q_mle, q_lem, s2_eq, s2_ne, pk_us, pk_un, uN_s, uN_n, if_pos, if_neg, ite_true, ite_false, if_true, if_false, not_true, not_false_iff, Nat.add_zero, Nat.zero_add, inR_t, isIx_t, bI_t, bI_f, neg1, q_clr, ran_M, stM_5, stM_6, h5, h6, f_X7_mournsBy_J64, f_X7_mournsBy_J58, f_X7_mournsBy_J48, f_X7_mournsBy_J32, m_seesBy_4 h5 h6 hp]
theorem m_leansBy_4 (h5 : s 5 p = nI 4) (h6 : s 6 p = nI (g 2 p)) (hp : p < 10) (ht : t + 7 < 20) : f_X7_leansBy (stM s t L) (nI p) x = some ((-((((x + nI p) - nI p) * nI 2) ^^^ (((x - nI (g 2 p)) + nI p) - nI p))), stM s (t + 1 + 1 + 1 + 1 + 1 + 1 + 1) (upd (upd (upd (upd (upd (upd (upd L t (nI 50)) (t + 1) (nI 12)) (t + 1 + 1) (nI 11)) (t + 1 + 1 + 1) (nI 51)) (t + 1 + 1 + 1 + 1) (nI 10)) (t + 1 + 1 + 1 + 1 + 1) (nI 51)) (t + 1 + 1 + 1 + 1 + 1 + 1) (nI 10))) := by
  unfold f_X7_leansBy
  simp (disch := omega) only [nm_s, bd_s, bd2_s, bd3_s, bd4_s, q_gt, q_inB, ↓q_m1, l_166, l_172, l_180, l_188, l_189, l_190, l_191, l_192, l_14, l_17, l_18, l_0, l_1, l_2, l_3, l_4, l_5, l_6, l_7, l_8, l_9, l_10, l_11, l_12, l_20, l_21, l_30, l_31, l_32, l_40, l_48, l_50, l_51, l_57, l_60, l_70, l_71, l_99, l_100, l_101, l_160, l_199, l_200, l_999, l_1000, q_tn, q_add, q_mul, q_sub, q_le, q_lt, q_eq, q_31, n_and, n_or, n_xor, q_shl, q_z, q_b0, q_b1, q_bz, q_em, q_me, q_mm, q_lm, q_ml, q_mle, q_lem, s2_eq, s2_ne, pk_us, pk_un, uN_s, uN_n, if_pos, if_neg, ite_true, ite_false, if_true, if_false, not_true, not_false_iff, Nat.add_zero, Nat.zero_add, inR_t, isIx_t, bI_t, bI_f, neg1, q_clr, ran_M, stM_5, stM_6, h5, h6, f_X7_leansBy_J35, f_X7_leansBy_J24, f_X7_leansBy_J18, m_seesBy_4 h5 h6 hp, m_mournsBy_4 h5 h6 hp]
theorem m_seesBy_5 (h5 : s 5 p = nI 5) (h6 : s 6 p = nI (g 2 p)) (hp : p < 10) (ht : t + 1 < 20) : f_X7_seesBy (stM s t L) (nI p) x = some ((x + nI p), stM s (t + 1) (upd L t (nI 10))) := by
  unfold f_X7_seesBy
  simp (disch := omega) only [nm_s, bd_s, bd2_s, bd3_s, bd4_s, q_gt, q_inB, ↓q_m1, l_166, l_172, l_180, l_188, l_189, l_190, l_191, l_192, l_14, l_17, l_18, l_0, l_1, l_2, l_3, l_4, l_5, l_6, l_7, l_8, l_9, l_10, l_11, l_12, l_20, l_21, l_30, l_31, l_32, l_40, l_48, l_50, l_51, l_57, l_60, l_70, l_71, l_99, l_100, l_101, l_160, l_199, l_200, l_999, l_1000, q_tn, q_add, q_mul, q_sub, q_le, q_lt, q_eq, q_31, n_and, n_or, n_xor, q_shl, q_z, q_b0, q_b1, q_bz, q_em, q_me, q_mm, q_lm, q_ml, q_mle, q_lem, s2_eq, s2_ne, pk_us, pk_un, uN_s, uN_n, if_pos, if_neg, ite_true, ite_false, if_true, if_false, not_true, not_false_iff, Nat.add_zero, Nat.zero_add, inR_t, isIx_t, bI_t, bI_f, neg1, q_clr, ran_M, stM_5, stM_6, h5, h6, f_X7_seesBy_J52, f_X7_seesBy_J46, f_X7_seesBy_J36, f_X7_seesBy_J30, f_X7_seesBy_J19]
theorem m_mournsBy_5 (h5 : s 5 p = nI 5) (h6 : s 6 p = nI (g 2 p)) (hp : p < 10) (ht : t + 3 < 20) : f_X7_mournsBy (stM s t L) (nI p) x = some ((((x + nI p) * nI 2) * nI 3), stM s (t + 1 + 1 + 1) (upd (upd (upd L t (nI 30)) (t + 1) (nI 11)) (t + 1 + 1) (nI 10))) := by
  unfold f_X7_mournsBy
  simp (disch := omega) only [nm_s, bd_s, bd2_s, bd3_s, bd4_s, q_gt, q_inB, ↓q_m1, l_166, l_172, l_180, l_188, l_189, l_190, l_191, l_192, l_14, l_17, l_18, l_0, l_1, l_2, l_3, l_4, l_5, l_6, l_7, l_8, l_9, l_10, l_11, l_12, l_20, l_21, l_30, l_31, l_32, l_40, l_48, l_50, l_51, l_57, l_60, l_70, l_71, l_99, l_100, l_101, l_160, l_199, l_200, l_999, l_1000, q_tn, q_add, q_mul, q_sub, q_le, q_lt, q_eq, q_31, n_and, n_or, n_xor, q_shl, q_z, q_b0, q_b1, q_bz, q_em, q_me, q_mm, q_lm, q_ml, q_mle, q_lem, s2_eq, s2_ne, pk_us, pk_un, uN_s, uN_n, if_pos, if_neg, ite_true, ite_false, if_true, if_false, not_true, not_false_iff, Nat.add_zero, Nat.zero_add, inR_t, isIx_t, bI_t, bI_f, neg1, q_clr, ran_M, stM_5, stM_6, h5, h6, f_X7_mournsBy_J64, f_X7_mournsBy_J58, f_X7_mournsBy_J48, f_X7_mournsBy_J32, m_seesBy_5 h5 h6 hp]
theorem m_leansBy_5 (h5 : s 5 p = nI 5) (h6 : s 6 p = nI (g 2 p)) (hp : p < 10) (ht : t + 6 < 20) : f_X7_leansBy (stM s t L) (nI p) x = some ((((((x + nI p) * nI 2) * nI 3) ^^^ ((x - nI (g 2 p)) + nI p)) ^^^ nI 5), stM s (t + 1 + 1 + 1 + 1 + 1 + 1) (upd (upd (upd (upd (upd (upd L t (nI 60)) (t + 1) (nI 12)) (t + 1 + 1) (nI 30)) (t + 1 + 1 + 1) (nI 11)) (t + 1 + 1 + 1 + 1) (nI 10)) (t + 1 + 1 + 1 + 1 + 1) (nI 10))) := by
  unfold f_X7_leansBy
  simp (disch := omega) only [nm_s, bd_s, bd2_s, bd3_s, bd4_s, q_gt, q_inB, ↓q_m1, l_166, l_172, l_180, l_188, l_189, l_190, l_191, l_192, l_14, l_17, l_18, l_0, l_1, l_2, l_3, l_4, l_5, l_6, l_7, l_8, l_9, l_10, l_11, l_12, l_20, l_21, l_30, l_31, l_32, l_40, l_48, l_50, l_51, l_57, l_60, l_70, l_71, l_99, l_100, l_101, l_160, l_199, l_200, l_999, l_1000, q_tn, q_add, q_mul, q_sub, q_le, q_lt, q_eq, q_31, n_and, n_or, n_xor, q_shl, q_z, q_b0, q_b1, q_bz, q_em, q_me, q_mm, q_lm, q_ml, q_mle, q_lem, s2_eq, s2_ne, pk_us, pk_un, uN_s, uN_n, if_pos, if_neg, ite_true, ite_false, if_true, if_false, not_true, not_false_iff, Nat.add_zero, Nat.zero_add, inR_t, isIx_t, bI_t, bI_f, neg1, q_clr, ran_M, stM_5, stM_6, h5, h6, f_X7_leansBy_J35, f_X7_leansBy_J24, f_X7_leansBy_J18, m_seesBy_5 h5 h6 hp, m_mournsBy_5 h5 h6 hp]
theorem m_seesBy_6 (h5 : s 5 p = nI 6) (h6 : s 6 p = nI (g 2 p)) (hp : p < 10) (ht : t + 3 < 20) : f_X7_seesBy (stM s t L) (nI p) x = some ((((x + nI p) - nI p) * nI 2), stM s (t + 1 + 1 + 1) (upd (upd (upd L t (nI 70)) (t + 1) (nI 51)) (t + 1 + 1) (nI 10))) := by
  unfold f_X7_seesBy
  simp (disch := omega) only [nm_s, bd_s, bd2_s, bd3_s, bd4_s, q_gt, q_inB, ↓q_m1, l_166, l_172, l_180, l_188, l_189, l_190, l_191, l_192, l_14, l_17, l_18, l_0, l_1, l_2, l_3, l_4, l_5, l_6, l_7, l_8, l_9, l_10, l_11, l_12, l_20, l_21, l_30, l_31, l_32, l_40, l_48, l_50, l_51, l_57, l_60, l_70, l_71, l_99, l_100, l_101, l_160, l_199, l_200, l_999, l_1000, q_tn, q_add, q_mul, q_sub, q_le, q_lt, q_eq, q_31, n_and, n_or, n_xor, q_shl, q_z, q_b0, q_b1, q_bz, q_em, q_me, q_mm, q_lm, q_ml, q_mle, q_lem, s2_eq, s2_ne, pk_us, pk_un, uN_s, uN_n, if_pos, if_neg, ite_true, ite_false, if_true, if_false, not_true, not_false_iff, Nat.add_zero, Nat.zero_add, inR_t, isIx_t, bI_t, bI_f, neg1, q_clr, ran_M, stM_5, stM_6, h5, h6, f_X7_seesBy_J52, f_X7_seesBy_J46, f_X7_seesBy_J36, f_X7_seesBy_J30, f_X7_seesBy_J19]
theorem m_mournsBy_6 (h5 : s 5 p = nI 6) (h6 : s 6 p = nI (g 2 p)) (hp : p < 10) (ht : t + 5 < 20) : f_X7_mournsBy (stM s t L) (nI p) x = some ((((((x - nI (g 2 p)) + nI p) - nI p) * nI 2) * nI 2), stM s (t + 1 + 1 + 1 + 1 + 1) (upd (upd (upd (upd (upd L t (nI 71)) (t + 1) (nI 11)) (t + 1 + 1) (nI 70)) (t + 1 + 1 + 1) (nI 51)) (t + 1 + 1 + 1 + 1) (nI 10))) := by
  unfold f_X7_mournsBy
  simp (disch := omega) only [nm_s, bd_s, bd2_s, bd3_s, bd4_s, q_gt, q_inB, ↓q_m1, l_166, l_172, l_180, l_188, l_189, l_190, l_191, l_192, l_14, l_17, l_18, l_0, l_1, l_2, l_3, l_4, l_5, l_6, l_7, l_8, l_9, l_10, l_11, l_12, l_20, l_21, l_30, l_31, l_32, l_40, l_48, l_50, l_51, l_57, l_60, l_70, l_71, l_99, l_100, l_101, l_160, l_199, l_200, l_999, l_1000, q_tn, q_add, q_mul, q_sub, q_le, q_lt, q_eq, q_31, n_and, n_or, n_xor, q_shl, q_z, q_b0, q_b1, q_bz, q_em, q_me, q_mm, q_lm, q_ml, q_mle, q_lem, s2_eq, s2_ne, pk_us, pk_un, uN_s, uN_n, if_pos, if_neg, ite_true, ite_false, if_true, if_false, not_true, not_false_iff, Nat.add_zero, Nat.zero_add, inR_t, isIx_t, bI_t, bI_f, neg1, q_clr, ran_M, stM_5, stM_6, h5, h6, f_X7_mournsBy_J64, f_X7_mournsBy_J58, f_X7_mournsBy_J48, f_X7_mournsBy_J32, m_seesBy_6 h5 h6 hp]
theorem m_leansBy_6 (h5 : s 5 p = nI 6) (h6 : s 6 p = nI (g 2 p)) (hp : p < 10) (ht : t + 10 < 20) : f_X7_leansBy (stM s t L) (nI p) x = some ((-((((((x - nI (g 2 p)) + nI p) - nI p) * nI 2) * nI 2) ^^^ ((((x - nI (g 2 p)) + nI p) - nI p) * nI 2))), stM s (t + 1 + 1 + 1 + 1 + 1 + 1 + 1 + 1 + 1 + 1) (upd (upd (upd (upd (upd (upd (upd (upd (upd (upd L t (nI 50)) (t + 1) (nI 12)) (t + 1 + 1) (nI 71)) (t + 1 + 1 + 1) (nI 11)) (t + 1 + 1 + 1 + 1) (nI 70)) (t + 1 + 1 + 1 + 1 + 1) (nI 51)) (t + 1 + 1 + 1 + 1 + 1 + 1) (nI 10)) (t + 1 + 1 + 1 + 1 + 1 + 1 + 1) (nI 70)) (t + 1 + 1 + 1 + 1 + 1 + 1 + 1 + 1) (nI 51)) (t + 1 + 1 + 1 + 1 + 1 + 1 + 1 + 1 + 1) (nI 10))) := by
  unfold f_X7_leansBy
  simp (disch := omega) only [nm_s, bd_s, bd2_s, bd3_s, bd4_s, q_gt, q_inB, ↓q_m1, l_166, l_172, l_180, l_188, l_189, l_190, l_191, l_192, l_14, l_17, l_18, l_0, l_1, l_2, l_3, l_4, l_5, l_6, l_7, l_8, l_9, l_10, l_11, l_12, l_20, l_21, l_30, l_31, l_32, l_40, l_48, l_50, l_51, l_57, l_60, l_70, l_71, l_99, l_100, l_101, l_160, l_199, l_200, l_999, l_1000, q_tn, q_add, q_mul, q_sub, q_le, q_lt, q_eq, q_31, n_and, n_or, n_xor, q_shl, q_z, q_b0, q_b1, q_bz, q_em, q_me, q_mm, q_lm, q_ml, q_mle, q_lem, s2_eq, s2_ne, pk_us, pk_un, uN_s, uN_n, if_pos, if_neg, ite_true, ite_false, if_true, if_false, not_true, not_false_iff, Nat.add_zero, Nat.zero_add, inR_t, isIx_t, bI_t, bI_f, neg1, q_clr, ran_M, stM_5, stM_6, h5, h6, f_X7_leansBy_J35, f_X7_leansBy_J24, f_X7_leansBy_J18, m_seesBy_6 h5 h6 hp, m_mournsBy_6 h5 h6 hp]
theorem k_0_0_0 (h2 : b 0 2 = nI 0) (h3 : b 0 3 = nI p) (h4 : b 0 4 = nI (g 2 p)) {d e : Nat} (hd : d + 1 ≤ 40) (ht : t + 1 < 20) : f_X1_run (e + 1) (stC b t L) (nI 0) (nI 0) x (nI d) = some ((x + nI p), stC b (t + 1) (upd L t (nI 10))) := by
  show f_X1_run ((e + 0) + 1) _ _ _ _ _ = _
  rw [run_s, rb_0_0 h2 h3 h4 (by omega) (by omega)]
theorem k_0_1_0 (h2 : b 0 2 = nI 0) (h3 : b 0 3 = nI p) (h4 : b 0 4 = nI (g 2 p)) {d e : Nat} (hd : d + 2 ≤ 40) (ht : t + 2 < 20) : f_X1_run (e + 2) (stC b t L) (nI 0) (nI 1) x (nI d) = some (((x + nI p) * nI 2), stC b (t + 1 + 1) (upd (upd L t (nI 11)) (t + 1) (nI 10))) := by
  show f_X1_run ((e + 1) + 1) _ _ _ _ _ = _
  rw [run_s, rb_1_0 h2 h3 h4 (by omega) (by omega)]
  have f1 : ∀ (t : Nat) (L : Nat → Int32) (x : Int32) (d : Nat), d + 1 ≤ 40 → t + 1 < 20 → f_X1_run (e + 1) (stC b t L) (nI 0) (nI 0) x (nI d) = _ := fun t L x d h7 h8 => k_0_0_0 (x := x) (L := L) h2 h3 h4 (e := e) h7 h8
  simp (disch := omega) only [f1, bd2_s, stC_2, stC_3, stC_4, h2, h3, h4]
theorem k_0_2_0 (h2 : b 0 2 = nI 0) (h3 : b 0 3 = nI p) (h4 : b 0 4 = nI (g 2 p)) {d e : Nat} (hd : d + 3 ≤ 40) (ht : t + 4 < 20) : f_X1_run (e + 3) (stC b t L) (nI 0) (nI 2) x (nI d) = some ((((x + nI p) * nI 2) ^^^ ((x - nI (g 2 p)) + nI p)), stC b (t + 1 + 1 + 1 + 1) (upd (upd (upd (upd L t (nI 12)) (t + 1) (nI 11)) (t + 1 + 1) (nI 10)) (t + 1 + 1 + 1) (nI 10))) := by
  show f_X1_run ((e + 2) + 1) _ _ _ _ _ = _
  rw [run_s, rb_2_0 h2 h3 h4 (by omega) (by omega)]
  have f1 : ∀ (t : Nat) (L : Nat → Int32) (x : Int32) (d : Nat), d + 2 ≤ 40 → t + 2 < 20 → f_X1_run (e + 2) (stC b t L) (nI 0) (nI 1) x (nI d) = _ := fun t L x d h7 h8 => k_0_1_0 (x := x) (L := L) h2 h3 h4 (e := e) h7 h8
  have f2 : ∀ (t : Nat) (L : Nat → Int32) (x : Int32) (d : Nat), d + 1 ≤ 40 → t + 1 < 20 → f_X1_run (e + 2) (stC b t L) (nI 0) (nI 0) x (nI d) = _ := fun t L x d h7 h8 => k_0_0_0 (x := x) (L := L) h2 h3 h4 (e := e + 1) h7 h8
  simp (disch := omega) only [f1, f2, bd2_s, stC_2, stC_3, stC_4, h2, h3, h4]
theorem k_1_0_0 (h2 : b 0 2 = nI 1) (h3 : b 0 3 = nI p) (h4 : b 0 4 = nI (g 2 p)) {d e : Nat} (hd : d + 1 ≤ 40) (ht : t + 1 < 20) : f_X1_run (e + 1) (stC b t L) (nI 0) (nI 0) x (nI d) = some ((x + nI p), stC b (t + 1) (upd L t (nI 10))) := by
  show f_X1_run ((e + 0) + 1) _ _ _ _ _ = _
  rw [run_s, rb_0_0 h2 h3 h4 (by omega) (by omega)]
theorem k_1_0_1 (h2 : b 0 2 = nI 1) (h3 : b 0 3 = nI p) (h4 : b 0 4 = nI (g 2 p)) {d e : Nat} (hd : d + 2 ≤ 40) (ht : t + 2 < 20) : f_X1_run (e + 2) (stC b t L) (nI 1) (nI 0) x (nI d) = some (((x + nI p) + nI (g 2 p)), stC b (t + 1 + 1) (upd (upd L t (nI 20)) (t + 1) (nI 10))) := by
  show f_X1_run ((e + 1) + 1) _ _ _ _ _ = _
  rw [run_s, rb_0_1 h2 h3 h4 (by omega) (by omega)]
  have f1 : ∀ (t : Nat) (L : Nat → Int32) (x : Int32) (d : Nat), d + 1 ≤ 40 → t + 1 < 20 → f_X1_run (e + 1) (stC b t L) (nI 0) (nI 0) x (nI d) = _ := fun t L x d h7 h8 => k_1_0_0 (x := x) (L := L) h2 h3 h4 (e := e) h7 h8
  simp (disch := omega) only [f1, bd2_s, stC_2, stC_3, stC_4, h2, h3, h4]
theorem k_1_1_1 (h2 : b 0 2 = nI 1) (h3 : b 0 3 = nI p) (h4 : b 0 4 = nI (g 2 p)) {d e : Nat} (hd : d + 3 ≤ 40) (ht : t + 3 < 20) : f_X1_run (e + 3) (stC b t L) (nI 1) (nI 1) x (nI d) = some ((((x + nI p) + nI (g 2 p)) * nI 2), stC b (t + 1 + 1 + 1) (upd (upd (upd L t (nI 11)) (t + 1) (nI 20)) (t + 1 + 1) (nI 10))) := by
  show f_X1_run ((e + 2) + 1) _ _ _ _ _ = _
  rw [run_s, rb_1_1 h2 h3 h4 (by omega) (by omega)]
  have f1 : ∀ (t : Nat) (L : Nat → Int32) (x : Int32) (d : Nat), d + 2 ≤ 40 → t + 2 < 20 → f_X1_run (e + 2) (stC b t L) (nI 1) (nI 0) x (nI d) = _ := fun t L x d h7 h8 => k_1_0_1 (x := x) (L := L) h2 h3 h4 (e := e) h7 h8
  simp (disch := omega) only [f1, bd2_s, stC_2, stC_3, stC_4, h2, h3, h4]
theorem k_1_2_1 (h2 : b 0 2 = nI 1) (h3 : b 0 3 = nI p) (h4 : b 0 4 = nI (g 2 p)) {d e : Nat} (hd : d + 4 ≤ 40) (ht : t + 6 < 20) : f_X1_run (e + 4) (stC b t L) (nI 1) (nI 2) x (nI d) = some (((((x + nI p) + nI (g 2 p)) * nI 2) ^^^ (((x - nI (g 2 p)) + nI p) + nI (g 2 p))), stC b (t + 1 + 1 + 1 + 1 + 1 + 1) (upd (upd (upd (upd (upd (upd L t (nI 12)) (t + 1) (nI 11)) (t + 1 + 1) (nI 20)) (t + 1 + 1 + 1) (nI 10)) (t + 1 + 1 + 1 + 1) (nI 20)) (t + 1 + 1 + 1 + 1 + 1) (nI 10))) := by
  show f_X1_run ((e + 3) + 1) _ _ _ _ _ = _
  rw [run_s, rb_2_1 h2 h3 h4 (by omega) (by omega)]
  have f1 : ∀ (t : Nat) (L : Nat → Int32) (x : Int32) (d : Nat), d + 3 ≤ 40 → t + 3 < 20 → f_X1_run (e + 3) (stC b t L) (nI 1) (nI 1) x (nI d) = _ := fun t L x d h7 h8 => k_1_1_1 (x := x) (L := L) h2 h3 h4 (e := e) h7 h8
  have f2 : ∀ (t : Nat) (L : Nat → Int32) (x : Int32) (d : Nat), d + 2 ≤ 40 → t + 2 < 20 → f_X1_run (e + 3) (stC b t L) (nI 1) (nI 0) x (nI d) = _ := fun t L x d h7 h8 => k_1_0_1 (x := x) (L := L) h2 h3 h4 (e := e + 1) h7 h8
  simp (disch := omega) only [f1, f2, bd2_s, stC_2, stC_3, stC_4, h2, h3, h4]
theorem k_2_0_2 (h2 : b 0 2 = nI 2) (h3 : b 0 3 = nI p) (h4 : b 0 4 = nI (g 2 p)) {d e : Nat} (hd : d + 1 ≤ 40) (ht : t + 1 < 20) : f_X1_run (e + 1) (stC b t L) (nI 2) (nI 0) x (nI d) = some ((x + nI p), stC b (t + 1) (upd L t (nI 10))) := by
  show f_X1_run ((e + 0) + 1) _ _ _ _ _ = _
  rw [run_s, rb_0_2 h2 h3 h4 (by omega) (by omega)]
theorem k_2_1_0 (h2 : b 0 2 = nI 2) (h3 : b 0 3 = nI p) (h4 : b 0 4 = nI (g 2 p)) {d e : Nat} (hd : d + 2 ≤ 40) (ht : t + 2 < 20) : f_X1_run (e + 2) (stC b t L) (nI 0) (nI 1) x (nI d) = some (((x + nI p) * nI 2), stC b (t + 1 + 1) (upd (upd L t (nI 11)) (t + 1) (nI 10))) := by
  show f_X1_run ((e + 1) + 1) _ _ _ _ _ = _
  rw [run_s, rb_1_0 h2 h3 h4 (by omega) (by omega)]
  have f1 : ∀ (t : Nat) (L : Nat → Int32) (x : Int32) (d : Nat), d + 1 ≤ 40 → t + 1 < 20 → f_X1_run (e + 1) (stC b t L) (nI 2) (nI 0) x (nI d) = _ := fun t L x d h7 h8 => k_2_0_2 (x := x) (L := L) h2 h3 h4 (e := e) h7 h8
  simp (disch := omega) only [f1, bd2_s, stC_2, stC_3, stC_4, h2, h3, h4]
theorem k_2_1_2 (h2 : b 0 2 = nI 2) (h3 : b 0 3 = nI p) (h4 : b 0 4 = nI (g 2 p)) {d e : Nat} (hd : d + 3 ≤ 40) (ht : t + 3 < 20) : f_X1_run (e + 3) (stC b t L) (nI 2) (nI 1) x (nI d) = some ((((x + nI p) * nI 2) * nI 3), stC b (t + 1 + 1 + 1) (upd (upd (upd L t (nI 30)) (t + 1) (nI 11)) (t + 1 + 1) (nI 10))) := by
  show f_X1_run ((e + 2) + 1) _ _ _ _ _ = _
  rw [run_s, rb_1_2 h2 h3 h4 (by omega) (by omega)]
  have f1 : ∀ (t : Nat) (L : Nat → Int32) (x : Int32) (d : Nat), d + 2 ≤ 40 → t + 2 < 20 → f_X1_run (e + 2) (stC b t L) (nI 0) (nI 1) x (nI d) = _ := fun t L x d h7 h8 => k_2_1_0 (x := x) (L := L) h2 h3 h4 (e := e) h7 h8
  simp (disch := omega) only [f1, bd2_s, stC_2, stC_3, stC_4, h2, h3, h4]
theorem k_2_2_2 (h2 : b 0 2 = nI 2) (h3 : b 0 3 = nI p) (h4 : b 0 4 = nI (g 2 p)) {d e : Nat} (hd : d + 4 ≤ 40) (ht : t + 5 < 20) : f_X1_run (e + 4) (stC b t L) (nI 2) (nI 2) x (nI d) = some (((((x + nI p) * nI 2) * nI 3) ^^^ ((x - nI (g 2 p)) + nI p)), stC b (t + 1 + 1 + 1 + 1 + 1) (upd (upd (upd (upd (upd L t (nI 12)) (t + 1) (nI 30)) (t + 1 + 1) (nI 11)) (t + 1 + 1 + 1) (nI 10)) (t + 1 + 1 + 1 + 1) (nI 10))) := by
  show f_X1_run ((e + 3) + 1) _ _ _ _ _ = _
  rw [run_s, rb_2_2 h2 h3 h4 (by omega) (by omega)]
  have f1 : ∀ (t : Nat) (L : Nat → Int32) (x : Int32) (d : Nat), d + 3 ≤ 40 → t + 3 < 20 → f_X1_run (e + 3) (stC b t L) (nI 2) (nI 1) x (nI d) = _ := fun t L x d h7 h8 => k_2_1_2 (x := x) (L := L) h2 h3 h4 (e := e) h7 h8
  have f2 : ∀ (t : Nat) (L : Nat → Int32) (x : Int32) (d : Nat), d + 1 ≤ 40 → t + 1 < 20 → f_X1_run (e + 3) (stC b t L) (nI 2) (nI 0) x (nI d) = _ := fun t L x d h7 h8 => k_2_0_2 (x := x) (L := L) h2 h3 h4 (e := e + 2) h7 h8
  simp (disch := omega) only [f1, f2, bd2_s, stC_2, stC_3, stC_4, h2, h3, h4]
theorem k_3_0_0 (h2 : b 0 2 = nI 3) (h3 : b 0 3 = nI p) (h4 : b 0 4 = nI (g 2 p)) {d e : Nat} (hd : d + 1 ≤ 40) (ht : t + 1 < 20) : f_X1_run (e + 1) (stC b t L) (nI 0) (nI 0) x (nI d) = some ((x + nI p), stC b (t + 1) (upd L t (nI 10))) := by
  show f_X1_run ((e + 0) + 1) _ _ _ _ _ = _
  rw [run_s, rb_0_0 h2 h3 h4 (by omega) (by omega)]
theorem k_3_0_3 (h2 : b 0 2 = nI 3) (h3 : b 0 3 = nI p) (h4 : b 0 4 = nI (g 2 p)) {d e : Nat} (hd : d + 2 ≤ 40) (ht : t + 2 < 20) : f_X1_run (e + 2) (stC b t L) (nI 3) (nI 0) x (nI d) = some (((x + nI p) + nI (g 2 p)), stC b (t + 1 + 1) (upd (upd L t (nI 20)) (t + 1) (nI 10))) := by
  show f_X1_run ((e + 1) + 1) _ _ _ _ _ = _
  rw [run_s, rb_0_3 h2 h3 h4 (by omega) (by omega)]
  have f1 : ∀ (t : Nat) (L : Nat → Int32) (x : Int32) (d : Nat), d + 1 ≤ 40 → t + 1 < 20 → f_X1_run (e + 1) (stC b t L) (nI 0) (nI 0) x (nI d) = _ := fun t L x d h7 h8 => k_3_0_0 (x := x) (L := L) h2 h3 h4 (e := e) h7 h8
  simp (disch := omega) only [f1, bd2_s, stC_2, stC_3, stC_4, h2, h3, h4]
theorem k_3_1_1 (h2 : b 0 2 = nI 3) (h3 : b 0 3 = nI p) (h4 : b 0 4 = nI (g 2 p)) {d e : Nat} (hd : d + 3 ≤ 40) (ht : t + 3 < 20) : f_X1_run (e + 3) (stC b t L) (nI 1) (nI 1) x (nI d) = some ((((x + nI p) + nI (g 2 p)) * nI 2), stC b (t + 1 + 1 + 1) (upd (upd (upd L t (nI 11)) (t + 1) (nI 20)) (t + 1 + 1) (nI 10))) := by
  show f_X1_run ((e + 2) + 1) _ _ _ _ _ = _
  rw [run_s, rb_1_1 h2 h3 h4 (by omega) (by omega)]
  have f1 : ∀ (t : Nat) (L : Nat → Int32) (x : Int32) (d : Nat), d + 2 ≤ 40 → t + 2 < 20 → f_X1_run (e + 2) (stC b t L) (nI 3) (nI 0) x (nI d) = _ := fun t L x d h7 h8 => k_3_0_3 (x := x) (L := L) h2 h3 h4 (e := e) h7 h8
  simp (disch := omega) only [f1, bd2_s, stC_2, stC_3, stC_4, h2, h3, h4]
theorem k_3_1_3 (h2 : b 0 2 = nI 3) (h3 : b 0 3 = nI p) (h4 : b 0 4 = nI (g 2 p)) {d e : Nat} (hd : d + 4 ≤ 40) (ht : t + 4 < 20) : f_X1_run (e + 4) (stC b t L) (nI 3) (nI 1) x (nI d) = some (((((x + nI 1) + nI p) + nI (g 2 p)) * nI 2), stC b (t + 1 + 1 + 1 + 1) (upd (upd (upd (upd L t (nI 40)) (t + 1) (nI 11)) (t + 1 + 1) (nI 20)) (t + 1 + 1 + 1) (nI 10))) := by
  show f_X1_run ((e + 3) + 1) _ _ _ _ _ = _
  rw [run_s, rb_1_3 h2 h3 h4 (by omega) (by omega)]
  have f1 : ∀ (t : Nat) (L : Nat → Int32) (x : Int32) (d : Nat), d + 3 ≤ 40 → t + 3 < 20 → f_X1_run (e + 3) (stC b t L) (nI 1) (nI 1) x (nI d) = _ := fun t L x d h7 h8 => k_3_1_1 (x := x) (L := L) h2 h3 h4 (e := e) h7 h8
  simp (disch := omega) only [f1, bd2_s, stC_2, stC_3, stC_4, h2, h3, h4]
theorem k_3_2_3 (h2 : b 0 2 = nI 3) (h3 : b 0 3 = nI p) (h4 : b 0 4 = nI (g 2 p)) {d e : Nat} (hd : d + 5 ≤ 40) (ht : t + 7 < 20) : f_X1_run (e + 5) (stC b t L) (nI 3) (nI 2) x (nI d) = some ((((((x + nI 1) + nI p) + nI (g 2 p)) * nI 2) ^^^ (((x - nI (g 2 p)) + nI p) + nI (g 2 p))), stC b (t + 1 + 1 + 1 + 1 + 1 + 1 + 1) (upd (upd (upd (upd (upd (upd (upd L t (nI 12)) (t + 1) (nI 40)) (t + 1 + 1) (nI 11)) (t + 1 + 1 + 1) (nI 20)) (t + 1 + 1 + 1 + 1) (nI 10)) (t + 1 + 1 + 1 + 1 + 1) (nI 20)) (t + 1 + 1 + 1 + 1 + 1 + 1) (nI 10))) := by
  show f_X1_run ((e + 4) + 1) _ _ _ _ _ = _
  rw [run_s, rb_2_3 h2 h3 h4 (by omega) (by omega)]
  have f1 : ∀ (t : Nat) (L : Nat → Int32) (x : Int32) (d : Nat), d + 4 ≤ 40 → t + 4 < 20 → f_X1_run (e + 4) (stC b t L) (nI 3) (nI 1) x (nI d) = _ := fun t L x d h7 h8 => k_3_1_3 (x := x) (L := L) h2 h3 h4 (e := e) h7 h8
  have f2 : ∀ (t : Nat) (L : Nat → Int32) (x : Int32) (d : Nat), d + 2 ≤ 40 → t + 2 < 20 → f_X1_run (e + 4) (stC b t L) (nI 3) (nI 0) x (nI d) = _ := fun t L x d h7 h8 => k_3_0_3 (x := x) (L := L) h2 h3 h4 (e := e + 2) h7 h8
  simp (disch := omega) only [f1, f2, bd2_s, stC_2, stC_3, stC_4, h2, h3, h4]
theorem k_4_0_0 (h2 : b 0 2 = nI 4) (h3 : b 0 3 = nI p) (h4 : b 0 4 = nI (g 2 p)) {d e : Nat} (hd : d + 1 ≤ 40) (ht : t + 1 < 20) : f_X1_run (e + 1) (stC b t L) (nI 0) (nI 0) x (nI d) = some ((x + nI p), stC b (t + 1) (upd L t (nI 10))) := by
  show f_X1_run ((e + 0) + 1) _ _ _ _ _ = _
  rw [run_s, rb_0_0 h2 h3 h4 (by omega) (by omega)]
theorem k_4_0_4 (h2 : b 0 2 = nI 4) (h3 : b 0 3 = nI p) (h4 : b 0 4 = nI (g 2 p)) {d e : Nat} (hd : d + 2 ≤ 40) (ht : t + 2 < 20) : f_X1_run (e + 2) (stC b t L) (nI 4) (nI 0) x (nI d) = some (((x + nI p) - nI p), stC b (t + 1 + 1) (upd (upd L t (nI 51)) (t + 1) (nI 10))) := by
  show f_X1_run ((e + 1) + 1) _ _ _ _ _ = _
  rw [run_s, rb_0_4 h2 h3 h4 (by omega) (by omega)]
  have f1 : ∀ (t : Nat) (L : Nat → Int32) (x : Int32) (d : Nat), d + 1 ≤ 40 → t + 1 < 20 → f_X1_run (e + 1) (stC b t L) (nI 0) (nI 0) x (nI d) = _ := fun t L x d h7 h8 => k_4_0_0 (x := x) (L := L) h2 h3 h4 (e := e) h7 h8
  simp (disch := omega) only [f1, bd2_s, stC_2, stC_3, stC_4, h2, h3, h4]
theorem k_4_1_4 (h2 : b 0 2 = nI 4) (h3 : b 0 3 = nI p) (h4 : b 0 4 = nI (g 2 p)) {d e : Nat} (hd : d + 3 ≤ 40) (ht : t + 3 < 20) : f_X1_run (e + 3) (stC b t L) (nI 4) (nI 1) x (nI d) = some ((((x + nI p) - nI p) * nI 2), stC b (t + 1 + 1 + 1) (upd (upd (upd L t (nI 11)) (t + 1) (nI 51)) (t + 1 + 1) (nI 10))) := by
  show f_X1_run ((e + 2) + 1) _ _ _ _ _ = _
  rw [run_s, rb_1_4 h2 h3 h4 (by omega) (by omega)]
  have f1 : ∀ (t : Nat) (L : Nat → Int32) (x : Int32) (d : Nat), d + 2 ≤ 40 → t + 2 < 20 → f_X1_run (e + 2) (stC b t L) (nI 4) (nI 0) x (nI d) = _ := fun t L x d h7 h8 => k_4_0_4 (x := x) (L := L) h2 h3 h4 (e := e) h7 h8
  simp (disch := omega) only [f1, bd2_s, stC_2, stC_3, stC_4, h2, h3, h4]
theorem k_4_2_0 (h2 : b 0 2 = nI 4) (h3 : b 0 3 = nI p) (h4 : b 0 4 = nI (g 2 p)) {d e : Nat} (hd : d + 4 ≤ 40) (ht : t + 6 < 20) : f_X1_run (e + 4) (stC b t L) (nI 0) (nI 2) x (nI d) = some (((((x + nI p) - nI p) * nI 2) ^^^ (((x - nI (g 2 p)) + nI p) - nI p)), stC b (t + 1 + 1 + 1 + 1 + 1 + 1) (upd (upd (upd (upd (upd (upd L t (nI 12)) (t + 1) (nI 11)) (t + 1 + 1) (nI 51)) (t + 1 + 1 + 1) (nI 10)) (t + 1 + 1 + 1 + 1) (nI 51)) (t + 1 + 1 + 1 + 1 + 1) (nI 10))) := by
  show f_X1_run ((e + 3) + 1) _ _ _ _ _ = _
  rw [run_s, rb_2_0 h2 h3 h4 (by omega) (by omega)]
  have f1 : ∀ (t : Nat) (L : Nat → Int32) (x : Int32) (d : Nat), d + 3 ≤ 40 → t + 3 < 20 → f_X1_run (e + 3) (stC b t L) (nI 4) (nI 1) x (nI d) = _ := fun t L x d h7 h8 => k_4_1_4 (x := x) (L := L) h2 h3 h4 (e := e) h7 h8
  have f2 : ∀ (t : Nat) (L : Nat → Int32) (x : Int32) (d : Nat), d + 2 ≤ 40 → t + 2 < 20 → f_X1_run (e + 3) (stC b t L) (nI 4) (nI 0) x (nI d) = _ := fun t L x d h7 h8 => k_4_0_4 (x := x) (L := L) h2 h3 h4 (e := e + 1) h7 h8
  simp (disch := omega) only [f1, f2, bd2_s, stC_2, stC_3, stC_4, h2, h3, h4]
theorem k_4_2_4 (h2 : b 0 2 = nI 4) (h3 : b 0 3 = nI p) (h4 : b 0 4 = nI (g 2 p)) {d e : Nat} (hd : d + 5 ≤ 40) (ht : t + 7 < 20) : f_X1_run (e + 5) (stC b t L) (nI 4) (nI 2) x (nI d) = some ((-((((x + nI p) - nI p) * nI 2) ^^^ (((x - nI (g 2 p)) + nI p) - nI p))), stC b (t + 1 + 1 + 1 + 1 + 1 + 1 + 1) (upd (upd (upd (upd (upd (upd (upd L t (nI 50)) (t + 1) (nI 12)) (t + 1 + 1) (nI 11)) (t + 1 + 1 + 1) (nI 51)) (t + 1 + 1 + 1 + 1) (nI 10)) (t + 1 + 1 + 1 + 1 + 1) (nI 51)) (t + 1 + 1 + 1 + 1 + 1 + 1) (nI 10))) := by
  show f_X1_run ((e + 4) + 1) _ _ _ _ _ = _
  rw [run_s, rb_2_4 h2 h3 h4 (by omega) (by omega)]
  have f1 : ∀ (t : Nat) (L : Nat → Int32) (x : Int32) (d : Nat), d + 4 ≤ 40 → t + 6 < 20 → f_X1_run (e + 4) (stC b t L) (nI 0) (nI 2) x (nI d) = _ := fun t L x d h7 h8 => k_4_2_0 (x := x) (L := L) h2 h3 h4 (e := e) h7 h8
  simp (disch := omega) only [f1, bd2_s, stC_2, stC_3, stC_4, h2, h3, h4]
theorem k_5_0_5 (h2 : b 0 2 = nI 5) (h3 : b 0 3 = nI p) (h4 : b 0 4 = nI (g 2 p)) {d e : Nat} (hd : d + 1 ≤ 40) (ht : t + 1 < 20) : f_X1_run (e + 1) (stC b t L) (nI 5) (nI 0) x (nI d) = some ((x + nI p), stC b (t + 1) (upd L t (nI 10))) := by
  show f_X1_run ((e + 0) + 1) _ _ _ _ _ = _
  rw [run_s, rb_0_5 h2 h3 h4 (by omega) (by omega)]
theorem k_5_1_0 (h2 : b 0 2 = nI 5) (h3 : b 0 3 = nI p) (h4 : b 0 4 = nI (g 2 p)) {d e : Nat} (hd : d + 2 ≤ 40) (ht : t + 2 < 20) : f_X1_run (e + 2) (stC b t L) (nI 0) (nI 1) x (nI d) = some (((x + nI p) * nI 2), stC b (t + 1 + 1) (upd (upd L t (nI 11)) (t + 1) (nI 10))) := by
  show f_X1_run ((e + 1) + 1) _ _ _ _ _ = _
  rw [run_s, rb_1_0 h2 h3 h4 (by omega) (by omega)]
  have f1 : ∀ (t : Nat) (L : Nat → Int32) (x : Int32) (d : Nat), d + 1 ≤ 40 → t + 1 < 20 → f_X1_run (e + 1) (stC b t L) (nI 5) (nI 0) x (nI d) = _ := fun t L x d h7 h8 => k_5_0_5 (x := x) (L := L) h2 h3 h4 (e := e) h7 h8
  simp (disch := omega) only [f1, bd2_s, stC_2, stC_3, stC_4, h2, h3, h4]
theorem k_5_1_5 (h2 : b 0 2 = nI 5) (h3 : b 0 3 = nI p) (h4 : b 0 4 = nI (g 2 p)) {d e : Nat} (hd : d + 3 ≤ 40) (ht : t + 3 < 20) : f_X1_run (e + 3) (stC b t L) (nI 5) (nI 1) x (nI d) = some ((((x + nI p) * nI 2) * nI 3), stC b (t + 1 + 1 + 1) (upd (upd (upd L t (nI 30)) (t + 1) (nI 11)) (t + 1 + 1) (nI 10))) := by
  show f_X1_run ((e + 2) + 1) _ _ _ _ _ = _
  rw [run_s, rb_1_5 h2 h3 h4 (by omega) (by omega)]
  have f1 : ∀ (t : Nat) (L : Nat → Int32) (x : Int32) (d : Nat), d + 2 ≤ 40 → t + 2 < 20 → f_X1_run (e + 2) (stC b t L) (nI 0) (nI 1) x (nI d) = _ := fun t L x d h7 h8 => k_5_1_0 (x := x) (L := L) h2 h3 h4 (e := e) h7 h8
  simp (disch := omega) only [f1, bd2_s, stC_2, stC_3, stC_4, h2, h3, h4]
theorem k_5_2_2 (h2 : b 0 2 = nI 5) (h3 : b 0 3 = nI p) (h4 : b 0 4 = nI (g 2 p)) {d e : Nat} (hd : d + 4 ≤ 40) (ht : t + 5 < 20) : f_X1_run (e + 4) (stC b t L) (nI 2) (nI 2) x (nI d) = some (((((x + nI p) * nI 2) * nI 3) ^^^ ((x - nI (g 2 p)) + nI p)), stC b (t + 1 + 1 + 1 + 1 + 1) (upd (upd (upd (upd (upd L t (nI 12)) (t + 1) (nI 30)) (t + 1 + 1) (nI 11)) (t + 1 + 1 + 1) (nI 10)) (t + 1 + 1 + 1 + 1) (nI 10))) := by
  show f_X1_run ((e + 3) + 1) _ _ _ _ _ = _
  rw [run_s, rb_2_2 h2 h3 h4 (by omega) (by omega)]
  have f1 : ∀ (t : Nat) (L : Nat → Int32) (x : Int32) (d : Nat), d + 3 ≤ 40 → t + 3 < 20 → f_X1_run (e + 3) (stC b t L) (nI 5) (nI 1) x (nI d) = _ := fun t L x d h7 h8 => k_5_1_5 (x := x) (L := L) h2 h3 h4 (e := e) h7 h8
  have f2 : ∀ (t : Nat) (L : Nat → Int32) (x : Int32) (d : Nat), d + 1 ≤ 40 → t + 1 < 20 → f_X1_run (e + 3) (stC b t L) (nI 5) (nI 0) x (nI d) = _ := fun t L x d h7 h8 => k_5_0_5 (x := x) (L := L) h2 h3 h4 (e := e + 2) h7 h8
  simp (disch := omega) only [f1, f2, bd2_s, stC_2, stC_3, stC_4, h2, h3, h4]
theorem k_5_2_5 (h2 : b 0 2 = nI 5) (h3 : b 0 3 = nI p) (h4 : b 0 4 = nI (g 2 p)) {d e : Nat} (hd : d + 5 ≤ 40) (ht : t + 6 < 20) : f_X1_run (e + 5) (stC b t L) (nI 5) (nI 2) x (nI d) = some ((((((x + nI p) * nI 2) * nI 3) ^^^ ((x - nI (g 2 p)) + nI p)) ^^^ nI 5), stC b (t + 1 + 1 + 1 + 1 + 1 + 1) (upd (upd (upd (upd (upd (upd L t (nI 60)) (t + 1) (nI 12)) (t + 1 + 1) (nI 30)) (t + 1 + 1 + 1) (nI 11)) (t + 1 + 1 + 1 + 1) (nI 10)) (t + 1 + 1 + 1 + 1 + 1) (nI 10))) := by
  show f_X1_run ((e + 4) + 1) _ _ _ _ _ = _
  rw [run_s, rb_2_5 h2 h3 h4 (by omega) (by omega)]
  have f1 : ∀ (t : Nat) (L : Nat → Int32) (x : Int32) (d : Nat), d + 4 ≤ 40 → t + 5 < 20 → f_X1_run (e + 4) (stC b t L) (nI 2) (nI 2) x (nI d) = _ := fun t L x d h7 h8 => k_5_2_2 (x := x) (L := L) h2 h3 h4 (e := e) h7 h8
  simp (disch := omega) only [f1, bd2_s, stC_2, stC_3, stC_4, h2, h3, h4]
theorem k_6_0_0 (h2 : b 0 2 = nI 6) (h3 : b 0 3 = nI p) (h4 : b 0 4 = nI (g 2 p)) {d e : Nat} (hd : d + 1 ≤ 40) (ht : t + 1 < 20) : f_X1_run (e + 1) (stC b t L) (nI 0) (nI 0) x (nI d) = some ((x + nI p), stC b (t + 1) (upd L t (nI 10))) := by
  show f_X1_run ((e + 0) + 1) _ _ _ _ _ = _
  rw [run_s, rb_0_0 h2 h3 h4 (by omega) (by omega)]
theorem k_6_0_4 (h2 : b 0 2 = nI 6) (h3 : b 0 3 = nI p) (h4 : b 0 4 = nI (g 2 p)) {d e : Nat} (hd : d + 2 ≤ 40) (ht : t + 2 < 20) : f_X1_run (e + 2) (stC b t L) (nI 4) (nI 0) x (nI d) = some (((x + nI p) - nI p), stC b (t + 1 + 1) (upd (upd L t (nI 51)) (t + 1) (nI 10))) := by
  show f_X1_run ((e + 1) + 1) _ _ _ _ _ = _
  rw [run_s, rb_0_4 h2 h3 h4 (by omega) (by omega)]
  have f1 : ∀ (t : Nat) (L : Nat → Int32) (x : Int32) (d : Nat), d + 1 ≤ 40 → t + 1 < 20 → f_X1_run (e + 1) (stC b t L) (nI 0) (nI 0) x (nI d) = _ := fun t L x d h7 h8 => k_6_0_0 (x := x) (L := L) h2 h3 h4 (e := e) h7 h8
  simp (disch := omega) only [f1, bd2_s, stC_2, stC_3, stC_4, h2, h3, h4]
theorem k_6_0_6 (h2 : b 0 2 = nI 6) (h3 : b 0 3 = nI p) (h4 : b 0 4 = nI (g 2 p)) {d e : Nat} (hd : d + 3 ≤ 40) (ht : t + 3 < 20) : f_X1_run (e + 3) (stC b t L) (nI 6) (nI 0) x (nI d) = some ((((x + nI p) - nI p) * nI 2), stC b (t + 1 + 1 + 1) (upd (upd (upd L t (nI 70)) (t + 1) (nI 51)) (t + 1 + 1) (nI 10))) := by
  show f_X1_run ((e + 2) + 1) _ _ _ _ _ = _
  rw [run_s, rb_0_6 h2 h3 h4 (by omega) (by omega)]
  have f1 : ∀ (t : Nat) (L : Nat → Int32) (x : Int32) (d : Nat), d + 2 ≤ 40 → t + 2 < 20 → f_X1_run (e + 2) (stC b t L) (nI 4) (nI 0) x (nI d) = _ := fun t L x d h7 h8 => k_6_0_4 (x := x) (L := L) h2 h3 h4 (e := e) h7 h8
  simp (disch := omega) only [f1, bd2_s, stC_2, stC_3, stC_4, h2, h3, h4]
theorem k_6_1_4 (h2 : b 0 2 = nI 6) (h3 : b 0 3 = nI p) (h4 : b 0 4 = nI (g 2 p)) {d e : Nat} (hd : d + 4 ≤ 40) (ht : t + 4 < 20) : f_X1_run (e + 4) (stC b t L) (nI 4) (nI 1) x (nI d) = some (((((x + nI p) - nI p) * nI 2) * nI 2), stC b (t + 1 + 1 + 1 + 1) (upd (upd (upd (upd L t (nI 11)) (t + 1) (nI 70)) (t + 1 + 1) (nI 51)) (t + 1 + 1 + 1) (nI 10))) := by
  show f_X1_run ((e + 3) + 1) _ _ _ _ _ = _
  rw [run_s, rb_1_4 h2 h3 h4 (by omega) (by omega)]
  have f1 : ∀ (t : Nat) (L : Nat → Int32) (x : Int32) (d : Nat), d + 3 ≤ 40 → t + 3 < 20 → f_X1_run (e + 3) (stC b t L) (nI 6) (nI 0) x (nI d) = _ := fun t L x d h7 h8 => k_6_0_6 (x := x) (L := L) h2 h3 h4 (e := e) h7 h8
  simp (disch := omega) only [f1, bd2_s, stC_2, stC_3, stC_4, h2, h3, h4]
theorem k_6_1_6 (h2 : b 0 2 = nI 6) (h3 : b 0 3 = nI p) (h4 : b 0 4 = nI (g 2 p)) {d e : Nat} (hd : d + 5 ≤ 40) (ht : t + 5 < 20) : f_X1_run (e + 5) (stC b t L) (nI 6) (nI 1) x (nI d) = some ((((((x - nI (g 2 p)) + nI p) - nI p) * nI 2) * nI 2), stC b (t + 1 + 1 + 1 + 1 + 1) (upd (upd (upd (upd (upd L t (nI 71)) (t + 1) (nI 11)) (t + 1 + 1) (nI 70)) (t + 1 + 1 + 1) (nI 51)) (t + 1 + 1 + 1 + 1) (nI 10))) := by
  show f_X1_run ((e + 4) + 1) _ _ _ _ _ = _
  rw [run_s, rb_1_6 h2 h3 h4 (by omega) (by omega)]
  have f1 : ∀ (t : Nat) (L : Nat → Int32) (x : Int32) (d : Nat), d + 4 ≤ 40 → t + 4 < 20 → f_X1_run (e + 4) (stC b t L) (nI 4) (nI 1) x (nI d) = _ := fun t L x d h7 h8 => k_6_1_4 (x := x) (L := L) h2 h3 h4 (e := e) h7 h8
  simp (disch := omega) only [f1, bd2_s, stC_2, stC_3, stC_4, h2, h3, h4]
theorem k_6_2_0 (h2 : b 0 2 = nI 6) (h3 : b 0 3 = nI p) (h4 : b 0 4 = nI (g 2 p)) {d e : Nat} (hd : d + 6 ≤ 40) (ht : t + 9 < 20) : f_X1_run (e + 6) (stC b t L) (nI 0) (nI 2) x (nI d) = some (((((((x - nI (g 2 p)) + nI p) - nI p) * nI 2) * nI 2) ^^^ ((((x - nI (g 2 p)) + nI p) - nI p) * nI 2)), stC b (t + 1 + 1 + 1 + 1 + 1 + 1 + 1 + 1 + 1) (upd (upd (upd (upd (upd (upd (upd (upd (upd L t (nI 12)) (t + 1) (nI 71)) (t + 1 + 1) (nI 11)) (t + 1 + 1 + 1) (nI 70)) (t + 1 + 1 + 1 + 1) (nI 51)) (t + 1 + 1 + 1 + 1 + 1) (nI 10)) (t + 1 + 1 + 1 + 1 + 1 + 1) (nI 70)) (t + 1 + 1 + 1 + 1 + 1 + 1 + 1) (nI 51)) (t + 1 + 1 + 1 + 1 + 1 + 1 + 1 + 1) (nI 10))) := by
  show f_X1_run ((e + 5) + 1) _ _ _ _ _ = _
  rw [run_s, rb_2_0 h2 h3 h4 (by omega) (by omega)]
  have f1 : ∀ (t : Nat) (L : Nat → Int32) (x : Int32) (d : Nat), d + 5 ≤ 40 → t + 5 < 20 → f_X1_run (e + 5) (stC b t L) (nI 6) (nI 1) x (nI d) = _ := fun t L x d h7 h8 => k_6_1_6 (x := x) (L := L) h2 h3 h4 (e := e) h7 h8
  have f2 : ∀ (t : Nat) (L : Nat → Int32) (x : Int32) (d : Nat), d + 3 ≤ 40 → t + 3 < 20 → f_X1_run (e + 5) (stC b t L) (nI 6) (nI 0) x (nI d) = _ := fun t L x d h7 h8 => k_6_0_6 (x := x) (L := L) h2 h3 h4 (e := e + 2) h7 h8
  simp (disch := omega) only [f1, f2, bd2_s, stC_2, stC_3, stC_4, h2, h3, h4]
theorem k_6_2_6 (h2 : b 0 2 = nI 6) (h3 : b 0 3 = nI p) (h4 : b 0 4 = nI (g 2 p)) {d e : Nat} (hd : d + 7 ≤ 40) (ht : t + 10 < 20) : f_X1_run (e + 7) (stC b t L) (nI 6) (nI 2) x (nI d) = some ((-((((((x - nI (g 2 p)) + nI p) - nI p) * nI 2) * nI 2) ^^^ ((((x - nI (g 2 p)) + nI p) - nI p) * nI 2))), stC b (t + 1 + 1 + 1 + 1 + 1 + 1 + 1 + 1 + 1 + 1) (upd (upd (upd (upd (upd (upd (upd (upd (upd (upd L t (nI 50)) (t + 1) (nI 12)) (t + 1 + 1) (nI 71)) (t + 1 + 1 + 1) (nI 11)) (t + 1 + 1 + 1 + 1) (nI 70)) (t + 1 + 1 + 1 + 1 + 1) (nI 51)) (t + 1 + 1 + 1 + 1 + 1 + 1) (nI 10)) (t + 1 + 1 + 1 + 1 + 1 + 1 + 1) (nI 70)) (t + 1 + 1 + 1 + 1 + 1 + 1 + 1 + 1) (nI 51)) (t + 1 + 1 + 1 + 1 + 1 + 1 + 1 + 1 + 1) (nI 10))) := by
  show f_X1_run ((e + 6) + 1) _ _ _ _ _ = _
  rw [run_s, rb_2_6 h2 h3 h4 (by omega) (by omega)]
  have f1 : ∀ (t : Nat) (L : Nat → Int32) (x : Int32) (d : Nat), d + 6 ≤ 40 → t + 9 < 20 → f_X1_run (e + 6) (stC b t L) (nI 0) (nI 2) x (nI d) = _ := fun t L x d h7 h8 => k_6_2_0 (x := x) (L := L) h2 h3 h4 (e := e) h7 h8
  simp (disch := omega) only [f1, bd2_s, stC_2, stC_3, stC_4, h2, h3, h4]
end AR
section AS
variable {B : Nat} {so r0 r1 : GS} {rw : Nat → GS} {re : Nat → Nat → Int64} {sv sm : GS} {sq : Nat → Int64}
theorem act_fin {g : AG} {bC bM : GS} {n : Nat} {LC LM : Nat → Int32} (h : RepR g r0) (m : RepM g sm) (w : Wf B g) (hd : r0 0 17 = sm 0 18) (hf : so 0 7 = sm 0 19) (hs : Shs so rw re sm sq (aP g)) (hc : ∀ i, i < 8 → so 7 i = sm 21 i) (hi : Img B so r1 sm) (hM : bM = s2 sm 0 (upd (sm 0) 21 (nI 0))) (hn : n ≤ 1000) (hL : ∀ i, i < n → LC i = LM i) : Inv B so r0 r1 rw re (stC bC n LC) (stM bM n LM) sq := by
  subst hM
  have e (k : Nat) (h1 : k ≠ 0 := by omega) (h2 : k ≠ 23 := by omega) : stM (s2 sm 0 (upd (sm 0) 21 (nI 0))) n LM k = sm k := by
    unfold stM
    rw [s2_ne h1, s2_ne h2, s2_ne h1]
  have e0 (j : Nat) (h1 : j ≠ 21 := by omega) : stM (s2 sm 0 (upd (sm 0) 21 (nI 0))) n LM 0 j = sm 0 j := by
    unfold stM
    rw [s2_eq, s2_eq, pk_un h1, pk_un h1]
  refine ⟨g, ⟨h, ?_, w, ?_⟩, ?_, fun i hi => ?_, fun i hi => ?_, ⟨n, hn, rfl, rfl, fun i _ hi => hL i hi⟩, ?_⟩
  · unfold RepM
    rw [e0 3, e0 11, e0 14, e0 17, e 5, e 6, e 7, e 8, e 9, e 10, e 11, e 13, e 14, e 16, e 17]
    exact m
  · rw [e0 18]; exact hd
  · rw [e0 19]; exact hf
  · obtain ⟨a, c⟩ := hs i hi
    rw [e 1]
    exact ⟨a, ShR_ne c rfl rfl rfl (by rw [e 2]) (fun _ _ => rfl)⟩
  · rw [e 21]; exact hc i hi
  · unfold Img at hi ⊢
    rw [e0 23, e 25]; exact hi
theorem sim_act (I : Inv B so r0 r1 rw re sv sm sq) (x1 x2 x3 : Int32) : SimP (f_X6_act r0 sv x1 x2 x3) (f_X7_act sm x1 x2 x3) (fun x y => x.1 = y.1 ∧ Inv B so r0 r1 rw re x.2 y.2 sq) := by
  have I0 := I
  obtain ⟨g, ⟨h, m, w, hd⟩, hf, hs, hc, ht, hi⟩ := I
  have hP := w.1.1.1
  have m0 : RepM g (s2 sm 0 (upd (sm 0) 21 (nI 0))) := ⟨⟨m.c0, m.cs, m.cv, m.cy⟩, m.2⟩
  have fin0 : Inv B so r0 r1 rw re (s2 sv 0 (upd (sv 0) 0 (nI 0))) (s2 sm 0 (upd (sm 0) 21 (nI 0))) sq := by
    have := act_fin (bC := s2 sv 0 (upd (sv 0) 0 (nI 0))) (n := 0) (LC := sv 2) (LM := sm 23) h m w hd hf hs hc hi rfl (by omega) (fun i hi => by omega)
    have e1 : stC (s2 sv 0 (upd (sv 0) 0 (nI 0))) 0 (sv 2) = s2 sv 0 (upd (sv 0) 0 (nI 0)) := stC_0 (b := s2 sv 0 (upd (sv 0) 0 (nI 0))) rfl
    have e2 : stM (s2 sm 0 (upd (sm 0) 21 (nI 0))) 0 (sm 23) = s2 sm 0 (upd (sm 0) 21 (nI 0)) := stM_0 (b := s2 sm 0 (upd (sm 0) 21 (nI 0))) rfl
    rw [e1, e2] at this
    exact this
  rcases ixl x1 (aP g) (by omega) with p0 | ⟨p, hp, rfl, p1⟩
  · unfold f_X6_act f_X7_act f_X1_forget
    simp (disch := omega) only [nm_s, bd_s, bd2_s, bd3_s, bd4_s, q_gt, q_inB, ↓q_m1, l_166, l_172, l_180, l_188, l_189, l_190, l_191, l_192, l_14, l_17, l_18, l_0, l_1, l_2, l_3, l_4, l_5, l_6, l_7, l_8, l_9, l_10, l_11, l_12, l_20, l_21, l_30, l_31, l_32, l_40, l_48, l_50, l_51, l_57, l_60, l_70, l_71, l_99, l_100, l_101, l_160, l_199, l_200, l_999, l_1000, q_tn, q_add, q_mul, q_sub, q_le, q_lt, q_eq, q_31, n_and, n_or, n_xor, q_shl, q_z, q_b0, q_b1, q_bz, q_em, q_me, q_mm, q_lm, q_ml, q_mle, q_lem, s2_eq, s2_ne, pk_us, pk_un, uN_s, uN_n, if_pos, if_neg, ite_true, ite_false, if_true, if_false, not_true, not_false_iff, Nat.add_zero, Nat.zero_add, inR_t, isIx_t, bI_t, bI_f, neg1, q_clr, pR_isPeak h, pM_isPeak m0 w.1, p0]
    exact sim_i ⟨rfl, fin0⟩
  · rcases in3 x2 0 2 (by omega) (by omega) with ⟨q1, q⟩ | ⟨q1, q2, q⟩ | ⟨v, _, hv, rfl, _⟩
    · unfold f_X6_act f_X7_act f_X1_forget
      simp (disch := omega) only [nm_s, bd_s, bd2_s, bd3_s, bd4_s, q_gt, q_inB, ↓q_m1, l_166, l_172, l_180, l_188, l_189, l_190, l_191, l_192, l_14, l_17, l_18, l_0, l_1, l_2, l_3, l_4, l_5, l_6, l_7, l_8, l_9, l_10, l_11, l_12, l_20, l_21, l_30, l_31, l_32, l_40, l_48, l_50, l_51, l_57, l_60, l_70, l_71, l_99, l_100, l_101, l_160, l_199, l_200, l_999, l_1000, q_tn, q_add, q_mul, q_sub, q_le, q_lt, q_eq, q_31, n_and, n_or, n_xor, q_shl, q_z, q_b0, q_b1, q_bz, q_em, q_me, q_mm, q_lm, q_ml, q_mle, q_lem, s2_eq, s2_ne, pk_us, pk_un, uN_s, uN_n, if_pos, if_neg, ite_true, ite_false, if_true, if_false, not_true, not_false_iff, Nat.add_zero, Nat.zero_add, inR_t, isIx_t, bI_t, bI_f, neg1, q_clr, pR_isPeak h, pM_isPeak m0 w.1, q1, pM_within, q]
      exact sim_i ⟨rfl, fin0⟩
    · have q4 : ¬ x2 < nI 3 := by
        rw [← n_lt_s (n := 2) (by omega)]
        exact Int32.not_le.mp q2
      unfold f_X6_act f_X7_act f_X1_forget
      simp (disch := omega) only [nm_s, bd_s, bd2_s, bd3_s, bd4_s, q_gt, q_inB, ↓q_m1, l_166, l_172, l_180, l_188, l_189, l_190, l_191, l_192, l_14, l_17, l_18, l_0, l_1, l_2, l_3, l_4, l_5, l_6, l_7, l_8, l_9, l_10, l_11, l_12, l_20, l_21, l_30, l_31, l_32, l_40, l_48, l_50, l_51, l_57, l_60, l_70, l_71, l_99, l_100, l_101, l_160, l_199, l_200, l_999, l_1000, q_tn, q_add, q_mul, q_sub, q_le, q_lt, q_eq, q_31, n_and, n_or, n_xor, q_shl, q_z, q_b0, q_b1, q_bz, q_em, q_me, q_mm, q_lm, q_ml, q_mle, q_lem, s2_eq, s2_ne, pk_us, pk_un, uN_s, uN_n, if_pos, if_neg, ite_true, ite_false, if_true, if_false, not_true, not_false_iff, Nat.add_zero, Nat.zero_add, inR_t, isIx_t, bI_t, bI_f, neg1, q_clr, pR_isPeak h, pM_isPeak m0 w.1, q1, q4, pM_within, q]
      exact sim_i ⟨rfl, fin0⟩
    · have hk := (w.1.2.1 p hp).1
      have h6 : (s2 sm 0 (upd (sm 0) 21 (nI 0))) 6 p = nI (g 2 p) := m.c6 hp
      have key : ∀ {n : Nat} {V : Int32} {LC LM : Nat → Int32}, f_X1_run 45 (stC (s2 sv 0 (upd (upd (upd (upd (sv 0) 0 (nI 0)) 2 (nI (g 1 p))) 3 (nI p)) 4 (nI (g 2 p)))) 0 (sv 2)) (nI (g 1 p)) (nI v) x3 (nI 0) = some (V, stC (s2 sv 0 (upd (upd (upd (upd (sv 0) 0 (nI 0)) 2 (nI (g 1 p))) 3 (nI p)) 4 (nI (g 2 p)))) n LC) → ((if v = 0 then f_X7_seesBy (stM (s2 sm 0 (upd (sm 0) 21 (nI 0))) 0 (sm 23)) (nI p) x3 else if v = 1 then f_X7_mournsBy (stM (s2 sm 0 (upd (sm 0) 21 (nI 0))) 0 (sm 23)) (nI p) x3 else f_X7_leansBy (stM (s2 sm 0 (upd (sm 0) 21 (nI 0))) 0 (sm 23)) (nI p) x3) = some (V, stM (s2 sm 0 (upd (sm 0) 21 (nI 0))) n LM)) → n ≤ 1000 → (∀ i, i < n → LC i = LM i) → SimP (f_X6_act r0 sv (nI p) (nI v) x3) (f_X7_act sm (nI p) (nI v) x3) (fun x y => x.1 = y.1 ∧ Inv B so r0 r1 rw re x.2 y.2 sq) := by
        intro n V LC LM eC eM hn hL
        have e1 : stC (s2 sv 0 (upd (upd (upd (upd (sv 0) 0 (nI 0)) 2 (nI (g 1 p))) 3 (nI p)) 4 (nI (g 2 p)))) 0 (sv 2) = s2 sv 0 (upd (upd (upd (upd (sv 0) 0 (nI 0)) 2 (nI (g 1 p))) 3 (nI p)) 4 (nI (g 2 p))) := stC_0 (b := s2 sv 0 (upd (upd (upd (upd (sv 0) 0 (nI 0)) 2 (nI (g 1 p))) 3 (nI p)) 4 (nI (g 2 p)))) rfl
        have e2 : stM (s2 sm 0 (upd (sm 0) 21 (nI 0))) 0 (sm 23) = s2 sm 0 (upd (sm 0) 21 (nI 0)) := stM_0 (b := s2 sm 0 (upd (sm 0) 21 (nI 0))) rfl
        rw [e1] at eC
        rw [e2] at eM
        have s02 : (s2 sv 0 (upd (upd (upd (upd (sv 0) 0 (nI 0)) 2 (nI (g 1 p))) 3 (nI p)) 4 (nI (g 2 p)))) 0 2 = nI (g 1 p) := rfl
        unfold f_X6_act f_X7_act f_X1_forget
        refine ⟨(V, stC (s2 sv 0 (upd (upd (upd (upd (sv 0) 0 (nI 0)) 2 (nI (g 1 p))) 3 (nI p)) 4 (nI (g 2 p)))) n LC), ?_, (V, stM (s2 sm 0 (upd (sm 0) 21 (nI 0))) n LM), ?_, rfl, act_fin h m w hd hf hs hc hi rfl hn hL⟩
        · simp (disch := omega) only [nm_s, bd_s, bd2_s, bd3_s, bd4_s, q_gt, q_inB, ↓q_m1, l_166, l_172, l_180, l_188, l_189, l_190, l_191, l_192, l_14, l_17, l_18, l_0, l_1, l_2, l_3, l_4, l_5, l_6, l_7, l_8, l_9, l_10, l_11, l_12, l_20, l_21, l_30, l_31, l_32, l_40, l_48, l_50, l_51, l_57, l_60, l_70, l_71, l_99, l_100, l_101, l_160, l_199, l_200, l_999, l_1000, q_tn, q_add, q_mul, q_sub, q_le, q_lt, q_eq, q_31, n_and, n_or, n_xor, q_shl, q_z, q_b0, q_b1, q_bz, q_em, q_me, q_mm, q_lm, q_ml, q_mle, q_lem, s2_eq, s2_ne, pk_us, pk_un, uN_s, uN_n, if_pos, if_neg, ite_true, ite_false, if_true, if_false, not_true, not_false_iff, Nat.add_zero, Nat.zero_add, inR_t, isIx_t, bI_t, bI_f, neg1, q_clr, pR_isPeak h, f_X1_begin, f_X1_own, h.c3, h.c4, s2_s2, s02, eC]
        · rcases (by omega : v = 0 ∨ v = 1 ∨ v = 2) with rfl | rfl | rfl
          · have e3 : f_X7_seesBy (s2 sm 0 (upd (sm 0) 21 (nI 0))) (nI p) x3 = some (V, stM (s2 sm 0 (upd (sm 0) 21 (nI 0))) n LM) := eM
            simp (disch := omega) only [nm_s, bd_s, bd2_s, bd3_s, bd4_s, q_gt, q_inB, ↓q_m1, l_166, l_172, l_180, l_188, l_189, l_190, l_191, l_192, l_14, l_17, l_18, l_0, l_1, l_2, l_3, l_4, l_5, l_6, l_7, l_8, l_9, l_10, l_11, l_12, l_20, l_21, l_30, l_31, l_32, l_40, l_48, l_50, l_51, l_57, l_60, l_70, l_71, l_99, l_100, l_101, l_160, l_199, l_200, l_999, l_1000, q_tn, q_add, q_mul, q_sub, q_le, q_lt, q_eq, q_31, n_and, n_or, n_xor, q_shl, q_z, q_b0, q_b1, q_bz, q_em, q_me, q_mm, q_lm, q_ml, q_mle, q_lem, s2_eq, s2_ne, pk_us, pk_un, uN_s, uN_n, if_pos, if_neg, ite_true, ite_false, if_true, if_false, not_true, not_false_iff, Nat.add_zero, Nat.zero_add, inR_t, isIx_t, bI_t, bI_f, neg1, q_clr, pM_isPeak m0 w.1, pM_within, e3]
          · have e3 : f_X7_mournsBy (s2 sm 0 (upd (sm 0) 21 (nI 0))) (nI p) x3 = some (V, stM (s2 sm 0 (upd (sm 0) 21 (nI 0))) n LM) := eM
            simp (disch := omega) only [nm_s, bd_s, bd2_s, bd3_s, bd4_s, q_gt, q_inB, ↓q_m1, l_166, l_172, l_180, l_188, l_189, l_190, l_191, l_192, l_14, l_17, l_18, l_0, l_1, l_2, l_3, l_4, l_5, l_6, l_7, l_8, l_9, l_10, l_11, l_12, l_20, l_21, l_30, l_31, l_32, l_40, l_48, l_50, l_51, l_57, l_60, l_70, l_71, l_99, l_100, l_101, l_160, l_199, l_200, l_999, l_1000, q_tn, q_add, q_mul, q_sub, q_le, q_lt, q_eq, q_31, n_and, n_or, n_xor, q_shl, q_z, q_b0, q_b1, q_bz, q_em, q_me, q_mm, q_lm, q_ml, q_mle, q_lem, s2_eq, s2_ne, pk_us, pk_un, uN_s, uN_n, if_pos, if_neg, ite_true, ite_false, if_true, if_false, not_true, not_false_iff, Nat.add_zero, Nat.zero_add, inR_t, isIx_t, bI_t, bI_f, neg1, q_clr, pM_isPeak m0 w.1, pM_within, e3]
          · have e3 : f_X7_leansBy (s2 sm 0 (upd (sm 0) 21 (nI 0))) (nI p) x3 = some (V, stM (s2 sm 0 (upd (sm 0) 21 (nI 0))) n LM) := eM
            simp (disch := omega) only [nm_s, bd_s, bd2_s, bd3_s, bd4_s, q_gt, q_inB, ↓q_m1, l_166, l_172, l_180, l_188, l_189, l_190, l_191, l_192, l_14, l_17, l_18, l_0, l_1, l_2, l_3, l_4, l_5, l_6, l_7, l_8, l_9, l_10, l_11, l_12, l_20, l_21, l_30, l_31, l_32, l_40, l_48, l_50, l_51, l_57, l_60, l_70, l_71, l_99, l_100, l_101, l_160, l_199, l_200, l_999, l_1000, q_tn, q_add, q_mul, q_sub, q_le, q_lt, q_eq, q_31, n_and, n_or, n_xor, q_shl, q_z, q_b0, q_b1, q_bz, q_em, q_me, q_mm, q_lm, q_ml, q_mle, q_lem, s2_eq, s2_ne, pk_us, pk_un, uN_s, uN_n, if_pos, if_neg, ite_true, ite_false, if_true, if_false, not_true, not_false_iff, Nat.add_zero, Nat.zero_add, inR_t, isIx_t, bI_t, bI_f, neg1, q_clr, pM_isPeak m0 w.1, pM_within, e3]
      have h5 : (s2 sm 0 (upd (sm 0) 21 (nI 0))) 5 p = nI (g 1 p) := m.c5 hp
      have key2 := @key
      clear key
      generalize hkk : g 1 p = k at key2 h5 hk
      rcases (by omega : k = 0 ∨ k = 1 ∨ k = 2 ∨ k = 3 ∨ k = 4 ∨ k = 5 ∨ k = 6) with rfl | rfl | rfl | rfl | rfl | rfl | rfl
      · rcases (by omega : v = 0 ∨ v = 1 ∨ v = 2) with rfl | rfl | rfl
        · exact key2 (k_0_0_0 (x := x3) (L := sv 2) (t := 0) rfl rfl rfl (d := 0) (e := 44) (by omega) (by omega)) (m_seesBy_0 (x := x3) (L := sm 23) (t := 0) h5 h6 (by omega) (by omega)) (by omega) (ag_s ag_0)
        · exact key2 (k_0_1_0 (x := x3) (L := sv 2) (t := 0) rfl rfl rfl (d := 0) (e := 43) (by omega) (by omega)) (m_mournsBy_0 (x := x3) (L := sm 23) (t := 0) h5 h6 (by omega) (by omega)) (by omega) (ag_s (ag_s ag_0))
        · exact key2 (k_0_2_0 (x := x3) (L := sv 2) (t := 0) rfl rfl rfl (d := 0) (e := 42) (by omega) (by omega)) (m_leansBy_0 (x := x3) (L := sm 23) (t := 0) h5 h6 (by omega) (by omega)) (by omega) (ag_s (ag_s (ag_s (ag_s ag_0))))
      · rcases (by omega : v = 0 ∨ v = 1 ∨ v = 2) with rfl | rfl | rfl
        · exact key2 (k_1_0_1 (x := x3) (L := sv 2) (t := 0) rfl rfl rfl (d := 0) (e := 43) (by omega) (by omega)) (m_seesBy_1 (x := x3) (L := sm 23) (t := 0) h5 h6 (by omega) (by omega)) (by omega) (ag_s (ag_s ag_0))
        · exact key2 (k_1_1_1 (x := x3) (L := sv 2) (t := 0) rfl rfl rfl (d := 0) (e := 42) (by omega) (by omega)) (m_mournsBy_1 (x := x3) (L := sm 23) (t := 0) h5 h6 (by omega) (by omega)) (by omega) (ag_s (ag_s (ag_s ag_0)))
        · exact key2 (k_1_2_1 (x := x3) (L := sv 2) (t := 0) rfl rfl rfl (d := 0) (e := 41) (by omega) (by omega)) (m_leansBy_1 (x := x3) (L := sm 23) (t := 0) h5 h6 (by omega) (by omega)) (by omega) (ag_s (ag_s (ag_s (ag_s (ag_s (ag_s ag_0))))))
      · rcases (by omega : v = 0 ∨ v = 1 ∨ v = 2) with rfl | rfl | rfl
        · exact key2 (k_2_0_2 (x := x3) (L := sv 2) (t := 0) rfl rfl rfl (d := 0) (e := 44) (by omega) (by omega)) (m_seesBy_2 (x := x3) (L := sm 23) (t := 0) h5 h6 (by omega) (by omega)) (by omega) (ag_s ag_0)
        · exact key2 (k_2_1_2 (x := x3) (L := sv 2) (t := 0) rfl rfl rfl (d := 0) (e := 42) (by omega) (by omega)) (m_mournsBy_2 (x := x3) (L := sm 23) (t := 0) h5 h6 (by omega) (by omega)) (by omega) (ag_s (ag_s (ag_s ag_0)))
        · exact key2 (k_2_2_2 (x := x3) (L := sv 2) (t := 0) rfl rfl rfl (d := 0) (e := 41) (by omega) (by omega)) (m_leansBy_2 (x := x3) (L := sm 23) (t := 0) h5 h6 (by omega) (by omega)) (by omega) (ag_s (ag_s (ag_s (ag_s (ag_s ag_0)))))
      · rcases (by omega : v = 0 ∨ v = 1 ∨ v = 2) with rfl | rfl | rfl
        · exact key2 (k_3_0_3 (x := x3) (L := sv 2) (t := 0) rfl rfl rfl (d := 0) (e := 43) (by omega) (by omega)) (m_seesBy_3 (x := x3) (L := sm 23) (t := 0) h5 h6 (by omega) (by omega)) (by omega) (ag_s (ag_s ag_0))
        · exact key2 (k_3_1_3 (x := x3) (L := sv 2) (t := 0) rfl rfl rfl (d := 0) (e := 41) (by omega) (by omega)) (m_mournsBy_3 (x := x3) (L := sm 23) (t := 0) h5 h6 (by omega) (by omega)) (by omega) (ag_s (ag_s (ag_s (ag_s ag_0))))
        · exact key2 (k_3_2_3 (x := x3) (L := sv 2) (t := 0) rfl rfl rfl (d := 0) (e := 40) (by omega) (by omega)) (m_leansBy_3 (x := x3) (L := sm 23) (t := 0) h5 h6 (by omega) (by omega)) (by omega) (ag_s (ag_s (ag_s (ag_s (ag_s (ag_s (ag_s ag_0)))))))
      · rcases (by omega : v = 0 ∨ v = 1 ∨ v = 2) with rfl | rfl | rfl
        · exact key2 (k_4_0_4 (x := x3) (L := sv 2) (t := 0) rfl rfl rfl (d := 0) (e := 43) (by omega) (by omega)) (m_seesBy_4 (x := x3) (L := sm 23) (t := 0) h5 h6 (by omega) (by omega)) (by omega) (ag_s (ag_s ag_0))
        · exact key2 (k_4_1_4 (x := x3) (L := sv 2) (t := 0) rfl rfl rfl (d := 0) (e := 42) (by omega) (by omega)) (m_mournsBy_4 (x := x3) (L := sm 23) (t := 0) h5 h6 (by omega) (by omega)) (by omega) (ag_s (ag_s (ag_s ag_0)))
        · exact key2 (k_4_2_4 (x := x3) (L := sv 2) (t := 0) rfl rfl rfl (d := 0) (e := 40) (by omega) (by omega)) (m_leansBy_4 (x := x3) (L := sm 23) (t := 0) h5 h6 (by omega) (by omega)) (by omega) (ag_s (ag_s (ag_s (ag_s (ag_s (ag_s (ag_s ag_0)))))))
      · rcases (by omega : v = 0 ∨ v = 1 ∨ v = 2) with rfl | rfl | rfl
        · exact key2 (k_5_0_5 (x := x3) (L := sv 2) (t := 0) rfl rfl rfl (d := 0) (e := 44) (by omega) (by omega)) (m_seesBy_5 (x := x3) (L := sm 23) (t := 0) h5 h6 (by omega) (by omega)) (by omega) (ag_s ag_0)
        · exact key2 (k_5_1_5 (x := x3) (L := sv 2) (t := 0) rfl rfl rfl (d := 0) (e := 42) (by omega) (by omega)) (m_mournsBy_5 (x := x3) (L := sm 23) (t := 0) h5 h6 (by omega) (by omega)) (by omega) (ag_s (ag_s (ag_s ag_0)))
        · exact key2 (k_5_2_5 (x := x3) (L := sv 2) (t := 0) rfl rfl rfl (d := 0) (e := 40) (by omega) (by omega)) (m_leansBy_5 (x := x3) (L := sm 23) (t := 0) h5 h6 (by omega) (by omega)) (by omega) (ag_s (ag_s (ag_s (ag_s (ag_s (ag_s ag_0))))))
      · rcases (by omega : v = 0 ∨ v = 1 ∨ v = 2) with rfl | rfl | rfl
        · exact key2 (k_6_0_6 (x := x3) (L := sv 2) (t := 0) rfl rfl rfl (d := 0) (e := 42) (by omega) (by omega)) (m_seesBy_6 (x := x3) (L := sm 23) (t := 0) h5 h6 (by omega) (by omega)) (by omega) (ag_s (ag_s (ag_s ag_0)))
        · exact key2 (k_6_1_6 (x := x3) (L := sv 2) (t := 0) rfl rfl rfl (d := 0) (e := 40) (by omega) (by omega)) (m_mournsBy_6 (x := x3) (L := sm 23) (t := 0) h5 h6 (by omega) (by omega)) (by omega) (ag_s (ag_s (ag_s (ag_s (ag_s ag_0)))))
        · exact key2 (k_6_2_6 (x := x3) (L := sv 2) (t := 0) rfl rfl rfl (d := 0) (e := 38) (by omega) (by omega)) (m_leansBy_6 (x := x3) (L := sm 23) (t := 0) h5 h6 (by omega) (by omega)) (by omega) (ag_s (ag_s (ag_s (ag_s (ag_s (ag_s (ag_s (ag_s (ag_s (ag_s ag_0))))))))))
end AS
