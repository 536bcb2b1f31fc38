-- both sides: order, the reference
theorem m_c (x : Int32) : x < mI ∨ x = mI ∨ ∃ v, v < 2147483648 ∧ x = nI v := by
  by_cases h : x < nI 0
  · have h1 := Int32.lt_iff_toInt_lt.mp h
    rw [n_toInt (by omega)] at h1
    have e : mI.toInt = -1 := rfl
    by_cases h2 : x.toInt = -1
    · exact Or.inr (Or.inl (Int32.toInt_inj.mp (h2.trans e.symm)))
    · refine Or.inl (Int32.lt_iff_toInt_lt.mpr ?_)
      rw [e]
      omega
  · exact Or.inr (Or.inr (nn_of h))
theorem digs_mod : ∀ (k a r : Nat), digs k (a * 10 ^ k + r) = digs k r
  | 0, _, _ => rfl
  | k + 1, a, r => by
    have e : a * 10 ^ (k + 1) + r = (10 * a) * 10 ^ k + r := by rw [Nat.pow_succ, Nat.mul_comm (10 ^ k) 10, ← Nat.mul_assoc, Nat.mul_comm a 10]
    have hX : 0 < 10 ^ k := Nat.pow_pos (by omega)
    rw [digs, digs, e, digs_mod k (10 * a) r, Nat.mul_comm (10 * a) (10 ^ k), Nat.mul_add_div hX, show (10 * a + r / 10 ^ k) % 10 = r / 10 ^ k % 10 by omega]
theorem cnt_drop {f h : Nat → Bool} {p : Nat} (hf : f p = true) (hh : ∀ i, h i = (f i && !decide (p = i))) : ∀ n, p < n → cntF h n + 1 = cntF f n
  | 0, hp => by omega
  | n + 1, hp => by
    by_cases hpn : p = n
    · have hn : h n = false := by rw [hh, decide_eq_true hpn, Bool.not_true, Bool.and_false]
      have hfn : f n = true := by rw [← hpn]; exact hf
      have same : ∀ m, m ≤ p → cntF h m = cntF f m := by
        intro m
        induction m with
        | zero => intro _; rfl
        | succ m ih =>
          intro hm
          have e : h m = f m := by rw [hh, decide_eq_false (by omega), Bool.not_false, Bool.and_true]
          cases hx : f m with
          | true => rw [cntF_s (e.trans hx), cntF_s hx, ih (by omega)]
          | false => rw [cntF_n (e.trans hx), cntF_n hx, ih (by omega)]
      rw [cntF_n hn, cntF_s hfn, same n (by omega)]
    · have e : h n = f n := by rw [hh, decide_eq_false hpn, Bool.not_false, Bool.and_true]
      have ih := cnt_drop hf hh n (by omega)
      cases hx : f n with
      | true => rw [cntF_s (e.trans hx), cntF_s hx]; omega
      | false => rw [cntF_n (e.trans hx), cntF_n hx]; exact ih
theorem cnt_ex {f : Nat → Bool} : ∀ n, 0 < cntF f n → ∃ i, i < n ∧ f i = true
  | 0, h => by cases h
  | n + 1, h => by
    cases hx : f n with
    | true => exact ⟨n, by omega, hx⟩
    | false =>
      rw [cntF_n hx] at h
      obtain ⟨i, h1, h2⟩ := cnt_ex n h
      exact ⟨i, by omega, h2⟩
theorem row_ex : ∀ (k : Nat) (g : AG) (s : Nat), aP g ≤ 10 → k ≤ cntF (stB g) (aP g) → ∃ r, r < 10 ^ k ∧ (rowC g s (digs k r)).isSome = true
  | 0, g, s, _, _ => ⟨0, by decide, rfl⟩
  | k + 1, g, s, hP, h => by
    obtain ⟨p, hp, hs⟩ := cnt_ex (aP g) (show 0 < cntF (stB g) (aP g) by omega)
    have hd := cnt_drop (h := stB (loseA g p)) hs (fun i => st_drop p i) (aP g) hp
    obtain ⟨r, h1, h2⟩ := row_ex k (loseA g p) (s + griefA g p (aY g)) hP (by show k ≤ cntF (stB (loseA g p)) (aP g); omega)
    refine ⟨p * 10 ^ k + r, ?_, ?_⟩
    · have : (p + 1) * 10 ^ k ≤ 10 * 10 ^ k := Nat.mul_le_mul_right _ (by omega)
      rw [Nat.pow_succ, Nat.mul_comm (10 ^ k) 10]
      rw [Nat.succ_mul] at this
      omega
    · have hX : 0 < 10 ^ k := Nat.pow_pos (by omega)
      rw [digs, digs_mod, Nat.mul_comm p (10 ^ k), Nat.mul_add_div hX, Nat.div_eq_of_lt h1, Nat.add_zero, show p % 10 = p by omega, rowC_s hs]
      exact h2
section OM
variable {B : Nat} {g : AG} {s : GS} {sm : GS}
theorem pM_order_L96 {k r : Nat} (hk : k ≤ 3) (hr : r < 1000) (K : GS → Option (Int32 × GS)) (s : GS) : ∀ (n c : Nat) (F : Nat → Int32), c ≤ k → c < n → (∀ e, c ≤ e → e < k → F e = nI (r / 10 ^ (k - 1 - e) % 10)) → ∃ F', f_X7_order_L96 K n (nI (r / 10 ^ (k - c))) (nI c - nI 1) (s2 s 29 F) = K (s2 s 29 F') ∧ ∀ e, e < k → F' e = nI (r / 10 ^ (k - 1 - e) % 10)
  | 0, c, F, _, h, _ => by omega
  | n + 1, c, F, h1, h2, h3 => by
    have hle := Nat.div_le_self r (10 ^ (k - c))
    rw [f_X7_order_L96.eq_2]
    by_cases h0 : c = 0
    · rw [h0, z_m1, if_pos (show mI < (0 : Int32) by decide)]
      exact ⟨F, rfl, fun e he => h3 e (by omega) he⟩
    · have e1 : nI c - nI 1 = nI (c - 1) := q_sub (by omega)
      have e2 : nI (r / 10 ^ (k - c)) / (10 : Int32) = nI (r / 10 ^ (k - c) / 10) := q_div (b := 10) (by omega) (by omega) (by omega)
      have e3 : r / 10 ^ (k - c) / 10 = r / 10 ^ (k - (c - 1)) := by
        rw [Nat.div_div_eq_div_mul, ← Nat.pow_succ, show k - (c - 1) = (k - c).succ by omega]
      have e4 : nI (r / 10 ^ (k - c)) - nI (r / 10 ^ (k - c) / 10) * (10 : Int32) = nI (r / 10 ^ (k - c) % 10) := by
        rw [show (10 : Int32) = nI 10 from rfl, n_mul, n_sub (by omega)]
        congr 1
        omega
      rw [e1, if_neg (show ¬ nI (c - 1) < (0 : Int32) by rw [n_neg (by omega)]; exact id), e2, e4, nm_s, gd_t (n_inB (show c - 1 < 3 by omega) (by omega)), n_tn (by omega), s2_eq, s2_s2, nm_s, nm_s, e3, show nI (c - 1) + (-1 : Int32) = nI (c - 1) - nI 1 from q_am _, nm_s]
      refine pM_order_L96 hk hr K s n (c - 1) _ (by omega) (by omega) (fun e he1 he2 => ?_)
      by_cases hx : e = c - 1
      · rw [hx, pk_us, show k - 1 - (c - 1) = k - c by omega]
      · rw [pk_un hx]
        exact h3 e (by omega) he2
theorem pM_order_L135 {k r : Nat} (hk : k ≤ 3) (K : Int32 → Int32 → GS → Option (Int32 × GS)) : ∀ (j n e s : Nat) (g' : AG) (t : GS), e + j = k → j + 1 < n → RepM g' t → Wf B g' → (∀ e', e' < k → t 29 e' = nI (r / 10 ^ (k - 1 - e') % 10)) → ∃ x7 x8 t', f_X7_order_L135 (nI k) K n (nI s) (1 : Int32) (nI e) t = K x7 x8 t' ∧ ((∃ c, rowC g' s (digs j r) = some c ∧ x7 = nI c ∧ x8 = 1) ∨ (rowC g' s (digs j r) = none ∧ x8 = 0)) ∧ (SmK t t' ∧ t' 0 18 = t 0 18) ∧ (t' 28 = t 28 ∧ t' 29 = t 29 ∧ t' 30 = t 30)
  | 0, n, e, s, g', t, h1, h2, m, w, h3 => by
    obtain ⟨n', rfl⟩ : ∃ n', n = n' + 1 := ⟨n - 1, by omega⟩
    rw [f_X7_order_L135.eq_2, if_pos (show nI k ≤ nI e by rw [n_le (by omega) (by omega)]; omega)]
    exact ⟨_, _, t, rfl, Or.inl ⟨s, rfl, rfl, rfl⟩, ⟨SmK_rfl t, rfl⟩, rfl, rfl, rfl⟩
  | j + 1, n, e, s, g', t, h1, h2, m, w, h3 => by
    obtain ⟨n', rfl⟩ : ∃ n', n = n' + 1 := ⟨n - 1, by omega⟩
    have hP := w.1.1.1
    have ht := h3 e (by omega)
    rw [show k - 1 - e = j by omega] at ht
    have hp10 : r / 10 ^ j % 10 < 10 := Nat.mod_lt _ (by omega)
    rw [f_X7_order_L135.eq_2, if_neg (show ¬ nI k ≤ nI e by rw [n_le (by omega) (by omega)]; omega), if_neg one_nz, gd_t (n_inB (show e < 3 by omega) (by omega)), n_tn (by omega), ht, pM_isThere m w.1, bd_s, isSt_n w.1 (by omega), digs]
    cases hst : stB g' (r / 10 ^ j % 10) with
    | false =>
      rw [if_pos b0z, nm_s]
      obtain ⟨n2, rfl⟩ : ∃ n2, n' = n2 + 1 := ⟨n' - 1, by omega⟩
      refine ⟨nI s, bI false, t, ?_, Or.inr ⟨rowC_n hst, rfl⟩, ⟨SmK_rfl t, rfl⟩, rfl, rfl, rfl⟩
      rw [f_X7_order_L135.eq_2]
      by_cases hc : nI k ≤ nI e + (1 : Int32)
      · rw [if_pos hc]
      · rw [if_neg hc, if_pos b0z]
    | true =>
      have hp := Wf.st_lt w.1 hst
      obtain ⟨⟨v, t2⟩, d1, d2, d3, d4⟩ := pM_loses m w hp hst
      dsimp only at d2 d3 d4
      subst d2
      rw [if_neg b1z, gd_t (n_inB (show e < 3 by omega) (by omega)), d1, bd2_s, n_add, nm_s, nm_s, n_s]
      have e29 : t2 29 = t 29 := d4.1 29 rfl
      obtain ⟨x7, x8, t', f1, f2, f3, f4⟩ := pM_order_L135 hk K j n' (e + 1) (s + griefA g' (r / 10 ^ j % 10) (aY g')) (loseA g' (r / 10 ^ j % 10)) t2 (by omega) (by omega) d3 (loseA_wf w.1 hp) (fun e' he' => by rw [e29]; exact h3 e' he')
      refine ⟨x7, x8, t', f1, ?_, ⟨SmK_trans (SmK_fr d4) f3.1, f3.2.trans (d4.2 18 rfl)⟩, f4.1.trans (d4.1 28 rfl), f4.2.1.trans e29, f4.2.2.trans (d4.1 30 rfl)⟩
      rw [rowC_s hst]
      exact f2
theorem pM_order_L218 {k : Nat} (hk : k ≤ 3) (K : GS → Option (Int32 × GS)) (t : GS) : ∀ (n i : Nat) (F : Nat → Int32), i ≤ k → k - i < n → (∀ e, e < i → F e = t 29 e) → ∃ F', f_X7_order_L218 (nI k) K n (nI i) (s2 t 30 F) = K (s2 t 30 F') ∧ ∀ e, e < k → F' e = t 29 e
  | 0, i, F, _, h, _ => by omega
  | n + 1, i, F, h1, h2, h3 => by
    rw [f_X7_order_L218.eq_2]
    by_cases hi : i < k
    · have e29 : (s2 t 30 F) 29 i = t 29 i := rfl
      rw [if_neg (show ¬ nI k ≤ nI i by rw [n_le (by omega) (by omega)]; omega), gd_t (n_inB (show i < 3 by omega) (by omega)), n_tn (by omega), e29, nm_s, gd_t (n_inB (show i < 3 by omega) (by omega)), s2_eq, s2_s2, nm_s, nm_s, n_s]
      refine pM_order_L218 hk K t n (i + 1) _ (by omega) (by omega) (fun e he => ?_)
      by_cases hx : e = i
      · rw [hx, pk_us]
      · rw [pk_un hx]; exact h3 e (by omega)
    · rw [if_pos (show nI k ≤ nI i by rw [n_le (by omega) (by omega)]; omega)]
      exact ⟨F, rfl, fun e he => h3 e (by omega)⟩
def BM (g : AG) (k : Nat) (t : GS) (S : Option Nat) : Prop := ∀ q, S = some q → ∀ e, e < k → t 30 e = nI (q / 10 ^ (k - 1 - e) % 10)
theorem pM_order_L80 {k M : Nat} (hk : k ≤ 3) (hM : M ≤ 1000) (w : Wf B g) {f : Nat → Int32} (hb : ∀ t, t 28 = f → SmK s t → ∃ u, f_X7_again 28 t = some u ∧ RepM g u ∧ SmK s u ∧ u 0 18 = s 0 18 ∧ (∀ k, rgC k = false → u k = t k)) (K : Int32 → GS → Option (Int32 × GS)) : ∀ (n r : Nat) (t : GS), r ≤ M → M - r < n → RepM g t → SmK s t → t 0 18 = s 0 18 → t 28 = f → BM g k t (ordS g k r) → ∃ u, f_X7_order_L80 (nI k) (nI M) K n (selV (rowV g k) mI (ordS g k r)) (nI r) t = K (selV (rowV g k) mI (ordS g k M)) u ∧ RepM g u ∧ SmK s u ∧ u 0 18 = s 0 18 ∧ BM g k u (ordS g k M)
  | 0, r, t, _, h, _, _, _, _, _ => by omega
  | n + 1, r, t, h1, h2, m, hk1, h18, h28, hbm => by
    rw [f_X7_order_L80.eq_2]
    by_cases hr : r < M
    · rw [if_neg (show ¬ nI M ≤ nI r by rw [n_le (by omega) (by omega)]; omega), nm_s]
      have next : ∀ u, RepM g u → SmK s u → u 0 18 = s 0 18 → u 28 = f → BM g k u (ordS g k (r + 1)) → ∃ u', f_X7_order_L80 (nI k) (nI M) K n (selV (rowV g k) mI (ordS g k (r + 1))) (nI (r + 1)) u = K (selV (rowV g k) mI (ordS g k M)) u' ∧ RepM g u' ∧ SmK s u' ∧ u' 0 18 = s 0 18 ∧ BM g k u' (ordS g k M) := fun u a1 a2 a3 a4 a5 => pM_order_L80 hk hM w hb K n (r + 1) u (by omega) (by omega) a1 a2 a3 a4 a5
      obtain ⟨F, e1, hF⟩ := pM_order_L96 (k := k) (r := r) hk (by omega) (fun sm_45 => f_X7_order_L135 (nI k) (fun x7_68 x8_69 sm_70 => f_X7_order_J186 (nI k) (selV (rowV g k) mI (ordS g k r)) (nI r) x7_68 x8_69 sm_70 (f_X7_order_L80 (nI k) (nI M) K n)) FU (0 : Int32) (1 : Int32) (0 : Int32) sm_45) t FU k (t 29) (Nat.le_refl _) (by rw [FU_def]; omega) (fun e a b => by omega)
      rw [Nat.sub_self, Nat.pow_zero, Nat.div_one, s2_id] at e1
      have e1' : f_X7_order_L96 (fun sm_45 => f_X7_order_L135 (nI k) (fun x7_68 x8_69 sm_70 => f_X7_order_J186 (nI k) (selV (rowV g k) mI (ordS g k r)) (nI r) x7_68 x8_69 sm_70 (f_X7_order_L80 (nI k) (nI M) K n)) FU (0 : Int32) (1 : Int32) (0 : Int32) sm_45) FU (nI r) (nI k - (1 : Int32)) t = _ := e1
      rw [e1']
      have m2 : RepM g (s2 t 29 F) := by
        have e (j : Nat) (h1 : j < 18 := by omega) : s2 t 29 F j = t j := s2_ne (by omega)
        unfold RepM
        rw [e 0, e 5, e 6, e 7, e 8, e 9, e 10, e 11, e 13, e 14, e 16, e 17]
        exact m
      obtain ⟨x7, x8, t2, e2, e3, ⟨e4, e5⟩, e6, e7, e8⟩ := pM_order_L135 (B := B) (k := k) (r := r) hk (fun x7_68 x8_69 sm_70 => f_X7_order_J186 (nI k) (selV (rowV g k) mI (ordS g k r)) (nI r) x7_68 x8_69 sm_70 (f_X7_order_L80 (nI k) (nI M) K n)) k FU 0 0 g (s2 t 29 F) (by omega) (by rw [FU_def]; omega) m2 w (fun e' he' => by rw [s2_eq]; exact hF e' he')
      have e2' : f_X7_order_L135 (nI k) (fun x7_68 x8_69 sm_70 => f_X7_order_J186 (nI k) (selV (rowV g k) mI (ordS g k r)) (nI r) x7_68 x8_69 sm_70 (f_X7_order_L80 (nI k) (nI M) K n)) FU (0 : Int32) (1 : Int32) (0 : Int32) (s2 t 29 F) = _ := e2
      rw [e2']
      have hk2 : SmK s t2 := SmK_trans hk1 (SmK_trans (SmK_s2 (by omega)) e4)
      have h28' : t2 28 = f := e6.trans h28
      obtain ⟨u, u0, u1, u2, u3, u4⟩ := hb t2 h28' hk2
      have u28 : u 28 = f := (u4 28 rfl).trans h28'
      have u29 : ∀ e, e < k → u 29 e = nI (r / 10 ^ (k - 1 - e) % 10) := fun e he => by
        rw [u4 29 rfl, e7, s2_eq]; exact hF e he
      have u30 : u 30 = t 30 := (u4 30 rfl).trans e8
      have hbu : BM g k u (ordS g k r) := fun q hq e he => by rw [u30]; exact hbm q hq e he
      unfold f_X7_order_J186
      rw [u0, bd_s]
      rcases e3 with ⟨c, c1, c2, c3⟩ | ⟨c1, c3⟩
      · obtain ⟨r1, r2⟩ := row_is c1
        have hcle := rowV_le w hk r
        rw [r2] at hcle
        have j212 : ordS g k (r + 1) = some r → ∃ u', f_X7_order_J212 (nI k) (nI r) (nI c) u (f_X7_order_L80 (nI k) (nI M) K n) = K (selV (rowV g k) mI (ordS g k M)) u' ∧ RepM g u' ∧ SmK s u' ∧ u' 0 18 = s 0 18 ∧ BM g k u' (ordS g k M) := fun hS => by
          obtain ⟨F3, g1, g2⟩ := pM_order_L218 (k := k) hk (fun sm_103 => nmd (nI r + (1 : Int32)) (fun x5_104 => (f_X7_order_L80 (nI k) (nI M) K n) (nI c) x5_104 sm_103)) u FU 0 (u 30) (Nat.zero_le _) (by rw [FU_def]; omega) (fun e he => by omega)
          rw [s2_id] at g1
          have g1' : f_X7_order_J212 (nI k) (nI r) (nI c) u (f_X7_order_L80 (nI k) (nI M) K n) = _ := g1
          rw [g1', nm_s, n_s]
          have mm : RepM g (s2 u 30 F3) := by
            have e (j : Nat) (h1 : j < 18 := by omega) : s2 u 30 F3 j = u j := s2_ne (by omega)
            unfold RepM
            rw [e 0, e 5, e 6, e 7, e 8, e 9, e 10, e 11, e 13, e 14, e 16, e 17]
            exact u1
          have nx := next (s2 u 30 F3) mm (SmK_trans u2 (SmK_s2 (by omega))) u3 u28 (fun q hq e he => by
            rw [hS] at hq
            have : r = q := Option.some.inj hq
            subst this
            rw [s2_eq, g2 e he]
            exact u29 e he)
          have ev : selV (rowV g k) mI (some r) = nI c := by
            show nI (rowV g k r) = nI c
            rw [r2]
          rw [hS, ev] at nx
          exact nx
        rw [c2, c3, if_neg one_nz]
        cases hS : ordS g k r with
        | none =>
          have hS2 : ordS g k (r + 1) = some r := sel_0 r1 hS
          rw [if_pos (show selV (rowV g k) mI none < (0 : Int32) from (by decide : mI < (0 : Int32)))]
          exact j212 hS2
        | some q =>
          have hq := rowV_le w hk q
          have es : selV (rowV g k) mI (some q) = nI (rowV g k q) := rfl
          rw [if_neg (show ¬ selV (rowV g k) mI (some q) < (0 : Int32) by rw [es, n_neg (by omega)]; exact id)]
          by_cases hc : c < rowV g k q
          · have hS2 : ordS g k (r + 1) = some r := sel_y r1 hS (decide_eq_true (by omega))
            rw [if_pos (show nI c < selV (rowV g k) mI (some q) by rw [es, n_lt (by omega) (by omega)]; exact hc)]
            exact j212 hS2
          · have hS2 : ordS g k (r + 1) = some q := sel_n hS (decide_eq_false (by omega))
            rw [if_neg (show ¬ nI c < selV (rowV g k) mI (some q) by rw [es, n_lt (by omega) (by omega)]; exact hc), nm_s, n_s]
            have nx := next u u1 u2 u3 u28 (by rw [hS2, ← hS]; exact hbu)
            rw [hS2] at nx
            exact nx
      · have hS2 : ordS g k (r + 1) = ordS g k r := sel_no (row_no c1)
        rw [c3, if_pos zz32, nm_s, n_s]
        have nx := next u u1 u2 u3 u28 (by rw [hS2]; exact hbu)
        rw [hS2] at nx
        exact nx
    · have hrM : r = M := by omega
      subst hrM
      rw [if_pos (show nI r ≤ nI r by rw [n_le (by omega) (by omega)]; omega)]
      exact ⟨t, rfl, m, hk1, h18, hbm⟩
end OM
section OS
variable {B : Nat} {so r0 r1 : GS} {rw : Nat → GS} {re : Nat → Nat → Int64} {sv sm : GS} {sq : Nat → Int64}
theorem sim_order (I : Inv B so r0 r1 rw re sv sm sq) (sd : GS) (x1 x2 : Int32) : SimP (f_X6_order so r0 sd x1 x2) (f_X7_order sm x1 x2) (fun x y => x.1 = y.1 ∧ Inv B x.2.1 r0 r1 rw re sv y.2 sq) := by
  have I0 := I
  obtain ⟨g, ⟨h, m, w, hd⟩, hf, hs, hc, ht, hi⟩ := I
  have hP := w.1.1.1
  have hB := w.1.1.2.2.2
  have j24 : f_X6_order_J24 so sd = some (-nI 6, soR so 6, sd) := by
    unfold f_X6_order_J24
    rw [show (6 : Int32) = nI 6 from rfl, r6_ _ (by omega), bd2_s]
  have j41 : f_X6_order_J41 so sd = some (-nI 5, soR so 5, sd) := by
    unfold f_X6_order_J41
    rw [show (5 : Int32) = nI 5 from rfl, r6_ _ (by omega), bd2_s]
  have j17 : f_X7_order_J17 sm = some (-nI 6, smR sm 6) := by
    unfold f_X7_order_J17
    rw [show (-6 : Int32) = -nI 6 from rfl, r7_ _ (by omega), bd2_s]
  have no5 : f_X7_no sm (-5 : Int32) = some (-nI 5, smR sm 5) := r7_ (c := 5) _ (by omega)
  have hwk : ∀ x, f_X7_within x (1 : Int32) (3 : Int32) = some (bI (inR x 1 3)) := fun x => pM_within x 1 3
  unfold f_X6_order f_X7_order
  rw [hwk, bd_s]
  rcases in3 x1 1 3 (by omega) (by omega) with ⟨q1, q⟩ | ⟨q1, q2, q⟩ | ⟨k, hk1, hk3, rfl, q⟩
  · rw [q, if_pos b0z, if_pos (show x1 < (1 : Int32) from q1), j24, j17]
    exact sim_i ⟨rfl, Inv_ref I0 (by omega)⟩
  · rw [q, if_pos b0z, if_neg (show ¬ x1 < (1 : Int32) from q1), if_pos (show (3 : Int32) < x1 from Int32.not_le.mp q2), j24, j17]
    exact sim_i ⟨rfl, Inv_ref I0 (by omega)⟩
  · have hcl := cntF_le (stB g) (aP g)
    have hbc : f_J6_bitCount_0f7a4 (nI (aW g)) = some (nI (cntF (stB g) (aP g))) := pc_of w.1.1.2.2.2.2.2 hP
    rw [q, if_neg b1z, if_neg (show ¬ nI k < (1 : Int32) by rw [n_lt1 (by omega)]; omega), if_neg (show ¬ (3 : Int32) < nI k by rw [n_3lt (by omega)]; omega), h.c1, hbc, bd_s, pM_standing m w.1, bd_s, ifc (n_le (by omega) (by omega)), ifc (n_le (by omega) (by omega))]
    by_cases hks : k ≤ cntF (stB g) (aP g)
    · rw [if_pos hks, if_pos hks]
      have hw2 : f_X7_within x2 (-1 : Int32) (nI k - (1 : Int32)) = some (if x2 < mI then 0 else if nI (k - 1) < x2 then 0 else 1) := by
        unfold f_X7_within
        rw [show nI k - (1 : Int32) = nI (k - 1) from n_sub hk1]
        by_cases a1 : x2 < mI
        · rw [if_pos a1, if_pos (show x2 < (-1 : Int32) from a1)]
        · rw [if_neg a1, if_neg (show ¬ x2 < (-1 : Int32) from a1)]
          by_cases a2 : nI (k - 1) < x2
          · rw [if_pos a2, if_pos a2]
          · rw [if_neg a2, if_neg a2]
      rw [hw2, bd_s]
      obtain ⟨sd', e6, hBS⟩ := pD_find h w hk3 sd
      obtain ⟨f, d1, d2, d3⟩ := tryM (K := 28) (Or.inr (Or.inl rfl)) m w.1
      obtain ⟨ro, ro1, ro2⟩ := row_ex k g 0 hP hks
      obtain ⟨q0, hq0⟩ : ∃ q0, ordS g k (10 ^ k) = some q0 := by
        cases hx : ordS g k (10 ^ k) with
        | some q0 => exact ⟨q0, rfl⟩
        | none =>
          have := sel_none hx ro ro1
          have h3 : rowOk g k ro = true := ro2
          rw [h3] at this
          cases this
      obtain ⟨b1, b2, b3⟩ := hBS.2 q0 hq0
      have hM1 : 10 ^ k ≤ 1000 := Nat.le_trans (Nat.pow_le_pow_right (by omega) hk3) (by decide)
      have ref : ∃ u, f_X7_order_J67 (nI k) x2 (-1 : Int32) sm (nI (10 ^ k)) = (if x2 = (-1 : Int32) then some (nI (rowV g k q0), u) else gd (inB x2 3) (some (u 30 x2.toNatClampNeg, u))) ∧ RepM g u ∧ SmK sm u ∧ u 0 18 = sm 0 18 ∧ BM g k u (ordS g k (10 ^ k)) := by
        obtain ⟨u, e7, u1, u2, u3, u4⟩ := pM_order_L80 (s := sm) (f := f) hk3 hM1 w (fun t a b => d3 t a b) (fun x3_107 sm_108 => if x2 = (-1 : Int32) then (some (x3_107, sm_108)) else (gd (inB x2 3) (some ((sm_108 30 x2.toNatClampNeg), sm_108)))) FU 0 (s2 sm 28 f) (Nat.zero_le _) (by rw [FU_def]; omega) d2 (SmK_s2 (by omega)) rfl (s2_eq sm 28 f) (fun q hq => by cases hq)
        refine ⟨u, ?_, u1, u2, u3, u4⟩
        unfold f_X7_order_J67
        rw [d1, bd_s]
        rw [hq0] at e7
        exact e7
      obtain ⟨u, e7, u1, u2, u3, u4⟩ := ref
      have disp : (if nI k = (1 : Int32) then (f_X7_order_J67 (nI k) x2 (-1 : Int32) sm (10 : Int32)) else (if nI k = (2 : Int32) then (f_X7_order_J67 (nI k) x2 (-1 : Int32) sm (100 : Int32)) else (f_X7_order_J67 (nI k) x2 (-1 : Int32) sm (1000 : Int32)))) = f_X7_order_J67 (nI k) x2 (-1 : Int32) sm (nI (10 ^ k)) := by
        rcases (by omega : k = 1 ∨ k = 2 ∨ k = 3) with rfl | rfl | rfl
        · rw [if_pos (by decide)]; rfl
        · rw [if_neg (by decide), if_pos (by decide)]; rfl
        · rw [if_neg (by decide), if_neg (by decide)]; rfl
      have fin := Inv_scr I0 h w hs u1 u2 (hd.trans u3.symm)
      rcases m_c x2 with a1 | a1 | ⟨i, hi31, rfl⟩
      · rw [if_pos (show x2 < (-1 : Int32) from a1), j41, if_pos a1, if_pos zz32, no5, bd2_s]
        exact sim_i ⟨rfl, Inv_ref I0 (by omega)⟩
      · subst a1
        rw [if_neg (show ¬ mI < (-1 : Int32) by decide), if_pos (show mI < nI k by rw [q_ml (by omega)]; trivial), e6, bd_s, if_pos (show mI = (-1 : Int32) from rfl), if_neg (show ¬ mI < mI by decide), if_neg (show ¬ nI (k - 1) < mI by rw [q_lm (by omega)]; exact id), if_neg one_nz, disp, e7, if_pos (show mI = (-1 : Int32) from rfl), b2]
        exact sim_i ⟨rfl, fin⟩
      · have hm1 : ¬ nI i = (-1 : Int32) := by rw [n_m1 hi31]; exact id
        rw [if_neg (show ¬ nI i < (-1 : Int32) by rw [q_m1, q_lm hi31]; exact id), if_neg (show ¬ nI i < mI by rw [q_lm hi31]; exact id), ifc (n_lt hi31 (by omega))]
        by_cases hik : i < k
        · rw [if_pos hik, e6, bd_s, if_neg hm1, gd_t (n_inB (show i < 3 by omega) (by omega)), n_tn hi31, if_neg (show ¬ nI (k - 1) < nI i by rw [n_lt (by omega) (by omega)]; omega), if_neg one_nz, disp, e7, if_neg hm1, gd_t (n_inB (show i < 3 by omega) (by omega)), n_tn hi31, b3 i hik, u4 q0 hq0 i hik]
          exact sim_i ⟨rfl, fin⟩
        · rw [if_neg hik, j41, if_pos (show nI (k - 1) < nI i by rw [n_lt (by omega) (by omega)]; omega), if_pos zz32, no5, bd2_s]
          exact sim_i ⟨rfl, Inv_ref I0 (by omega)⟩
    · rw [if_neg hks, if_neg hks, j24, j17]
      exact sim_i ⟨rfl, Inv_ref I0 (by omega)⟩
end OS
