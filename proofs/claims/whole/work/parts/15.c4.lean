set_option maxHeartbeats 4000000 in
set_option maxRecDepth 100000 in
theorem c_X4_begin (l : Launch) (γ : Gm) (ae : Nat → Nat) (tx : Value) (la : Nat) {se : GS} {se_z : GS} (hf : f_X4_begin se = some se_z) : Kt l γ yX4_begin (Cond.code yX4_begin cX4_begin 2 none :: U) 0 0 [.ref (ae 0), .ref (la)] (wE γ ae tx se) none (wE γ ae (.ref la) se_z) := by
  refine Kt.of (by decide) rfl (Nat.le_of_ble_eq_true rfl) rfl ?_
  intro p e s m below meth c A ls C0 hP hD0 hS hl
  obtain ⟨hx, hb, hml, hown, hts, hr, hlocks, hK, hE, hA⟩ := id C0
  have hU : ∀ w ∈ U, w.before _ s = true := fun w h => hts w (List.mem_cons_of_mem _ h)
  have hD : ∀ (tx : Value) (se : GS), va_D A (wE γ ae tx se) := fun _ _ => hD0.fst rfl
  have hl : lv_has ls 2 [(0, .ref (ae 0)), (1, .ref (la))] := hl
  unfold f_X4_begin at hf
  refine lv_aload_n hx hb dX4_begin_0 rfl (lv_at hl 0 rfl) ?_
  refine lv_aload_n hx hb dX4_begin_1 rfl (lv_at hl 1 rfl) ?_
  refine va_put (D := γ.1) (ci := 4) (v := .ref (la)) (ty := tyX4 0) (C := RX4) (T := TX4) (N := 5) hx hb hU uin4 tyX4 tyX4_ok nmX4 hown hK hP (hD _ _) hS 0 rfl rfl 0 (by decide) (hU _ U204) (fun _ h9 => h9) rfl (by decide +kernel) rfl rfl (Nat.le_of_ble_eq_true rfl) dX4_begin_2 (fun H locs hP _ hS => ?_)
  replace hP : va_P γ.1 vwCl (wE γ ae (.ref la) se) H := hP
  refine lv_aload_n hx hb dX4_begin_5 rfl (lv_at hl 0 rfl) ?_
  refine lv_iconst (v := 0) hx hb dX4_begin_6 (by decide) ?_
  refine va_put (D := γ.1) (ci := 4) (v := .int (0 : Int32)) (ty := .int) (C := RX4) (T := TX4) (N := 5) hx hb hU uin4 tyX4 tyX4_ok nmX4 hown hK hP (hD _ _) hS 0 rfl rfl 1 (by decide) (hU _ U205) (fun _ h9 => h9) rfl (by decide +kernel) rfl rfl (Nat.le_of_ble_eq_true rfl) dX4_begin_7 (fun H locs hP _ hS => ?_)
  obtain ⟨se_1, e_se_1, hf⟩ := nm_of hf
  replace hP : va_P γ.1 vwCl (wE γ ae (.ref la) se_1) H := by rw [e_se_1]; exact hP
  refine lv_aload_n hx hb dX4_begin_10 rfl (lv_at hl 0 rfl) ?_
  refine lv_iconst (v := -1) hx hb dX4_begin_11 (by decide) ?_
  refine va_put (D := γ.1) (ci := 4) (v := .int (-1 : Int32)) (ty := .int) (C := RX4) (T := TX4) (N := 5) hx hb hU uin4 tyX4 tyX4_ok nmX4 hown hK hP (hD _ _) hS 0 rfl rfl 2 (by decide) (hU _ U206) (fun _ h9 => h9) rfl (by decide +kernel) rfl rfl (Nat.le_of_ble_eq_true rfl) dX4_begin_12 (fun H locs hP _ hS => ?_)
  obtain ⟨se_2, e_se_2, hf⟩ := nm_of hf
  replace hP : va_P γ.1 vwCl (wE γ ae (.ref la) se_2) H := by rw [e_se_2]; exact hP
  obtain rfl := Option.some.inj hf
  exact kt_vret C0 hP hS dX4_begin_15
set_option maxHeartbeats 4000000 in
set_option maxRecDepth 100000 in
theorem c_X4_elementHere (l : Launch) (γ : Gm) (ae : Nat → Nat) (aw : Nat → Nat) {se : GS} {sw : GS} {sl : Nat → Int64} {rv : Int32} (hf : f_X4_elementHere se sw sl = some rv) : Kt l γ yX4_elementHere (Cond.code yX4_elementHere cX4_elementHere 1 (some .int) :: U) 2 42 [.ref (ae 0)] (wE γ ae (.ref (aw 0)) se ++ wW γ aw sw sl) (some (.int rv)) (wE γ ae (.ref (aw 0)) se ++ wW γ aw sw sl) := by
  refine Kt.of (by decide) rfl (Nat.le_of_ble_eq_true rfl) rfl ?_
  intro p e s m below meth c A ls C0 hP hD0 hS hl
  obtain ⟨hx, hb, hml, hown, hts, hr, hlocks, hK, hE, hA⟩ := id C0
  have hU : ∀ w ∈ U, w.before _ s = true := fun w h => hts w (List.mem_cons_of_mem _ h)
  have hD : ∀ (se : GS) (sw : GS) (sl : Nat → Int64), va_D A (wE γ ae (.ref (aw 0)) se ++ wW γ aw sw sl) := fun _ _ _ => hD0.fst rfl
  have hl : lv_has ls 1 [(0, .ref (ae 0))] := hl
  unfold f_X4_elementHere at hf
  refine lv_aload_n hx hb dX4_elementHere_0 rfl (lv_at hl 0 rfl) ?_
  refine va_get (D := γ.1) (ci := 4) (v := .ref (aw 0)) (C := RX4) (T := TX4) (N := 5) hx hb hU uin4 hown hK hP 0 rfl rfl 0 (by decide) (hU _ U204) (fun _ h9 => h9) rfl dX4_elementHere_1 ?_
  refine lv_ifnonnull (tgt := 11) hx hb dX4_elementHere_4 (by decide) ?_
  refine lv_aload_n hx hb dX4_elementHere_11 rfl (lv_at hl 0 rfl) ?_
  refine va_get (D := γ.1) (ci := 4) (v := .ref (aw 0)) (C := RX4) (T := TX4) (N := 5) hx hb hU uin4 hown hK hP 0 rfl rfl 0 (by decide) (hU _ U204) (fun _ h9 => h9) rfl dX4_elementHere_12 ?_
  refine lv_aload_n hx hb dX4_elementHere_15 rfl (lv_at hl 0 rfl) ?_
  refine va_get (D := γ.1) (ci := 4) (v := .int (se 0 1)) (C := RX4) (T := TX4) (N := 5) hx hb hU uin4 hown hK hP 0 rfl rfl 1 (by decide) (hU _ U205) (fun _ h9 => h9) rfl dX4_elementHere_16 ?_
  obtain ⟨r_1, hg_2, hf⟩ := bd_of hf
  refine kt_VF (As := [.int (se 0 1)]) (rest := []) (st1 := [.int r_1]) (b := aw 0) (wc' := wE γ ae (.ref (aw 0)) se ++ wW γ aw sw sl) C0 (c_X5_intAt l γ aw hg_2) (cxV (nA := 1) hts goodU U570 U571 U572 U90 U573 (by decide +kernel) ⟨Nat.le_of_ble_eq_true rfl, Nat.le_of_ble_eq_true rfl⟩) hP (hD _ _ _) hS hl dX4_elementHere_19 focA2 0 5 rfl rfl rfl rfl (Nat.le_of_ble_eq_true rfl) rfl rfl (fun H locs hP hS => ?_)
  obtain rfl := Option.some.inj hf
  exact kt_iret C0 hP hS dX4_elementHere_22
set_option maxHeartbeats 4000000 in
set_option maxRecDepth 100000 in
theorem c_X4_lettersOf (l : Launch) (γ : Gm) {x1 : Int32} {rv : Nat} (hf : f_X4_lettersOf x1 = some rv) : Kt l γ yX4_lettersOf (Cond.code yX4_lettersOf cX4_lettersOf 1 (some (.object "java/lang/String")) :: U) 0 0 [.int x1] ([]) (some (.ref (sad γ rv))) ([]) := by
  refine Kt.of (by decide) rfl (Nat.le_of_ble_eq_true rfl) rfl ?_
  intro p e s m below meth c A ls C0 hP hD0 hS hl
  obtain ⟨hx, hb, hml, hown, hts, hr, hlocks, hK, hE, hA⟩ := id C0
  have hU : ∀ w ∈ U, w.before _ s = true := fun w h => hts w (List.mem_cons_of_mem _ h)
  have hD := hD0
  have hl : lv_has ls 1 [(0, .int x1)] := hl
  unfold f_X4_lettersOf at hf
  refine lv_iload_n hx hb dX4_lettersOf_0 rfl (lv_at hl 0 rfl) ?_
  by_cases c_1 : x1 = (0 : Int32)
  · replace hf := ite_p c_1 hf
    refine lv_tableIn (off := 35) (tgt := 36) hx hb dX4_lettersOf_1 (by rw [c_1]; decide) (by rw [c_1]; decide) (by rw [c_1]; rfl) (by decide) ?_
    refine va_ldcS hx hb hown (hE.2.2.2.2.1 0 (by decide)).1 dX4_lettersOf_36 ?_
    obtain rfl := Option.some.inj hf
    exact kt_aret C0 hP hS dX4_lettersOf_38
  · replace hf := ite_n c_1 hf
    by_cases c_2 : x1 = (1 : Int32)
    · replace hf := ite_p c_2 hf
      refine lv_tableIn (off := 38) (tgt := 39) hx hb dX4_lettersOf_1 (by rw [c_2]; decide) (by rw [c_2]; decide) (by rw [c_2]; rfl) (by decide) ?_
      refine va_ldcS hx hb hown (hE.2.2.2.2.1 1 (by decide)).1 dX4_lettersOf_39 ?_
      obtain rfl := Option.some.inj hf
      exact kt_aret C0 hP hS dX4_lettersOf_41
    · replace hf := ite_n c_2 hf
      by_cases c_3 : x1 = (2 : Int32)
      · replace hf := ite_p c_3 hf
        refine lv_tableIn (off := 41) (tgt := 42) hx hb dX4_lettersOf_1 (by rw [c_3]; decide) (by rw [c_3]; decide) (by rw [c_3]; rfl) (by decide) ?_
        refine va_ldcS hx hb hown (hE.2.2.2.2.1 2 (by decide)).1 dX4_lettersOf_42 ?_
        obtain rfl := Option.some.inj hf
        exact kt_aret C0 hP hS dX4_lettersOf_44
      · replace hf := ite_n c_3 hf
        by_cases c_4 : x1 = (3 : Int32)
        · replace hf := ite_p c_4 hf
          refine lv_tableIn (off := 44) (tgt := 45) hx hb dX4_lettersOf_1 (by rw [c_4]; decide) (by rw [c_4]; decide) (by rw [c_4]; rfl) (by decide) ?_
          refine va_ldcS hx hb hown (hE.2.2.2.2.1 3 (by decide)).1 dX4_lettersOf_45 ?_
          obtain rfl := Option.some.inj hf
          exact kt_aret C0 hP hS dX4_lettersOf_47
        · replace hf := ite_n c_4 hf
          by_cases c_5 : x1 = (4 : Int32)
          · replace hf := ite_p c_5 hf
            refine lv_tableIn (off := 47) (tgt := 48) hx hb dX4_lettersOf_1 (by rw [c_5]; decide) (by rw [c_5]; decide) (by rw [c_5]; rfl) (by decide) ?_
            refine va_ldcS hx hb hown (hE.2.2.2.2.1 4 (by decide)).1 dX4_lettersOf_48 ?_
            obtain rfl := Option.some.inj hf
            exact kt_aret C0 hP hS dX4_lettersOf_50
          · replace hf := ite_n c_5 hf
            refine lv_tableOut (tgt := 51) hx hb dX4_lettersOf_1 (by have := lv_neT c_1 (a := 0) (by decide); have := lv_neT c_2 (a := 1) (by decide); have := lv_neT c_3 (a := 2) (by decide); have := lv_neT c_4 (a := 3) (by decide); have := lv_neT c_5 (a := 4) (by decide); omega) (by decide) ?_
            refine va_ldcS hx hb hown (hE.2.2.2.2.1 5 (by decide)).1 dX4_lettersOf_51 ?_
            obtain rfl := Option.some.inj hf
            exact kt_aret C0 hP hS dX4_lettersOf_53
set_option maxHeartbeats 4000000 in
set_option maxRecDepth 100000 in
theorem c_X4_wordHere (l : Launch) (γ : Gm) (ae : Nat → Nat) (aw : Nat → Nat) {se : GS} {sw : GS} {sl : Nat → Int64} {rv : Int32} (hf : f_X4_wordHere se sw sl = some rv) : Kt l γ yX4_wordHere (Cond.code yX4_wordHere cX4_wordHere 2 (some .int) :: U) 5 121 [.ref (ae 0)] (wE γ ae (.ref (aw 0)) se ++ wW γ aw sw sl) (some (.int rv)) (wE γ ae (.ref (aw 0)) se ++ wW γ aw sw sl) := by
  refine Kt.of (by decide) rfl (Nat.le_of_ble_eq_true rfl) rfl ?_
  intro p e s m below meth c A ls C0 hP hD0 hS hl
  obtain ⟨hx, hb, hml, hown, hts, hr, hlocks, hK, hE, hA⟩ := id C0
  have hU : ∀ w ∈ U, w.before _ s = true := fun w h => hts w (List.mem_cons_of_mem _ h)
  have hD : ∀ (se : GS) (sw : GS) (sl : Nat → Int64), va_D A (wE γ ae (.ref (aw 0)) se ++ wW γ aw sw sl) := fun _ _ _ => hD0.fst rfl
  have hl : lv_has ls 2 [(0, .ref (ae 0))] := hl
  have L2 : ∀ (n : Nat) (x1_1 : Int32) (H : Heap) (locs : List Loc) (ls : Array Slot), f_X4_wordHere_L2 se sw sl n x1_1 = some rv → va_P γ.1 vwCl (wE γ ae (.ref (aw 0)) se ++ wW γ aw sw sl) H → va_S A s.heap H locs → lv_has ls 2 [(0, .ref (ae 0)), (1, .int x1_1)] → W p l e (rmK 5 121) s m ([.ref (ae 0)] : List Value).toArray below meth c H locs 0 0 (MQ below (KQ γ A (some (.int rv)) (wE γ ae (.ref (aw 0)) se ++ wW γ aw sw sl)) ([.ref (ae 0)] : List Value).toArray s 0 0 A) (F0 m 2 ls []) := by
    intro n
    induction n with
    | zero =>
      intro x1_1 H locs ls hf
      have hf : none = some _ := hf
      cases hf
    | succ n ih =>
      intro x1_1 H locs ls hf hP hS hl
      rw [f_X4_wordHere_L2.eq_2] at hf
      refine lv_iload_n hx hb dX4_wordHere_2 rfl (lv_at hl 1 rfl) ?_
      refine lv_bipush (v := 6) hx hb dX4_wordHere_3 (by decide) ?_
      refine lv_icmp_ge (tgt := 31) hx hb dX4_wordHere_5 (by decide) (fun c_2 => ?_) (fun c_2 => ?_)
      · replace hf := ite_p c_2 hf
        refine lv_iconst (v := -1) hx hb dX4_wordHere_31 (by decide) ?_
        obtain rfl := Option.some.inj hf
        exact kt_iret C0 hP hS dX4_wordHere_32
      · replace hf := ite_n c_2 hf
        refine lv_aload_n hx hb dX4_wordHere_8 rfl (lv_at hl 0 rfl) ?_
        obtain ⟨r_3, hg_4, hf⟩ := bd_of hf
        refine kt_V0 (As := []) (rest := []) (st1 := [.int r_3]) (b := ae 0) C0 (c_X4_elementHere l γ ae aw hg_4) (cxV (nA := 0) hts goodU U566 U568 U13 U86 U569 (by decide +kernel) ⟨Nat.le_of_ble_eq_true rfl, Nat.le_of_ble_eq_true rfl⟩) hP (hD _ _ _) hS hl dX4_wordHere_9 0 4 rfl rfl rfl rfl (Nat.le_of_ble_eq_true rfl) rfl rfl (fun H locs hP hS => ?_)
        refine lv_iload_n hx hb dX4_wordHere_12 rfl (lv_at hl 1 rfl) ?_
        obtain ⟨si_5, hg_6, hf⟩ := bd_of hf
        refine kt_SF (As := [.int x1_1]) (rest := [.int r_3]) (st1 := [.ref (sad γ si_5), .int r_3]) (wc' := wE γ ae (.ref (aw 0)) se ++ wW γ aw sw sl) C0 (c_X4_lettersOf l γ hg_6) (cxS (nA := 1) hts goodU U574 U575 U86 U576 (by decide +kernel) ⟨Nat.le_of_ble_eq_true rfl, Nat.le_of_ble_eq_true rfl⟩) hP (hD _ _ _) hS hl dX4_wordHere_13 foc_nil rfl (Nat.le_of_ble_eq_true rfl) rfl rfl (fun H locs hP hS => ?_)
        refine lv_iconst (v := 0) hx hb dX4_wordHere_16 (by decide) ?_
        obtain ⟨g_7, hf⟩ := gd_of hf
        obtain ⟨g_8, hf⟩ := gd_of hf
        refine kt_str (As := [.int (0 : Int32)]) (rest := [.int r_3]) (st1 := [.int (tCh si_5 (0 : Int32)), .int r_3]) (i := si_5) C0 (c_strchr l γ (of_decide_eq_true g_7) g_8) (cxV (nA := 1) hts goodU U583 U584 U585 U94 U586 (by decide +kernel) ⟨Nat.le_of_ble_eq_true rfl, Nat.le_of_ble_eq_true rfl⟩) (of_decide_eq_true g_7) hP (hD _ _ _) hS hl dX4_wordHere_17 rfl (Nat.le_of_ble_eq_true rfl) rfl rfl (fun H locs hP hS => ?_)
        refine lv_icmp_ne (tgt := 25) hx hb dX4_wordHere_20 (by decide) (fun c_9 => ?_) (fun c_9 => ?_)
        · replace hf := ite_n c_9 hf
          obtain ⟨x1_10, e_x1_10⟩ : ∃ y : Int32, y = x1_1 + (1 : Int32) := ⟨_, rfl⟩
          replace hf := nm_y hf e_x1_10
          refine lv_iinc (v := x1_10) (lv' := [(1, .int x1_10), (0, .ref (ae 0))]) hx hb dX4_wordHere_25 hl (k := 1) rfl (by rw [e_x1_10]; rfl) (by decide) rfl (fun ls hl => ?_)
          refine lv_goto (tgt := 2) hx hb dX4_wordHere_28 (by decide) ?_
          exact ih x1_10 _ _ _ hf hP hS (lv_sub hl [1, 0] rfl)
        · replace hf := ite_p c_9 hf
          refine lv_iload_n hx hb dX4_wordHere_23 rfl (lv_at hl 1 rfl) ?_
          obtain rfl := Option.some.inj hf
          exact kt_iret C0 hP hS dX4_wordHere_24
  unfold f_X4_wordHere at hf
  refine lv_iconst (v := 0) hx hb dX4_wordHere_0 (by decide) ?_
  refine lv_istore_n (lv' := [(1, .int (0 : Int32)), (0, .ref (ae 0))]) hx hb dX4_wordHere_1 rfl hl (by decide) rfl (fun ls hl => ?_)
  exact L2 FU (0 : Int32) _ _ _ hf hP hS (lv_sub hl [1, 0] rfl)
set_option maxHeartbeats 4000000 in
set_option maxRecDepth 100000 in
theorem c_X4_faultAt (l : Launch) (γ : Gm) (ae : Nat → Nat) (tx : Value) {se : GS} {x1 : Int32} {rv : Int32} {se_z : GS} (hf : f_X4_faultAt se x1 = some (rv, se_z)) : Kt l γ yX4_faultAt (Cond.code yX4_faultAt cX4_faultAt 2 (some .boolean) :: U) 0 0 [.ref (ae 0), .int x1] (wE γ ae tx se) (some (.int rv)) (wE γ ae tx se_z) := by
  refine Kt.of (by decide) rfl (Nat.le_of_ble_eq_true rfl) rfl ?_
  intro p e s m below meth c A ls C0 hP hD0 hS hl
  obtain ⟨hx, hb, hml, hown, hts, hr, hlocks, hK, hE, hA⟩ := id C0
  have hU : ∀ w ∈ U, w.before _ s = true := fun w h => hts w (List.mem_cons_of_mem _ h)
  have hD : ∀ (se : GS), va_D A (wE γ ae tx se) := fun _ => hD0.fst rfl
  have hl : lv_has ls 2 [(0, .ref (ae 0)), (1, .int x1)] := hl
  unfold f_X4_faultAt at hf
  refine lv_aload_n hx hb dX4_faultAt_0 rfl (lv_at hl 0 rfl) ?_
  refine lv_iload_n hx hb dX4_faultAt_1 rfl (lv_at hl 1 rfl) ?_
  refine va_put (D := γ.1) (ci := 4) (v := .int x1) (ty := .int) (C := RX4) (T := TX4) (N := 5) hx hb hU uin4 tyX4 tyX4_ok nmX4 hown hK hP (hD _) hS 0 rfl rfl 2 (by decide) (hU _ U206) (fun _ h9 => h9) rfl (by decide +kernel) rfl rfl (Nat.le_of_ble_eq_true rfl) dX4_faultAt_2 (fun H locs hP _ hS => ?_)
  obtain ⟨se_1, e_se_1, hf⟩ := nm_of hf
  replace hP : va_P γ.1 vwCl (wE γ ae tx se_1) H := by rw [e_se_1]; exact hP
  refine lv_iconst (v := 0) hx hb dX4_faultAt_5 (by decide) ?_
  obtain ⟨rfl, rfl⟩ := rt2 hf
  exact kt_zret C0 (by decide) hP hS dX4_faultAt_6
set_option maxHeartbeats 4000000 in
set_option maxRecDepth 100000 in
theorem c_X4_passLetter (l : Launch) (γ : Gm) (ae : Nat → Nat) (aw : Nat → Nat) {se : GS} {sw : GS} {sl : Nat → Int64} {x1 : Int32} {rv : Int32} {se_z : GS} (hf : f_X4_passLetter se sw sl x1 = some (rv, se_z)) : Kt l γ yX4_passLetter (Cond.code yX4_passLetter cX4_passLetter 2 (some .boolean) :: U) 3 62 [.ref (ae 0), .int x1] (wE γ ae (.ref (aw 0)) se ++ wW γ aw sw sl) (some (.int rv)) (wE γ ae (.ref (aw 0)) se_z ++ wW γ aw sw sl) := by
  refine Kt.of (by decide) rfl (Nat.le_of_ble_eq_true rfl) rfl ?_
  intro p e s m below meth c A ls C0 hP hD0 hS hl
  obtain ⟨hx, hb, hml, hown, hts, hr, hlocks, hK, hE, hA⟩ := id C0
  have hU : ∀ w ∈ U, w.before _ s = true := fun w h => hts w (List.mem_cons_of_mem _ h)
  have hD : ∀ (se : GS) (sw : GS) (sl : Nat → Int64), va_D A (wE γ ae (.ref (aw 0)) se ++ wW γ aw sw sl) := fun _ _ _ => hD0.fst rfl
  have hl : lv_has ls 2 [(0, .ref (ae 0)), (1, .int x1)] := hl
  unfold f_X4_passLetter at hf
  refine lv_aload_n hx hb dX4_passLetter_0 rfl (lv_at hl 0 rfl) ?_
  obtain ⟨r_1, hg_2, hf⟩ := bd_of hf
  refine kt_V0 (As := []) (rest := []) (st1 := [.int r_1]) (b := ae 0) C0 (c_X4_elementHere l γ ae aw hg_2) (cxV (nA := 0) hts goodU U566 U568 U13 U86 U569 (by decide +kernel) ⟨Nat.le_of_ble_eq_true rfl, Nat.le_of_ble_eq_true rfl⟩) hP (hD _ _ _) hS hl dX4_passLetter_1 0 4 rfl rfl rfl rfl (Nat.le_of_ble_eq_true rfl) rfl rfl (fun H locs hP hS => ?_)
  refine lv_iload_n hx hb dX4_passLetter_4 rfl (lv_at hl 1 rfl) ?_
  refine lv_icmp_eq (tgt := 17) hx hb dX4_passLetter_5 (by decide) (fun c_3 => ?_) (fun c_3 => ?_)
  · replace hf := ite_p c_3 hf
    refine lv_aload_n hx hb dX4_passLetter_17 rfl (lv_at hl 0 rfl) ?_
    refine lv_dup hx hb dX4_passLetter_18 rfl ?_
    refine va_get (D := γ.1) (ci := 4) (v := .int (se 0 1)) (C := RX4) (T := TX4) (N := 5) hx hb hU uin4 hown hK hP 0 rfl rfl 1 (by decide) (hU _ U205) (fun _ h9 => h9) rfl dX4_passLetter_19 ?_
    refine lv_iconst (v := 1) hx hb dX4_passLetter_22 (by decide) ?_
    refine lv_iadd hx hb dX4_passLetter_23 ?_
    refine lv_topi (fun u_4 e_u_4 => ?_)
    replace hf := nm_y hf e_u_4
    refine va_put (D := γ.1) (ci := 4) (v := .int u_4) (ty := .int) (C := RX4) (T := TX4) (N := 5) hx hb hU uin4 tyX4 tyX4_ok nmX4 hown hK hP (hD _ _ _) hS 0 rfl rfl 1 (by decide) (hU _ U205) (fun _ h9 => h9) rfl (by decide +kernel) rfl rfl (Nat.le_of_ble_eq_true rfl) dX4_passLetter_24 (fun H locs hP _ hS => ?_)
    obtain ⟨se_5, e_se_5, hf⟩ := nm_of hf
    replace hP : va_P γ.1 vwCl (wE γ ae (.ref (aw 0)) se_5 ++ wW γ aw sw sl) H := by rw [e_se_5]; exact hP
    refine lv_iconst (v := 1) hx hb dX4_passLetter_27 (by decide) ?_
    obtain ⟨rfl, rfl⟩ := rt2 hf
    exact kt_zret C0 (by decide) hP hS dX4_passLetter_28
  · replace hf := ite_n c_3 hf
    refine lv_aload_n hx hb dX4_passLetter_8 rfl (lv_at hl 0 rfl) ?_
    refine lv_aload_n hx hb dX4_passLetter_9 rfl (lv_at hl 0 rfl) ?_
    refine va_get (D := γ.1) (ci := 4) (v := .int (se 0 1)) (C := RX4) (T := TX4) (N := 5) hx hb hU uin4 hown hK hP 0 rfl rfl 1 (by decide) (hU _ U205) (fun _ h9 => h9) rfl dX4_passLetter_10 ?_
    obtain ⟨r_6, se_7, hg_8, hf⟩ := bd2_of hf
    refine kt_VF (As := [.int (se 0 1)]) (rest := []) (st1 := [.int r_6]) (b := ae 0) (wc' := wE γ ae (.ref (aw 0)) se_7 ++ wW γ aw sw sl) C0 (c_X4_faultAt l γ ae (.ref (aw 0)) hg_8) (cxV (nA := 1) hts goodU U623 U625 U14 U86 U626 (by decide +kernel) ⟨Nat.le_of_ble_eq_true rfl, Nat.le_of_ble_eq_true rfl⟩) hP (hD _ _ _) hS hl dX4_passLetter_13 focA1 0 4 rfl rfl rfl rfl (Nat.le_of_ble_eq_true rfl) rfl rfl (fun H locs hP hS => ?_)
    obtain ⟨g_9, hf⟩ := gd_of hf
    obtain ⟨rfl, rfl⟩ := rt2 hf
    exact kt_zret C0 (isZ_nar g_9) hP hS dX4_passLetter_16
set_option maxHeartbeats 4000000 in
set_option maxRecDepth 100000 in
theorem c_X4_hasRoom (l : Launch) (γ : Gm) (ae : Nat → Nat) (ar : Nat → Nat) (tx : Value) {se : GS} {sr : GS} {rv : Int32} (hf : f_X4_hasRoom se sr = some rv) : Kt l γ yX4_hasRoom (Cond.code yX4_hasRoom cX4_hasRoom 2 (some .boolean) :: U) 0 0 [.ref (ae 0), .ref (ar 0)] (wE γ ae tx se ++ wR γ ar sr) (some (.int rv)) (wE γ ae tx se ++ wR γ ar sr) := by
  refine Kt.of (by decide) rfl (Nat.le_of_ble_eq_true rfl) rfl ?_
  intro p e s m below meth c A ls C0 hP hD0 hS hl
  obtain ⟨hx, hb, hml, hown, hts, hr, hlocks, hK, hE, hA⟩ := id C0
  have hU : ∀ w ∈ U, w.before _ s = true := fun w h => hts w (List.mem_cons_of_mem _ h)
  have hD : ∀ (se : GS) (sr : GS), va_D A (wE γ ae tx se ++ wR γ ar sr) := fun _ _ => hD0.fst rfl
  have hl : lv_has ls 2 [(0, .ref (ae 0)), (1, .ref (ar 0))] := hl
  unfold f_X4_hasRoom at hf
  refine lv_aload_n hx hb dX4_hasRoom_0 rfl (lv_at hl 0 rfl) ?_
  refine va_get (D := γ.1) (ci := 4) (v := .int (se 0 3)) (C := RX4) (T := TX4) (N := 5) hx hb hU uin4 hown hK hP 0 rfl rfl 3 (by decide) (hU _ U208) (fun _ h9 => h9) rfl dX4_hasRoom_1 ?_
  by_cases c_1 : (se 0 3) = (0 : Int32)
  · replace hf := ite_p c_1 hf
    refine lv_tableIn (off := 28) (tgt := 32) hx hb dX4_hasRoom_4 (by rw [c_1]; decide) (by rw [c_1]; decide) (by rw [c_1]; rfl) (by decide) ?_
    refine lv_aload_n hx hb dX4_hasRoom_32 rfl (lv_at hl 1 rfl) ?_
    refine va_getN (D := γ.1) (ci := 3) (v := .int (sr 0 0)) (C := RX3) (T := TX3) (N := 18) hx hb hU uin3 hown hK hP 2 rfl rfl 0 (by decide) (va_Nw.use rfl (hE.2.2.2.2.2.1 _ NW3)) (fun _ h9 => h9) rfl dX4_hasRoom_33 ?_
    refine lv_bipush (v := 10) hx hb dX4_hasRoom_36 (by decide) ?_
    refine lv_icmp_ge (tgt := 45) hx hb dX4_hasRoom_38 (by decide) (fun c_2 => ?_) (fun c_2 => ?_)
    · replace hf := ite_p c_2 hf
      refine lv_iconst (v := 0) hx hb dX4_hasRoom_45 (by decide) ?_
      obtain rfl := Option.some.inj hf
      exact kt_zret C0 (by decide) hP hS dX4_hasRoom_46
    · replace hf := ite_n c_2 hf
      refine lv_iconst (v := 1) hx hb dX4_hasRoom_41 (by decide) ?_
      refine lv_goto (tgt := 46) hx hb dX4_hasRoom_42 (by decide) ?_
      obtain rfl := Option.some.inj hf
      exact kt_zret C0 (by decide) hP hS dX4_hasRoom_46
  · replace hf := ite_n c_1 hf
    by_cases c_3 : (se 0 3) = (1 : Int32)
    · replace hf := ite_p c_3 hf
      refine lv_tableIn (off := 43) (tgt := 47) hx hb dX4_hasRoom_4 (by rw [c_3]; decide) (by rw [c_3]; decide) (by rw [c_3]; rfl) (by decide) ?_
      refine lv_aload_n hx hb dX4_hasRoom_47 rfl (lv_at hl 1 rfl) ?_
      refine va_getN (D := γ.1) (ci := 3) (v := .int (sr 0 10)) (C := RX3) (T := TX3) (N := 18) hx hb hU uin3 hown hK hP 2 rfl rfl 10 (by decide) (va_Nw.use rfl (hE.2.2.2.2.2.1 _ NW16)) (fun _ h9 => h9) rfl dX4_hasRoom_48 ?_
      refine lv_bipush (v := 6) hx hb dX4_hasRoom_51 (by decide) ?_
      refine lv_icmp_ge (tgt := 60) hx hb dX4_hasRoom_53 (by decide) (fun c_4 => ?_) (fun c_4 => ?_)
      · replace hf := ite_p c_4 hf
        refine lv_iconst (v := 0) hx hb dX4_hasRoom_60 (by decide) ?_
        obtain rfl := Option.some.inj hf
        exact kt_zret C0 (by decide) hP hS dX4_hasRoom_61
      · replace hf := ite_n c_4 hf
        refine lv_iconst (v := 1) hx hb dX4_hasRoom_56 (by decide) ?_
        refine lv_goto (tgt := 61) hx hb dX4_hasRoom_57 (by decide) ?_
        obtain rfl := Option.some.inj hf
        exact kt_zret C0 (by decide) hP hS dX4_hasRoom_61
    · replace hf := ite_n c_3 hf
      by_cases c_5 : (se 0 3) = (2 : Int32)
      · replace hf := ite_p c_5 hf
        refine lv_tableIn (off := 58) (tgt := 62) hx hb dX4_hasRoom_4 (by rw [c_5]; decide) (by rw [c_5]; decide) (by rw [c_5]; rfl) (by decide) ?_
        refine lv_aload_n hx hb dX4_hasRoom_62 rfl (lv_at hl 1 rfl) ?_
        refine va_getN (D := γ.1) (ci := 3) (v := .int (sr 0 13)) (C := RX3) (T := TX3) (N := 18) hx hb hU uin3 hown hK hP 2 rfl rfl 13 (by decide) (va_Nw.use rfl (hE.2.2.2.2.2.1 _ NW19)) (fun _ h9 => h9) rfl dX4_hasRoom_63 ?_
        refine lv_bipush (v := 8) hx hb dX4_hasRoom_66 (by decide) ?_
        refine lv_icmp_ge (tgt := 75) hx hb dX4_hasRoom_68 (by decide) (fun c_6 => ?_) (fun c_6 => ?_)
        · replace hf := ite_p c_6 hf
          refine lv_iconst (v := 0) hx hb dX4_hasRoom_75 (by decide) ?_
          obtain rfl := Option.some.inj hf
          exact kt_zret C0 (by decide) hP hS dX4_hasRoom_76
        · replace hf := ite_n c_6 hf
          refine lv_iconst (v := 1) hx hb dX4_hasRoom_71 (by decide) ?_
          refine lv_goto (tgt := 76) hx hb dX4_hasRoom_72 (by decide) ?_
          obtain rfl := Option.some.inj hf
          exact kt_zret C0 (by decide) hP hS dX4_hasRoom_76
      · replace hf := ite_n c_5 hf
        refine lv_tableOut (tgt := 77) hx hb dX4_hasRoom_4 (by have := lv_neT c_1 (a := 0) (by decide); have := lv_neT c_3 (a := 1) (by decide); have := lv_neT c_5 (a := 2) (by decide); omega) (by decide) ?_
        refine lv_iconst (v := 1) hx hb dX4_hasRoom_77 (by decide) ?_
        obtain rfl := Option.some.inj hf
        exact kt_zret C0 (by decide) hP hS dX4_hasRoom_78
set_option maxHeartbeats 4000000 in
set_option maxRecDepth 100000 in
theorem c_X4_digitHere (l : Launch) (γ : Gm) (ae : Nat → Nat) (aw : Nat → Nat) {se : GS} {sw : GS} {sl : Nat → Int64} {rv : Int32} (hf : f_X4_digitHere se sw sl = some rv) : Kt l γ yX4_digitHere (Cond.code yX4_digitHere cX4_digitHere 2 (some .int) :: U) 3 62 [.ref (ae 0)] (wE γ ae (.ref (aw 0)) se ++ wW γ aw sw sl) (some (.int rv)) (wE γ ae (.ref (aw 0)) se ++ wW γ aw sw sl) := by
  refine Kt.of (by decide) rfl (Nat.le_of_ble_eq_true rfl) rfl ?_
  intro p e s m below meth c A ls C0 hP hD0 hS hl
  obtain ⟨hx, hb, hml, hown, hts, hr, hlocks, hK, hE, hA⟩ := id C0
  have hU : ∀ w ∈ U, w.before _ s = true := fun w h => hts w (List.mem_cons_of_mem _ h)
  have hD : ∀ (se : GS) (sw : GS) (sl : Nat → Int64), va_D A (wE γ ae (.ref (aw 0)) se ++ wW γ aw sw sl) := fun _ _ _ => hD0.fst rfl
  have hl : lv_has ls 2 [(0, .ref (ae 0))] := hl
  unfold f_X4_digitHere at hf
  refine lv_aload_n hx hb dX4_digitHere_0 rfl (lv_at hl 0 rfl) ?_
  obtain ⟨r_1, hg_2, hf⟩ := bd_of hf
  refine kt_V0 (As := []) (rest := []) (st1 := [.int r_1]) (b := ae 0) C0 (c_X4_elementHere l γ ae aw hg_2) (cxV (nA := 0) hts goodU U566 U568 U13 U86 U569 (by decide +kernel) ⟨Nat.le_of_ble_eq_true rfl, Nat.le_of_ble_eq_true rfl⟩) hP (hD _ _ _) hS hl dX4_digitHere_1 0 4 rfl rfl rfl rfl (Nat.le_of_ble_eq_true rfl) rfl rfl (fun H locs hP hS => ?_)
  refine lv_bipush (v := 48) hx hb dX4_digitHere_4 (by decide) ?_
  refine lv_isub hx hb dX4_digitHere_6 ?_
  refine lv_topi (fun u_3 e_u_3 => ?_)
  replace hf := nm_y hf e_u_3
  refine lv_istore_n (lv' := [(1, .int u_3), (0, .ref (ae 0))]) hx hb dX4_digitHere_7 rfl hl (by decide) rfl (fun ls hl => ?_)
  refine lv_iload_n hx hb dX4_digitHere_8 rfl (lv_at hl 0 rfl) ?_
  refine lv_if_lt (tgt := 22) hx hb dX4_digitHere_9 (by decide) (fun c_4 => ?_) (fun c_4 => ?_)
  · replace hf := ite_p c_4 hf
    refine lv_iconst (v := -1) hx hb dX4_digitHere_22 (by decide) ?_
    obtain rfl := Option.some.inj hf
    exact kt_iret C0 hP hS dX4_digitHere_23
  · replace hf := ite_n c_4 hf
    refine lv_iload_n hx hb dX4_digitHere_12 rfl (lv_at hl 0 rfl) ?_
    refine lv_bipush (v := 9) hx hb dX4_digitHere_13 (by decide) ?_
    refine lv_icmp_gt (tgt := 22) hx hb dX4_digitHere_15 (by decide) (fun c_5 => ?_) (fun c_5 => ?_)
    · replace hf := ite_p c_5 hf
      refine lv_iconst (v := -1) hx hb dX4_digitHere_22 (by decide) ?_
      obtain rfl := Option.some.inj hf
      exact kt_iret C0 hP hS dX4_digitHere_23
    · replace hf := ite_n c_5 hf
      refine lv_iload_n hx hb dX4_digitHere_18 rfl (lv_at hl 0 rfl) ?_
      refine lv_goto (tgt := 23) hx hb dX4_digitHere_19 (by decide) ?_
      obtain rfl := Option.some.inj hf
      exact kt_iret C0 hP hS dX4_digitHere_23
set_option maxHeartbeats 4000000 in
set_option maxRecDepth 100000 in
theorem c_X6_isA (l : Launch) (γ : Gm) {x1 : Int32} {rv : Int32} (hf : f_X6_isA x1 = some rv) : Kt l γ yX6_isA (Cond.code yX6_isA cX6_isA 1 (some .boolean) :: U) 0 0 [.int x1] ([]) (some (.int rv)) ([]) := by
  refine Kt.of (by decide) rfl (Nat.le_of_ble_eq_true rfl) rfl ?_
  intro p e s m below meth c A ls C0 hP hD0 hS hl
  obtain ⟨hx, hb, hml, hown, hts, hr, hlocks, hK, hE, hA⟩ := id C0
  have hU : ∀ w ∈ U, w.before _ s = true := fun w h => hts w (List.mem_cons_of_mem _ h)
  have hD := hD0
  have hl : lv_has ls 1 [(0, .int x1)] := hl
  unfold f_X6_isA at hf
  refine lv_iload_n hx hb dX6_isA_0 rfl (lv_at hl 0 rfl) ?_
  refine lv_if_lt (tgt := 14) hx hb dX6_isA_1 (by decide) (fun c_1 => ?_) (fun c_1 => ?_)
  · replace hf := ite_p c_1 hf
    refine lv_iconst (v := 0) hx hb dX6_isA_14 (by decide) ?_
    obtain rfl := Option.some.inj hf
    exact kt_zret C0 (by decide) hP hS dX6_isA_15
  · replace hf := ite_n c_1 hf
    refine lv_iload_n hx hb dX6_isA_4 rfl (lv_at hl 0 rfl) ?_
    refine lv_bipush (v := 9) hx hb dX6_isA_5 (by decide) ?_
    refine lv_icmp_gt (tgt := 14) hx hb dX6_isA_7 (by decide) (fun c_2 => ?_) (fun c_2 => ?_)
    · replace hf := ite_p c_2 hf
      refine lv_iconst (v := 0) hx hb dX6_isA_14 (by decide) ?_
      obtain rfl := Option.some.inj hf
      exact kt_zret C0 (by decide) hP hS dX6_isA_15
    · replace hf := ite_n c_2 hf
      refine lv_iconst (v := 1) hx hb dX6_isA_10 (by decide) ?_
      refine lv_goto (tgt := 15) hx hb dX6_isA_11 (by decide) ?_
      obtain rfl := Option.some.inj hf
      exact kt_zret C0 (by decide) hP hS dX6_isA_15
set_option maxHeartbeats 4000000 in
set_option maxRecDepth 100000 in
theorem c_X6_isPlace (l : Launch) (γ : Gm) {x1 : Int32} {rv : Int32} (hf : f_X6_isPlace x1 = some rv) : Kt l γ yX6_isPlace (Cond.code yX6_isPlace cX6_isPlace 1 (some .boolean) :: U) 0 0 [.int x1] ([]) (some (.int rv)) ([]) := by
  refine Kt.of (by decide) rfl (Nat.le_of_ble_eq_true rfl) rfl ?_
  intro p e s m below meth c A ls C0 hP hD0 hS hl
  obtain ⟨hx, hb, hml, hown, hts, hr, hlocks, hK, hE, hA⟩ := id C0
  have hU : ∀ w ∈ U, w.before _ s = true := fun w h => hts w (List.mem_cons_of_mem _ h)
  have hD := hD0
  have hl : lv_has ls 1 [(0, .int x1)] := hl
  unfold f_X6_isPlace at hf
  refine lv_iload_n hx hb dX6_isPlace_0 rfl (lv_at hl 0 rfl) ?_
  refine lv_if_lt (tgt := 14) hx hb dX6_isPlace_1 (by decide) (fun c_1 => ?_) (fun c_1 => ?_)
  · replace hf := ite_p c_1 hf
    refine lv_iconst (v := 0) hx hb dX6_isPlace_14 (by decide) ?_
    obtain rfl := Option.some.inj hf
    exact kt_zret C0 (by decide) hP hS dX6_isPlace_15
  · replace hf := ite_n c_1 hf
    refine lv_iload_n hx hb dX6_isPlace_4 rfl (lv_at hl 0 rfl) ?_
    refine lv_bipush (v := 100) hx hb dX6_isPlace_5 (by decide) ?_
    refine lv_icmp_ge (tgt := 14) hx hb dX6_isPlace_7 (by decide) (fun c_2 => ?_) (fun c_2 => ?_)
    · replace hf := ite_p c_2 hf
      refine lv_iconst (v := 0) hx hb dX6_isPlace_14 (by decide) ?_
      obtain rfl := Option.some.inj hf
      exact kt_zret C0 (by decide) hP hS dX6_isPlace_15
    · replace hf := ite_n c_2 hf
      refine lv_iconst (v := 1) hx hb dX6_isPlace_10 (by decide) ?_
      refine lv_goto (tgt := 15) hx hb dX6_isPlace_11 (by decide) ?_
      obtain rfl := Option.some.inj hf
      exact kt_zret C0 (by decide) hP hS dX6_isPlace_15
set_option maxHeartbeats 4000000 in
set_option maxRecDepth 100000 in
theorem c_X6_isHeight (l : Launch) (γ : Gm) {x1 : Int32} {rv : Int32} (hf : f_X6_isHeight x1 = some rv) : Kt l γ yX6_isHeight (Cond.code yX6_isHeight cX6_isHeight 1 (some .boolean) :: U) 0 0 [.int x1] ([]) (some (.int rv)) ([]) := by
  refine Kt.of (by decide) rfl (Nat.le_of_ble_eq_true rfl) rfl ?_
  intro p e s m below meth c A ls C0 hP hD0 hS hl
  obtain ⟨hx, hb, hml, hown, hts, hr, hlocks, hK, hE, hA⟩ := id C0
  have hU : ∀ w ∈ U, w.before _ s = true := fun w h => hts w (List.mem_cons_of_mem _ h)
  have hD := hD0
  have hl : lv_has ls 1 [(0, .int x1)] := hl
  unfold f_X6_isHeight at hf
  refine lv_iload_n hx hb dX6_isHeight_0 rfl (lv_at hl 0 rfl) ?_
  refine lv_iconst (v := 1) hx hb dX6_isHeight_1 (by decide) ?_
  refine lv_icmp_lt (tgt := 16) hx hb dX6_isHeight_2 (by decide) (fun c_1 => ?_) (fun c_1 => ?_)
  · replace hf := ite_p c_1 hf
    refine lv_iconst (v := 0) hx hb dX6_isHeight_16 (by decide) ?_
    obtain rfl := Option.some.inj hf
    exact kt_zret C0 (by decide) hP hS dX6_isHeight_17
  · replace hf := ite_n c_1 hf
    refine lv_iload_n hx hb dX6_isHeight_5 rfl (lv_at hl 0 rfl) ?_
    refine lv_sipush (v := 999) hx hb dX6_isHeight_6 (by decide) ?_
    refine lv_icmp_gt (tgt := 16) hx hb dX6_isHeight_9 (by decide) (fun c_2 => ?_) (fun c_2 => ?_)
    · replace hf := ite_p c_2 hf
      refine lv_iconst (v := 0) hx hb dX6_isHeight_16 (by decide) ?_
      obtain rfl := Option.some.inj hf
      exact kt_zret C0 (by decide) hP hS dX6_isHeight_17
    · replace hf := ite_n c_2 hf
      refine lv_iconst (v := 1) hx hb dX6_isHeight_12 (by decide) ?_
      refine lv_goto (tgt := 17) hx hb dX6_isHeight_13 (by decide) ?_
      obtain rfl := Option.some.inj hf
      exact kt_zret C0 (by decide) hP hS dX6_isHeight_17
set_option maxHeartbeats 4000000 in
set_option maxRecDepth 100000 in
theorem c_X4_mayBeOfPeak (l : Launch) (γ : Gm) (ar : Nat → Nat) {sr : GS} {x2 : Int32} {x3 : Int32} {rv : Int32} (hf : f_X4_mayBeOfPeak sr x2 x3 = some rv) : Kt l γ yX4_mayBeOfPeak (Cond.code yX4_mayBeOfPeak cX4_mayBeOfPeak 3 (some .boolean) :: U) 1 22 [.ref (ar 0), .int x2, .int x3] (wR γ ar sr) (some (.int rv)) (wR γ ar sr) := by
  refine Kt.of (by decide) rfl (Nat.le_of_ble_eq_true rfl) rfl ?_
  intro p e s m below meth c A ls C0 hP hD0 hS hl
  obtain ⟨hx, hb, hml, hown, hts, hr, hlocks, hK, hE, hA⟩ := id C0
  have hU : ∀ w ∈ U, w.before _ s = true := fun w h => hts w (List.mem_cons_of_mem _ h)
  have hD : ∀ (sr : GS), va_D A (wR γ ar sr) := fun _ => hD0.fst rfl
  have hl : lv_has ls 3 [(0, .ref (ar 0)), (1, .int x2), (2, .int x3)] := hl
  unfold f_X4_mayBeOfPeak at hf
  refine lv_iload_n hx hb dX4_mayBeOfPeak_0 rfl (lv_at hl 1 rfl) ?_
  by_cases c_1 : x2 = (0 : Int32)
  · replace hf := ite_p c_1 hf
    refine lv_tableIn (off := 27) (tgt := 28) hx hb dX4_mayBeOfPeak_1 (by rw [c_1]; decide) (by rw [c_1]; decide) (by rw [c_1]; rfl) (by decide) ?_
    refine lv_iload_n hx hb dX4_mayBeOfPeak_28 rfl (lv_at hl 2 rfl) ?_
    obtain ⟨r_2, hg_3, hf⟩ := bd_of hf
    refine kt_SN (As := [.int x3]) (rest := []) (st1 := [.int r_2]) C0 (c_X6_isKind l γ hg_3) (cxN (nA := 1) hts goodU hE NW42 U416 U84 U417 (by decide +kernel) ⟨Nat.le_of_ble_eq_true rfl, Nat.le_of_ble_eq_true rfl⟩) hP (hD _) hS hl dX4_mayBeOfPeak_29 rfl (Nat.le_of_ble_eq_true rfl) rfl rfl (fun H locs hP hS => ?_)
    obtain ⟨g_4, hf⟩ := gd_of hf
    obtain rfl := Option.some.inj hf
    exact kt_zret C0 (isZ_nar g_4) hP hS dX4_mayBeOfPeak_32
  · replace hf := ite_n c_1 hf
    by_cases c_5 : x2 = (1 : Int32)
    · replace hf := ite_p c_5 hf
      refine lv_tableIn (off := 32) (tgt := 33) hx hb dX4_mayBeOfPeak_1 (by rw [c_5]; decide) (by rw [c_5]; decide) (by rw [c_5]; rfl) (by decide) ?_
      refine lv_iload_n hx hb dX4_mayBeOfPeak_33 rfl (lv_at hl 2 rfl) ?_
      obtain ⟨r_6, hg_7, hf⟩ := bd_of hf
      refine kt_SN (As := [.int x3]) (rest := []) (st1 := [.int r_6]) C0 (c_X6_isA l γ hg_7) (cxN (nA := 1) hts goodU hE NW43 U465 U84 U466 (by decide +kernel) ⟨Nat.le_of_ble_eq_true rfl, Nat.le_of_ble_eq_true rfl⟩) hP (hD _) hS hl dX4_mayBeOfPeak_34 rfl (Nat.le_of_ble_eq_true rfl) rfl rfl (fun H locs hP hS => ?_)
      obtain ⟨g_8, hf⟩ := gd_of hf
      obtain rfl := Option.some.inj hf
      exact kt_zret C0 (isZ_nar g_8) hP hS dX4_mayBeOfPeak_37
    · replace hf := ite_n c_5 hf
      by_cases c_9 : x2 = (2 : Int32)
      · replace hf := ite_p c_9 hf
        refine lv_tableIn (off := 37) (tgt := 38) hx hb dX4_mayBeOfPeak_1 (by rw [c_9]; decide) (by rw [c_9]; decide) (by rw [c_9]; rfl) (by decide) ?_
        refine lv_iload_n hx hb dX4_mayBeOfPeak_38 rfl (lv_at hl 2 rfl) ?_
        obtain ⟨r_10, hg_11, hf⟩ := bd_of hf
        refine kt_SN (As := [.int x3]) (rest := []) (st1 := [.int r_10]) C0 (c_X6_isPlace l γ hg_11) (cxN (nA := 1) hts goodU hE NW44 U468 U84 U469 (by decide +kernel) ⟨Nat.le_of_ble_eq_true rfl, Nat.le_of_ble_eq_true rfl⟩) hP (hD _) hS hl dX4_mayBeOfPeak_39 rfl (Nat.le_of_ble_eq_true rfl) rfl rfl (fun H locs hP hS => ?_)
        refine lv_if_eq (tgt := 57) hx hb dX4_mayBeOfPeak_42 (by decide) (fun c_12 => ?_) (fun c_12 => ?_)
        · replace hf := ite_p c_12 hf
          refine lv_iconst (v := 0) hx hb dX4_mayBeOfPeak_57 (by decide) ?_
          obtain rfl := Option.some.inj hf
          exact kt_zret C0 (by decide) hP hS dX4_mayBeOfPeak_58
        · replace hf := ite_n c_12 hf
          refine lv_aload_n hx hb dX4_mayBeOfPeak_45 rfl (lv_at hl 0 rfl) ?_
          refine lv_iload_n hx hb dX4_mayBeOfPeak_46 rfl (lv_at hl 2 rfl) ?_
          obtain ⟨r_13, hg_14, hf⟩ := bd_of hf
          refine kt_V0 (As := [.int x3]) (rest := []) (st1 := [.int r_13]) (b := ar 0) C0 (c_X3_hasPeakAt l γ ar hg_14) (cxV (nA := 1) hts goodU U663 U474 U475 U85 U476 (by decide +kernel) ⟨Nat.le_of_ble_eq_true rfl, Nat.le_of_ble_eq_true rfl⟩) hP (hD _) hS hl dX4_mayBeOfPeak_47 0 3 rfl rfl rfl rfl (Nat.le_of_ble_eq_true rfl) rfl rfl (fun H locs hP hS => ?_)
          refine lv_if_ne (tgt := 57) hx hb dX4_mayBeOfPeak_50 (by decide) (fun c_15 => ?_) (fun c_15 => ?_)
          · replace hf := ite_n c_15 hf
            refine lv_iconst (v := 0) hx hb dX4_mayBeOfPeak_57 (by decide) ?_
            obtain rfl := Option.some.inj hf
            exact kt_zret C0 (by decide) hP hS dX4_mayBeOfPeak_58
          · replace hf := ite_p c_15 hf
            refine lv_iconst (v := 1) hx hb dX4_mayBeOfPeak_53 (by decide) ?_
            refine lv_goto (tgt := 58) hx hb dX4_mayBeOfPeak_54 (by decide) ?_
            obtain rfl := Option.some.inj hf
            exact kt_zret C0 (by decide) hP hS dX4_mayBeOfPeak_58
      · replace hf := ite_n c_9 hf
        refine lv_tableOut (tgt := 59) hx hb dX4_mayBeOfPeak_1 (by have := lv_neT c_1 (a := 0) (by decide); have := lv_neT c_5 (a := 1) (by decide); have := lv_neT c_9 (a := 2) (by decide); omega) (by decide) ?_
        refine lv_iload_n hx hb dX4_mayBeOfPeak_59 rfl (lv_at hl 2 rfl) ?_
        obtain ⟨r_16, hg_17, hf⟩ := bd_of hf
        refine kt_SN (As := [.int x3]) (rest := []) (st1 := [.int r_16]) C0 (c_X6_isHeight l γ hg_17) (cxN (nA := 1) hts goodU hE NW45 U471 U84 U472 (by decide +kernel) ⟨Nat.le_of_ble_eq_true rfl, Nat.le_of_ble_eq_true rfl⟩) hP (hD _) hS hl dX4_mayBeOfPeak_60 rfl (Nat.le_of_ble_eq_true rfl) rfl rfl (fun H locs hP hS => ?_)
        obtain ⟨g_18, hf⟩ := gd_of hf
        obtain rfl := Option.some.inj hf
        exact kt_zret C0 (isZ_nar g_18) hP hS dX4_mayBeOfPeak_63
set_option maxHeartbeats 4000000 in
set_option maxRecDepth 100000 in
theorem c_X4_mayBe (l : Launch) (γ : Gm) (ae : Nat → Nat) (ar : Nat → Nat) (tx : Value) {se : GS} {sr : GS} {x2 : Int32} {x3 : Int32} {rv : Int32} (hf : f_X4_mayBe se sr x2 x3 = some rv) : Kt l γ yX4_mayBe (Cond.code yX4_mayBe cX4_mayBe 4 (some .boolean) :: U) 2 44 [.ref (ae 0), .ref (ar 0), .int x2, .int x3] (wE γ ae tx se ++ wR γ ar sr) (some (.int rv)) (wE γ ae tx se ++ wR γ ar sr) := by
  refine Kt.of (by decide) rfl (Nat.le_of_ble_eq_true rfl) rfl ?_
  intro p e s m below meth c A ls C0 hP hD0 hS hl
  obtain ⟨hx, hb, hml, hown, hts, hr, hlocks, hK, hE, hA⟩ := id C0
  have hU : ∀ w ∈ U, w.before _ s = true := fun w h => hts w (List.mem_cons_of_mem _ h)
  have hD : ∀ (se : GS) (sr : GS), va_D A (wE γ ae tx se ++ wR γ ar sr) := fun _ _ => hD0.fst rfl
  have hl : lv_has ls 4 [(0, .ref (ae 0)), (1, .ref (ar 0)), (2, .int x2), (3, .int x3)] := hl
  unfold f_X4_mayBe at hf
  refine lv_aload_n hx hb dX4_mayBe_0 rfl (lv_at hl 0 rfl) ?_
  refine va_get (D := γ.1) (ci := 4) (v := .int (se 0 3)) (C := RX4) (T := TX4) (N := 5) hx hb hU uin4 hown hK hP 0 rfl rfl 3 (by decide) (hU _ U208) (fun _ h9 => h9) rfl dX4_mayBe_1 ?_
  by_cases c_1 : (se 0 3) = (0 : Int32)
  · replace hf := ite_p c_1 hf
    refine lv_tableIn (off := 36) (tgt := 40) hx hb dX4_mayBe_4 (by rw [c_1]; decide) (by rw [c_1]; decide) (by rw [c_1]; rfl) (by decide) ?_
    refine lv_aload_n hx hb dX4_mayBe_40 rfl (lv_at hl 1 rfl) ?_
    refine lv_iload_n hx hb dX4_mayBe_41 rfl (lv_at hl 2 rfl) ?_
    refine lv_iload_n hx hb dX4_mayBe_42 rfl (lv_at hl 3 rfl) ?_
    obtain ⟨r_2, hg_3, hf⟩ := bd_of hf
    refine kt_SF (As := [.ref (ar 0), .int x2, .int x3]) (rest := []) (st1 := [.int r_2]) (wc' := wE γ ae tx se ++ wR γ ar sr) C0 (c_X4_mayBeOfPeak l γ ar hg_3) (cxS (nA := 3) hts goodU U657 U658 U86 U659 (by decide +kernel) ⟨Nat.le_of_ble_eq_true rfl, Nat.le_of_ble_eq_true rfl⟩) hP (hD _ _) hS hl dX4_mayBe_43 focA2 rfl (Nat.le_of_ble_eq_true rfl) rfl rfl (fun H locs hP hS => ?_)
    obtain ⟨g_4, hf⟩ := gd_of hf
    obtain rfl := Option.some.inj hf
    exact kt_zret C0 (isZ_nar g_4) hP hS dX4_mayBe_46
  · replace hf := ite_n c_1 hf
    by_cases c_5 : (se 0 3) = (1 : Int32)
    · replace hf := ite_p c_5 hf
      refine lv_tableIn (off := 43) (tgt := 47) hx hb dX4_mayBe_4 (by rw [c_5]; decide) (by rw [c_5]; decide) (by rw [c_5]; rfl) (by decide) ?_
      refine lv_iload_n hx hb dX4_mayBe_47 rfl (lv_at hl 2 rfl) ?_
      refine lv_if_ne (tgt := 58) hx hb dX4_mayBe_48 (by decide) (fun c_6 => ?_) (fun c_6 => ?_)
      · replace hf := ite_n c_6 hf
        refine lv_iload_n hx hb dX4_mayBe_58 rfl (lv_at hl 3 rfl) ?_
        obtain ⟨r_7, hg_8, hf⟩ := bd_of hf
        refine kt_SN (As := [.int x3]) (rest := []) (st1 := [.int r_7]) C0 (c_X6_isHeight l γ hg_8) (cxN (nA := 1) hts goodU hE NW45 U471 U84 U472 (by decide +kernel) ⟨Nat.le_of_ble_eq_true rfl, Nat.le_of_ble_eq_true rfl⟩) hP (hD _ _) hS hl dX4_mayBe_59 rfl (Nat.le_of_ble_eq_true rfl) rfl rfl (fun H locs hP hS => ?_)
        obtain ⟨g_9, hf⟩ := gd_of hf
        obtain rfl := Option.some.inj hf
        exact kt_zret C0 (isZ_nar g_9) hP hS dX4_mayBe_62
      · replace hf := ite_p c_6 hf
        refine lv_iload_n hx hb dX4_mayBe_51 rfl (lv_at hl 3 rfl) ?_
        obtain ⟨r_10, hg_11, hf⟩ := bd_of hf
        refine kt_SN (As := [.int x3]) (rest := []) (st1 := [.int r_10]) C0 (c_X6_isPlace l γ hg_11) (cxN (nA := 1) hts goodU hE NW44 U468 U84 U469 (by decide +kernel) ⟨Nat.le_of_ble_eq_true rfl, Nat.le_of_ble_eq_true rfl⟩) hP (hD _ _) hS hl dX4_mayBe_52 rfl (Nat.le_of_ble_eq_true rfl) rfl rfl (fun H locs hP hS => ?_)
        refine lv_goto (tgt := 62) hx hb dX4_mayBe_55 (by decide) ?_
        obtain ⟨g_12, hf⟩ := gd_of hf
        obtain rfl := Option.some.inj hf
        exact kt_zret C0 (isZ_nar g_12) hP hS dX4_mayBe_62
    · replace hf := ite_n c_5 hf
      by_cases c_13 : (se 0 3) = (2 : Int32)
      · replace hf := ite_p c_13 hf
        refine lv_tableIn (off := 59) (tgt := 63) hx hb dX4_mayBe_4 (by rw [c_13]; decide) (by rw [c_13]; decide) (by rw [c_13]; rfl) (by decide) ?_
        refine lv_iload_n hx hb dX4_mayBe_63 rfl (lv_at hl 3 rfl) ?_
        refine lv_sipush (v := 999) hx hb dX4_mayBe_64 (by decide) ?_
        refine lv_icmp_gt (tgt := 74) hx hb dX4_mayBe_67 (by decide) (fun c_14 => ?_) (fun c_14 => ?_)
        · replace hf := ite_p c_14 hf
          refine lv_iconst (v := 0) hx hb dX4_mayBe_74 (by decide) ?_
          obtain rfl := Option.some.inj hf
          exact kt_zret C0 (by decide) hP hS dX4_mayBe_75
        · replace hf := ite_n c_14 hf
          refine lv_iconst (v := 1) hx hb dX4_mayBe_70 (by decide) ?_
          refine lv_goto (tgt := 75) hx hb dX4_mayBe_71 (by decide) ?_
          obtain rfl := Option.some.inj hf
          exact kt_zret C0 (by decide) hP hS dX4_mayBe_75
      · replace hf := ite_n c_13 hf
        by_cases c_15 : (se 0 3) = (3 : Int32)
        · replace hf := ite_p c_15 hf
          refine lv_tableIn (off := 72) (tgt := 76) hx hb dX4_mayBe_4 (by rw [c_15]; decide) (by rw [c_15]; decide) (by rw [c_15]; rfl) (by decide) ?_
          refine lv_iload_n hx hb dX4_mayBe_76 rfl (lv_at hl 2 rfl) ?_
          refine lv_if_ne (tgt := 88) hx hb dX4_mayBe_77 (by decide) (fun c_16 => ?_) (fun c_16 => ?_)
          · replace hf := ite_n c_16 hf
            refine lv_aload_n hx hb dX4_mayBe_88 rfl (lv_at hl 1 rfl) ?_
            refine lv_iload_n hx hb dX4_mayBe_89 rfl (lv_at hl 3 rfl) ?_
            obtain ⟨r_17, hg_18, hf⟩ := bd_of hf
            refine kt_VF (As := [.int x3]) (rest := []) (st1 := [.int r_17]) (b := ar 0) (wc' := wE γ ae tx se ++ wR γ ar sr) C0 (c_X3_isPeak l γ ar hg_18) (cxV (nA := 1) hts goodU U666 U404 U405 U85 U406 (by decide +kernel) ⟨Nat.le_of_ble_eq_true rfl, Nat.le_of_ble_eq_true rfl⟩) hP (hD _ _) hS hl dX4_mayBe_90 focA2 0 3 rfl rfl rfl rfl (Nat.le_of_ble_eq_true rfl) rfl rfl (fun H locs hP hS => ?_)
            obtain ⟨g_19, hf⟩ := gd_of hf
            obtain rfl := Option.some.inj hf
            exact kt_zret C0 (isZ_nar g_19) hP hS dX4_mayBe_93
          · replace hf := ite_p c_16 hf
            refine lv_aload_n hx hb dX4_mayBe_80 rfl (lv_at hl 1 rfl) ?_
            refine lv_iload_n hx hb dX4_mayBe_81 rfl (lv_at hl 3 rfl) ?_
            obtain ⟨r_20, hg_21, hf⟩ := bd_of hf
            refine kt_VF (As := [.int x3]) (rest := []) (st1 := [.int r_20]) (b := ar 0) (wc' := wE γ ae tx se ++ wR γ ar sr) C0 (c_X3_isValley l γ ar hg_21) (cxV (nA := 1) hts goodU U665 U526 U527 U85 U528 (by decide +kernel) ⟨Nat.le_of_ble_eq_true rfl, Nat.le_of_ble_eq_true rfl⟩) hP (hD _ _) hS hl dX4_mayBe_82 focA2 0 3 rfl rfl rfl rfl (Nat.le_of_ble_eq_true rfl) rfl rfl (fun H locs hP hS => ?_)
            refine lv_goto (tgt := 93) hx hb dX4_mayBe_85 (by decide) ?_
            obtain ⟨g_22, hf⟩ := gd_of hf
            obtain rfl := Option.some.inj hf
            exact kt_zret C0 (isZ_nar g_22) hP hS dX4_mayBe_93
        · replace hf := ite_n c_15 hf
          by_cases c_23 : (se 0 3) = (4 : Int32)
          · replace hf := ite_p c_23 hf
            refine lv_tableIn (off := 90) (tgt := 94) hx hb dX4_mayBe_4 (by rw [c_23]; decide) (by rw [c_23]; decide) (by rw [c_23]; rfl) (by decide) ?_
            refine lv_iload_n hx hb dX4_mayBe_94 rfl (lv_at hl 3 rfl) ?_
            refine lv_iconst (v := 1) hx hb dX4_mayBe_95 (by decide) ?_
            refine lv_icmp_lt (tgt := 110) hx hb dX4_mayBe_96 (by decide) (fun c_24 => ?_) (fun c_24 => ?_)
            · replace hf := ite_p c_24 hf
              refine lv_iconst (v := 0) hx hb dX4_mayBe_110 (by decide) ?_
              obtain rfl := Option.some.inj hf
              exact kt_zret C0 (by decide) hP hS dX4_mayBe_111
            · replace hf := ite_n c_24 hf
              refine lv_iload_n hx hb dX4_mayBe_99 rfl (lv_at hl 3 rfl) ?_
              refine lv_sipush (v := 999) hx hb dX4_mayBe_100 (by decide) ?_
              refine lv_icmp_gt (tgt := 110) hx hb dX4_mayBe_103 (by decide) (fun c_25 => ?_) (fun c_25 => ?_)
              · replace hf := ite_p c_25 hf
                refine lv_iconst (v := 0) hx hb dX4_mayBe_110 (by decide) ?_
                obtain rfl := Option.some.inj hf
                exact kt_zret C0 (by decide) hP hS dX4_mayBe_111
              · replace hf := ite_n c_25 hf
                refine lv_iconst (v := 1) hx hb dX4_mayBe_106 (by decide) ?_
                refine lv_goto (tgt := 111) hx hb dX4_mayBe_107 (by decide) ?_
                obtain rfl := Option.some.inj hf
                exact kt_zret C0 (by decide) hP hS dX4_mayBe_111
          · replace hf := ite_n c_23 hf
            refine lv_tableOut (tgt := 112) hx hb dX4_mayBe_4 (by have := lv_neT c_1 (a := 0) (by decide); have := lv_neT c_5 (a := 1) (by decide); have := lv_neT c_13 (a := 2) (by decide); have := lv_neT c_15 (a := 3) (by decide); have := lv_neT c_23 (a := 4) (by decide); omega) (by decide) ?_
            refine lv_aload_n hx hb dX4_mayBe_112 rfl (lv_at hl 1 rfl) ?_
            refine lv_iload_n hx hb dX4_mayBe_113 rfl (lv_at hl 3 rfl) ?_
            obtain ⟨r_26, hg_27, hf⟩ := bd_of hf
            refine kt_VF (As := [.int x3]) (rest := []) (st1 := [.int r_26]) (b := ar 0) (wc' := wE γ ae tx se ++ wR γ ar sr) C0 (c_X3_isStanding l γ ar hg_27) (cxV (nA := 1) hts goodU U667 U436 U437 U85 U438 (by decide +kernel) ⟨Nat.le_of_ble_eq_true rfl, Nat.le_of_ble_eq_true rfl⟩) hP (hD _ _) hS hl dX4_mayBe_114 focA2 0 3 rfl rfl rfl rfl (Nat.le_of_ble_eq_true rfl) rfl rfl (fun H locs hP hS => ?_)
            obtain ⟨g_28, hf⟩ := gd_of hf
            obtain rfl := Option.some.inj hf
            exact kt_zret C0 (isZ_nar g_28) hP hS dX4_mayBe_117
set_option maxHeartbeats 4000000 in
set_option maxRecDepth 100000 in
theorem c_X4_readNumber (l : Launch) (γ : Gm) (ae : Nat → Nat) (aw : Nat → Nat) (ar : Nat → Nat) {se : GS} {sw : GS} {sl : Nat → Int64} {sr : GS} {x2 : Int32} {rv : Int32} {se_z : GS} (hf : f_X4_readNumber se sw sl sr x2 = some (rv, se_z)) : Kt l γ yX4_readNumber (Cond.code yX4_readNumber cX4_readNumber 5 (some .boolean) :: U) 4 83 [.ref (ae 0), .ref (ar 0), .int x2] (wE γ ae (.ref (aw 0)) se ++ (wW γ aw sw sl ++ wR γ ar sr)) (some (.int rv)) (wE γ ae (.ref (aw 0)) se_z ++ (wW γ aw sw sl ++ wR γ ar sr)) := by
  refine Kt.of (by decide) rfl (Nat.le_of_ble_eq_true rfl) rfl ?_
  intro p e s m below meth c A ls C0 hP hD0 hS hl
  obtain ⟨hx, hb, hml, hown, hts, hr, hlocks, hK, hE, hA⟩ := id C0
  have hU : ∀ w ∈ U, w.before _ s = true := fun w h => hts w (List.mem_cons_of_mem _ h)
  have hD : ∀ (se : GS) (sw : GS) (sl : Nat → Int64) (sr : GS), va_D A (wE γ ae (.ref (aw 0)) se ++ (wW γ aw sw sl ++ wR γ ar sr)) := fun _ _ _ _ => hD0.fst rfl
  have hl : lv_has ls 5 [(0, .ref (ae 0)), (1, .ref (ar 0)), (2, .int x2)] := hl
  have L8 : ∀ (x2_2 : Int32) (x3_3 : Int32) (K51 : Int32 → GS → Option (Int32 × GS)) (HK51 : ∀ (z4 : Int32) (zse : GS) (H : Heap) (locs : List Loc) (ls : Array Slot), K51 z4 zse = some (rv, se_z) → va_P γ.1 vwCl (wE γ ae (.ref (aw 0)) zse ++ (wW γ aw sw sl ++ wR γ ar sr)) H → va_S A s.heap H locs → lv_has ls 5 [(0, .ref (ae 0)), (1, .ref (ar 0)), (2, .int x2_2), (3, .int x3_3), (4, .int z4)] → W p l e (rmK 4 83) s m ([.ref (ae 0), .ref (ar 0), .int x2] : List Value).toArray below meth c H locs 0 0 (MQ below (KQ γ A (some (.int rv)) (wE γ ae (.ref (aw 0)) se_z ++ (wW γ aw sw sl ++ wR γ ar sr))) ([.ref (ae 0), .ref (ar 0), .int x2] : List Value).toArray s 0 0 A) (F0 m 51 ls [])) (n : Nat) (x4_4 : Int32) (se_5 : GS) (H : Heap) (locs : List Loc) (ls : Array Slot), f_X4_readNumber_L8 sw sl x3_3 K51 n x4_4 se_5 = some (rv, se_z) → va_P γ.1 vwCl (wE γ ae (.ref (aw 0)) se_5 ++ (wW γ aw sw sl ++ wR γ ar sr)) H → va_S A s.heap H locs → lv_has ls 5 [(0, .ref (ae 0)), (1, .ref (ar 0)), (2, .int x2_2), (3, .int x3_3), (4, .int x4_4)] → W p l e (rmK 4 83) s m ([.ref (ae 0), .ref (ar 0), .int x2] : List Value).toArray below meth c H locs 0 0 (MQ below (KQ γ A (some (.int rv)) (wE γ ae (.ref (aw 0)) se_z ++ (wW γ aw sw sl ++ wR γ ar sr))) ([.ref (ae 0), .ref (ar 0), .int x2] : List Value).toArray s 0 0 A) (F0 m 8 ls []) := by
    intro x2_2 x3_3 K51 HK51
    intro n
    induction n with
    | zero =>
      intro x4_4 se_5 H locs ls hf
      have hf : none = some _ := hf
      cases hf
    | succ n ih =>
      intro x4_4 se_5 H locs ls hf hP hS hl
      rw [f_X4_readNumber_L8.eq_2] at hf
      refine lv_aload_n hx hb dX4_readNumber_8 rfl (lv_at hl 0 rfl) ?_
      refine va_get (D := γ.1) (ci := 4) (v := .int (se_5 0 1)) (C := RX4) (T := TX4) (N := 5) hx hb hU uin4 hown hK hP 0 rfl rfl 1 (by decide) (hU _ U205) (fun _ h9 => h9) rfl dX4_readNumber_9 ?_
      refine lv_iload_n hx hb dX4_readNumber_12 rfl (lv_at hl 3 rfl) ?_
      refine lv_isub hx hb dX4_readNumber_13 ?_
      refine lv_iconst (v := 3) hx hb dX4_readNumber_14 (by decide) ?_
      refine lv_icmp_ge (tgt := 51) hx hb dX4_readNumber_15 (by decide) (fun c_6 => ?_) (fun c_6 => ?_)
      · replace hf := ite_p c_6 hf
        exact HK51 x4_4 se_5 _ _ _ hf hP hS (lv_sub hl [0, 1, 2, 3, 4] rfl)
      · replace hf := ite_n c_6 hf
        refine lv_aload_n hx hb dX4_readNumber_18 rfl (lv_at hl 0 rfl) ?_
        obtain ⟨r_7, hg_8, hf⟩ := bd_of hf
        refine kt_VF (As := []) (rest := []) (st1 := [.int r_7]) (b := ae 0) (wc' := wE γ ae (.ref (aw 0)) se_5 ++ (wW γ aw sw sl ++ wR γ ar sr)) C0 (c_X4_digitHere l γ ae aw hg_8) (cxV (nA := 0) hts goodU U649 U651 U18 U86 U652 (by decide +kernel) ⟨Nat.le_of_ble_eq_true rfl, Nat.le_of_ble_eq_true rfl⟩) hP (hD _ _ _ _) hS hl dX4_readNumber_19 focB12 0 4 rfl rfl rfl rfl (Nat.le_of_ble_eq_true rfl) rfl rfl (fun H locs hP hS => ?_)
        refine lv_iconst (v := -1) hx hb dX4_readNumber_22 (by decide) ?_
        refine lv_icmp_eq (tgt := 51) hx hb dX4_readNumber_23 (by decide) (fun c_9 => ?_) (fun c_9 => ?_)
        · replace hf := ite_p c_9 hf
          exact HK51 x4_4 se_5 _ _ _ hf hP hS (lv_sub hl [0, 1, 2, 3, 4] rfl)
        · replace hf := ite_n c_9 hf
          refine lv_bipush (v := 10) hx hb dX4_readNumber_26 (by decide) ?_
          refine lv_iload hx hb dX4_readNumber_28 (lv_at hl 4 rfl) ?_
          refine lv_imul hx hb dX4_readNumber_30 ?_
          refine lv_aload_n hx hb dX4_readNumber_31 rfl (lv_at hl 0 rfl) ?_
          obtain ⟨r_10, hg_11, hf⟩ := bd_of hf
          refine kt_VF (As := []) (rest := [.int ((10 : Int32) * x4_4)]) (st1 := [.int r_10, .int ((10 : Int32) * x4_4)]) (b := ae 0) (wc' := wE γ ae (.ref (aw 0)) se_5 ++ (wW γ aw sw sl ++ wR γ ar sr)) C0 (c_X4_digitHere l γ ae aw hg_11) (cxV (nA := 0) hts goodU U649 U651 U18 U86 U652 (by decide +kernel) ⟨Nat.le_of_ble_eq_true rfl, Nat.le_of_ble_eq_true rfl⟩) hP (hD _ _ _ _) hS hl dX4_readNumber_32 focB12 0 4 rfl rfl rfl rfl (Nat.le_of_ble_eq_true rfl) rfl rfl (fun H locs hP hS => ?_)
          refine lv_iadd hx hb dX4_readNumber_35 ?_
          refine lv_topi (fun u_12 e_u_12 => ?_)
          replace hf := nm_y hf e_u_12
          refine lv_istore (lv' := [(4, .int u_12), (0, .ref (ae 0)), (1, .ref (ar 0)), (2, .int x2_2), (3, .int x3_3)]) hx hb dX4_readNumber_36 hl (by decide) rfl (fun ls hl => ?_)
          refine lv_aload_n hx hb dX4_readNumber_38 rfl (lv_at hl 1 rfl) ?_
          refine lv_dup hx hb dX4_readNumber_39 rfl ?_
          refine va_get (D := γ.1) (ci := 4) (v := .int (se_5 0 1)) (C := RX4) (T := TX4) (N := 5) hx hb hU uin4 hown hK hP 0 rfl rfl 1 (by decide) (hU _ U205) (fun _ h9 => h9) rfl dX4_readNumber_40 ?_
          refine lv_iconst (v := 1) hx hb dX4_readNumber_43 (by decide) ?_
          refine lv_iadd hx hb dX4_readNumber_44 ?_
          refine lv_topi (fun u_13 e_u_13 => ?_)
          replace hf := nm_y hf e_u_13
          refine va_put (D := γ.1) (ci := 4) (v := .int u_13) (ty := .int) (C := RX4) (T := TX4) (N := 5) hx hb hU uin4 tyX4 tyX4_ok nmX4 hown hK hP (hD _ _ _ _) hS 0 rfl rfl 1 (by decide) (hU _ U205) (fun _ h9 => h9) rfl (by decide +kernel) rfl rfl (Nat.le_of_ble_eq_true rfl) dX4_readNumber_45 (fun H locs hP _ hS => ?_)
          obtain ⟨se_14, e_se_14, hf⟩ := nm_of hf
          replace hP : va_P γ.1 vwCl (wE γ ae (.ref (aw 0)) se_14 ++ (wW γ aw sw sl ++ wR γ ar sr)) H := by rw [e_se_14]; exact hP
          refine lv_goto (tgt := 8) hx hb dX4_readNumber_48 (by decide) ?_
          exact ih u_12 se_14 _ _ _ hf hP hS (lv_sub hl [1, 2, 3, 4, 0] rfl)
  have J51 : ∀ (x2_17 : Int32) (x3_18 : Int32) (x4_19 : Int32) (se_20 : GS) (H : Heap) (locs : List Loc) (ls : Array Slot), f_X4_readNumber_J51 sr x2_17 x3_18 x4_19 se_20 = some (rv, se_z) → va_P γ.1 vwCl (wE γ ae (.ref (aw 0)) se_20 ++ (wW γ aw sw sl ++ wR γ ar sr)) H → va_S A s.heap H locs → lv_has ls 5 [(0, .ref (ae 0)), (1, .ref (ar 0)), (2, .int x2_17), (3, .int x3_18), (4, .int x4_19)] → W p l e (rmK 4 83) s m ([.ref (ae 0), .ref (ar 0), .int x2] : List Value).toArray below meth c H locs 0 0 (MQ below (KQ γ A (some (.int rv)) (wE γ ae (.ref (aw 0)) se_z ++ (wW γ aw sw sl ++ wR γ ar sr))) ([.ref (ae 0), .ref (ar 0), .int x2] : List Value).toArray s 0 0 A) (F0 m 51 ls []) := by
    intro x2_17 x3_18 x4_19 se_20 H locs ls hf hP hS hl
    unfold f_X4_readNumber_J51 at hf
    refine lv_aload_n hx hb dX4_readNumber_51 rfl (lv_at hl 0 rfl) ?_
    refine va_get (D := γ.1) (ci := 4) (v := .int (se_20 0 1)) (C := RX4) (T := TX4) (N := 5) hx hb hU uin4 hown hK hP 0 rfl rfl 1 (by decide) (hU _ U205) (fun _ h9 => h9) rfl dX4_readNumber_52 ?_
    refine lv_iload_n hx hb dX4_readNumber_55 rfl (lv_at hl 3 rfl) ?_
    refine lv_icmp_ne (tgt := 68) hx hb dX4_readNumber_56 (by decide) (fun c_21 => ?_) (fun c_21 => ?_)
    · replace hf := ite_n c_21 hf
      refine lv_aload_n hx hb dX4_readNumber_68 rfl (lv_at hl 0 rfl) ?_
      refine va_get (D := γ.1) (ci := 4) (v := .ref (ae 5)) (C := RX4) (T := TX4) (N := 5) hx hb hU uin4 hown hK hP 0 rfl rfl 4 (by decide) (hU _ U209) (fun _ h9 => h9) rfl dX4_readNumber_69 ?_
      refine lv_iload_n hx hb dX4_readNumber_72 rfl (lv_at hl 2 rfl) ?_
      refine lv_iload hx hb dX4_readNumber_73 (lv_at hl 4 rfl) ?_
      obtain ⟨g_22, hf⟩ := gd_of hf
      refine va_iast hx hb hK hP (hD _ _ _ _) hS 1 0 rfl rfl (inB_vp g_22) dX4_readNumber_75 (fun H locs hP _ hS => ?_)
      obtain ⟨se_23, e_se_23, hf⟩ := nm_of hf
      replace hP : va_P γ.1 vwCl (wE γ ae (.ref (aw 0)) se_23 ++ (wW γ aw sw sl ++ wR γ ar sr)) H := by rw [e_se_23]; exact hP
      refine lv_aload_n hx hb dX4_readNumber_76 rfl (lv_at hl 0 rfl) ?_
      refine lv_aload_n hx hb dX4_readNumber_77 rfl (lv_at hl 1 rfl) ?_
      refine lv_iload_n hx hb dX4_readNumber_78 rfl (lv_at hl 2 rfl) ?_
      refine lv_iload hx hb dX4_readNumber_79 (lv_at hl 4 rfl) ?_
      obtain ⟨r_24, hg_25, hf⟩ := bd_of hf
      refine kt_VF (As := [.ref (ar 0), .int x2_17, .int x4_19]) (rest := []) (st1 := [.int r_24]) (b := ae 0) (wc' := wE γ ae (.ref (aw 0)) se_23 ++ (wW γ aw sw sl ++ wR γ ar sr)) C0 (c_X4_mayBe l γ ae ar (.ref (aw 0)) hg_25) (cxV (nA := 3) hts goodU U653 U655 U19 U86 U656 (by decide +kernel) ⟨Nat.le_of_ble_eq_true rfl, Nat.le_of_ble_eq_true rfl⟩) hP (hD _ _ _ _) hS hl dX4_readNumber_81 focB13 0 4 rfl rfl rfl rfl (Nat.le_of_ble_eq_true rfl) rfl rfl (fun H locs hP hS => ?_)
      refine lv_if_ne (tgt := 95) hx hb dX4_readNumber_84 (by decide) (fun c_26 => ?_) (fun c_26 => ?_)
      · replace hf := ite_n c_26 hf
        refine lv_iconst (v := 1) hx hb dX4_readNumber_95 (by decide) ?_
        refine lv_goto (tgt := 100) hx hb dX4_readNumber_96 (by decide) ?_
        obtain ⟨rfl, rfl⟩ := rt2 hf
        exact kt_zret C0 (by decide) hP hS dX4_readNumber_100
      · replace hf := ite_p c_26 hf
        refine lv_aload_n hx hb dX4_readNumber_87 rfl (lv_at hl 0 rfl) ?_
        refine lv_iload_n hx hb dX4_readNumber_88 rfl (lv_at hl 3 rfl) ?_
        obtain ⟨r_27, se_28, hg_29, hf⟩ := bd2_of hf
        refine kt_VF (As := [.int x3_18]) (rest := []) (st1 := [.int r_27]) (b := ae 0) (wc' := wE γ ae (.ref (aw 0)) se_28 ++ (wW γ aw sw sl ++ wR γ ar sr)) C0 (c_X4_faultAt l γ ae (.ref (aw 0)) hg_29) (cxV (nA := 1) hts goodU U623 U625 U14 U86 U626 (by decide +kernel) ⟨Nat.le_of_ble_eq_true rfl, Nat.le_of_ble_eq_true rfl⟩) hP (hD _ _ _ _) hS hl dX4_readNumber_89 focB1 0 4 rfl rfl rfl rfl (Nat.le_of_ble_eq_true rfl) rfl rfl (fun H locs hP hS => ?_)
        refine lv_if_eq (tgt := 99) hx hb dX4_readNumber_92 (by decide) (fun c_30 => ?_) (fun c_30 => ?_)
        · replace hf := ite_p c_30 hf
          refine lv_iconst (v := 0) hx hb dX4_readNumber_99 (by decide) ?_
          obtain ⟨rfl, rfl⟩ := rt2 hf
          exact kt_zret C0 (by decide) hP hS dX4_readNumber_100
        · replace hf := ite_n c_30 hf
          refine lv_iconst (v := 1) hx hb dX4_readNumber_95 (by decide) ?_
          refine lv_goto (tgt := 100) hx hb dX4_readNumber_96 (by decide) ?_
          obtain ⟨rfl, rfl⟩ := rt2 hf
          exact kt_zret C0 (by decide) hP hS dX4_readNumber_100
    · replace hf := ite_p c_21 hf
      refine lv_aload_n hx hb dX4_readNumber_59 rfl (lv_at hl 0 rfl) ?_
      refine lv_aload_n hx hb dX4_readNumber_60 rfl (lv_at hl 0 rfl) ?_
      refine va_get (D := γ.1) (ci := 4) (v := .int (se_20 0 1)) (C := RX4) (T := TX4) (N := 5) hx hb hU uin4 hown hK hP 0 rfl rfl 1 (by decide) (hU _ U205) (fun _ h9 => h9) rfl dX4_readNumber_61 ?_
      obtain ⟨r_31, se_32, hg_33, hf⟩ := bd2_of hf
      refine kt_VF (As := [.int (se_20 0 1)]) (rest := []) (st1 := [.int r_31]) (b := ae 0) (wc' := wE γ ae (.ref (aw 0)) se_32 ++ (wW γ aw sw sl ++ wR γ ar sr)) C0 (c_X4_faultAt l γ ae (.ref (aw 0)) hg_33) (cxV (nA := 1) hts goodU U623 U625 U14 U86 U626 (by decide +kernel) ⟨Nat.le_of_ble_eq_true rfl, Nat.le_of_ble_eq_true rfl⟩) hP (hD _ _ _ _) hS hl dX4_readNumber_64 focB1 0 4 rfl rfl rfl rfl (Nat.le_of_ble_eq_true rfl) rfl rfl (fun H locs hP hS => ?_)
      obtain ⟨g_34, hf⟩ := gd_of hf
      obtain ⟨rfl, rfl⟩ := rt2 hf
      exact kt_zret C0 (isZ_nar g_34) hP hS dX4_readNumber_67
  unfold f_X4_readNumber at hf
  refine lv_aload_n hx hb dX4_readNumber_0 rfl (lv_at hl 0 rfl) ?_
  refine va_get (D := γ.1) (ci := 4) (v := .int (se 0 1)) (C := RX4) (T := TX4) (N := 5) hx hb hU uin4 hown hK hP 0 rfl rfl 1 (by decide) (hU _ U205) (fun _ h9 => h9) rfl dX4_readNumber_1 ?_
  refine lv_topi (fun u_1 e_u_1 => ?_)
  replace hf := nm_y hf e_u_1
  refine lv_istore_n (lv' := [(3, .int u_1), (0, .ref (ae 0)), (1, .ref (ar 0)), (2, .int x2)]) hx hb dX4_readNumber_4 rfl hl (by decide) rfl (fun ls hl => ?_)
  refine lv_iconst (v := 0) hx hb dX4_readNumber_5 (by decide) ?_
  refine lv_istore (lv' := [(4, .int (0 : Int32)), (3, .int u_1), (0, .ref (ae 0)), (1, .ref (ar 0)), (2, .int x2)]) hx hb dX4_readNumber_6 hl (by decide) rfl (fun ls hl => ?_)
  refine L8 x2 u_1 _ (fun x4_15 se_16 H locs ls hf hP hS hl => ?_) FU (0 : Int32) se _ _ _ hf hP hS (lv_sub hl [2, 3, 4, 1, 0] rfl)
  exact J51 x2 u_1 x4_15 se_16 _ _ _ hf hP hS (lv_sub hl [0, 1, 2, 3, 4] rfl)
set_option maxHeartbeats 4000000 in
set_option maxRecDepth 100000 in
theorem c_X4_readItem (l : Launch) (γ : Gm) (ae : Nat → Nat) (aw : Nat → Nat) (ar : Nat → Nat) {se : GS} {sw : GS} {sl : Nat → Int64} {sr : GS} {rv : Int32} {se_z : GS} (hf : f_X4_readItem se sw sl sr = some (rv, se_z)) : Kt l γ yX4_readItem (Cond.code yX4_readItem cX4_readItem 5 (some .boolean) :: U) 6 142 [.ref (ae 0), .ref (ar 0)] (wE γ ae (.ref (aw 0)) se ++ (wW γ aw sw sl ++ wR γ ar sr)) (some (.int rv)) (wE γ ae (.ref (aw 0)) se_z ++ (wW γ aw sw sl ++ wR γ ar sr)) := by
  refine Kt.of (by decide) rfl (Nat.le_of_ble_eq_true rfl) rfl ?_
  intro p e s m below meth c A ls C0 hP hD0 hS hl
  obtain ⟨hx, hb, hml, hown, hts, hr, hlocks, hK, hE, hA⟩ := id C0
  have hU : ∀ w ∈ U, w.before _ s = true := fun w h => hts w (List.mem_cons_of_mem _ h)
  have hD : ∀ (se : GS) (sw : GS) (sl : Nat → Int64) (sr : GS), va_D A (wE γ ae (.ref (aw 0)) se ++ (wW γ aw sw sl ++ wR γ ar sr)) := fun _ _ _ _ => hD0.fst rfl
  have hl : lv_has ls 5 [(0, .ref (ae 0)), (1, .ref (ar 0))] := hl
  have L41 : ∀ (x2_8 : Int32) (si3_9 : Nat) (K71 : GS → Option (Int32 × GS)) (HK71 : ∀ (zse : GS) (H : Heap) (locs : List Loc) (ls : Array Slot), K71 zse = some (rv, se_z) → va_P γ.1 vwCl (wE γ ae (.ref (aw 0)) zse ++ (wW γ aw sw sl ++ wR γ ar sr)) H → va_S A s.heap H locs → lv_has ls 5 [(0, .ref (ae 0)), (1, .ref (ar 0)), (2, .int x2_8)] → W p l e (rmK 6 142) s m ([.ref (ae 0), .ref (ar 0)] : List Value).toArray below meth c H locs 0 0 (MQ below (KQ γ A (some (.int rv)) (wE γ ae (.ref (aw 0)) se_z ++ (wW γ aw sw sl ++ wR γ ar sr))) ([.ref (ae 0), .ref (ar 0)] : List Value).toArray s 0 0 A) (F0 m 71 ls [])) (n : Nat) (x4_10 : Int32) (se_11 : GS) (H : Heap) (locs : List Loc) (ls : Array Slot), f_X4_readItem_L41 sw sl si3_9 K71 n x4_10 se_11 = some (rv, se_z) → va_P γ.1 vwCl (wE γ ae (.ref (aw 0)) se_11 ++ (wW γ aw sw sl ++ wR γ ar sr)) H → va_S A s.heap H locs → lv_has ls 5 [(0, .ref (ae 0)), (1, .ref (ar 0)), (2, .int x2_8), (3, .ref (sad γ si3_9)), (4, .int x4_10)] → W p l e (rmK 6 142) s m ([.ref (ae 0), .ref (ar 0)] : List Value).toArray below meth c H locs 0 0 (MQ below (KQ γ A (some (.int rv)) (wE γ ae (.ref (aw 0)) se_z ++ (wW γ aw sw sl ++ wR γ ar sr))) ([.ref (ae 0), .ref (ar 0)] : List Value).toArray s 0 0 A) (F0 m 41 ls []) := by
    intro x2_8 si3_9 K71 HK71
    intro n
    induction n with
    | zero =>
      intro x4_10 se_11 H locs ls hf
      have hf : none = some _ := hf
      cases hf
    | succ n ih =>
      intro x4_10 se_11 H locs ls hf hP hS hl
      rw [f_X4_readItem_L41.eq_2] at hf
      refine lv_iload hx hb dX4_readItem_41 (lv_at hl 4 rfl) ?_
      refine lv_aload_n hx hb dX4_readItem_43 rfl (lv_at hl 3 rfl) ?_
      obtain ⟨g_12, hf⟩ := gd_of hf
      refine kt_str (As := []) (rest := [.int x4_10]) (st1 := [.int (tLn si3_9), .int x4_10]) (i := si3_9) C0 (c_strlen l γ (of_decide_eq_true g_12)) (cxV (nA := 0) hts goodU U627 U628 U629 U94 U630 (by decide +kernel) ⟨Nat.le_of_ble_eq_true rfl, Nat.le_of_ble_eq_true rfl⟩) (of_decide_eq_true g_12) hP (hD _ _ _ _) hS hl dX4_readItem_44 rfl (Nat.le_of_ble_eq_true rfl) rfl rfl (fun H locs hP hS => ?_)
      refine lv_icmp_ge (tgt := 71) hx hb dX4_readItem_47 (by decide) (fun c_13 => ?_) (fun c_13 => ?_)
      · replace hf := ite_p c_13 hf
        exact HK71 se_11 _ _ _ hf hP hS (lv_sub hl [0, 1, 2] rfl)
      · replace hf := ite_n c_13 hf
        refine lv_aload_n hx hb dX4_readItem_50 rfl (lv_at hl 0 rfl) ?_
        refine lv_aload_n hx hb dX4_readItem_51 rfl (lv_at hl 3 rfl) ?_
        refine lv_iload hx hb dX4_readItem_52 (lv_at hl 4 rfl) ?_
        obtain ⟨g_14, hf⟩ := gd_of hf
        obtain ⟨g_15, hf⟩ := gd_of hf
        refine kt_str (As := [.int x4_10]) (rest := [.ref (ae 0)]) (st1 := [.int (tCh si3_9 x4_10), .ref (ae 0)]) (i := si3_9) C0 (c_strchr l γ (of_decide_eq_true g_14) g_15) (cxV (nA := 1) hts goodU U583 U584 U585 U94 U586 (by decide +kernel) ⟨Nat.le_of_ble_eq_true rfl, Nat.le_of_ble_eq_true rfl⟩) (of_decide_eq_true g_14) hP (hD _ _ _ _) hS hl dX4_readItem_54 rfl (Nat.le_of_ble_eq_true rfl) rfl rfl (fun H locs hP hS => ?_)
        obtain ⟨r_16, se_17, hg_18, hf⟩ := bd2_of hf
        refine kt_VF (As := [.int (tCh si3_9 x4_10)]) (rest := []) (st1 := [.int r_16]) (b := ae 0) (wc' := wE γ ae (.ref (aw 0)) se_17 ++ (wW γ aw sw sl ++ wR γ ar sr)) C0 (c_X4_passLetter l γ ae aw hg_18) (cxV (nA := 1) hts goodU U635 U637 U15 U86 U638 (by decide +kernel) ⟨Nat.le_of_ble_eq_true rfl, Nat.le_of_ble_eq_true rfl⟩) hP (hD _ _ _ _) hS hl dX4_readItem_57 focB12 0 4 rfl rfl rfl rfl (Nat.le_of_ble_eq_true rfl) rfl rfl (fun H locs hP hS => ?_)
        refine lv_if_ne (tgt := 65) hx hb dX4_readItem_60 (by decide) (fun c_19 => ?_) (fun c_19 => ?_)
        · replace hf := ite_n c_19 hf
          obtain ⟨x4_20, e_x4_20⟩ : ∃ y : Int32, y = x4_10 + (1 : Int32) := ⟨_, rfl⟩
          replace hf := nm_y hf e_x4_20
          refine lv_iinc (v := x4_20) (lv' := [(4, .int x4_20), (0, .ref (ae 0)), (1, .ref (ar 0)), (2, .int x2_8), (3, .ref (sad γ si3_9))]) hx hb dX4_readItem_65 hl (k := 4) rfl (by rw [e_x4_20]; rfl) (by decide) rfl (fun ls hl => ?_)
          refine lv_goto (tgt := 41) hx hb dX4_readItem_68 (by decide) ?_
          exact ih x4_20 se_17 _ _ _ hf hP hS (lv_sub hl [1, 2, 3, 4, 0] rfl)
        · replace hf := ite_p c_19 hf
          refine lv_iconst (v := 0) hx hb dX4_readItem_63 (by decide) ?_
          obtain ⟨rfl, rfl⟩ := rt2 hf
          exact kt_zret C0 (by decide) hP hS dX4_readItem_64
  have L88 : ∀ (n : Nat) (x4_25 : Int32) (se_26 : GS) (H : Heap) (locs : List Loc) (ls : Array Slot), f_X4_readItem_L88 sw sl sr n x4_25 se_26 = some (rv, se_z) → va_P γ.1 vwCl (wE γ ae (.ref (aw 0)) se_26 ++ (wW γ aw sw sl ++ wR γ ar sr)) H → va_S A s.heap H locs → lv_has ls 5 [(0, .ref (ae 0)), (1, .ref (ar 0)), (4, .int x4_25)] → W p l e (rmK 6 142) s m ([.ref (ae 0), .ref (ar 0)] : List Value).toArray below meth c H locs 0 0 (MQ below (KQ γ A (some (.int rv)) (wE γ ae (.ref (aw 0)) se_z ++ (wW γ aw sw sl ++ wR γ ar sr))) ([.ref (ae 0), .ref (ar 0)] : List Value).toArray s 0 0 A) (F0 m 88 ls []) := by
    intro n
    induction n with
    | zero =>
      intro x4_25 se_26 H locs ls hf
      have hf : none = some _ := hf
      cases hf
    | succ n ih =>
      intro x4_25 se_26 H locs ls hf hP hS hl
      rw [f_X4_readItem_L88.eq_2] at hf
      refine lv_iload hx hb dX4_readItem_88 (lv_at hl 2 rfl) ?_
      refine va_gets hx hb hE.2.1.1 hS hown (hU _ U643) (fun _ h9 => h9) dX4_readItem_90 ?_
      refine lv_aload_n hx hb dX4_readItem_93 rfl (lv_at hl 0 rfl) ?_
      refine va_get (D := γ.1) (ci := 4) (v := .int (se_26 0 3)) (C := RX4) (T := TX4) (N := 5) hx hb hU uin4 hown hK hP 0 rfl rfl 3 (by decide) (hU _ U208) (fun _ h9 => h9) rfl dX4_readItem_94 ?_
      obtain ⟨g_27, hf⟩ := gd_of hf
      refine va_ti (v := .int (tbNums (se_26 0 3).toNatClampNeg)) hx hb hE.2.1.2 hS (inB_vp g_27) rfl dX4_readItem_97 ?_
      refine lv_icmp_ge (tgt := 128) hx hb dX4_readItem_98 (by decide) (fun c_28 => ?_) (fun c_28 => ?_)
      · replace hf := ite_p c_28 hf
        refine lv_iconst (v := 1) hx hb dX4_readItem_128 (by decide) ?_
        obtain ⟨rfl, rfl⟩ := rt2 hf
        exact kt_zret C0 (by decide) hP hS dX4_readItem_129
      · replace hf := ite_n c_28 hf
        refine lv_aload_n hx hb dX4_readItem_101 rfl (lv_at hl 0 rfl) ?_
        refine lv_bipush (v := 32) hx hb dX4_readItem_102 (by decide) ?_
        obtain ⟨r_29, se_30, hg_31, hf⟩ := bd2_of hf
        refine kt_VF (As := [.int (32 : Int32)]) (rest := []) (st1 := [.int r_29]) (b := ae 0) (wc' := wE γ ae (.ref (aw 0)) se_30 ++ (wW γ aw sw sl ++ wR γ ar sr)) C0 (c_X4_passLetter l γ ae aw hg_31) (cxV (nA := 1) hts goodU U635 U637 U15 U86 U638 (by decide +kernel) ⟨Nat.le_of_ble_eq_true rfl, Nat.le_of_ble_eq_true rfl⟩) hP (hD _ _ _ _) hS hl dX4_readItem_104 focB12 0 4 rfl rfl rfl rfl (Nat.le_of_ble_eq_true rfl) rfl rfl (fun H locs hP hS => ?_)
        refine lv_if_eq (tgt := 120) hx hb dX4_readItem_107 (by decide) (fun c_32 => ?_) (fun c_32 => ?_)
        · replace hf := ite_p c_32 hf
          refine lv_iconst (v := 0) hx hb dX4_readItem_120 (by decide) ?_
          obtain ⟨rfl, rfl⟩ := rt2 hf
          exact kt_zret C0 (by decide) hP hS dX4_readItem_121
        · replace hf := ite_n c_32 hf
          refine lv_aload_n hx hb dX4_readItem_110 rfl (lv_at hl 0 rfl) ?_
          refine lv_aload_n hx hb dX4_readItem_111 rfl (lv_at hl 1 rfl) ?_
          refine lv_iload hx hb dX4_readItem_112 (lv_at hl 2 rfl) ?_
          obtain ⟨r_33, se_34, hg_35, hf⟩ := bd2_of hf
          refine kt_V0 (As := [.ref (ar 0), .int x4_25]) (rest := []) (st1 := [.int r_33]) (b := ae 0) C0 (c_X4_readNumber l γ ae aw ar hg_35) (cxV (nA := 2) hts goodU U645 U647 U17 U86 U648 (by decide +kernel) ⟨Nat.le_of_ble_eq_true rfl, Nat.le_of_ble_eq_true rfl⟩) hP (hD _ _ _ _) hS hl dX4_readItem_114 0 4 rfl rfl rfl rfl (Nat.le_of_ble_eq_true rfl) rfl rfl (fun H locs hP hS => ?_)
          refine lv_if_ne (tgt := 122) hx hb dX4_readItem_117 (by decide) (fun c_36 => ?_) (fun c_36 => ?_)
          · replace hf := ite_n c_36 hf
            obtain ⟨x4_37, e_x4_37⟩ : ∃ y : Int32, y = x4_25 + (1 : Int32) := ⟨_, rfl⟩
            replace hf := nm_y hf e_x4_37
            refine lv_iinc (v := x4_37) (lv' := [(4, .int x4_37), (0, .ref (ae 0)), (1, .ref (ar 0))]) hx hb dX4_readItem_122 hl (k := 2) rfl (by rw [e_x4_37]; rfl) (by decide) rfl (fun ls hl => ?_)
            refine lv_goto (tgt := 88) hx hb dX4_readItem_125 (by decide) ?_
            exact ih x4_37 se_34 _ _ _ hf hP hS (lv_sub hl [1, 2, 0] rfl)
          · replace hf := ite_p c_36 hf
            refine lv_iconst (v := 0) hx hb dX4_readItem_120 (by decide) ?_
            obtain ⟨rfl, rfl⟩ := rt2 hf
            exact kt_zret C0 (by decide) hP hS dX4_readItem_121
  unfold f_X4_readItem at hf
  refine lv_aload_n hx hb dX4_readItem_0 rfl (lv_at hl 0 rfl) ?_
  refine va_get (D := γ.1) (ci := 4) (v := .int (se 0 1)) (C := RX4) (T := TX4) (N := 5) hx hb hU uin4 hown hK hP 0 rfl rfl 1 (by decide) (hU _ U205) (fun _ h9 => h9) rfl dX4_readItem_1 ?_
  refine lv_topi (fun u_1 e_u_1 => ?_)
  replace hf := nm_y hf e_u_1
  refine lv_istore_n (lv' := [(2, .int u_1), (0, .ref (ae 0)), (1, .ref (ar 0))]) hx hb dX4_readItem_4 rfl hl (by decide) rfl (fun ls hl => ?_)
  refine lv_aload_n hx hb dX4_readItem_5 rfl (lv_at hl 1 rfl) ?_
  refine lv_aload_n hx hb dX4_readItem_6 rfl (lv_at hl 1 rfl) ?_
  obtain ⟨r_2, hg_3, hf⟩ := bd_of hf
  refine kt_VF (As := []) (rest := [.ref (ae 0)]) (st1 := [.int r_2, .ref (ae 0)]) (b := ae 0) (wc' := wE γ ae (.ref (aw 0)) se ++ (wW γ aw sw sl ++ wR γ ar sr)) C0 (c_X4_wordHere l γ ae aw hg_3) (cxV (nA := 0) hts goodU U562 U564 U12 U86 U565 (by decide +kernel) ⟨Nat.le_of_ble_eq_true rfl, Nat.le_of_ble_eq_true rfl⟩) hP (hD _ _ _ _) hS hl dX4_readItem_7 focB12 0 4 rfl rfl rfl rfl (Nat.le_of_ble_eq_true rfl) rfl rfl (fun H locs hP hS => ?_)
  refine va_put (D := γ.1) (ci := 4) (v := .int r_2) (ty := .int) (C := RX4) (T := TX4) (N := 5) hx hb hU uin4 tyX4 tyX4_ok nmX4 hown hK hP (hD _ _ _ _) hS 0 rfl rfl 3 (by decide) (hU _ U208) (fun _ h9 => h9) rfl (by decide +kernel) rfl rfl (Nat.le_of_ble_eq_true rfl) dX4_readItem_10 (fun H locs hP _ hS => ?_)
  obtain ⟨se_4, e_se_4, hf⟩ := nm_of hf
  replace hP : va_P γ.1 vwCl (wE γ ae (.ref (aw 0)) se_4 ++ (wW γ aw sw sl ++ wR γ ar sr)) H := by rw [e_se_4]; exact hP
  refine lv_aload_n hx hb dX4_readItem_13 rfl (lv_at hl 1 rfl) ?_
  refine va_get (D := γ.1) (ci := 4) (v := .int (se_4 0 3)) (C := RX4) (T := TX4) (N := 5) hx hb hU uin4 hown hK hP 0 rfl rfl 3 (by decide) (hU _ U208) (fun _ h9 => h9) rfl dX4_readItem_14 ?_
  refine lv_iconst (v := -1) hx hb dX4_readItem_17 (by decide) ?_
  refine lv_icmp_ne (tgt := 30) hx hb dX4_readItem_18 (by decide) (fun c_5 => ?_) (fun c_5 => ?_)
  · replace hf := ite_n c_5 hf
    refine lv_aload_n hx hb dX4_readItem_30 rfl (lv_at hl 1 rfl) ?_
    refine va_get (D := γ.1) (ci := 4) (v := .int (se_4 0 3)) (C := RX4) (T := TX4) (N := 5) hx hb hU uin4 hown hK hP 0 rfl rfl 3 (by decide) (hU _ U208) (fun _ h9 => h9) rfl dX4_readItem_31 ?_
    obtain ⟨si_6, hg_7, hf⟩ := bd_of hf
    refine kt_SF (As := [.int (se_4 0 3)]) (rest := []) (st1 := [.ref (sad γ si_6)]) (wc' := wE γ ae (.ref (aw 0)) se_4 ++ (wW γ aw sw sl ++ wR γ ar sr)) C0 (c_X4_lettersOf l γ hg_7) (cxS (nA := 1) hts goodU U574 U575 U86 U576 (by decide +kernel) ⟨Nat.le_of_ble_eq_true rfl, Nat.le_of_ble_eq_true rfl⟩) hP (hD _ _ _ _) hS hl dX4_readItem_34 foc_nil rfl (Nat.le_of_ble_eq_true rfl) rfl rfl (fun H locs hP hS => ?_)
    refine lv_astore_n (lv' := [(3, .ref (sad γ si_6)), (2, .int u_1), (0, .ref (ae 0)), (1, .ref (ar 0))]) hx hb dX4_readItem_37 rfl hl (by decide) rfl (fun ls hl => ?_)
    refine lv_iconst (v := 0) hx hb dX4_readItem_38 (by decide) ?_
    refine lv_istore (lv' := [(4, .int (0 : Int32)), (3, .ref (sad γ si_6)), (2, .int u_1), (0, .ref (ae 0)), (1, .ref (ar 0))]) hx hb dX4_readItem_39 hl (by decide) rfl (fun ls hl => ?_)
    refine L41 u_1 si_6 _ (fun se_21 H locs ls hf hP hS hl => ?_) FU (0 : Int32) se_4 _ _ _ hf hP hS (lv_sub hl [3, 4, 2, 1, 0] rfl)
    refine lv_aload_n hx hb dX4_readItem_71 rfl (lv_at hl 0 rfl) ?_
    refine lv_aload_n hx hb dX4_readItem_72 rfl (lv_at hl 1 rfl) ?_
    obtain ⟨r_22, hg_23, hf⟩ := bd_of hf
    refine kt_VF (As := [.ref (ar 0)]) (rest := []) (st1 := [.int r_22]) (b := ae 0) (wc' := wE γ ae (.ref (aw 0)) se_21 ++ (wW γ aw sw sl ++ wR γ ar sr)) C0 (c_X4_hasRoom l γ ae ar (.ref (aw 0)) hg_23) (cxV (nA := 1) hts goodU U639 U641 U16 U86 U642 (by decide +kernel) ⟨Nat.le_of_ble_eq_true rfl, Nat.le_of_ble_eq_true rfl⟩) hP (hD _ _ _ _) hS hl dX4_readItem_73 focB13 0 4 rfl rfl rfl rfl (Nat.le_of_ble_eq_true rfl) rfl rfl (fun H locs hP hS => ?_)
    refine lv_if_ne (tgt := 85) hx hb dX4_readItem_76 (by decide) (fun c_24 => ?_) (fun c_24 => ?_)
    · replace hf := ite_n c_24 hf
      refine lv_iconst (v := 0) hx hb dX4_readItem_85 (by decide) ?_
      refine lv_istore (lv' := [(4, .int (0 : Int32)), (0, .ref (ae 0)), (1, .ref (ar 0)), (2, .int u_1)]) hx hb dX4_readItem_86 hl (by decide) rfl (fun ls hl => ?_)
      exact L88 FU (0 : Int32) se_21 _ _ _ hf hP hS (lv_sub hl [1, 2, 0] rfl)
    · replace hf := ite_p c_24 hf
      refine lv_aload_n hx hb dX4_readItem_79 rfl (lv_at hl 0 rfl) ?_
      refine lv_iload_n hx hb dX4_readItem_80 rfl (lv_at hl 2 rfl) ?_
      obtain ⟨r_38, se_39, hg_40, hf⟩ := bd2_of hf
      refine kt_VF (As := [.int u_1]) (rest := []) (st1 := [.int r_38]) (b := ae 0) (wc' := wE γ ae (.ref (aw 0)) se_39 ++ (wW γ aw sw sl ++ wR γ ar sr)) C0 (c_X4_faultAt l γ ae (.ref (aw 0)) hg_40) (cxV (nA := 1) hts goodU U623 U625 U14 U86 U626 (by decide +kernel) ⟨Nat.le_of_ble_eq_true rfl, Nat.le_of_ble_eq_true rfl⟩) hP (hD _ _ _ _) hS hl dX4_readItem_81 focB1 0 4 rfl rfl rfl rfl (Nat.le_of_ble_eq_true rfl) rfl rfl (fun H locs hP hS => ?_)
      obtain ⟨g_41, hf⟩ := gd_of hf
      obtain ⟨rfl, rfl⟩ := rt2 hf
      exact kt_zret C0 (isZ_nar g_41) hP hS dX4_readItem_84
  · replace hf := ite_p c_5 hf
    refine lv_aload_n hx hb dX4_readItem_21 rfl (lv_at hl 1 rfl) ?_
    refine lv_aload_n hx hb dX4_readItem_22 rfl (lv_at hl 1 rfl) ?_
    refine va_get (D := γ.1) (ci := 4) (v := .int (se_4 0 1)) (C := RX4) (T := TX4) (N := 5) hx hb hU uin4 hown hK hP 0 rfl rfl 1 (by decide) (hU _ U205) (fun _ h9 => h9) rfl dX4_readItem_23 ?_
    obtain ⟨r_42, se_43, hg_44, hf⟩ := bd2_of hf
    refine kt_VF (As := [.int (se_4 0 1)]) (rest := []) (st1 := [.int r_42]) (b := ae 0) (wc' := wE γ ae (.ref (aw 0)) se_43 ++ (wW γ aw sw sl ++ wR γ ar sr)) C0 (c_X4_faultAt l γ ae (.ref (aw 0)) hg_44) (cxV (nA := 1) hts goodU U623 U625 U14 U86 U626 (by decide +kernel) ⟨Nat.le_of_ble_eq_true rfl, Nat.le_of_ble_eq_true rfl⟩) hP (hD _ _ _ _) hS hl dX4_readItem_26 focB1 0 4 rfl rfl rfl rfl (Nat.le_of_ble_eq_true rfl) rfl rfl (fun H locs hP hS => ?_)
    obtain ⟨g_45, hf⟩ := gd_of hf
    obtain ⟨rfl, rfl⟩ := rt2 hf
    exact kt_zret C0 (isZ_nar g_45) hP hS dX4_readItem_29
set_option maxHeartbeats 4000000 in
set_option maxRecDepth 100000 in
theorem c_X4_goesOn (l : Launch) (γ : Gm) (ae : Nat → Nat) (aw : Nat → Nat) {se : GS} {sw : GS} {sl : Nat → Int64} {rv : Int32} {se_z : GS} (hf : f_X4_goesOn se sw sl = some (rv, se_z)) : Kt l γ yX4_goesOn (Cond.code yX4_goesOn cX4_goesOn 1 (some .boolean) :: U) 4 83 [.ref (ae 0)] (wE γ ae (.ref (aw 0)) se ++ wW γ aw sw sl) (some (.int rv)) (wE γ ae (.ref (aw 0)) se_z ++ wW γ aw sw sl) := by
  refine Kt.of (by decide) rfl (Nat.le_of_ble_eq_true rfl) rfl ?_
  intro p e s m below meth c A ls C0 hP hD0 hS hl
  obtain ⟨hx, hb, hml, hown, hts, hr, hlocks, hK, hE, hA⟩ := id C0
  have hU : ∀ w ∈ U, w.before _ s = true := fun w h => hts w (List.mem_cons_of_mem _ h)
  have hD : ∀ (se : GS) (sw : GS) (sl : Nat → Int64), va_D A (wE γ ae (.ref (aw 0)) se ++ wW γ aw sw sl) := fun _ _ _ => hD0.fst rfl
  have hl : lv_has ls 1 [(0, .ref (ae 0))] := hl
  unfold f_X4_goesOn at hf
  refine lv_aload_n hx hb dX4_goesOn_0 rfl (lv_at hl 0 rfl) ?_
  refine va_get (D := γ.1) (ci := 4) (v := .ref (aw 0)) (C := RX4) (T := TX4) (N := 5) hx hb hU uin4 hown hK hP 0 rfl rfl 0 (by decide) (hU _ U204) (fun _ h9 => h9) rfl dX4_goesOn_1 ?_
  refine lv_ifnull hx hb dX4_goesOn_4 ?_
  refine lv_aload_n hx hb dX4_goesOn_7 rfl (lv_at hl 0 rfl) ?_
  refine va_get (D := γ.1) (ci := 4) (v := .int (se 0 1)) (C := RX4) (T := TX4) (N := 5) hx hb hU uin4 hown hK hP 0 rfl rfl 1 (by decide) (hU _ U205) (fun _ h9 => h9) rfl dX4_goesOn_8 ?_
  refine lv_aload_n hx hb dX4_goesOn_11 rfl (lv_at hl 0 rfl) ?_
  refine va_get (D := γ.1) (ci := 4) (v := .ref (aw 0)) (C := RX4) (T := TX4) (N := 5) hx hb hU uin4 hown hK hP 0 rfl rfl 0 (by decide) (hU _ U204) (fun _ h9 => h9) rfl dX4_goesOn_12 ?_
  refine va_getN (D := γ.1) (ci := 5) (v := .int (sw 0 2)) (C := RX5) (T := TX5) (N := 3) hx hb hU uin5 hown hK hP 2 rfl rfl 2 (by decide) (va_Nw.use rfl (hE.2.2.2.2.2.1 _ NW38)) (fun _ h9 => h9) rfl dX4_goesOn_15 ?_
  refine lv_icmp_ge (tgt := 34) hx hb dX4_goesOn_18 (by decide) (fun c_1 => ?_) (fun c_1 => ?_)
  · replace hf := ite_p c_1 hf
    refine lv_iconst (v := 0) hx hb dX4_goesOn_34 (by decide) ?_
    obtain ⟨rfl, rfl⟩ := rt2 hf
    exact kt_zret C0 (by decide) hP hS dX4_goesOn_35
  · replace hf := ite_n c_1 hf
    refine lv_aload_n hx hb dX4_goesOn_21 rfl (lv_at hl 0 rfl) ?_
    refine lv_bipush (v := 59) hx hb dX4_goesOn_22 (by decide) ?_
    obtain ⟨r_2, se_3, hg_4, hf⟩ := bd2_of hf
    refine kt_V0 (As := [.int (59 : Int32)]) (rest := []) (st1 := [.int r_2]) (b := ae 0) C0 (c_X4_passLetter l γ ae aw hg_4) (cxV (nA := 1) hts goodU U635 U637 U15 U86 U638 (by decide +kernel) ⟨Nat.le_of_ble_eq_true rfl, Nat.le_of_ble_eq_true rfl⟩) hP (hD _ _ _) hS hl dX4_goesOn_24 0 4 rfl rfl rfl rfl (Nat.le_of_ble_eq_true rfl) rfl rfl (fun H locs hP hS => ?_)
    refine lv_if_eq (tgt := 34) hx hb dX4_goesOn_27 (by decide) (fun c_5 => ?_) (fun c_5 => ?_)
    · replace hf := ite_p c_5 hf
      refine lv_iconst (v := 0) hx hb dX4_goesOn_34 (by decide) ?_
      obtain ⟨rfl, rfl⟩ := rt2 hf
      exact kt_zret C0 (by decide) hP hS dX4_goesOn_35
    · replace hf := ite_n c_5 hf
      refine lv_iconst (v := 1) hx hb dX4_goesOn_30 (by decide) ?_
      refine lv_goto (tgt := 35) hx hb dX4_goesOn_31 (by decide) ?_
      obtain ⟨rfl, rfl⟩ := rt2 hf
      exact kt_zret C0 (by decide) hP hS dX4_goesOn_35
set_option maxHeartbeats 4000000 in
set_option maxRecDepth 100000 in
theorem c_X4_comeTrue (l : Launch) (γ : Gm) (ae : Nat → Nat) (ar : Nat → Nat) (tx : Value) {se : GS} {sr : GS} {sr_z : GS} (hf : f_X4_comeTrue se sr = some sr_z) : Kt l γ yX4_comeTrue (Cond.code yX4_comeTrue cX4_comeTrue 2 none :: U) 5 117 [.ref (ae 0), .ref (ar 0)] (wE γ ae tx se ++ wR γ ar sr) none (wE γ ae tx se ++ wR γ ar sr_z) := by
  refine Kt.of (by decide) rfl (Nat.le_of_ble_eq_true rfl) rfl ?_
  intro p e s m below meth c A ls C0 hP hD0 hS hl
  obtain ⟨hx, hb, hml, hown, hts, hr, hlocks, hK, hE, hA⟩ := id C0
  have hU : ∀ w ∈ U, w.before _ s = true := fun w h => hts w (List.mem_cons_of_mem _ h)
  have hD : ∀ (se : GS) (sr : GS), va_D A (wE γ ae tx se ++ wR γ ar sr) := fun _ _ => hD0.fst rfl
  have hl : lv_has ls 2 [(0, .ref (ae 0)), (1, .ref (ar 0))] := hl
  unfold f_X4_comeTrue at hf
  refine lv_aload_n hx hb dX4_comeTrue_0 rfl (lv_at hl 0 rfl) ?_
  refine va_get (D := γ.1) (ci := 4) (v := .int (se 0 3)) (C := RX4) (T := TX4) (N := 5) hx hb hU uin4 hown hK hP 0 rfl rfl 3 (by decide) (hU _ U208) (fun _ h9 => h9) rfl dX4_comeTrue_1 ?_
  by_cases c_1 : (se 0 3) = (0 : Int32)
  · replace hf := ite_p c_1 hf
    refine lv_tableIn (off := 36) (tgt := 40) hx hb dX4_comeTrue_4 (by rw [c_1]; decide) (by rw [c_1]; decide) (by rw [c_1]; rfl) (by decide) ?_
    refine lv_aload_n hx hb dX4_comeTrue_40 rfl (lv_at hl 1 rfl) ?_
    refine lv_aload_n hx hb dX4_comeTrue_41 rfl (lv_at hl 0 rfl) ?_
    refine va_get (D := γ.1) (ci := 4) (v := .ref (ae 5)) (C := RX4) (T := TX4) (N := 5) hx hb hU uin4 hown hK hP 0 rfl rfl 4 (by decide) (hU _ U209) (fun _ h9 => h9) rfl dX4_comeTrue_42 ?_
    refine lv_iconst (v := 0) hx hb dX4_comeTrue_45 (by decide) ?_
    refine va_iald hx hb hK hP 1 0 rfl rfl (inB_vp (n := 4) (by decide)) dX4_comeTrue_46 ?_
    refine lv_aload_n hx hb dX4_comeTrue_47 rfl (lv_at hl 0 rfl) ?_
    refine va_get (D := γ.1) (ci := 4) (v := .ref (ae 5)) (C := RX4) (T := TX4) (N := 5) hx hb hU uin4 hown hK hP 0 rfl rfl 4 (by decide) (hU _ U209) (fun _ h9 => h9) rfl dX4_comeTrue_48 ?_
    refine lv_iconst (v := 1) hx hb dX4_comeTrue_51 (by decide) ?_
    refine va_iald hx hb hK hP 1 0 rfl rfl (inB_vp (n := 4) (by decide)) dX4_comeTrue_52 ?_
    refine lv_aload_n hx hb dX4_comeTrue_53 rfl (lv_at hl 0 rfl) ?_
    refine va_get (D := γ.1) (ci := 4) (v := .ref (ae 5)) (C := RX4) (T := TX4) (N := 5) hx hb hU uin4 hown hK hP 0 rfl rfl 4 (by decide) (hU _ U209) (fun _ h9 => h9) rfl dX4_comeTrue_54 ?_
    refine lv_iconst (v := 2) hx hb dX4_comeTrue_57 (by decide) ?_
    refine va_iald hx hb hK hP 1 0 rfl rfl (inB_vp (n := 4) (by decide)) dX4_comeTrue_58 ?_
    refine lv_aload_n hx hb dX4_comeTrue_59 rfl (lv_at hl 0 rfl) ?_
    refine va_get (D := γ.1) (ci := 4) (v := .ref (ae 5)) (C := RX4) (T := TX4) (N := 5) hx hb hU uin4 hown hK hP 0 rfl rfl 4 (by decide) (hU _ U209) (fun _ h9 => h9) rfl dX4_comeTrue_60 ?_
    refine lv_iconst (v := 3) hx hb dX4_comeTrue_63 (by decide) ?_
    refine va_iald hx hb hK hP 1 0 rfl rfl (inB_vp (n := 4) (by decide)) dX4_comeTrue_64 ?_
    obtain ⟨r_2, sr_3, hg_4, hf⟩ := bd2_of hf
    refine kt_VF (As := [.int (se 5 (0 : Int32).toNatClampNeg), .int (se 5 (1 : Int32).toNatClampNeg), .int (se 5 (2 : Int32).toNatClampNeg), .int (se 5 (3 : Int32).toNatClampNeg)]) (rest := []) (st1 := [.int r_2]) (b := ar 0) (wc' := wE γ ae tx se ++ wR γ ar sr_3) C0 (c_X3_addPeak l γ ar hg_4) (cxV (nA := 4) hts goodU U672 U478 U479 U85 U480 (by decide +kernel) ⟨Nat.le_of_ble_eq_true rfl, Nat.le_of_ble_eq_true rfl⟩) hP (hD _ _) hS hl dX4_comeTrue_65 focA2 0 3 rfl rfl rfl rfl (Nat.le_of_ble_eq_true rfl) rfl rfl (fun H locs hP hS => ?_)
    refine lv_pop hx hb dX4_comeTrue_68 rfl ?_
    refine lv_goto (tgt := 155) hx hb dX4_comeTrue_69 (by decide) ?_
    obtain rfl := Option.some.inj hf
    exact kt_vret C0 hP hS dX4_comeTrue_155
  · replace hf := ite_n c_1 hf
    by_cases c_5 : (se 0 3) = (1 : Int32)
    · replace hf := ite_p c_5 hf
      refine lv_tableIn (off := 68) (tgt := 72) hx hb dX4_comeTrue_4 (by rw [c_5]; decide) (by rw [c_5]; decide) (by rw [c_5]; rfl) (by decide) ?_
      refine lv_aload_n hx hb dX4_comeTrue_72 rfl (lv_at hl 1 rfl) ?_
      refine lv_aload_n hx hb dX4_comeTrue_73 rfl (lv_at hl 0 rfl) ?_
      refine va_get (D := γ.1) (ci := 4) (v := .ref (ae 5)) (C := RX4) (T := TX4) (N := 5) hx hb hU uin4 hown hK hP 0 rfl rfl 4 (by decide) (hU _ U209) (fun _ h9 => h9) rfl dX4_comeTrue_74 ?_
      refine lv_iconst (v := 0) hx hb dX4_comeTrue_77 (by decide) ?_
      refine va_iald hx hb hK hP 1 0 rfl rfl (inB_vp (n := 4) (by decide)) dX4_comeTrue_78 ?_
      refine lv_aload_n hx hb dX4_comeTrue_79 rfl (lv_at hl 0 rfl) ?_
      refine va_get (D := γ.1) (ci := 4) (v := .ref (ae 5)) (C := RX4) (T := TX4) (N := 5) hx hb hU uin4 hown hK hP 0 rfl rfl 4 (by decide) (hU _ U209) (fun _ h9 => h9) rfl dX4_comeTrue_80 ?_
      refine lv_iconst (v := 1) hx hb dX4_comeTrue_83 (by decide) ?_
      refine va_iald hx hb hK hP 1 0 rfl rfl (inB_vp (n := 4) (by decide)) dX4_comeTrue_84 ?_
      obtain ⟨r_6, sr_7, hg_8, hf⟩ := bd2_of hf
      refine kt_VF (As := [.int (se 5 (0 : Int32).toNatClampNeg), .int (se 5 (1 : Int32).toNatClampNeg)]) (rest := []) (st1 := [.int r_6]) (b := ar 0) (wc' := wE γ ae tx se ++ wR γ ar sr_7) C0 (c_X3_addScreen l γ ar hg_8) (cxV (nA := 2) hts goodU U673 U510 U511 U85 U512 (by decide +kernel) ⟨Nat.le_of_ble_eq_true rfl, Nat.le_of_ble_eq_true rfl⟩) hP (hD _ _) hS hl dX4_comeTrue_85 focA2 0 3 rfl rfl rfl rfl (Nat.le_of_ble_eq_true rfl) rfl rfl (fun H locs hP hS => ?_)
      refine lv_pop hx hb dX4_comeTrue_88 rfl ?_
      refine lv_goto (tgt := 155) hx hb dX4_comeTrue_89 (by decide) ?_
      obtain rfl := Option.some.inj hf
      exact kt_vret C0 hP hS dX4_comeTrue_155
    · replace hf := ite_n c_5 hf
      by_cases c_9 : (se 0 3) = (2 : Int32)
      · replace hf := ite_p c_9 hf
        refine lv_tableIn (off := 88) (tgt := 92) hx hb dX4_comeTrue_4 (by rw [c_9]; decide) (by rw [c_9]; decide) (by rw [c_9]; rfl) (by decide) ?_
        refine lv_aload_n hx hb dX4_comeTrue_92 rfl (lv_at hl 1 rfl) ?_
        refine lv_aload_n hx hb dX4_comeTrue_93 rfl (lv_at hl 0 rfl) ?_
        refine va_get (D := γ.1) (ci := 4) (v := .ref (ae 5)) (C := RX4) (T := TX4) (N := 5) hx hb hU uin4 hown hK hP 0 rfl rfl 4 (by decide) (hU _ U209) (fun _ h9 => h9) rfl dX4_comeTrue_94 ?_
        refine lv_iconst (v := 0) hx hb dX4_comeTrue_97 (by decide) ?_
        refine va_iald hx hb hK hP 1 0 rfl rfl (inB_vp (n := 4) (by decide)) dX4_comeTrue_98 ?_
        obtain ⟨r_10, sr_11, hg_12, hf⟩ := bd2_of hf
        refine kt_VF (As := [.int (se 5 (0 : Int32).toNatClampNeg)]) (rest := []) (st1 := [.int r_10]) (b := ar 0) (wc' := wE γ ae tx se ++ wR γ ar sr_11) C0 (c_X3_addValley l γ ar hg_12) (cxV (nA := 1) hts goodU U674 U518 U519 U85 U520 (by decide +kernel) ⟨Nat.le_of_ble_eq_true rfl, Nat.le_of_ble_eq_true rfl⟩) hP (hD _ _) hS hl dX4_comeTrue_99 focA2 0 3 rfl rfl rfl rfl (Nat.le_of_ble_eq_true rfl) rfl rfl (fun H locs hP hS => ?_)
        refine lv_pop hx hb dX4_comeTrue_102 rfl ?_
        refine lv_goto (tgt := 155) hx hb dX4_comeTrue_103 (by decide) ?_
        obtain rfl := Option.some.inj hf
        exact kt_vret C0 hP hS dX4_comeTrue_155
      · replace hf := ite_n c_9 hf
        by_cases c_13 : (se 0 3) = (3 : Int32)
        · replace hf := ite_p c_13 hf
          refine lv_tableIn (off := 102) (tgt := 106) hx hb dX4_comeTrue_4 (by rw [c_13]; decide) (by rw [c_13]; decide) (by rw [c_13]; rfl) (by decide) ?_
          refine lv_aload_n hx hb dX4_comeTrue_106 rfl (lv_at hl 1 rfl) ?_
          refine lv_aload_n hx hb dX4_comeTrue_107 rfl (lv_at hl 0 rfl) ?_
          refine va_get (D := γ.1) (ci := 4) (v := .ref (ae 5)) (C := RX4) (T := TX4) (N := 5) hx hb hU uin4 hown hK hP 0 rfl rfl 4 (by decide) (hU _ U209) (fun _ h9 => h9) rfl dX4_comeTrue_108 ?_
          refine lv_iconst (v := 0) hx hb dX4_comeTrue_111 (by decide) ?_
          refine va_iald hx hb hK hP 1 0 rfl rfl (inB_vp (n := 4) (by decide)) dX4_comeTrue_112 ?_
          refine lv_aload_n hx hb dX4_comeTrue_113 rfl (lv_at hl 0 rfl) ?_
          refine va_get (D := γ.1) (ci := 4) (v := .ref (ae 5)) (C := RX4) (T := TX4) (N := 5) hx hb hU uin4 hown hK hP 0 rfl rfl 4 (by decide) (hU _ U209) (fun _ h9 => h9) rfl dX4_comeTrue_114 ?_
          refine lv_iconst (v := 1) hx hb dX4_comeTrue_117 (by decide) ?_
          refine va_iald hx hb hK hP 1 0 rfl rfl (inB_vp (n := 4) (by decide)) dX4_comeTrue_118 ?_
          refine lv_iconst (v := 1) hx hb dX4_comeTrue_119 (by decide) ?_
          obtain ⟨sr_14, hg_15, hf⟩ := bd_of hf
          refine kt_VF (As := [.int (se 5 (0 : Int32).toNatClampNeg), .int (se 5 (1 : Int32).toNatClampNeg), .int (1 : Int32)]) (rest := []) (st1 := []) (b := ar 0) (wc' := wE γ ae tx se ++ wR γ ar sr_14) C0 (c_X3_putUnder l γ ar hg_15) (cxV (nA := 3) hts goodU U675 U530 U531 U85 U532 (by decide +kernel) ⟨Nat.le_of_ble_eq_true rfl, Nat.le_of_ble_eq_true rfl⟩) hP (hD _ _) hS hl dX4_comeTrue_120 focA2 0 3 rfl rfl rfl rfl (Nat.le_of_ble_eq_true rfl) rfl rfl (fun H locs hP hS => ?_)
          refine lv_goto (tgt := 155) hx hb dX4_comeTrue_123 (by decide) ?_
          obtain rfl := Option.some.inj hf
          exact kt_vret C0 hP hS dX4_comeTrue_155
        · replace hf := ite_n c_13 hf
          by_cases c_16 : (se 0 3) = (4 : Int32)
          · replace hf := ite_p c_16 hf
            refine lv_tableIn (off := 122) (tgt := 126) hx hb dX4_comeTrue_4 (by rw [c_16]; decide) (by rw [c_16]; decide) (by rw [c_16]; rfl) (by decide) ?_
            refine lv_aload_n hx hb dX4_comeTrue_126 rfl (lv_at hl 1 rfl) ?_
            refine lv_dup hx hb dX4_comeTrue_127 rfl ?_
            refine va_getN (D := γ.1) (ci := 3) (v := .int (sr 0 16)) (C := RX3) (T := TX3) (N := 18) hx hb hU uin3 hown hK hP 2 rfl rfl 16 (by decide) (va_Nw.use rfl (hE.2.2.2.2.2.1 _ NW26)) (fun _ h9 => h9) rfl dX4_comeTrue_128 ?_
            refine lv_aload_n hx hb dX4_comeTrue_131 rfl (lv_at hl 0 rfl) ?_
            refine va_get (D := γ.1) (ci := 4) (v := .ref (ae 5)) (C := RX4) (T := TX4) (N := 5) hx hb hU uin4 hown hK hP 0 rfl rfl 4 (by decide) (hU _ U209) (fun _ h9 => h9) rfl dX4_comeTrue_132 ?_
            refine lv_iconst (v := 0) hx hb dX4_comeTrue_135 (by decide) ?_
            refine va_iald hx hb hK hP 1 0 rfl rfl (inB_vp (n := 4) (by decide)) dX4_comeTrue_136 ?_
            refine lv_iadd hx hb dX4_comeTrue_137 ?_
            refine lv_topi (fun u_17 e_u_17 => ?_)
            replace hf := nm_y hf e_u_17
            refine va_putN (D := γ.1) (ci := 3) (v := .int u_17) (ty := .int) (C := RX3) (T := TX3) (N := 18) hx hb hU uin3 tyX3 tyX3_ok nmX3 hown hK hP (hD _ _) hS 2 rfl rfl 16 (by decide) (va_Nw.use rfl (hE.2.2.2.2.2.1 _ NW26)) (fun _ h9 => h9) rfl (by decide +kernel) rfl rfl (Nat.le_of_ble_eq_true rfl) dX4_comeTrue_138 (fun H locs hP _ hS => ?_)
            obtain ⟨sr_18, e_sr_18, hf⟩ := nm_of hf
            replace hP : va_P γ.1 vwCl (wE γ ae tx se ++ wR γ ar sr_18) H := by rw [e_sr_18]; exact hP
            refine lv_goto (tgt := 155) hx hb dX4_comeTrue_141 (by decide) ?_
            obtain rfl := Option.some.inj hf
            exact kt_vret C0 hP hS dX4_comeTrue_155
          · replace hf := ite_n c_16 hf
            refine lv_tableOut (tgt := 144) hx hb dX4_comeTrue_4 (by have := lv_neT c_1 (a := 0) (by decide); have := lv_neT c_5 (a := 1) (by decide); have := lv_neT c_9 (a := 2) (by decide); have := lv_neT c_13 (a := 3) (by decide); have := lv_neT c_16 (a := 4) (by decide); omega) (by decide) ?_
            refine lv_aload_n hx hb dX4_comeTrue_144 rfl (lv_at hl 1 rfl) ?_
            refine lv_aload_n hx hb dX4_comeTrue_145 rfl (lv_at hl 0 rfl) ?_
            refine va_get (D := γ.1) (ci := 4) (v := .ref (ae 5)) (C := RX4) (T := TX4) (N := 5) hx hb hU uin4 hown hK hP 0 rfl rfl 4 (by decide) (hU _ U209) (fun _ h9 => h9) rfl dX4_comeTrue_146 ?_
            refine lv_iconst (v := 0) hx hb dX4_comeTrue_149 (by decide) ?_
            refine va_iald hx hb hK hP 1 0 rfl rfl (inB_vp (n := 4) (by decide)) dX4_comeTrue_150 ?_
            obtain ⟨r_19, sr_20, hg_21, hf⟩ := bd2_of hf
            refine kt_VF (As := [.int (se 5 (0 : Int32).toNatClampNeg)]) (rest := []) (st1 := [.int r_19]) (b := ar 0) (wc' := wE γ ae tx se ++ wR γ ar sr_20) C0 (c_X3_lose l γ ar hg_21) (cxV (nA := 1) hts goodU U676 U677 U678 U85 U679 (by decide +kernel) ⟨Nat.le_of_ble_eq_true rfl, Nat.le_of_ble_eq_true rfl⟩) hP (hD _ _) hS hl dX4_comeTrue_151 focA2 0 3 rfl rfl rfl rfl (Nat.le_of_ble_eq_true rfl) rfl rfl (fun H locs hP hS => ?_)
            refine lv_pop hx hb dX4_comeTrue_154 rfl ?_
            obtain rfl := Option.some.inj hf
            exact kt_vret C0 hP hS dX4_comeTrue_155
