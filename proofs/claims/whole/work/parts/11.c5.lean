set_option maxHeartbeats 4000000 in
set_option maxRecDepth 100000 in
theorem c_X5_begin (l : Launch) (γ : Gm) (aw : Nat → Nat) {sw : GS} {sl : Nat → Int64} {x1 : Int32} {x2 : Int32} {sw_z : GS} {sl_z : Nat → Int64} (hf : f_X5_begin sw sl x1 x2 = some (sw_z, sl_z)) : Kt l γ yX5_begin (Cond.code yX5_begin cX5_begin 4 none :: U) 0 0 [.ref (aw 0), .int x1, .int x2] (wW γ aw sw sl) none (wW γ aw sw_z sl_z) := by
  refine Kt.of (by decide) rfl (Nat.le_of_ble_eq_true rfl) rfl ?_
  intro p e s m below meth c A ls C0 hP hD0 hS hl
  obtain ⟨hx, hb, hml, hown, hts, hr, hlocks, hK, hE, hA⟩ := id C0
  have hU : ∀ w ∈ U, w.before _ s = true := fun w h => hts w (List.mem_cons_of_mem _ h)
  have hD : ∀ (sw : GS) (sl : Nat → Int64), va_D A (wW γ aw sw sl) := fun _ _ => hD0.fst rfl
  have hl : lv_has ls 4 [(0, .ref (aw 0)), (1, .int x1), (2, .int x2)] := hl
  have L12 : ∀ (x2_3 : Int32) (sw_5 : GS) (n : Nat) (x3_4 : Int32) (sl_6 : Nat → Int64) (H : Heap) (locs : List Loc) (ls : Array Slot), f_X5_begin_L12 x2_3 sw_5 n x3_4 sl_6 = some (sw_z, sl_z) → va_P γ.1 vwCl (wW γ aw sw_5 sl_6) H → va_S A s.heap H locs → lv_has ls 4 [(0, .ref (aw 0)), (2, .int x2_3), (3, .int x3_4)] → W p l e (rmK 0 0) s m ([.ref (aw 0), .int x1, .int x2] : List Value).toArray below meth c H locs 0 0 (MQ below (KQ γ A none (wW γ aw sw_z sl_z)) ([.ref (aw 0), .int x1, .int x2] : List Value).toArray s 0 0 A) (F0 m 12 ls []) := by
    intro x2_3 sw_5
    intro n
    induction n with
    | zero =>
      intro x3_4 sl_6 H locs ls hf
      have hf : none = some _ := hf
      cases hf
    | succ n ih =>
      intro x3_4 sl_6 H locs ls hf hP hS hl
      rw [f_X5_begin_L12.eq_2] at hf
      refine lv_iload_n hx hb dX5_begin_12 rfl (lv_at hl 2 rfl) ?_
      refine lv_iload_n hx hb dX5_begin_13 rfl (lv_at hl 1 rfl) ?_
      refine lv_icmp_ge (tgt := 30) hx hb dX5_begin_14 (by decide) (fun c_7 => ?_) (fun c_7 => ?_)
      · replace hf := ite_p c_7 hf
        obtain ⟨rfl, rfl⟩ := rt2 hf
        exact kt_vret C0 hP hS dX5_begin_30
      · replace hf := ite_n c_7 hf
        refine lv_aload_n hx hb dX5_begin_17 rfl (lv_at hl 0 rfl) ?_
        refine va_get (D := γ.1) (ci := 5) (v := .ref (aw 1)) (C := RX5) (T := TX5) (N := 3) hx hb hU uin5 hown hK hP 0 rfl rfl 0 (by decide) (hU _ U286) (fun _ h9 => h9) rfl dX5_begin_18 ?_
        refine lv_iload_n hx hb dX5_begin_21 rfl (lv_at hl 2 rfl) ?_
        refine lv_lconst (v := 0) hx hb dX5_begin_22 (by decide) ?_
        obtain ⟨g_8, hf⟩ := gd_of hf
        refine va_last hx hb hK hP (hD _ _) hS 1 1 rfl rfl (inB_vp g_8) dX5_begin_23 (fun H locs hP _ hS => ?_)
        obtain ⟨sl_9, e_sl_9, hf⟩ := nm_of hf
        replace hP : va_P γ.1 vwCl (wW γ aw sw_5 sl_9) H := by rw [e_sl_9]; exact hP
        obtain ⟨x3_10, e_x3_10⟩ : ∃ y : Int32, y = x3_4 + (1 : Int32) := ⟨_, rfl⟩
        replace hf := nm_y hf e_x3_10
        refine lv_iinc (v := x3_10) (lv' := [(3, .int x3_10), (0, .ref (aw 0)), (2, .int x2_3)]) hx hb dX5_begin_24 hl (k := 2) rfl (by rw [e_x3_10]; rfl) (by decide) rfl (fun ls hl => ?_)
        refine lv_goto (tgt := 12) hx hb dX5_begin_27 (by decide) ?_
        exact ih x3_10 sl_9 _ _ _ hf hP hS (lv_sub hl [1, 2, 0] rfl)
  unfold f_X5_begin at hf
  refine lv_aload_n hx hb dX5_begin_0 rfl (lv_at hl 0 rfl) ?_
  refine lv_iload_n hx hb dX5_begin_1 rfl (lv_at hl 1 rfl) ?_
  refine va_put (D := γ.1) (ci := 5) (v := .int x1) (ty := .int) (C := RX5) (T := TX5) (N := 3) hx hb hU uin5 tyX5 tyX5_ok nmX5 hown hK hP (hD _ _) hS 0 rfl rfl 1 (by decide) (hU _ U287) (fun _ h9 => h9) rfl (by decide +kernel) rfl rfl (Nat.le_of_ble_eq_true rfl) dX5_begin_2 (fun H locs hP _ hS => ?_)
  obtain ⟨sw_1, e_sw_1, hf⟩ := nm_of hf
  replace hP : va_P γ.1 vwCl (wW γ aw sw_1 sl) H := by rw [e_sw_1]; exact hP
  refine lv_aload_n hx hb dX5_begin_5 rfl (lv_at hl 0 rfl) ?_
  refine lv_iload_n hx hb dX5_begin_6 rfl (lv_at hl 2 rfl) ?_
  refine va_put (D := γ.1) (ci := 5) (v := .int x2) (ty := .int) (C := RX5) (T := TX5) (N := 3) hx hb hU uin5 tyX5 tyX5_ok nmX5 hown hK hP (hD _ _) hS 0 rfl rfl 2 (by decide) (hU _ U288) (fun _ h9 => h9) rfl (by decide +kernel) rfl rfl (Nat.le_of_ble_eq_true rfl) dX5_begin_7 (fun H locs hP _ hS => ?_)
  obtain ⟨sw_2, e_sw_2, hf⟩ := nm_of hf
  replace hP : va_P γ.1 vwCl (wW γ aw sw_2 sl) H := by rw [e_sw_2]; exact hP
  refine lv_iconst (v := 0) hx hb dX5_begin_10 (by decide) ?_
  refine lv_istore_n (lv' := [(3, .int (0 : Int32)), (0, .ref (aw 0)), (1, .int x1), (2, .int x2)]) hx hb dX5_begin_11 rfl hl (by decide) rfl (fun ls hl => ?_)
  exact L12 x2 sw_2 FU (0 : Int32) sl _ _ _ hf hP hS (lv_sub hl [1, 3, 0] rfl)
set_option maxHeartbeats 4000000 in
set_option maxRecDepth 100000 in
theorem c_X5_hasRun (l : Launch) (γ : Gm) (aw : Nat → Nat) {sw : GS} {sl : Nat → Int64} {x1 : Int32} {x2 : Int32} {rv : Int32} (hf : f_X5_hasRun sw x1 x2 = some rv) : Kt l γ yX5_hasRun (Cond.code yX5_hasRun cX5_hasRun 3 (some .boolean) :: U) 0 0 [.ref (aw 0), .int x1, .int x2] (wW γ aw sw sl) (some (.int rv)) (wW γ aw sw sl) := by
  refine Kt.of (by decide) rfl (Nat.le_of_ble_eq_true rfl) rfl ?_
  intro p e s m below meth c A ls C0 hP hD0 hS hl
  obtain ⟨hx, hb, hml, hown, hts, hr, hlocks, hK, hE, hA⟩ := id C0
  have hU : ∀ w ∈ U, w.before _ s = true := fun w h => hts w (List.mem_cons_of_mem _ h)
  have hD : ∀ (sw : GS) (sl : Nat → Int64), va_D A (wW γ aw sw sl) := fun _ _ => hD0.fst rfl
  have hl : lv_has ls 3 [(0, .ref (aw 0)), (1, .int x1), (2, .int x2)] := hl
  unfold f_X5_hasRun at hf
  refine lv_iload_n hx hb dX5_hasRun_0 rfl (lv_at hl 1 rfl) ?_
  refine lv_if_lt (tgt := 18) hx hb dX5_hasRun_1 (by decide) (fun c_1 => ?_) (fun c_1 => ?_)
  · replace hf := ite_p c_1 hf
    refine lv_iconst (v := 0) hx hb dX5_hasRun_18 (by decide) ?_
    obtain rfl := Option.some.inj hf
    exact kt_zret C0 (by decide) hP hS dX5_hasRun_19
  · replace hf := ite_n c_1 hf
    refine lv_iload_n hx hb dX5_hasRun_4 rfl (lv_at hl 1 rfl) ?_
    refine lv_aload_n hx hb dX5_hasRun_5 rfl (lv_at hl 0 rfl) ?_
    refine va_get (D := γ.1) (ci := 5) (v := .int (sw 0 2)) (C := RX5) (T := TX5) (N := 3) hx hb hU uin5 hown hK hP 0 rfl rfl 2 (by decide) (hU _ U288) (fun _ h9 => h9) rfl dX5_hasRun_6 ?_
    refine lv_iload_n hx hb dX5_hasRun_9 rfl (lv_at hl 2 rfl) ?_
    refine lv_isub hx hb dX5_hasRun_10 ?_
    refine lv_icmp_gt (tgt := 18) hx hb dX5_hasRun_11 (by decide) (fun c_2 => ?_) (fun c_2 => ?_)
    · replace hf := ite_p c_2 hf
      refine lv_iconst (v := 0) hx hb dX5_hasRun_18 (by decide) ?_
      obtain rfl := Option.some.inj hf
      exact kt_zret C0 (by decide) hP hS dX5_hasRun_19
    · replace hf := ite_n c_2 hf
      refine lv_iconst (v := 1) hx hb dX5_hasRun_14 (by decide) ?_
      refine lv_goto (tgt := 19) hx hb dX5_hasRun_15 (by decide) ?_
      obtain rfl := Option.some.inj hf
      exact kt_zret C0 (by decide) hP hS dX5_hasRun_19
set_option maxHeartbeats 4000000 in
set_option maxRecDepth 100000 in
theorem c_X5_get (l : Launch) (γ : Gm) (aw : Nat → Nat) {sw : GS} {sl : Nat → Int64} {x1 : Int32} {rv : Int64} (hf : f_X5_get sw sl x1 = some rv) : Kt l γ yX5_get (Cond.code yX5_get cX5_get 2 (some .long) :: U) 1 21 [.ref (aw 0), .int x1] (wW γ aw sw sl) (some (.long rv)) (wW γ aw sw sl) := by
  refine Kt.of (by decide) rfl (Nat.le_of_ble_eq_true rfl) rfl ?_
  intro p e s m below meth c A ls C0 hP hD0 hS hl
  obtain ⟨hx, hb, hml, hown, hts, hr, hlocks, hK, hE, hA⟩ := id C0
  have hU : ∀ w ∈ U, w.before _ s = true := fun w h => hts w (List.mem_cons_of_mem _ h)
  have hD : ∀ (sw : GS) (sl : Nat → Int64), va_D A (wW γ aw sw sl) := fun _ _ => hD0.fst rfl
  have hl : lv_has ls 2 [(0, .ref (aw 0)), (1, .int x1)] := hl
  unfold f_X5_get at hf
  refine lv_aload_n hx hb dX5_get_0 rfl (lv_at hl 0 rfl) ?_
  refine lv_iload_n hx hb dX5_get_1 rfl (lv_at hl 1 rfl) ?_
  obtain ⟨r_1, hg_2, hf⟩ := bd_of hf
  refine kt_V0 (As := [.int x1]) (rest := []) (st1 := [.int r_1]) (b := aw 0) C0 (c_X5_has l γ aw hg_2) (cxV (nA := 1) hts goodU U367 U360 U361 U90 U362 (by decide +kernel) ⟨Nat.le_of_ble_eq_true rfl, Nat.le_of_ble_eq_true rfl⟩) hP (hD _ _) hS hl dX5_get_2 0 5 rfl rfl rfl rfl (Nat.le_of_ble_eq_true rfl) rfl rfl (fun H locs hP hS => ?_)
  refine lv_if_eq (tgt := 17) hx hb dX5_get_5 (by decide) (fun c_3 => ?_) (fun c_3 => ?_)
  · replace hf := ite_p c_3 hf
    refine lv_lconst (v := 0) hx hb dX5_get_17 (by decide) ?_
    obtain rfl := Option.some.inj hf
    exact kt_lret C0 hP hS dX5_get_18
  · replace hf := ite_n c_3 hf
    refine lv_aload_n hx hb dX5_get_8 rfl (lv_at hl 0 rfl) ?_
    refine va_get (D := γ.1) (ci := 5) (v := .ref (aw 1)) (C := RX5) (T := TX5) (N := 3) hx hb hU uin5 hown hK hP 0 rfl rfl 0 (by decide) (hU _ U286) (fun _ h9 => h9) rfl dX5_get_9 ?_
    refine lv_iload_n hx hb dX5_get_12 rfl (lv_at hl 1 rfl) ?_
    obtain ⟨g_4, hf⟩ := gd_of hf
    refine va_lald hx hb hK hP 1 1 rfl rfl (inB_vp g_4) dX5_get_13 ?_
    refine lv_goto (tgt := 18) hx hb dX5_get_14 (by decide) ?_
    obtain rfl := Option.some.inj hf
    exact kt_lret C0 hP hS dX5_get_18
set_option maxHeartbeats 4000000 in
set_option maxRecDepth 100000 in
theorem c_X5_cut (l : Launch) (γ : Gm) (aw : Nat → Nat) {sw : GS} {sl : Nat → Int64} {x1 : Int64} {rv : Int64} (hf : f_X5_cut sw x1 = some rv) : Kt l γ yX5_cut (Cond.code yX5_cut cX5_cut 3 (some .long) :: U) 0 0 [.ref (aw 0), .long x1] (wW γ aw sw sl) (some (.long rv)) (wW γ aw sw sl) := by
  refine Kt.of (by decide) rfl (Nat.le_of_ble_eq_true rfl) rfl ?_
  intro p e s m below meth c A ls C0 hP hD0 hS hl
  obtain ⟨hx, hb, hml, hown, hts, hr, hlocks, hK, hE, hA⟩ := id C0
  have hU : ∀ w ∈ U, w.before _ s = true := fun w h => hts w (List.mem_cons_of_mem _ h)
  have hD : ∀ (sw : GS) (sl : Nat → Int64), va_D A (wW γ aw sw sl) := fun _ _ => hD0.fst rfl
  have hl : lv_has ls 3 [(0, .ref (aw 0)), (1, .long x1)] := hl
  unfold f_X5_cut at hf
  refine lv_aload_n hx hb dX5_cut_0 rfl (lv_at hl 0 rfl) ?_
  refine va_get (D := γ.1) (ci := 5) (v := .int (sw 0 1)) (C := RX5) (T := TX5) (N := 3) hx hb hU uin5 hown hK hP 0 rfl rfl 1 (by decide) (hU _ U287) (fun _ h9 => h9) rfl dX5_cut_1 ?_
  by_cases c_1 : (sw 0 1) = (0 : Int32)
  · replace hf := ite_p c_1 hf
    refine lv_tableIn (off := 28) (tgt := 32) hx hb dX5_cut_4 (by rw [c_1]; decide) (by rw [c_1]; decide) (by rw [c_1]; rfl) (by decide) ?_
    refine lv_lload_n hx hb dX5_cut_32 rfl (lv_at hl 1 rfl) ?_
    refine lv_l2i hx hb dX5_cut_33 rfl ?_
    refine lv_i2b hx hb dX5_cut_34 rfl ?_
    refine lv_i2l hx hb dX5_cut_35 rfl ?_
    obtain rfl := Option.some.inj hf
    exact kt_lret C0 hP hS dX5_cut_36
  · replace hf := ite_n c_1 hf
    by_cases c_2 : (sw 0 1) = (1 : Int32)
    · replace hf := ite_p c_2 hf
      refine lv_tableIn (off := 33) (tgt := 37) hx hb dX5_cut_4 (by rw [c_2]; decide) (by rw [c_2]; decide) (by rw [c_2]; rfl) (by decide) ?_
      refine lv_lload_n hx hb dX5_cut_37 rfl (lv_at hl 1 rfl) ?_
      refine lv_l2i hx hb dX5_cut_38 rfl ?_
      refine lv_i2s hx hb dX5_cut_39 rfl ?_
      refine lv_i2l hx hb dX5_cut_40 rfl ?_
      obtain rfl := Option.some.inj hf
      exact kt_lret C0 hP hS dX5_cut_41
    · replace hf := ite_n c_2 hf
      by_cases c_3 : (sw 0 1) = (2 : Int32)
      · replace hf := ite_p c_3 hf
        refine lv_tableIn (off := 38) (tgt := 42) hx hb dX5_cut_4 (by rw [c_3]; decide) (by rw [c_3]; decide) (by rw [c_3]; rfl) (by decide) ?_
        refine lv_lload_n hx hb dX5_cut_42 rfl (lv_at hl 1 rfl) ?_
        refine lv_l2i hx hb dX5_cut_43 rfl ?_
        refine lv_i2l hx hb dX5_cut_44 rfl ?_
        obtain rfl := Option.some.inj hf
        exact kt_lret C0 hP hS dX5_cut_45
      · replace hf := ite_n c_3 hf
        refine lv_tableOut (tgt := 46) hx hb dX5_cut_4 (by have := lv_neT c_1 (a := 0) (by decide); have := lv_neT c_2 (a := 1) (by decide); have := lv_neT c_3 (a := 2) (by decide); omega) (by decide) ?_
        refine lv_lload_n hx hb dX5_cut_46 rfl (lv_at hl 1 rfl) ?_
        obtain rfl := Option.some.inj hf
        exact kt_lret C0 hP hS dX5_cut_47
set_option maxHeartbeats 4000000 in
set_option maxRecDepth 100000 in
theorem c_X5_put (l : Launch) (γ : Gm) (aw : Nat → Nat) {sw : GS} {sl : Nat → Int64} {x1 : Int32} {x2 : Int64} {sl_z : Nat → Int64} (hf : f_X5_put sw sl x1 x2 = some sl_z) : Kt l γ yX5_put (Cond.code yX5_put cX5_put 4 none :: U) 1 22 [.ref (aw 0), .int x1, .long x2] (wW γ aw sw sl) none (wW γ aw sw sl_z) := by
  refine Kt.of (by decide) rfl (Nat.le_of_ble_eq_true rfl) rfl ?_
  intro p e s m below meth c A ls C0 hP hD0 hS hl
  obtain ⟨hx, hb, hml, hown, hts, hr, hlocks, hK, hE, hA⟩ := id C0
  have hU : ∀ w ∈ U, w.before _ s = true := fun w h => hts w (List.mem_cons_of_mem _ h)
  have hD : ∀ (sw : GS) (sl : Nat → Int64), va_D A (wW γ aw sw sl) := fun _ _ => hD0.fst rfl
  have hl : lv_has ls 4 [(0, .ref (aw 0)), (1, .int x1), (2, .long x2)] := hl
  unfold f_X5_put at hf
  refine lv_aload_n hx hb dX5_put_0 rfl (lv_at hl 0 rfl) ?_
  refine lv_iload_n hx hb dX5_put_1 rfl (lv_at hl 1 rfl) ?_
  obtain ⟨r_1, hg_2, hf⟩ := bd_of hf
  refine kt_V0 (As := [.int x1]) (rest := []) (st1 := [.int r_1]) (b := aw 0) C0 (c_X5_has l γ aw hg_2) (cxV (nA := 1) hts goodU U367 U360 U361 U90 U362 (by decide +kernel) ⟨Nat.le_of_ble_eq_true rfl, Nat.le_of_ble_eq_true rfl⟩) hP (hD _ _) hS hl dX5_put_2 0 5 rfl rfl rfl rfl (Nat.le_of_ble_eq_true rfl) rfl rfl (fun H locs hP hS => ?_)
  refine lv_if_eq (tgt := 19) hx hb dX5_put_5 (by decide) (fun c_3 => ?_) (fun c_3 => ?_)
  · replace hf := ite_p c_3 hf
    obtain rfl := Option.some.inj hf
    exact kt_vret C0 hP hS dX5_put_19
  · replace hf := ite_n c_3 hf
    refine lv_aload_n hx hb dX5_put_8 rfl (lv_at hl 0 rfl) ?_
    refine va_get (D := γ.1) (ci := 5) (v := .ref (aw 1)) (C := RX5) (T := TX5) (N := 3) hx hb hU uin5 hown hK hP 0 rfl rfl 0 (by decide) (hU _ U286) (fun _ h9 => h9) rfl dX5_put_9 ?_
    refine lv_iload_n hx hb dX5_put_12 rfl (lv_at hl 1 rfl) ?_
    refine lv_aload_n hx hb dX5_put_13 rfl (lv_at hl 0 rfl) ?_
    refine lv_lload_n hx hb dX5_put_14 rfl (lv_at hl 2 rfl) ?_
    obtain ⟨r_4, hg_5, hf⟩ := bd_of hf
    refine kt_V0 (As := [.long x2]) (rest := [.int x1, .ref (aw 1)]) (st1 := [.long r_4, .int x1, .ref (aw 1)]) (b := aw 0) C0 (c_X5_cut l γ aw hg_5) (cxV (nA := 1) hts goodU U368 U370 U2 U90 U371 (by decide +kernel) ⟨Nat.le_of_ble_eq_true rfl, Nat.le_of_ble_eq_true rfl⟩) hP (hD _ _) hS hl dX5_put_15 0 5 rfl rfl rfl rfl (Nat.le_of_ble_eq_true rfl) rfl rfl (fun H locs hP hS => ?_)
    obtain ⟨g_6, hf⟩ := gd_of hf
    refine va_last hx hb hK hP (hD _ _) hS 1 1 rfl rfl (inB_vp g_6) dX5_put_18 (fun H locs hP _ hS => ?_)
    obtain ⟨sl_7, e_sl_7, hf⟩ := nm_of hf
    replace hP : va_P γ.1 vwCl (wW γ aw sw sl_7) H := by rw [e_sl_7]; exact hP
    obtain rfl := Option.some.inj hf
    exact kt_vret C0 hP hS dX5_put_19
set_option maxHeartbeats 4000000 in
set_option maxRecDepth 100000 in
theorem c_X5_fillFrom (l : Launch) (γ : Gm) (aw : Nat → Nat) (ax : Nat → Nat) {sw : GS} {sl : Nat → Int64} {swx : GS} {slx : Nat → Int64} {x2 : Int32} {x3 : Int32} {x4 : Int32} {sl_z : Nat → Int64} (hf : f_X5_fillFrom sl slx x2 x3 x4 = some sl_z) : Kt l γ yX5_fillFrom (Cond.code yX5_fillFrom cX5_fillFrom 5 none :: U) 1 60 [.ref (aw 0), .ref (ax 0), .int x2, .int x3, .int x4] (wW γ aw sw sl ++ wW γ ax swx slx) none (wW γ aw sw sl_z ++ wW γ ax swx slx) := by
  refine Kt.of (by decide) rfl (Nat.le_of_ble_eq_true rfl) rfl ?_
  intro p e s m below meth c A ls C0 hP hD0 hS hl
  obtain ⟨hx, hb, hml, hown, hts, hr, hlocks, hK, hE, hA⟩ := id C0
  have hU : ∀ w ∈ U, w.before _ s = true := fun w h => hts w (List.mem_cons_of_mem _ h)
  have hD : ∀ (sw : GS) (sl : Nat → Int64) (swx : GS) (slx : Nat → Int64), va_D A (wW γ aw sw sl ++ wW γ ax swx slx) := fun _ _ _ _ => hD0.fst rfl
  have hl : lv_has ls 5 [(0, .ref (aw 0)), (1, .ref (ax 0)), (2, .int x2), (3, .int x3), (4, .int x4)] := hl
  unfold f_X5_fillFrom at hf
  refine lv_aload_n hx hb dX5_fillFrom_0 rfl (lv_at hl 1 rfl) ?_
  refine va_get (D := γ.1) (ci := 5) (v := .ref (ax 1)) (C := RX5) (T := TX5) (N := 3) hx hb hU uin5 hown hK hP 2 rfl rfl 0 (by decide) (hU _ U286) (fun _ h9 => h9) rfl dX5_fillFrom_1 ?_
  refine lv_iload_n hx hb dX5_fillFrom_4 rfl (lv_at hl 2 rfl) ?_
  refine lv_aload_n hx hb dX5_fillFrom_5 rfl (lv_at hl 0 rfl) ?_
  refine va_get (D := γ.1) (ci := 5) (v := .ref (aw 1)) (C := RX5) (T := TX5) (N := 3) hx hb hU uin5 hown hK hP 0 rfl rfl 0 (by decide) (hU _ U286) (fun _ h9 => h9) rfl dX5_fillFrom_6 ?_
  refine lv_iload_n hx hb dX5_fillFrom_9 rfl (lv_at hl 3 rfl) ?_
  refine lv_iload hx hb dX5_fillFrom_10 (lv_at hl 4 rfl) ?_
  obtain ⟨g_1, hf⟩ := gd_of hf
  refine va_copyl (rest := []) (sp := x2) (dp := x3) (n := x4) (ty := .long) hx hb (hml.trans hl.1.symm) hown (hU _ U388) (hU _ U390) (hU _ U389) (hU _ U92) hK hP (hD _ _ _ _) hS 3 1 1 1 rfl rfl rfl rfl rfl (cpB1 g_1) (cpB2 g_1) (cpB3 g_1) (cpB4 g_1) (cpB5 g_1) (fun _ _ => rfl) (Nat.le_of_ble_eq_true rfl) (by decide +kernel) dX5_fillFrom_12 (fun H locs hP _ hS => ?_)
  obtain ⟨sl_2, e_sl_2, hf⟩ := nm_of hf
  replace hP : va_P γ.1 vwCl (wW γ aw sw sl_2 ++ wW γ ax swx slx) H := by rw [e_sl_2]; exact hP
  obtain rfl := Option.some.inj hf
  exact kt_vret C0 hP hS dX5_fillFrom_15
set_option maxHeartbeats 4000000 in
set_option maxRecDepth 100000 in
theorem c_X5_fillFromS (l : Launch) (γ : Gm) (aw : Nat → Nat) {sw : GS} {sl : Nat → Int64} {x2 : Int32} {x3 : Int32} {x4 : Int32} {sl_z : Nat → Int64} (hf : f_X5_fillFromS sl x2 x3 x4 = some sl_z) : Kt l γ yX5_fillFrom (Cond.code yX5_fillFrom cX5_fillFrom 5 none :: U) 1 60 [.ref (aw 0), .ref (aw 0), .int x2, .int x3, .int x4] (wW γ aw sw sl) none (wW γ aw sw sl_z) := by
  refine Kt.of (by decide) rfl (Nat.le_of_ble_eq_true rfl) rfl ?_
  intro p e s m below meth c A ls C0 hP hD0 hS hl
  obtain ⟨hx, hb, hml, hown, hts, hr, hlocks, hK, hE, hA⟩ := id C0
  have hU : ∀ w ∈ U, w.before _ s = true := fun w h => hts w (List.mem_cons_of_mem _ h)
  have hD : ∀ (sw : GS) (sl : Nat → Int64), va_D A (wW γ aw sw sl) := fun _ _ => hD0.fst rfl
  have hl : lv_has ls 5 [(0, .ref (aw 0)), (1, .ref (aw 0)), (2, .int x2), (3, .int x3), (4, .int x4)] := hl
  unfold f_X5_fillFromS at hf
  refine lv_aload_n hx hb dX5_fillFrom_0 rfl (lv_at hl 1 rfl) ?_
  refine va_get (D := γ.1) (ci := 5) (v := .ref (aw 1)) (C := RX5) (T := TX5) (N := 3) hx hb hU uin5 hown hK hP 0 rfl rfl 0 (by decide) (hU _ U286) (fun _ h9 => h9) rfl dX5_fillFrom_1 ?_
  refine lv_iload_n hx hb dX5_fillFrom_4 rfl (lv_at hl 2 rfl) ?_
  refine lv_aload_n hx hb dX5_fillFrom_5 rfl (lv_at hl 0 rfl) ?_
  refine va_get (D := γ.1) (ci := 5) (v := .ref (aw 1)) (C := RX5) (T := TX5) (N := 3) hx hb hU uin5 hown hK hP 0 rfl rfl 0 (by decide) (hU _ U286) (fun _ h9 => h9) rfl dX5_fillFrom_6 ?_
  refine lv_iload_n hx hb dX5_fillFrom_9 rfl (lv_at hl 3 rfl) ?_
  refine lv_iload hx hb dX5_fillFrom_10 (lv_at hl 4 rfl) ?_
  obtain ⟨g_1, hf⟩ := gd_of hf
  refine va_copyl (rest := []) (sp := x2) (dp := x3) (n := x4) (ty := .long) hx hb (hml.trans hl.1.symm) hown (hU _ U388) (hU _ U390) (hU _ U389) (hU _ U92) hK hP (hD _ _) hS 1 1 1 1 rfl rfl rfl rfl rfl (cpB1 g_1) (cpB2 g_1) (cpB3 g_1) (cpB4 g_1) (cpB5 g_1) (fun _ _ => rfl) (Nat.le_of_ble_eq_true rfl) (by decide +kernel) dX5_fillFrom_12 (fun H locs hP _ hS => ?_)
  obtain ⟨sl_2, e_sl_2, hf⟩ := nm_of hf
  replace hP : va_P γ.1 vwCl (wW γ aw sw sl_2) H := by rw [e_sl_2]; exact hP
  obtain rfl := Option.some.inj hf
  exact kt_vret C0 hP hS dX5_fillFrom_15
