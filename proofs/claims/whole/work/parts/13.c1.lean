set_option maxHeartbeats 4000000 in
set_option maxRecDepth 100000 in
theorem c_X1_forget (l : Launch) (γ : Gm) (av : Nat → Nat) {sv : GS} {sv_z : GS} (hf : f_X1_forget sv = some sv_z) : Kt l γ yX1_forget (Cond.code yX1_forget cX1_forget 1 none :: U) 0 0 [.ref (av 0)] (wV γ av sv) none (wV γ av sv_z) := by
  refine Kt.of (by decide) rfl (Nat.le_of_ble_eq_true rfl) rfl ?_
  intro p e s m below meth c A ls C0 hP hD0 hS hl
  obtain ⟨hx, hb, hml, hown, hts, hr, hlocks, hK, hE, hA⟩ := id C0
  have hU : ∀ w ∈ U, w.before _ s = true := fun w h => hts w (List.mem_cons_of_mem _ h)
  have hD : ∀ (sv : GS), va_D A (wV γ av sv) := fun _ => hD0.fst rfl
  have hl : lv_has ls 1 [(0, .ref (av 0))] := hl
  unfold f_X1_forget at hf
  refine lv_aload_n hx hb dX1_forget_0 rfl (lv_at hl 0 rfl) ?_
  refine lv_iconst (v := 0) hx hb dX1_forget_1 (by decide) ?_
  refine va_put (D := γ.1) (ci := 1) (v := .int (0 : Int32)) (ty := .int) (C := RX1) (T := TX1) (N := 5) hx hb hU uin1 tyX1 tyX1_ok nmX1 hown hK hP (hD _) hS 0 rfl rfl 0 (by decide) (hU _ U227) (fun _ h9 => h9) rfl (by decide +kernel) rfl rfl (Nat.le_of_ble_eq_true rfl) dX1_forget_2 (fun H locs hP _ hS => ?_)
  obtain ⟨sv_1, e_sv_1, hf⟩ := nm_of hf
  replace hP : va_P γ.1 vwCl (wV γ av sv_1) H := by rw [e_sv_1]; exact hP
  obtain rfl := Option.some.inj hf
  exact kt_vret C0 hP hS dX1_forget_5
set_option maxHeartbeats 4000000 in
set_option maxRecDepth 100000 in
theorem c_X1_own (l : Launch) (γ : Gm) (av : Nat → Nat) {RUN : GS → Int32 → Int32 → Int32 → Int32 → Option (Int32 × GS)} {sv : GS} {x1 : Int32} {x2 : Int32} {x3 : Int32} {rv : Int32} {sv_z : GS} {fd ld : Nat} (HR : ∀ {sv : GS} {x1 x2 x3 x4 : Int32} {rv : Int32} {sv_z : GS}, RUN sv x1 x2 x3 x4 = some (rv, sv_z) → Kt l γ yX1_run (Cond.code yX1_run cX1_run 8 (some .int) :: U) fd ld [.ref (av 0), .int x1, .int x2, .int x3, .int x4] (wV γ av sv) (some (.int rv)) (wV γ av sv_z)) (hf : f_X1_own RUN sv x1 x2 x3 = some (rv, sv_z)) : Kt l γ yX1_own (Cond.code yX1_own cX1_own 4 (some .int) :: U) (fd + 1) (ld + 27) [.ref (av 0), .int x1, .int x2, .int x3] (wV γ av sv) (some (.int rv)) (wV γ av sv_z) := by
  refine Kt.of (by decide) rfl (Nat.le_of_ble_eq_true rfl) rfl ?_
  intro p e s m below meth c A ls C0 hP hD0 hS hl
  obtain ⟨hx, hb, hml, hown, hts, hr, hlocks, hK, hE, hA⟩ := id C0
  have hU : ∀ w ∈ U, w.before _ s = true := fun w h => hts w (List.mem_cons_of_mem _ h)
  have hD : ∀ (sv : GS), va_D A (wV γ av sv) := fun _ => hD0.fst rfl
  have hl : lv_has ls 4 [(0, .ref (av 0)), (1, .int x1), (2, .int x2), (3, .int x3)] := hl
  unfold f_X1_own at hf
  refine lv_aload_n hx hb dX1_own_0 rfl (lv_at hl 0 rfl) ?_
  refine lv_aload_n hx hb dX1_own_1 rfl (lv_at hl 0 rfl) ?_
  refine va_get (D := γ.1) (ci := 1) (v := .int (sv 0 2)) (C := RX1) (T := TX1) (N := 5) hx hb hU uin1 hown hK hP 0 rfl rfl 2 (by decide) (hU _ U231) (fun _ h9 => h9) rfl dX1_own_2 ?_
  refine lv_iload_n hx hb dX1_own_5 rfl (lv_at hl 1 rfl) ?_
  refine lv_iload_n hx hb dX1_own_6 rfl (lv_at hl 2 rfl) ?_
  refine lv_iload_n hx hb dX1_own_7 rfl (lv_at hl 3 rfl) ?_
  obtain ⟨r_1, sv_2, hg_3, hf⟩ := bd2_of hf
  refine kt_V0 (As := [.int (sv 0 2), .int x1, .int x2, .int x3]) (rest := []) (st1 := [.int r_1]) (b := av 0) C0 (HR hg_3) (cxV (nA := 4) hts goodU U931 U933 U27 U87 U934 (by decide +kernel) ⟨by simp only [rmK]; omega, by simp only [rmK]; omega⟩) hP (hD _) hS hl dX1_own_8 0 1 rfl rfl rfl rfl (Nat.le_of_ble_eq_true rfl) rfl rfl (fun H locs hP hS => ?_)
  obtain ⟨rfl, rfl⟩ := rt2 hf
  exact kt_iret C0 hP hS dX1_own_11
set_option maxHeartbeats 4000000 in
set_option maxRecDepth 100000 in
theorem c_X1_note (l : Launch) (γ : Gm) (av : Nat → Nat) {sv : GS} {x1 : Int32} {sv_z : GS} (hf : f_X1_note sv x1 = some sv_z) : Kt l γ yX1_note (Cond.code yX1_note cX1_note 2 none :: U) 0 0 [.ref (av 0), .int x1] (wV γ av sv) none (wV γ av sv_z) := by
  refine Kt.of (by decide) rfl (Nat.le_of_ble_eq_true rfl) rfl ?_
  intro p e s m below meth c A ls C0 hP hD0 hS hl
  obtain ⟨hx, hb, hml, hown, hts, hr, hlocks, hK, hE, hA⟩ := id C0
  have hU : ∀ w ∈ U, w.before _ s = true := fun w h => hts w (List.mem_cons_of_mem _ h)
  have hD : ∀ (sv : GS), va_D A (wV γ av sv) := fun _ => hD0.fst rfl
  have hl : lv_has ls 2 [(0, .ref (av 0)), (1, .int x1)] := hl
  have J19 : ∀ (sv_2 : GS) (H : Heap) (locs : List Loc) (ls : Array Slot), f_X1_note_J19 sv_2 = some sv_z → va_P γ.1 vwCl (wV γ av sv_2) H → va_S A s.heap H locs → lv_has ls 2 [(0, .ref (av 0))] → W p l e (rmK 0 0) s m ([.ref (av 0), .int x1] : List Value).toArray below meth c H locs 0 0 (MQ below (KQ γ A none (wV γ av sv_z)) ([.ref (av 0), .int x1] : List Value).toArray s 0 0 A) (F0 m 19 ls []) := by
    intro sv_2 H locs ls hf hP hS hl
    unfold f_X1_note_J19 at hf
    refine lv_aload_n hx hb dX1_note_19 rfl (lv_at hl 0 rfl) ?_
    refine lv_dup hx hb dX1_note_20 rfl ?_
    refine va_get (D := γ.1) (ci := 1) (v := .int (sv_2 0 0)) (C := RX1) (T := TX1) (N := 5) hx hb hU uin1 hown hK hP 0 rfl rfl 0 (by decide) (hU _ U227) (fun _ h9 => h9) rfl dX1_note_21 ?_
    refine lv_iconst (v := 1) hx hb dX1_note_24 (by decide) ?_
    refine lv_iadd hx hb dX1_note_25 ?_
    refine lv_topi (fun u_3 e_u_3 => ?_)
    replace hf := nm_y hf e_u_3
    refine va_put (D := γ.1) (ci := 1) (v := .int u_3) (ty := .int) (C := RX1) (T := TX1) (N := 5) hx hb hU uin1 tyX1 tyX1_ok nmX1 hown hK hP (hD _) hS 0 rfl rfl 0 (by decide) (hU _ U227) (fun _ h9 => h9) rfl (by decide +kernel) rfl rfl (Nat.le_of_ble_eq_true rfl) dX1_note_26 (fun H locs hP _ hS => ?_)
    obtain ⟨sv_4, e_sv_4, hf⟩ := nm_of hf
    replace hP : va_P γ.1 vwCl (wV γ av sv_4) H := by rw [e_sv_4]; exact hP
    obtain rfl := Option.some.inj hf
    exact kt_vret C0 hP hS dX1_note_29
  unfold f_X1_note at hf
  refine lv_aload_n hx hb dX1_note_0 rfl (lv_at hl 0 rfl) ?_
  refine va_get (D := γ.1) (ci := 1) (v := .int (sv 0 0)) (C := RX1) (T := TX1) (N := 5) hx hb hU uin1 hown hK hP 0 rfl rfl 0 (by decide) (hU _ U227) (fun _ h9 => h9) rfl dX1_note_1 ?_
  refine lv_bipush (v := 20) hx hb dX1_note_4 (by decide) ?_
  refine lv_icmp_ge (tgt := 19) hx hb dX1_note_6 (by decide) (fun c_1 => ?_) (fun c_1 => ?_)
  · replace hf := ite_p c_1 hf
    exact J19 sv _ _ _ hf hP hS (lv_sub hl [0] rfl)
  · replace hf := ite_n c_1 hf
    refine lv_aload_n hx hb dX1_note_9 rfl (lv_at hl 0 rfl) ?_
    refine va_get (D := γ.1) (ci := 1) (v := .ref (av 2)) (C := RX1) (T := TX1) (N := 5) hx hb hU uin1 hown hK hP 0 rfl rfl 1 (by decide) (hU _ U229) (fun _ h9 => h9) rfl dX1_note_10 ?_
    refine lv_aload_n hx hb dX1_note_13 rfl (lv_at hl 0 rfl) ?_
    refine va_get (D := γ.1) (ci := 1) (v := .int (sv 0 0)) (C := RX1) (T := TX1) (N := 5) hx hb hU uin1 hown hK hP 0 rfl rfl 0 (by decide) (hU _ U227) (fun _ h9 => h9) rfl dX1_note_14 ?_
    refine lv_iload_n hx hb dX1_note_17 rfl (lv_at hl 1 rfl) ?_
    obtain ⟨g_5, hf⟩ := gd_of hf
    refine va_iast hx hb hK hP (hD _) hS 1 0 rfl rfl (inB_vp g_5) dX1_note_18 (fun H locs hP _ hS => ?_)
    obtain ⟨sv_6, e_sv_6, hf⟩ := nm_of hf
    replace hP : va_P γ.1 vwCl (wV γ av sv_6) H := by rw [e_sv_6]; exact hP
    exact J19 sv_6 _ _ _ hf hP hS (lv_sub hl [0] rfl)
set_option maxHeartbeats 4000000 in
set_option maxRecDepth 100000 in
theorem c_X1_above (l : Launch) (γ : Gm) (av : Nat → Nat) {RUN : GS → Int32 → Int32 → Int32 → Int32 → Option (Int32 × GS)} {sv : GS} {x1 : Int32} {x2 : Int32} {x3 : Int32} {x4 : Int32} {rv : Int32} {sv_z : GS} {fd ld : Nat} (HR : ∀ {sv : GS} {x1 x2 x3 x4 : Int32} {rv : Int32} {sv_z : GS}, RUN sv x1 x2 x3 x4 = some (rv, sv_z) → Kt l γ yX1_run (Cond.code yX1_run cX1_run 8 (some .int) :: U) fd ld [.ref (av 0), .int x1, .int x2, .int x3, .int x4] (wV γ av sv) (some (.int rv)) (wV γ av sv_z)) (hf : f_X1_above RUN sv x1 x2 x3 x4 = some (rv, sv_z)) : Kt l γ yX1_above (Cond.code yX1_above cX1_above 5 (some .int) :: U) (fd + 1) (ld + 27) [.ref (av 0), .int x1, .int x2, .int x3, .int x4] (wV γ av sv) (some (.int rv)) (wV γ av sv_z) := by
  refine Kt.of (by decide) rfl (Nat.le_of_ble_eq_true rfl) rfl ?_
  intro p e s m below meth c A ls C0 hP hD0 hS hl
  obtain ⟨hx, hb, hml, hown, hts, hr, hlocks, hK, hE, hA⟩ := id C0
  have hU : ∀ w ∈ U, w.before _ s = true := fun w h => hts w (List.mem_cons_of_mem _ h)
  have hD : ∀ (sv : GS), va_D A (wV γ av sv) := fun _ => hD0.fst rfl
  have hl : lv_has ls 5 [(0, .ref (av 0)), (1, .int x1), (2, .int x2), (3, .int x3), (4, .int x4)] := hl
  unfold f_X1_above at hf
  refine lv_aload_n hx hb dX1_above_0 rfl (lv_at hl 0 rfl) ?_
  refine va_getsN hx hb hE.1.1 hS hown (va_Nw.use rfl (hE.2.2.2.2.2.1 _ NW48)) (fun _ h9 => h9) dX1_above_1 ?_
  refine lv_iload_n hx hb dX1_above_4 rfl (lv_at hl 1 rfl) ?_
  refine lv_bipush (v := 10) hx hb dX1_above_5 (by decide) ?_
  refine lv_idiv hx hb dX1_above_7 (by decide) ?_
  refine lv_iconst (v := 1) hx hb dX1_above_8 (by decide) ?_
  refine lv_isub hx hb dX1_above_9 ?_
  obtain ⟨g_1, hf⟩ := gd_of hf
  refine va_ti (v := .int (tbAbove ((x1 / (10 : Int32)) - (1 : Int32)).toNatClampNeg)) hx hb hE.1.2 hS (inB_vp g_1) rfl dX1_above_10 ?_
  refine lv_iload_n hx hb dX1_above_11 rfl (lv_at hl 2 rfl) ?_
  refine lv_iload_n hx hb dX1_above_12 rfl (lv_at hl 3 rfl) ?_
  refine lv_iload hx hb dX1_above_13 (lv_at hl 4 rfl) ?_
  obtain ⟨r_2, sv_3, hg_4, hf⟩ := bd2_of hf
  refine kt_V0 (As := [.int (tbAbove ((x1 / (10 : Int32)) - (1 : Int32)).toNatClampNeg), .int x2, .int x3, .int x4]) (rest := []) (st1 := [.int r_2]) (b := av 0) C0 (HR hg_4) (cxV (nA := 4) hts goodU U931 U933 U27 U87 U934 (by decide +kernel) ⟨by simp only [rmK]; omega, by simp only [rmK]; omega⟩) hP (hD _) hS hl dX1_above_15 0 1 rfl rfl rfl rfl (Nat.le_of_ble_eq_true rfl) rfl rfl (fun H locs hP hS => ?_)
  obtain ⟨rfl, rfl⟩ := rt2 hf
  exact kt_iret C0 hP hS dX1_above_18
set_option maxHeartbeats 4000000 in
set_option maxRecDepth 100000 in
theorem c_X1_runB (l : Launch) (γ : Gm) (av : Nat → Nat) {RUN : GS → Int32 → Int32 → Int32 → Int32 → Option (Int32 × GS)} {sv : GS} {x1 : Int32} {x2 : Int32} {x3 : Int32} {x4 : Int32} {rv : Int32} {sv_z : GS} {fd ld : Nat} (HR : ∀ {sv : GS} {x1 x2 x3 x4 : Int32} {rv : Int32} {sv_z : GS}, RUN sv x1 x2 x3 x4 = some (rv, sv_z) → Kt l γ yX1_run (Cond.code yX1_run cX1_run 8 (some .int) :: U) fd ld [.ref (av 0), .int x1, .int x2, .int x3, .int x4] (wV γ av sv) (some (.int rv)) (wV γ av sv_z)) (hf : f_X1_runB RUN sv x1 x2 x3 x4 = some (rv, sv_z)) : Kt l γ yX1_run (Cond.code yX1_run cX1_run 8 (some .int) :: U) (fd + 2) (ld + 60) [.ref (av 0), .int x1, .int x2, .int x3, .int x4] (wV γ av sv) (some (.int rv)) (wV γ av sv_z) := by
  refine Kt.of (by decide) rfl (Nat.le_of_ble_eq_true rfl) rfl ?_
  intro p e s m below meth c A ls C0 hP hD0 hS hl
  obtain ⟨hx, hb, hml, hown, hts, hr, hlocks, hK, hE, hA⟩ := id C0
  have hU : ∀ w ∈ U, w.before _ s = true := fun w h => hts w (List.mem_cons_of_mem _ h)
  have hD : ∀ (sv : GS), va_D A (wV γ av sv) := fun _ => hD0.fst rfl
  have hl : lv_has ls 8 [(0, .ref (av 0)), (1, .int x1), (2, .int x2), (3, .int x3), (4, .int x4)] := hl
  unfold f_X1_runB at hf
  refine lv_iload hx hb dX1_run_0 (lv_at hl 4 rfl) ?_
  refine lv_bipush (v := 40) hx hb dX1_run_2 (by decide) ?_
  refine lv_icmp_gt (tgt := 14) hx hb dX1_run_4 (by decide) (fun c_1 => ?_) (fun c_1 => ?_)
  · replace hf := ite_p c_1 hf
    refine lv_iconst (v := 0) hx hb dX1_run_14 (by decide) ?_
    obtain ⟨rfl, rfl⟩ := rt2 hf
    exact kt_iret C0 hP hS dX1_run_15
  · replace hf := ite_n c_1 hf
    refine lv_iload_n hx hb dX1_run_7 rfl (lv_at hl 1 rfl) ?_
    obtain ⟨r_2, hg_3, hf⟩ := bd_of hf
    refine kt_SN (As := [.int x1]) (rest := []) (st1 := [.int r_2]) C0 (c_X6_isKind l γ hg_3) (cxN (nA := 1) hts goodU hE NW47 U416 U84 U417 (by decide +kernel) ⟨by simp only [rmK]; omega, by simp only [rmK]; omega⟩) hP (hD _) hS hl dX1_run_8 rfl (Nat.le_of_ble_eq_true rfl) rfl rfl (fun H locs hP hS => ?_)
    refine lv_if_ne (tgt := 16) hx hb dX1_run_11 (by decide) (fun c_4 => ?_) (fun c_4 => ?_)
    · replace hf := ite_n c_4 hf
      refine va_gets hx hb hE.2.2.1.1 hS hown (hU _ U936) (fun _ h9 => h9) dX1_run_16 ?_
      refine lv_iload_n hx hb dX1_run_19 rfl (lv_at hl 2 rfl) ?_
      refine lv_bipush (v := 7) hx hb dX1_run_20 (by decide) ?_
      refine lv_imul hx hb dX1_run_22 ?_
      refine lv_iload_n hx hb dX1_run_23 rfl (lv_at hl 1 rfl) ?_
      refine lv_iadd hx hb dX1_run_24 ?_
      obtain ⟨g_5, hf⟩ := gd_of hf
      refine va_ti (v := .int (tbBodies ((x2 * (7 : Int32)) + x1).toNatClampNeg)) hx hb hE.2.2.1.2 hS (inB_vp g_5) rfl dX1_run_25 ?_
      refine lv_topi (fun u_6 e_u_6 => ?_)
      replace hf := nm_y hf e_u_6
      refine lv_istore (lv' := [(5, .int u_6), (0, .ref (av 0)), (1, .int x1), (2, .int x2), (3, .int x3), (4, .int x4)]) hx hb dX1_run_26 hl (by decide) rfl (fun ls hl => ?_)
      refine lv_aload_n hx hb dX1_run_28 rfl (lv_at hl 1 rfl) ?_
      refine lv_iload hx hb dX1_run_29 (lv_at hl 0 rfl) ?_
      obtain ⟨sv_7, hg_8, hf⟩ := bd_of hf
      refine kt_V0 (As := [.int u_6]) (rest := []) (st1 := []) (b := av 0) C0 (c_X1_note l γ av hg_8) (cxV (nA := 1) hts goodU U938 U940 U28 U87 U941 (by decide +kernel) ⟨by simp only [rmK]; omega, by simp only [rmK]; omega⟩) hP (hD _) hS hl dX1_run_31 0 1 rfl rfl rfl rfl (Nat.le_of_ble_eq_true rfl) rfl rfl (fun H locs hP hS => ?_)
      refine lv_iload hx hb dX1_run_34 (lv_at hl 5 rfl) ?_
      refine lv_iconst (v := 1) hx hb dX1_run_36 (by decide) ?_
      refine lv_iadd hx hb dX1_run_37 ?_
      refine lv_topi (fun u_9 e_u_9 => ?_)
      replace hf := nm_y hf e_u_9
      refine lv_istore (lv' := [(6, .int u_9), (5, .int u_6), (0, .ref (av 0)), (1, .int x1), (2, .int x2), (3, .int x3), (4, .int x4)]) hx hb dX1_run_38 hl (by decide) rfl (fun ls hl => ?_)
      refine lv_iload hx hb dX1_run_40 (lv_at hl 1 rfl) ?_
      by_cases c_10 : u_6 = (11 : Int32)
      · replace hf := ite_p c_10 hf
        refine lv_lookup (off := 90) (tgt := 132) hx hb dX1_run_42 (by decide) (by rw [c_10]; decide) (by decide) ?_
        refine lv_aload_n hx hb dX1_run_132 rfl (lv_at hl 2 rfl) ?_
        refine lv_iconst (v := 0) hx hb dX1_run_133 (by decide) ?_
        refine lv_iload_n hx hb dX1_run_134 rfl (lv_at hl 5 rfl) ?_
        refine lv_iload hx hb dX1_run_135 (lv_at hl 0 rfl) ?_
        obtain ⟨r_11, sv_12, hg_13, hf⟩ := bd2_of hf
        refine kt_V0 (As := [.int (0 : Int32), .int x3, .int u_9]) (rest := []) (st1 := [.int r_11]) (b := av 0) C0 (c_X1_own l γ av HR hg_13) (cxV (nA := 3) hts goodU U927 U929 U26 U87 U930 (by decide +kernel) ⟨by simp only [rmK]; omega, by simp only [rmK]; omega⟩) hP (hD _) hS hl dX1_run_137 0 1 rfl rfl rfl rfl (Nat.le_of_ble_eq_true rfl) rfl rfl (fun H locs hP hS => ?_)
        refine lv_iconst (v := 2) hx hb dX1_run_140 (by decide) ?_
        refine lv_imul hx hb dX1_run_141 ?_
        obtain ⟨rfl, rfl⟩ := rt2 hf
        exact kt_iret C0 hP hS dX1_run_142
      · replace hf := ite_n c_10 hf
        by_cases c_14 : u_6 = (12 : Int32)
        · replace hf := ite_p c_14 hf
          refine lv_lookup (off := 101) (tgt := 143) hx hb dX1_run_42 (by decide) (by rw [c_14]; decide) (by decide) ?_
          refine lv_aload_n hx hb dX1_run_143 rfl (lv_at hl 2 rfl) ?_
          refine lv_iconst (v := 1) hx hb dX1_run_144 (by decide) ?_
          refine lv_iload_n hx hb dX1_run_145 rfl (lv_at hl 5 rfl) ?_
          refine lv_iload hx hb dX1_run_146 (lv_at hl 0 rfl) ?_
          obtain ⟨r_15, sv_16, hg_17, hf⟩ := bd2_of hf
          refine kt_V0 (As := [.int (1 : Int32), .int x3, .int u_9]) (rest := []) (st1 := [.int r_15]) (b := av 0) C0 (c_X1_own l γ av HR hg_17) (cxV (nA := 3) hts goodU U927 U929 U26 U87 U930 (by decide +kernel) ⟨by simp only [rmK]; omega, by simp only [rmK]; omega⟩) hP (hD _) hS hl dX1_run_148 0 1 rfl rfl rfl rfl (Nat.le_of_ble_eq_true rfl) rfl rfl (fun H locs hP hS => ?_)
          refine lv_istore (lv' := [(7, .int r_15), (6, .int u_9), (5, .int u_6), (0, .ref (av 0)), (1, .int x1), (2, .int x2), (3, .int x3), (4, .int x4)]) hx hb dX1_run_151 hl (by decide) rfl (fun ls hl => ?_)
          refine lv_iload hx hb dX1_run_153 (lv_at hl 0 rfl) ?_
          refine lv_aload_n hx hb dX1_run_155 rfl (lv_at hl 3 rfl) ?_
          refine lv_iconst (v := 0) hx hb dX1_run_156 (by decide) ?_
          refine lv_iload_n hx hb dX1_run_157 rfl (lv_at hl 6 rfl) ?_
          refine lv_aload_n hx hb dX1_run_158 rfl (lv_at hl 3 rfl) ?_
          refine va_get (D := γ.1) (ci := 1) (v := .int (sv_16 0 4)) (C := RX1) (T := TX1) (N := 5) hx hb hU uin1 hown hK hP 0 rfl rfl 4 (by decide) (hU _ U233) (fun _ h9 => h9) rfl dX1_run_159 ?_
          refine lv_isub hx hb dX1_run_162 ?_
          refine lv_iload hx hb dX1_run_163 (lv_at hl 1 rfl) ?_
          obtain ⟨r_18, sv_19, hg_20, hf⟩ := bd2_of hf
          refine kt_V0 (As := [.int (0 : Int32), .int (x3 - (sv_16 0 4)), .int u_9]) (rest := [.int r_15]) (st1 := [.int r_18, .int r_15]) (b := av 0) C0 (c_X1_own l γ av HR hg_20) (cxV (nA := 3) hts goodU U927 U929 U26 U87 U930 (by decide +kernel) ⟨by simp only [rmK]; omega, by simp only [rmK]; omega⟩) hP (hD _) hS hl dX1_run_165 0 1 rfl rfl rfl rfl (Nat.le_of_ble_eq_true rfl) rfl rfl (fun H locs hP hS => ?_)
          refine lv_ixor hx hb dX1_run_168 ?_
          obtain ⟨rfl, rfl⟩ := rt2 hf
          exact kt_iret C0 hP hS dX1_run_169
        · replace hf := ite_n c_14 hf
          by_cases c_21 : u_6 = (20 : Int32)
          · replace hf := ite_p c_21 hf
            refine lv_lookup (off := 128) (tgt := 170) hx hb dX1_run_42 (by decide) (by rw [c_21]; decide) (by decide) ?_
            refine lv_aload_n hx hb dX1_run_170 rfl (lv_at hl 2 rfl) ?_
            refine lv_iload hx hb dX1_run_171 (lv_at hl 1 rfl) ?_
            refine lv_iconst (v := 0) hx hb dX1_run_173 (by decide) ?_
            refine lv_iload_n hx hb dX1_run_174 rfl (lv_at hl 5 rfl) ?_
            refine lv_iload hx hb dX1_run_175 (lv_at hl 0 rfl) ?_
            obtain ⟨r_22, sv_23, hg_24, hf⟩ := bd2_of hf
            refine kt_V0 (As := [.int u_6, .int (0 : Int32), .int x3, .int u_9]) (rest := []) (st1 := [.int r_22]) (b := av 0) C0 (c_X1_above l γ av HR hg_24) (cxV (nA := 4) hts goodU U942 U944 U29 U87 U945 (by decide +kernel) ⟨by simp only [rmK]; omega, by simp only [rmK]; omega⟩) hP (hD _) hS hl dX1_run_177 0 1 rfl rfl rfl rfl (Nat.le_of_ble_eq_true rfl) rfl rfl (fun H locs hP hS => ?_)
            refine lv_aload_n hx hb dX1_run_180 rfl (lv_at hl 2 rfl) ?_
            refine va_get (D := γ.1) (ci := 1) (v := .int (sv_23 0 4)) (C := RX1) (T := TX1) (N := 5) hx hb hU uin1 hown hK hP 0 rfl rfl 4 (by decide) (hU _ U233) (fun _ h9 => h9) rfl dX1_run_181 ?_
            refine lv_iadd hx hb dX1_run_184 ?_
            obtain ⟨rfl, rfl⟩ := rt2 hf
            exact kt_iret C0 hP hS dX1_run_185
          · replace hf := ite_n c_21 hf
            by_cases c_25 : u_6 = (30 : Int32)
            · replace hf := ite_p c_25 hf
              refine lv_lookup (off := 144) (tgt := 186) hx hb dX1_run_42 (by decide) (by rw [c_25]; decide) (by decide) ?_
              refine lv_aload_n hx hb dX1_run_186 rfl (lv_at hl 2 rfl) ?_
              refine lv_iload hx hb dX1_run_187 (lv_at hl 1 rfl) ?_
              refine lv_iconst (v := 1) hx hb dX1_run_189 (by decide) ?_
              refine lv_iload_n hx hb dX1_run_190 rfl (lv_at hl 5 rfl) ?_
              refine lv_iload hx hb dX1_run_191 (lv_at hl 0 rfl) ?_
              obtain ⟨r_26, sv_27, hg_28, hf⟩ := bd2_of hf
              refine kt_V0 (As := [.int u_6, .int (1 : Int32), .int x3, .int u_9]) (rest := []) (st1 := [.int r_26]) (b := av 0) C0 (c_X1_above l γ av HR hg_28) (cxV (nA := 4) hts goodU U942 U944 U29 U87 U945 (by decide +kernel) ⟨by simp only [rmK]; omega, by simp only [rmK]; omega⟩) hP (hD _) hS hl dX1_run_193 0 1 rfl rfl rfl rfl (Nat.le_of_ble_eq_true rfl) rfl rfl (fun H locs hP hS => ?_)
              refine lv_iconst (v := 3) hx hb dX1_run_196 (by decide) ?_
              refine lv_imul hx hb dX1_run_197 ?_
              obtain ⟨rfl, rfl⟩ := rt2 hf
              exact kt_iret C0 hP hS dX1_run_198
            · replace hf := ite_n c_25 hf
              by_cases c_29 : u_6 = (40 : Int32)
              · replace hf := ite_p c_29 hf
                refine lv_lookup (off := 157) (tgt := 199) hx hb dX1_run_42 (by decide) (by rw [c_29]; decide) (by decide) ?_
                refine lv_aload_n hx hb dX1_run_199 rfl (lv_at hl 2 rfl) ?_
                refine lv_iload hx hb dX1_run_200 (lv_at hl 1 rfl) ?_
                refine lv_iconst (v := 1) hx hb dX1_run_202 (by decide) ?_
                refine lv_iload_n hx hb dX1_run_203 rfl (lv_at hl 5 rfl) ?_
                refine lv_iconst (v := 1) hx hb dX1_run_204 (by decide) ?_
                refine lv_iadd hx hb dX1_run_205 ?_
                refine lv_iload hx hb dX1_run_206 (lv_at hl 0 rfl) ?_
                obtain ⟨r_30, sv_31, hg_32, hf⟩ := bd2_of hf
                refine kt_V0 (As := [.int u_6, .int (1 : Int32), .int (x3 + (1 : Int32)), .int u_9]) (rest := []) (st1 := [.int r_30]) (b := av 0) C0 (c_X1_above l γ av HR hg_32) (cxV (nA := 4) hts goodU U942 U944 U29 U87 U945 (by decide +kernel) ⟨by simp only [rmK]; omega, by simp only [rmK]; omega⟩) hP (hD _) hS hl dX1_run_208 0 1 rfl rfl rfl rfl (Nat.le_of_ble_eq_true rfl) rfl rfl (fun H locs hP hS => ?_)
                obtain ⟨rfl, rfl⟩ := rt2 hf
                exact kt_iret C0 hP hS dX1_run_211
              · replace hf := ite_n c_29 hf
                by_cases c_33 : u_6 = (50 : Int32)
                · replace hf := ite_p c_33 hf
                  refine lv_lookup (off := 170) (tgt := 212) hx hb dX1_run_42 (by decide) (by rw [c_33]; decide) (by decide) ?_
                  refine lv_aload_n hx hb dX1_run_212 rfl (lv_at hl 2 rfl) ?_
                  refine lv_iload hx hb dX1_run_213 (lv_at hl 1 rfl) ?_
                  refine lv_iconst (v := 2) hx hb dX1_run_215 (by decide) ?_
                  refine lv_iload_n hx hb dX1_run_216 rfl (lv_at hl 5 rfl) ?_
                  refine lv_iload hx hb dX1_run_217 (lv_at hl 0 rfl) ?_
                  obtain ⟨r_34, sv_35, hg_36, hf⟩ := bd2_of hf
                  refine kt_V0 (As := [.int u_6, .int (2 : Int32), .int x3, .int u_9]) (rest := []) (st1 := [.int r_34]) (b := av 0) C0 (c_X1_above l γ av HR hg_36) (cxV (nA := 4) hts goodU U942 U944 U29 U87 U945 (by decide +kernel) ⟨by simp only [rmK]; omega, by simp only [rmK]; omega⟩) hP (hD _) hS hl dX1_run_219 0 1 rfl rfl rfl rfl (Nat.le_of_ble_eq_true rfl) rfl rfl (fun H locs hP hS => ?_)
                  refine lv_ineg hx hb dX1_run_222 ?_
                  obtain ⟨rfl, rfl⟩ := rt2 hf
                  exact kt_iret C0 hP hS dX1_run_223
                · replace hf := ite_n c_33 hf
                  by_cases c_37 : u_6 = (51 : Int32)
                  · replace hf := ite_p c_37 hf
                    refine lv_lookup (off := 182) (tgt := 224) hx hb dX1_run_42 (by decide) (by rw [c_37]; decide) (by decide) ?_
                    refine lv_aload_n hx hb dX1_run_224 rfl (lv_at hl 2 rfl) ?_
                    refine lv_iload hx hb dX1_run_225 (lv_at hl 1 rfl) ?_
                    refine lv_iconst (v := 0) hx hb dX1_run_227 (by decide) ?_
                    refine lv_iload_n hx hb dX1_run_228 rfl (lv_at hl 5 rfl) ?_
                    refine lv_iload hx hb dX1_run_229 (lv_at hl 0 rfl) ?_
                    obtain ⟨r_38, sv_39, hg_40, hf⟩ := bd2_of hf
                    refine kt_V0 (As := [.int u_6, .int (0 : Int32), .int x3, .int u_9]) (rest := []) (st1 := [.int r_38]) (b := av 0) C0 (c_X1_above l γ av HR hg_40) (cxV (nA := 4) hts goodU U942 U944 U29 U87 U945 (by decide +kernel) ⟨by simp only [rmK]; omega, by simp only [rmK]; omega⟩) hP (hD _) hS hl dX1_run_231 0 1 rfl rfl rfl rfl (Nat.le_of_ble_eq_true rfl) rfl rfl (fun H locs hP hS => ?_)
                    refine lv_aload_n hx hb dX1_run_234 rfl (lv_at hl 2 rfl) ?_
                    refine va_get (D := γ.1) (ci := 1) (v := .int (sv_39 0 3)) (C := RX1) (T := TX1) (N := 5) hx hb hU uin1 hown hK hP 0 rfl rfl 3 (by decide) (hU _ U232) (fun _ h9 => h9) rfl dX1_run_235 ?_
                    refine lv_isub hx hb dX1_run_238 ?_
                    obtain ⟨rfl, rfl⟩ := rt2 hf
                    exact kt_iret C0 hP hS dX1_run_239
                  · replace hf := ite_n c_37 hf
                    by_cases c_41 : u_6 = (60 : Int32)
                    · replace hf := ite_p c_41 hf
                      refine lv_lookup (off := 198) (tgt := 240) hx hb dX1_run_42 (by decide) (by rw [c_41]; decide) (by decide) ?_
                      refine lv_aload_n hx hb dX1_run_240 rfl (lv_at hl 2 rfl) ?_
                      refine lv_iload hx hb dX1_run_241 (lv_at hl 1 rfl) ?_
                      refine lv_iconst (v := 2) hx hb dX1_run_243 (by decide) ?_
                      refine lv_iload_n hx hb dX1_run_244 rfl (lv_at hl 5 rfl) ?_
                      refine lv_iload hx hb dX1_run_245 (lv_at hl 0 rfl) ?_
                      obtain ⟨r_42, sv_43, hg_44, hf⟩ := bd2_of hf
                      refine kt_V0 (As := [.int u_6, .int (2 : Int32), .int x3, .int u_9]) (rest := []) (st1 := [.int r_42]) (b := av 0) C0 (c_X1_above l γ av HR hg_44) (cxV (nA := 4) hts goodU U942 U944 U29 U87 U945 (by decide +kernel) ⟨by simp only [rmK]; omega, by simp only [rmK]; omega⟩) hP (hD _) hS hl dX1_run_247 0 1 rfl rfl rfl rfl (Nat.le_of_ble_eq_true rfl) rfl rfl (fun H locs hP hS => ?_)
                      refine lv_iconst (v := 5) hx hb dX1_run_250 (by decide) ?_
                      refine lv_ixor hx hb dX1_run_251 ?_
                      obtain ⟨rfl, rfl⟩ := rt2 hf
                      exact kt_iret C0 hP hS dX1_run_252
                    · replace hf := ite_n c_41 hf
                      by_cases c_45 : u_6 = (70 : Int32)
                      · replace hf := ite_p c_45 hf
                        refine lv_lookup (off := 211) (tgt := 253) hx hb dX1_run_42 (by decide) (by rw [c_45]; decide) (by decide) ?_
                        refine lv_aload_n hx hb dX1_run_253 rfl (lv_at hl 2 rfl) ?_
                        refine lv_iload hx hb dX1_run_254 (lv_at hl 1 rfl) ?_
                        refine lv_iconst (v := 0) hx hb dX1_run_256 (by decide) ?_
                        refine lv_iload_n hx hb dX1_run_257 rfl (lv_at hl 5 rfl) ?_
                        refine lv_iload hx hb dX1_run_258 (lv_at hl 0 rfl) ?_
                        obtain ⟨r_46, sv_47, hg_48, hf⟩ := bd2_of hf
                        refine kt_V0 (As := [.int u_6, .int (0 : Int32), .int x3, .int u_9]) (rest := []) (st1 := [.int r_46]) (b := av 0) C0 (c_X1_above l γ av HR hg_48) (cxV (nA := 4) hts goodU U942 U944 U29 U87 U945 (by decide +kernel) ⟨by simp only [rmK]; omega, by simp only [rmK]; omega⟩) hP (hD _) hS hl dX1_run_260 0 1 rfl rfl rfl rfl (Nat.le_of_ble_eq_true rfl) rfl rfl (fun H locs hP hS => ?_)
                        refine lv_iconst (v := 2) hx hb dX1_run_263 (by decide) ?_
                        refine lv_imul hx hb dX1_run_264 ?_
                        obtain ⟨rfl, rfl⟩ := rt2 hf
                        exact kt_iret C0 hP hS dX1_run_265
                      · replace hf := ite_n c_45 hf
                        by_cases c_49 : u_6 = (71 : Int32)
                        · replace hf := ite_p c_49 hf
                          refine lv_lookup (off := 224) (tgt := 266) hx hb dX1_run_42 (by decide) (by rw [c_49]; decide) (by decide) ?_
                          refine lv_aload_n hx hb dX1_run_266 rfl (lv_at hl 2 rfl) ?_
                          refine lv_iload hx hb dX1_run_267 (lv_at hl 1 rfl) ?_
                          refine lv_iconst (v := 1) hx hb dX1_run_269 (by decide) ?_
                          refine lv_iload_n hx hb dX1_run_270 rfl (lv_at hl 5 rfl) ?_
                          refine lv_aload_n hx hb dX1_run_271 rfl (lv_at hl 2 rfl) ?_
                          refine va_get (D := γ.1) (ci := 1) (v := .int (sv_7 0 4)) (C := RX1) (T := TX1) (N := 5) hx hb hU uin1 hown hK hP 0 rfl rfl 4 (by decide) (hU _ U233) (fun _ h9 => h9) rfl dX1_run_272 ?_
                          refine lv_isub hx hb dX1_run_275 ?_
                          refine lv_iload hx hb dX1_run_276 (lv_at hl 0 rfl) ?_
                          obtain ⟨r_50, sv_51, hg_52, hf⟩ := bd2_of hf
                          refine kt_V0 (As := [.int u_6, .int (1 : Int32), .int (x3 - (sv_7 0 4)), .int u_9]) (rest := []) (st1 := [.int r_50]) (b := av 0) C0 (c_X1_above l γ av HR hg_52) (cxV (nA := 4) hts goodU U942 U944 U29 U87 U945 (by decide +kernel) ⟨by simp only [rmK]; omega, by simp only [rmK]; omega⟩) hP (hD _) hS hl dX1_run_278 0 1 rfl rfl rfl rfl (Nat.le_of_ble_eq_true rfl) rfl rfl (fun H locs hP hS => ?_)
                          obtain ⟨rfl, rfl⟩ := rt2 hf
                          exact kt_iret C0 hP hS dX1_run_281
                        · replace hf := ite_n c_49 hf
                          refine lv_lookup (off := 240) (tgt := 282) hx hb dX1_run_42 (by decide) (by rw [lv_osw c_10 (by decide), lv_osw c_14 (by decide), lv_osw c_21 (by decide), lv_osw c_25 (by decide), lv_osw c_29 (by decide), lv_osw c_33 (by decide), lv_osw c_37 (by decide), lv_osw c_41 (by decide), lv_osw c_45 (by decide), lv_osw c_49 (by decide)]; rfl) (by decide) ?_
                          refine lv_iload_n hx hb dX1_run_282 rfl (lv_at hl 5 rfl) ?_
                          refine lv_aload_n hx hb dX1_run_283 rfl (lv_at hl 2 rfl) ?_
                          refine va_get (D := γ.1) (ci := 1) (v := .int (sv_7 0 3)) (C := RX1) (T := TX1) (N := 5) hx hb hU uin1 hown hK hP 0 rfl rfl 3 (by decide) (hU _ U232) (fun _ h9 => h9) rfl dX1_run_284 ?_
                          refine lv_iadd hx hb dX1_run_287 ?_
                          obtain ⟨rfl, rfl⟩ := rt2 hf
                          exact kt_iret C0 hP hS dX1_run_288
    · replace hf := ite_p c_4 hf
      refine lv_iconst (v := 0) hx hb dX1_run_14 (by decide) ?_
      obtain ⟨rfl, rfl⟩ := rt2 hf
      exact kt_iret C0 hP hS dX1_run_15
theorem c_X1_run (l : Launch) (γ : Gm) (av : Nat → Nat) : ∀ (dd : Nat) {sv : GS} {x1 x2 x3 x4 : Int32} {rv : Int32} {sv_z : GS}, f_X1_run dd sv x1 x2 x3 x4 = some (rv, sv_z) → Kt l γ yX1_run (Cond.code yX1_run cX1_run 8 (some .int) :: U) (2 * dd) (60 * dd) [.ref (av 0), .int x1, .int x2, .int x3, .int x4] (wV γ av sv) (some (.int rv)) (wV γ av sv_z) := by
  intro dd
  induction dd with
  | zero =>
    intro sv x1 x2 x3 x4 rv sv_z hf
    have hf : none = some _ := hf
    cases hf
  | succ dd ih =>
    intro sv x1 x2 x3 x4 rv sv_z hf
    exact c_X1_runB l γ av (fun h => ih h) hf
set_option maxHeartbeats 4000000 in
set_option maxRecDepth 100000 in
theorem c_X1_begin (l : Launch) (γ : Gm) (av : Nat → Nat) (ar : Nat → Nat) {sv : GS} {sr : GS} {x2 : Int32} {x3 : Int32} {x4 : Int32} {rv : Int32} {sv_z : GS} (hf : f_X1_begin sv sr x2 x3 x4 = some (rv, sv_z)) : Kt l γ yX1_begin (Cond.code yX1_begin cX1_begin 5 (some .int) :: U) 92 2750 [.ref (av 0), .ref (ar 0), .int x2, .int x3, .int x4] (wV γ av sv ++ wR γ ar sr) (some (.int rv)) (wV γ av sv_z ++ wR γ ar sr) := by
  refine Kt.of (by decide) rfl (Nat.le_of_ble_eq_true rfl) rfl ?_
  intro p e s m below meth c A ls C0 hP hD0 hS hl
  obtain ⟨hx, hb, hml, hown, hts, hr, hlocks, hK, hE, hA⟩ := id C0
  have hU : ∀ w ∈ U, w.before _ s = true := fun w h => hts w (List.mem_cons_of_mem _ h)
  have hD : ∀ (sv : GS) (sr : GS), va_D A (wV γ av sv ++ wR γ ar sr) := fun _ _ => hD0.fst rfl
  have hl : lv_has ls 5 [(0, .ref (av 0)), (1, .ref (ar 0)), (2, .int x2), (3, .int x3), (4, .int x4)] := hl
  unfold f_X1_begin at hf
  refine lv_aload_n hx hb dX1_begin_0 rfl (lv_at hl 0 rfl) ?_
  refine lv_aload_n hx hb dX1_begin_1 rfl (lv_at hl 1 rfl) ?_
  refine va_getN (D := γ.1) (ci := 3) (v := .ref (ar 3)) (C := RX3) (T := TX3) (N := 18) hx hb hU uin3 hown hK hP 2 rfl rfl 2 (by decide) (va_Nw.use rfl (hE.2.2.2.2.2.1 _ NW7)) (fun _ h9 => h9) rfl dX1_begin_2 ?_
  refine lv_iload_n hx hb dX1_begin_5 rfl (lv_at hl 2 rfl) ?_
  obtain ⟨g_1, hf⟩ := gd_of hf
  refine va_iald hx hb hK hP 3 0 rfl rfl (inB_vp g_1) dX1_begin_6 ?_
  refine lv_topi (fun u_2 e_u_2 => ?_)
  replace hf := nm_y hf e_u_2
  refine va_put (D := γ.1) (ci := 1) (v := .int u_2) (ty := .int) (C := RX1) (T := TX1) (N := 5) hx hb hU uin1 tyX1 tyX1_ok nmX1 hown hK hP (hD _ _) hS 0 rfl rfl 2 (by decide) (hU _ U231) (fun _ h9 => h9) rfl (by decide +kernel) rfl rfl (Nat.le_of_ble_eq_true rfl) dX1_begin_7 (fun H locs hP _ hS => ?_)
  obtain ⟨sv_3, e_sv_3, hf⟩ := nm_of hf
  replace hP : va_P γ.1 vwCl (wV γ av sv_3 ++ wR γ ar sr) H := by rw [e_sv_3]; exact hP
  refine lv_aload_n hx hb dX1_begin_10 rfl (lv_at hl 0 rfl) ?_
  refine lv_iload_n hx hb dX1_begin_11 rfl (lv_at hl 2 rfl) ?_
  refine va_put (D := γ.1) (ci := 1) (v := .int x2) (ty := .int) (C := RX1) (T := TX1) (N := 5) hx hb hU uin1 tyX1 tyX1_ok nmX1 hown hK hP (hD _ _) hS 0 rfl rfl 3 (by decide) (hU _ U232) (fun _ h9 => h9) rfl (by decide +kernel) rfl rfl (Nat.le_of_ble_eq_true rfl) dX1_begin_12 (fun H locs hP _ hS => ?_)
  obtain ⟨sv_4, e_sv_4, hf⟩ := nm_of hf
  replace hP : va_P γ.1 vwCl (wV γ av sv_4 ++ wR γ ar sr) H := by rw [e_sv_4]; exact hP
  refine lv_aload_n hx hb dX1_begin_15 rfl (lv_at hl 0 rfl) ?_
  refine lv_aload_n hx hb dX1_begin_16 rfl (lv_at hl 1 rfl) ?_
  refine va_getN (D := γ.1) (ci := 3) (v := .ref (ar 4)) (C := RX3) (T := TX3) (N := 18) hx hb hU uin3 hown hK hP 2 rfl rfl 3 (by decide) (va_Nw.use rfl (hE.2.2.2.2.2.1 _ NW9)) (fun _ h9 => h9) rfl dX1_begin_17 ?_
  refine lv_iload_n hx hb dX1_begin_20 rfl (lv_at hl 2 rfl) ?_
  obtain ⟨g_5, hf⟩ := gd_of hf
  refine va_iald hx hb hK hP 4 0 rfl rfl (inB_vp g_5) dX1_begin_21 ?_
  refine lv_topi (fun u_6 e_u_6 => ?_)
  replace hf := nm_y hf e_u_6
  refine va_put (D := γ.1) (ci := 1) (v := .int u_6) (ty := .int) (C := RX1) (T := TX1) (N := 5) hx hb hU uin1 tyX1 tyX1_ok nmX1 hown hK hP (hD _ _) hS 0 rfl rfl 4 (by decide) (hU _ U233) (fun _ h9 => h9) rfl (by decide +kernel) rfl rfl (Nat.le_of_ble_eq_true rfl) dX1_begin_22 (fun H locs hP _ hS => ?_)
  obtain ⟨sv_7, e_sv_7, hf⟩ := nm_of hf
  replace hP : va_P γ.1 vwCl (wV γ av sv_7 ++ wR γ ar sr) H := by rw [e_sv_7]; exact hP
  refine lv_aload_n hx hb dX1_begin_25 rfl (lv_at hl 0 rfl) ?_
  refine lv_iload_n hx hb dX1_begin_26 rfl (lv_at hl 3 rfl) ?_
  refine lv_iload hx hb dX1_begin_27 (lv_at hl 4 rfl) ?_
  refine lv_iconst (v := 0) hx hb dX1_begin_29 (by decide) ?_
  obtain ⟨r_8, sv_9, hg_10, hf⟩ := bd2_of hf
  refine kt_VF (As := [.int x3, .int x4, .int (0 : Int32)]) (rest := []) (st1 := [.int r_8]) (b := av 0) (wc' := wV γ av sv_9 ++ wR γ ar sr) C0 (c_X1_own l γ av (fun h => c_X1_run l γ av 45 h) hg_10) (cxV (nA := 3) hts goodU U927 U929 U26 U87 U930 (by decide +kernel) ⟨Nat.le_of_ble_eq_true rfl, Nat.le_of_ble_eq_true rfl⟩) hP (hD _ _) hS hl dX1_begin_30 focA1 0 1 rfl rfl rfl rfl (Nat.le_of_ble_eq_true rfl) rfl rfl (fun H locs hP hS => ?_)
  obtain ⟨rfl, rfl⟩ := rt2 hf
  exact kt_iret C0 hP hS dX1_begin_33
