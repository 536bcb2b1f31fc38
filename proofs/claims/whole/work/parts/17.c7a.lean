set_option maxHeartbeats 4000000 in
set_option maxRecDepth 100000 in
theorem c_X7_no (l : Launch) (γ : Gm) (am : Nat → Nat) {sm : GS} {sq : Nat → Int64} {x1 : Int32} {rv : Int32} {sm_z : GS} (hf : f_X7_no sm x1 = some (rv, sm_z)) : Kt l γ yX7_no (Cond.code yX7_no cX7_no 2 (some .int) :: U) 0 0 [.ref (am 0), .int x1] (wM γ am sm sq) (some (.int rv)) (wM γ am sm_z sq) := by
  refine Kt.of (by decide) rfl (Nat.le_of_ble_eq_true rfl) rfl ?_
  intro p e s m below meth c A ls C0 hP hD0 hS hl
  obtain ⟨hx, hb, hml, hown, hts, hr, hlocks, hK, hE, hA⟩ := id C0
  have hU : ∀ w ∈ U, w.before _ s = true := fun w h => hts w (List.mem_cons_of_mem _ h)
  have hD : ∀ (sm : GS) (sq : Nat → Int64), va_D A (wM γ am sm sq) := fun _ _ => hD0.fst rfl
  have hl : lv_has ls 2 [(0, .ref (am 0)), (1, .int x1)] := hl
  unfold f_X7_no at hf
  refine lv_aload_n hx hb dX7_no_0 rfl (lv_at hl 0 rfl) ?_
  refine va_get (D := γ.1) (ci := 7) (v := .ref (am 21)) (C := RX7) (T := TX7) (N := 35) hx hb hU uin7 hown hK hP 0 rfl rfl 20 (by decide) (hU _ U989) (fun _ h9 => h9) rfl dX7_no_1 ?_
  refine lv_iload_n hx hb dX7_no_4 rfl (lv_at hl 1 rfl) ?_
  refine lv_ineg hx hb dX7_no_5 ?_
  refine lv_dup2_11 hx hb dX7_no_6 rfl rfl ?_
  obtain ⟨g_1, hf⟩ := gd_of hf
  refine va_iald hx hb hK hP 15 0 rfl rfl (inB_vp g_1) dX7_no_7 ?_
  refine lv_iconst (v := 1) hx hb dX7_no_8 (by decide) ?_
  refine lv_iadd hx hb dX7_no_9 ?_
  refine lv_topi (fun u_2 e_u_2 => ?_)
  replace hf := nm_y hf e_u_2
  obtain ⟨g_3, hf⟩ := gd_of hf
  refine va_iast hx hb hK hP (hD _ _) hS 15 0 rfl rfl (inB_vp g_3) dX7_no_10 (fun H locs hP _ hS => ?_)
  obtain ⟨sm_4, e_sm_4, hf⟩ := nm_of hf
  replace hP : va_P γ.1 vwCl (wM γ am sm_4 sq) H := by rw [e_sm_4]; exact hP
  refine lv_iload_n hx hb dX7_no_11 rfl (lv_at hl 1 rfl) ?_
  obtain ⟨rfl, rfl⟩ := rt2 hf
  exact kt_iret C0 hP hS dX7_no_12
set_option maxHeartbeats 4000000 in
set_option maxRecDepth 100000 in
theorem c_X7_no10 (l : Launch) (γ : Gm) (am : Nat → Nat) {sm : GS} {sq : Nat → Int64} {x1 : Int32} {rv : Int32} {sm_z : GS} (hf : f_X7_no10 sm x1 = some (rv, sm_z)) : Kt l γ yX7_no10 (Cond.code yX7_no10 cX7_no10 2 (some .int) :: U) 1 21 [.ref (am 0), .int x1] (wM γ am sm sq) (some (.int rv)) (wM γ am sm_z sq) := by
  refine Kt.of (by decide) rfl (Nat.le_of_ble_eq_true rfl) rfl ?_
  intro p e s m below meth c A ls C0 hP hD0 hS hl
  obtain ⟨hx, hb, hml, hown, hts, hr, hlocks, hK, hE, hA⟩ := id C0
  have hU : ∀ w ∈ U, w.before _ s = true := fun w h => hts w (List.mem_cons_of_mem _ h)
  have hD : ∀ (sm : GS) (sq : Nat → Int64), va_D A (wM γ am sm sq) := fun _ _ => hD0.fst rfl
  have hl : lv_has ls 2 [(0, .ref (am 0)), (1, .int x1)] := hl
  unfold f_X7_no10 at hf
  refine lv_aload_n hx hb dX7_no10_0 rfl (lv_at hl 0 rfl) ?_
  refine lv_iload_n hx hb dX7_no10_1 rfl (lv_at hl 1 rfl) ?_
  obtain ⟨r_1, sm_2, hg_3, hf⟩ := bd2_of hf
  refine kt_V0 (As := [.int x1]) (rest := []) (st1 := [.int r_1]) (b := am 0) C0 (c_X7_no l γ am hg_3) (cxV (nA := 1) hts goodU U1082 U1084 U30 U91 U1085 (by decide +kernel) ⟨Nat.le_of_ble_eq_true rfl, Nat.le_of_ble_eq_true rfl⟩) hP (hD _ _) hS hl dX7_no10_2 0 7 rfl rfl rfl rfl (Nat.le_of_ble_eq_true rfl) rfl rfl (fun H locs hP hS => ?_)
  refine lv_bipush (v := 10) hx hb dX7_no10_5 (by decide) ?_
  refine lv_isub hx hb dX7_no10_7 ?_
  obtain ⟨rfl, rfl⟩ := rt2 hf
  exact kt_iret C0 hP hS dX7_no10_8
set_option maxHeartbeats 4000000 in
set_option maxRecDepth 100000 in
theorem c_X7_within (l : Launch) (γ : Gm) {x1 : Int32} {x2 : Int32} {x3 : Int32} {rv : Int32} (hf : f_X7_within x1 x2 x3 = some rv) : Kt l γ yX7_within (Cond.code yX7_within cX7_within 3 (some .boolean) :: U) 0 0 [.int x1, .int x2, .int x3] ([]) (some (.int rv)) ([]) := by
  refine Kt.of (by decide) rfl (Nat.le_of_ble_eq_true rfl) rfl ?_
  intro p e s m below meth c A ls C0 hP hD0 hS hl
  obtain ⟨hx, hb, hml, hown, hts, hr, hlocks, hK, hE, hA⟩ := id C0
  have hU : ∀ w ∈ U, w.before _ s = true := fun w h => hts w (List.mem_cons_of_mem _ h)
  have hD := hD0
  have hl : lv_has ls 3 [(0, .int x1), (1, .int x2), (2, .int x3)] := hl
  unfold f_X7_within at hf
  refine lv_iload_n hx hb dX7_within_0 rfl (lv_at hl 0 rfl) ?_
  refine lv_iload_n hx hb dX7_within_1 rfl (lv_at hl 1 rfl) ?_
  refine lv_icmp_lt (tgt := 14) hx hb dX7_within_2 (by decide) (fun c_1 => ?_) (fun c_1 => ?_)
  · replace hf := ite_p c_1 hf
    refine lv_iconst (v := 0) hx hb dX7_within_14 (by decide) ?_
    obtain rfl := Option.some.inj hf
    exact kt_zret C0 (by decide) hP hS dX7_within_15
  · replace hf := ite_n c_1 hf
    refine lv_iload_n hx hb dX7_within_5 rfl (lv_at hl 0 rfl) ?_
    refine lv_iload_n hx hb dX7_within_6 rfl (lv_at hl 2 rfl) ?_
    refine lv_icmp_gt (tgt := 14) hx hb dX7_within_7 (by decide) (fun c_2 => ?_) (fun c_2 => ?_)
    · replace hf := ite_p c_2 hf
      refine lv_iconst (v := 0) hx hb dX7_within_14 (by decide) ?_
      obtain rfl := Option.some.inj hf
      exact kt_zret C0 (by decide) hP hS dX7_within_15
    · replace hf := ite_n c_2 hf
      refine lv_iconst (v := 1) hx hb dX7_within_10 (by decide) ?_
      refine lv_goto (tgt := 15) hx hb dX7_within_11 (by decide) ?_
      obtain rfl := Option.some.inj hf
      exact kt_zret C0 (by decide) hP hS dX7_within_15
set_option maxHeartbeats 4000000 in
set_option maxRecDepth 100000 in
theorem c_X7_has (l : Launch) (γ : Gm) {x1 : Int32} {x2 : Int32} {rv : Int32} (hf : f_X7_has x1 x2 = some rv) : Kt l γ yX7_has (Cond.code yX7_has cX7_has 2 (some .boolean) :: U) 0 0 [.int x1, .int x2] ([]) (some (.int rv)) ([]) := by
  refine Kt.of (by decide) rfl (Nat.le_of_ble_eq_true rfl) rfl ?_
  intro p e s m below meth c A ls C0 hP hD0 hS hl
  obtain ⟨hx, hb, hml, hown, hts, hr, hlocks, hK, hE, hA⟩ := id C0
  have hU : ∀ w ∈ U, w.before _ s = true := fun w h => hts w (List.mem_cons_of_mem _ h)
  have hD := hD0
  have hl : lv_has ls 2 [(0, .int x1), (1, .int x2)] := hl
  unfold f_X7_has at hf
  refine lv_iload_n hx hb dX7_has_0 rfl (lv_at hl 0 rfl) ?_
  refine lv_iload_n hx hb dX7_has_1 rfl (lv_at hl 1 rfl) ?_
  refine lv_ishr hx hb dX7_has_2 ?_
  refine lv_iconst (v := 1) hx hb dX7_has_3 (by decide) ?_
  refine lv_iand hx hb dX7_has_4 ?_
  refine lv_iconst (v := 1) hx hb dX7_has_5 (by decide) ?_
  refine lv_icmp_ne (tgt := 13) hx hb dX7_has_6 (by decide) (fun c_1 => ?_) (fun c_1 => ?_)
  · replace hf := ite_n c_1 hf
    refine lv_iconst (v := 0) hx hb dX7_has_13 (by decide) ?_
    obtain rfl := Option.some.inj hf
    exact kt_zret C0 (by decide) hP hS dX7_has_14
  · replace hf := ite_p c_1 hf
    refine lv_iconst (v := 1) hx hb dX7_has_9 (by decide) ?_
    refine lv_goto (tgt := 14) hx hb dX7_has_10 (by decide) ?_
    obtain rfl := Option.some.inj hf
    exact kt_zret C0 (by decide) hP hS dX7_has_14
set_option maxHeartbeats 4000000 in
set_option maxRecDepth 100000 in
theorem c_X7_isPeak (l : Launch) (γ : Gm) (am : Nat → Nat) {sm : GS} {sq : Nat → Int64} {x1 : Int32} {rv : Int32} (hf : f_X7_isPeak sm x1 = some rv) : Kt l γ yX7_isPeak (Cond.code yX7_isPeak cX7_isPeak 2 (some .boolean) :: U) 1 22 [.ref (am 0), .int x1] (wM γ am sm sq) (some (.int rv)) (wM γ am sm sq) := by
  refine Kt.of (by decide) rfl (Nat.le_of_ble_eq_true rfl) rfl ?_
  intro p e s m below meth c A ls C0 hP hD0 hS hl
  obtain ⟨hx, hb, hml, hown, hts, hr, hlocks, hK, hE, hA⟩ := id C0
  have hU : ∀ w ∈ U, w.before _ s = true := fun w h => hts w (List.mem_cons_of_mem _ h)
  have hD : ∀ (sm : GS) (sq : Nat → Int64), va_D A (wM γ am sm sq) := fun _ _ => hD0.fst rfl
  have hl : lv_has ls 2 [(0, .ref (am 0)), (1, .int x1)] := hl
  unfold f_X7_isPeak at hf
  refine lv_iload_n hx hb dX7_isPeak_0 rfl (lv_at hl 1 rfl) ?_
  refine lv_iconst (v := 0) hx hb dX7_isPeak_1 (by decide) ?_
  refine lv_aload_n hx hb dX7_isPeak_2 rfl (lv_at hl 0 rfl) ?_
  refine va_get (D := γ.1) (ci := 7) (v := .int (sm 0 3)) (C := RX7) (T := TX7) (N := 35) hx hb hU uin7 hown hK hP 0 rfl rfl 3 (by decide) (hU _ U972) (fun _ h9 => h9) rfl dX7_isPeak_3 ?_
  refine lv_iconst (v := 1) hx hb dX7_isPeak_6 (by decide) ?_
  refine lv_isub hx hb dX7_isPeak_7 ?_
  obtain ⟨r_1, hg_2, hf⟩ := bd_of hf
  refine kt_SF (As := [.int x1, .int (0 : Int32), .int ((sm 0 3) - (1 : Int32))]) (rest := []) (st1 := [.int r_1]) (wc' := wM γ am sm sq) C0 (c_X7_within l γ hg_2) (cxS (nA := 3) hts goodU U1079 U1080 U91 U1081 (by decide +kernel) ⟨Nat.le_of_ble_eq_true rfl, Nat.le_of_ble_eq_true rfl⟩) hP (hD _ _) hS hl dX7_isPeak_8 foc_nil rfl (Nat.le_of_ble_eq_true rfl) rfl rfl (fun H locs hP hS => ?_)
  obtain ⟨g_3, hf⟩ := gd_of hf
  obtain rfl := Option.some.inj hf
  exact kt_zret C0 (isZ_nar g_3) hP hS dX7_isPeak_11
set_option maxHeartbeats 4000000 in
set_option maxRecDepth 100000 in
theorem c_X7_isThere (l : Launch) (γ : Gm) (am : Nat → Nat) {sm : GS} {sq : Nat → Int64} {x1 : Int32} {rv : Int32} (hf : f_X7_isThere sm x1 = some rv) : Kt l γ yX7_isThere (Cond.code yX7_isThere cX7_isThere 2 (some .boolean) :: U) 2 43 [.ref (am 0), .int x1] (wM γ am sm sq) (some (.int rv)) (wM γ am sm sq) := by
  refine Kt.of (by decide) rfl (Nat.le_of_ble_eq_true rfl) rfl ?_
  intro p e s m below meth c A ls C0 hP hD0 hS hl
  obtain ⟨hx, hb, hml, hown, hts, hr, hlocks, hK, hE, hA⟩ := id C0
  have hU : ∀ w ∈ U, w.before _ s = true := fun w h => hts w (List.mem_cons_of_mem _ h)
  have hD : ∀ (sm : GS) (sq : Nat → Int64), va_D A (wM γ am sm sq) := fun _ _ => hD0.fst rfl
  have hl : lv_has ls 2 [(0, .ref (am 0)), (1, .int x1)] := hl
  unfold f_X7_isThere at hf
  refine lv_aload_n hx hb dX7_isThere_0 rfl (lv_at hl 0 rfl) ?_
  refine lv_iload_n hx hb dX7_isThere_1 rfl (lv_at hl 1 rfl) ?_
  obtain ⟨r_1, hg_2, hf⟩ := bd_of hf
  refine kt_V0 (As := [.int x1]) (rest := []) (st1 := [.int r_1]) (b := am 0) C0 (c_X7_isPeak l γ am hg_2) (cxV (nA := 1) hts goodU U1110 U1112 U33 U91 U1113 (by decide +kernel) ⟨Nat.le_of_ble_eq_true rfl, Nat.le_of_ble_eq_true rfl⟩) hP (hD _ _) hS hl dX7_isThere_2 0 7 rfl rfl rfl rfl (Nat.le_of_ble_eq_true rfl) rfl rfl (fun H locs hP hS => ?_)
  refine lv_if_eq (tgt := 22) hx hb dX7_isThere_5 (by decide) (fun c_3 => ?_) (fun c_3 => ?_)
  · replace hf := ite_p c_3 hf
    refine lv_iconst (v := 0) hx hb dX7_isThere_22 (by decide) ?_
    obtain rfl := Option.some.inj hf
    exact kt_zret C0 (by decide) hP hS dX7_isThere_23
  · replace hf := ite_n c_3 hf
    refine lv_aload_n hx hb dX7_isThere_8 rfl (lv_at hl 0 rfl) ?_
    refine va_get (D := γ.1) (ci := 7) (v := .ref (am 9)) (C := RX7) (T := TX7) (N := 35) hx hb hU uin7 hown hK hP 0 rfl rfl 8 (by decide) (hU _ U977) (fun _ h9 => h9) rfl dX7_isThere_9 ?_
    refine lv_iload_n hx hb dX7_isThere_12 rfl (lv_at hl 1 rfl) ?_
    obtain ⟨g_4, hf⟩ := gd_of hf
    refine va_iald hx hb hK hP 8 0 rfl rfl (inB_vp g_4) dX7_isThere_13 ?_
    refine lv_iconst (v := 1) hx hb dX7_isThere_14 (by decide) ?_
    refine lv_icmp_ne (tgt := 22) hx hb dX7_isThere_15 (by decide) (fun c_5 => ?_) (fun c_5 => ?_)
    · replace hf := ite_n c_5 hf
      refine lv_iconst (v := 0) hx hb dX7_isThere_22 (by decide) ?_
      obtain rfl := Option.some.inj hf
      exact kt_zret C0 (by decide) hP hS dX7_isThere_23
    · replace hf := ite_p c_5 hf
      refine lv_iconst (v := 1) hx hb dX7_isThere_18 (by decide) ?_
      refine lv_goto (tgt := 23) hx hb dX7_isThere_19 (by decide) ?_
      obtain rfl := Option.some.inj hf
      exact kt_zret C0 (by decide) hP hS dX7_isThere_23
set_option maxHeartbeats 4000000 in
set_option maxRecDepth 100000 in
theorem c_X7_isValley (l : Launch) (γ : Gm) (am : Nat → Nat) {sm : GS} {sq : Nat → Int64} {x1 : Int32} {rv : Int32} (hf : f_X7_isValley sm x1 = some rv) : Kt l γ yX7_isValley (Cond.code yX7_isValley cX7_isValley 2 (some .boolean) :: U) 1 22 [.ref (am 0), .int x1] (wM γ am sm sq) (some (.int rv)) (wM γ am sm sq) := by
  refine Kt.of (by decide) rfl (Nat.le_of_ble_eq_true rfl) rfl ?_
  intro p e s m below meth c A ls C0 hP hD0 hS hl
  obtain ⟨hx, hb, hml, hown, hts, hr, hlocks, hK, hE, hA⟩ := id C0
  have hU : ∀ w ∈ U, w.before _ s = true := fun w h => hts w (List.mem_cons_of_mem _ h)
  have hD : ∀ (sm : GS) (sq : Nat → Int64), va_D A (wM γ am sm sq) := fun _ _ => hD0.fst rfl
  have hl : lv_has ls 2 [(0, .ref (am 0)), (1, .int x1)] := hl
  unfold f_X7_isValley at hf
  refine lv_iload_n hx hb dX7_isValley_0 rfl (lv_at hl 1 rfl) ?_
  refine lv_iconst (v := 0) hx hb dX7_isValley_1 (by decide) ?_
  refine lv_aload_n hx hb dX7_isValley_2 rfl (lv_at hl 0 rfl) ?_
  refine va_get (D := γ.1) (ci := 7) (v := .int (sm 0 14)) (C := RX7) (T := TX7) (N := 35) hx hb hU uin7 hown hK hP 0 rfl rfl 14 (by decide) (hU _ U983) (fun _ h9 => h9) rfl dX7_isValley_3 ?_
  refine lv_iconst (v := 1) hx hb dX7_isValley_6 (by decide) ?_
  refine lv_isub hx hb dX7_isValley_7 ?_
  obtain ⟨r_1, hg_2, hf⟩ := bd_of hf
  refine kt_SF (As := [.int x1, .int (0 : Int32), .int ((sm 0 14) - (1 : Int32))]) (rest := []) (st1 := [.int r_1]) (wc' := wM γ am sm sq) C0 (c_X7_within l γ hg_2) (cxS (nA := 3) hts goodU U1079 U1080 U91 U1081 (by decide +kernel) ⟨Nat.le_of_ble_eq_true rfl, Nat.le_of_ble_eq_true rfl⟩) hP (hD _ _) hS hl dX7_isValley_8 foc_nil rfl (Nat.le_of_ble_eq_true rfl) rfl rfl (fun H locs hP hS => ?_)
  obtain ⟨g_3, hf⟩ := gd_of hf
  obtain rfl := Option.some.inj hf
  exact kt_zret C0 (isZ_nar g_3) hP hS dX7_isValley_11
set_option maxHeartbeats 4000000 in
set_option maxRecDepth 100000 in
theorem c_X7_isPlace (l : Launch) (γ : Gm) {x1 : Int32} {rv : Int32} (hf : f_X7_isPlace x1 = some rv) : Kt l γ yX7_isPlace (Cond.code yX7_isPlace cX7_isPlace 1 (some .boolean) :: U) 1 22 [.int x1] ([]) (some (.int rv)) ([]) := by
  refine Kt.of (by decide) rfl (Nat.le_of_ble_eq_true rfl) rfl ?_
  intro p e s m below meth c A ls C0 hP hD0 hS hl
  obtain ⟨hx, hb, hml, hown, hts, hr, hlocks, hK, hE, hA⟩ := id C0
  have hU : ∀ w ∈ U, w.before _ s = true := fun w h => hts w (List.mem_cons_of_mem _ h)
  have hD := hD0
  have hl : lv_has ls 1 [(0, .int x1)] := hl
  unfold f_X7_isPlace at hf
  refine lv_iload_n hx hb dX7_isPlace_0 rfl (lv_at hl 0 rfl) ?_
  refine lv_iconst (v := 0) hx hb dX7_isPlace_1 (by decide) ?_
  refine lv_bipush (v := 99) hx hb dX7_isPlace_2 (by decide) ?_
  obtain ⟨r_1, hg_2, hf⟩ := bd_of hf
  refine kt_SF (As := [.int x1, .int (0 : Int32), .int (99 : Int32)]) (rest := []) (st1 := [.int r_1]) (wc' := []) C0 (c_X7_within l γ hg_2) (cxS (nA := 3) hts goodU U1079 U1080 U91 U1081 (by decide +kernel) ⟨Nat.le_of_ble_eq_true rfl, Nat.le_of_ble_eq_true rfl⟩) hP (hD) hS hl dX7_isPlace_4 foc_nil rfl (Nat.le_of_ble_eq_true rfl) rfl rfl (fun H locs hP hS => ?_)
  obtain ⟨g_3, hf⟩ := gd_of hf
  obtain rfl := Option.some.inj hf
  exact kt_zret C0 (isZ_nar g_3) hP hS dX7_isPlace_7
set_option maxHeartbeats 4000000 in
set_option maxRecDepth 100000 in
theorem c_X7_isHeight (l : Launch) (γ : Gm) {x1 : Int32} {rv : Int32} (hf : f_X7_isHeight x1 = some rv) : Kt l γ yX7_isHeight (Cond.code yX7_isHeight cX7_isHeight 1 (some .boolean) :: U) 1 22 [.int x1] ([]) (some (.int rv)) ([]) := by
  refine Kt.of (by decide) rfl (Nat.le_of_ble_eq_true rfl) rfl ?_
  intro p e s m below meth c A ls C0 hP hD0 hS hl
  obtain ⟨hx, hb, hml, hown, hts, hr, hlocks, hK, hE, hA⟩ := id C0
  have hU : ∀ w ∈ U, w.before _ s = true := fun w h => hts w (List.mem_cons_of_mem _ h)
  have hD := hD0
  have hl : lv_has ls 1 [(0, .int x1)] := hl
  unfold f_X7_isHeight at hf
  refine lv_iload_n hx hb dX7_isHeight_0 rfl (lv_at hl 0 rfl) ?_
  refine lv_iconst (v := 1) hx hb dX7_isHeight_1 (by decide) ?_
  refine lv_sipush (v := 999) hx hb dX7_isHeight_2 (by decide) ?_
  obtain ⟨r_1, hg_2, hf⟩ := bd_of hf
  refine kt_SF (As := [.int x1, .int (1 : Int32), .int (999 : Int32)]) (rest := []) (st1 := [.int r_1]) (wc' := []) C0 (c_X7_within l γ hg_2) (cxS (nA := 3) hts goodU U1079 U1080 U91 U1081 (by decide +kernel) ⟨Nat.le_of_ble_eq_true rfl, Nat.le_of_ble_eq_true rfl⟩) hP (hD) hS hl dX7_isHeight_5 foc_nil rfl (Nat.le_of_ble_eq_true rfl) rfl rfl (fun H locs hP hS => ?_)
  obtain ⟨g_3, hf⟩ := gd_of hf
  obtain rfl := Option.some.inj hf
  exact kt_zret C0 (isZ_nar g_3) hP hS dX7_isHeight_8
set_option maxHeartbeats 4000000 in
set_option maxRecDepth 100000 in
theorem c_X7_isTaken (l : Launch) (γ : Gm) (am : Nat → Nat) {sm : GS} {sq : Nat → Int64} {x1 : Int32} {rv : Int32} (hf : f_X7_isTaken sm x1 = some rv) : Kt l γ yX7_isTaken (Cond.code yX7_isTaken cX7_isTaken 3 (some .boolean) :: U) 0 0 [.ref (am 0), .int x1] (wM γ am sm sq) (some (.int rv)) (wM γ am sm sq) := by
  refine Kt.of (by decide) rfl (Nat.le_of_ble_eq_true rfl) rfl ?_
  intro p e s m below meth c A ls C0 hP hD0 hS hl
  obtain ⟨hx, hb, hml, hown, hts, hr, hlocks, hK, hE, hA⟩ := id C0
  have hU : ∀ w ∈ U, w.before _ s = true := fun w h => hts w (List.mem_cons_of_mem _ h)
  have hD : ∀ (sm : GS) (sq : Nat → Int64), va_D A (wM γ am sm sq) := fun _ _ => hD0.fst rfl
  have hl : lv_has ls 3 [(0, .ref (am 0)), (1, .int x1)] := hl
  have L2 : ∀ (x1_1 : Int32) (n : Nat) (x2_2 : Int32) (H : Heap) (locs : List Loc) (ls : Array Slot), f_X7_isTaken_L2 sm x1_1 n x2_2 = some rv → va_P γ.1 vwCl (wM γ am sm sq) H → va_S A s.heap H locs → lv_has ls 3 [(0, .ref (am 0)), (1, .int x1_1), (2, .int x2_2)] → W p l e (rmK 0 0) s m ([.ref (am 0), .int x1] : List Value).toArray below meth c H locs 0 0 (MQ below (KQ γ A (some (.int rv)) (wM γ am sm sq)) ([.ref (am 0), .int x1] : List Value).toArray s 0 0 A) (F0 m 2 ls []) := by
    intro x1_1
    intro n
    induction n with
    | zero =>
      intro x2_2 H locs ls hf
      have hf : none = some _ := hf
      cases hf
    | succ n ih =>
      intro x2_2 H locs ls hf hP hS hl
      rw [f_X7_isTaken_L2.eq_2] at hf
      refine lv_iload_n hx hb dX7_isTaken_2 rfl (lv_at hl 2 rfl) ?_
      refine lv_aload_n hx hb dX7_isTaken_3 rfl (lv_at hl 0 rfl) ?_
      refine va_get (D := γ.1) (ci := 7) (v := .int (sm 0 3)) (C := RX7) (T := TX7) (N := 35) hx hb hU uin7 hown hK hP 0 rfl rfl 3 (by decide) (hU _ U972) (fun _ h9 => h9) rfl dX7_isTaken_4 ?_
      refine lv_icmp_ge (tgt := 28) hx hb dX7_isTaken_7 (by decide) (fun c_3 => ?_) (fun c_3 => ?_)
      · replace hf := ite_p c_3 hf
        refine lv_iconst (v := 0) hx hb dX7_isTaken_28 (by decide) ?_
        obtain rfl := Option.some.inj hf
        exact kt_zret C0 (by decide) hP hS dX7_isTaken_29
      · replace hf := ite_n c_3 hf
        refine lv_aload_n hx hb dX7_isTaken_10 rfl (lv_at hl 0 rfl) ?_
        refine va_get (D := γ.1) (ci := 7) (v := .ref (am 7)) (C := RX7) (T := TX7) (N := 35) hx hb hU uin7 hown hK hP 0 rfl rfl 6 (by decide) (hU _ U975) (fun _ h9 => h9) rfl dX7_isTaken_11 ?_
        refine lv_iload_n hx hb dX7_isTaken_14 rfl (lv_at hl 2 rfl) ?_
        obtain ⟨g_4, hf⟩ := gd_of hf
        refine va_iald hx hb hK hP 6 0 rfl rfl (inB_vp g_4) dX7_isTaken_15 ?_
        refine lv_iload_n hx hb dX7_isTaken_16 rfl (lv_at hl 1 rfl) ?_
        refine lv_icmp_ne (tgt := 22) hx hb dX7_isTaken_17 (by decide) (fun c_5 => ?_) (fun c_5 => ?_)
        · replace hf := ite_n c_5 hf
          obtain ⟨x2_6, e_x2_6⟩ : ∃ y : Int32, y = x2_2 + (1 : Int32) := ⟨_, rfl⟩
          replace hf := nm_y hf e_x2_6
          refine lv_iinc (v := x2_6) (lv' := [(2, .int x2_6), (0, .ref (am 0)), (1, .int x1_1)]) hx hb dX7_isTaken_22 hl (k := 2) rfl (by rw [e_x2_6]; rfl) (by decide) rfl (fun ls hl => ?_)
          refine lv_goto (tgt := 2) hx hb dX7_isTaken_25 (by decide) ?_
          exact ih x2_6 _ _ _ hf hP hS (lv_sub hl [1, 2, 0] rfl)
        · replace hf := ite_p c_5 hf
          refine lv_iconst (v := 1) hx hb dX7_isTaken_20 (by decide) ?_
          obtain rfl := Option.some.inj hf
          exact kt_zret C0 (by decide) hP hS dX7_isTaken_21
  unfold f_X7_isTaken at hf
  refine lv_iconst (v := 0) hx hb dX7_isTaken_0 (by decide) ?_
  refine lv_istore_n (lv' := [(2, .int (0 : Int32)), (0, .ref (am 0)), (1, .int x1)]) hx hb dX7_isTaken_1 rfl hl (by decide) rfl (fun ls hl => ?_)
  exact L2 x1 FU (0 : Int32) _ _ _ hf hP hS (lv_sub hl [1, 2, 0] rfl)
set_option maxHeartbeats 4000000 in
set_option maxRecDepth 100000 in
theorem c_X7_isRow (l : Launch) (γ : Gm) (am : Nat → Nat) {sm : GS} {sq : Nat → Int64} {x1 : Int32} {rv : Int32} (hf : f_X7_isRow sm x1 = some rv) : Kt l γ yX7_isRow (Cond.code yX7_isRow cX7_isRow 2 (some .boolean) :: U) 0 0 [.ref (am 0), .int x1] (wM γ am sm sq) (some (.int rv)) (wM γ am sm sq) := by
  refine Kt.of (by decide) rfl (Nat.le_of_ble_eq_true rfl) rfl ?_
  intro p e s m below meth c A ls C0 hP hD0 hS hl
  obtain ⟨hx, hb, hml, hown, hts, hr, hlocks, hK, hE, hA⟩ := id C0
  have hU : ∀ w ∈ U, w.before _ s = true := fun w h => hts w (List.mem_cons_of_mem _ h)
  have hD : ∀ (sm : GS) (sq : Nat → Int64), va_D A (wM γ am sm sq) := fun _ _ => hD0.fst rfl
  have hl : lv_has ls 2 [(0, .ref (am 0)), (1, .int x1)] := hl
  unfold f_X7_isRow at hf
  refine lv_aload_n hx hb dX7_isRow_0 rfl (lv_at hl 0 rfl) ?_
  refine va_get (D := γ.1) (ci := 7) (v := .ref (am 1)) (C := RX7) (T := TX7) (N := 35) hx hb hU uin7 hown hK hP 0 rfl rfl 0 (by decide) (hU _ U969) (fun _ h9 => h9) rfl dX7_isRow_1 ?_
  refine lv_iload_n hx hb dX7_isRow_4 rfl (lv_at hl 1 rfl) ?_
  obtain ⟨g_1, hf⟩ := gd_of hf
  refine va_iald hx hb hK hP 1 0 rfl rfl (inB_vp g_1) dX7_isRow_5 ?_
  refine lv_bipush (v := 100) hx hb dX7_isRow_6 (by decide) ?_
  refine lv_icmp_lt (tgt := 15) hx hb dX7_isRow_8 (by decide) (fun c_2 => ?_) (fun c_2 => ?_)
  · replace hf := ite_p c_2 hf
    refine lv_iconst (v := 0) hx hb dX7_isRow_15 (by decide) ?_
    obtain rfl := Option.some.inj hf
    exact kt_zret C0 (by decide) hP hS dX7_isRow_16
  · replace hf := ite_n c_2 hf
    refine lv_iconst (v := 1) hx hb dX7_isRow_11 (by decide) ?_
    refine lv_goto (tgt := 16) hx hb dX7_isRow_12 (by decide) ?_
    obtain rfl := Option.some.inj hf
    exact kt_zret C0 (by decide) hP hS dX7_isRow_16
set_option maxHeartbeats 4000000 in
set_option maxRecDepth 100000 in
theorem c_X7_row (l : Launch) (γ : Gm) (am : Nat → Nat) {sm : GS} {sq : Nat → Int64} {x1 : Int32} {x2 : Int32} {x3 : Int32} {rv : Int32} {sm_z : GS} {sq_z : Nat → Int64} (hf : f_X7_row sm sq x1 x2 x3 = some (rv, sm_z, sq_z)) : Kt l γ yX7_row (Cond.code yX7_row cX7_row 5 (some .int) :: U) 1 22 [.ref (am 0), .int x1, .int x2, .int x3] (wM γ am sm sq) (some (.int rv)) (wM γ am sm_z sq_z) := by
  refine Kt.of (by decide) rfl (Nat.le_of_ble_eq_true rfl) rfl ?_
  intro p e s m below meth c A ls C0 hP hD0 hS hl
  obtain ⟨hx, hb, hml, hown, hts, hr, hlocks, hK, hE, hA⟩ := id C0
  have hU : ∀ w ∈ U, w.before _ s = true := fun w h => hts w (List.mem_cons_of_mem _ h)
  have hD : ∀ (sm : GS) (sq : Nat → Int64), va_D A (wM γ am sm sq) := fun _ _ => hD0.fst rfl
  have hl : lv_has ls 5 [(0, .ref (am 0)), (1, .int x1), (2, .int x2), (3, .int x3)] := hl
  have L77 : ∀ (x1_14 : Int32) (sm_16 : GS) (n : Nat) (x4_15 : Int32) (sq_17 : Nat → Int64) (H : Heap) (locs : List Loc) (ls : Array Slot), f_X7_row_L77 x1_14 sm_16 n x4_15 sq_17 = some (rv, sm_z, sq_z) → va_P γ.1 vwCl (wM γ am sm_16 sq_17) H → va_S A s.heap H locs → lv_has ls 5 [(0, .ref (am 0)), (1, .int x1_14), (4, .int x4_15)] → W p l e (rmK 1 22) s m ([.ref (am 0), .int x1, .int x2, .int x3] : List Value).toArray below meth c H locs 0 0 (MQ below (KQ γ A (some (.int rv)) (wM γ am sm_z sq_z)) ([.ref (am 0), .int x1, .int x2, .int x3] : List Value).toArray s 0 0 A) (F0 m 77 ls []) := by
    intro x1_14 sm_16
    intro n
    induction n with
    | zero =>
      intro x4_15 sq_17 H locs ls hf
      have hf : none = some _ := hf
      cases hf
    | succ n ih =>
      intro x4_15 sq_17 H locs ls hf hP hS hl
      rw [f_X7_row_L77.eq_2] at hf
      refine lv_iload hx hb dX7_row_77 (lv_at hl 2 rfl) ?_
      refine lv_sipush (v := 160) hx hb dX7_row_79 (by decide) ?_
      refine lv_icmp_ge (tgt := 105) hx hb dX7_row_82 (by decide) (fun c_18 => ?_) (fun c_18 => ?_)
      · replace hf := ite_p c_18 hf
        refine lv_iconst (v := 1) hx hb dX7_row_105 (by decide) ?_
        obtain ⟨rfl, rfl, rfl⟩ := rt3 hf
        exact kt_iret C0 hP hS dX7_row_106
      · replace hf := ite_n c_18 hf
        refine lv_aload_n hx hb dX7_row_85 rfl (lv_at hl 0 rfl) ?_
        refine va_get (D := γ.1) (ci := 7) (v := .ref (am 3)) (C := RX7) (T := TX7) (N := 35) hx hb hU uin7 hown hK hP 0 rfl rfl 2 (by decide) (hU _ U971) (fun _ h9 => h9) rfl dX7_row_86 ?_
        refine lv_sipush (v := 160) hx hb dX7_row_89 (by decide) ?_
        refine lv_iload_n hx hb dX7_row_92 rfl (lv_at hl 1 rfl) ?_
        refine lv_imul hx hb dX7_row_93 ?_
        refine lv_iload hx hb dX7_row_94 (lv_at hl 2 rfl) ?_
        refine lv_iadd hx hb dX7_row_96 ?_
        refine lv_lconst (v := 0) hx hb dX7_row_97 (by decide) ?_
        obtain ⟨g_19, hf⟩ := gd_of hf
        refine va_last hx hb hK hP (hD _ _) hS 3 1 rfl rfl (inB_vp g_19) dX7_row_98 (fun H locs hP _ hS => ?_)
        obtain ⟨sq_20, e_sq_20, hf⟩ := nm_of hf
        replace hP : va_P γ.1 vwCl (wM γ am sm_16 sq_20) H := by rw [e_sq_20]; exact hP
        obtain ⟨x4_21, e_x4_21⟩ : ∃ y : Int32, y = x4_15 + (1 : Int32) := ⟨_, rfl⟩
        replace hf := nm_y hf e_x4_21
        refine lv_iinc (v := x4_21) (lv' := [(4, .int x4_21), (0, .ref (am 0)), (1, .int x1_14)]) hx hb dX7_row_99 hl (k := 2) rfl (by rw [e_x4_21]; rfl) (by decide) rfl (fun ls hl => ?_)
        refine lv_goto (tgt := 77) hx hb dX7_row_102 (by decide) ?_
        exact ih x4_21 sq_20 _ _ _ hf hP hS (lv_sub hl [1, 2, 0] rfl)
  unfold f_X7_row at hf
  refine lv_iload_n hx hb dX7_row_0 rfl (lv_at hl 1 rfl) ?_
  refine lv_iconst (v := 0) hx hb dX7_row_1 (by decide) ?_
  refine lv_bipush (v := 7) hx hb dX7_row_2 (by decide) ?_
  obtain ⟨r_1, hg_2, hf⟩ := bd_of hf
  refine kt_SF (As := [.int x1, .int (0 : Int32), .int (7 : Int32)]) (rest := []) (st1 := [.int r_1]) (wc' := wM γ am sm sq) C0 (c_X7_within l γ hg_2) (cxS (nA := 3) hts goodU U1079 U1080 U91 U1081 (by decide +kernel) ⟨Nat.le_of_ble_eq_true rfl, Nat.le_of_ble_eq_true rfl⟩) hP (hD _ _) hS hl dX7_row_4 foc_nil rfl (Nat.le_of_ble_eq_true rfl) rfl rfl (fun H locs hP hS => ?_)
  refine lv_if_ne (tgt := 16) hx hb dX7_row_7 (by decide) (fun c_3 => ?_) (fun c_3 => ?_)
  · replace hf := ite_n c_3 hf
    refine lv_iload_n hx hb dX7_row_16 rfl (lv_at hl 3 rfl) ?_
    refine lv_if_ge (tgt := 27) hx hb dX7_row_17 (by decide) (fun c_4 => ?_) (fun c_4 => ?_)
    · replace hf := ite_p c_4 hf
      refine lv_iload_n hx hb dX7_row_27 rfl (lv_at hl 2 rfl) ?_
      refine lv_iconst (v := 0) hx hb dX7_row_28 (by decide) ?_
      refine lv_iconst (v := 3) hx hb dX7_row_29 (by decide) ?_
      obtain ⟨r_5, hg_6, hf⟩ := bd_of hf
      refine kt_SF (As := [.int x2, .int (0 : Int32), .int (3 : Int32)]) (rest := []) (st1 := [.int r_5]) (wc' := wM γ am sm sq) C0 (c_X7_within l γ hg_6) (cxS (nA := 3) hts goodU U1079 U1080 U91 U1081 (by decide +kernel) ⟨Nat.le_of_ble_eq_true rfl, Nat.le_of_ble_eq_true rfl⟩) hP (hD _ _) hS hl dX7_row_30 foc_nil rfl (Nat.le_of_ble_eq_true rfl) rfl rfl (fun H locs hP hS => ?_)
      refine lv_if_ne (tgt := 43) hx hb dX7_row_33 (by decide) (fun c_7 => ?_) (fun c_7 => ?_)
      · replace hf := ite_n c_7 hf
        refine lv_iload_n hx hb dX7_row_43 rfl (lv_at hl 3 rfl) ?_
        refine lv_sipush (v := 160) hx hb dX7_row_44 (by decide) ?_
        refine lv_icmp_le (tgt := 57) hx hb dX7_row_47 (by decide) (fun c_8 => ?_) (fun c_8 => ?_)
        · replace hf := ite_p c_8 hf
          refine lv_aload_n hx hb dX7_row_57 rfl (lv_at hl 0 rfl) ?_
          refine va_get (D := γ.1) (ci := 7) (v := .ref (am 1)) (C := RX7) (T := TX7) (N := 35) hx hb hU uin7 hown hK hP 0 rfl rfl 0 (by decide) (hU _ U969) (fun _ h9 => h9) rfl dX7_row_58 ?_
          refine lv_iload_n hx hb dX7_row_61 rfl (lv_at hl 1 rfl) ?_
          refine lv_bipush (v := 100) hx hb dX7_row_62 (by decide) ?_
          refine lv_iload_n hx hb dX7_row_64 rfl (lv_at hl 2 rfl) ?_
          refine lv_iadd hx hb dX7_row_65 ?_
          refine lv_topi (fun u_9 e_u_9 => ?_)
          replace hf := nm_y hf e_u_9
          obtain ⟨g_10, hf⟩ := gd_of hf
          refine va_iast hx hb hK hP (hD _ _) hS 1 0 rfl rfl (inB_vp g_10) dX7_row_66 (fun H locs hP _ hS => ?_)
          obtain ⟨sm_11, e_sm_11, hf⟩ := nm_of hf
          replace hP : va_P γ.1 vwCl (wM γ am sm_11 sq) H := by rw [e_sm_11]; exact hP
          refine lv_aload_n hx hb dX7_row_67 rfl (lv_at hl 0 rfl) ?_
          refine va_get (D := γ.1) (ci := 7) (v := .ref (am 2)) (C := RX7) (T := TX7) (N := 35) hx hb hU uin7 hown hK hP 0 rfl rfl 1 (by decide) (hU _ U970) (fun _ h9 => h9) rfl dX7_row_68 ?_
          refine lv_iload_n hx hb dX7_row_71 rfl (lv_at hl 1 rfl) ?_
          refine lv_iload_n hx hb dX7_row_72 rfl (lv_at hl 3 rfl) ?_
          obtain ⟨g_12, hf⟩ := gd_of hf
          refine va_iast hx hb hK hP (hD _ _) hS 2 0 rfl rfl (inB_vp g_12) dX7_row_73 (fun H locs hP _ hS => ?_)
          obtain ⟨sm_13, e_sm_13, hf⟩ := nm_of hf
          replace hP : va_P γ.1 vwCl (wM γ am sm_13 sq) H := by rw [e_sm_13]; exact hP
          refine lv_iconst (v := 0) hx hb dX7_row_74 (by decide) ?_
          refine lv_istore (lv' := [(4, .int (0 : Int32)), (0, .ref (am 0)), (1, .int x1), (2, .int x2), (3, .int x3)]) hx hb dX7_row_75 hl (by decide) rfl (fun ls hl => ?_)
          exact L77 x1 sm_13 FU (0 : Int32) sq _ _ _ hf hP hS (lv_sub hl [1, 2, 0] rfl)
        · replace hf := ite_n c_8 hf
          refine lv_aload_n hx hb dX7_row_50 rfl (lv_at hl 0 rfl) ?_
          refine lv_bipush (v := -7) hx hb dX7_row_51 (by decide) ?_
          obtain ⟨r_22, sm_23, hg_24, hf⟩ := bd2_of hf
          refine kt_V0 (As := [.int (-7 : Int32)]) (rest := []) (st1 := [.int r_22]) (b := am 0) C0 (c_X7_no l γ am hg_24) (cxV (nA := 1) hts goodU U1082 U1084 U30 U91 U1085 (by decide +kernel) ⟨Nat.le_of_ble_eq_true rfl, Nat.le_of_ble_eq_true rfl⟩) hP (hD _ _) hS hl dX7_row_53 0 7 rfl rfl rfl rfl (Nat.le_of_ble_eq_true rfl) rfl rfl (fun H locs hP hS => ?_)
          obtain ⟨rfl, rfl, rfl⟩ := rt3 hf
          exact kt_iret C0 hP hS dX7_row_56
      · replace hf := ite_p c_7 hf
        refine lv_aload_n hx hb dX7_row_36 rfl (lv_at hl 0 rfl) ?_
        refine lv_bipush (v := -6) hx hb dX7_row_37 (by decide) ?_
        obtain ⟨r_25, sm_26, hg_27, hf⟩ := bd2_of hf
        refine kt_V0 (As := [.int (-6 : Int32)]) (rest := []) (st1 := [.int r_25]) (b := am 0) C0 (c_X7_no l γ am hg_27) (cxV (nA := 1) hts goodU U1082 U1084 U30 U91 U1085 (by decide +kernel) ⟨Nat.le_of_ble_eq_true rfl, Nat.le_of_ble_eq_true rfl⟩) hP (hD _ _) hS hl dX7_row_39 0 7 rfl rfl rfl rfl (Nat.le_of_ble_eq_true rfl) rfl rfl (fun H locs hP hS => ?_)
        obtain ⟨rfl, rfl, rfl⟩ := rt3 hf
        exact kt_iret C0 hP hS dX7_row_42
    · replace hf := ite_n c_4 hf
      refine lv_aload_n hx hb dX7_row_20 rfl (lv_at hl 0 rfl) ?_
      refine lv_bipush (v := -4) hx hb dX7_row_21 (by decide) ?_
      obtain ⟨r_28, sm_29, hg_30, hf⟩ := bd2_of hf
      refine kt_V0 (As := [.int (-4 : Int32)]) (rest := []) (st1 := [.int r_28]) (b := am 0) C0 (c_X7_no l γ am hg_30) (cxV (nA := 1) hts goodU U1082 U1084 U30 U91 U1085 (by decide +kernel) ⟨Nat.le_of_ble_eq_true rfl, Nat.le_of_ble_eq_true rfl⟩) hP (hD _ _) hS hl dX7_row_23 0 7 rfl rfl rfl rfl (Nat.le_of_ble_eq_true rfl) rfl rfl (fun H locs hP hS => ?_)
      obtain ⟨rfl, rfl, rfl⟩ := rt3 hf
      exact kt_iret C0 hP hS dX7_row_26
  · replace hf := ite_p c_3 hf
    refine lv_aload_n hx hb dX7_row_10 rfl (lv_at hl 0 rfl) ?_
    refine lv_iconst (v := -1) hx hb dX7_row_11 (by decide) ?_
    obtain ⟨r_31, sm_32, hg_33, hf⟩ := bd2_of hf
    refine kt_V0 (As := [.int (-1 : Int32)]) (rest := []) (st1 := [.int r_31]) (b := am 0) C0 (c_X7_no l γ am hg_33) (cxV (nA := 1) hts goodU U1082 U1084 U30 U91 U1085 (by decide +kernel) ⟨Nat.le_of_ble_eq_true rfl, Nat.le_of_ble_eq_true rfl⟩) hP (hD _ _) hS hl dX7_row_12 0 7 rfl rfl rfl rfl (Nat.le_of_ble_eq_true rfl) rfl rfl (fun H locs hP hS => ?_)
    obtain ⟨rfl, rfl, rfl⟩ := rt3 hf
    exact kt_iret C0 hP hS dX7_row_15
set_option maxHeartbeats 4000000 in
set_option maxRecDepth 100000 in
theorem c_X7_noRow (l : Launch) (γ : Gm) (am : Nat → Nat) {sm : GS} {sq : Nat → Int64} {x1 : Int32} {rv : Int32} (hf : f_X7_noRow sm x1 = some rv) : Kt l γ yX7_noRow (Cond.code yX7_noRow cX7_noRow 2 (some .int) :: U) 1 22 [.ref (am 0), .int x1] (wM γ am sm sq) (some (.int rv)) (wM γ am sm sq) := by
  refine Kt.of (by decide) rfl (Nat.le_of_ble_eq_true rfl) rfl ?_
  intro p e s m below meth c A ls C0 hP hD0 hS hl
  obtain ⟨hx, hb, hml, hown, hts, hr, hlocks, hK, hE, hA⟩ := id C0
  have hU : ∀ w ∈ U, w.before _ s = true := fun w h => hts w (List.mem_cons_of_mem _ h)
  have hD : ∀ (sm : GS) (sq : Nat → Int64), va_D A (wM γ am sm sq) := fun _ _ => hD0.fst rfl
  have hl : lv_has ls 2 [(0, .ref (am 0)), (1, .int x1)] := hl
  have J32 : ∀ (x1_6 : Int32) (H : Heap) (locs : List Loc) (ls : Array Slot), f_X7_noRow_J32 sm x1_6 = some rv → va_P γ.1 vwCl (wM γ am sm sq) H → va_S A s.heap H locs → lv_has ls 2 [(0, .ref (am 0)), (1, .int x1_6)] → W p l e (rmK 1 22) s m ([.ref (am 0), .int x1] : List Value).toArray below meth c H locs 0 0 (MQ below (KQ γ A (some (.int rv)) (wM γ am sm sq)) ([.ref (am 0), .int x1] : List Value).toArray s 0 0 A) (F0 m 32 ls []) := by
    intro x1_6 H locs ls hf hP hS hl
    unfold f_X7_noRow_J32 at hf
    refine lv_aload_n hx hb dX7_noRow_32 rfl (lv_at hl 0 rfl) ?_
    refine va_get (D := γ.1) (ci := 7) (v := .ref (am 1)) (C := RX7) (T := TX7) (N := 35) hx hb hU uin7 hown hK hP 0 rfl rfl 0 (by decide) (hU _ U969) (fun _ h9 => h9) rfl dX7_noRow_33 ?_
    refine lv_iload_n hx hb dX7_noRow_36 rfl (lv_at hl 1 rfl) ?_
    obtain ⟨g_7, hf⟩ := gd_of hf
    refine va_iald hx hb hK hP 1 0 rfl rfl (inB_vp g_7) dX7_noRow_37 ?_
    refine lv_if_ge (tgt := 46) hx hb dX7_noRow_38 (by decide) (fun c_8 => ?_) (fun c_8 => ?_)
    · replace hf := ite_p c_8 hf
      refine lv_iconst (v := 0) hx hb dX7_noRow_46 (by decide) ?_
      obtain rfl := Option.some.inj hf
      exact kt_iret C0 hP hS dX7_noRow_47
    · replace hf := ite_n c_8 hf
      refine lv_bipush (v := -3) hx hb dX7_noRow_41 (by decide) ?_
      refine lv_goto (tgt := 47) hx hb dX7_noRow_43 (by decide) ?_
      obtain rfl := Option.some.inj hf
      exact kt_iret C0 hP hS dX7_noRow_47
  unfold f_X7_noRow at hf
  refine lv_iload_n hx hb dX7_noRow_0 rfl (lv_at hl 1 rfl) ?_
  refine lv_iconst (v := 0) hx hb dX7_noRow_1 (by decide) ?_
  refine lv_bipush (v := 7) hx hb dX7_noRow_2 (by decide) ?_
  obtain ⟨r_1, hg_2, hf⟩ := bd_of hf
  refine kt_SF (As := [.int x1, .int (0 : Int32), .int (7 : Int32)]) (rest := []) (st1 := [.int r_1]) (wc' := wM γ am sm sq) C0 (c_X7_within l γ hg_2) (cxS (nA := 3) hts goodU U1079 U1080 U91 U1081 (by decide +kernel) ⟨Nat.le_of_ble_eq_true rfl, Nat.le_of_ble_eq_true rfl⟩) hP (hD _ _) hS hl dX7_noRow_4 foc_nil rfl (Nat.le_of_ble_eq_true rfl) rfl rfl (fun H locs hP hS => ?_)
  refine lv_if_ne (tgt := 12) hx hb dX7_noRow_7 (by decide) (fun c_3 => ?_) (fun c_3 => ?_)
  · replace hf := ite_n c_3 hf
    refine lv_aload_n hx hb dX7_noRow_12 rfl (lv_at hl 0 rfl) ?_
    refine va_get (D := γ.1) (ci := 7) (v := .ref (am 1)) (C := RX7) (T := TX7) (N := 35) hx hb hU uin7 hown hK hP 0 rfl rfl 0 (by decide) (hU _ U969) (fun _ h9 => h9) rfl dX7_noRow_13 ?_
    refine lv_iload_n hx hb dX7_noRow_16 rfl (lv_at hl 1 rfl) ?_
    obtain ⟨g_4, hf⟩ := gd_of hf
    refine va_iald hx hb hK hP 1 0 rfl rfl (inB_vp g_4) dX7_noRow_17 ?_
    refine lv_if_lt (tgt := 32) hx hb dX7_noRow_18 (by decide) (fun c_5 => ?_) (fun c_5 => ?_)
    · replace hf := ite_p c_5 hf
      exact J32 x1 _ _ _ hf hP hS (lv_sub hl [0, 1] rfl)
    · replace hf := ite_n c_5 hf
      refine lv_aload_n hx hb dX7_noRow_21 rfl (lv_at hl 0 rfl) ?_
      refine lv_iload_n hx hb dX7_noRow_22 rfl (lv_at hl 1 rfl) ?_
      obtain ⟨r_9, hg_10, hf⟩ := bd_of hf
      refine kt_V0 (As := [.int x1]) (rest := []) (st1 := [.int r_9]) (b := am 0) C0 (c_X7_isRow l γ am hg_10) (cxV (nA := 1) hts goodU U1094 U1096 U32 U91 U1097 (by decide +kernel) ⟨Nat.le_of_ble_eq_true rfl, Nat.le_of_ble_eq_true rfl⟩) hP (hD _ _) hS hl dX7_noRow_23 0 7 rfl rfl rfl rfl (Nat.le_of_ble_eq_true rfl) rfl rfl (fun H locs hP hS => ?_)
      refine lv_if_ne (tgt := 32) hx hb dX7_noRow_26 (by decide) (fun c_11 => ?_) (fun c_11 => ?_)
      · replace hf := ite_n c_11 hf
        exact J32 x1 _ _ _ hf hP hS (lv_sub hl [0, 1] rfl)
      · replace hf := ite_p c_11 hf
        refine lv_bipush (v := -2) hx hb dX7_noRow_29 (by decide) ?_
        obtain rfl := Option.some.inj hf
        exact kt_iret C0 hP hS dX7_noRow_31
  · replace hf := ite_p c_3 hf
    refine lv_iconst (v := -1) hx hb dX7_noRow_10 (by decide) ?_
    obtain rfl := Option.some.inj hf
    exact kt_iret C0 hP hS dX7_noRow_11
set_option maxHeartbeats 4000000 in
set_option maxRecDepth 100000 in
theorem c_X7_set (l : Launch) (γ : Gm) (am : Nat → Nat) {sm : GS} {sq : Nat → Int64} {x1 : Int32} {x2 : Int32} {x3 : Int64} {rv : Int32} {sm_z : GS} {sq_z : Nat → Int64} (hf : f_X7_set sm sq x1 x2 x3 = some (rv, sm_z, sq_z)) : Kt l γ yX7_set (Cond.code yX7_set cX7_set 7 (some .int) :: U) 2 43 [.ref (am 0), .int x1, .int x2, .long x3] (wM γ am sm sq) (some (.int rv)) (wM γ am sm_z sq_z) := by
  refine Kt.of (by decide) rfl (Nat.le_of_ble_eq_true rfl) rfl ?_
  intro p e s m below meth c A ls C0 hP hD0 hS hl
  obtain ⟨hx, hb, hml, hown, hts, hr, hlocks, hK, hE, hA⟩ := id C0
  have hU : ∀ w ∈ U, w.before _ s = true := fun w h => hts w (List.mem_cons_of_mem _ h)
  have hD : ∀ (sm : GS) (sq : Nat → Int64), va_D A (wM γ am sm sq) := fun _ _ => hD0.fst rfl
  have hl : lv_has ls 7 [(0, .ref (am 0)), (1, .int x1), (2, .int x2), (3, .long x3)] := hl
  have J102 : ∀ (sm_13 : GS) (sq_14 : Nat → Int64) (t1_15 : Int32) (t2_16 : Int64) (H : Heap) (locs : List Loc) (ls : Array Slot), f_X7_set_J102 sm_13 sq_14 t1_15 t2_16 = some (rv, sm_z, sq_z) → va_P γ.1 vwCl (wM γ am sm_13 sq_14) H → va_S A s.heap H locs → lv_has ls 7 [] → W p l e (rmK 2 43) s m ([.ref (am 0), .int x1, .int x2, .long x3] : List Value).toArray below meth c H locs 0 0 (MQ below (KQ γ A (some (.int rv)) (wM γ am sm_z sq_z)) ([.ref (am 0), .int x1, .int x2, .long x3] : List Value).toArray s 0 0 A) (F0 m 102 ls [.long t2_16, .int t1_15, .ref (am 3)]) := by
    intro sm_13 sq_14 t1_15 t2_16 H locs ls hf hP hS hl
    unfold f_X7_set_J102 at hf
    obtain ⟨g_17, hf⟩ := gd_of hf
    refine va_last hx hb hK hP (hD _ _) hS 3 1 rfl rfl (inB_vp g_17) dX7_set_102 (fun H locs hP _ hS => ?_)
    obtain ⟨sq_18, e_sq_18, hf⟩ := nm_of hf
    replace hP : va_P γ.1 vwCl (wM γ am sm_13 sq_18) H := by rw [e_sq_18]; exact hP
    refine lv_iconst (v := 1) hx hb dX7_set_103 (by decide) ?_
    obtain ⟨rfl, rfl, rfl⟩ := rt3 hf
    exact kt_iret C0 hP hS dX7_set_104
  unfold f_X7_set at hf
  refine lv_aload_n hx hb dX7_set_0 rfl (lv_at hl 0 rfl) ?_
  refine lv_iload_n hx hb dX7_set_1 rfl (lv_at hl 1 rfl) ?_
  obtain ⟨r_1, hg_2, hf⟩ := bd_of hf
  refine kt_V0 (As := [.int x1]) (rest := []) (st1 := [.int r_1]) (b := am 0) C0 (c_X7_noRow l γ am hg_2) (cxV (nA := 1) hts goodU U1090 U1092 U31 U91 U1093 (by decide +kernel) ⟨Nat.le_of_ble_eq_true rfl, Nat.le_of_ble_eq_true rfl⟩) hP (hD _ _) hS hl dX7_set_2 0 7 rfl rfl rfl rfl (Nat.le_of_ble_eq_true rfl) rfl rfl (fun H locs hP hS => ?_)
  refine lv_istore (lv' := [(5, .int r_1), (0, .ref (am 0)), (1, .int x1), (2, .int x2), (3, .long x3)]) hx hb dX7_set_5 hl (by decide) rfl (fun ls hl => ?_)
  refine lv_iload hx hb dX7_set_7 (lv_at hl 0 rfl) ?_
  refine lv_if_ge (tgt := 19) hx hb dX7_set_9 (by decide) (fun c_3 => ?_) (fun c_3 => ?_)
  · replace hf := ite_p c_3 hf
    refine lv_iload_n hx hb dX7_set_19 rfl (lv_at hl 3 rfl) ?_
    refine lv_iconst (v := 0) hx hb dX7_set_20 (by decide) ?_
    refine lv_aload_n hx hb dX7_set_21 rfl (lv_at hl 1 rfl) ?_
    refine va_get (D := γ.1) (ci := 7) (v := .ref (am 2)) (C := RX7) (T := TX7) (N := 35) hx hb hU uin7 hown hK hP 0 rfl rfl 1 (by decide) (hU _ U970) (fun _ h9 => h9) rfl dX7_set_22 ?_
    refine lv_iload_n hx hb dX7_set_25 rfl (lv_at hl 2 rfl) ?_
    obtain ⟨g_4, hf⟩ := gd_of hf
    refine va_iald hx hb hK hP 2 0 rfl rfl (inB_vp g_4) dX7_set_26 ?_
    refine lv_iconst (v := 1) hx hb dX7_set_27 (by decide) ?_
    refine lv_isub hx hb dX7_set_28 ?_
    obtain ⟨r_5, hg_6, hf⟩ := bd_of hf
    refine kt_SF (As := [.int x2, .int (0 : Int32), .int ((sm 2 x1.toNatClampNeg) - (1 : Int32))]) (rest := []) (st1 := [.int r_5]) (wc' := wM γ am sm sq) C0 (c_X7_within l γ hg_6) (cxS (nA := 3) hts goodU U1079 U1080 U91 U1081 (by decide +kernel) ⟨Nat.le_of_ble_eq_true rfl, Nat.le_of_ble_eq_true rfl⟩) hP (hD _ _) hS hl dX7_set_29 foc_nil rfl (Nat.le_of_ble_eq_true rfl) rfl rfl (fun H locs hP hS => ?_)
    refine lv_if_ne (tgt := 42) hx hb dX7_set_32 (by decide) (fun c_7 => ?_) (fun c_7 => ?_)
    · replace hf := ite_n c_7 hf
      refine lv_aload_n hx hb dX7_set_42 rfl (lv_at hl 1 rfl) ?_
      refine va_get (D := γ.1) (ci := 7) (v := .ref (am 1)) (C := RX7) (T := TX7) (N := 35) hx hb hU uin7 hown hK hP 0 rfl rfl 0 (by decide) (hU _ U969) (fun _ h9 => h9) rfl dX7_set_43 ?_
      refine lv_iload_n hx hb dX7_set_46 rfl (lv_at hl 2 rfl) ?_
      obtain ⟨g_8, hf⟩ := gd_of hf
      refine va_iald hx hb hK hP 1 0 rfl rfl (inB_vp g_8) dX7_set_47 ?_
      refine lv_bipush (v := 100) hx hb dX7_set_48 (by decide) ?_
      refine lv_isub hx hb dX7_set_50 ?_
      refine lv_topi (fun u_9 e_u_9 => ?_)
      replace hf := nm_y hf e_u_9
      refine lv_istore (lv' := [(6, .int u_9), (5, .int r_1), (0, .ref (am 0)), (1, .int x1), (2, .int x2), (3, .long x3)]) hx hb dX7_set_51 hl (by decide) rfl (fun ls hl => ?_)
      refine lv_aload_n hx hb dX7_set_53 rfl (lv_at hl 2 rfl) ?_
      refine va_get (D := γ.1) (ci := 7) (v := .ref (am 3)) (C := RX7) (T := TX7) (N := 35) hx hb hU uin7 hown hK hP 0 rfl rfl 2 (by decide) (hU _ U971) (fun _ h9 => h9) rfl dX7_set_54 ?_
      refine lv_sipush (v := 160) hx hb dX7_set_57 (by decide) ?_
      refine lv_iload_n hx hb dX7_set_60 rfl (lv_at hl 3 rfl) ?_
      refine lv_imul hx hb dX7_set_61 ?_
      refine lv_iload_n hx hb dX7_set_62 rfl (lv_at hl 4 rfl) ?_
      refine lv_iadd hx hb dX7_set_63 ?_
      refine lv_iload hx hb dX7_set_64 (lv_at hl 0 rfl) ?_
      refine lv_if_ne (tgt := 76) hx hb dX7_set_66 (by decide) (fun c_10 => ?_) (fun c_10 => ?_)
      · replace hf := ite_n c_10 hf
        refine lv_iload hx hb dX7_set_76 (lv_at hl 0 rfl) ?_
        refine lv_iconst (v := 1) hx hb dX7_set_78 (by decide) ?_
        refine lv_icmp_ne (tgt := 89) hx hb dX7_set_79 (by decide) (fun c_11 => ?_) (fun c_11 => ?_)
        · replace hf := ite_n c_11 hf
          refine lv_iload hx hb dX7_set_89 (lv_at hl 0 rfl) ?_
          refine lv_iconst (v := 2) hx hb dX7_set_91 (by decide) ?_
          refine lv_icmp_ne (tgt := 101) hx hb dX7_set_92 (by decide) (fun c_12 => ?_) (fun c_12 => ?_)
          · replace hf := ite_n c_12 hf
            refine lv_lload_n hx hb dX7_set_101 rfl (lv_at hl 5 rfl) ?_
            exact J102 sm sq (((160 : Int32) * x1) + x2) x3 _ _ _ hf hP hS (lv_sub hl [] rfl)
          · replace hf := ite_p c_12 hf
            refine lv_lload_n hx hb dX7_set_95 rfl (lv_at hl 5 rfl) ?_
            refine lv_l2i hx hb dX7_set_96 rfl ?_
            refine lv_i2l hx hb dX7_set_97 rfl ?_
            refine lv_goto (tgt := 102) hx hb dX7_set_98 (by decide) ?_
            exact J102 sm sq (((160 : Int32) * x1) + x2) ((x3.toInt32).toInt64) _ _ _ hf hP hS (lv_sub hl [] rfl)
        · replace hf := ite_p c_11 hf
          refine lv_lload_n hx hb dX7_set_82 rfl (lv_at hl 5 rfl) ?_
          refine lv_l2i hx hb dX7_set_83 rfl ?_
          refine lv_i2s hx hb dX7_set_84 rfl ?_
          refine lv_i2l hx hb dX7_set_85 rfl ?_
          refine lv_goto (tgt := 102) hx hb dX7_set_86 (by decide) ?_
          exact J102 sm sq (((160 : Int32) * x1) + x2) (((x3.toInt32).toInt16.toInt32).toInt64) _ _ _ hf hP hS (lv_sub hl [] rfl)
      · replace hf := ite_p c_10 hf
        refine lv_lload_n hx hb dX7_set_69 rfl (lv_at hl 5 rfl) ?_
        refine lv_l2i hx hb dX7_set_70 rfl ?_
        refine lv_i2b hx hb dX7_set_71 rfl ?_
        refine lv_i2l hx hb dX7_set_72 rfl ?_
        refine lv_goto (tgt := 102) hx hb dX7_set_73 (by decide) ?_
        exact J102 sm sq (((160 : Int32) * x1) + x2) (((x3.toInt32).toInt8.toInt32).toInt64) _ _ _ hf hP hS (lv_sub hl [] rfl)
    · replace hf := ite_p c_7 hf
      refine lv_aload_n hx hb dX7_set_35 rfl (lv_at hl 1 rfl) ?_
      refine lv_bipush (v := -5) hx hb dX7_set_36 (by decide) ?_
      obtain ⟨r_19, sm_20, hg_21, hf⟩ := bd2_of hf
      refine kt_V0 (As := [.int (-5 : Int32)]) (rest := []) (st1 := [.int r_19]) (b := am 0) C0 (c_X7_no l γ am hg_21) (cxV (nA := 1) hts goodU U1082 U1084 U30 U91 U1085 (by decide +kernel) ⟨Nat.le_of_ble_eq_true rfl, Nat.le_of_ble_eq_true rfl⟩) hP (hD _ _) hS hl dX7_set_38 0 7 rfl rfl rfl rfl (Nat.le_of_ble_eq_true rfl) rfl rfl (fun H locs hP hS => ?_)
      obtain ⟨rfl, rfl, rfl⟩ := rt3 hf
      exact kt_iret C0 hP hS dX7_set_41
  · replace hf := ite_n c_3 hf
    refine lv_aload_n hx hb dX7_set_12 rfl (lv_at hl 1 rfl) ?_
    refine lv_iload hx hb dX7_set_13 (lv_at hl 0 rfl) ?_
    obtain ⟨r_22, sm_23, hg_24, hf⟩ := bd2_of hf
    refine kt_V0 (As := [.int r_1]) (rest := []) (st1 := [.int r_22]) (b := am 0) C0 (c_X7_no l γ am hg_24) (cxV (nA := 1) hts goodU U1082 U1084 U30 U91 U1085 (by decide +kernel) ⟨Nat.le_of_ble_eq_true rfl, Nat.le_of_ble_eq_true rfl⟩) hP (hD _ _) hS hl dX7_set_15 0 7 rfl rfl rfl rfl (Nat.le_of_ble_eq_true rfl) rfl rfl (fun H locs hP hS => ?_)
    obtain ⟨rfl, rfl, rfl⟩ := rt3 hf
    exact kt_iret C0 hP hS dX7_set_18
set_option maxHeartbeats 4000000 in
set_option maxRecDepth 100000 in
theorem c_X7_copy (l : Launch) (γ : Gm) (am : Nat → Nat) {sm : GS} {sq : Nat → Int64} {x1 : Int32} {x2 : Int32} {x3 : Int32} {x4 : Int32} {x5 : Int32} {rv : Int32} {sm_z : GS} {sq_z : Nat → Int64} (hf : f_X7_copy sm sq x1 x2 x3 x4 x5 = some (rv, sm_z, sq_z)) : Kt l γ yX7_copy (Cond.code yX7_copy cX7_copy 7 (some .int) :: U) 1 22 [.ref (am 0), .int x1, .int x2, .int x3, .int x4, .int x5] (wM γ am sm sq) (some (.int rv)) (wM γ am sm_z sq_z) := by
  refine Kt.of (by decide) rfl (Nat.le_of_ble_eq_true rfl) rfl ?_
  intro p e s m below meth c A ls C0 hP hD0 hS hl
  obtain ⟨hx, hb, hml, hown, hts, hr, hlocks, hK, hE, hA⟩ := id C0
  have hU : ∀ w ∈ U, w.before _ s = true := fun w h => hts w (List.mem_cons_of_mem _ h)
  have hD : ∀ (sm : GS) (sq : Nat → Int64), va_D A (wM γ am sm sq) := fun _ _ => hD0.fst rfl
  have hl : lv_has ls 7 [(0, .ref (am 0)), (1, .int x1), (2, .int x2), (3, .int x3), (4, .int x4), (5, .int x5)] := hl
  have J20 : ∀ (sm_4 : GS) (sq_5 : Nat → Int64) (H : Heap) (locs : List Loc) (ls : Array Slot), f_X7_copy_J20 sm_4 sq_5 = some (rv, sm_z, sq_z) → va_P γ.1 vwCl (wM γ am sm_4 sq_5) H → va_S A s.heap H locs → lv_has ls 7 [(0, .ref (am 0))] → W p l e (rmK 1 22) s m ([.ref (am 0), .int x1, .int x2, .int x3, .int x4, .int x5] : List Value).toArray below meth c H locs 0 0 (MQ below (KQ γ A (some (.int rv)) (wM γ am sm_z sq_z)) ([.ref (am 0), .int x1, .int x2, .int x3, .int x4, .int x5] : List Value).toArray s 0 0 A) (F0 m 20 ls []) := by
    intro sm_4 sq_5 H locs ls hf hP hS hl
    unfold f_X7_copy_J20 at hf
    refine lv_aload_n hx hb dX7_copy_20 rfl (lv_at hl 0 rfl) ?_
    refine lv_iconst (v := -1) hx hb dX7_copy_21 (by decide) ?_
    obtain ⟨r_6, sm_7, hg_8, hf⟩ := bd2_of hf
    refine kt_V0 (As := [.int (-1 : Int32)]) (rest := []) (st1 := [.int r_6]) (b := am 0) C0 (c_X7_no l γ am hg_8) (cxV (nA := 1) hts goodU U1082 U1084 U30 U91 U1085 (by decide +kernel) ⟨Nat.le_of_ble_eq_true rfl, Nat.le_of_ble_eq_true rfl⟩) hP (hD _ _) hS hl dX7_copy_22 0 7 rfl rfl rfl rfl (Nat.le_of_ble_eq_true rfl) rfl rfl (fun H locs hP hS => ?_)
    obtain ⟨rfl, rfl, rfl⟩ := rt3 hf
    exact kt_iret C0 hP hS dX7_copy_25
  have J116 : ∀ (sm_42 : GS) (sq_43 : Nat → Int64) (H : Heap) (locs : List Loc) (ls : Array Slot), f_X7_copy_J116 sm_42 sq_43 = some (rv, sm_z, sq_z) → va_P γ.1 vwCl (wM γ am sm_42 sq_43) H → va_S A s.heap H locs → lv_has ls 7 [(0, .ref (am 0))] → W p l e (rmK 1 22) s m ([.ref (am 0), .int x1, .int x2, .int x3, .int x4, .int x5] : List Value).toArray below meth c H locs 0 0 (MQ below (KQ γ A (some (.int rv)) (wM γ am sm_z sq_z)) ([.ref (am 0), .int x1, .int x2, .int x3, .int x4, .int x5] : List Value).toArray s 0 0 A) (F0 m 116 ls []) := by
    intro sm_42 sq_43 H locs ls hf hP hS hl
    unfold f_X7_copy_J116 at hf
    refine lv_aload_n hx hb dX7_copy_116 rfl (lv_at hl 0 rfl) ?_
    refine lv_bipush (v := -3) hx hb dX7_copy_117 (by decide) ?_
    obtain ⟨r_44, sm_45, hg_46, hf⟩ := bd2_of hf
    refine kt_V0 (As := [.int (-3 : Int32)]) (rest := []) (st1 := [.int r_44]) (b := am 0) C0 (c_X7_no l γ am hg_46) (cxV (nA := 1) hts goodU U1082 U1084 U30 U91 U1085 (by decide +kernel) ⟨Nat.le_of_ble_eq_true rfl, Nat.le_of_ble_eq_true rfl⟩) hP (hD _ _) hS hl dX7_copy_119 0 7 rfl rfl rfl rfl (Nat.le_of_ble_eq_true rfl) rfl rfl (fun H locs hP hS => ?_)
    obtain ⟨rfl, rfl, rfl⟩ := rt3 hf
    exact kt_iret C0 hP hS dX7_copy_122
  have J179 : ∀ (sm_51 : GS) (sq_52 : Nat → Int64) (H : Heap) (locs : List Loc) (ls : Array Slot), f_X7_copy_J179 sm_51 sq_52 = some (rv, sm_z, sq_z) → va_P γ.1 vwCl (wM γ am sm_51 sq_52) H → va_S A s.heap H locs → lv_has ls 7 [(0, .ref (am 0))] → W p l e (rmK 1 22) s m ([.ref (am 0), .int x1, .int x2, .int x3, .int x4, .int x5] : List Value).toArray below meth c H locs 0 0 (MQ below (KQ γ A (some (.int rv)) (wM γ am sm_z sq_z)) ([.ref (am 0), .int x1, .int x2, .int x3, .int x4, .int x5] : List Value).toArray s 0 0 A) (F0 m 179 ls []) := by
    intro sm_51 sq_52 H locs ls hf hP hS hl
    unfold f_X7_copy_J179 at hf
    refine lv_aload_n hx hb dX7_copy_179 rfl (lv_at hl 0 rfl) ?_
    refine lv_bipush (v := -5) hx hb dX7_copy_180 (by decide) ?_
    obtain ⟨r_53, sm_54, hg_55, hf⟩ := bd2_of hf
    refine kt_V0 (As := [.int (-5 : Int32)]) (rest := []) (st1 := [.int r_53]) (b := am 0) C0 (c_X7_no l γ am hg_55) (cxV (nA := 1) hts goodU U1082 U1084 U30 U91 U1085 (by decide +kernel) ⟨Nat.le_of_ble_eq_true rfl, Nat.le_of_ble_eq_true rfl⟩) hP (hD _ _) hS hl dX7_copy_182 0 7 rfl rfl rfl rfl (Nat.le_of_ble_eq_true rfl) rfl rfl (fun H locs hP hS => ?_)
    obtain ⟨rfl, rfl, rfl⟩ := rt3 hf
    exact kt_iret C0 hP hS dX7_copy_185
  have L251 : ∀ (x1_62 : Int32) (x2_63 : Int32) (x3_64 : Int32) (x4_65 : Int32) (x5_66 : Int32) (sm_68 : GS) (n : Nat) (x6_67 : Int32) (sq_69 : Nat → Int64) (H : Heap) (locs : List Loc) (ls : Array Slot), f_X7_copy_L251 x1_62 x2_63 x3_64 x4_65 x5_66 sm_68 n x6_67 sq_69 = some (rv, sm_z, sq_z) → va_P γ.1 vwCl (wM γ am sm_68 sq_69) H → va_S A s.heap H locs → lv_has ls 7 [(0, .ref (am 0)), (1, .int x1_62), (2, .int x2_63), (3, .int x3_64), (4, .int x4_65), (5, .int x5_66), (6, .int x6_67)] → W p l e (rmK 1 22) s m ([.ref (am 0), .int x1, .int x2, .int x3, .int x4, .int x5] : List Value).toArray below meth c H locs 0 0 (MQ below (KQ γ A (some (.int rv)) (wM γ am sm_z sq_z)) ([.ref (am 0), .int x1, .int x2, .int x3, .int x4, .int x5] : List Value).toArray s 0 0 A) (F0 m 251 ls []) := by
    intro x1_62 x2_63 x3_64 x4_65 x5_66 sm_68
    intro n
    induction n with
    | zero =>
      intro x6_67 sq_69 H locs ls hf
      have hf : none = some _ := hf
      cases hf
    | succ n ih =>
      intro x6_67 sq_69 H locs ls hf hP hS hl
      rw [f_X7_copy_L251.eq_2] at hf
      refine lv_iload hx hb dX7_copy_251 (lv_at hl 6 rfl) ?_
      refine lv_iload hx hb dX7_copy_253 (lv_at hl 5 rfl) ?_
      refine lv_icmp_ge (tgt := 295) hx hb dX7_copy_255 (by decide) (fun c_70 => ?_) (fun c_70 => ?_)
      · replace hf := ite_p c_70 hf
        refine lv_iconst (v := 1) hx hb dX7_copy_295 (by decide) ?_
        obtain ⟨rfl, rfl, rfl⟩ := rt3 hf
        exact kt_iret C0 hP hS dX7_copy_296
      · replace hf := ite_n c_70 hf
        refine lv_aload_n hx hb dX7_copy_258 rfl (lv_at hl 0 rfl) ?_
        refine va_get (D := γ.1) (ci := 7) (v := .ref (am 3)) (C := RX7) (T := TX7) (N := 35) hx hb hU uin7 hown hK hP 0 rfl rfl 2 (by decide) (hU _ U971) (fun _ h9 => h9) rfl dX7_copy_259 ?_
        refine lv_sipush (v := 160) hx hb dX7_copy_262 (by decide) ?_
        refine lv_iload_n hx hb dX7_copy_265 rfl (lv_at hl 2 rfl) ?_
        refine lv_imul hx hb dX7_copy_266 ?_
        refine lv_iload hx hb dX7_copy_267 (lv_at hl 4 rfl) ?_
        refine lv_iadd hx hb dX7_copy_269 ?_
        refine lv_iload hx hb dX7_copy_270 (lv_at hl 6 rfl) ?_
        refine lv_iadd hx hb dX7_copy_272 ?_
        refine lv_aload_n hx hb dX7_copy_273 rfl (lv_at hl 0 rfl) ?_
        refine va_get (D := γ.1) (ci := 7) (v := .ref (am 3)) (C := RX7) (T := TX7) (N := 35) hx hb hU uin7 hown hK hP 0 rfl rfl 2 (by decide) (hU _ U971) (fun _ h9 => h9) rfl dX7_copy_274 ?_
        refine lv_sipush (v := 160) hx hb dX7_copy_277 (by decide) ?_
        refine lv_iload_n hx hb dX7_copy_280 rfl (lv_at hl 1 rfl) ?_
        refine lv_imul hx hb dX7_copy_281 ?_
        refine lv_iload_n hx hb dX7_copy_282 rfl (lv_at hl 3 rfl) ?_
        refine lv_iadd hx hb dX7_copy_283 ?_
        refine lv_iload hx hb dX7_copy_284 (lv_at hl 6 rfl) ?_
        refine lv_iadd hx hb dX7_copy_286 ?_
        obtain ⟨g_71, hf⟩ := gd_of hf
        refine va_lald hx hb hK hP 3 1 rfl rfl (inB_vp g_71) dX7_copy_287 ?_
        refine lv_topl (fun w_72 e_w_72 => ?_)
        replace hf := nm_y hf e_w_72
        obtain ⟨g_73, hf⟩ := gd_of hf
        refine va_last hx hb hK hP (hD _ _) hS 3 1 rfl rfl (inB_vp g_73) dX7_copy_288 (fun H locs hP _ hS => ?_)
        obtain ⟨sq_74, e_sq_74, hf⟩ := nm_of hf
        replace hP : va_P γ.1 vwCl (wM γ am sm_68 sq_74) H := by rw [e_sq_74]; exact hP
        obtain ⟨x6_75, e_x6_75⟩ : ∃ y : Int32, y = x6_67 + (1 : Int32) := ⟨_, rfl⟩
        replace hf := nm_y hf e_x6_75
        refine lv_iinc (v := x6_75) (lv' := [(6, .int x6_75), (0, .ref (am 0)), (1, .int x1_62), (2, .int x2_63), (3, .int x3_64), (4, .int x4_65), (5, .int x5_66)]) hx hb dX7_copy_289 hl (k := 6) rfl (by rw [e_x6_75]; rfl) (by decide) rfl (fun ls hl => ?_)
        refine lv_goto (tgt := 251) hx hb dX7_copy_292 (by decide) ?_
        exact ih x6_75 sq_74 _ _ _ hf hP hS (lv_sub hl [1, 2, 3, 4, 5, 6, 0] rfl)
  have L203 : ∀ (x1_78 : Int32) (x2_79 : Int32) (x3_80 : Int32) (x4_81 : Int32) (sm_83 : GS) (n : Nat) (x6_82 : Int32) (sq_84 : Nat → Int64) (H : Heap) (locs : List Loc) (ls : Array Slot), f_X7_copy_L203 x1_78 x2_79 x3_80 x4_81 sm_83 n x6_82 sq_84 = some (rv, sm_z, sq_z) → va_P γ.1 vwCl (wM γ am sm_83 sq_84) H → va_S A s.heap H locs → lv_has ls 7 [(0, .ref (am 0)), (1, .int x1_78), (2, .int x2_79), (3, .int x3_80), (4, .int x4_81), (6, .int x6_82)] → W p l e (rmK 1 22) s m ([.ref (am 0), .int x1, .int x2, .int x3, .int x4, .int x5] : List Value).toArray below meth c H locs 0 0 (MQ below (KQ γ A (some (.int rv)) (wM γ am sm_z sq_z)) ([.ref (am 0), .int x1, .int x2, .int x3, .int x4, .int x5] : List Value).toArray s 0 0 A) (F0 m 203 ls []) := by
    intro x1_78 x2_79 x3_80 x4_81 sm_83
    intro n
    induction n with
    | zero =>
      intro x6_82 sq_84 H locs ls hf
      have hf : none = some _ := hf
      cases hf
    | succ n ih =>
      intro x6_82 sq_84 H locs ls hf hP hS hl
      rw [f_X7_copy_L203.eq_2] at hf
      refine lv_iload hx hb dX7_copy_203 (lv_at hl 5 rfl) ?_
      refine lv_if_lt (tgt := 245) hx hb dX7_copy_205 (by decide) (fun c_85 => ?_) (fun c_85 => ?_)
      · replace hf := ite_p c_85 hf
        refine lv_goto (tgt := 295) hx hb dX7_copy_245 (by decide) ?_
        refine lv_iconst (v := 1) hx hb dX7_copy_295 (by decide) ?_
        obtain ⟨rfl, rfl, rfl⟩ := rt3 hf
        exact kt_iret C0 hP hS dX7_copy_296
      · replace hf := ite_n c_85 hf
        refine lv_aload_n hx hb dX7_copy_208 rfl (lv_at hl 0 rfl) ?_
        refine va_get (D := γ.1) (ci := 7) (v := .ref (am 3)) (C := RX7) (T := TX7) (N := 35) hx hb hU uin7 hown hK hP 0 rfl rfl 2 (by decide) (hU _ U971) (fun _ h9 => h9) rfl dX7_copy_209 ?_
        refine lv_sipush (v := 160) hx hb dX7_copy_212 (by decide) ?_
        refine lv_iload_n hx hb dX7_copy_215 rfl (lv_at hl 2 rfl) ?_
        refine lv_imul hx hb dX7_copy_216 ?_
        refine lv_iload hx hb dX7_copy_217 (lv_at hl 4 rfl) ?_
        refine lv_iadd hx hb dX7_copy_219 ?_
        refine lv_iload hx hb dX7_copy_220 (lv_at hl 5 rfl) ?_
        refine lv_iadd hx hb dX7_copy_222 ?_
        refine lv_aload_n hx hb dX7_copy_223 rfl (lv_at hl 0 rfl) ?_
        refine va_get (D := γ.1) (ci := 7) (v := .ref (am 3)) (C := RX7) (T := TX7) (N := 35) hx hb hU uin7 hown hK hP 0 rfl rfl 2 (by decide) (hU _ U971) (fun _ h9 => h9) rfl dX7_copy_224 ?_
        refine lv_sipush (v := 160) hx hb dX7_copy_227 (by decide) ?_
        refine lv_iload_n hx hb dX7_copy_230 rfl (lv_at hl 1 rfl) ?_
        refine lv_imul hx hb dX7_copy_231 ?_
        refine lv_iload_n hx hb dX7_copy_232 rfl (lv_at hl 3 rfl) ?_
        refine lv_iadd hx hb dX7_copy_233 ?_
        refine lv_iload hx hb dX7_copy_234 (lv_at hl 5 rfl) ?_
        refine lv_iadd hx hb dX7_copy_236 ?_
        obtain ⟨g_86, hf⟩ := gd_of hf
        refine va_lald hx hb hK hP 3 1 rfl rfl (inB_vp g_86) dX7_copy_237 ?_
        refine lv_topl (fun w_87 e_w_87 => ?_)
        replace hf := nm_y hf e_w_87
        obtain ⟨g_88, hf⟩ := gd_of hf
        refine va_last hx hb hK hP (hD _ _) hS 3 1 rfl rfl (inB_vp g_88) dX7_copy_238 (fun H locs hP _ hS => ?_)
        obtain ⟨sq_89, e_sq_89, hf⟩ := nm_of hf
        replace hP : va_P γ.1 vwCl (wM γ am sm_83 sq_89) H := by rw [e_sq_89]; exact hP
        obtain ⟨x6_90, e_x6_90⟩ : ∃ y : Int32, y = x6_82 + (-1 : Int32) := ⟨_, rfl⟩
        replace hf := nm_y hf e_x6_90
        refine lv_iinc (v := x6_90) (lv' := [(6, .int x6_90), (0, .ref (am 0)), (1, .int x1_78), (2, .int x2_79), (3, .int x3_80), (4, .int x4_81)]) hx hb dX7_copy_239 hl (k := 5) rfl (by rw [e_x6_90]; rfl) (by decide) rfl (fun ls hl => ?_)
        refine lv_goto (tgt := 203) hx hb dX7_copy_242 (by decide) ?_
        exact ih x6_90 sq_89 _ _ _ hf hP hS (lv_sub hl [1, 2, 3, 4, 5, 0] rfl)
  have J98 : ∀ (x1_33 : Int32) (x2_34 : Int32) (x3_35 : Int32) (x4_36 : Int32) (x5_37 : Int32) (sm_38 : GS) (sq_39 : Nat → Int64) (H : Heap) (locs : List Loc) (ls : Array Slot), f_X7_copy_J98 x1_33 x2_34 x3_35 x4_36 x5_37 sm_38 sq_39 = some (rv, sm_z, sq_z) → va_P γ.1 vwCl (wM γ am sm_38 sq_39) H → va_S A s.heap H locs → lv_has ls 7 [(0, .ref (am 0)), (1, .int x1_33), (2, .int x2_34), (3, .int x3_35), (4, .int x4_36), (5, .int x5_37)] → W p l e (rmK 1 22) s m ([.ref (am 0), .int x1, .int x2, .int x3, .int x4, .int x5] : List Value).toArray below meth c H locs 0 0 (MQ below (KQ γ A (some (.int rv)) (wM γ am sm_z sq_z)) ([.ref (am 0), .int x1, .int x2, .int x3, .int x4, .int x5] : List Value).toArray s 0 0 A) (F0 m 98 ls []) := by
    intro x1_33 x2_34 x3_35 x4_36 x5_37 sm_38 sq_39 H locs ls hf hP hS hl
    unfold f_X7_copy_J98 at hf
    refine lv_aload_n hx hb dX7_copy_98 rfl (lv_at hl 0 rfl) ?_
    refine va_get (D := γ.1) (ci := 7) (v := .ref (am 1)) (C := RX7) (T := TX7) (N := 35) hx hb hU uin7 hown hK hP 0 rfl rfl 0 (by decide) (hU _ U969) (fun _ h9 => h9) rfl dX7_copy_99 ?_
    refine lv_iload_n hx hb dX7_copy_102 rfl (lv_at hl 1 rfl) ?_
    obtain ⟨g_40, hf⟩ := gd_of hf
    refine va_iald hx hb hK hP 1 0 rfl rfl (inB_vp g_40) dX7_copy_103 ?_
    refine lv_if_lt (tgt := 116) hx hb dX7_copy_104 (by decide) (fun c_41 => ?_) (fun c_41 => ?_)
    · replace hf := ite_p c_41 hf
      exact J116 sm_38 sq_39 _ _ _ hf hP hS (lv_sub hl [0] rfl)
    · replace hf := ite_n c_41 hf
      refine lv_aload_n hx hb dX7_copy_107 rfl (lv_at hl 0 rfl) ?_
      refine va_get (D := γ.1) (ci := 7) (v := .ref (am 1)) (C := RX7) (T := TX7) (N := 35) hx hb hU uin7 hown hK hP 0 rfl rfl 0 (by decide) (hU _ U969) (fun _ h9 => h9) rfl dX7_copy_108 ?_
      refine lv_iload_n hx hb dX7_copy_111 rfl (lv_at hl 2 rfl) ?_
      obtain ⟨g_47, hf⟩ := gd_of hf
      refine va_iald hx hb hK hP 1 0 rfl rfl (inB_vp g_47) dX7_copy_112 ?_
      refine lv_if_ge (tgt := 123) hx hb dX7_copy_113 (by decide) (fun c_48 => ?_) (fun c_48 => ?_)
      · replace hf := ite_p c_48 hf
        refine lv_iload hx hb dX7_copy_123 (lv_at hl 5 rfl) ?_
        refine lv_if_ge (tgt := 135) hx hb dX7_copy_125 (by decide) (fun c_49 => ?_) (fun c_49 => ?_)
        · replace hf := ite_p c_49 hf
          refine lv_iload_n hx hb dX7_copy_135 rfl (lv_at hl 3 rfl) ?_
          refine lv_if_lt (tgt := 179) hx hb dX7_copy_136 (by decide) (fun c_50 => ?_) (fun c_50 => ?_)
          · replace hf := ite_p c_50 hf
            exact J179 sm_38 sq_39 _ _ _ hf hP hS (lv_sub hl [0] rfl)
          · replace hf := ite_n c_50 hf
            refine lv_iload hx hb dX7_copy_139 (lv_at hl 4 rfl) ?_
            refine lv_if_lt (tgt := 179) hx hb dX7_copy_141 (by decide) (fun c_56 => ?_) (fun c_56 => ?_)
            · replace hf := ite_p c_56 hf
              exact J179 sm_38 sq_39 _ _ _ hf hP hS (lv_sub hl [0] rfl)
            · replace hf := ite_n c_56 hf
              refine lv_iload_n hx hb dX7_copy_144 rfl (lv_at hl 3 rfl) ?_
              refine lv_i2l hx hb dX7_copy_145 rfl ?_
              refine lv_iload hx hb dX7_copy_146 (lv_at hl 5 rfl) ?_
              refine lv_i2l hx hb dX7_copy_148 rfl ?_
              refine lv_ladd hx hb dX7_copy_149 ?_
              refine lv_aload_n hx hb dX7_copy_150 rfl (lv_at hl 0 rfl) ?_
              refine va_get (D := γ.1) (ci := 7) (v := .ref (am 2)) (C := RX7) (T := TX7) (N := 35) hx hb hU uin7 hown hK hP 0 rfl rfl 1 (by decide) (hU _ U970) (fun _ h9 => h9) rfl dX7_copy_151 ?_
              refine lv_iload_n hx hb dX7_copy_154 rfl (lv_at hl 1 rfl) ?_
              obtain ⟨g_57, hf⟩ := gd_of hf
              refine va_iald hx hb hK hP 2 0 rfl rfl (inB_vp g_57) dX7_copy_155 ?_
              refine lv_i2l hx hb dX7_copy_156 rfl ?_
              refine W.lcmp hx hb dX7_copy_157 ?_
              refine lv_if_gt (tgt := 179) hx hb dX7_copy_158 (by decide) (fun c_58 => ?_) (fun c_58 => ?_)
              · replace hf := ite_p c_58 hf
                exact J179 sm_38 sq_39 _ _ _ hf hP hS (lv_sub hl [0] rfl)
              · replace hf := ite_n c_58 hf
                refine lv_iload hx hb dX7_copy_161 (lv_at hl 4 rfl) ?_
                refine lv_i2l hx hb dX7_copy_163 rfl ?_
                refine lv_iload hx hb dX7_copy_164 (lv_at hl 5 rfl) ?_
                refine lv_i2l hx hb dX7_copy_166 rfl ?_
                refine lv_ladd hx hb dX7_copy_167 ?_
                refine lv_aload_n hx hb dX7_copy_168 rfl (lv_at hl 0 rfl) ?_
                refine va_get (D := γ.1) (ci := 7) (v := .ref (am 2)) (C := RX7) (T := TX7) (N := 35) hx hb hU uin7 hown hK hP 0 rfl rfl 1 (by decide) (hU _ U970) (fun _ h9 => h9) rfl dX7_copy_169 ?_
                refine lv_iload_n hx hb dX7_copy_172 rfl (lv_at hl 2 rfl) ?_
                obtain ⟨g_59, hf⟩ := gd_of hf
                refine va_iald hx hb hK hP 2 0 rfl rfl (inB_vp g_59) dX7_copy_173 ?_
                refine lv_i2l hx hb dX7_copy_174 rfl ?_
                refine W.lcmp hx hb dX7_copy_175 ?_
                refine lv_if_le (tgt := 186) hx hb dX7_copy_176 (by decide) (fun c_60 => ?_) (fun c_60 => ?_)
                · replace hf := ite_p c_60 hf
                  refine lv_iload_n hx hb dX7_copy_186 rfl (lv_at hl 1 rfl) ?_
                  refine lv_iload_n hx hb dX7_copy_187 rfl (lv_at hl 2 rfl) ?_
                  refine lv_icmp_ne (tgt := 248) hx hb dX7_copy_188 (by decide) (fun c_61 => ?_) (fun c_61 => ?_)
                  · replace hf := ite_n c_61 hf
                    refine lv_iconst (v := 0) hx hb dX7_copy_248 (by decide) ?_
                    refine lv_istore (lv' := [(6, .int (0 : Int32)), (0, .ref (am 0)), (1, .int x1_33), (2, .int x2_34), (3, .int x3_35), (4, .int x4_36), (5, .int x5_37)]) hx hb dX7_copy_249 hl (by decide) rfl (fun ls hl => ?_)
                    exact L251 x1_33 x2_34 x3_35 x4_36 x5_37 sm_38 FU (0 : Int32) sq_39 _ _ _ hf hP hS (lv_sub hl [1, 2, 3, 4, 5, 6, 0] rfl)
                  · replace hf := ite_p c_61 hf
                    refine lv_iload_n hx hb dX7_copy_191 rfl (lv_at hl 3 rfl) ?_
                    refine lv_iload hx hb dX7_copy_192 (lv_at hl 4 rfl) ?_
                    refine lv_icmp_ge (tgt := 248) hx hb dX7_copy_194 (by decide) (fun c_76 => ?_) (fun c_76 => ?_)
                    · replace hf := ite_p c_76 hf
                      refine lv_iconst (v := 0) hx hb dX7_copy_248 (by decide) ?_
                      refine lv_istore (lv' := [(6, .int (0 : Int32)), (0, .ref (am 0)), (1, .int x1_33), (2, .int x2_34), (3, .int x3_35), (4, .int x4_36), (5, .int x5_37)]) hx hb dX7_copy_249 hl (by decide) rfl (fun ls hl => ?_)
                      exact L251 x1_33 x2_34 x3_35 x4_36 x5_37 sm_38 FU (0 : Int32) sq_39 _ _ _ hf hP hS (lv_sub hl [1, 2, 3, 4, 5, 6, 0] rfl)
                    · replace hf := ite_n c_76 hf
                      refine lv_iload hx hb dX7_copy_197 (lv_at hl 5 rfl) ?_
                      refine lv_iconst (v := 1) hx hb dX7_copy_199 (by decide) ?_
                      refine lv_isub hx hb dX7_copy_200 ?_
                      refine lv_topi (fun u_77 e_u_77 => ?_)
                      replace hf := nm_y hf e_u_77
                      refine lv_istore (lv' := [(6, .int u_77), (0, .ref (am 0)), (1, .int x1_33), (2, .int x2_34), (3, .int x3_35), (4, .int x4_36), (5, .int x5_37)]) hx hb dX7_copy_201 hl (by decide) rfl (fun ls hl => ?_)
                      exact L203 x1_33 x2_34 x3_35 x4_36 sm_38 FU u_77 sq_39 _ _ _ hf hP hS (lv_sub hl [1, 2, 3, 4, 5, 0] rfl)
                · replace hf := ite_n c_60 hf
                  exact J179 sm_38 sq_39 _ _ _ hf hP hS (lv_sub hl [0] rfl)
        · replace hf := ite_n c_49 hf
          refine lv_aload_n hx hb dX7_copy_128 rfl (lv_at hl 0 rfl) ?_
          refine lv_bipush (v := -4) hx hb dX7_copy_129 (by decide) ?_
          obtain ⟨r_91, sm_92, hg_93, hf⟩ := bd2_of hf
          refine kt_V0 (As := [.int (-4 : Int32)]) (rest := []) (st1 := [.int r_91]) (b := am 0) C0 (c_X7_no l γ am hg_93) (cxV (nA := 1) hts goodU U1082 U1084 U30 U91 U1085 (by decide +kernel) ⟨Nat.le_of_ble_eq_true rfl, Nat.le_of_ble_eq_true rfl⟩) hP (hD _ _) hS hl dX7_copy_131 0 7 rfl rfl rfl rfl (Nat.le_of_ble_eq_true rfl) rfl rfl (fun H locs hP hS => ?_)
          obtain ⟨rfl, rfl, rfl⟩ := rt3 hf
          exact kt_iret C0 hP hS dX7_copy_134
      · replace hf := ite_n c_48 hf
        exact J116 sm_38 sq_39 _ _ _ hf hP hS (lv_sub hl [0] rfl)
  have J91 : ∀ (sm_100 : GS) (sq_101 : Nat → Int64) (H : Heap) (locs : List Loc) (ls : Array Slot), f_X7_copy_J91 sm_100 sq_101 = some (rv, sm_z, sq_z) → va_P γ.1 vwCl (wM γ am sm_100 sq_101) H → va_S A s.heap H locs → lv_has ls 7 [(0, .ref (am 0))] → W p l e (rmK 1 22) s m ([.ref (am 0), .int x1, .int x2, .int x3, .int x4, .int x5] : List Value).toArray below meth c H locs 0 0 (MQ below (KQ γ A (some (.int rv)) (wM γ am sm_z sq_z)) ([.ref (am 0), .int x1, .int x2, .int x3, .int x4, .int x5] : List Value).toArray s 0 0 A) (F0 m 91 ls []) := by
    intro sm_100 sq_101 H locs ls hf hP hS hl
    unfold f_X7_copy_J91 at hf
    refine lv_aload_n hx hb dX7_copy_91 rfl (lv_at hl 0 rfl) ?_
    refine lv_bipush (v := -2) hx hb dX7_copy_92 (by decide) ?_
    obtain ⟨r_102, sm_103, hg_104, hf⟩ := bd2_of hf
    refine kt_V0 (As := [.int (-2 : Int32)]) (rest := []) (st1 := [.int r_102]) (b := am 0) C0 (c_X7_no l γ am hg_104) (cxV (nA := 1) hts goodU U1082 U1084 U30 U91 U1085 (by decide +kernel) ⟨Nat.le_of_ble_eq_true rfl, Nat.le_of_ble_eq_true rfl⟩) hP (hD _ _) hS hl dX7_copy_94 0 7 rfl rfl rfl rfl (Nat.le_of_ble_eq_true rfl) rfl rfl (fun H locs hP hS => ?_)
    obtain ⟨rfl, rfl, rfl⟩ := rt3 hf
    exact kt_iret C0 hP hS dX7_copy_97
  have J60 : ∀ (x1_23 : Int32) (x2_24 : Int32) (x3_25 : Int32) (x4_26 : Int32) (x5_27 : Int32) (sm_28 : GS) (sq_29 : Nat → Int64) (H : Heap) (locs : List Loc) (ls : Array Slot), f_X7_copy_J60 x1_23 x2_24 x3_25 x4_26 x5_27 sm_28 sq_29 = some (rv, sm_z, sq_z) → va_P γ.1 vwCl (wM γ am sm_28 sq_29) H → va_S A s.heap H locs → lv_has ls 7 [(0, .ref (am 0)), (1, .int x1_23), (2, .int x2_24), (3, .int x3_25), (4, .int x4_26), (5, .int x5_27)] → W p l e (rmK 1 22) s m ([.ref (am 0), .int x1, .int x2, .int x3, .int x4, .int x5] : List Value).toArray below meth c H locs 0 0 (MQ below (KQ γ A (some (.int rv)) (wM γ am sm_z sq_z)) ([.ref (am 0), .int x1, .int x2, .int x3, .int x4, .int x5] : List Value).toArray s 0 0 A) (F0 m 60 ls []) := by
    intro x1_23 x2_24 x3_25 x4_26 x5_27 sm_28 sq_29 H locs ls hf hP hS hl
    unfold f_X7_copy_J60 at hf
    refine lv_aload_n hx hb dX7_copy_60 rfl (lv_at hl 0 rfl) ?_
    refine lv_iload_n hx hb dX7_copy_61 rfl (lv_at hl 1 rfl) ?_
    obtain ⟨r_30, hg_31, hf⟩ := bd_of hf
    refine kt_V0 (As := [.int x1_23]) (rest := []) (st1 := [.int r_30]) (b := am 0) C0 (c_X7_isRow l γ am hg_31) (cxV (nA := 1) hts goodU U1094 U1096 U32 U91 U1097 (by decide +kernel) ⟨Nat.le_of_ble_eq_true rfl, Nat.le_of_ble_eq_true rfl⟩) hP (hD _ _) hS hl dX7_copy_62 0 7 rfl rfl rfl rfl (Nat.le_of_ble_eq_true rfl) rfl rfl (fun H locs hP hS => ?_)
    refine lv_if_eq (tgt := 98) hx hb dX7_copy_65 (by decide) (fun c_32 => ?_) (fun c_32 => ?_)
    · replace hf := ite_p c_32 hf
      exact J98 x1_23 x2_24 x3_25 x4_26 x5_27 sm_28 sq_29 _ _ _ hf hP hS (lv_sub hl [0, 1, 2, 3, 4, 5] rfl)
    · replace hf := ite_n c_32 hf
      refine lv_aload_n hx hb dX7_copy_68 rfl (lv_at hl 0 rfl) ?_
      refine lv_iload_n hx hb dX7_copy_69 rfl (lv_at hl 2 rfl) ?_
      obtain ⟨r_94, hg_95, hf⟩ := bd_of hf
      refine kt_V0 (As := [.int x2_24]) (rest := []) (st1 := [.int r_94]) (b := am 0) C0 (c_X7_isRow l γ am hg_95) (cxV (nA := 1) hts goodU U1094 U1096 U32 U91 U1097 (by decide +kernel) ⟨Nat.le_of_ble_eq_true rfl, Nat.le_of_ble_eq_true rfl⟩) hP (hD _ _) hS hl dX7_copy_70 0 7 rfl rfl rfl rfl (Nat.le_of_ble_eq_true rfl) rfl rfl (fun H locs hP hS => ?_)
      refine lv_if_eq (tgt := 98) hx hb dX7_copy_73 (by decide) (fun c_96 => ?_) (fun c_96 => ?_)
      · replace hf := ite_p c_96 hf
        exact J98 x1_23 x2_24 x3_25 x4_26 x5_27 sm_28 sq_29 _ _ _ hf hP hS (lv_sub hl [0, 1, 2, 3, 4, 5] rfl)
      · replace hf := ite_n c_96 hf
        refine lv_aload_n hx hb dX7_copy_76 rfl (lv_at hl 0 rfl) ?_
        refine va_get (D := γ.1) (ci := 7) (v := .ref (am 1)) (C := RX7) (T := TX7) (N := 35) hx hb hU uin7 hown hK hP 0 rfl rfl 0 (by decide) (hU _ U969) (fun _ h9 => h9) rfl dX7_copy_77 ?_
        refine lv_iload_n hx hb dX7_copy_80 rfl (lv_at hl 1 rfl) ?_
        obtain ⟨g_97, hf⟩ := gd_of hf
        refine va_iald hx hb hK hP 1 0 rfl rfl (inB_vp g_97) dX7_copy_81 ?_
        refine lv_aload_n hx hb dX7_copy_82 rfl (lv_at hl 0 rfl) ?_
        refine va_get (D := γ.1) (ci := 7) (v := .ref (am 1)) (C := RX7) (T := TX7) (N := 35) hx hb hU uin7 hown hK hP 0 rfl rfl 0 (by decide) (hU _ U969) (fun _ h9 => h9) rfl dX7_copy_83 ?_
        refine lv_iload_n hx hb dX7_copy_86 rfl (lv_at hl 2 rfl) ?_
        obtain ⟨g_98, hf⟩ := gd_of hf
        refine va_iald hx hb hK hP 1 0 rfl rfl (inB_vp g_98) dX7_copy_87 ?_
        refine lv_icmp_eq (tgt := 98) hx hb dX7_copy_88 (by decide) (fun c_99 => ?_) (fun c_99 => ?_)
        · replace hf := ite_p c_99 hf
          exact J98 x1_23 x2_24 x3_25 x4_26 x5_27 sm_28 sq_29 _ _ _ hf hP hS (lv_sub hl [0, 1, 2, 3, 4, 5] rfl)
        · replace hf := ite_n c_99 hf
          exact J91 sm_28 sq_29 _ _ _ hf hP hS (lv_sub hl [0] rfl)
  have J43 : ∀ (x1_14 : Int32) (x2_15 : Int32) (x3_16 : Int32) (x4_17 : Int32) (x5_18 : Int32) (sm_19 : GS) (sq_20 : Nat → Int64) (H : Heap) (locs : List Loc) (ls : Array Slot), f_X7_copy_J43 x1_14 x2_15 x3_16 x4_17 x5_18 sm_19 sq_20 = some (rv, sm_z, sq_z) → va_P γ.1 vwCl (wM γ am sm_19 sq_20) H → va_S A s.heap H locs → lv_has ls 7 [(0, .ref (am 0)), (1, .int x1_14), (2, .int x2_15), (3, .int x3_16), (4, .int x4_17), (5, .int x5_18)] → W p l e (rmK 1 22) s m ([.ref (am 0), .int x1, .int x2, .int x3, .int x4, .int x5] : List Value).toArray below meth c H locs 0 0 (MQ below (KQ γ A (some (.int rv)) (wM γ am sm_z sq_z)) ([.ref (am 0), .int x1, .int x2, .int x3, .int x4, .int x5] : List Value).toArray s 0 0 A) (F0 m 43 ls []) := by
    intro x1_14 x2_15 x3_16 x4_17 x5_18 sm_19 sq_20 H locs ls hf hP hS hl
    unfold f_X7_copy_J43 at hf
    refine lv_aload_n hx hb dX7_copy_43 rfl (lv_at hl 0 rfl) ?_
    refine va_get (D := γ.1) (ci := 7) (v := .ref (am 1)) (C := RX7) (T := TX7) (N := 35) hx hb hU uin7 hown hK hP 0 rfl rfl 0 (by decide) (hU _ U969) (fun _ h9 => h9) rfl dX7_copy_44 ?_
    refine lv_iload_n hx hb dX7_copy_47 rfl (lv_at hl 2 rfl) ?_
    obtain ⟨g_21, hf⟩ := gd_of hf
    refine va_iald hx hb hK hP 1 0 rfl rfl (inB_vp g_21) dX7_copy_48 ?_
    refine lv_if_lt (tgt := 60) hx hb dX7_copy_49 (by decide) (fun c_22 => ?_) (fun c_22 => ?_)
    · replace hf := ite_p c_22 hf
      exact J60 x1_14 x2_15 x3_16 x4_17 x5_18 sm_19 sq_20 _ _ _ hf hP hS (lv_sub hl [0, 1, 2, 3, 4, 5] rfl)
    · replace hf := ite_n c_22 hf
      refine lv_aload_n hx hb dX7_copy_52 rfl (lv_at hl 0 rfl) ?_
      refine lv_iload_n hx hb dX7_copy_53 rfl (lv_at hl 2 rfl) ?_
      obtain ⟨r_105, hg_106, hf⟩ := bd_of hf
      refine kt_V0 (As := [.int x2_15]) (rest := []) (st1 := [.int r_105]) (b := am 0) C0 (c_X7_isRow l γ am hg_106) (cxV (nA := 1) hts goodU U1094 U1096 U32 U91 U1097 (by decide +kernel) ⟨Nat.le_of_ble_eq_true rfl, Nat.le_of_ble_eq_true rfl⟩) hP (hD _ _) hS hl dX7_copy_54 0 7 rfl rfl rfl rfl (Nat.le_of_ble_eq_true rfl) rfl rfl (fun H locs hP hS => ?_)
      refine lv_if_eq (tgt := 91) hx hb dX7_copy_57 (by decide) (fun c_107 => ?_) (fun c_107 => ?_)
      · replace hf := ite_p c_107 hf
        exact J91 sm_19 sq_20 _ _ _ hf hP hS (lv_sub hl [0] rfl)
      · replace hf := ite_n c_107 hf
        exact J60 x1_14 x2_15 x3_16 x4_17 x5_18 sm_19 sq_20 _ _ _ hf hP hS (lv_sub hl [0, 1, 2, 3, 4, 5] rfl)
  unfold f_X7_copy at hf
  refine lv_iload_n hx hb dX7_copy_0 rfl (lv_at hl 1 rfl) ?_
  refine lv_iconst (v := 0) hx hb dX7_copy_1 (by decide) ?_
  refine lv_bipush (v := 7) hx hb dX7_copy_2 (by decide) ?_
  obtain ⟨r_1, hg_2, hf⟩ := bd_of hf
  refine kt_SF (As := [.int x1, .int (0 : Int32), .int (7 : Int32)]) (rest := []) (st1 := [.int r_1]) (wc' := wM γ am sm sq) C0 (c_X7_within l γ hg_2) (cxS (nA := 3) hts goodU U1079 U1080 U91 U1081 (by decide +kernel) ⟨Nat.le_of_ble_eq_true rfl, Nat.le_of_ble_eq_true rfl⟩) hP (hD _ _) hS hl dX7_copy_4 foc_nil rfl (Nat.le_of_ble_eq_true rfl) rfl rfl (fun H locs hP hS => ?_)
  refine lv_if_eq (tgt := 20) hx hb dX7_copy_7 (by decide) (fun c_3 => ?_) (fun c_3 => ?_)
  · replace hf := ite_p c_3 hf
    exact J20 sm sq _ _ _ hf hP hS (lv_sub hl [0] rfl)
  · replace hf := ite_n c_3 hf
    refine lv_iload_n hx hb dX7_copy_10 rfl (lv_at hl 2 rfl) ?_
    refine lv_iconst (v := 0) hx hb dX7_copy_11 (by decide) ?_
    refine lv_bipush (v := 7) hx hb dX7_copy_12 (by decide) ?_
    obtain ⟨r_9, hg_10, hf⟩ := bd_of hf
    refine kt_SF (As := [.int x2, .int (0 : Int32), .int (7 : Int32)]) (rest := []) (st1 := [.int r_9]) (wc' := wM γ am sm sq) C0 (c_X7_within l γ hg_10) (cxS (nA := 3) hts goodU U1079 U1080 U91 U1081 (by decide +kernel) ⟨Nat.le_of_ble_eq_true rfl, Nat.le_of_ble_eq_true rfl⟩) hP (hD _ _) hS hl dX7_copy_14 foc_nil rfl (Nat.le_of_ble_eq_true rfl) rfl rfl (fun H locs hP hS => ?_)
    refine lv_if_ne (tgt := 26) hx hb dX7_copy_17 (by decide) (fun c_11 => ?_) (fun c_11 => ?_)
    · replace hf := ite_n c_11 hf
      refine lv_aload_n hx hb dX7_copy_26 rfl (lv_at hl 0 rfl) ?_
      refine va_get (D := γ.1) (ci := 7) (v := .ref (am 1)) (C := RX7) (T := TX7) (N := 35) hx hb hU uin7 hown hK hP 0 rfl rfl 0 (by decide) (hU _ U969) (fun _ h9 => h9) rfl dX7_copy_27 ?_
      refine lv_iload_n hx hb dX7_copy_30 rfl (lv_at hl 1 rfl) ?_
      obtain ⟨g_12, hf⟩ := gd_of hf
      refine va_iald hx hb hK hP 1 0 rfl rfl (inB_vp g_12) dX7_copy_31 ?_
      refine lv_if_lt (tgt := 43) hx hb dX7_copy_32 (by decide) (fun c_13 => ?_) (fun c_13 => ?_)
      · replace hf := ite_p c_13 hf
        exact J43 x1 x2 x3 x4 x5 sm sq _ _ _ hf hP hS (lv_sub hl [0, 1, 2, 3, 4, 5] rfl)
      · replace hf := ite_n c_13 hf
        refine lv_aload_n hx hb dX7_copy_35 rfl (lv_at hl 0 rfl) ?_
        refine lv_iload_n hx hb dX7_copy_36 rfl (lv_at hl 1 rfl) ?_
        obtain ⟨r_108, hg_109, hf⟩ := bd_of hf
        refine kt_V0 (As := [.int x1]) (rest := []) (st1 := [.int r_108]) (b := am 0) C0 (c_X7_isRow l γ am hg_109) (cxV (nA := 1) hts goodU U1094 U1096 U32 U91 U1097 (by decide +kernel) ⟨Nat.le_of_ble_eq_true rfl, Nat.le_of_ble_eq_true rfl⟩) hP (hD _ _) hS hl dX7_copy_37 0 7 rfl rfl rfl rfl (Nat.le_of_ble_eq_true rfl) rfl rfl (fun H locs hP hS => ?_)
        refine lv_if_eq (tgt := 91) hx hb dX7_copy_40 (by decide) (fun c_110 => ?_) (fun c_110 => ?_)
        · replace hf := ite_p c_110 hf
          exact J91 sm sq _ _ _ hf hP hS (lv_sub hl [0] rfl)
        · replace hf := ite_n c_110 hf
          exact J43 x1 x2 x3 x4 x5 sm sq _ _ _ hf hP hS (lv_sub hl [0, 1, 2, 3, 4, 5] rfl)
    · replace hf := ite_p c_11 hf
      exact J20 sm sq _ _ _ hf hP hS (lv_sub hl [0] rfl)
set_option maxHeartbeats 4000000 in
set_option maxRecDepth 100000 in
theorem c_X7_element (l : Launch) (γ : Gm) (am : Nat → Nat) {sm : GS} {sq : Nat → Int64} {x1 : Int32} {x2 : Int32} {rv : Int64} (hf : f_X7_element sm sq x1 x2 = some rv) : Kt l γ yX7_element (Cond.code yX7_element cX7_element 3 (some .long) :: U) 1 22 [.ref (am 0), .int x1, .int x2] (wM γ am sm sq) (some (.long rv)) (wM γ am sm sq) := by
  refine Kt.of (by decide) rfl (Nat.le_of_ble_eq_true rfl) rfl ?_
  intro p e s m below meth c A ls C0 hP hD0 hS hl
  obtain ⟨hx, hb, hml, hown, hts, hr, hlocks, hK, hE, hA⟩ := id C0
  have hU : ∀ w ∈ U, w.before _ s = true := fun w h => hts w (List.mem_cons_of_mem _ h)
  have hD : ∀ (sm : GS) (sq : Nat → Int64), va_D A (wM γ am sm sq) := fun _ _ => hD0.fst rfl
  have hl : lv_has ls 3 [(0, .ref (am 0)), (1, .int x1), (2, .int x2)] := hl
  unfold f_X7_element at hf
  refine lv_iload_n hx hb dX7_element_0 rfl (lv_at hl 1 rfl) ?_
  refine lv_iconst (v := 0) hx hb dX7_element_1 (by decide) ?_
  refine lv_bipush (v := 7) hx hb dX7_element_2 (by decide) ?_
  obtain ⟨r_1, hg_2, hf⟩ := bd_of hf
  refine kt_SF (As := [.int x1, .int (0 : Int32), .int (7 : Int32)]) (rest := []) (st1 := [.int r_1]) (wc' := wM γ am sm sq) C0 (c_X7_within l γ hg_2) (cxS (nA := 3) hts goodU U1079 U1080 U91 U1081 (by decide +kernel) ⟨Nat.le_of_ble_eq_true rfl, Nat.le_of_ble_eq_true rfl⟩) hP (hD _ _) hS hl dX7_element_4 foc_nil rfl (Nat.le_of_ble_eq_true rfl) rfl rfl (fun H locs hP hS => ?_)
  refine lv_if_eq (tgt := 49) hx hb dX7_element_7 (by decide) (fun c_3 => ?_) (fun c_3 => ?_)
  · replace hf := ite_p c_3 hf
    refine lv_lconst (v := 0) hx hb dX7_element_49 (by decide) ?_
    obtain rfl := Option.some.inj hf
    exact kt_lret C0 hP hS dX7_element_50
  · replace hf := ite_n c_3 hf
    refine lv_aload_n hx hb dX7_element_10 rfl (lv_at hl 0 rfl) ?_
    refine lv_iload_n hx hb dX7_element_11 rfl (lv_at hl 1 rfl) ?_
    obtain ⟨r_4, hg_5, hf⟩ := bd_of hf
    refine kt_V0 (As := [.int x1]) (rest := []) (st1 := [.int r_4]) (b := am 0) C0 (c_X7_isRow l γ am hg_5) (cxV (nA := 1) hts goodU U1094 U1096 U32 U91 U1097 (by decide +kernel) ⟨Nat.le_of_ble_eq_true rfl, Nat.le_of_ble_eq_true rfl⟩) hP (hD _ _) hS hl dX7_element_12 0 7 rfl rfl rfl rfl (Nat.le_of_ble_eq_true rfl) rfl rfl (fun H locs hP hS => ?_)
    refine lv_if_eq (tgt := 49) hx hb dX7_element_15 (by decide) (fun c_6 => ?_) (fun c_6 => ?_)
    · replace hf := ite_p c_6 hf
      refine lv_lconst (v := 0) hx hb dX7_element_49 (by decide) ?_
      obtain rfl := Option.some.inj hf
      exact kt_lret C0 hP hS dX7_element_50
    · replace hf := ite_n c_6 hf
      refine lv_iload_n hx hb dX7_element_18 rfl (lv_at hl 2 rfl) ?_
      refine lv_iconst (v := 0) hx hb dX7_element_19 (by decide) ?_
      refine lv_aload_n hx hb dX7_element_20 rfl (lv_at hl 0 rfl) ?_
      refine va_get (D := γ.1) (ci := 7) (v := .ref (am 2)) (C := RX7) (T := TX7) (N := 35) hx hb hU uin7 hown hK hP 0 rfl rfl 1 (by decide) (hU _ U970) (fun _ h9 => h9) rfl dX7_element_21 ?_
      refine lv_iload_n hx hb dX7_element_24 rfl (lv_at hl 1 rfl) ?_
      obtain ⟨g_7, hf⟩ := gd_of hf
      refine va_iald hx hb hK hP 2 0 rfl rfl (inB_vp g_7) dX7_element_25 ?_
      refine lv_iconst (v := 1) hx hb dX7_element_26 (by decide) ?_
      refine lv_isub hx hb dX7_element_27 ?_
      obtain ⟨r_8, hg_9, hf⟩ := bd_of hf
      refine kt_SF (As := [.int x2, .int (0 : Int32), .int ((sm 2 x1.toNatClampNeg) - (1 : Int32))]) (rest := []) (st1 := [.int r_8]) (wc' := wM γ am sm sq) C0 (c_X7_within l γ hg_9) (cxS (nA := 3) hts goodU U1079 U1080 U91 U1081 (by decide +kernel) ⟨Nat.le_of_ble_eq_true rfl, Nat.le_of_ble_eq_true rfl⟩) hP (hD _ _) hS hl dX7_element_28 foc_nil rfl (Nat.le_of_ble_eq_true rfl) rfl rfl (fun H locs hP hS => ?_)
      refine lv_if_eq (tgt := 49) hx hb dX7_element_31 (by decide) (fun c_10 => ?_) (fun c_10 => ?_)
      · replace hf := ite_p c_10 hf
        refine lv_lconst (v := 0) hx hb dX7_element_49 (by decide) ?_
        obtain rfl := Option.some.inj hf
        exact kt_lret C0 hP hS dX7_element_50
      · replace hf := ite_n c_10 hf
        refine lv_aload_n hx hb dX7_element_34 rfl (lv_at hl 0 rfl) ?_
        refine va_get (D := γ.1) (ci := 7) (v := .ref (am 3)) (C := RX7) (T := TX7) (N := 35) hx hb hU uin7 hown hK hP 0 rfl rfl 2 (by decide) (hU _ U971) (fun _ h9 => h9) rfl dX7_element_35 ?_
        refine lv_sipush (v := 160) hx hb dX7_element_38 (by decide) ?_
        refine lv_iload_n hx hb dX7_element_41 rfl (lv_at hl 1 rfl) ?_
        refine lv_imul hx hb dX7_element_42 ?_
        refine lv_iload_n hx hb dX7_element_43 rfl (lv_at hl 2 rfl) ?_
        refine lv_iadd hx hb dX7_element_44 ?_
        obtain ⟨g_11, hf⟩ := gd_of hf
        refine va_lald hx hb hK hP 3 1 rfl rfl (inB_vp g_11) dX7_element_45 ?_
        refine lv_goto (tgt := 50) hx hb dX7_element_46 (by decide) ?_
        obtain rfl := Option.some.inj hf
        exact kt_lret C0 hP hS dX7_element_50
set_option maxHeartbeats 4000000 in
set_option maxRecDepth 100000 in
theorem c_X7_show (l : Launch) (γ : Gm) (am : Nat → Nat) {sm : GS} {sq : Nat → Int64} {x1 : Int32} {x2 : Int32} {rv : Int32} {sm_z : GS} (hf : f_X7_show sm x1 x2 = some (rv, sm_z)) : Kt l γ yX7_show (Cond.code yX7_show cX7_show 3 (some .int) :: U) 2 43 [.ref (am 0), .int x1, .int x2] (wM γ am sm sq) (some (.int rv)) (wM γ am sm_z sq) := by
  refine Kt.of (by decide) rfl (Nat.le_of_ble_eq_true rfl) rfl ?_
  intro p e s m below meth c A ls C0 hP hD0 hS hl
  obtain ⟨hx, hb, hml, hown, hts, hr, hlocks, hK, hE, hA⟩ := id C0
  have hU : ∀ w ∈ U, w.before _ s = true := fun w h => hts w (List.mem_cons_of_mem _ h)
  have hD : ∀ (sm : GS) (sq : Nat → Int64), va_D A (wM γ am sm sq) := fun _ _ => hD0.fst rfl
  have hl : lv_has ls 3 [(0, .ref (am 0)), (1, .int x1), (2, .int x2)] := hl
  have J23 : ∀ (sm_4 : GS) (H : Heap) (locs : List Loc) (ls : Array Slot), f_X7_show_J23 sm_4 = some (rv, sm_z) → va_P γ.1 vwCl (wM γ am sm_4 sq) H → va_S A s.heap H locs → lv_has ls 3 [(0, .ref (am 0))] → W p l e (rmK 2 43) s m ([.ref (am 0), .int x1, .int x2] : List Value).toArray below meth c H locs 0 0 (MQ below (KQ γ A (some (.int rv)) (wM γ am sm_z sq)) ([.ref (am 0), .int x1, .int x2] : List Value).toArray s 0 0 A) (F0 m 23 ls []) := by
    intro sm_4 H locs ls hf hP hS hl
    unfold f_X7_show_J23 at hf
    refine lv_aload_n hx hb dX7_show_23 rfl (lv_at hl 0 rfl) ?_
    refine lv_iconst (v := -1) hx hb dX7_show_24 (by decide) ?_
    obtain ⟨r_5, sm_6, hg_7, hf⟩ := bd2_of hf
    refine kt_V0 (As := [.int (-1 : Int32)]) (rest := []) (st1 := [.int r_5]) (b := am 0) C0 (c_X7_no l γ am hg_7) (cxV (nA := 1) hts goodU U1082 U1084 U30 U91 U1085 (by decide +kernel) ⟨Nat.le_of_ble_eq_true rfl, Nat.le_of_ble_eq_true rfl⟩) hP (hD _ _) hS hl dX7_show_25 0 7 rfl rfl rfl rfl (Nat.le_of_ble_eq_true rfl) rfl rfl (fun H locs hP hS => ?_)
    obtain ⟨rfl, rfl⟩ := rt2 hf
    exact kt_iret C0 hP hS dX7_show_28
  have J29 : ∀ (x1_9 : Int32) (x2_10 : Int32) (sm_11 : GS) (H : Heap) (locs : List Loc) (ls : Array Slot), f_X7_show_J29 x1_9 x2_10 sm_11 = some (rv, sm_z) → va_P γ.1 vwCl (wM γ am sm_11 sq) H → va_S A s.heap H locs → lv_has ls 3 [(0, .ref (am 0)), (1, .int x1_9), (2, .int x2_10)] → W p l e (rmK 2 43) s m ([.ref (am 0), .int x1, .int x2] : List Value).toArray below meth c H locs 0 0 (MQ below (KQ γ A (some (.int rv)) (wM γ am sm_z sq)) ([.ref (am 0), .int x1, .int x2] : List Value).toArray s 0 0 A) (F0 m 29 ls []) := by
    intro x1_9 x2_10 sm_11 H locs ls hf hP hS hl
    unfold f_X7_show_J29 at hf
    refine lv_aload_n hx hb dX7_show_29 rfl (lv_at hl 0 rfl) ?_
    refine va_get (D := γ.1) (ci := 7) (v := .ref (am 1)) (C := RX7) (T := TX7) (N := 35) hx hb hU uin7 hown hK hP 0 rfl rfl 0 (by decide) (hU _ U969) (fun _ h9 => h9) rfl dX7_show_30 ?_
    refine lv_iload_n hx hb dX7_show_33 rfl (lv_at hl 1 rfl) ?_
    refine lv_iload_n hx hb dX7_show_34 rfl (lv_at hl 2 rfl) ?_
    obtain ⟨g_12, hf⟩ := gd_of hf
    refine va_iast hx hb hK hP (hD _ _) hS 1 0 rfl rfl (inB_vp g_12) dX7_show_35 (fun H locs hP _ hS => ?_)
    obtain ⟨sm_13, e_sm_13, hf⟩ := nm_of hf
    replace hP : va_P γ.1 vwCl (wM γ am sm_13 sq) H := by rw [e_sm_13]; exact hP
    refine lv_iload_n hx hb dX7_show_36 rfl (lv_at hl 2 rfl) ?_
    refine lv_iconst (v := -1) hx hb dX7_show_37 (by decide) ?_
    refine lv_icmp_ne (tgt := 45) hx hb dX7_show_38 (by decide) (fun c_14 => ?_) (fun c_14 => ?_)
    · replace hf := ite_n c_14 hf
      refine lv_iconst (v := 1) hx hb dX7_show_45 (by decide) ?_
      obtain ⟨rfl, rfl⟩ := rt2 hf
      exact kt_iret C0 hP hS dX7_show_46
    · replace hf := ite_p c_14 hf
      refine lv_iconst (v := 0) hx hb dX7_show_41 (by decide) ?_
      refine lv_goto (tgt := 46) hx hb dX7_show_42 (by decide) ?_
      obtain ⟨rfl, rfl⟩ := rt2 hf
      exact kt_iret C0 hP hS dX7_show_46
  unfold f_X7_show at hf
  refine lv_iload_n hx hb dX7_show_0 rfl (lv_at hl 1 rfl) ?_
  refine lv_iconst (v := 0) hx hb dX7_show_1 (by decide) ?_
  refine lv_bipush (v := 7) hx hb dX7_show_2 (by decide) ?_
  obtain ⟨r_1, hg_2, hf⟩ := bd_of hf
  refine kt_SF (As := [.int x1, .int (0 : Int32), .int (7 : Int32)]) (rest := []) (st1 := [.int r_1]) (wc' := wM γ am sm sq) C0 (c_X7_within l γ hg_2) (cxS (nA := 3) hts goodU U1079 U1080 U91 U1081 (by decide +kernel) ⟨Nat.le_of_ble_eq_true rfl, Nat.le_of_ble_eq_true rfl⟩) hP (hD _ _) hS hl dX7_show_4 foc_nil rfl (Nat.le_of_ble_eq_true rfl) rfl rfl (fun H locs hP hS => ?_)
  refine lv_if_eq (tgt := 23) hx hb dX7_show_7 (by decide) (fun c_3 => ?_) (fun c_3 => ?_)
  · replace hf := ite_p c_3 hf
    exact J23 sm _ _ _ hf hP hS (lv_sub hl [0] rfl)
  · replace hf := ite_n c_3 hf
    refine lv_iload_n hx hb dX7_show_10 rfl (lv_at hl 2 rfl) ?_
    refine lv_iconst (v := -1) hx hb dX7_show_11 (by decide) ?_
    refine lv_icmp_eq (tgt := 29) hx hb dX7_show_12 (by decide) (fun c_8 => ?_) (fun c_8 => ?_)
    · replace hf := ite_p c_8 hf
      exact J29 x1 x2 sm _ _ _ hf hP hS (lv_sub hl [0, 1, 2] rfl)
    · replace hf := ite_n c_8 hf
      refine lv_aload_n hx hb dX7_show_15 rfl (lv_at hl 0 rfl) ?_
      refine lv_iload_n hx hb dX7_show_16 rfl (lv_at hl 2 rfl) ?_
      obtain ⟨r_15, hg_16, hf⟩ := bd_of hf
      refine kt_V0 (As := [.int x2]) (rest := []) (st1 := [.int r_15]) (b := am 0) C0 (c_X7_isPeak l γ am hg_16) (cxV (nA := 1) hts goodU U1110 U1112 U33 U91 U1113 (by decide +kernel) ⟨Nat.le_of_ble_eq_true rfl, Nat.le_of_ble_eq_true rfl⟩) hP (hD _ _) hS hl dX7_show_17 0 7 rfl rfl rfl rfl (Nat.le_of_ble_eq_true rfl) rfl rfl (fun H locs hP hS => ?_)
      refine lv_if_ne (tgt := 29) hx hb dX7_show_20 (by decide) (fun c_17 => ?_) (fun c_17 => ?_)
      · replace hf := ite_n c_17 hf
        exact J29 x1 x2 sm _ _ _ hf hP hS (lv_sub hl [0, 1, 2] rfl)
      · replace hf := ite_p c_17 hf
        exact J23 sm _ _ _ hf hP hS (lv_sub hl [0] rfl)
set_option maxHeartbeats 4000000 in
set_option maxRecDepth 100000 in
theorem c_X7_holds (l : Launch) (γ : Gm) (am : Nat → Nat) {sm : GS} {sq : Nat → Int64} {x1 : Int32} {rv : Int32} (hf : f_X7_holds sm x1 = some rv) : Kt l γ yX7_holds (Cond.code yX7_holds cX7_holds 2 (some .int) :: U) 1 22 [.ref (am 0), .int x1] (wM γ am sm sq) (some (.int rv)) (wM γ am sm sq) := by
  refine Kt.of (by decide) rfl (Nat.le_of_ble_eq_true rfl) rfl ?_
  intro p e s m below meth c A ls C0 hP hD0 hS hl
  obtain ⟨hx, hb, hml, hown, hts, hr, hlocks, hK, hE, hA⟩ := id C0
  have hU : ∀ w ∈ U, w.before _ s = true := fun w h => hts w (List.mem_cons_of_mem _ h)
  have hD : ∀ (sm : GS) (sq : Nat → Int64), va_D A (wM γ am sm sq) := fun _ _ => hD0.fst rfl
  have hl : lv_has ls 2 [(0, .ref (am 0)), (1, .int x1)] := hl
  unfold f_X7_holds at hf
  refine lv_iload_n hx hb dX7_holds_0 rfl (lv_at hl 1 rfl) ?_
  refine lv_iconst (v := 0) hx hb dX7_holds_1 (by decide) ?_
  refine lv_bipush (v := 7) hx hb dX7_holds_2 (by decide) ?_
  obtain ⟨r_1, hg_2, hf⟩ := bd_of hf
  refine kt_SF (As := [.int x1, .int (0 : Int32), .int (7 : Int32)]) (rest := []) (st1 := [.int r_1]) (wc' := wM γ am sm sq) C0 (c_X7_within l γ hg_2) (cxS (nA := 3) hts goodU U1079 U1080 U91 U1081 (by decide +kernel) ⟨Nat.le_of_ble_eq_true rfl, Nat.le_of_ble_eq_true rfl⟩) hP (hD _ _) hS hl dX7_holds_4 foc_nil rfl (Nat.le_of_ble_eq_true rfl) rfl rfl (fun H locs hP hS => ?_)
  refine lv_if_eq (tgt := 19) hx hb dX7_holds_7 (by decide) (fun c_3 => ?_) (fun c_3 => ?_)
  · replace hf := ite_p c_3 hf
    refine lv_iconst (v := -1) hx hb dX7_holds_19 (by decide) ?_
    obtain rfl := Option.some.inj hf
    exact kt_iret C0 hP hS dX7_holds_20
  · replace hf := ite_n c_3 hf
    refine lv_aload_n hx hb dX7_holds_10 rfl (lv_at hl 0 rfl) ?_
    refine va_get (D := γ.1) (ci := 7) (v := .ref (am 1)) (C := RX7) (T := TX7) (N := 35) hx hb hU uin7 hown hK hP 0 rfl rfl 0 (by decide) (hU _ U969) (fun _ h9 => h9) rfl dX7_holds_11 ?_
    refine lv_iload_n hx hb dX7_holds_14 rfl (lv_at hl 1 rfl) ?_
    obtain ⟨g_4, hf⟩ := gd_of hf
    refine va_iald hx hb hK hP 1 0 rfl rfl (inB_vp g_4) dX7_holds_15 ?_
    refine lv_goto (tgt := 20) hx hb dX7_holds_16 (by decide) ?_
    obtain rfl := Option.some.inj hf
    exact kt_iret C0 hP hS dX7_holds_20
set_option maxHeartbeats 4000000 in
set_option maxRecDepth 100000 in
theorem c_X7_above (l : Launch) (γ : Gm) {x1 : Int32} {rv : Int32} (hf : f_X7_above x1 = some rv) : Kt l γ yX7_above (Cond.code yX7_above cX7_above 1 (some .int) :: U) 0 0 [.int x1] ([]) (some (.int rv)) ([]) := by
  refine Kt.of (by decide) rfl (Nat.le_of_ble_eq_true rfl) rfl ?_
  intro p e s m below meth c A ls C0 hP hD0 hS hl
  obtain ⟨hx, hb, hml, hown, hts, hr, hlocks, hK, hE, hA⟩ := id C0
  have hU : ∀ w ∈ U, w.before _ s = true := fun w h => hts w (List.mem_cons_of_mem _ h)
  have hD := hD0
  have hl : lv_has ls 1 [(0, .int x1)] := hl
  unfold f_X7_above at hf
  refine lv_iload_n hx hb dX7_above_0 rfl (lv_at hl 0 rfl) ?_
  refine lv_iconst (v := 3) hx hb dX7_above_1 (by decide) ?_
  refine lv_icmp_ne (tgt := 9) hx hb dX7_above_2 (by decide) (fun c_1 => ?_) (fun c_1 => ?_)
  · replace hf := ite_n c_1 hf
    refine lv_iload_n hx hb dX7_above_9 rfl (lv_at hl 0 rfl) ?_
    refine lv_iconst (v := 5) hx hb dX7_above_10 (by decide) ?_
    refine lv_icmp_ne (tgt := 18) hx hb dX7_above_11 (by decide) (fun c_2 => ?_) (fun c_2 => ?_)
    · replace hf := ite_n c_2 hf
      refine lv_iload_n hx hb dX7_above_18 rfl (lv_at hl 0 rfl) ?_
      refine lv_bipush (v := 6) hx hb dX7_above_19 (by decide) ?_
      refine lv_icmp_ne (tgt := 28) hx hb dX7_above_21 (by decide) (fun c_3 => ?_) (fun c_3 => ?_)
      · replace hf := ite_n c_3 hf
        refine lv_iconst (v := 0) hx hb dX7_above_28 (by decide) ?_
        obtain rfl := Option.some.inj hf
        exact kt_iret C0 hP hS dX7_above_29
      · replace hf := ite_p c_3 hf
        refine lv_iconst (v := 4) hx hb dX7_above_24 (by decide) ?_
        refine lv_goto (tgt := 29) hx hb dX7_above_25 (by decide) ?_
        obtain rfl := Option.some.inj hf
        exact kt_iret C0 hP hS dX7_above_29
    · replace hf := ite_p c_2 hf
      refine lv_iconst (v := 2) hx hb dX7_above_14 (by decide) ?_
      refine lv_goto (tgt := 29) hx hb dX7_above_15 (by decide) ?_
      obtain rfl := Option.some.inj hf
      exact kt_iret C0 hP hS dX7_above_29
  · replace hf := ite_p c_1 hf
    refine lv_iconst (v := 1) hx hb dX7_above_5 (by decide) ?_
    refine lv_goto (tgt := 29) hx hb dX7_above_6 (by decide) ?_
    obtain rfl := Option.some.inj hf
    exact kt_iret C0 hP hS dX7_above_29
set_option maxHeartbeats 4000000 in
set_option maxRecDepth 100000 in
theorem c_X7_isUnder (l : Launch) (γ : Gm) {x1 : Int32} {x2 : Int32} {rv : Int32} (hf : f_X7_isUnder x1 x2 = some rv) : Kt l γ yX7_isUnder (Cond.code yX7_isUnder cX7_isUnder 3 (some .boolean) :: U) 1 20 [.int x1, .int x2] ([]) (some (.int rv)) ([]) := by
  refine Kt.of (by decide) rfl (Nat.le_of_ble_eq_true rfl) rfl ?_
  intro p e s m below meth c A ls C0 hP hD0 hS hl
  obtain ⟨hx, hb, hml, hown, hts, hr, hlocks, hK, hE, hA⟩ := id C0
  have hU : ∀ w ∈ U, w.before _ s = true := fun w h => hts w (List.mem_cons_of_mem _ h)
  have hD := hD0
  have hl : lv_has ls 3 [(0, .int x1), (1, .int x2)] := hl
  have L2 : ∀ (x1_1 : Int32) (K19 : Int32 → Option (Int32)) (HK19 : ∀ (z2 : Int32) (H : Heap) (locs : List Loc) (ls : Array Slot), K19 z2 = some rv → va_P γ.1 vwCl ([]) H → va_S A s.heap H locs → lv_has ls 3 [(1, .int x1_1), (2, .int z2)] → W p l e (rmK 1 20) s m ([.int x1, .int x2] : List Value).toArray below meth c H locs 0 0 (MQ below (KQ γ A (some (.int rv)) ([])) ([.int x1, .int x2] : List Value).toArray s 0 0 A) (F0 m 19 ls [])) (n : Nat) (x2_2 : Int32) (H : Heap) (locs : List Loc) (ls : Array Slot), f_X7_isUnder_L2 x1_1 K19 n x2_2 = some rv → va_P γ.1 vwCl ([]) H → va_S A s.heap H locs → lv_has ls 3 [(1, .int x1_1), (2, .int x2_2)] → W p l e (rmK 1 20) s m ([.int x1, .int x2] : List Value).toArray below meth c H locs 0 0 (MQ below (KQ γ A (some (.int rv)) ([])) ([.int x1, .int x2] : List Value).toArray s 0 0 A) (F0 m 2 ls []) := by
    intro x1_1 K19 HK19
    intro n
    induction n with
    | zero =>
      intro x2_2 H locs ls hf
      have hf : none = some _ := hf
      cases hf
    | succ n ih =>
      intro x2_2 H locs ls hf hP hS hl
      rw [f_X7_isUnder_L2.eq_2] at hf
      refine lv_iload_n hx hb dX7_isUnder_2 rfl (lv_at hl 1 rfl) ?_
      refine lv_iload_n hx hb dX7_isUnder_3 rfl (lv_at hl 0 rfl) ?_
      refine lv_icmp_eq (tgt := 19) hx hb dX7_isUnder_4 (by decide) (fun c_3 => ?_) (fun c_3 => ?_)
      · replace hf := ite_p c_3 hf
        exact HK19 x2_2 _ _ _ hf hP hS (lv_sub hl [0, 1] rfl)
      · replace hf := ite_n c_3 hf
        refine lv_iload_n hx hb dX7_isUnder_7 rfl (lv_at hl 1 rfl) ?_
        refine lv_if_le (tgt := 19) hx hb dX7_isUnder_8 (by decide) (fun c_4 => ?_) (fun c_4 => ?_)
        · replace hf := ite_p c_4 hf
          exact HK19 x2_2 _ _ _ hf hP hS (lv_sub hl [0, 1] rfl)
        · replace hf := ite_n c_4 hf
          refine lv_iload_n hx hb dX7_isUnder_11 rfl (lv_at hl 1 rfl) ?_
          obtain ⟨r_5, hg_6, hf⟩ := bd_of hf
          refine kt_SF (As := [.int x2_2]) (rest := []) (st1 := [.int r_5]) (wc' := []) C0 (c_X7_above l γ hg_6) (cxS (nA := 1) hts goodU U1125 U1126 U91 U1127 (by decide +kernel) ⟨Nat.le_of_ble_eq_true rfl, Nat.le_of_ble_eq_true rfl⟩) hP (hD) hS hl dX7_isUnder_12 foc_nil rfl (Nat.le_of_ble_eq_true rfl) rfl rfl (fun H locs hP hS => ?_)
          refine lv_istore_n (lv' := [(2, .int r_5), (1, .int x1_1)]) hx hb dX7_isUnder_15 rfl hl (by decide) rfl (fun ls hl => ?_)
          refine lv_goto (tgt := 2) hx hb dX7_isUnder_16 (by decide) ?_
          exact ih r_5 _ _ _ hf hP hS (lv_sub hl [1, 0] rfl)
  have J19 : ∀ (x1_8 : Int32) (x2_9 : Int32) (H : Heap) (locs : List Loc) (ls : Array Slot), f_X7_isUnder_J19 x1_8 x2_9 = some rv → va_P γ.1 vwCl ([]) H → va_S A s.heap H locs → lv_has ls 3 [(1, .int x1_8), (2, .int x2_9)] → W p l e (rmK 1 20) s m ([.int x1, .int x2] : List Value).toArray below meth c H locs 0 0 (MQ below (KQ γ A (some (.int rv)) ([])) ([.int x1, .int x2] : List Value).toArray s 0 0 A) (F0 m 19 ls []) := by
    intro x1_8 x2_9 H locs ls hf hP hS hl
    unfold f_X7_isUnder_J19 at hf
    refine lv_iload_n hx hb dX7_isUnder_19 rfl (lv_at hl 1 rfl) ?_
    refine lv_iload_n hx hb dX7_isUnder_20 rfl (lv_at hl 0 rfl) ?_
    refine lv_icmp_ne (tgt := 28) hx hb dX7_isUnder_21 (by decide) (fun c_10 => ?_) (fun c_10 => ?_)
    · replace hf := ite_n c_10 hf
      refine lv_iconst (v := 0) hx hb dX7_isUnder_28 (by decide) ?_
      obtain rfl := Option.some.inj hf
      exact kt_zret C0 (by decide) hP hS dX7_isUnder_29
    · replace hf := ite_p c_10 hf
      refine lv_iconst (v := 1) hx hb dX7_isUnder_24 (by decide) ?_
      refine lv_goto (tgt := 29) hx hb dX7_isUnder_25 (by decide) ?_
      obtain rfl := Option.some.inj hf
      exact kt_zret C0 (by decide) hP hS dX7_isUnder_29
  unfold f_X7_isUnder at hf
  refine lv_iload_n hx hb dX7_isUnder_0 rfl (lv_at hl 0 rfl) ?_
  refine lv_istore_n (lv' := [(2, .int x1), (0, .int x1), (1, .int x2)]) hx hb dX7_isUnder_1 rfl hl (by decide) rfl (fun ls hl => ?_)
  refine L2 x2 _ (fun x2_7 H locs ls hf hP hS hl => ?_) FU x1 _ _ _ hf hP hS (lv_sub hl [2, 0] rfl)
  exact J19 x2 x2_7 _ _ _ hf hP hS (lv_sub hl [0, 1] rfl)
set_option maxHeartbeats 4000000 in
set_option maxRecDepth 100000 in
theorem c_X7_mourners (l : Launch) (γ : Gm) (am : Nat → Nat) {sm : GS} {sq : Nat → Int64} {rv : Int32} (hf : f_X7_mourners sm = some rv) : Kt l γ yX7_mourners (Cond.code yX7_mourners cX7_mourners 3 (some .int) :: U) 0 0 [.ref (am 0)] (wM γ am sm sq) (some (.int rv)) (wM γ am sm sq) := by
  refine Kt.of (by decide) rfl (Nat.le_of_ble_eq_true rfl) rfl ?_
  intro p e s m below meth c A ls C0 hP hD0 hS hl
  obtain ⟨hx, hb, hml, hown, hts, hr, hlocks, hK, hE, hA⟩ := id C0
  have hU : ∀ w ∈ U, w.before _ s = true := fun w h => hts w (List.mem_cons_of_mem _ h)
  have hD : ∀ (sm : GS) (sq : Nat → Int64), va_D A (wM γ am sm sq) := fun _ _ => hD0.fst rfl
  have hl : lv_has ls 3 [(0, .ref (am 0))] := hl
  have L4 : ∀ (n : Nat) (x1_1 : Int32) (x2_2 : Int32) (H : Heap) (locs : List Loc) (ls : Array Slot), f_X7_mourners_L4 sm n x1_1 x2_2 = some rv → va_P γ.1 vwCl (wM γ am sm sq) H → va_S A s.heap H locs → lv_has ls 3 [(0, .ref (am 0)), (1, .int x1_1), (2, .int x2_2)] → W p l e (rmK 0 0) s m ([.ref (am 0)] : List Value).toArray below meth c H locs 0 0 (MQ below (KQ γ A (some (.int rv)) (wM γ am sm sq)) ([.ref (am 0)] : List Value).toArray s 0 0 A) (F0 m 4 ls []) := by
    intro n
    induction n with
    | zero =>
      intro x1_1 x2_2 H locs ls hf
      have hf : none = some _ := hf
      cases hf
    | succ n ih =>
      intro x1_1 x2_2 H locs ls hf hP hS hl
      rw [f_X7_mourners_L4.eq_2] at hf
      refine lv_iload_n hx hb dX7_mourners_4 rfl (lv_at hl 2 rfl) ?_
      refine lv_aload_n hx hb dX7_mourners_5 rfl (lv_at hl 0 rfl) ?_
      refine va_get (D := γ.1) (ci := 7) (v := .int (sm 0 3)) (C := RX7) (T := TX7) (N := 35) hx hb hU uin7 hown hK hP 0 rfl rfl 3 (by decide) (hU _ U972) (fun _ h9 => h9) rfl dX7_mourners_6 ?_
      refine lv_icmp_ge (tgt := 47) hx hb dX7_mourners_9 (by decide) (fun c_3 => ?_) (fun c_3 => ?_)
      · replace hf := ite_p c_3 hf
        refine lv_iload_n hx hb dX7_mourners_47 rfl (lv_at hl 1 rfl) ?_
        obtain rfl := Option.some.inj hf
        exact kt_iret C0 hP hS dX7_mourners_48
      · replace hf := ite_n c_3 hf
        refine lv_aload_n hx hb dX7_mourners_12 rfl (lv_at hl 0 rfl) ?_
        refine va_get (D := γ.1) (ci := 7) (v := .ref (am 9)) (C := RX7) (T := TX7) (N := 35) hx hb hU uin7 hown hK hP 0 rfl rfl 8 (by decide) (hU _ U977) (fun _ h9 => h9) rfl dX7_mourners_13 ?_
        refine lv_iload_n hx hb dX7_mourners_16 rfl (lv_at hl 2 rfl) ?_
        obtain ⟨g_4, hf⟩ := gd_of hf
        refine va_iald hx hb hK hP 8 0 rfl rfl (inB_vp g_4) dX7_mourners_17 ?_
        refine lv_iconst (v := 1) hx hb dX7_mourners_18 (by decide) ?_
        refine lv_icmp_ne (tgt := 41) hx hb dX7_mourners_19 (by decide) (fun c_5 => ?_) (fun c_5 => ?_)
        · replace hf := ite_n c_5 hf
          obtain ⟨x2_6, e_x2_6⟩ : ∃ y : Int32, y = x2_2 + (1 : Int32) := ⟨_, rfl⟩
          replace hf := nm_y hf e_x2_6
          refine lv_iinc (v := x2_6) (lv' := [(2, .int x2_6), (0, .ref (am 0)), (1, .int x1_1)]) hx hb dX7_mourners_41 hl (k := 2) rfl (by rw [e_x2_6]; rfl) (by decide) rfl (fun ls hl => ?_)
          refine lv_goto (tgt := 4) hx hb dX7_mourners_44 (by decide) ?_
          exact ih x1_1 x2_6 _ _ _ hf hP hS (lv_sub hl [1, 2, 0] rfl)
        · replace hf := ite_p c_5 hf
          refine lv_aload_n hx hb dX7_mourners_22 rfl (lv_at hl 0 rfl) ?_
          refine va_get (D := γ.1) (ci := 7) (v := .int (sm 0 17)) (C := RX7) (T := TX7) (N := 35) hx hb hU uin7 hown hK hP 0 rfl rfl 17 (by decide) (hU _ U986) (fun _ h9 => h9) rfl dX7_mourners_23 ?_
          refine lv_aload_n hx hb dX7_mourners_26 rfl (lv_at hl 0 rfl) ?_
          refine va_get (D := γ.1) (ci := 7) (v := .ref (am 10)) (C := RX7) (T := TX7) (N := 35) hx hb hU uin7 hown hK hP 0 rfl rfl 9 (by decide) (hU _ U978) (fun _ h9 => h9) rfl dX7_mourners_27 ?_
          refine lv_iload_n hx hb dX7_mourners_30 rfl (lv_at hl 2 rfl) ?_
          obtain ⟨g_7, hf⟩ := gd_of hf
          refine va_iald hx hb hK hP 9 0 rfl rfl (inB_vp g_7) dX7_mourners_31 ?_
          refine lv_icmp_ge (tgt := 41) hx hb dX7_mourners_32 (by decide) (fun c_8 => ?_) (fun c_8 => ?_)
          · replace hf := ite_p c_8 hf
            obtain ⟨x2_9, e_x2_9⟩ : ∃ y : Int32, y = x2_2 + (1 : Int32) := ⟨_, rfl⟩
            replace hf := nm_y hf e_x2_9
            refine lv_iinc (v := x2_9) (lv' := [(2, .int x2_9), (0, .ref (am 0)), (1, .int x1_1)]) hx hb dX7_mourners_41 hl (k := 2) rfl (by rw [e_x2_9]; rfl) (by decide) rfl (fun ls hl => ?_)
            refine lv_goto (tgt := 4) hx hb dX7_mourners_44 (by decide) ?_
            exact ih x1_1 x2_9 _ _ _ hf hP hS (lv_sub hl [1, 2, 0] rfl)
          · replace hf := ite_n c_8 hf
            refine lv_iload_n hx hb dX7_mourners_35 rfl (lv_at hl 1 rfl) ?_
            refine lv_iconst (v := 1) hx hb dX7_mourners_36 (by decide) ?_
            refine lv_iload_n hx hb dX7_mourners_37 rfl (lv_at hl 2 rfl) ?_
            refine lv_ishl hx hb dX7_mourners_38 ?_
            refine lv_ior hx hb dX7_mourners_39 ?_
            refine lv_topi (fun u_10 e_u_10 => ?_)
            replace hf := nm_y hf e_u_10
            refine lv_istore_n (lv' := [(1, .int u_10), (0, .ref (am 0)), (2, .int x2_2)]) hx hb dX7_mourners_40 rfl hl (by decide) rfl (fun ls hl => ?_)
            obtain ⟨x2_11, e_x2_11⟩ : ∃ y : Int32, y = x2_2 + (1 : Int32) := ⟨_, rfl⟩
            replace hf := nm_y hf e_x2_11
            refine lv_iinc (v := x2_11) (lv' := [(2, .int x2_11), (1, .int u_10), (0, .ref (am 0))]) hx hb dX7_mourners_41 hl (k := 2) rfl (by rw [e_x2_11]; rfl) (by decide) rfl (fun ls hl => ?_)
            refine lv_goto (tgt := 4) hx hb dX7_mourners_44 (by decide) ?_
            exact ih u_10 x2_11 _ _ _ hf hP hS (lv_sub hl [2, 1, 0] rfl)
  unfold f_X7_mourners at hf
  refine lv_iconst (v := 0) hx hb dX7_mourners_0 (by decide) ?_
  refine lv_istore_n (lv' := [(1, .int (0 : Int32)), (0, .ref (am 0))]) hx hb dX7_mourners_1 rfl hl (by decide) rfl (fun ls hl => ?_)
  refine lv_iconst (v := 0) hx hb dX7_mourners_2 (by decide) ?_
  refine lv_istore_n (lv' := [(2, .int (0 : Int32)), (1, .int (0 : Int32)), (0, .ref (am 0))]) hx hb dX7_mourners_3 rfl hl (by decide) rfl (fun ls hl => ?_)
  exact L4 FU (0 : Int32) (0 : Int32) _ _ _ hf hP hS (lv_sub hl [2, 1, 0] rfl)
set_option maxHeartbeats 4000000 in
set_option maxRecDepth 100000 in
theorem c_X7_sees (l : Launch) (γ : Gm) (am : Nat → Nat) {sm : GS} {sq : Nat → Int64} {x1 : Int32} {x2 : Int32} {rv : Int32} (hf : f_X7_sees sm x1 x2 = some rv) : Kt l γ yX7_sees (Cond.code yX7_sees cX7_sees 3 (some .boolean) :: U) 0 0 [.ref (am 0), .int x1, .int x2] (wM γ am sm sq) (some (.int rv)) (wM γ am sm sq) := by
  refine Kt.of (by decide) rfl (Nat.le_of_ble_eq_true rfl) rfl ?_
  intro p e s m below meth c A ls C0 hP hD0 hS hl
  obtain ⟨hx, hb, hml, hown, hts, hr, hlocks, hK, hE, hA⟩ := id C0
  have hU : ∀ w ∈ U, w.before _ s = true := fun w h => hts w (List.mem_cons_of_mem _ h)
  have hD : ∀ (sm : GS) (sq : Nat → Int64), va_D A (wM γ am sm sq) := fun _ _ => hD0.fst rfl
  have hl : lv_has ls 3 [(0, .ref (am 0)), (1, .int x1), (2, .int x2)] := hl
  unfold f_X7_sees at hf
  refine lv_aload_n hx hb dX7_sees_0 rfl (lv_at hl 0 rfl) ?_
  refine va_get (D := γ.1) (ci := 7) (v := .ref (am 11)) (C := RX7) (T := TX7) (N := 35) hx hb hU uin7 hown hK hP 0 rfl rfl 10 (by decide) (hU _ U979) (fun _ h9 => h9) rfl dX7_sees_1 ?_
  refine lv_bipush (v := 10) hx hb dX7_sees_4 (by decide) ?_
  refine lv_iload_n hx hb dX7_sees_6 rfl (lv_at hl 1 rfl) ?_
  refine lv_imul hx hb dX7_sees_7 ?_
  refine lv_iload_n hx hb dX7_sees_8 rfl (lv_at hl 2 rfl) ?_
  refine lv_iadd hx hb dX7_sees_9 ?_
  obtain ⟨g_1, hf⟩ := gd_of hf
  refine va_iald hx hb hK hP 10 0 rfl rfl (inB_vp g_1) dX7_sees_10 ?_
  refine lv_iconst (v := -1) hx hb dX7_sees_11 (by decide) ?_
  refine lv_icmp_eq (tgt := 19) hx hb dX7_sees_12 (by decide) (fun c_2 => ?_) (fun c_2 => ?_)
  · replace hf := ite_p c_2 hf
    refine lv_iconst (v := 0) hx hb dX7_sees_19 (by decide) ?_
    obtain rfl := Option.some.inj hf
    exact kt_zret C0 (by decide) hP hS dX7_sees_20
  · replace hf := ite_n c_2 hf
    refine lv_iconst (v := 1) hx hb dX7_sees_15 (by decide) ?_
    refine lv_goto (tgt := 20) hx hb dX7_sees_16 (by decide) ?_
    obtain rfl := Option.some.inj hf
    exact kt_zret C0 (by decide) hP hS dX7_sees_20
set_option maxHeartbeats 4000000 in
set_option maxRecDepth 100000 in
theorem c_X7_seesAny (l : Launch) (γ : Gm) (am : Nat → Nat) {sm : GS} {sq : Nat → Int64} {x1 : Int32} {x2 : Int32} {rv : Int32} (hf : f_X7_seesAny sm x1 x2 = some rv) : Kt l γ yX7_seesAny (Cond.code yX7_seesAny cX7_seesAny 4 (some .boolean) :: U) 1 22 [.ref (am 0), .int x1, .int x2] (wM γ am sm sq) (some (.int rv)) (wM γ am sm sq) := by
  refine Kt.of (by decide) rfl (Nat.le_of_ble_eq_true rfl) rfl ?_
  intro p e s m below meth c A ls C0 hP hD0 hS hl
  obtain ⟨hx, hb, hml, hown, hts, hr, hlocks, hK, hE, hA⟩ := id C0
  have hU : ∀ w ∈ U, w.before _ s = true := fun w h => hts w (List.mem_cons_of_mem _ h)
  have hD : ∀ (sm : GS) (sq : Nat → Int64), va_D A (wM γ am sm sq) := fun _ _ => hD0.fst rfl
  have hl : lv_has ls 4 [(0, .ref (am 0)), (1, .int x1), (2, .int x2)] := hl
  have L2 : ∀ (x1_1 : Int32) (x2_2 : Int32) (n : Nat) (x3_3 : Int32) (H : Heap) (locs : List Loc) (ls : Array Slot), f_X7_seesAny_L2 sm x1_1 x2_2 n x3_3 = some rv → va_P γ.1 vwCl (wM γ am sm sq) H → va_S A s.heap H locs → lv_has ls 4 [(0, .ref (am 0)), (1, .int x1_1), (2, .int x2_2), (3, .int x3_3)] → W p l e (rmK 1 22) s m ([.ref (am 0), .int x1, .int x2] : List Value).toArray below meth c H locs 0 0 (MQ below (KQ γ A (some (.int rv)) (wM γ am sm sq)) ([.ref (am 0), .int x1, .int x2] : List Value).toArray s 0 0 A) (F0 m 2 ls []) := by
    intro x1_1 x2_2
    intro n
    induction n with
    | zero =>
      intro x3_3 H locs ls hf
      have hf : none = some _ := hf
      cases hf
    | succ n ih =>
      intro x3_3 H locs ls hf hP hS hl
      rw [f_X7_seesAny_L2.eq_2] at hf
      refine lv_iload_n hx hb dX7_seesAny_2 rfl (lv_at hl 3 rfl) ?_
      refine lv_aload_n hx hb dX7_seesAny_3 rfl (lv_at hl 0 rfl) ?_
      refine va_get (D := γ.1) (ci := 7) (v := .int (sm 0 3)) (C := RX7) (T := TX7) (N := 35) hx hb hU uin7 hown hK hP 0 rfl rfl 3 (by decide) (hU _ U972) (fun _ h9 => h9) rfl dX7_seesAny_4 ?_
      refine lv_icmp_ge (tgt := 35) hx hb dX7_seesAny_7 (by decide) (fun c_4 => ?_) (fun c_4 => ?_)
      · replace hf := ite_p c_4 hf
        refine lv_iconst (v := 0) hx hb dX7_seesAny_35 (by decide) ?_
        obtain rfl := Option.some.inj hf
        exact kt_zret C0 (by decide) hP hS dX7_seesAny_36
      · replace hf := ite_n c_4 hf
        refine lv_iload_n hx hb dX7_seesAny_10 rfl (lv_at hl 2 rfl) ?_
        refine lv_iload_n hx hb dX7_seesAny_11 rfl (lv_at hl 3 rfl) ?_
        obtain ⟨r_5, hg_6, hf⟩ := bd_of hf
        refine kt_SF (As := [.int x2_2, .int x3_3]) (rest := []) (st1 := [.int r_5]) (wc' := wM γ am sm sq) C0 (c_X7_has l γ hg_6) (cxS (nA := 2) hts goodU U1140 U1141 U91 U1142 (by decide +kernel) ⟨Nat.le_of_ble_eq_true rfl, Nat.le_of_ble_eq_true rfl⟩) hP (hD _ _) hS hl dX7_seesAny_12 foc_nil rfl (Nat.le_of_ble_eq_true rfl) rfl rfl (fun H locs hP hS => ?_)
        refine lv_if_eq (tgt := 29) hx hb dX7_seesAny_15 (by decide) (fun c_7 => ?_) (fun c_7 => ?_)
        · replace hf := ite_p c_7 hf
          obtain ⟨x3_8, e_x3_8⟩ : ∃ y : Int32, y = x3_3 + (1 : Int32) := ⟨_, rfl⟩
          replace hf := nm_y hf e_x3_8
          refine lv_iinc (v := x3_8) (lv' := [(3, .int x3_8), (0, .ref (am 0)), (1, .int x1_1), (2, .int x2_2)]) hx hb dX7_seesAny_29 hl (k := 3) rfl (by rw [e_x3_8]; rfl) (by decide) rfl (fun ls hl => ?_)
          refine lv_goto (tgt := 2) hx hb dX7_seesAny_32 (by decide) ?_
          exact ih x3_8 _ _ _ hf hP hS (lv_sub hl [1, 2, 3, 0] rfl)
        · replace hf := ite_n c_7 hf
          refine lv_aload_n hx hb dX7_seesAny_18 rfl (lv_at hl 0 rfl) ?_
          refine lv_iload_n hx hb dX7_seesAny_19 rfl (lv_at hl 1 rfl) ?_
          refine lv_iload_n hx hb dX7_seesAny_20 rfl (lv_at hl 3 rfl) ?_
          obtain ⟨r_9, hg_10, hf⟩ := bd_of hf
          refine kt_V0 (As := [.int x1_1, .int x3_3]) (rest := []) (st1 := [.int r_9]) (b := am 0) C0 (c_X7_sees l γ am hg_10) (cxV (nA := 2) hts goodU U1143 U1145 U37 U91 U1146 (by decide +kernel) ⟨Nat.le_of_ble_eq_true rfl, Nat.le_of_ble_eq_true rfl⟩) hP (hD _ _) hS hl dX7_seesAny_21 0 7 rfl rfl rfl rfl (Nat.le_of_ble_eq_true rfl) rfl rfl (fun H locs hP hS => ?_)
          refine lv_if_eq (tgt := 29) hx hb dX7_seesAny_24 (by decide) (fun c_11 => ?_) (fun c_11 => ?_)
          · replace hf := ite_p c_11 hf
            obtain ⟨x3_12, e_x3_12⟩ : ∃ y : Int32, y = x3_3 + (1 : Int32) := ⟨_, rfl⟩
            replace hf := nm_y hf e_x3_12
            refine lv_iinc (v := x3_12) (lv' := [(3, .int x3_12), (0, .ref (am 0)), (1, .int x1_1), (2, .int x2_2)]) hx hb dX7_seesAny_29 hl (k := 3) rfl (by rw [e_x3_12]; rfl) (by decide) rfl (fun ls hl => ?_)
            refine lv_goto (tgt := 2) hx hb dX7_seesAny_32 (by decide) ?_
            exact ih x3_12 _ _ _ hf hP hS (lv_sub hl [1, 2, 3, 0] rfl)
          · replace hf := ite_n c_11 hf
            refine lv_iconst (v := 1) hx hb dX7_seesAny_27 (by decide) ?_
            obtain rfl := Option.some.inj hf
            exact kt_zret C0 (by decide) hP hS dX7_seesAny_28
  unfold f_X7_seesAny at hf
  refine lv_iconst (v := 0) hx hb dX7_seesAny_0 (by decide) ?_
  refine lv_istore_n (lv' := [(3, .int (0 : Int32)), (0, .ref (am 0)), (1, .int x1), (2, .int x2)]) hx hb dX7_seesAny_1 rfl hl (by decide) rfl (fun ls hl => ?_)
  exact L2 x1 x2 FU (0 : Int32) _ _ _ hf hP hS (lv_sub hl [1, 2, 3, 0] rfl)
set_option maxHeartbeats 4000000 in
set_option maxRecDepth 100000 in
theorem c_X7_blacks (l : Launch) (γ : Gm) (am : Nat → Nat) {sm : GS} {sq : Nat → Int64} {rv : Int32} (hf : f_X7_blacks sm = some rv) : Kt l γ yX7_blacks (Cond.code yX7_blacks cX7_blacks 5 (some .int) :: U) 2 45 [.ref (am 0)] (wM γ am sm sq) (some (.int rv)) (wM γ am sm sq) := by
  refine Kt.of (by decide) rfl (Nat.le_of_ble_eq_true rfl) rfl ?_
  intro p e s m below meth c A ls C0 hP hD0 hS hl
  obtain ⟨hx, hb, hml, hown, hts, hr, hlocks, hK, hE, hA⟩ := id C0
  have hU : ∀ w ∈ U, w.before _ s = true := fun w h => hts w (List.mem_cons_of_mem _ h)
  have hD : ∀ (sm : GS) (sq : Nat → Int64), va_D A (wM γ am sm sq) := fun _ _ => hD0.fst rfl
  have hl : lv_has ls 5 [(0, .ref (am 0))] := hl
  have L9 : ∀ (x1_3 : Int32) (K51 : Int32 → Option (Int32)) (HK51 : ∀ (z2 : Int32) (H : Heap) (locs : List Loc) (ls : Array Slot), K51 z2 = some rv → va_P γ.1 vwCl (wM γ am sm sq) H → va_S A s.heap H locs → lv_has ls 5 [(0, .ref (am 0)), (2, .int z2)] → W p l e (rmK 2 45) s m ([.ref (am 0)] : List Value).toArray below meth c H locs 0 0 (MQ below (KQ γ A (some (.int rv)) (wM γ am sm sq)) ([.ref (am 0)] : List Value).toArray s 0 0 A) (F0 m 51 ls [])) (n : Nat) (x2_4 : Int32) (x3_5 : Int32) (H : Heap) (locs : List Loc) (ls : Array Slot), f_X7_blacks_L9 sm x1_3 K51 n x2_4 x3_5 = some rv → va_P γ.1 vwCl (wM γ am sm sq) H → va_S A s.heap H locs → lv_has ls 5 [(0, .ref (am 0)), (1, .int x1_3), (2, .int x2_4), (3, .int x3_5)] → W p l e (rmK 2 45) s m ([.ref (am 0)] : List Value).toArray below meth c H locs 0 0 (MQ below (KQ γ A (some (.int rv)) (wM γ am sm sq)) ([.ref (am 0)] : List Value).toArray s 0 0 A) (F0 m 9 ls []) := by
    intro x1_3 K51 HK51
    intro n
    induction n with
    | zero =>
      intro x2_4 x3_5 H locs ls hf
      have hf : none = some _ := hf
      cases hf
    | succ n ih =>
      intro x2_4 x3_5 H locs ls hf hP hS hl
      rw [f_X7_blacks_L9.eq_2] at hf
      refine lv_iload_n hx hb dX7_blacks_9 rfl (lv_at hl 3 rfl) ?_
      refine lv_aload_n hx hb dX7_blacks_10 rfl (lv_at hl 0 rfl) ?_
      refine va_get (D := γ.1) (ci := 7) (v := .int (sm 0 3)) (C := RX7) (T := TX7) (N := 35) hx hb hU uin7 hown hK hP 0 rfl rfl 3 (by decide) (hU _ U972) (fun _ h9 => h9) rfl dX7_blacks_11 ?_
      refine lv_icmp_ge (tgt := 51) hx hb dX7_blacks_14 (by decide) (fun c_6 => ?_) (fun c_6 => ?_)
      · replace hf := ite_p c_6 hf
        exact HK51 x2_4 _ _ _ hf hP hS (lv_sub hl [0, 2] rfl)
      · replace hf := ite_n c_6 hf
        refine lv_aload_n hx hb dX7_blacks_17 rfl (lv_at hl 0 rfl) ?_
        refine va_get (D := γ.1) (ci := 7) (v := .ref (am 5)) (C := RX7) (T := TX7) (N := 35) hx hb hU uin7 hown hK hP 0 rfl rfl 4 (by decide) (hU _ U973) (fun _ h9 => h9) rfl dX7_blacks_18 ?_
        refine lv_iload_n hx hb dX7_blacks_21 rfl (lv_at hl 3 rfl) ?_
        obtain ⟨g_7, hf⟩ := gd_of hf
        refine va_iald hx hb hK hP 4 0 rfl rfl (inB_vp g_7) dX7_blacks_22 ?_
        refine lv_iconst (v := 1) hx hb dX7_blacks_23 (by decide) ?_
        obtain ⟨r_8, hg_9, hf⟩ := bd_of hf
        refine kt_SF (As := [.int (sm 5 x3_5.toNatClampNeg), .int (1 : Int32)]) (rest := []) (st1 := [.int r_8]) (wc' := wM γ am sm sq) C0 (c_X7_isUnder l γ hg_9) (cxS (nA := 2) hts goodU U1122 U1123 U91 U1124 (by decide +kernel) ⟨Nat.le_of_ble_eq_true rfl, Nat.le_of_ble_eq_true rfl⟩) hP (hD _ _) hS hl dX7_blacks_24 foc_nil rfl (Nat.le_of_ble_eq_true rfl) rfl rfl (fun H locs hP hS => ?_)
        refine lv_if_eq (tgt := 45) hx hb dX7_blacks_27 (by decide) (fun c_10 => ?_) (fun c_10 => ?_)
        · replace hf := ite_p c_10 hf
          obtain ⟨x3_11, e_x3_11⟩ : ∃ y : Int32, y = x3_5 + (1 : Int32) := ⟨_, rfl⟩
          replace hf := nm_y hf e_x3_11
          refine lv_iinc (v := x3_11) (lv' := [(3, .int x3_11), (0, .ref (am 0)), (1, .int x1_3), (2, .int x2_4)]) hx hb dX7_blacks_45 hl (k := 3) rfl (by rw [e_x3_11]; rfl) (by decide) rfl (fun ls hl => ?_)
          refine lv_goto (tgt := 9) hx hb dX7_blacks_48 (by decide) ?_
          exact ih x2_4 x3_11 _ _ _ hf hP hS (lv_sub hl [1, 2, 3, 0] rfl)
        · replace hf := ite_n c_10 hf
          refine lv_aload_n hx hb dX7_blacks_30 rfl (lv_at hl 0 rfl) ?_
          refine lv_iload_n hx hb dX7_blacks_31 rfl (lv_at hl 3 rfl) ?_
          refine lv_iload_n hx hb dX7_blacks_32 rfl (lv_at hl 1 rfl) ?_
          obtain ⟨r_12, hg_13, hf⟩ := bd_of hf
          refine kt_V0 (As := [.int x3_5, .int x1_3]) (rest := []) (st1 := [.int r_12]) (b := am 0) C0 (c_X7_seesAny l γ am hg_13) (cxV (nA := 2) hts goodU U1136 U1138 U36 U91 U1139 (by decide +kernel) ⟨Nat.le_of_ble_eq_true rfl, Nat.le_of_ble_eq_true rfl⟩) hP (hD _ _) hS hl dX7_blacks_33 0 7 rfl rfl rfl rfl (Nat.le_of_ble_eq_true rfl) rfl rfl (fun H locs hP hS => ?_)
          refine lv_if_eq (tgt := 45) hx hb dX7_blacks_36 (by decide) (fun c_14 => ?_) (fun c_14 => ?_)
          · replace hf := ite_p c_14 hf
            obtain ⟨x3_15, e_x3_15⟩ : ∃ y : Int32, y = x3_5 + (1 : Int32) := ⟨_, rfl⟩
            replace hf := nm_y hf e_x3_15
            refine lv_iinc (v := x3_15) (lv' := [(3, .int x3_15), (0, .ref (am 0)), (1, .int x1_3), (2, .int x2_4)]) hx hb dX7_blacks_45 hl (k := 3) rfl (by rw [e_x3_15]; rfl) (by decide) rfl (fun ls hl => ?_)
            refine lv_goto (tgt := 9) hx hb dX7_blacks_48 (by decide) ?_
            exact ih x2_4 x3_15 _ _ _ hf hP hS (lv_sub hl [1, 2, 3, 0] rfl)
          · replace hf := ite_n c_14 hf
            refine lv_iload_n hx hb dX7_blacks_39 rfl (lv_at hl 2 rfl) ?_
            refine lv_iconst (v := 1) hx hb dX7_blacks_40 (by decide) ?_
            refine lv_iload_n hx hb dX7_blacks_41 rfl (lv_at hl 3 rfl) ?_
            refine lv_ishl hx hb dX7_blacks_42 ?_
            refine lv_ior hx hb dX7_blacks_43 ?_
            refine lv_topi (fun u_16 e_u_16 => ?_)
            replace hf := nm_y hf e_u_16
            refine lv_istore_n (lv' := [(2, .int u_16), (0, .ref (am 0)), (1, .int x1_3), (3, .int x3_5)]) hx hb dX7_blacks_44 rfl hl (by decide) rfl (fun ls hl => ?_)
            obtain ⟨x3_17, e_x3_17⟩ : ∃ y : Int32, y = x3_5 + (1 : Int32) := ⟨_, rfl⟩
            replace hf := nm_y hf e_x3_17
            refine lv_iinc (v := x3_17) (lv' := [(3, .int x3_17), (2, .int u_16), (0, .ref (am 0)), (1, .int x1_3)]) hx hb dX7_blacks_45 hl (k := 3) rfl (by rw [e_x3_17]; rfl) (by decide) rfl (fun ls hl => ?_)
            refine lv_goto (tgt := 9) hx hb dX7_blacks_48 (by decide) ?_
            exact ih u_16 x3_17 _ _ _ hf hP hS (lv_sub hl [2, 3, 1, 0] rfl)
  have L63 : ∀ (x3_23 : Int32) (K106 : Int32 → Option (Int32)) (HK106 : ∀ (z2 : Int32) (H : Heap) (locs : List Loc) (ls : Array Slot), K106 z2 = some rv → va_P γ.1 vwCl (wM γ am sm sq) H → va_S A s.heap H locs → lv_has ls 5 [(0, .ref (am 0)), (2, .int z2), (3, .int x3_23)] → W p l e (rmK 2 45) s m ([.ref (am 0)] : List Value).toArray below meth c H locs 0 0 (MQ below (KQ γ A (some (.int rv)) (wM γ am sm sq)) ([.ref (am 0)] : List Value).toArray s 0 0 A) (F0 m 106 ls [])) (n : Nat) (x2_22 : Int32) (x4_24 : Int32) (H : Heap) (locs : List Loc) (ls : Array Slot), f_X7_blacks_L63 sm x3_23 K106 n x2_22 x4_24 = some rv → va_P γ.1 vwCl (wM γ am sm sq) H → va_S A s.heap H locs → lv_has ls 5 [(0, .ref (am 0)), (2, .int x2_22), (3, .int x3_23), (4, .int x4_24)] → W p l e (rmK 2 45) s m ([.ref (am 0)] : List Value).toArray below meth c H locs 0 0 (MQ below (KQ γ A (some (.int rv)) (wM γ am sm sq)) ([.ref (am 0)] : List Value).toArray s 0 0 A) (F0 m 63 ls []) := by
    intro x3_23 K106 HK106
    intro n
    induction n with
    | zero =>
      intro x2_22 x4_24 H locs ls hf
      have hf : none = some _ := hf
      cases hf
    | succ n ih =>
      intro x2_22 x4_24 H locs ls hf hP hS hl
      rw [f_X7_blacks_L63.eq_2] at hf
      refine lv_iload hx hb dX7_blacks_63 (lv_at hl 3 rfl) ?_
      refine lv_aload_n hx hb dX7_blacks_65 rfl (lv_at hl 0 rfl) ?_
      refine va_get (D := γ.1) (ci := 7) (v := .int (sm 0 3)) (C := RX7) (T := TX7) (N := 35) hx hb hU uin7 hown hK hP 0 rfl rfl 3 (by decide) (hU _ U972) (fun _ h9 => h9) rfl dX7_blacks_66 ?_
      refine lv_icmp_ge (tgt := 106) hx hb dX7_blacks_69 (by decide) (fun c_25 => ?_) (fun c_25 => ?_)
      · replace hf := ite_p c_25 hf
        exact HK106 x2_22 _ _ _ hf hP hS (lv_sub hl [0, 1, 2] rfl)
      · replace hf := ite_n c_25 hf
        refine lv_aload_n hx hb dX7_blacks_72 rfl (lv_at hl 0 rfl) ?_
        refine va_get (D := γ.1) (ci := 7) (v := .ref (am 5)) (C := RX7) (T := TX7) (N := 35) hx hb hU uin7 hown hK hP 0 rfl rfl 4 (by decide) (hU _ U973) (fun _ h9 => h9) rfl dX7_blacks_73 ?_
        refine lv_iload hx hb dX7_blacks_76 (lv_at hl 3 rfl) ?_
        obtain ⟨g_26, hf⟩ := gd_of hf
        refine va_iald hx hb hK hP 4 0 rfl rfl (inB_vp g_26) dX7_blacks_78 ?_
        refine lv_iconst (v := 3) hx hb dX7_blacks_79 (by decide) ?_
        refine lv_icmp_ne (tgt := 100) hx hb dX7_blacks_80 (by decide) (fun c_27 => ?_) (fun c_27 => ?_)
        · replace hf := ite_n c_27 hf
          obtain ⟨x4_28, e_x4_28⟩ : ∃ y : Int32, y = x4_24 + (1 : Int32) := ⟨_, rfl⟩
          replace hf := nm_y hf e_x4_28
          refine lv_iinc (v := x4_28) (lv' := [(4, .int x4_28), (0, .ref (am 0)), (2, .int x2_22), (3, .int x3_23)]) hx hb dX7_blacks_100 hl (k := 3) rfl (by rw [e_x4_28]; rfl) (by decide) rfl (fun ls hl => ?_)
          refine lv_goto (tgt := 63) hx hb dX7_blacks_103 (by decide) ?_
          exact ih x2_22 x4_28 _ _ _ hf hP hS (lv_sub hl [1, 2, 3, 0] rfl)
        · replace hf := ite_p c_27 hf
          refine lv_aload_n hx hb dX7_blacks_83 rfl (lv_at hl 0 rfl) ?_
          refine lv_iload hx hb dX7_blacks_84 (lv_at hl 3 rfl) ?_
          refine lv_iload_n hx hb dX7_blacks_86 rfl (lv_at hl 2 rfl) ?_
          obtain ⟨r_29, hg_30, hf⟩ := bd_of hf
          refine kt_V0 (As := [.int x4_24, .int x3_23]) (rest := []) (st1 := [.int r_29]) (b := am 0) C0 (c_X7_seesAny l γ am hg_30) (cxV (nA := 2) hts goodU U1136 U1138 U36 U91 U1139 (by decide +kernel) ⟨Nat.le_of_ble_eq_true rfl, Nat.le_of_ble_eq_true rfl⟩) hP (hD _ _) hS hl dX7_blacks_87 0 7 rfl rfl rfl rfl (Nat.le_of_ble_eq_true rfl) rfl rfl (fun H locs hP hS => ?_)
          refine lv_if_eq (tgt := 100) hx hb dX7_blacks_90 (by decide) (fun c_31 => ?_) (fun c_31 => ?_)
          · replace hf := ite_p c_31 hf
            obtain ⟨x4_32, e_x4_32⟩ : ∃ y : Int32, y = x4_24 + (1 : Int32) := ⟨_, rfl⟩
            replace hf := nm_y hf e_x4_32
            refine lv_iinc (v := x4_32) (lv' := [(4, .int x4_32), (0, .ref (am 0)), (2, .int x2_22), (3, .int x3_23)]) hx hb dX7_blacks_100 hl (k := 3) rfl (by rw [e_x4_32]; rfl) (by decide) rfl (fun ls hl => ?_)
            refine lv_goto (tgt := 63) hx hb dX7_blacks_103 (by decide) ?_
            exact ih x2_22 x4_32 _ _ _ hf hP hS (lv_sub hl [1, 2, 3, 0] rfl)
          · replace hf := ite_n c_31 hf
            refine lv_iload_n hx hb dX7_blacks_93 rfl (lv_at hl 1 rfl) ?_
            refine lv_iconst (v := 1) hx hb dX7_blacks_94 (by decide) ?_
            refine lv_iload hx hb dX7_blacks_95 (lv_at hl 3 rfl) ?_
            refine lv_ishl hx hb dX7_blacks_97 ?_
            refine lv_ior hx hb dX7_blacks_98 ?_
            refine lv_topi (fun u_33 e_u_33 => ?_)
            replace hf := nm_y hf e_u_33
            refine lv_istore_n (lv' := [(2, .int u_33), (0, .ref (am 0)), (3, .int x3_23), (4, .int x4_24)]) hx hb dX7_blacks_99 rfl hl (by decide) rfl (fun ls hl => ?_)
            obtain ⟨x4_34, e_x4_34⟩ : ∃ y : Int32, y = x4_24 + (1 : Int32) := ⟨_, rfl⟩
            replace hf := nm_y hf e_x4_34
            refine lv_iinc (v := x4_34) (lv' := [(4, .int x4_34), (2, .int u_33), (0, .ref (am 0)), (3, .int x3_23)]) hx hb dX7_blacks_100 hl (k := 3) rfl (by rw [e_x4_34]; rfl) (by decide) rfl (fun ls hl => ?_)
            refine lv_goto (tgt := 63) hx hb dX7_blacks_103 (by decide) ?_
            exact ih u_33 x4_34 _ _ _ hf hP hS (lv_sub hl [2, 1, 3, 0] rfl)
  have L53 : ∀ (n : Nat) (x2_19 : Int32) (x3_20 : Int32) (H : Heap) (locs : List Loc) (ls : Array Slot), f_X7_blacks_L53 sm n x2_19 x3_20 = some rv → va_P γ.1 vwCl (wM γ am sm sq) H → va_S A s.heap H locs → lv_has ls 5 [(0, .ref (am 0)), (2, .int x2_19), (3, .int x3_20)] → W p l e (rmK 2 45) s m ([.ref (am 0)] : List Value).toArray below meth c H locs 0 0 (MQ below (KQ γ A (some (.int rv)) (wM γ am sm sq)) ([.ref (am 0)] : List Value).toArray s 0 0 A) (F0 m 53 ls []) := by
    intro n
    induction n with
    | zero =>
      intro x2_19 x3_20 H locs ls hf
      have hf : none = some _ := hf
      cases hf
    | succ n ih =>
      intro x2_19 x3_20 H locs ls hf hP hS hl
      rw [f_X7_blacks_L53.eq_2] at hf
      refine lv_iload_n hx hb dX7_blacks_53 rfl (lv_at hl 1 rfl) ?_
      refine lv_iload_n hx hb dX7_blacks_54 rfl (lv_at hl 2 rfl) ?_
      refine lv_icmp_eq (tgt := 109) hx hb dX7_blacks_55 (by decide) (fun c_21 => ?_) (fun c_21 => ?_)
      · replace hf := ite_p c_21 hf
        refine lv_iload_n hx hb dX7_blacks_109 rfl (lv_at hl 1 rfl) ?_
        obtain rfl := Option.some.inj hf
        exact kt_iret C0 hP hS dX7_blacks_110
      · replace hf := ite_n c_21 hf
        refine lv_iload_n hx hb dX7_blacks_58 rfl (lv_at hl 1 rfl) ?_
        refine lv_istore_n (lv' := [(3, .int x2_19), (0, .ref (am 0)), (2, .int x2_19)]) hx hb dX7_blacks_59 rfl hl (by decide) rfl (fun ls hl => ?_)
        refine lv_iconst (v := 0) hx hb dX7_blacks_60 (by decide) ?_
        refine lv_istore (lv' := [(4, .int (0 : Int32)), (3, .int x2_19), (0, .ref (am 0)), (2, .int x2_19)]) hx hb dX7_blacks_61 hl (by decide) rfl (fun ls hl => ?_)
        refine L63 x2_19 _ (fun x2_35 H locs ls hf hP hS hl => ?_) FU x2_19 (0 : Int32) _ _ _ hf hP hS (lv_sub hl [2, 3, 1, 0] rfl)
        refine lv_goto (tgt := 53) hx hb dX7_blacks_106 (by decide) ?_
        exact ih x2_35 x2_19 _ _ _ hf hP hS (lv_sub hl [0, 1, 2] rfl)
  unfold f_X7_blacks at hf
  refine lv_aload_n hx hb dX7_blacks_0 rfl (lv_at hl 0 rfl) ?_
  obtain ⟨r_1, hg_2, hf⟩ := bd_of hf
  refine kt_V0 (As := []) (rest := []) (st1 := [.int r_1]) (b := am 0) C0 (c_X7_mourners l γ am hg_2) (cxV (nA := 0) hts goodU U1132 U1134 U35 U91 U1135 (by decide +kernel) ⟨Nat.le_of_ble_eq_true rfl, Nat.le_of_ble_eq_true rfl⟩) hP (hD _ _) hS hl dX7_blacks_1 0 7 rfl rfl rfl rfl (Nat.le_of_ble_eq_true rfl) rfl rfl (fun H locs hP hS => ?_)
  refine lv_istore_n (lv' := [(1, .int r_1), (0, .ref (am 0))]) hx hb dX7_blacks_4 rfl hl (by decide) rfl (fun ls hl => ?_)
  refine lv_iload_n hx hb dX7_blacks_5 rfl (lv_at hl 0 rfl) ?_
  refine lv_istore_n (lv' := [(2, .int r_1), (1, .int r_1), (0, .ref (am 0))]) hx hb dX7_blacks_6 rfl hl (by decide) rfl (fun ls hl => ?_)
  refine lv_iconst (v := 0) hx hb dX7_blacks_7 (by decide) ?_
  refine lv_istore_n (lv' := [(3, .int (0 : Int32)), (2, .int r_1), (1, .int r_1), (0, .ref (am 0))]) hx hb dX7_blacks_8 rfl hl (by decide) rfl (fun ls hl => ?_)
  refine L9 r_1 _ (fun x2_18 H locs ls hf hP hS hl => ?_) FU r_1 (0 : Int32) _ _ _ hf hP hS (lv_sub hl [3, 2, 1, 0] rfl)
  refine lv_iconst (v := -1) hx hb dX7_blacks_51 (by decide) ?_
  refine lv_istore_n (lv' := [(3, .int (-1 : Int32)), (0, .ref (am 0)), (2, .int x2_18)]) hx hb dX7_blacks_52 rfl hl (by decide) rfl (fun ls hl => ?_)
  exact L53 FU x2_18 (-1 : Int32) _ _ _ hf hP hS (lv_sub hl [1, 2, 0] rfl)
set_option maxHeartbeats 4000000 in
set_option maxRecDepth 100000 in
theorem c_X7_mourns (l : Launch) (γ : Gm) (am : Nat → Nat) {sm : GS} {sq : Nat → Int64} {x1 : Int32} {x2 : Int32} {rv : Int32} (hf : f_X7_mourns sm x1 x2 = some rv) : Kt l γ yX7_mourns (Cond.code yX7_mourns cX7_mourns 3 (some .int) :: U) 1 21 [.ref (am 0), .int x1, .int x2] (wM γ am sm sq) (some (.int rv)) (wM γ am sm sq) := by
  refine Kt.of (by decide) rfl (Nat.le_of_ble_eq_true rfl) rfl ?_
  intro p e s m below meth c A ls C0 hP hD0 hS hl
  obtain ⟨hx, hb, hml, hown, hts, hr, hlocks, hK, hE, hA⟩ := id C0
  have hU : ∀ w ∈ U, w.before _ s = true := fun w h => hts w (List.mem_cons_of_mem _ h)
  have hD : ∀ (sm : GS) (sq : Nat → Int64), va_D A (wM γ am sm sq) := fun _ _ => hD0.fst rfl
  have hl : lv_has ls 3 [(0, .ref (am 0)), (1, .int x1), (2, .int x2)] := hl
  unfold f_X7_mourns at hf
  refine lv_aload_n hx hb dX7_mourns_0 rfl (lv_at hl 0 rfl) ?_
  refine va_get (D := γ.1) (ci := 7) (v := .ref (am 5)) (C := RX7) (T := TX7) (N := 35) hx hb hU uin7 hown hK hP 0 rfl rfl 4 (by decide) (hU _ U973) (fun _ h9 => h9) rfl dX7_mourns_1 ?_
  refine lv_iload_n hx hb dX7_mourns_4 rfl (lv_at hl 1 rfl) ?_
  obtain ⟨g_1, hf⟩ := gd_of hf
  refine va_iald hx hb hK hP 4 0 rfl rfl (inB_vp g_1) dX7_mourns_5 ?_
  by_cases c_2 : (sm 5 x1.toNatClampNeg) = (2 : Int32)
  · replace hf := ite_p c_2 hf
    refine lv_tableIn (off := 34) (tgt := 40) hx hb dX7_mourns_6 (by rw [c_2]; decide) (by rw [c_2]; decide) (by rw [c_2]; rfl) (by decide) ?_
    refine lv_iload_n hx hb dX7_mourns_40 rfl (lv_at hl 2 rfl) ?_
    refine lv_iconst (v := 2) hx hb dX7_mourns_41 (by decide) ?_
    refine lv_idiv hx hb dX7_mourns_42 (by decide) ?_
    obtain rfl := Option.some.inj hf
    exact kt_iret C0 hP hS dX7_mourns_43
  · replace hf := ite_n c_2 hf
    by_cases c_3 : (sm 5 x1.toNatClampNeg) = (3 : Int32)
    · replace hf := ite_p c_3 hf
      refine lv_tableIn (off := 55) (tgt := 61) hx hb dX7_mourns_6 (by rw [c_3]; decide) (by rw [c_3]; decide) (by rw [c_3]; rfl) (by decide) ?_
      refine lv_iload_n hx hb dX7_mourns_61 rfl (lv_at hl 2 rfl) ?_
      obtain rfl := Option.some.inj hf
      exact kt_iret C0 hP hS dX7_mourns_62
    · replace hf := ite_n c_3 hf
      by_cases c_4 : (sm 5 x1.toNatClampNeg) = (4 : Int32)
      · replace hf := ite_p c_4 hf
        refine lv_tableIn (off := 55) (tgt := 61) hx hb dX7_mourns_6 (by rw [c_4]; decide) (by rw [c_4]; decide) (by rw [c_4]; rfl) (by decide) ?_
        refine lv_iload_n hx hb dX7_mourns_61 rfl (lv_at hl 2 rfl) ?_
        obtain rfl := Option.some.inj hf
        exact kt_iret C0 hP hS dX7_mourns_62
      · replace hf := ite_n c_4 hf
        by_cases c_5 : (sm 5 x1.toNatClampNeg) = (5 : Int32)
        · replace hf := ite_p c_5 hf
          refine lv_tableIn (off := 38) (tgt := 44) hx hb dX7_mourns_6 (by rw [c_5]; decide) (by rw [c_5]; decide) (by rw [c_5]; rfl) (by decide) ?_
          refine lv_iload_n hx hb dX7_mourns_44 rfl (lv_at hl 2 rfl) ?_
          refine lv_iconst (v := 2) hx hb dX7_mourns_45 (by decide) ?_
          refine lv_idiv hx hb dX7_mourns_46 (by decide) ?_
          refine lv_aload_n hx hb dX7_mourns_47 rfl (lv_at hl 0 rfl) ?_
          refine va_get (D := γ.1) (ci := 7) (v := .ref (am 6)) (C := RX7) (T := TX7) (N := 35) hx hb hU uin7 hown hK hP 0 rfl rfl 5 (by decide) (hU _ U974) (fun _ h9 => h9) rfl dX7_mourns_48 ?_
          refine lv_iload_n hx hb dX7_mourns_51 rfl (lv_at hl 1 rfl) ?_
          obtain ⟨g_6, hf⟩ := gd_of hf
          refine va_iald hx hb hK hP 5 0 rfl rfl (inB_vp g_6) dX7_mourns_52 ?_
          refine va_mmin (rest := []) (x := (x2 / (2 : Int32))) (y := (sm 6 x1.toNatClampNeg)) hx hb (hml.trans hl.1.symm) hown (hU _ U1151) (hU _ U454) (hU _ U93) (hU _ U455) (Nat.le_of_ble_eq_true rfl) (Nat.le_of_ble_eq_true rfl) (Nat.zero_le _) (Nat.zero_le _) dX7_mourns_53 ?_
          refine lv_topi (fun u_7 e_u_7 => ?_)
          replace hf := nm_y hf e_u_7
          obtain rfl := Option.some.inj hf
          exact kt_iret C0 hP hS dX7_mourns_56
        · replace hf := ite_n c_5 hf
          by_cases c_8 : (sm 5 x1.toNatClampNeg) = (6 : Int32)
          · replace hf := ite_p c_8 hf
            refine lv_tableIn (off := 51) (tgt := 57) hx hb dX7_mourns_6 (by rw [c_8]; decide) (by rw [c_8]; decide) (by rw [c_8]; rfl) (by decide) ?_
            refine lv_iconst (v := 2) hx hb dX7_mourns_57 (by decide) ?_
            refine lv_iload_n hx hb dX7_mourns_58 rfl (lv_at hl 2 rfl) ?_
            refine lv_imul hx hb dX7_mourns_59 ?_
            obtain rfl := Option.some.inj hf
            exact kt_iret C0 hP hS dX7_mourns_60
          · replace hf := ite_n c_8 hf
            refine lv_tableOut (tgt := 61) hx hb dX7_mourns_6 (by have := lv_neT c_2 (a := 2) (by decide); have := lv_neT c_3 (a := 3) (by decide); have := lv_neT c_4 (a := 4) (by decide); have := lv_neT c_5 (a := 5) (by decide); have := lv_neT c_8 (a := 6) (by decide); omega) (by decide) ?_
            refine lv_iload_n hx hb dX7_mourns_61 rfl (lv_at hl 2 rfl) ?_
            obtain rfl := Option.some.inj hf
            exact kt_iret C0 hP hS dX7_mourns_62
set_option maxHeartbeats 4000000 in
set_option maxRecDepth 100000 in
theorem c_X7_says (l : Launch) (γ : Gm) (am : Nat → Nat) {sm : GS} {sq : Nat → Int64} {x1 : Int32} {x2 : Int32} {rv : Int32} {sm_z : GS} (hf : f_X7_says sm x1 x2 = some (rv, sm_z)) : Kt l γ yX7_says (Cond.code yX7_says cX7_says 4 (some .int) :: U) 3 69 [.ref (am 0), .int x1, .int x2] (wM γ am sm sq) (some (.int rv)) (wM γ am sm_z sq) := by
  refine Kt.of (by decide) rfl (Nat.le_of_ble_eq_true rfl) rfl ?_
  intro p e s m below meth c A ls C0 hP hD0 hS hl
  obtain ⟨hx, hb, hml, hown, hts, hr, hlocks, hK, hE, hA⟩ := id C0
  have hU : ∀ w ∈ U, w.before _ s = true := fun w h => hts w (List.mem_cons_of_mem _ h)
  have hD : ∀ (sm : GS) (sq : Nat → Int64), va_D A (wM γ am sm sq) := fun _ _ => hD0.fst rfl
  have hl : lv_has ls 4 [(0, .ref (am 0)), (1, .int x1), (2, .int x2)] := hl
  have J20 : ∀ (sm_4 : GS) (H : Heap) (locs : List Loc) (ls : Array Slot), f_X7_says_J20 sm_4 = some (rv, sm_z) → va_P γ.1 vwCl (wM γ am sm_4 sq) H → va_S A s.heap H locs → lv_has ls 4 [(0, .ref (am 0))] → W p l e (rmK 3 69) s m ([.ref (am 0), .int x1, .int x2] : List Value).toArray below meth c H locs 0 0 (MQ below (KQ γ A (some (.int rv)) (wM γ am sm_z sq)) ([.ref (am 0), .int x1, .int x2] : List Value).toArray s 0 0 A) (F0 m 20 ls []) := by
    intro sm_4 H locs ls hf hP hS hl
    unfold f_X7_says_J20 at hf
    refine lv_aload_n hx hb dX7_says_20 rfl (lv_at hl 0 rfl) ?_
    refine lv_iconst (v := -1) hx hb dX7_says_21 (by decide) ?_
    obtain ⟨r_5, sm_6, hg_7, hf⟩ := bd2_of hf
    refine kt_V0 (As := [.int (-1 : Int32)]) (rest := []) (st1 := [.int r_5]) (b := am 0) C0 (c_X7_no l γ am hg_7) (cxV (nA := 1) hts goodU U1082 U1084 U30 U91 U1085 (by decide +kernel) ⟨Nat.le_of_ble_eq_true rfl, Nat.le_of_ble_eq_true rfl⟩) hP (hD _ _) hS hl dX7_says_22 0 7 rfl rfl rfl rfl (Nat.le_of_ble_eq_true rfl) rfl rfl (fun H locs hP hS => ?_)
    obtain ⟨rfl, rfl⟩ := rt2 hf
    exact kt_iret C0 hP hS dX7_says_25
  have J119 : ∀ (x3_21 : Int32) (sm_22 : GS) (H : Heap) (locs : List Loc) (ls : Array Slot), f_X7_says_J119 x3_21 sm_22 = some (rv, sm_z) → va_P γ.1 vwCl (wM γ am sm_22 sq) H → va_S A s.heap H locs → lv_has ls 4 [(0, .ref (am 0)), (3, .int x3_21)] → W p l e (rmK 3 69) s m ([.ref (am 0), .int x1, .int x2] : List Value).toArray below meth c H locs 0 0 (MQ below (KQ γ A (some (.int rv)) (wM γ am sm_z sq)) ([.ref (am 0), .int x1, .int x2] : List Value).toArray s 0 0 A) (F0 m 119 ls []) := by
    intro x3_21 sm_22 H locs ls hf hP hS hl
    unfold f_X7_says_J119 at hf
    refine lv_aload_n hx hb dX7_says_119 rfl (lv_at hl 0 rfl) ?_
    obtain ⟨r_23, hg_24, hf⟩ := bd_of hf
    refine kt_V0 (As := []) (rest := []) (st1 := [.int r_23]) (b := am 0) C0 (c_X7_blacks l γ am hg_24) (cxV (nA := 0) hts goodU U1128 U1130 U34 U91 U1131 (by decide +kernel) ⟨Nat.le_of_ble_eq_true rfl, Nat.le_of_ble_eq_true rfl⟩) hP (hD _ _) hS hl dX7_says_120 0 7 rfl rfl rfl rfl (Nat.le_of_ble_eq_true rfl) rfl rfl (fun H locs hP hS => ?_)
    refine lv_iload_n hx hb dX7_says_123 rfl (lv_at hl 1 rfl) ?_
    obtain ⟨r_25, hg_26, hf⟩ := bd_of hf
    refine kt_SF (As := [.int r_23, .int x3_21]) (rest := []) (st1 := [.int r_25]) (wc' := wM γ am sm_22 sq) C0 (c_X7_has l γ hg_26) (cxS (nA := 2) hts goodU U1140 U1141 U91 U1142 (by decide +kernel) ⟨Nat.le_of_ble_eq_true rfl, Nat.le_of_ble_eq_true rfl⟩) hP (hD _ _) hS hl dX7_says_124 foc_nil rfl (Nat.le_of_ble_eq_true rfl) rfl rfl (fun H locs hP hS => ?_)
    refine lv_if_eq (tgt := 134) hx hb dX7_says_127 (by decide) (fun c_27 => ?_) (fun c_27 => ?_)
    · replace hf := ite_p c_27 hf
      refine lv_iconst (v := 0) hx hb dX7_says_134 (by decide) ?_
      obtain ⟨rfl, rfl⟩ := rt2 hf
      exact kt_iret C0 hP hS dX7_says_135
    · replace hf := ite_n c_27 hf
      refine lv_iconst (v := 1) hx hb dX7_says_130 (by decide) ?_
      refine lv_goto (tgt := 135) hx hb dX7_says_131 (by decide) ?_
      obtain ⟨rfl, rfl⟩ := rt2 hf
      exact kt_iret C0 hP hS dX7_says_135
  have J149 : ∀ (x3_29 : Int32) (sm_30 : GS) (H : Heap) (locs : List Loc) (ls : Array Slot), f_X7_says_J149 x3_29 sm_30 = some (rv, sm_z) → va_P γ.1 vwCl (wM γ am sm_30 sq) H → va_S A s.heap H locs → lv_has ls 4 [(0, .ref (am 0)), (3, .int x3_29)] → W p l e (rmK 3 69) s m ([.ref (am 0), .int x1, .int x2] : List Value).toArray below meth c H locs 0 0 (MQ below (KQ γ A (some (.int rv)) (wM γ am sm_z sq)) ([.ref (am 0), .int x1, .int x2] : List Value).toArray s 0 0 A) (F0 m 149 ls []) := by
    intro x3_29 sm_30 H locs ls hf hP hS hl
    unfold f_X7_says_J149 at hf
    refine lv_aload_n hx hb dX7_says_149 rfl (lv_at hl 0 rfl) ?_
    refine lv_iload_n hx hb dX7_says_150 rfl (lv_at hl 1 rfl) ?_
    refine lv_bipush (v := 100) hx hb dX7_says_151 (by decide) ?_
    obtain ⟨r_31, hg_32, hf⟩ := bd_of hf
    refine kt_V0 (As := [.int x3_29, .int (100 : Int32)]) (rest := []) (st1 := [.int r_31]) (b := am 0) C0 (c_X7_mourns l γ am hg_32) (cxV (nA := 2) hts goodU U1147 U1149 U38 U91 U1150 (by decide +kernel) ⟨Nat.le_of_ble_eq_true rfl, Nat.le_of_ble_eq_true rfl⟩) hP (hD _ _) hS hl dX7_says_153 0 7 rfl rfl rfl rfl (Nat.le_of_ble_eq_true rfl) rfl rfl (fun H locs hP hS => ?_)
    obtain ⟨rfl, rfl⟩ := rt2 hf
    exact kt_iret C0 hP hS dX7_says_156
  have J65 : ∀ (x2_14 : Int32) (x3_15 : Int32) (sm_16 : GS) (H : Heap) (locs : List Loc) (ls : Array Slot), f_X7_says_J65 x2_14 x3_15 sm_16 = some (rv, sm_z) → va_P γ.1 vwCl (wM γ am sm_16 sq) H → va_S A s.heap H locs → lv_has ls 4 [(0, .ref (am 0)), (2, .int x2_14), (3, .int x3_15)] → W p l e (rmK 3 69) s m ([.ref (am 0), .int x1, .int x2] : List Value).toArray below meth c H locs 0 0 (MQ below (KQ γ A (some (.int rv)) (wM γ am sm_z sq)) ([.ref (am 0), .int x1, .int x2] : List Value).toArray s 0 0 A) (F0 m 65 ls []) := by
    intro x2_14 x3_15 sm_16 H locs ls hf hP hS hl
    unfold f_X7_says_J65 at hf
    refine lv_iload_n hx hb dX7_says_65 rfl (lv_at hl 2 rfl) ?_
    refine lv_if_ge (tgt := 76) hx hb dX7_says_66 (by decide) (fun c_17 => ?_) (fun c_17 => ?_)
    · replace hf := ite_p c_17 hf
      refine lv_iload_n hx hb dX7_says_76 rfl (lv_at hl 1 rfl) ?_
      by_cases c_18 : x2_14 = (0 : Int32)
      · replace hf := ite_p c_18 hf
        refine lv_tableIn (off := 35) (tgt := 112) hx hb dX7_says_77 (by rw [c_18]; decide) (by rw [c_18]; decide) (by rw [c_18]; rfl) (by decide) ?_
        refine lv_aload_n hx hb dX7_says_112 rfl (lv_at hl 0 rfl) ?_
        refine va_get (D := γ.1) (ci := 7) (v := .ref (am 8)) (C := RX7) (T := TX7) (N := 35) hx hb hU uin7 hown hK hP 0 rfl rfl 7 (by decide) (hU _ U976) (fun _ h9 => h9) rfl dX7_says_113 ?_
        refine lv_iload_n hx hb dX7_says_116 rfl (lv_at hl 2 rfl) ?_
        obtain ⟨g_19, hf⟩ := gd_of hf
        refine va_iald hx hb hK hP 7 0 rfl rfl (inB_vp g_19) dX7_says_117 ?_
        obtain ⟨rfl, rfl⟩ := rt2 hf
        exact kt_iret C0 hP hS dX7_says_118
      · replace hf := ite_n c_18 hf
        by_cases c_20 : x2_14 = (1 : Int32)
        · replace hf := ite_p c_20 hf
          refine lv_tableIn (off := 42) (tgt := 119) hx hb dX7_says_77 (by rw [c_20]; decide) (by rw [c_20]; decide) (by rw [c_20]; rfl) (by decide) ?_
          exact J119 x3_15 sm_16 _ _ _ hf hP hS (lv_sub hl [0, 2] rfl)
        · replace hf := ite_n c_20 hf
          by_cases c_28 : x2_14 = (2 : Int32)
          · replace hf := ite_p c_28 hf
            refine lv_tableIn (off := 72) (tgt := 149) hx hb dX7_says_77 (by rw [c_28]; decide) (by rw [c_28]; decide) (by rw [c_28]; rfl) (by decide) ?_
            exact J149 x3_15 sm_16 _ _ _ hf hP hS (lv_sub hl [0, 2] rfl)
          · replace hf := ite_n c_28 hf
            by_cases c_33 : x2_14 = (3 : Int32)
            · replace hf := ite_p c_33 hf
              refine lv_tableIn (off := 42) (tgt := 119) hx hb dX7_says_77 (by rw [c_33]; decide) (by rw [c_33]; decide) (by rw [c_33]; rfl) (by decide) ?_
              exact J119 x3_15 sm_16 _ _ _ hf hP hS (lv_sub hl [0, 2] rfl)
            · replace hf := ite_n c_33 hf
              by_cases c_34 : x2_14 = (4 : Int32)
              · replace hf := ite_p c_34 hf
                refine lv_tableIn (off := 59) (tgt := 136) hx hb dX7_says_77 (by rw [c_34]; decide) (by rw [c_34]; decide) (by rw [c_34]; rfl) (by decide) ?_
                refine lv_bipush (v := 10) hx hb dX7_says_136 (by decide) ?_
                refine lv_aload_n hx hb dX7_says_138 rfl (lv_at hl 0 rfl) ?_
                refine va_get (D := γ.1) (ci := 7) (v := .ref (am 6)) (C := RX7) (T := TX7) (N := 35) hx hb hU uin7 hown hK hP 0 rfl rfl 5 (by decide) (hU _ U974) (fun _ h9 => h9) rfl dX7_says_139 ?_
                refine lv_iload_n hx hb dX7_says_142 rfl (lv_at hl 2 rfl) ?_
                obtain ⟨g_35, hf⟩ := gd_of hf
                refine va_iald hx hb hK hP 5 0 rfl rfl (inB_vp g_35) dX7_says_143 ?_
                refine lv_imul hx hb dX7_says_144 ?_
                refine lv_bipush (v := 10) hx hb dX7_says_145 (by decide) ?_
                refine lv_iadd hx hb dX7_says_147 ?_
                obtain ⟨rfl, rfl⟩ := rt2 hf
                exact kt_iret C0 hP hS dX7_says_148
              · replace hf := ite_n c_34 hf
                refine lv_tableOut (tgt := 149) hx hb dX7_says_77 (by have := lv_neT c_18 (a := 0) (by decide); have := lv_neT c_20 (a := 1) (by decide); have := lv_neT c_28 (a := 2) (by decide); have := lv_neT c_33 (a := 3) (by decide); have := lv_neT c_34 (a := 4) (by decide); omega) (by decide) ?_
                exact J149 x3_15 sm_16 _ _ _ hf hP hS (lv_sub hl [0, 2] rfl)
    · replace hf := ite_n c_17 hf
      refine lv_aload_n hx hb dX7_says_69 rfl (lv_at hl 0 rfl) ?_
      refine lv_bipush (v := -3) hx hb dX7_says_70 (by decide) ?_
      obtain ⟨r_36, sm_37, hg_38, hf⟩ := bd2_of hf
      refine kt_V0 (As := [.int (-3 : Int32)]) (rest := []) (st1 := [.int r_36]) (b := am 0) C0 (c_X7_no l γ am hg_38) (cxV (nA := 1) hts goodU U1082 U1084 U30 U91 U1085 (by decide +kernel) ⟨Nat.le_of_ble_eq_true rfl, Nat.le_of_ble_eq_true rfl⟩) hP (hD _ _) hS hl dX7_says_72 0 7 rfl rfl rfl rfl (Nat.le_of_ble_eq_true rfl) rfl rfl (fun H locs hP hS => ?_)
      obtain ⟨rfl, rfl⟩ := rt2 hf
      exact kt_iret C0 hP hS dX7_says_75
  have J58 : ∀ (sm_42 : GS) (H : Heap) (locs : List Loc) (ls : Array Slot), f_X7_says_J58 sm_42 = some (rv, sm_z) → va_P γ.1 vwCl (wM γ am sm_42 sq) H → va_S A s.heap H locs → lv_has ls 4 [(0, .ref (am 0))] → W p l e (rmK 3 69) s m ([.ref (am 0), .int x1, .int x2] : List Value).toArray below meth c H locs 0 0 (MQ below (KQ γ A (some (.int rv)) (wM γ am sm_z sq)) ([.ref (am 0), .int x1, .int x2] : List Value).toArray s 0 0 A) (F0 m 58 ls []) := by
    intro sm_42 H locs ls hf hP hS hl
    unfold f_X7_says_J58 at hf
    refine lv_aload_n hx hb dX7_says_58 rfl (lv_at hl 0 rfl) ?_
    refine lv_bipush (v := -2) hx hb dX7_says_59 (by decide) ?_
    obtain ⟨r_43, sm_44, hg_45, hf⟩ := bd2_of hf
    refine kt_V0 (As := [.int (-2 : Int32)]) (rest := []) (st1 := [.int r_43]) (b := am 0) C0 (c_X7_no l γ am hg_45) (cxV (nA := 1) hts goodU U1082 U1084 U30 U91 U1085 (by decide +kernel) ⟨Nat.le_of_ble_eq_true rfl, Nat.le_of_ble_eq_true rfl⟩) hP (hD _ _) hS hl dX7_says_61 0 7 rfl rfl rfl rfl (Nat.le_of_ble_eq_true rfl) rfl rfl (fun H locs hP hS => ?_)
    obtain ⟨rfl, rfl⟩ := rt2 hf
    exact kt_iret C0 hP hS dX7_says_64
  unfold f_X7_says at hf
  refine lv_iload_n hx hb dX7_says_0 rfl (lv_at hl 1 rfl) ?_
  refine lv_iconst (v := 0) hx hb dX7_says_1 (by decide) ?_
  refine lv_bipush (v := 7) hx hb dX7_says_2 (by decide) ?_
  obtain ⟨r_1, hg_2, hf⟩ := bd_of hf
  refine kt_SF (As := [.int x1, .int (0 : Int32), .int (7 : Int32)]) (rest := []) (st1 := [.int r_1]) (wc' := wM γ am sm sq) C0 (c_X7_within l γ hg_2) (cxS (nA := 3) hts goodU U1079 U1080 U91 U1081 (by decide +kernel) ⟨Nat.le_of_ble_eq_true rfl, Nat.le_of_ble_eq_true rfl⟩) hP (hD _ _) hS hl dX7_says_4 foc_nil rfl (Nat.le_of_ble_eq_true rfl) rfl rfl (fun H locs hP hS => ?_)
  refine lv_if_eq (tgt := 20) hx hb dX7_says_7 (by decide) (fun c_3 => ?_) (fun c_3 => ?_)
  · replace hf := ite_p c_3 hf
    exact J20 sm _ _ _ hf hP hS (lv_sub hl [0] rfl)
  · replace hf := ite_n c_3 hf
    refine lv_iload_n hx hb dX7_says_10 rfl (lv_at hl 2 rfl) ?_
    refine lv_iconst (v := 0) hx hb dX7_says_11 (by decide) ?_
    refine lv_bipush (v := 6) hx hb dX7_says_12 (by decide) ?_
    obtain ⟨r_8, hg_9, hf⟩ := bd_of hf
    refine kt_SF (As := [.int x2, .int (0 : Int32), .int (6 : Int32)]) (rest := []) (st1 := [.int r_8]) (wc' := wM γ am sm sq) C0 (c_X7_within l γ hg_9) (cxS (nA := 3) hts goodU U1079 U1080 U91 U1081 (by decide +kernel) ⟨Nat.le_of_ble_eq_true rfl, Nat.le_of_ble_eq_true rfl⟩) hP (hD _ _) hS hl dX7_says_14 foc_nil rfl (Nat.le_of_ble_eq_true rfl) rfl rfl (fun H locs hP hS => ?_)
    refine lv_if_ne (tgt := 26) hx hb dX7_says_17 (by decide) (fun c_10 => ?_) (fun c_10 => ?_)
    · replace hf := ite_n c_10 hf
      refine lv_aload_n hx hb dX7_says_26 rfl (lv_at hl 0 rfl) ?_
      refine va_get (D := γ.1) (ci := 7) (v := .ref (am 1)) (C := RX7) (T := TX7) (N := 35) hx hb hU uin7 hown hK hP 0 rfl rfl 0 (by decide) (hU _ U969) (fun _ h9 => h9) rfl dX7_says_27 ?_
      refine lv_iload_n hx hb dX7_says_30 rfl (lv_at hl 1 rfl) ?_
      obtain ⟨g_11, hf⟩ := gd_of hf
      refine va_iald hx hb hK hP 1 0 rfl rfl (inB_vp g_11) dX7_says_31 ?_
      refine lv_topi (fun u_12 e_u_12 => ?_)
      replace hf := nm_y hf e_u_12
      refine lv_istore_n (lv' := [(3, .int u_12), (0, .ref (am 0)), (1, .int x1), (2, .int x2)]) hx hb dX7_says_32 rfl hl (by decide) rfl (fun ls hl => ?_)
      refine lv_iload_n hx hb dX7_says_33 rfl (lv_at hl 0 rfl) ?_
      refine lv_if_lt (tgt := 65) hx hb dX7_says_34 (by decide) (fun c_13 => ?_) (fun c_13 => ?_)
      · replace hf := ite_p c_13 hf
        exact J65 x2 u_12 sm _ _ _ hf hP hS (lv_sub hl [1, 3, 0] rfl)
      · replace hf := ite_n c_13 hf
        refine lv_aload_n hx hb dX7_says_37 rfl (lv_at hl 1 rfl) ?_
        refine lv_iload_n hx hb dX7_says_38 rfl (lv_at hl 2 rfl) ?_
        obtain ⟨r_39, hg_40, hf⟩ := bd_of hf
        refine kt_V0 (As := [.int x1]) (rest := []) (st1 := [.int r_39]) (b := am 0) C0 (c_X7_isRow l γ am hg_40) (cxV (nA := 1) hts goodU U1094 U1096 U32 U91 U1097 (by decide +kernel) ⟨Nat.le_of_ble_eq_true rfl, Nat.le_of_ble_eq_true rfl⟩) hP (hD _ _) hS hl dX7_says_39 0 7 rfl rfl rfl rfl (Nat.le_of_ble_eq_true rfl) rfl rfl (fun H locs hP hS => ?_)
        refine lv_if_ne (tgt := 58) hx hb dX7_says_42 (by decide) (fun c_41 => ?_) (fun c_41 => ?_)
        · replace hf := ite_n c_41 hf
          exact J58 sm _ _ _ hf hP hS (lv_sub hl [1] rfl)
        · replace hf := ite_p c_41 hf
          refine lv_aload_n hx hb dX7_says_45 rfl (lv_at hl 1 rfl) ?_
          refine va_get (D := γ.1) (ci := 7) (v := .ref (am 5)) (C := RX7) (T := TX7) (N := 35) hx hb hU uin7 hown hK hP 0 rfl rfl 4 (by decide) (hU _ U973) (fun _ h9 => h9) rfl dX7_says_46 ?_
          refine lv_iload_n hx hb dX7_says_49 rfl (lv_at hl 0 rfl) ?_
          obtain ⟨g_46, hf⟩ := gd_of hf
          refine va_iald hx hb hK hP 4 0 rfl rfl (inB_vp g_46) dX7_says_50 ?_
          refine lv_iload_n hx hb dX7_says_51 rfl (lv_at hl 3 rfl) ?_
          obtain ⟨r_47, hg_48, hf⟩ := bd_of hf
          refine kt_SF (As := [.int (sm 5 u_12.toNatClampNeg), .int x2]) (rest := []) (st1 := [.int r_47]) (wc' := wM γ am sm sq) C0 (c_X7_isUnder l γ hg_48) (cxS (nA := 2) hts goodU U1122 U1123 U91 U1124 (by decide +kernel) ⟨Nat.le_of_ble_eq_true rfl, Nat.le_of_ble_eq_true rfl⟩) hP (hD _ _) hS hl dX7_says_52 foc_nil rfl (Nat.le_of_ble_eq_true rfl) rfl rfl (fun H locs hP hS => ?_)
          refine lv_if_ne (tgt := 65) hx hb dX7_says_55 (by decide) (fun c_49 => ?_) (fun c_49 => ?_)
          · replace hf := ite_n c_49 hf
            exact J65 x2 u_12 sm _ _ _ hf hP hS (lv_sub hl [1, 3, 0] rfl)
          · replace hf := ite_p c_49 hf
            exact J58 sm _ _ _ hf hP hS (lv_sub hl [1] rfl)
    · replace hf := ite_p c_10 hf
      exact J20 sm _ _ _ hf hP hS (lv_sub hl [0] rfl)
set_option maxHeartbeats 4000000 in
set_option maxRecDepth 100000 in
theorem c_X7_isBetween (l : Launch) (γ : Gm) (am : Nat → Nat) {sm : GS} {sq : Nat → Int64} {x1 : Int32} {x2 : Int32} {x3 : Int32} {rv : Int32} (hf : f_X7_isBetween sm x1 x2 x3 = some rv) : Kt l γ yX7_isBetween (Cond.code yX7_isBetween cX7_isBetween 4 (some .boolean) :: U) 1 21 [.ref (am 0), .int x1, .int x2, .int x3] (wM γ am sm sq) (some (.int rv)) (wM γ am sm sq) := by
  refine Kt.of (by decide) rfl (Nat.le_of_ble_eq_true rfl) rfl ?_
  intro p e s m below meth c A ls C0 hP hD0 hS hl
  obtain ⟨hx, hb, hml, hown, hts, hr, hlocks, hK, hE, hA⟩ := id C0
  have hU : ∀ w ∈ U, w.before _ s = true := fun w h => hts w (List.mem_cons_of_mem _ h)
  have hD : ∀ (sm : GS) (sq : Nat → Int64), va_D A (wM γ am sm sq) := fun _ _ => hD0.fst rfl
  have hl : lv_has ls 4 [(0, .ref (am 0)), (1, .int x1), (2, .int x2), (3, .int x3)] := hl
  unfold f_X7_isBetween at hf
  refine lv_iload_n hx hb dX7_isBetween_0 rfl (lv_at hl 3 rfl) ?_
  refine lv_aload_n hx hb dX7_isBetween_1 rfl (lv_at hl 0 rfl) ?_
  refine va_get (D := γ.1) (ci := 7) (v := .ref (am 7)) (C := RX7) (T := TX7) (N := 35) hx hb hU uin7 hown hK hP 0 rfl rfl 6 (by decide) (hU _ U975) (fun _ h9 => h9) rfl dX7_isBetween_2 ?_
  refine lv_iload_n hx hb dX7_isBetween_5 rfl (lv_at hl 1 rfl) ?_
  obtain ⟨g_1, hf⟩ := gd_of hf
  refine va_iald hx hb hK hP 6 0 rfl rfl (inB_vp g_1) dX7_isBetween_6 ?_
  refine lv_aload_n hx hb dX7_isBetween_7 rfl (lv_at hl 0 rfl) ?_
  refine va_get (D := γ.1) (ci := 7) (v := .ref (am 7)) (C := RX7) (T := TX7) (N := 35) hx hb hU uin7 hown hK hP 0 rfl rfl 6 (by decide) (hU _ U975) (fun _ h9 => h9) rfl dX7_isBetween_8 ?_
  refine lv_iload_n hx hb dX7_isBetween_11 rfl (lv_at hl 2 rfl) ?_
  obtain ⟨g_2, hf⟩ := gd_of hf
  refine va_iald hx hb hK hP 6 0 rfl rfl (inB_vp g_2) dX7_isBetween_12 ?_
  refine va_mmin (rest := [.int x3]) (x := (sm 7 x1.toNatClampNeg)) (y := (sm 7 x2.toNatClampNeg)) hx hb (hml.trans hl.1.symm) hown (hU _ U1151) (hU _ U454) (hU _ U93) (hU _ U455) (Nat.le_of_ble_eq_true rfl) (Nat.le_of_ble_eq_true rfl) (Nat.zero_le _) (Nat.zero_le _) dX7_isBetween_13 ?_
  refine lv_topi (fun u_3 e_u_3 => ?_)
  replace hf := nm_y hf e_u_3
  refine lv_icmp_le (tgt := 42) hx hb dX7_isBetween_16 (by decide) (fun c_4 => ?_) (fun c_4 => ?_)
  · replace hf := ite_p c_4 hf
    refine lv_iconst (v := 0) hx hb dX7_isBetween_42 (by decide) ?_
    obtain rfl := Option.some.inj hf
    exact kt_zret C0 (by decide) hP hS dX7_isBetween_43
  · replace hf := ite_n c_4 hf
    refine lv_iload_n hx hb dX7_isBetween_19 rfl (lv_at hl 3 rfl) ?_
    refine lv_aload_n hx hb dX7_isBetween_20 rfl (lv_at hl 0 rfl) ?_
    refine va_get (D := γ.1) (ci := 7) (v := .ref (am 7)) (C := RX7) (T := TX7) (N := 35) hx hb hU uin7 hown hK hP 0 rfl rfl 6 (by decide) (hU _ U975) (fun _ h9 => h9) rfl dX7_isBetween_21 ?_
    refine lv_iload_n hx hb dX7_isBetween_24 rfl (lv_at hl 1 rfl) ?_
    obtain ⟨g_5, hf⟩ := gd_of hf
    refine va_iald hx hb hK hP 6 0 rfl rfl (inB_vp g_5) dX7_isBetween_25 ?_
    refine lv_aload_n hx hb dX7_isBetween_26 rfl (lv_at hl 0 rfl) ?_
    refine va_get (D := γ.1) (ci := 7) (v := .ref (am 7)) (C := RX7) (T := TX7) (N := 35) hx hb hU uin7 hown hK hP 0 rfl rfl 6 (by decide) (hU _ U975) (fun _ h9 => h9) rfl dX7_isBetween_27 ?_
    refine lv_iload_n hx hb dX7_isBetween_30 rfl (lv_at hl 2 rfl) ?_
    obtain ⟨g_6, hf⟩ := gd_of hf
    refine va_iald hx hb hK hP 6 0 rfl rfl (inB_vp g_6) dX7_isBetween_31 ?_
    refine va_mmax (rest := [.int x3]) (x := (sm 7 x1.toNatClampNeg)) (y := (sm 7 x2.toNatClampNeg)) hx hb (hml.trans hl.1.symm) hown (hU _ U1183) (hU _ U698) (hU _ U93) (hU _ U699) (Nat.le_of_ble_eq_true rfl) (Nat.le_of_ble_eq_true rfl) (Nat.zero_le _) (Nat.zero_le _) dX7_isBetween_32 ?_
    refine lv_topi (fun u_7 e_u_7 => ?_)
    replace hf := nm_y hf e_u_7
    refine lv_icmp_ge (tgt := 42) hx hb dX7_isBetween_35 (by decide) (fun c_8 => ?_) (fun c_8 => ?_)
    · replace hf := ite_p c_8 hf
      refine lv_iconst (v := 0) hx hb dX7_isBetween_42 (by decide) ?_
      obtain rfl := Option.some.inj hf
      exact kt_zret C0 (by decide) hP hS dX7_isBetween_43
    · replace hf := ite_n c_8 hf
      refine lv_iconst (v := 1) hx hb dX7_isBetween_38 (by decide) ?_
      refine lv_goto (tgt := 43) hx hb dX7_isBetween_39 (by decide) ?_
      obtain rfl := Option.some.inj hf
      exact kt_zret C0 (by decide) hP hS dX7_isBetween_43
set_option maxHeartbeats 4000000 in
set_option maxRecDepth 100000 in
theorem c_X7_isBelow (l : Launch) (γ : Gm) (am : Nat → Nat) {sm : GS} {sq : Nat → Int64} {x1 : Int32} {x2 : Int32} {x3 : Int32} {x4 : Int32} {rv : Int32} (hf : f_X7_isBelow sm x1 x2 x3 x4 = some rv) : Kt l γ yX7_isBelow (Cond.code yX7_isBelow cX7_isBelow 7 (some .boolean) :: U) 0 0 [.ref (am 0), .int x1, .int x2, .int x3, .int x4] (wM γ am sm sq) (some (.int rv)) (wM γ am sm sq) := by
  refine Kt.of (by decide) rfl (Nat.le_of_ble_eq_true rfl) rfl ?_
  intro p e s m below meth c A ls C0 hP hD0 hS hl
  obtain ⟨hx, hb, hml, hown, hts, hr, hlocks, hK, hE, hA⟩ := id C0
  have hU : ∀ w ∈ U, w.before _ s = true := fun w h => hts w (List.mem_cons_of_mem _ h)
  have hD : ∀ (sm : GS) (sq : Nat → Int64), va_D A (wM γ am sm sq) := fun _ _ => hD0.fst rfl
  have hl : lv_has ls 7 [(0, .ref (am 0)), (1, .int x1), (2, .int x2), (3, .int x3), (4, .int x4)] := hl
  unfold f_X7_isBelow at hf
  refine lv_aload_n hx hb dX7_isBelow_0 rfl (lv_at hl 0 rfl) ?_
  refine va_get (D := γ.1) (ci := 7) (v := .ref (am 7)) (C := RX7) (T := TX7) (N := 35) hx hb hU uin7 hown hK hP 0 rfl rfl 6 (by decide) (hU _ U975) (fun _ h9 => h9) rfl dX7_isBelow_1 ?_
  refine lv_iload_n hx hb dX7_isBelow_4 rfl (lv_at hl 2 rfl) ?_
  obtain ⟨g_1, hf⟩ := gd_of hf
  refine va_iald hx hb hK hP 6 0 rfl rfl (inB_vp g_1) dX7_isBelow_5 ?_
  refine lv_aload_n hx hb dX7_isBelow_6 rfl (lv_at hl 0 rfl) ?_
  refine va_get (D := γ.1) (ci := 7) (v := .ref (am 7)) (C := RX7) (T := TX7) (N := 35) hx hb hU uin7 hown hK hP 0 rfl rfl 6 (by decide) (hU _ U975) (fun _ h9 => h9) rfl dX7_isBelow_7 ?_
  refine lv_iload_n hx hb dX7_isBelow_10 rfl (lv_at hl 1 rfl) ?_
  obtain ⟨g_2, hf⟩ := gd_of hf
  refine va_iald hx hb hK hP 6 0 rfl rfl (inB_vp g_2) dX7_isBelow_11 ?_
  refine lv_isub hx hb dX7_isBelow_12 ?_
  refine lv_topi (fun u_3 e_u_3 => ?_)
  replace hf := nm_y hf e_u_3
  refine lv_istore (lv' := [(5, .int u_3), (0, .ref (am 0)), (1, .int x1), (2, .int x2), (3, .int x3), (4, .int x4)]) hx hb dX7_isBelow_13 hl (by decide) rfl (fun ls hl => ?_)
  refine lv_aload_n hx hb dX7_isBelow_15 rfl (lv_at hl 1 rfl) ?_
  refine va_get (D := γ.1) (ci := 7) (v := .ref (am 8)) (C := RX7) (T := TX7) (N := 35) hx hb hU uin7 hown hK hP 0 rfl rfl 7 (by decide) (hU _ U976) (fun _ h9 => h9) rfl dX7_isBelow_16 ?_
  refine lv_iload_n hx hb dX7_isBelow_19 rfl (lv_at hl 2 rfl) ?_
  obtain ⟨g_4, hf⟩ := gd_of hf
  refine va_iald hx hb hK hP 7 0 rfl rfl (inB_vp g_4) dX7_isBelow_20 ?_
  refine lv_iload hx hb dX7_isBelow_21 (lv_at hl 0 rfl) ?_
  refine lv_imul hx hb dX7_isBelow_23 ?_
  refine lv_aload_n hx hb dX7_isBelow_24 rfl (lv_at hl 1 rfl) ?_
  refine va_get (D := γ.1) (ci := 7) (v := .ref (am 8)) (C := RX7) (T := TX7) (N := 35) hx hb hU uin7 hown hK hP 0 rfl rfl 7 (by decide) (hU _ U976) (fun _ h9 => h9) rfl dX7_isBelow_25 ?_
  refine lv_iload_n hx hb dX7_isBelow_28 rfl (lv_at hl 3 rfl) ?_
  obtain ⟨g_5, hf⟩ := gd_of hf
  refine va_iald hx hb hK hP 7 0 rfl rfl (inB_vp g_5) dX7_isBelow_29 ?_
  refine lv_aload_n hx hb dX7_isBelow_30 rfl (lv_at hl 1 rfl) ?_
  refine va_get (D := γ.1) (ci := 7) (v := .ref (am 8)) (C := RX7) (T := TX7) (N := 35) hx hb hU uin7 hown hK hP 0 rfl rfl 7 (by decide) (hU _ U976) (fun _ h9 => h9) rfl dX7_isBelow_31 ?_
  refine lv_iload_n hx hb dX7_isBelow_34 rfl (lv_at hl 2 rfl) ?_
  obtain ⟨g_6, hf⟩ := gd_of hf
  refine va_iald hx hb hK hP 7 0 rfl rfl (inB_vp g_6) dX7_isBelow_35 ?_
  refine lv_isub hx hb dX7_isBelow_36 ?_
  refine lv_iload_n hx hb dX7_isBelow_37 rfl (lv_at hl 4 rfl) ?_
  refine lv_aload_n hx hb dX7_isBelow_38 rfl (lv_at hl 1 rfl) ?_
  refine va_get (D := γ.1) (ci := 7) (v := .ref (am 7)) (C := RX7) (T := TX7) (N := 35) hx hb hU uin7 hown hK hP 0 rfl rfl 6 (by decide) (hU _ U975) (fun _ h9 => h9) rfl dX7_isBelow_39 ?_
  refine lv_iload_n hx hb dX7_isBelow_42 rfl (lv_at hl 2 rfl) ?_
  obtain ⟨g_7, hf⟩ := gd_of hf
  refine va_iald hx hb hK hP 6 0 rfl rfl (inB_vp g_7) dX7_isBelow_43 ?_
  refine lv_isub hx hb dX7_isBelow_44 ?_
  refine lv_imul hx hb dX7_isBelow_45 ?_
  refine lv_iadd hx hb dX7_isBelow_46 ?_
  refine lv_topi (fun u_8 e_u_8 => ?_)
  replace hf := nm_y hf e_u_8
  refine lv_istore (lv' := [(6, .int u_8), (5, .int u_3), (0, .ref (am 0)), (1, .int x1), (2, .int x2), (3, .int x3), (4, .int x4)]) hx hb dX7_isBelow_47 hl (by decide) rfl (fun ls hl => ?_)
  refine lv_iload hx hb dX7_isBelow_49 (lv_at hl 1 rfl) ?_
  refine lv_if_le (tgt := 72) hx hb dX7_isBelow_51 (by decide) (fun c_9 => ?_) (fun c_9 => ?_)
  · replace hf := ite_p c_9 hf
    refine lv_iload hx hb dX7_isBelow_72 (lv_at hl 6 rfl) ?_
    refine lv_iload hx hb dX7_isBelow_74 (lv_at hl 1 rfl) ?_
    refine lv_imul hx hb dX7_isBelow_76 ?_
    refine lv_iload hx hb dX7_isBelow_77 (lv_at hl 0 rfl) ?_
    refine lv_icmp_le (tgt := 86) hx hb dX7_isBelow_79 (by decide) (fun c_10 => ?_) (fun c_10 => ?_)
    · replace hf := ite_p c_10 hf
      refine lv_iconst (v := 0) hx hb dX7_isBelow_86 (by decide) ?_
      obtain rfl := Option.some.inj hf
      exact kt_zret C0 (by decide) hP hS dX7_isBelow_87
    · replace hf := ite_n c_10 hf
      refine lv_iconst (v := 1) hx hb dX7_isBelow_82 (by decide) ?_
      refine lv_goto (tgt := 87) hx hb dX7_isBelow_83 (by decide) ?_
      obtain rfl := Option.some.inj hf
      exact kt_zret C0 (by decide) hP hS dX7_isBelow_87
  · replace hf := ite_n c_9 hf
    refine lv_iload hx hb dX7_isBelow_54 (lv_at hl 6 rfl) ?_
    refine lv_iload hx hb dX7_isBelow_56 (lv_at hl 1 rfl) ?_
    refine lv_imul hx hb dX7_isBelow_58 ?_
    refine lv_iload hx hb dX7_isBelow_59 (lv_at hl 0 rfl) ?_
    refine lv_icmp_ge (tgt := 68) hx hb dX7_isBelow_61 (by decide) (fun c_11 => ?_) (fun c_11 => ?_)
    · replace hf := ite_p c_11 hf
      refine lv_iconst (v := 0) hx hb dX7_isBelow_68 (by decide) ?_
      refine lv_goto (tgt := 87) hx hb dX7_isBelow_69 (by decide) ?_
      obtain rfl := Option.some.inj hf
      exact kt_zret C0 (by decide) hP hS dX7_isBelow_87
    · replace hf := ite_n c_11 hf
      refine lv_iconst (v := 1) hx hb dX7_isBelow_64 (by decide) ?_
      refine lv_goto (tgt := 87) hx hb dX7_isBelow_65 (by decide) ?_
      obtain rfl := Option.some.inj hf
      exact kt_zret C0 (by decide) hP hS dX7_isBelow_87
