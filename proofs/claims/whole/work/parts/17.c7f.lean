set_option maxHeartbeats 4000000 in
set_option maxRecDepth 100000 in
theorem c_X7_lacks (l : Launch) (γ : Gm) (am : Nat → Nat) {sm : GS} {sq : Nat → Int64} {x1 : Int32} {rv : Int32} {sm_z : GS} (hf : f_X7_lacks sm x1 = some (rv, sm_z)) : Kt l γ yX7_lacks (Cond.code yX7_lacks cX7_lacks 2 (some .int) :: U) 6 139 [.ref (am 0), .int x1] (wM γ am sm sq) (some (.int rv)) (wM γ am sm_z sq) := by
  refine Kt.of (by decide) rfl (Nat.le_of_ble_eq_true rfl) rfl ?_
  intro p e s m below meth c A ls C0 hP hD0 hS hl
  obtain ⟨hx, hb, hml, hown, hts, hr, hlocks, hK, hE, hA⟩ := id C0
  have hU : ∀ w ∈ U, w.before _ s = true := fun w h => hts w (List.mem_cons_of_mem _ h)
  have hD : ∀ (sm : GS) (sq : Nat → Int64), va_D A (wM γ am sm sq) := fun _ _ => hD0.fst rfl
  have hl : lv_has ls 2 [(0, .ref (am 0)), (1, .int x1)] := hl
  have J32 : ∀ (sm_4 : GS) (H : Heap) (locs : List Loc) (ls : Array Slot), f_X7_lacks_J32 sm_4 = some (rv, sm_z) → va_P γ.1 vwCl (wM γ am sm_4 sq) H → va_S A s.heap H locs → lv_has ls 2 [(0, .ref (am 0))] → W p l e (rmK 6 139) s m ([.ref (am 0), .int x1] : List Value).toArray below meth c H locs 0 0 (MQ below (KQ γ A (some (.int rv)) (wM γ am sm_z sq)) ([.ref (am 0), .int x1] : List Value).toArray s 0 0 A) (F0 m 32 ls []) := by
    intro sm_4 H locs ls hf hP hS hl
    unfold f_X7_lacks_J32 at hf
    refine lv_aload_n hx hb dX7_lacks_32 rfl (lv_at hl 0 rfl) ?_
    refine lv_bipush (v := -5) hx hb dX7_lacks_33 (by decide) ?_
    obtain ⟨r_5, sm_6, hg_7, hf⟩ := bd2_of hf
    refine kt_V0 (As := [.int (-5 : Int32)]) (rest := []) (st1 := [.int r_5]) (b := am 0) C0 (c_X7_no l γ am hg_7) (cxV (nA := 1) hts goodU U1082 U1084 U30 U91 U1085 (by decide +kernel) ⟨Nat.le_of_ble_eq_true rfl, Nat.le_of_ble_eq_true rfl⟩) hP (hD _ _) hS hl dX7_lacks_35 0 7 rfl rfl rfl rfl (Nat.le_of_ble_eq_true rfl) rfl rfl (fun H locs hP hS => ?_)
    obtain ⟨rfl, rfl⟩ := rt2 hf
    exact kt_iret C0 hP hS dX7_lacks_38
  have J39 : ∀ (x1_12 : Int32) (sm_13 : GS) (H : Heap) (locs : List Loc) (ls : Array Slot), f_X7_lacks_J39 x1_12 sm_13 = some (rv, sm_z) → va_P γ.1 vwCl (wM γ am sm_13 sq) H → va_S A s.heap H locs → lv_has ls 2 [(0, .ref (am 0)), (1, .int x1_12)] → W p l e (rmK 6 139) s m ([.ref (am 0), .int x1] : List Value).toArray below meth c H locs 0 0 (MQ below (KQ γ A (some (.int rv)) (wM γ am sm_z sq)) ([.ref (am 0), .int x1] : List Value).toArray s 0 0 A) (F0 m 39 ls []) := by
    intro x1_12 sm_13 H locs ls hf hP hS hl
    unfold f_X7_lacks_J39 at hf
    refine lv_iload_n hx hb dX7_lacks_39 rfl (lv_at hl 1 rfl) ?_
    refine lv_if_ne (tgt := 50) hx hb dX7_lacks_40 (by decide) (fun c_14 => ?_) (fun c_14 => ?_)
    · replace hf := ite_n c_14 hf
      refine lv_aload_n hx hb dX7_lacks_50 rfl (lv_at hl 0 rfl) ?_
      obtain ⟨r_15, sm_16, hg_17, hf⟩ := bd2_of hf
      refine kt_V0 (As := []) (rest := []) (st1 := [.int r_15]) (b := am 0) C0 (c_X7_saved l γ am hg_17) (cxV (nA := 0) hts goodU U1409 U1411 U74 U91 U1412 (by decide +kernel) ⟨Nat.le_of_ble_eq_true rfl, Nat.le_of_ble_eq_true rfl⟩) hP (hD _ _) hS hl dX7_lacks_51 0 7 rfl rfl rfl rfl (Nat.le_of_ble_eq_true rfl) rfl rfl (fun H locs hP hS => ?_)
      obtain ⟨rfl, rfl⟩ := rt2 hf
      exact kt_iret C0 hP hS dX7_lacks_54
    · replace hf := ite_p c_14 hf
      refine lv_aload_n hx hb dX7_lacks_43 rfl (lv_at hl 0 rfl) ?_
      obtain ⟨r_18, sm_19, hg_20, hf⟩ := bd2_of hf
      refine kt_V0 (As := []) (rest := []) (st1 := [.int r_18]) (b := am 0) C0 (c_X7_poorest l γ am hg_20) (cxV (nA := 0) hts goodU U1405 U1407 U73 U91 U1408 (by decide +kernel) ⟨Nat.le_of_ble_eq_true rfl, Nat.le_of_ble_eq_true rfl⟩) hP (hD _ _) hS hl dX7_lacks_44 0 7 rfl rfl rfl rfl (Nat.le_of_ble_eq_true rfl) rfl rfl (fun H locs hP hS => ?_)
      refine lv_goto (tgt := 54) hx hb dX7_lacks_47 (by decide) ?_
      obtain ⟨rfl, rfl⟩ := rt2 hf
      exact kt_iret C0 hP hS dX7_lacks_54
  have J20 : ∀ (x1_9 : Int32) (sm_10 : GS) (H : Heap) (locs : List Loc) (ls : Array Slot), f_X7_lacks_J20 x1_9 sm_10 = some (rv, sm_z) → va_P γ.1 vwCl (wM γ am sm_10 sq) H → va_S A s.heap H locs → lv_has ls 2 [(0, .ref (am 0)), (1, .int x1_9)] → W p l e (rmK 6 139) s m ([.ref (am 0), .int x1] : List Value).toArray below meth c H locs 0 0 (MQ below (KQ γ A (some (.int rv)) (wM γ am sm_z sq)) ([.ref (am 0), .int x1] : List Value).toArray s 0 0 A) (F0 m 20 ls []) := by
    intro x1_9 sm_10 H locs ls hf hP hS hl
    unfold f_X7_lacks_J20 at hf
    refine lv_iload_n hx hb dX7_lacks_20 rfl (lv_at hl 1 rfl) ?_
    refine lv_iconst (v := 1) hx hb dX7_lacks_21 (by decide) ?_
    refine lv_icmp_ne (tgt := 39) hx hb dX7_lacks_22 (by decide) (fun c_11 => ?_) (fun c_11 => ?_)
    · replace hf := ite_n c_11 hf
      exact J39 x1_9 sm_10 _ _ _ hf hP hS (lv_sub hl [0, 1] rfl)
    · replace hf := ite_p c_11 hf
      refine lv_aload_n hx hb dX7_lacks_25 rfl (lv_at hl 0 rfl) ?_
      refine va_get (D := γ.1) (ci := 7) (v := .int (sm_10 0 3)) (C := RX7) (T := TX7) (N := 35) hx hb hU uin7 hown hK hP 0 rfl rfl 3 (by decide) (hU _ U972) (fun _ h9 => h9) rfl dX7_lacks_26 ?_
      refine lv_if_ne (tgt := 39) hx hb dX7_lacks_29 (by decide) (fun c_21 => ?_) (fun c_21 => ?_)
      · replace hf := ite_n c_21 hf
        exact J39 x1_9 sm_10 _ _ _ hf hP hS (lv_sub hl [0, 1] rfl)
      · replace hf := ite_p c_21 hf
        exact J32 sm_10 _ _ _ hf hP hS (lv_sub hl [0] rfl)
  unfold f_X7_lacks at hf
  refine lv_iload_n hx hb dX7_lacks_0 rfl (lv_at hl 1 rfl) ?_
  refine lv_iconst (v := 0) hx hb dX7_lacks_1 (by decide) ?_
  refine lv_iconst (v := 1) hx hb dX7_lacks_2 (by decide) ?_
  obtain ⟨r_1, hg_2, hf⟩ := bd_of hf
  refine kt_SF (As := [.int x1, .int (0 : Int32), .int (1 : Int32)]) (rest := []) (st1 := [.int r_1]) (wc' := wM γ am sm sq) C0 (c_X7_within l γ hg_2) (cxS (nA := 3) hts goodU U1079 U1080 U91 U1081 (by decide +kernel) ⟨Nat.le_of_ble_eq_true rfl, Nat.le_of_ble_eq_true rfl⟩) hP (hD _ _) hS hl dX7_lacks_3 foc_nil rfl (Nat.le_of_ble_eq_true rfl) rfl rfl (fun H locs hP hS => ?_)
  refine lv_if_eq (tgt := 32) hx hb dX7_lacks_6 (by decide) (fun c_3 => ?_) (fun c_3 => ?_)
  · replace hf := ite_p c_3 hf
    exact J32 sm _ _ _ hf hP hS (lv_sub hl [0] rfl)
  · replace hf := ite_n c_3 hf
    refine lv_iload_n hx hb dX7_lacks_9 rfl (lv_at hl 1 rfl) ?_
    refine lv_if_ne (tgt := 20) hx hb dX7_lacks_10 (by decide) (fun c_8 => ?_) (fun c_8 => ?_)
    · replace hf := ite_n c_8 hf
      exact J20 x1 sm _ _ _ hf hP hS (lv_sub hl [0, 1] rfl)
    · replace hf := ite_p c_8 hf
      refine lv_aload_n hx hb dX7_lacks_13 rfl (lv_at hl 0 rfl) ?_
      refine va_get (D := γ.1) (ci := 7) (v := .int (sm 0 14)) (C := RX7) (T := TX7) (N := 35) hx hb hU uin7 hown hK hP 0 rfl rfl 14 (by decide) (hU _ U983) (fun _ h9 => h9) rfl dX7_lacks_14 ?_
      refine lv_if_eq (tgt := 32) hx hb dX7_lacks_17 (by decide) (fun c_22 => ?_) (fun c_22 => ?_)
      · replace hf := ite_p c_22 hf
        exact J32 sm _ _ _ hf hP hS (lv_sub hl [0] rfl)
      · replace hf := ite_n c_22 hf
        exact J20 x1 sm _ _ _ hf hP hS (lv_sub hl [0, 1] rfl)
set_option maxHeartbeats 4000000 in
set_option maxRecDepth 100000 in
theorem c_X7_spared (l : Launch) (γ : Gm) (am : Nat → Nat) {sm : GS} {sq : Nat → Int64} {x1 : Int32} {x2 : Int32} {rv : Int32} {sm_z : GS} (hf : f_X7_spared sm x1 x2 = some (rv, sm_z)) : Kt l γ yX7_spared (Cond.code yX7_spared cX7_spared 5 (some .int) :: U) 6 135 [.ref (am 0), .int x1, .int x2] (wM γ am sm sq) (some (.int rv)) (wM γ am sm_z sq) := by
  refine Kt.of (by decide) rfl (Nat.le_of_ble_eq_true rfl) rfl ?_
  intro p e s m below meth c A ls C0 hP hD0 hS hl
  obtain ⟨hx, hb, hml, hown, hts, hr, hlocks, hK, hE, hA⟩ := id C0
  have hU : ∀ w ∈ U, w.before _ s = true := fun w h => hts w (List.mem_cons_of_mem _ h)
  have hD : ∀ (sm : GS) (sq : Nat → Int64), va_D A (wM γ am sm sq) := fun _ _ => hD0.fst rfl
  have hl : lv_has ls 5 [(0, .ref (am 0)), (1, .int x1), (2, .int x2)] := hl
  have J26 : ∀ (sm_5 : GS) (H : Heap) (locs : List Loc) (ls : Array Slot), f_X7_spared_J26 sm_5 = some (rv, sm_z) → va_P γ.1 vwCl (wM γ am sm_5 sq) H → va_S A s.heap H locs → lv_has ls 5 [(0, .ref (am 0))] → W p l e (rmK 6 135) s m ([.ref (am 0), .int x1, .int x2] : List Value).toArray below meth c H locs 0 0 (MQ below (KQ γ A (some (.int rv)) (wM γ am sm_z sq)) ([.ref (am 0), .int x1, .int x2] : List Value).toArray s 0 0 A) (F0 m 26 ls []) := by
    intro sm_5 H locs ls hf hP hS hl
    unfold f_X7_spared_J26 at hf
    refine lv_aload_n hx hb dX7_spared_26 rfl (lv_at hl 0 rfl) ?_
    refine lv_bipush (v := -6) hx hb dX7_spared_27 (by decide) ?_
    obtain ⟨r_6, sm_7, hg_8, hf⟩ := bd2_of hf
    refine kt_V0 (As := [.int (-6 : Int32)]) (rest := []) (st1 := [.int r_6]) (b := am 0) C0 (c_X7_no10 l γ am hg_8) (cxV (nA := 1) hts goodU U1292 U1294 U61 U91 U1295 (by decide +kernel) ⟨Nat.le_of_ble_eq_true rfl, Nat.le_of_ble_eq_true rfl⟩) hP (hD _ _) hS hl dX7_spared_29 0 7 rfl rfl rfl rfl (Nat.le_of_ble_eq_true rfl) rfl rfl (fun H locs hP hS => ?_)
    obtain ⟨rfl, rfl⟩ := rt2 hf
    exact kt_iret C0 hP hS dX7_spared_32
  have J67 : ∀ (x1_24 : Int32) (x2_25 : Int32) (x3_26 : Int32) (x4_27 : Int32) (sm_28 : GS) (K39 : Int32 → Int32 → GS → Option (Int32 × GS)) (HK39 : ∀ (z3 : Int32) (z4 : Int32) (zsm : GS) (H : Heap) (locs : List Loc) (ls : Array Slot), K39 z3 z4 zsm = some (rv, sm_z) → va_P γ.1 vwCl (wM γ am zsm sq) H → va_S A s.heap H locs → lv_has ls 5 [(0, .ref (am 0)), (1, .int x1_24), (2, .int x2_25), (3, .int z3), (4, .int z4)] → W p l e (rmK 6 135) s m ([.ref (am 0), .int x1, .int x2] : List Value).toArray below meth c H locs 0 0 (MQ below (KQ γ A (some (.int rv)) (wM γ am sm_z sq)) ([.ref (am 0), .int x1, .int x2] : List Value).toArray s 0 0 A) (F0 m 39 ls [])) (H : Heap) (locs : List Loc) (ls : Array Slot), f_X7_spared_J67 x3_26 x4_27 sm_28 K39 = some (rv, sm_z) → va_P γ.1 vwCl (wM γ am sm_28 sq) H → va_S A s.heap H locs → lv_has ls 5 [(0, .ref (am 0)), (1, .int x1_24), (2, .int x2_25), (3, .int x3_26), (4, .int x4_27)] → W p l e (rmK 6 135) s m ([.ref (am 0), .int x1, .int x2] : List Value).toArray below meth c H locs 0 0 (MQ below (KQ γ A (some (.int rv)) (wM γ am sm_z sq)) ([.ref (am 0), .int x1, .int x2] : List Value).toArray s 0 0 A) (F0 m 67 ls []) := by
    intro x1_24 x2_25 x3_26 x4_27 sm_28 K39 HK39 H locs ls hf hP hS hl
    unfold f_X7_spared_J67 at hf
    refine lv_aload_n hx hb dX7_spared_67 rfl (lv_at hl 0 rfl) ?_
    refine lv_dup hx hb dX7_spared_68 rfl ?_
    refine va_get (D := γ.1) (ci := 7) (v := .int (sm_28 0 17)) (C := RX7) (T := TX7) (N := 35) hx hb hU uin7 hown hK hP 0 rfl rfl 17 (by decide) (hU _ U986) (fun _ h9 => h9) rfl dX7_spared_69 ?_
    refine lv_iload hx hb dX7_spared_72 (lv_at hl 4 rfl) ?_
    refine lv_isub hx hb dX7_spared_74 ?_
    refine lv_topi (fun u_29 e_u_29 => ?_)
    replace hf := nm_y hf e_u_29
    refine va_put (D := γ.1) (ci := 7) (v := .int u_29) (ty := .int) (C := RX7) (T := TX7) (N := 35) hx hb hU uin7 tyX7 tyX7_ok nmX7 hown hK hP (hD _ _) hS 0 rfl rfl 17 (by decide) (hU _ U986) (fun _ h9 => h9) rfl (by decide +kernel) rfl rfl (Nat.le_of_ble_eq_true rfl) dX7_spared_75 (fun H locs hP _ hS => ?_)
    obtain ⟨sm_30, e_sm_30, hf⟩ := nm_of hf
    replace hP : va_P γ.1 vwCl (wM γ am sm_30 sq) H := by rw [e_sm_30]; exact hP
    obtain ⟨x4_31, e_x4_31⟩ : ∃ y : Int32, y = x4_27 + (-1 : Int32) := ⟨_, rfl⟩
    replace hf := nm_y hf e_x4_31
    refine lv_iinc (v := x4_31) (lv' := [(4, .int x4_31), (0, .ref (am 0)), (1, .int x1_24), (2, .int x2_25), (3, .int x3_26)]) hx hb dX7_spared_78 hl (k := 4) rfl (by rw [e_x4_31]; rfl) (by decide) rfl (fun ls hl => ?_)
    refine lv_goto (tgt := 39) hx hb dX7_spared_81 (by decide) ?_
    exact HK39 x3_26 x4_31 sm_30 _ _ _ hf hP hS (lv_sub hl [1, 2, 3, 4, 0] rfl)
  have L39 : ∀ (x1_12 : Int32) (x2_13 : Int32) (n : Nat) (x3_14 : Int32) (x4_15 : Int32) (sm_16 : GS) (H : Heap) (locs : List Loc) (ls : Array Slot), f_X7_spared_L39 x1_12 x2_13 n x3_14 x4_15 sm_16 = some (rv, sm_z) → va_P γ.1 vwCl (wM γ am sm_16 sq) H → va_S A s.heap H locs → lv_has ls 5 [(0, .ref (am 0)), (1, .int x1_12), (2, .int x2_13), (3, .int x3_14), (4, .int x4_15)] → W p l e (rmK 6 135) s m ([.ref (am 0), .int x1, .int x2] : List Value).toArray below meth c H locs 0 0 (MQ below (KQ γ A (some (.int rv)) (wM γ am sm_z sq)) ([.ref (am 0), .int x1, .int x2] : List Value).toArray s 0 0 A) (F0 m 39 ls []) := by
    intro x1_12 x2_13
    intro n
    induction n with
    | zero =>
      intro x3_14 x4_15 sm_16 H locs ls hf
      have hf : none = some _ := hf
      cases hf
    | succ n ih =>
      intro x3_14 x4_15 sm_16 H locs ls hf hP hS hl
      rw [f_X7_spared_L39.eq_2] at hf
      refine lv_iload hx hb dX7_spared_39 (lv_at hl 4 rfl) ?_
      refine lv_if_lt (tgt := 84) hx hb dX7_spared_41 (by decide) (fun c_17 => ?_) (fun c_17 => ?_)
      · replace hf := ite_p c_17 hf
        refine lv_iload_n hx hb dX7_spared_84 rfl (lv_at hl 3 rfl) ?_
        obtain ⟨rfl, rfl⟩ := rt2 hf
        exact kt_iret C0 hP hS dX7_spared_85
      · replace hf := ite_n c_17 hf
        refine lv_aload_n hx hb dX7_spared_44 rfl (lv_at hl 0 rfl) ?_
        refine lv_dup hx hb dX7_spared_45 rfl ?_
        refine va_get (D := γ.1) (ci := 7) (v := .int (sm_16 0 17)) (C := RX7) (T := TX7) (N := 35) hx hb hU uin7 hown hK hP 0 rfl rfl 17 (by decide) (hU _ U986) (fun _ h9 => h9) rfl dX7_spared_46 ?_
        refine lv_iload hx hb dX7_spared_49 (lv_at hl 4 rfl) ?_
        refine lv_iadd hx hb dX7_spared_51 ?_
        refine lv_topi (fun u_18 e_u_18 => ?_)
        replace hf := nm_y hf e_u_18
        refine va_put (D := γ.1) (ci := 7) (v := .int u_18) (ty := .int) (C := RX7) (T := TX7) (N := 35) hx hb hU uin7 tyX7 tyX7_ok nmX7 hown hK hP (hD _ _) hS 0 rfl rfl 17 (by decide) (hU _ U986) (fun _ h9 => h9) rfl (by decide +kernel) rfl rfl (Nat.le_of_ble_eq_true rfl) dX7_spared_52 (fun H locs hP _ hS => ?_)
        obtain ⟨sm_19, e_sm_19, hf⟩ := nm_of hf
        replace hP : va_P γ.1 vwCl (wM γ am sm_19 sq) H := by rw [e_sm_19]; exact hP
        refine lv_aload_n hx hb dX7_spared_55 rfl (lv_at hl 0 rfl) ?_
        refine lv_iload_n hx hb dX7_spared_56 rfl (lv_at hl 1 rfl) ?_
        obtain ⟨r_20, sm_21, hg_22, hf⟩ := bd2_of hf
        refine kt_V0 (As := [.int x1_12]) (rest := []) (st1 := [.int r_20]) (b := am 0) C0 (c_X7_griefOf l γ am hg_22) (cxV (nA := 1) hts goodU U1331 U1333 U65 U91 U1334 (by decide +kernel) ⟨Nat.le_of_ble_eq_true rfl, Nat.le_of_ble_eq_true rfl⟩) hP (hD _ _) hS hl dX7_spared_57 0 7 rfl rfl rfl rfl (Nat.le_of_ble_eq_true rfl) rfl rfl (fun H locs hP hS => ?_)
        refine lv_iload_n hx hb dX7_spared_60 rfl (lv_at hl 2 rfl) ?_
        refine lv_icmp_gt (tgt := 67) hx hb dX7_spared_61 (by decide) (fun c_23 => ?_) (fun c_23 => ?_)
        · replace hf := ite_p c_23 hf
          exact J67 x1_12 x2_13 x3_14 x4_15 sm_21 _ ih _ _ _ hf hP hS (lv_sub hl [0, 1, 2, 3, 4] rfl)
        · replace hf := ite_n c_23 hf
          refine lv_iload hx hb dX7_spared_64 (lv_at hl 4 rfl) ?_
          refine lv_istore_n (lv' := [(3, .int x4_15), (0, .ref (am 0)), (1, .int x1_12), (2, .int x2_13), (4, .int x4_15)]) hx hb dX7_spared_66 rfl hl (by decide) rfl (fun ls hl => ?_)
          exact J67 x1_12 x2_13 x4_15 x4_15 sm_21 _ ih _ _ _ hf hP hS (lv_sub hl [1, 2, 3, 0, 4] rfl)
  unfold f_X7_spared at hf
  refine lv_aload_n hx hb dX7_spared_0 rfl (lv_at hl 0 rfl) ?_
  refine lv_iload_n hx hb dX7_spared_1 rfl (lv_at hl 1 rfl) ?_
  obtain ⟨r_1, hg_2, hf⟩ := bd_of hf
  refine kt_V0 (As := [.int x1]) (rest := []) (st1 := [.int r_1]) (b := am 0) C0 (c_X7_isPeak l γ am hg_2) (cxV (nA := 1) hts goodU U1110 U1112 U33 U91 U1113 (by decide +kernel) ⟨Nat.le_of_ble_eq_true rfl, Nat.le_of_ble_eq_true rfl⟩) hP (hD _ _) hS hl dX7_spared_2 0 7 rfl rfl rfl rfl (Nat.le_of_ble_eq_true rfl) rfl rfl (fun H locs hP hS => ?_)
  refine lv_if_ne (tgt := 14) hx hb dX7_spared_5 (by decide) (fun c_3 => ?_) (fun c_3 => ?_)
  · replace hf := ite_n c_3 hf
    refine lv_iload_n hx hb dX7_spared_14 rfl (lv_at hl 2 rfl) ?_
    refine lv_if_lt (tgt := 26) hx hb dX7_spared_15 (by decide) (fun c_4 => ?_) (fun c_4 => ?_)
    · replace hf := ite_p c_4 hf
      exact J26 sm _ _ _ hf hP hS (lv_sub hl [0] rfl)
    · replace hf := ite_n c_4 hf
      refine lv_aload_n hx hb dX7_spared_18 rfl (lv_at hl 0 rfl) ?_
      refine lv_iload_n hx hb dX7_spared_19 rfl (lv_at hl 1 rfl) ?_
      obtain ⟨r_9, hg_10, hf⟩ := bd_of hf
      refine kt_V0 (As := [.int x1]) (rest := []) (st1 := [.int r_9]) (b := am 0) C0 (c_X7_isThere l γ am hg_10) (cxV (nA := 1) hts goodU U1268 U1270 U57 U91 U1271 (by decide +kernel) ⟨Nat.le_of_ble_eq_true rfl, Nat.le_of_ble_eq_true rfl⟩) hP (hD _ _) hS hl dX7_spared_20 0 7 rfl rfl rfl rfl (Nat.le_of_ble_eq_true rfl) rfl rfl (fun H locs hP hS => ?_)
      refine lv_if_ne (tgt := 33) hx hb dX7_spared_23 (by decide) (fun c_11 => ?_) (fun c_11 => ?_)
      · replace hf := ite_n c_11 hf
        refine lv_iconst (v := -1) hx hb dX7_spared_33 (by decide) ?_
        refine lv_istore_n (lv' := [(3, .int (-1 : Int32)), (0, .ref (am 0)), (1, .int x1), (2, .int x2)]) hx hb dX7_spared_34 rfl hl (by decide) rfl (fun ls hl => ?_)
        refine lv_bipush (v := 99) hx hb dX7_spared_35 (by decide) ?_
        refine lv_istore (lv' := [(4, .int (99 : Int32)), (3, .int (-1 : Int32)), (0, .ref (am 0)), (1, .int x1), (2, .int x2)]) hx hb dX7_spared_37 hl (by decide) rfl (fun ls hl => ?_)
        exact L39 x1 x2 FU (-1 : Int32) (99 : Int32) sm _ _ _ hf hP hS (lv_sub hl [2, 3, 4, 1, 0] rfl)
      · replace hf := ite_p c_11 hf
        exact J26 sm _ _ _ hf hP hS (lv_sub hl [0] rfl)
  · replace hf := ite_p c_3 hf
    refine lv_aload_n hx hb dX7_spared_8 rfl (lv_at hl 0 rfl) ?_
    refine lv_iconst (v := -1) hx hb dX7_spared_9 (by decide) ?_
    obtain ⟨r_32, sm_33, hg_34, hf⟩ := bd2_of hf
    refine kt_V0 (As := [.int (-1 : Int32)]) (rest := []) (st1 := [.int r_32]) (b := am 0) C0 (c_X7_no10 l γ am hg_34) (cxV (nA := 1) hts goodU U1292 U1294 U61 U91 U1295 (by decide +kernel) ⟨Nat.le_of_ble_eq_true rfl, Nat.le_of_ble_eq_true rfl⟩) hP (hD _ _) hS hl dX7_spared_10 0 7 rfl rfl rfl rfl (Nat.le_of_ble_eq_true rfl) rfl rfl (fun H locs hP hS => ?_)
    obtain ⟨rfl, rfl⟩ := rt2 hf
    exact kt_iret C0 hP hS dX7_spared_13
set_option maxHeartbeats 4000000 in
set_option maxRecDepth 100000 in
theorem c_X7_noTakings (l : Launch) (γ : Gm) (am : Nat → Nat) {sm : GS} {sq : Nat → Int64} {x1 : Int32} {x2 : Int32} {rv : Int32} (hf : f_X7_noTakings sm x1 x2 = some rv) : Kt l γ yX7_noTakings (Cond.code yX7_noTakings cX7_noTakings 4 (some .int) :: U) 2 43 [.ref (am 0), .int x1, .int x2] (wM γ am sm sq) (some (.int rv)) (wM γ am sm sq) := by
  refine Kt.of (by decide) rfl (Nat.le_of_ble_eq_true rfl) rfl ?_
  intro p e s m below meth c A ls C0 hP hD0 hS hl
  obtain ⟨hx, hb, hml, hown, hts, hr, hlocks, hK, hE, hA⟩ := id C0
  have hU : ∀ w ∈ U, w.before _ s = true := fun w h => hts w (List.mem_cons_of_mem _ h)
  have hD : ∀ (sm : GS) (sq : Nat → Int64), va_D A (wM γ am sm sq) := fun _ _ => hD0.fst rfl
  have hl : lv_has ls 4 [(0, .ref (am 0)), (1, .int x1), (2, .int x2)] := hl
  unfold f_X7_noTakings at hf
  refine lv_aload_n hx hb dX7_noTakings_0 rfl (lv_at hl 0 rfl) ?_
  refine lv_iload_n hx hb dX7_noTakings_1 rfl (lv_at hl 1 rfl) ?_
  obtain ⟨r_1, hg_2, hf⟩ := bd_of hf
  refine kt_V0 (As := [.int x1]) (rest := []) (st1 := [.int r_1]) (b := am 0) C0 (c_X7_noRow l γ am hg_2) (cxV (nA := 1) hts goodU U1090 U1092 U31 U91 U1093 (by decide +kernel) ⟨Nat.le_of_ble_eq_true rfl, Nat.le_of_ble_eq_true rfl⟩) hP (hD _ _) hS hl dX7_noTakings_2 0 7 rfl rfl rfl rfl (Nat.le_of_ble_eq_true rfl) rfl rfl (fun H locs hP hS => ?_)
  refine lv_istore_n (lv' := [(3, .int r_1), (0, .ref (am 0)), (1, .int x1), (2, .int x2)]) hx hb dX7_noTakings_5 rfl hl (by decide) rfl (fun ls hl => ?_)
  refine lv_iload_n hx hb dX7_noTakings_6 rfl (lv_at hl 0 rfl) ?_
  refine lv_if_ge (tgt := 12) hx hb dX7_noTakings_7 (by decide) (fun c_3 => ?_) (fun c_3 => ?_)
  · replace hf := ite_p c_3 hf
    refine lv_iload_n hx hb dX7_noTakings_12 rfl (lv_at hl 3 rfl) ?_
    refine lv_if_ge (tgt := 19) hx hb dX7_noTakings_13 (by decide) (fun c_4 => ?_) (fun c_4 => ?_)
    · replace hf := ite_p c_4 hf
      refine lv_iload_n hx hb dX7_noTakings_19 rfl (lv_at hl 3 rfl) ?_
      refine lv_aload_n hx hb dX7_noTakings_20 rfl (lv_at hl 1 rfl) ?_
      refine va_get (D := γ.1) (ci := 7) (v := .ref (am 2)) (C := RX7) (T := TX7) (N := 35) hx hb hU uin7 hown hK hP 0 rfl rfl 1 (by decide) (hU _ U970) (fun _ h9 => h9) rfl dX7_noTakings_21 ?_
      refine lv_iload_n hx hb dX7_noTakings_24 rfl (lv_at hl 2 rfl) ?_
      obtain ⟨g_5, hf⟩ := gd_of hf
      refine va_iald hx hb hK hP 2 0 rfl rfl (inB_vp g_5) dX7_noTakings_25 ?_
      refine lv_icmp_le (tgt := 32) hx hb dX7_noTakings_26 (by decide) (fun c_6 => ?_) (fun c_6 => ?_)
      · replace hf := ite_p c_6 hf
        refine lv_iload_n hx hb dX7_noTakings_32 rfl (lv_at hl 3 rfl) ?_
        refine lv_bipush (v := 20) hx hb dX7_noTakings_33 (by decide) ?_
        refine lv_icmp_le (tgt := 43) hx hb dX7_noTakings_35 (by decide) (fun c_7 => ?_) (fun c_7 => ?_)
        · replace hf := ite_p c_7 hf
          refine lv_iconst (v := 0) hx hb dX7_noTakings_43 (by decide) ?_
          obtain rfl := Option.some.inj hf
          exact kt_iret C0 hP hS dX7_noTakings_44
        · replace hf := ite_n c_7 hf
          refine lv_bipush (v := -6) hx hb dX7_noTakings_38 (by decide) ?_
          refine lv_goto (tgt := 44) hx hb dX7_noTakings_40 (by decide) ?_
          obtain rfl := Option.some.inj hf
          exact kt_iret C0 hP hS dX7_noTakings_44
      · replace hf := ite_n c_6 hf
        refine lv_bipush (v := -5) hx hb dX7_noTakings_29 (by decide) ?_
        obtain rfl := Option.some.inj hf
        exact kt_iret C0 hP hS dX7_noTakings_31
    · replace hf := ite_n c_4 hf
      refine lv_bipush (v := -4) hx hb dX7_noTakings_16 (by decide) ?_
      obtain rfl := Option.some.inj hf
      exact kt_iret C0 hP hS dX7_noTakings_18
  · replace hf := ite_n c_3 hf
    refine lv_iload_n hx hb dX7_noTakings_10 rfl (lv_at hl 0 rfl) ?_
    obtain rfl := Option.some.inj hf
    exact kt_iret C0 hP hS dX7_noTakings_11
set_option maxHeartbeats 4000000 in
set_option maxRecDepth 100000 in
theorem c_X7_lived (l : Launch) (γ : Gm) (am : Nat → Nat) {sm : GS} {sq : Nat → Int64} {x1 : Int32} {x2 : Int32} {rv : Int32} {sm_z : GS} (hf : f_X7_lived sm sq x1 x2 = some (rv, sm_z)) : Kt l γ yX7_lived (Cond.code yX7_lived cX7_lived 5 (some .int) :: U) 5 113 [.ref (am 0), .int x1, .int x2] (wM γ am sm sq) (some (.int rv)) (wM γ am sm_z sq) := by
  refine Kt.of (by decide) rfl (Nat.le_of_ble_eq_true rfl) rfl ?_
  intro p e s m below meth c A ls C0 hP hD0 hS hl
  obtain ⟨hx, hb, hml, hown, hts, hr, hlocks, hK, hE, hA⟩ := id C0
  have hU : ∀ w ∈ U, w.before _ s = true := fun w h => hts w (List.mem_cons_of_mem _ h)
  have hD : ∀ (sm : GS) (sq : Nat → Int64), va_D A (wM γ am sm sq) := fun _ _ => hD0.fst rfl
  have hl : lv_has ls 5 [(0, .ref (am 0)), (1, .int x1), (2, .int x2)] := hl
  have L7 : ∀ (x1_2 : Int32) (x2_3 : Int32) (n : Nat) (x3_4 : Int32) (sm_5 : GS) (H : Heap) (locs : List Loc) (ls : Array Slot), f_X7_lived_L7 sq x1_2 x2_3 n x3_4 sm_5 = some (rv, sm_z) → va_P γ.1 vwCl (wM γ am sm_5 sq) H → va_S A s.heap H locs → lv_has ls 5 [(0, .ref (am 0)), (1, .int x1_2), (2, .int x2_3), (3, .int x3_4)] → W p l e (rmK 5 113) s m ([.ref (am 0), .int x1, .int x2] : List Value).toArray below meth c H locs 0 0 (MQ below (KQ γ A (some (.int rv)) (wM γ am sm_z sq)) ([.ref (am 0), .int x1, .int x2] : List Value).toArray s 0 0 A) (F0 m 7 ls []) := by
    intro x1_2 x2_3
    intro n
    induction n with
    | zero =>
      intro x3_4 sm_5 H locs ls hf
      have hf : none = some _ := hf
      cases hf
    | succ n ih =>
      intro x3_4 sm_5 H locs ls hf hP hS hl
      rw [f_X7_lived_L7.eq_2] at hf
      refine lv_iload_n hx hb dX7_lived_7 rfl (lv_at hl 3 rfl) ?_
      refine lv_iload_n hx hb dX7_lived_8 rfl (lv_at hl 2 rfl) ?_
      refine lv_icmp_ge (tgt := 85) hx hb dX7_lived_9 (by decide) (fun c_6 => ?_) (fun c_6 => ?_)
      · replace hf := ite_p c_6 hf
        refine lv_iconst (v := -1) hx hb dX7_lived_85 (by decide) ?_
        obtain ⟨rfl, rfl⟩ := rt2 hf
        exact kt_iret C0 hP hS dX7_lived_86
      · replace hf := ite_n c_6 hf
        refine lv_aload_n hx hb dX7_lived_12 rfl (lv_at hl 0 rfl) ?_
        refine lv_iload_n hx hb dX7_lived_13 rfl (lv_at hl 1 rfl) ?_
        refine lv_iload_n hx hb dX7_lived_14 rfl (lv_at hl 3 rfl) ?_
        obtain ⟨r_7, hg_8, hf⟩ := bd_of hf
        refine kt_V0 (As := [.int x1_2, .int x3_4]) (rest := []) (st1 := [.int r_7]) (b := am 0) C0 (c_X7_told l γ am hg_8) (cxV (nA := 2) hts goodU U1372 U1374 U69 U91 U1375 (by decide +kernel) ⟨Nat.le_of_ble_eq_true rfl, Nat.le_of_ble_eq_true rfl⟩) hP (hD _ _) hS hl dX7_lived_15 0 7 rfl rfl rfl rfl (Nat.le_of_ble_eq_true rfl) rfl rfl (fun H locs hP hS => ?_)
        refine lv_istore (lv' := [(4, .int r_7), (0, .ref (am 0)), (1, .int x1_2), (2, .int x2_3), (3, .int x3_4)]) hx hb dX7_lived_18 hl (by decide) rfl (fun ls hl => ?_)
        refine lv_iload hx hb dX7_lived_20 (lv_at hl 0 rfl) ?_
        refine lv_bipush (v := 101) hx hb dX7_lived_22 (by decide) ?_
        refine lv_sipush (v := 199) hx hb dX7_lived_24 (by decide) ?_
        obtain ⟨r_9, hg_10, hf⟩ := bd_of hf
        refine kt_SF (As := [.int r_7, .int (101 : Int32), .int (199 : Int32)]) (rest := []) (st1 := [.int r_9]) (wc' := wM γ am sm_5 sq) C0 (c_X7_within l γ hg_10) (cxS (nA := 3) hts goodU U1079 U1080 U91 U1081 (by decide +kernel) ⟨Nat.le_of_ble_eq_true rfl, Nat.le_of_ble_eq_true rfl⟩) hP (hD _ _) hS hl dX7_lived_27 foc_nil rfl (Nat.le_of_ble_eq_true rfl) rfl rfl (fun H locs hP hS => ?_)
        refine lv_if_eq (tgt := 50) hx hb dX7_lived_30 (by decide) (fun c_11 => ?_) (fun c_11 => ?_)
        · replace hf := ite_p c_11 hf
          refine lv_aload_n hx hb dX7_lived_50 rfl (lv_at hl 1 rfl) ?_
          refine lv_iload hx hb dX7_lived_51 (lv_at hl 0 rfl) ?_
          obtain ⟨r_12, hg_13, hf⟩ := bd_of hf
          refine kt_V0 (As := [.int r_7]) (rest := []) (st1 := [.int r_12]) (b := am 0) C0 (c_X7_isThere l γ am hg_13) (cxV (nA := 1) hts goodU U1268 U1270 U57 U91 U1271 (by decide +kernel) ⟨Nat.le_of_ble_eq_true rfl, Nat.le_of_ble_eq_true rfl⟩) hP (hD _ _) hS hl dX7_lived_53 0 7 rfl rfl rfl rfl (Nat.le_of_ble_eq_true rfl) rfl rfl (fun H locs hP hS => ?_)
          refine lv_if_eq (tgt := 77) hx hb dX7_lived_56 (by decide) (fun c_14 => ?_) (fun c_14 => ?_)
          · replace hf := ite_p c_14 hf
            refine lv_iload_n hx hb dX7_lived_77 rfl (lv_at hl 4 rfl) ?_
            obtain ⟨rfl, rfl⟩ := rt2 hf
            exact kt_iret C0 hP hS dX7_lived_78
          · replace hf := ite_n c_14 hf
            refine lv_aload_n hx hb dX7_lived_59 rfl (lv_at hl 1 rfl) ?_
            refine lv_dup hx hb dX7_lived_60 rfl ?_
            refine va_get (D := γ.1) (ci := 7) (v := .int (sm_5 0 34)) (C := RX7) (T := TX7) (N := 35) hx hb hU uin7 hown hK hP 0 rfl rfl 34 (by decide) (hU _ U1003) (fun _ h9 => h9) rfl dX7_lived_61 ?_
            refine lv_aload_n hx hb dX7_lived_64 rfl (lv_at hl 1 rfl) ?_
            refine lv_iload hx hb dX7_lived_65 (lv_at hl 0 rfl) ?_
            obtain ⟨r_15, sm_16, hg_17, hf⟩ := bd2_of hf
            refine kt_V0 (As := [.int r_7]) (rest := [.int (sm_5 0 34), .ref (am 0)]) (st1 := [.int r_15, .int (sm_5 0 34), .ref (am 0)]) (b := am 0) C0 (c_X7_loses l γ am hg_17) (cxV (nA := 1) hts goodU U1272 U1274 U58 U91 U1275 (by decide +kernel) ⟨Nat.le_of_ble_eq_true rfl, Nat.le_of_ble_eq_true rfl⟩) hP (hD _ _) hS hl dX7_lived_67 0 7 rfl rfl rfl rfl (Nat.le_of_ble_eq_true rfl) rfl rfl (fun H locs hP hS => ?_)
            refine lv_iadd hx hb dX7_lived_70 ?_
            refine lv_topi (fun u_18 e_u_18 => ?_)
            replace hf := nm_y hf e_u_18
            refine va_put (D := γ.1) (ci := 7) (v := .int u_18) (ty := .int) (C := RX7) (T := TX7) (N := 35) hx hb hU uin7 tyX7 tyX7_ok nmX7 hown hK hP (hD _ _) hS 0 rfl rfl 34 (by decide) (hU _ U1003) (fun _ h9 => h9) rfl (by decide +kernel) rfl rfl (Nat.le_of_ble_eq_true rfl) dX7_lived_71 (fun H locs hP _ hS => ?_)
            obtain ⟨sm_19, e_sm_19, hf⟩ := nm_of hf
            replace hP : va_P γ.1 vwCl (wM γ am sm_19 sq) H := by rw [e_sm_19]; exact hP
            refine lv_goto (tgt := 79) hx hb dX7_lived_74 (by decide) ?_
            obtain ⟨x3_20, e_x3_20⟩ : ∃ y : Int32, y = x3_4 + (1 : Int32) := ⟨_, rfl⟩
            replace hf := nm_y hf e_x3_20
            refine lv_iinc (v := x3_20) (lv' := [(3, .int x3_20), (4, .int r_7), (0, .ref (am 0)), (1, .int x1_2), (2, .int x2_3)]) hx hb dX7_lived_79 hl (k := 4) rfl (by rw [e_x3_20]; rfl) (by decide) rfl (fun ls hl => ?_)
            refine lv_goto (tgt := 7) hx hb dX7_lived_82 (by decide) ?_
            exact ih x3_20 sm_19 _ _ _ hf hP hS (lv_sub hl [2, 3, 4, 0] rfl)
        · replace hf := ite_n c_11 hf
          refine lv_aload_n hx hb dX7_lived_33 rfl (lv_at hl 1 rfl) ?_
          refine lv_dup hx hb dX7_lived_34 rfl ?_
          refine va_get (D := γ.1) (ci := 7) (v := .int (sm_5 0 17)) (C := RX7) (T := TX7) (N := 35) hx hb hU uin7 hown hK hP 0 rfl rfl 17 (by decide) (hU _ U986) (fun _ h9 => h9) rfl dX7_lived_35 ?_
          refine lv_iload hx hb dX7_lived_38 (lv_at hl 0 rfl) ?_
          refine lv_bipush (v := 100) hx hb dX7_lived_40 (by decide) ?_
          refine lv_isub hx hb dX7_lived_42 ?_
          refine lv_iadd hx hb dX7_lived_43 ?_
          refine lv_topi (fun u_21 e_u_21 => ?_)
          replace hf := nm_y hf e_u_21
          refine va_put (D := γ.1) (ci := 7) (v := .int u_21) (ty := .int) (C := RX7) (T := TX7) (N := 35) hx hb hU uin7 tyX7 tyX7_ok nmX7 hown hK hP (hD _ _) hS 0 rfl rfl 17 (by decide) (hU _ U986) (fun _ h9 => h9) rfl (by decide +kernel) rfl rfl (Nat.le_of_ble_eq_true rfl) dX7_lived_44 (fun H locs hP _ hS => ?_)
          obtain ⟨sm_22, e_sm_22, hf⟩ := nm_of hf
          replace hP : va_P γ.1 vwCl (wM γ am sm_22 sq) H := by rw [e_sm_22]; exact hP
          refine lv_goto (tgt := 79) hx hb dX7_lived_47 (by decide) ?_
          obtain ⟨x3_23, e_x3_23⟩ : ∃ y : Int32, y = x3_4 + (1 : Int32) := ⟨_, rfl⟩
          replace hf := nm_y hf e_x3_23
          refine lv_iinc (v := x3_23) (lv' := [(3, .int x3_23), (4, .int r_7), (0, .ref (am 0)), (1, .int x1_2), (2, .int x2_3)]) hx hb dX7_lived_79 hl (k := 4) rfl (by rw [e_x3_23]; rfl) (by decide) rfl (fun ls hl => ?_)
          refine lv_goto (tgt := 7) hx hb dX7_lived_82 (by decide) ?_
          exact ih x3_23 sm_22 _ _ _ hf hP hS (lv_sub hl [2, 3, 4, 0] rfl)
  unfold f_X7_lived at hf
  refine lv_aload_n hx hb dX7_lived_0 rfl (lv_at hl 0 rfl) ?_
  refine lv_iconst (v := 0) hx hb dX7_lived_1 (by decide) ?_
  refine va_put (D := γ.1) (ci := 7) (v := .int (0 : Int32)) (ty := .int) (C := RX7) (T := TX7) (N := 35) hx hb hU uin7 tyX7 tyX7_ok nmX7 hown hK hP (hD _ _) hS 0 rfl rfl 34 (by decide) (hU _ U1003) (fun _ h9 => h9) rfl (by decide +kernel) rfl rfl (Nat.le_of_ble_eq_true rfl) dX7_lived_2 (fun H locs hP _ hS => ?_)
  obtain ⟨sm_1, e_sm_1, hf⟩ := nm_of hf
  replace hP : va_P γ.1 vwCl (wM γ am sm_1 sq) H := by rw [e_sm_1]; exact hP
  refine lv_iconst (v := 0) hx hb dX7_lived_5 (by decide) ?_
  refine lv_istore_n (lv' := [(3, .int (0 : Int32)), (0, .ref (am 0)), (1, .int x1), (2, .int x2)]) hx hb dX7_lived_6 rfl hl (by decide) rfl (fun ls hl => ?_)
  exact L7 x1 x2 FU (0 : Int32) sm_1 _ _ _ hf hP hS (lv_sub hl [1, 2, 3, 0] rfl)
set_option maxHeartbeats 4000000 in
set_option maxRecDepth 100000 in
theorem c_X7_judge (l : Launch) (γ : Gm) (am : Nat → Nat) {sm : GS} {sq : Nat → Int64} {x1 : Int32} {x2 : Int32} {rv : Int32} {sm_z : GS} (hf : f_X7_judge sm sq x1 x2 = some (rv, sm_z)) : Kt l γ yX7_judge (Cond.code yX7_judge cX7_judge 5 (some .int) :: U) 6 137 [.ref (am 0), .int x1, .int x2] (wM γ am sm sq) (some (.int rv)) (wM γ am sm_z sq) := by
  refine Kt.of (by decide) rfl (Nat.le_of_ble_eq_true rfl) rfl ?_
  intro p e s m below meth c A ls C0 hP hD0 hS hl
  obtain ⟨hx, hb, hml, hown, hts, hr, hlocks, hK, hE, hA⟩ := id C0
  have hU : ∀ w ∈ U, w.before _ s = true := fun w h => hts w (List.mem_cons_of_mem _ h)
  have hD : ∀ (sm : GS) (sq : Nat → Int64), va_D A (wM γ am sm sq) := fun _ _ => hD0.fst rfl
  have hl : lv_has ls 5 [(0, .ref (am 0)), (1, .int x1), (2, .int x2)] := hl
  unfold f_X7_judge at hf
  refine lv_aload_n hx hb dX7_judge_0 rfl (lv_at hl 0 rfl) ?_
  refine lv_iload_n hx hb dX7_judge_1 rfl (lv_at hl 1 rfl) ?_
  refine lv_iload_n hx hb dX7_judge_2 rfl (lv_at hl 2 rfl) ?_
  obtain ⟨r_1, hg_2, hf⟩ := bd_of hf
  refine kt_V0 (As := [.int x1, .int x2]) (rest := []) (st1 := [.int r_1]) (b := am 0) C0 (c_X7_noTakings l γ am hg_2) (cxV (nA := 2) hts goodU U1421 U1423 U75 U91 U1424 (by decide +kernel) ⟨Nat.le_of_ble_eq_true rfl, Nat.le_of_ble_eq_true rfl⟩) hP (hD _ _) hS hl dX7_judge_3 0 7 rfl rfl rfl rfl (Nat.le_of_ble_eq_true rfl) rfl rfl (fun H locs hP hS => ?_)
  refine lv_istore_n (lv' := [(3, .int r_1), (0, .ref (am 0)), (1, .int x1), (2, .int x2)]) hx hb dX7_judge_6 rfl hl (by decide) rfl (fun ls hl => ?_)
  refine lv_iload_n hx hb dX7_judge_7 rfl (lv_at hl 0 rfl) ?_
  refine lv_if_ge (tgt := 17) hx hb dX7_judge_8 (by decide) (fun c_3 => ?_) (fun c_3 => ?_)
  · replace hf := ite_p c_3 hf
    refine lv_aload_n hx hb dX7_judge_17 rfl (lv_at hl 1 rfl) ?_
    refine lv_aload_n hx hb dX7_judge_18 rfl (lv_at hl 1 rfl) ?_
    refine va_get (D := γ.1) (ci := 7) (v := .ref (am 27)) (C := RX7) (T := TX7) (N := 35) hx hb hU uin7 hown hK hP 0 rfl rfl 26 (by decide) (hU _ U995) (fun _ h9 => h9) rfl dX7_judge_19 ?_
    obtain ⟨sm_4, hg_5, hf⟩ := bd_of hf
    refine kt_V0 (As := [.ref (am 27)]) (rest := []) (st1 := []) (b := am 0) C0 (c_X7_keep_27 l γ am hg_5) (cxV (nA := 1) hts goodU U1228 U1230 U49 U91 U1231 (by decide +kernel) ⟨Nat.le_of_ble_eq_true rfl, Nat.le_of_ble_eq_true rfl⟩) hP (hD _ _) hS hl dX7_judge_22 0 7 rfl rfl rfl rfl (Nat.le_of_ble_eq_true rfl) rfl rfl (fun H locs hP hS => ?_)
    refine lv_aload_n hx hb dX7_judge_25 rfl (lv_at hl 1 rfl) ?_
    refine lv_iload_n hx hb dX7_judge_26 rfl (lv_at hl 2 rfl) ?_
    refine lv_iload_n hx hb dX7_judge_27 rfl (lv_at hl 3 rfl) ?_
    obtain ⟨r_6, sm_7, hg_8, hf⟩ := bd2_of hf
    refine kt_V0 (As := [.int x1, .int x2]) (rest := []) (st1 := [.int r_6]) (b := am 0) C0 (c_X7_lived l γ am hg_8) (cxV (nA := 2) hts goodU U1425 U1427 U76 U91 U1428 (by decide +kernel) ⟨Nat.le_of_ble_eq_true rfl, Nat.le_of_ble_eq_true rfl⟩) hP (hD _ _) hS hl dX7_judge_28 0 7 rfl rfl rfl rfl (Nat.le_of_ble_eq_true rfl) rfl rfl (fun H locs hP hS => ?_)
    refine lv_istore (lv' := [(4, .int r_6), (3, .int r_1), (0, .ref (am 0)), (1, .int x1), (2, .int x2)]) hx hb dX7_judge_31 hl (by decide) rfl (fun ls hl => ?_)
    refine lv_aload_n hx hb dX7_judge_33 rfl (lv_at hl 2 rfl) ?_
    refine lv_aload_n hx hb dX7_judge_34 rfl (lv_at hl 2 rfl) ?_
    refine va_get (D := γ.1) (ci := 7) (v := .ref (am 27)) (C := RX7) (T := TX7) (N := 35) hx hb hU uin7 hown hK hP 0 rfl rfl 26 (by decide) (hU _ U995) (fun _ h9 => h9) rfl dX7_judge_35 ?_
    obtain ⟨sm_9, hg_10, hf⟩ := bd_of hf
    refine kt_V0 (As := [.ref (am 27)]) (rest := []) (st1 := []) (b := am 0) C0 (c_X7_again_27 l γ am hg_10) (cxV (nA := 1) hts goodU U1280 U1282 U60 U91 U1283 (by decide +kernel) ⟨Nat.le_of_ble_eq_true rfl, Nat.le_of_ble_eq_true rfl⟩) hP (hD _ _) hS hl dX7_judge_38 0 7 rfl rfl rfl rfl (Nat.le_of_ble_eq_true rfl) rfl rfl (fun H locs hP hS => ?_)
    refine lv_iload hx hb dX7_judge_41 (lv_at hl 0 rfl) ?_
    obtain ⟨rfl, rfl⟩ := rt2 hf
    exact kt_iret C0 hP hS dX7_judge_43
  · replace hf := ite_n c_3 hf
    refine lv_aload_n hx hb dX7_judge_11 rfl (lv_at hl 1 rfl) ?_
    refine lv_iload_n hx hb dX7_judge_12 rfl (lv_at hl 0 rfl) ?_
    obtain ⟨r_11, sm_12, hg_13, hf⟩ := bd2_of hf
    refine kt_V0 (As := [.int r_1]) (rest := []) (st1 := [.int r_11]) (b := am 0) C0 (c_X7_no10 l γ am hg_13) (cxV (nA := 1) hts goodU U1292 U1294 U61 U91 U1295 (by decide +kernel) ⟨Nat.le_of_ble_eq_true rfl, Nat.le_of_ble_eq_true rfl⟩) hP (hD _ _) hS hl dX7_judge_13 0 7 rfl rfl rfl rfl (Nat.le_of_ble_eq_true rfl) rfl rfl (fun H locs hP hS => ?_)
    obtain ⟨rfl, rfl⟩ := rt2 hf
    exact kt_iret C0 hP hS dX7_judge_16
set_option maxHeartbeats 4000000 in
set_option maxRecDepth 100000 in
theorem c_X7_told_ (l : Launch) (γ : Gm) (am : Nat → Nat) {sm : GS} {sq : Nat → Int64} {x1 : Int32} {x2 : Int32} {x3 : Int32} {rv : Int32} {sm_z : GS} (hf : f_X7_told_ sm sq x1 x2 x3 = some (rv, sm_z)) : Kt l γ yX7_told_ (Cond.code yX7_told_ cX7_told_ 7 (some .int) :: U) 6 137 [.ref (am 0), .int x1, .int x2, .int x3] (wM γ am sm sq) (some (.int rv)) (wM γ am sm_z sq) := by
  refine Kt.of (by decide) rfl (Nat.le_of_ble_eq_true rfl) rfl ?_
  intro p e s m below meth c A ls C0 hP hD0 hS hl
  obtain ⟨hx, hb, hml, hown, hts, hr, hlocks, hK, hE, hA⟩ := id C0
  have hU : ∀ w ∈ U, w.before _ s = true := fun w h => hts w (List.mem_cons_of_mem _ h)
  have hD : ∀ (sm : GS) (sq : Nat → Int64), va_D A (wM γ am sm sq) := fun _ _ => hD0.fst rfl
  have hl : lv_has ls 7 [(0, .ref (am 0)), (1, .int x1), (2, .int x2), (3, .int x3)] := hl
  have J98 : ∀ (x5_20 : Int32) (sm_21 : GS) (t0_22 : Int32) (H : Heap) (locs : List Loc) (ls : Array Slot), f_X7_told__J98 x5_20 sm_21 t0_22 = some (rv, sm_z) → va_P γ.1 vwCl (wM γ am sm_21 sq) H → va_S A s.heap H locs → lv_has ls 7 [(0, .ref (am 0)), (5, .int x5_20)] → W p l e (rmK 6 137) s m ([.ref (am 0), .int x1, .int x2, .int x3] : List Value).toArray below meth c H locs 0 0 (MQ below (KQ γ A (some (.int rv)) (wM γ am sm_z sq)) ([.ref (am 0), .int x1, .int x2, .int x3] : List Value).toArray s 0 0 A) (F0 m 98 ls [.int t0_22]) := by
    intro x5_20 sm_21 t0_22 H locs ls hf hP hS hl
    unfold f_X7_told__J98 at hf
    refine lv_istore (lv' := [(6, .int t0_22), (0, .ref (am 0)), (5, .int x5_20)]) hx hb dX7_told__98 hl (by decide) rfl (fun ls hl => ?_)
    refine lv_aload_n hx hb dX7_told__100 rfl (lv_at hl 1 rfl) ?_
    refine lv_aload_n hx hb dX7_told__101 rfl (lv_at hl 1 rfl) ?_
    refine va_get (D := γ.1) (ci := 7) (v := .ref (am 27)) (C := RX7) (T := TX7) (N := 35) hx hb hU uin7 hown hK hP 0 rfl rfl 26 (by decide) (hU _ U995) (fun _ h9 => h9) rfl dX7_told__102 ?_
    obtain ⟨sm_23, hg_24, hf⟩ := bd_of hf
    refine kt_V0 (As := [.ref (am 27)]) (rest := []) (st1 := []) (b := am 0) C0 (c_X7_again_27 l γ am hg_24) (cxV (nA := 1) hts goodU U1280 U1282 U60 U91 U1283 (by decide +kernel) ⟨Nat.le_of_ble_eq_true rfl, Nat.le_of_ble_eq_true rfl⟩) hP (hD _ _) hS hl dX7_told__105 0 7 rfl rfl rfl rfl (Nat.le_of_ble_eq_true rfl) rfl rfl (fun H locs hP hS => ?_)
    refine lv_iload hx hb dX7_told__108 (lv_at hl 2 rfl) ?_
    refine lv_iconst (v := -1) hx hb dX7_told__110 (by decide) ?_
    refine lv_icmp_ne (tgt := 119) hx hb dX7_told__111 (by decide) (fun c_25 => ?_) (fun c_25 => ?_)
    · replace hf := ite_n c_25 hf
      refine lv_aload_n hx hb dX7_told__119 rfl (lv_at hl 1 rfl) ?_
      refine lv_bipush (v := -6) hx hb dX7_told__120 (by decide) ?_
      obtain ⟨r_26, sm_27, hg_28, hf⟩ := bd2_of hf
      refine kt_V0 (As := [.int (-6 : Int32)]) (rest := []) (st1 := [.int r_26]) (b := am 0) C0 (c_X7_no l γ am hg_28) (cxV (nA := 1) hts goodU U1082 U1084 U30 U91 U1085 (by decide +kernel) ⟨Nat.le_of_ble_eq_true rfl, Nat.le_of_ble_eq_true rfl⟩) hP (hD _ _) hS hl dX7_told__122 0 7 rfl rfl rfl rfl (Nat.le_of_ble_eq_true rfl) rfl rfl (fun H locs hP hS => ?_)
      obtain ⟨rfl, rfl⟩ := rt2 hf
      exact kt_iret C0 hP hS dX7_told__125
    · replace hf := ite_p c_25 hf
      refine lv_iload hx hb dX7_told__114 (lv_at hl 0 rfl) ?_
      refine lv_goto (tgt := 125) hx hb dX7_told__116 (by decide) ?_
      obtain ⟨rfl, rfl⟩ := rt2 hf
      exact kt_iret C0 hP hS dX7_told__125
  have J27 : ∀ (x1_4 : Int32) (x2_5 : Int32) (x3_6 : Int32) (x4_7 : Int32) (sm_8 : GS) (H : Heap) (locs : List Loc) (ls : Array Slot), f_X7_told__J27 sq x1_4 x2_5 x3_6 x4_7 sm_8 = some (rv, sm_z) → va_P γ.1 vwCl (wM γ am sm_8 sq) H → va_S A s.heap H locs → lv_has ls 7 [(0, .ref (am 0)), (1, .int x1_4), (2, .int x2_5), (3, .int x3_6), (4, .int x4_7)] → W p l e (rmK 6 137) s m ([.ref (am 0), .int x1, .int x2, .int x3] : List Value).toArray below meth c H locs 0 0 (MQ below (KQ γ A (some (.int rv)) (wM γ am sm_z sq)) ([.ref (am 0), .int x1, .int x2, .int x3] : List Value).toArray s 0 0 A) (F0 m 27 ls []) := by
    intro x1_4 x2_5 x3_6 x4_7 sm_8 H locs ls hf hP hS hl
    unfold f_X7_told__J27 at hf
    refine lv_iload_n hx hb dX7_told__27 rfl (lv_at hl 3 rfl) ?_
    refine lv_iconst (v := 0) hx hb dX7_told__28 (by decide) ?_
    refine lv_iconst (v := 2) hx hb dX7_told__29 (by decide) ?_
    obtain ⟨r_9, hg_10, hf⟩ := bd_of hf
    refine kt_SF (As := [.int x3_6, .int (0 : Int32), .int (2 : Int32)]) (rest := []) (st1 := [.int r_9]) (wc' := wM γ am sm_8 sq) C0 (c_X7_within l γ hg_10) (cxS (nA := 3) hts goodU U1079 U1080 U91 U1081 (by decide +kernel) ⟨Nat.le_of_ble_eq_true rfl, Nat.le_of_ble_eq_true rfl⟩) hP (hD _ _) hS hl dX7_told__30 foc_nil rfl (Nat.le_of_ble_eq_true rfl) rfl rfl (fun H locs hP hS => ?_)
    refine lv_if_ne (tgt := 43) hx hb dX7_told__33 (by decide) (fun c_11 => ?_) (fun c_11 => ?_)
    · replace hf := ite_n c_11 hf
      refine lv_iload hx hb dX7_told__43 (lv_at hl 4 rfl) ?_
      refine lv_if_ge (tgt := 55) hx hb dX7_told__45 (by decide) (fun c_12 => ?_) (fun c_12 => ?_)
      · replace hf := ite_p c_12 hf
        refine lv_aload_n hx hb dX7_told__55 rfl (lv_at hl 0 rfl) ?_
        refine lv_aload_n hx hb dX7_told__56 rfl (lv_at hl 0 rfl) ?_
        refine va_get (D := γ.1) (ci := 7) (v := .ref (am 27)) (C := RX7) (T := TX7) (N := 35) hx hb hU uin7 hown hK hP 0 rfl rfl 26 (by decide) (hU _ U995) (fun _ h9 => h9) rfl dX7_told__57 ?_
        obtain ⟨sm_13, hg_14, hf⟩ := bd_of hf
        refine kt_V0 (As := [.ref (am 27)]) (rest := []) (st1 := []) (b := am 0) C0 (c_X7_keep_27 l γ am hg_14) (cxV (nA := 1) hts goodU U1228 U1230 U49 U91 U1231 (by decide +kernel) ⟨Nat.le_of_ble_eq_true rfl, Nat.le_of_ble_eq_true rfl⟩) hP (hD _ _) hS hl dX7_told__60 0 7 rfl rfl rfl rfl (Nat.le_of_ble_eq_true rfl) rfl rfl (fun H locs hP hS => ?_)
        refine lv_aload_n hx hb dX7_told__63 rfl (lv_at hl 0 rfl) ?_
        refine lv_iload_n hx hb dX7_told__64 rfl (lv_at hl 1 rfl) ?_
        refine lv_iload_n hx hb dX7_told__65 rfl (lv_at hl 2 rfl) ?_
        obtain ⟨r_15, sm_16, hg_17, hf⟩ := bd2_of hf
        refine kt_V0 (As := [.int x1_4, .int x2_5]) (rest := []) (st1 := [.int r_15]) (b := am 0) C0 (c_X7_lived l γ am hg_17) (cxV (nA := 2) hts goodU U1425 U1427 U76 U91 U1428 (by decide +kernel) ⟨Nat.le_of_ble_eq_true rfl, Nat.le_of_ble_eq_true rfl⟩) hP (hD _ _) hS hl dX7_told__66 0 7 rfl rfl rfl rfl (Nat.le_of_ble_eq_true rfl) rfl rfl (fun H locs hP hS => ?_)
        refine lv_istore (lv' := [(5, .int r_15), (0, .ref (am 0)), (1, .int x1_4), (2, .int x2_5), (3, .int x3_6), (4, .int x4_7)]) hx hb dX7_told__69 hl (by decide) rfl (fun ls hl => ?_)
        refine lv_iload_n hx hb dX7_told__71 rfl (lv_at hl 4 rfl) ?_
        refine lv_if_ne (tgt := 82) hx hb dX7_told__72 (by decide) (fun c_18 => ?_) (fun c_18 => ?_)
        · replace hf := ite_n c_18 hf
          refine lv_iload_n hx hb dX7_told__82 rfl (lv_at hl 4 rfl) ?_
          refine lv_iconst (v := 1) hx hb dX7_told__83 (by decide) ?_
          refine lv_icmp_ne (tgt := 94) hx hb dX7_told__84 (by decide) (fun c_19 => ?_) (fun c_19 => ?_)
          · replace hf := ite_n c_19 hf
            refine lv_aload_n hx hb dX7_told__94 rfl (lv_at hl 1 rfl) ?_
            refine va_get (D := γ.1) (ci := 7) (v := .int (sm_16 0 17)) (C := RX7) (T := TX7) (N := 35) hx hb hU uin7 hown hK hP 0 rfl rfl 17 (by decide) (hU _ U986) (fun _ h9 => h9) rfl dX7_told__95 ?_
            exact J98 r_15 sm_16 (sm_16 0 17) _ _ _ hf hP hS (lv_sub hl [1, 0] rfl)
          · replace hf := ite_p c_19 hf
            refine lv_aload_n hx hb dX7_told__87 rfl (lv_at hl 1 rfl) ?_
            obtain ⟨r_29, hg_30, hf⟩ := bd_of hf
            refine kt_V0 (As := []) (rest := []) (st1 := [.int r_29]) (b := am 0) C0 (c_X7_blacks l γ am hg_30) (cxV (nA := 0) hts goodU U1128 U1130 U34 U91 U1131 (by decide +kernel) ⟨Nat.le_of_ble_eq_true rfl, Nat.le_of_ble_eq_true rfl⟩) hP (hD _ _) hS hl dX7_told__88 0 7 rfl rfl rfl rfl (Nat.le_of_ble_eq_true rfl) rfl rfl (fun H locs hP hS => ?_)
            refine lv_goto (tgt := 98) hx hb dX7_told__91 (by decide) ?_
            exact J98 r_15 sm_16 r_29 _ _ _ hf hP hS (lv_sub hl [1, 0] rfl)
        · replace hf := ite_p c_18 hf
          refine lv_aload_n hx hb dX7_told__75 rfl (lv_at hl 1 rfl) ?_
          refine va_get (D := γ.1) (ci := 7) (v := .int (sm_16 0 34)) (C := RX7) (T := TX7) (N := 35) hx hb hU uin7 hown hK hP 0 rfl rfl 34 (by decide) (hU _ U1003) (fun _ h9 => h9) rfl dX7_told__76 ?_
          refine lv_goto (tgt := 98) hx hb dX7_told__79 (by decide) ?_
          exact J98 r_15 sm_16 (sm_16 0 34) _ _ _ hf hP hS (lv_sub hl [1, 0] rfl)
      · replace hf := ite_n c_12 hf
        refine lv_aload_n hx hb dX7_told__48 rfl (lv_at hl 0 rfl) ?_
        refine lv_iload hx hb dX7_told__49 (lv_at hl 4 rfl) ?_
        obtain ⟨r_31, sm_32, hg_33, hf⟩ := bd2_of hf
        refine kt_V0 (As := [.int x4_7]) (rest := []) (st1 := [.int r_31]) (b := am 0) C0 (c_X7_no l γ am hg_33) (cxV (nA := 1) hts goodU U1082 U1084 U30 U91 U1085 (by decide +kernel) ⟨Nat.le_of_ble_eq_true rfl, Nat.le_of_ble_eq_true rfl⟩) hP (hD _ _) hS hl dX7_told__51 0 7 rfl rfl rfl rfl (Nat.le_of_ble_eq_true rfl) rfl rfl (fun H locs hP hS => ?_)
        obtain ⟨rfl, rfl⟩ := rt2 hf
        exact kt_iret C0 hP hS dX7_told__54
    · replace hf := ite_p c_11 hf
      refine lv_aload_n hx hb dX7_told__36 rfl (lv_at hl 0 rfl) ?_
      refine lv_bipush (v := -5) hx hb dX7_told__37 (by decide) ?_
      obtain ⟨r_34, sm_35, hg_36, hf⟩ := bd2_of hf
      refine kt_V0 (As := [.int (-5 : Int32)]) (rest := []) (st1 := [.int r_34]) (b := am 0) C0 (c_X7_no l γ am hg_36) (cxV (nA := 1) hts goodU U1082 U1084 U30 U91 U1085 (by decide +kernel) ⟨Nat.le_of_ble_eq_true rfl, Nat.le_of_ble_eq_true rfl⟩) hP (hD _ _) hS hl dX7_told__39 0 7 rfl rfl rfl rfl (Nat.le_of_ble_eq_true rfl) rfl rfl (fun H locs hP hS => ?_)
      obtain ⟨rfl, rfl⟩ := rt2 hf
      exact kt_iret C0 hP hS dX7_told__42
  unfold f_X7_told_ at hf
  refine lv_aload_n hx hb dX7_told__0 rfl (lv_at hl 0 rfl) ?_
  refine lv_iload_n hx hb dX7_told__1 rfl (lv_at hl 1 rfl) ?_
  refine lv_iload_n hx hb dX7_told__2 rfl (lv_at hl 2 rfl) ?_
  obtain ⟨r_1, hg_2, hf⟩ := bd_of hf
  refine kt_V0 (As := [.int x1, .int x2]) (rest := []) (st1 := [.int r_1]) (b := am 0) C0 (c_X7_noTakings l γ am hg_2) (cxV (nA := 2) hts goodU U1421 U1423 U75 U91 U1424 (by decide +kernel) ⟨Nat.le_of_ble_eq_true rfl, Nat.le_of_ble_eq_true rfl⟩) hP (hD _ _) hS hl dX7_told__3 0 7 rfl rfl rfl rfl (Nat.le_of_ble_eq_true rfl) rfl rfl (fun H locs hP hS => ?_)
  refine lv_istore (lv' := [(4, .int r_1), (0, .ref (am 0)), (1, .int x1), (2, .int x2), (3, .int x3)]) hx hb dX7_told__6 hl (by decide) rfl (fun ls hl => ?_)
  refine lv_iload hx hb dX7_told__8 (lv_at hl 0 rfl) ?_
  refine lv_if_ge (tgt := 27) hx hb dX7_told__10 (by decide) (fun c_3 => ?_) (fun c_3 => ?_)
  · replace hf := ite_p c_3 hf
    exact J27 x1 x2 x3 r_1 sm _ _ _ hf hP hS (lv_sub hl [1, 2, 3, 4, 0] rfl)
  · replace hf := ite_n c_3 hf
    refine lv_iload hx hb dX7_told__13 (lv_at hl 0 rfl) ?_
    refine lv_bipush (v := -6) hx hb dX7_told__15 (by decide) ?_
    refine lv_icmp_le (tgt := 27) hx hb dX7_told__17 (by decide) (fun c_37 => ?_) (fun c_37 => ?_)
    · replace hf := ite_p c_37 hf
      exact J27 x1 x2 x3 r_1 sm _ _ _ hf hP hS (lv_sub hl [1, 2, 3, 4, 0] rfl)
    · replace hf := ite_n c_37 hf
      refine lv_aload_n hx hb dX7_told__20 rfl (lv_at hl 1 rfl) ?_
      refine lv_iload hx hb dX7_told__21 (lv_at hl 0 rfl) ?_
      obtain ⟨r_38, sm_39, hg_40, hf⟩ := bd2_of hf
      refine kt_V0 (As := [.int r_1]) (rest := []) (st1 := [.int r_38]) (b := am 0) C0 (c_X7_no l γ am hg_40) (cxV (nA := 1) hts goodU U1082 U1084 U30 U91 U1085 (by decide +kernel) ⟨Nat.le_of_ble_eq_true rfl, Nat.le_of_ble_eq_true rfl⟩) hP (hD _ _) hS hl dX7_told__23 0 7 rfl rfl rfl rfl (Nat.le_of_ble_eq_true rfl) rfl rfl (fun H locs hP hS => ?_)
      obtain ⟨rfl, rfl⟩ := rt2 hf
      exact kt_iret C0 hP hS dX7_told__26
set_option maxHeartbeats 4000000 in
set_option maxRecDepth 100000 in
theorem c_X7_done (l : Launch) (γ : Gm) (am : Nat → Nat) {sm : GS} {sq : Nat → Int64} {x1 : Int32} {x2 : Int32} {rv : Int32} {sm_z : GS} (hf : f_X7_done sm sq x1 x2 = some (rv, sm_z)) : Kt l γ yX7_done (Cond.code yX7_done cX7_done 4 (some .int) :: U) 6 137 [.ref (am 0), .int x1, .int x2] (wM γ am sm sq) (some (.int rv)) (wM γ am sm_z sq) := by
  refine Kt.of (by decide) rfl (Nat.le_of_ble_eq_true rfl) rfl ?_
  intro p e s m below meth c A ls C0 hP hD0 hS hl
  obtain ⟨hx, hb, hml, hown, hts, hr, hlocks, hK, hE, hA⟩ := id C0
  have hU : ∀ w ∈ U, w.before _ s = true := fun w h => hts w (List.mem_cons_of_mem _ h)
  have hD : ∀ (sm : GS) (sq : Nat → Int64), va_D A (wM γ am sm sq) := fun _ _ => hD0.fst rfl
  have hl : lv_has ls 4 [(0, .ref (am 0)), (1, .int x1), (2, .int x2)] := hl
  unfold f_X7_done at hf
  refine lv_aload_n hx hb dX7_done_0 rfl (lv_at hl 0 rfl) ?_
  refine lv_iload_n hx hb dX7_done_1 rfl (lv_at hl 1 rfl) ?_
  refine lv_iload_n hx hb dX7_done_2 rfl (lv_at hl 2 rfl) ?_
  obtain ⟨r_1, hg_2, hf⟩ := bd_of hf
  refine kt_V0 (As := [.int x1, .int x2]) (rest := []) (st1 := [.int r_1]) (b := am 0) C0 (c_X7_noTakings l γ am hg_2) (cxV (nA := 2) hts goodU U1421 U1423 U75 U91 U1424 (by decide +kernel) ⟨Nat.le_of_ble_eq_true rfl, Nat.le_of_ble_eq_true rfl⟩) hP (hD _ _) hS hl dX7_done_3 0 7 rfl rfl rfl rfl (Nat.le_of_ble_eq_true rfl) rfl rfl (fun H locs hP hS => ?_)
  refine lv_istore_n (lv' := [(3, .int r_1), (0, .ref (am 0)), (1, .int x1), (2, .int x2)]) hx hb dX7_done_6 rfl hl (by decide) rfl (fun ls hl => ?_)
  refine lv_iload_n hx hb dX7_done_7 rfl (lv_at hl 0 rfl) ?_
  refine lv_if_ge (tgt := 17) hx hb dX7_done_8 (by decide) (fun c_3 => ?_) (fun c_3 => ?_)
  · replace hf := ite_p c_3 hf
    refine lv_aload_n hx hb dX7_done_17 rfl (lv_at hl 1 rfl) ?_
    refine lv_aload_n hx hb dX7_done_18 rfl (lv_at hl 1 rfl) ?_
    refine va_get (D := γ.1) (ci := 7) (v := .ref (am 27)) (C := RX7) (T := TX7) (N := 35) hx hb hU uin7 hown hK hP 0 rfl rfl 26 (by decide) (hU _ U995) (fun _ h9 => h9) rfl dX7_done_19 ?_
    obtain ⟨sm_4, hg_5, hf⟩ := bd_of hf
    refine kt_V0 (As := [.ref (am 27)]) (rest := []) (st1 := []) (b := am 0) C0 (c_X7_keep_27 l γ am hg_5) (cxV (nA := 1) hts goodU U1228 U1230 U49 U91 U1231 (by decide +kernel) ⟨Nat.le_of_ble_eq_true rfl, Nat.le_of_ble_eq_true rfl⟩) hP (hD _ _) hS hl dX7_done_22 0 7 rfl rfl rfl rfl (Nat.le_of_ble_eq_true rfl) rfl rfl (fun H locs hP hS => ?_)
    refine lv_aload_n hx hb dX7_done_25 rfl (lv_at hl 1 rfl) ?_
    refine lv_iload_n hx hb dX7_done_26 rfl (lv_at hl 2 rfl) ?_
    refine lv_iload_n hx hb dX7_done_27 rfl (lv_at hl 3 rfl) ?_
    obtain ⟨r_6, sm_7, hg_8, hf⟩ := bd2_of hf
    refine kt_V0 (As := [.int x1, .int x2]) (rest := []) (st1 := [.int r_6]) (b := am 0) C0 (c_X7_lived l γ am hg_8) (cxV (nA := 2) hts goodU U1425 U1427 U76 U91 U1428 (by decide +kernel) ⟨Nat.le_of_ble_eq_true rfl, Nat.le_of_ble_eq_true rfl⟩) hP (hD _ _) hS hl dX7_done_28 0 7 rfl rfl rfl rfl (Nat.le_of_ble_eq_true rfl) rfl rfl (fun H locs hP hS => ?_)
    refine lv_iconst (v := -1) hx hb dX7_done_31 (by decide) ?_
    refine lv_icmp_ne (tgt := 40) hx hb dX7_done_32 (by decide) (fun c_9 => ?_) (fun c_9 => ?_)
    · replace hf := ite_n c_9 hf
      refine lv_aload_n hx hb dX7_done_40 rfl (lv_at hl 1 rfl) ?_
      refine lv_aload_n hx hb dX7_done_41 rfl (lv_at hl 1 rfl) ?_
      refine va_get (D := γ.1) (ci := 7) (v := .ref (am 27)) (C := RX7) (T := TX7) (N := 35) hx hb hU uin7 hown hK hP 0 rfl rfl 26 (by decide) (hU _ U995) (fun _ h9 => h9) rfl dX7_done_42 ?_
      obtain ⟨sm_10, hg_11, hf⟩ := bd_of hf
      refine kt_V0 (As := [.ref (am 27)]) (rest := []) (st1 := []) (b := am 0) C0 (c_X7_again_27 l γ am hg_11) (cxV (nA := 1) hts goodU U1280 U1282 U60 U91 U1283 (by decide +kernel) ⟨Nat.le_of_ble_eq_true rfl, Nat.le_of_ble_eq_true rfl⟩) hP (hD _ _) hS hl dX7_done_45 0 7 rfl rfl rfl rfl (Nat.le_of_ble_eq_true rfl) rfl rfl (fun H locs hP hS => ?_)
      refine lv_aload_n hx hb dX7_done_48 rfl (lv_at hl 1 rfl) ?_
      refine lv_bipush (v := -6) hx hb dX7_done_49 (by decide) ?_
      obtain ⟨r_12, sm_13, hg_14, hf⟩ := bd2_of hf
      refine kt_V0 (As := [.int (-6 : Int32)]) (rest := []) (st1 := [.int r_12]) (b := am 0) C0 (c_X7_no l γ am hg_14) (cxV (nA := 1) hts goodU U1082 U1084 U30 U91 U1085 (by decide +kernel) ⟨Nat.le_of_ble_eq_true rfl, Nat.le_of_ble_eq_true rfl⟩) hP (hD _ _) hS hl dX7_done_51 0 7 rfl rfl rfl rfl (Nat.le_of_ble_eq_true rfl) rfl rfl (fun H locs hP hS => ?_)
      obtain ⟨rfl, rfl⟩ := rt2 hf
      exact kt_iret C0 hP hS dX7_done_54
    · replace hf := ite_p c_9 hf
      refine lv_aload_n hx hb dX7_done_35 rfl (lv_at hl 1 rfl) ?_
      refine va_get (D := γ.1) (ci := 7) (v := .int (sm_7 0 17)) (C := RX7) (T := TX7) (N := 35) hx hb hU uin7 hown hK hP 0 rfl rfl 17 (by decide) (hU _ U986) (fun _ h9 => h9) rfl dX7_done_36 ?_
      obtain ⟨rfl, rfl⟩ := rt2 hf
      exact kt_iret C0 hP hS dX7_done_39
  · replace hf := ite_n c_3 hf
    refine lv_aload_n hx hb dX7_done_11 rfl (lv_at hl 1 rfl) ?_
    refine lv_iload_n hx hb dX7_done_12 rfl (lv_at hl 0 rfl) ?_
    obtain ⟨r_15, sm_16, hg_17, hf⟩ := bd2_of hf
    refine kt_V0 (As := [.int r_1]) (rest := []) (st1 := [.int r_15]) (b := am 0) C0 (c_X7_no l γ am hg_17) (cxV (nA := 1) hts goodU U1082 U1084 U30 U91 U1085 (by decide +kernel) ⟨Nat.le_of_ble_eq_true rfl, Nat.le_of_ble_eq_true rfl⟩) hP (hD _ _) hS hl dX7_done_13 0 7 rfl rfl rfl rfl (Nat.le_of_ble_eq_true rfl) rfl rfl (fun H locs hP hS => ?_)
    obtain ⟨rfl, rfl⟩ := rt2 hf
    exact kt_iret C0 hP hS dX7_done_16
set_option maxHeartbeats 4000000 in
set_option maxRecDepth 100000 in
theorem c_X7_take (l : Launch) (γ : Gm) (am : Nat → Nat) {sm : GS} {sq : Nat → Int64} {x1 : Int32} {rv : Int32} {sm_z : GS} (hf : f_X7_take sm x1 = some (rv, sm_z)) : Kt l γ yX7_take (Cond.code yX7_take cX7_take 2 (some .int) :: U) 5 113 [.ref (am 0), .int x1] (wM γ am sm sq) (some (.int rv)) (wM γ am sm_z sq) := by
  refine Kt.of (by decide) rfl (Nat.le_of_ble_eq_true rfl) rfl ?_
  intro p e s m below meth c A ls C0 hP hD0 hS hl
  obtain ⟨hx, hb, hml, hown, hts, hr, hlocks, hK, hE, hA⟩ := id C0
  have hU : ∀ w ∈ U, w.before _ s = true := fun w h => hts w (List.mem_cons_of_mem _ h)
  have hD : ∀ (sm : GS) (sq : Nat → Int64), va_D A (wM γ am sm sq) := fun _ _ => hD0.fst rfl
  have hl : lv_has ls 2 [(0, .ref (am 0)), (1, .int x1)] := hl
  unfold f_X7_take at hf
  refine lv_aload_n hx hb dX7_take_0 rfl (lv_at hl 0 rfl) ?_
  refine lv_iload_n hx hb dX7_take_1 rfl (lv_at hl 1 rfl) ?_
  obtain ⟨r_1, hg_2, hf⟩ := bd_of hf
  refine kt_V0 (As := [.int x1]) (rest := []) (st1 := [.int r_1]) (b := am 0) C0 (c_X7_isPeak l γ am hg_2) (cxV (nA := 1) hts goodU U1110 U1112 U33 U91 U1113 (by decide +kernel) ⟨Nat.le_of_ble_eq_true rfl, Nat.le_of_ble_eq_true rfl⟩) hP (hD _ _) hS hl dX7_take_2 0 7 rfl rfl rfl rfl (Nat.le_of_ble_eq_true rfl) rfl rfl (fun H locs hP hS => ?_)
  refine lv_if_ne (tgt := 14) hx hb dX7_take_5 (by decide) (fun c_3 => ?_) (fun c_3 => ?_)
  · replace hf := ite_n c_3 hf
    refine lv_aload_n hx hb dX7_take_14 rfl (lv_at hl 0 rfl) ?_
    refine lv_iload_n hx hb dX7_take_15 rfl (lv_at hl 1 rfl) ?_
    obtain ⟨r_4, hg_5, hf⟩ := bd_of hf
    refine kt_V0 (As := [.int x1]) (rest := []) (st1 := [.int r_4]) (b := am 0) C0 (c_X7_isThere l γ am hg_5) (cxV (nA := 1) hts goodU U1268 U1270 U57 U91 U1271 (by decide +kernel) ⟨Nat.le_of_ble_eq_true rfl, Nat.le_of_ble_eq_true rfl⟩) hP (hD _ _) hS hl dX7_take_16 0 7 rfl rfl rfl rfl (Nat.le_of_ble_eq_true rfl) rfl rfl (fun H locs hP hS => ?_)
    refine lv_if_eq (tgt := 30) hx hb dX7_take_19 (by decide) (fun c_6 => ?_) (fun c_6 => ?_)
    · replace hf := ite_p c_6 hf
      refine lv_aload_n hx hb dX7_take_30 rfl (lv_at hl 0 rfl) ?_
      refine lv_bipush (v := -6) hx hb dX7_take_31 (by decide) ?_
      obtain ⟨r_7, sm_8, hg_9, hf⟩ := bd2_of hf
      refine kt_V0 (As := [.int (-6 : Int32)]) (rest := []) (st1 := [.int r_7]) (b := am 0) C0 (c_X7_no l γ am hg_9) (cxV (nA := 1) hts goodU U1082 U1084 U30 U91 U1085 (by decide +kernel) ⟨Nat.le_of_ble_eq_true rfl, Nat.le_of_ble_eq_true rfl⟩) hP (hD _ _) hS hl dX7_take_33 0 7 rfl rfl rfl rfl (Nat.le_of_ble_eq_true rfl) rfl rfl (fun H locs hP hS => ?_)
      obtain ⟨rfl, rfl⟩ := rt2 hf
      exact kt_iret C0 hP hS dX7_take_36
    · replace hf := ite_n c_6 hf
      refine lv_aload_n hx hb dX7_take_22 rfl (lv_at hl 0 rfl) ?_
      refine lv_iload_n hx hb dX7_take_23 rfl (lv_at hl 1 rfl) ?_
      obtain ⟨r_10, sm_11, hg_12, hf⟩ := bd2_of hf
      refine kt_V0 (As := [.int x1]) (rest := []) (st1 := [.int r_10]) (b := am 0) C0 (c_X7_loses l γ am hg_12) (cxV (nA := 1) hts goodU U1272 U1274 U58 U91 U1275 (by decide +kernel) ⟨Nat.le_of_ble_eq_true rfl, Nat.le_of_ble_eq_true rfl⟩) hP (hD _ _) hS hl dX7_take_24 0 7 rfl rfl rfl rfl (Nat.le_of_ble_eq_true rfl) rfl rfl (fun H locs hP hS => ?_)
      refine lv_goto (tgt := 36) hx hb dX7_take_27 (by decide) ?_
      obtain ⟨rfl, rfl⟩ := rt2 hf
      exact kt_iret C0 hP hS dX7_take_36
  · replace hf := ite_p c_3 hf
    refine lv_aload_n hx hb dX7_take_8 rfl (lv_at hl 0 rfl) ?_
    refine lv_iconst (v := -1) hx hb dX7_take_9 (by decide) ?_
    obtain ⟨r_13, sm_14, hg_15, hf⟩ := bd2_of hf
    refine kt_V0 (As := [.int (-1 : Int32)]) (rest := []) (st1 := [.int r_13]) (b := am 0) C0 (c_X7_no l γ am hg_15) (cxV (nA := 1) hts goodU U1082 U1084 U30 U91 U1085 (by decide +kernel) ⟨Nat.le_of_ble_eq_true rfl, Nat.le_of_ble_eq_true rfl⟩) hP (hD _ _) hS hl dX7_take_10 0 7 rfl rfl rfl rfl (Nat.le_of_ble_eq_true rfl) rfl rfl (fun H locs hP hS => ?_)
    obtain ⟨rfl, rfl⟩ := rt2 hf
    exact kt_iret C0 hP hS dX7_take_13
set_option maxHeartbeats 4000000 in
set_option maxRecDepth 100000 in
theorem c_X7_years (l : Launch) (γ : Gm) (am : Nat → Nat) {sm : GS} {sq : Nat → Int64} {x1 : Int32} {rv : Int32} {sm_z : GS} (hf : f_X7_years sm x1 = some (rv, sm_z)) : Kt l γ yX7_years (Cond.code yX7_years cX7_years 2 (some .int) :: U) 1 22 [.ref (am 0), .int x1] (wM γ am sm sq) (some (.int rv)) (wM γ am sm_z sq) := by
  refine Kt.of (by decide) rfl (Nat.le_of_ble_eq_true rfl) rfl ?_
  intro p e s m below meth c A ls C0 hP hD0 hS hl
  obtain ⟨hx, hb, hml, hown, hts, hr, hlocks, hK, hE, hA⟩ := id C0
  have hU : ∀ w ∈ U, w.before _ s = true := fun w h => hts w (List.mem_cons_of_mem _ h)
  have hD : ∀ (sm : GS) (sq : Nat → Int64), va_D A (wM γ am sm sq) := fun _ _ => hD0.fst rfl
  have hl : lv_has ls 2 [(0, .ref (am 0)), (1, .int x1)] := hl
  unfold f_X7_years at hf
  refine lv_iload_n hx hb dX7_years_0 rfl (lv_at hl 1 rfl) ?_
  refine lv_iconst (v := 1) hx hb dX7_years_1 (by decide) ?_
  refine lv_sipush (v := 999) hx hb dX7_years_2 (by decide) ?_
  obtain ⟨r_1, hg_2, hf⟩ := bd_of hf
  refine kt_SF (As := [.int x1, .int (1 : Int32), .int (999 : Int32)]) (rest := []) (st1 := [.int r_1]) (wc' := wM γ am sm sq) C0 (c_X7_within l γ hg_2) (cxS (nA := 3) hts goodU U1079 U1080 U91 U1081 (by decide +kernel) ⟨Nat.le_of_ble_eq_true rfl, Nat.le_of_ble_eq_true rfl⟩) hP (hD _ _) hS hl dX7_years_5 foc_nil rfl (Nat.le_of_ble_eq_true rfl) rfl rfl (fun H locs hP hS => ?_)
  refine lv_if_ne (tgt := 18) hx hb dX7_years_8 (by decide) (fun c_3 => ?_) (fun c_3 => ?_)
  · replace hf := ite_n c_3 hf
    refine lv_aload_n hx hb dX7_years_18 rfl (lv_at hl 0 rfl) ?_
    refine lv_dup hx hb dX7_years_19 rfl ?_
    refine va_get (D := γ.1) (ci := 7) (v := .int (sm 0 17)) (C := RX7) (T := TX7) (N := 35) hx hb hU uin7 hown hK hP 0 rfl rfl 17 (by decide) (hU _ U986) (fun _ h9 => h9) rfl dX7_years_20 ?_
    refine lv_iload_n hx hb dX7_years_23 rfl (lv_at hl 1 rfl) ?_
    refine lv_iadd hx hb dX7_years_24 ?_
    refine lv_topi (fun u_4 e_u_4 => ?_)
    replace hf := nm_y hf e_u_4
    refine va_put (D := γ.1) (ci := 7) (v := .int u_4) (ty := .int) (C := RX7) (T := TX7) (N := 35) hx hb hU uin7 tyX7 tyX7_ok nmX7 hown hK hP (hD _ _) hS 0 rfl rfl 17 (by decide) (hU _ U986) (fun _ h9 => h9) rfl (by decide +kernel) rfl rfl (Nat.le_of_ble_eq_true rfl) dX7_years_25 (fun H locs hP _ hS => ?_)
    obtain ⟨sm_5, e_sm_5, hf⟩ := nm_of hf
    replace hP : va_P γ.1 vwCl (wM γ am sm_5 sq) H := by rw [e_sm_5]; exact hP
    refine lv_aload_n hx hb dX7_years_28 rfl (lv_at hl 0 rfl) ?_
    refine va_get (D := γ.1) (ci := 7) (v := .int (sm_5 0 17)) (C := RX7) (T := TX7) (N := 35) hx hb hU uin7 hown hK hP 0 rfl rfl 17 (by decide) (hU _ U986) (fun _ h9 => h9) rfl dX7_years_29 ?_
    obtain ⟨rfl, rfl⟩ := rt2 hf
    exact kt_iret C0 hP hS dX7_years_32
  · replace hf := ite_p c_3 hf
    refine lv_aload_n hx hb dX7_years_11 rfl (lv_at hl 0 rfl) ?_
    refine lv_bipush (v := -6) hx hb dX7_years_12 (by decide) ?_
    obtain ⟨r_6, sm_7, hg_8, hf⟩ := bd2_of hf
    refine kt_V0 (As := [.int (-6 : Int32)]) (rest := []) (st1 := [.int r_6]) (b := am 0) C0 (c_X7_no l γ am hg_8) (cxV (nA := 1) hts goodU U1082 U1084 U30 U91 U1085 (by decide +kernel) ⟨Nat.le_of_ble_eq_true rfl, Nat.le_of_ble_eq_true rfl⟩) hP (hD _ _) hS hl dX7_years_14 0 7 rfl rfl rfl rfl (Nat.le_of_ble_eq_true rfl) rfl rfl (fun H locs hP hS => ?_)
    obtain ⟨rfl, rfl⟩ := rt2 hf
    exact kt_iret C0 hP hS dX7_years_17
set_option maxHeartbeats 4000000 in
set_option maxRecDepth 100000 in
theorem c_X7_draw (l : Launch) (γ : Gm) (am : Nat → Nat) {sm : GS} {sq : Nat → Int64} {x1 : Int32} {rv : Int32} {sm_z : GS} (hf : f_X7_draw sm x1 = some (rv, sm_z)) : Kt l γ yX7_draw (Cond.code yX7_draw cX7_draw 2 (some .int) :: U) 0 0 [.ref (am 0), .int x1] (wM γ am sm sq) (some (.int rv)) (wM γ am sm_z sq) := by
  refine Kt.of (by decide) rfl (Nat.le_of_ble_eq_true rfl) rfl ?_
  intro p e s m below meth c A ls C0 hP hD0 hS hl
  obtain ⟨hx, hb, hml, hown, hts, hr, hlocks, hK, hE, hA⟩ := id C0
  have hU : ∀ w ∈ U, w.before _ s = true := fun w h => hts w (List.mem_cons_of_mem _ h)
  have hD : ∀ (sm : GS) (sq : Nat → Int64), va_D A (wM γ am sm sq) := fun _ _ => hD0.fst rfl
  have hl : lv_has ls 2 [(0, .ref (am 0)), (1, .int x1)] := hl
  unfold f_X7_draw at hf
  refine lv_aload_n hx hb dX7_draw_0 rfl (lv_at hl 0 rfl) ?_
  refine lv_aload_n hx hb dX7_draw_1 rfl (lv_at hl 0 rfl) ?_
  refine va_get (D := γ.1) (ci := 7) (v := .int (sm 0 18)) (C := RX7) (T := TX7) (N := 35) hx hb hU uin7 hown hK hP 0 rfl rfl 18 (by decide) (hU _ U987) (fun _ h9 => h9) rfl dX7_draw_2 ?_
  refine lv_ldcw hx hb hown (hU _ U1453) dX7_draw_5 ?_
  refine lv_imul hx hb dX7_draw_8 ?_
  refine lv_sipush (v := 12345) hx hb dX7_draw_9 (by decide) ?_
  refine lv_iadd hx hb dX7_draw_12 ?_
  refine lv_topi (fun u_1 e_u_1 => ?_)
  replace hf := nm_y hf e_u_1
  refine va_put (D := γ.1) (ci := 7) (v := .int u_1) (ty := .int) (C := RX7) (T := TX7) (N := 35) hx hb hU uin7 tyX7 tyX7_ok nmX7 hown hK hP (hD _ _) hS 0 rfl rfl 18 (by decide) (hU _ U987) (fun _ h9 => h9) rfl (by decide +kernel) rfl rfl (Nat.le_of_ble_eq_true rfl) dX7_draw_13 (fun H locs hP _ hS => ?_)
  obtain ⟨sm_2, e_sm_2, hf⟩ := nm_of hf
  replace hP : va_P γ.1 vwCl (wM γ am sm_2 sq) H := by rw [e_sm_2]; exact hP
  refine lv_aload_n hx hb dX7_draw_16 rfl (lv_at hl 0 rfl) ?_
  refine va_get (D := γ.1) (ci := 7) (v := .int (sm_2 0 18)) (C := RX7) (T := TX7) (N := 35) hx hb hU uin7 hown hK hP 0 rfl rfl 18 (by decide) (hU _ U987) (fun _ h9 => h9) rfl dX7_draw_17 ?_
  refine lv_bipush (v := 16) hx hb dX7_draw_20 (by decide) ?_
  refine lv_iushr hx hb dX7_draw_22 rfl ?_
  refine lv_iload_n hx hb dX7_draw_23 rfl (lv_at hl 1 rfl) ?_
  obtain ⟨g_3, hf⟩ := gd_of hf
  refine lv_irem hx hb dX7_draw_24 (neB_of g_3) ?_
  obtain ⟨rfl, rfl⟩ := rt2 hf
  exact kt_iret C0 hP hS dX7_draw_25
set_option maxHeartbeats 4000000 in
set_option maxRecDepth 100000 in
theorem c_X7_standingOne (l : Launch) (γ : Gm) (am : Nat → Nat) {sm : GS} {sq : Nat → Int64} {x1 : Int32} {rv : Int32} (hf : f_X7_standingOne sm x1 = some rv) : Kt l γ yX7_standingOne (Cond.code yX7_standingOne cX7_standingOne 4 (some .int) :: U) 0 0 [.ref (am 0), .int x1] (wM γ am sm sq) (some (.int rv)) (wM γ am sm sq) := by
  refine Kt.of (by decide) rfl (Nat.le_of_ble_eq_true rfl) rfl ?_
  intro p e s m below meth c A ls C0 hP hD0 hS hl
  obtain ⟨hx, hb, hml, hown, hts, hr, hlocks, hK, hE, hA⟩ := id C0
  have hU : ∀ w ∈ U, w.before _ s = true := fun w h => hts w (List.mem_cons_of_mem _ h)
  have hD : ∀ (sm : GS) (sq : Nat → Int64), va_D A (wM γ am sm sq) := fun _ _ => hD0.fst rfl
  have hl : lv_has ls 4 [(0, .ref (am 0)), (1, .int x1)] := hl
  have L4 : ∀ (n : Nat) (x2_1 : Int32) (x3_2 : Int32) (H : Heap) (locs : List Loc) (ls : Array Slot), f_X7_standingOne_L4 sm n x2_1 x3_2 = some rv → va_P γ.1 vwCl (wM γ am sm sq) H → va_S A s.heap H locs → lv_has ls 4 [(0, .ref (am 0)), (2, .int x2_1), (3, .int x3_2)] → W p l e (rmK 0 0) s m ([.ref (am 0), .int x1] : List Value).toArray below meth c H locs 0 0 (MQ below (KQ γ A (some (.int rv)) (wM γ am sm sq)) ([.ref (am 0), .int x1] : List Value).toArray s 0 0 A) (F0 m 4 ls []) := by
    intro n
    induction n with
    | zero =>
      intro x2_1 x3_2 H locs ls hf
      have hf : none = some _ := hf
      cases hf
    | succ n ih =>
      intro x2_1 x3_2 H locs ls hf hP hS hl
      rw [f_X7_standingOne_L4.eq_2] at hf
      refine lv_iload_n hx hb dX7_standingOne_4 rfl (lv_at hl 2 rfl) ?_
      refine lv_aload_n hx hb dX7_standingOne_5 rfl (lv_at hl 0 rfl) ?_
      refine va_get (D := γ.1) (ci := 7) (v := .int (sm 0 3)) (C := RX7) (T := TX7) (N := 35) hx hb hU uin7 hown hK hP 0 rfl rfl 3 (by decide) (hU _ U972) (fun _ h9 => h9) rfl dX7_standingOne_6 ?_
      refine lv_icmp_ge (tgt := 39) hx hb dX7_standingOne_9 (by decide) (fun c_3 => ?_) (fun c_3 => ?_)
      · replace hf := ite_p c_3 hf
        refine lv_iconst (v := -1) hx hb dX7_standingOne_39 (by decide) ?_
        obtain rfl := Option.some.inj hf
        exact kt_iret C0 hP hS dX7_standingOne_40
      · replace hf := ite_n c_3 hf
        refine lv_aload_n hx hb dX7_standingOne_12 rfl (lv_at hl 0 rfl) ?_
        refine va_get (D := γ.1) (ci := 7) (v := .ref (am 9)) (C := RX7) (T := TX7) (N := 35) hx hb hU uin7 hown hK hP 0 rfl rfl 8 (by decide) (hU _ U977) (fun _ h9 => h9) rfl dX7_standingOne_13 ?_
        refine lv_iload_n hx hb dX7_standingOne_16 rfl (lv_at hl 2 rfl) ?_
        obtain ⟨g_4, hf⟩ := gd_of hf
        refine va_iald hx hb hK hP 8 0 rfl rfl (inB_vp g_4) dX7_standingOne_17 ?_
        refine lv_if_ne (tgt := 24) hx hb dX7_standingOne_18 (by decide) (fun c_5 => ?_) (fun c_5 => ?_)
        · replace hf := ite_n c_5 hf
          refine lv_iload_n hx hb dX7_standingOne_24 rfl (lv_at hl 1 rfl) ?_
          refine lv_if_ne (tgt := 30) hx hb dX7_standingOne_25 (by decide) (fun c_6 => ?_) (fun c_6 => ?_)
          · replace hf := ite_n c_6 hf
            obtain ⟨x2_7, e_x2_7⟩ : ∃ y : Int32, y = x2_1 + (-1 : Int32) := ⟨_, rfl⟩
            replace hf := nm_y hf e_x2_7
            refine lv_iinc (v := x2_7) (lv' := [(2, .int x2_7), (0, .ref (am 0)), (3, .int x3_2)]) hx hb dX7_standingOne_30 hl (k := 1) rfl (by rw [e_x2_7]; rfl) (by decide) rfl (fun ls hl => ?_)
            obtain ⟨x3_8, e_x3_8⟩ : ∃ y : Int32, y = x3_2 + (1 : Int32) := ⟨_, rfl⟩
            replace hf := nm_y hf e_x3_8
            refine lv_iinc (v := x3_8) (lv' := [(3, .int x3_8), (2, .int x2_7), (0, .ref (am 0))]) hx hb dX7_standingOne_33 hl (k := 2) rfl (by rw [e_x3_8]; rfl) (by decide) rfl (fun ls hl => ?_)
            refine lv_goto (tgt := 4) hx hb dX7_standingOne_36 (by decide) ?_
            exact ih x2_7 x3_8 _ _ _ hf hP hS (lv_sub hl [2, 1, 0] rfl)
          · replace hf := ite_p c_6 hf
            refine lv_iload_n hx hb dX7_standingOne_28 rfl (lv_at hl 2 rfl) ?_
            obtain rfl := Option.some.inj hf
            exact kt_iret C0 hP hS dX7_standingOne_29
        · replace hf := ite_p c_5 hf
          refine lv_goto (tgt := 33) hx hb dX7_standingOne_21 (by decide) ?_
          obtain ⟨x3_9, e_x3_9⟩ : ∃ y : Int32, y = x3_2 + (1 : Int32) := ⟨_, rfl⟩
          replace hf := nm_y hf e_x3_9
          refine lv_iinc (v := x3_9) (lv' := [(3, .int x3_9), (0, .ref (am 0)), (2, .int x2_1)]) hx hb dX7_standingOne_33 hl (k := 2) rfl (by rw [e_x3_9]; rfl) (by decide) rfl (fun ls hl => ?_)
          refine lv_goto (tgt := 4) hx hb dX7_standingOne_36 (by decide) ?_
          exact ih x2_1 x3_9 _ _ _ hf hP hS (lv_sub hl [1, 2, 0] rfl)
  unfold f_X7_standingOne at hf
  refine lv_iload_n hx hb dX7_standingOne_0 rfl (lv_at hl 1 rfl) ?_
  refine lv_istore_n (lv' := [(2, .int x1), (0, .ref (am 0)), (1, .int x1)]) hx hb dX7_standingOne_1 rfl hl (by decide) rfl (fun ls hl => ?_)
  refine lv_iconst (v := 0) hx hb dX7_standingOne_2 (by decide) ?_
  refine lv_istore_n (lv' := [(3, .int (0 : Int32)), (2, .int x1), (0, .ref (am 0)), (1, .int x1)]) hx hb dX7_standingOne_3 rfl hl (by decide) rfl (fun ls hl => ?_)
  exact L4 FU x1 (0 : Int32) _ _ _ hf hP hS (lv_sub hl [2, 1, 0] rfl)
set_option maxHeartbeats 4000000 in
set_option maxRecDepth 100000 in
theorem c_X7_ages (l : Launch) (γ : Gm) (am : Nat → Nat) {sm : GS} {sq : Nat → Int64} {x1 : Int32} {rv : Int32} {sm_z : GS} (hf : f_X7_ages sm x1 = some (rv, sm_z)) : Kt l γ yX7_ages (Cond.code yX7_ages cX7_ages 4 (some .int) :: U) 5 113 [.ref (am 0), .int x1] (wM γ am sm sq) (some (.int rv)) (wM γ am sm_z sq) := by
  refine Kt.of (by decide) rfl (Nat.le_of_ble_eq_true rfl) rfl ?_
  intro p e s m below meth c A ls C0 hP hD0 hS hl
  obtain ⟨hx, hb, hml, hown, hts, hr, hlocks, hK, hE, hA⟩ := id C0
  have hU : ∀ w ∈ U, w.before _ s = true := fun w h => hts w (List.mem_cons_of_mem _ h)
  have hD : ∀ (sm : GS) (sq : Nat → Int64), va_D A (wM γ am sm sq) := fun _ _ => hD0.fst rfl
  have hl : lv_has ls 4 [(0, .ref (am 0)), (1, .int x1)] := hl
  have J63 : ∀ (x1_13 : Int32) (x2_14 : Int32) (x3_15 : Int32) (sm_16 : GS) (K22 : Int32 → Int32 → GS → Option (Int32 × GS)) (HK22 : ∀ (z2 : Int32) (z3 : Int32) (zsm : GS) (H : Heap) (locs : List Loc) (ls : Array Slot), K22 z2 z3 zsm = some (rv, sm_z) → va_P γ.1 vwCl (wM γ am zsm sq) H → va_S A s.heap H locs → lv_has ls 4 [(0, .ref (am 0)), (1, .int x1_13), (2, .int z2), (3, .int z3)] → W p l e (rmK 5 113) s m ([.ref (am 0), .int x1] : List Value).toArray below meth c H locs 0 0 (MQ below (KQ γ A (some (.int rv)) (wM γ am sm_z sq)) ([.ref (am 0), .int x1] : List Value).toArray s 0 0 A) (F0 m 22 ls [])) (H : Heap) (locs : List Loc) (ls : Array Slot), f_X7_ages_J63 x2_14 x3_15 sm_16 K22 = some (rv, sm_z) → va_P γ.1 vwCl (wM γ am sm_16 sq) H → va_S A s.heap H locs → lv_has ls 4 [(0, .ref (am 0)), (1, .int x1_13), (2, .int x2_14), (3, .int x3_15)] → W p l e (rmK 5 113) s m ([.ref (am 0), .int x1] : List Value).toArray below meth c H locs 0 0 (MQ below (KQ γ A (some (.int rv)) (wM γ am sm_z sq)) ([.ref (am 0), .int x1] : List Value).toArray s 0 0 A) (F0 m 63 ls []) := by
    intro x1_13 x2_14 x3_15 sm_16 K22 HK22 H locs ls hf hP hS hl
    unfold f_X7_ages_J63 at hf
    refine lv_aload_n hx hb dX7_ages_63 rfl (lv_at hl 0 rfl) ?_
    refine lv_dup hx hb dX7_ages_64 rfl ?_
    refine va_get (D := γ.1) (ci := 7) (v := .int (sm_16 0 17)) (C := RX7) (T := TX7) (N := 35) hx hb hU uin7 hown hK hP 0 rfl rfl 17 (by decide) (hU _ U986) (fun _ h9 => h9) rfl dX7_ages_65 ?_
    refine lv_iconst (v := 1) hx hb dX7_ages_68 (by decide) ?_
    refine lv_iadd hx hb dX7_ages_69 ?_
    refine lv_topi (fun u_17 e_u_17 => ?_)
    replace hf := nm_y hf e_u_17
    refine va_put (D := γ.1) (ci := 7) (v := .int u_17) (ty := .int) (C := RX7) (T := TX7) (N := 35) hx hb hU uin7 tyX7 tyX7_ok nmX7 hown hK hP (hD _ _) hS 0 rfl rfl 17 (by decide) (hU _ U986) (fun _ h9 => h9) rfl (by decide +kernel) rfl rfl (Nat.le_of_ble_eq_true rfl) dX7_ages_70 (fun H locs hP _ hS => ?_)
    obtain ⟨sm_18, e_sm_18, hf⟩ := nm_of hf
    replace hP : va_P γ.1 vwCl (wM γ am sm_18 sq) H := by rw [e_sm_18]; exact hP
    obtain ⟨x3_19, e_x3_19⟩ : ∃ y : Int32, y = x3_15 + (1 : Int32) := ⟨_, rfl⟩
    replace hf := nm_y hf e_x3_19
    refine lv_iinc (v := x3_19) (lv' := [(3, .int x3_19), (0, .ref (am 0)), (1, .int x1_13), (2, .int x2_14)]) hx hb dX7_ages_73 hl (k := 3) rfl (by rw [e_x3_19]; rfl) (by decide) rfl (fun ls hl => ?_)
    refine lv_goto (tgt := 22) hx hb dX7_ages_76 (by decide) ?_
    exact HK22 x2_14 x3_19 sm_18 _ _ _ hf hP hS (lv_sub hl [1, 2, 3, 0] rfl)
  have L22 : ∀ (x1_4 : Int32) (n : Nat) (x2_5 : Int32) (x3_6 : Int32) (sm_7 : GS) (H : Heap) (locs : List Loc) (ls : Array Slot), f_X7_ages_L22 x1_4 n x2_5 x3_6 sm_7 = some (rv, sm_z) → va_P γ.1 vwCl (wM γ am sm_7 sq) H → va_S A s.heap H locs → lv_has ls 4 [(0, .ref (am 0)), (1, .int x1_4), (2, .int x2_5), (3, .int x3_6)] → W p l e (rmK 5 113) s m ([.ref (am 0), .int x1] : List Value).toArray below meth c H locs 0 0 (MQ below (KQ γ A (some (.int rv)) (wM γ am sm_z sq)) ([.ref (am 0), .int x1] : List Value).toArray s 0 0 A) (F0 m 22 ls []) := by
    intro x1_4
    intro n
    induction n with
    | zero =>
      intro x2_5 x3_6 sm_7 H locs ls hf
      have hf : none = some _ := hf
      cases hf
    | succ n ih =>
      intro x2_5 x3_6 sm_7 H locs ls hf hP hS hl
      rw [f_X7_ages_L22.eq_2] at hf
      refine lv_iload_n hx hb dX7_ages_22 rfl (lv_at hl 3 rfl) ?_
      refine lv_iload_n hx hb dX7_ages_23 rfl (lv_at hl 1 rfl) ?_
      refine lv_icmp_ge (tgt := 79) hx hb dX7_ages_24 (by decide) (fun c_8 => ?_) (fun c_8 => ?_)
      · replace hf := ite_p c_8 hf
        refine lv_iload_n hx hb dX7_ages_79 rfl (lv_at hl 2 rfl) ?_
        obtain ⟨rfl, rfl⟩ := rt2 hf
        exact kt_iret C0 hP hS dX7_ages_80
      · replace hf := ite_n c_8 hf
        refine lv_aload_n hx hb dX7_ages_27 rfl (lv_at hl 0 rfl) ?_
        refine lv_bipush (v := 20) hx hb dX7_ages_28 (by decide) ?_
        obtain ⟨r_9, sm_10, hg_11, hf⟩ := bd2_of hf
        refine kt_V0 (As := [.int (20 : Int32)]) (rest := []) (st1 := [.int r_9]) (b := am 0) C0 (c_X7_draw l γ am hg_11) (cxV (nA := 1) hts goodU U1449 U1451 U77 U91 U1452 (by decide +kernel) ⟨Nat.le_of_ble_eq_true rfl, Nat.le_of_ble_eq_true rfl⟩) hP (hD _ _) hS hl dX7_ages_30 0 7 rfl rfl rfl rfl (Nat.le_of_ble_eq_true rfl) rfl rfl (fun H locs hP hS => ?_)
        refine lv_if_ne (tgt := 63) hx hb dX7_ages_33 (by decide) (fun c_12 => ?_) (fun c_12 => ?_)
        · replace hf := ite_n c_12 hf
          exact J63 x1_4 x2_5 x3_6 sm_10 _ ih _ _ _ hf hP hS (lv_sub hl [0, 1, 2, 3] rfl)
        · replace hf := ite_p c_12 hf
          refine lv_aload_n hx hb dX7_ages_36 rfl (lv_at hl 0 rfl) ?_
          obtain ⟨r_20, hg_21, hf⟩ := bd_of hf
          refine kt_V0 (As := []) (rest := []) (st1 := [.int r_20]) (b := am 0) C0 (c_X7_standing l γ am hg_21) (cxV (nA := 0) hts goodU U1343 U1345 U66 U91 U1346 (by decide +kernel) ⟨Nat.le_of_ble_eq_true rfl, Nat.le_of_ble_eq_true rfl⟩) hP (hD _ _) hS hl dX7_ages_37 0 7 rfl rfl rfl rfl (Nat.le_of_ble_eq_true rfl) rfl rfl (fun H locs hP hS => ?_)
          refine lv_if_le (tgt := 63) hx hb dX7_ages_40 (by decide) (fun c_22 => ?_) (fun c_22 => ?_)
          · replace hf := ite_p c_22 hf
            exact J63 x1_4 x2_5 x3_6 sm_10 _ ih _ _ _ hf hP hS (lv_sub hl [0, 1, 2, 3] rfl)
          · replace hf := ite_n c_22 hf
            refine lv_aload_n hx hb dX7_ages_43 rfl (lv_at hl 0 rfl) ?_
            refine lv_aload_n hx hb dX7_ages_44 rfl (lv_at hl 0 rfl) ?_
            refine lv_aload_n hx hb dX7_ages_45 rfl (lv_at hl 0 rfl) ?_
            refine lv_aload_n hx hb dX7_ages_46 rfl (lv_at hl 0 rfl) ?_
            obtain ⟨r_23, hg_24, hf⟩ := bd_of hf
            refine kt_V0 (As := []) (rest := [.ref (am 0), .ref (am 0), .ref (am 0)]) (st1 := [.int r_23, .ref (am 0), .ref (am 0), .ref (am 0)]) (b := am 0) C0 (c_X7_standing l γ am hg_24) (cxV (nA := 0) hts goodU U1343 U1345 U66 U91 U1346 (by decide +kernel) ⟨Nat.le_of_ble_eq_true rfl, Nat.le_of_ble_eq_true rfl⟩) hP (hD _ _) hS hl dX7_ages_47 0 7 rfl rfl rfl rfl (Nat.le_of_ble_eq_true rfl) rfl rfl (fun H locs hP hS => ?_)
            obtain ⟨r_25, sm_26, hg_27, hf⟩ := bd2_of hf
            refine kt_V0 (As := [.int r_23]) (rest := [.ref (am 0), .ref (am 0)]) (st1 := [.int r_25, .ref (am 0), .ref (am 0)]) (b := am 0) C0 (c_X7_draw l γ am hg_27) (cxV (nA := 1) hts goodU U1449 U1451 U77 U91 U1452 (by decide +kernel) ⟨Nat.le_of_ble_eq_true rfl, Nat.le_of_ble_eq_true rfl⟩) hP (hD _ _) hS hl dX7_ages_50 0 7 rfl rfl rfl rfl (Nat.le_of_ble_eq_true rfl) rfl rfl (fun H locs hP hS => ?_)
            obtain ⟨r_28, hg_29, hf⟩ := bd_of hf
            refine kt_V0 (As := [.int r_25]) (rest := [.ref (am 0)]) (st1 := [.int r_28, .ref (am 0)]) (b := am 0) C0 (c_X7_standingOne l γ am hg_29) (cxV (nA := 1) hts goodU U1454 U1456 U78 U91 U1457 (by decide +kernel) ⟨Nat.le_of_ble_eq_true rfl, Nat.le_of_ble_eq_true rfl⟩) hP (hD _ _) hS hl dX7_ages_53 0 7 rfl rfl rfl rfl (Nat.le_of_ble_eq_true rfl) rfl rfl (fun H locs hP hS => ?_)
            obtain ⟨r_30, sm_31, hg_32, hf⟩ := bd2_of hf
            refine kt_V0 (As := [.int r_28]) (rest := []) (st1 := [.int r_30]) (b := am 0) C0 (c_X7_loses l γ am hg_32) (cxV (nA := 1) hts goodU U1272 U1274 U58 U91 U1275 (by decide +kernel) ⟨Nat.le_of_ble_eq_true rfl, Nat.le_of_ble_eq_true rfl⟩) hP (hD _ _) hS hl dX7_ages_56 0 7 rfl rfl rfl rfl (Nat.le_of_ble_eq_true rfl) rfl rfl (fun H locs hP hS => ?_)
            refine lv_pop hx hb dX7_ages_59 rfl ?_
            obtain ⟨x2_33, e_x2_33⟩ : ∃ y : Int32, y = x2_5 + (1 : Int32) := ⟨_, rfl⟩
            replace hf := nm_y hf e_x2_33
            refine lv_iinc (v := x2_33) (lv' := [(2, .int x2_33), (0, .ref (am 0)), (1, .int x1_4), (3, .int x3_6)]) hx hb dX7_ages_60 hl (k := 2) rfl (by rw [e_x2_33]; rfl) (by decide) rfl (fun ls hl => ?_)
            exact J63 x1_4 x2_33 x3_6 sm_31 _ ih _ _ _ hf hP hS (lv_sub hl [1, 2, 0, 3] rfl)
  unfold f_X7_ages at hf
  refine lv_iload_n hx hb dX7_ages_0 rfl (lv_at hl 1 rfl) ?_
  refine lv_iconst (v := 1) hx hb dX7_ages_1 (by decide) ?_
  refine lv_sipush (v := 200) hx hb dX7_ages_2 (by decide) ?_
  obtain ⟨r_1, hg_2, hf⟩ := bd_of hf
  refine kt_SF (As := [.int x1, .int (1 : Int32), .int (200 : Int32)]) (rest := []) (st1 := [.int r_1]) (wc' := wM γ am sm sq) C0 (c_X7_within l γ hg_2) (cxS (nA := 3) hts goodU U1079 U1080 U91 U1081 (by decide +kernel) ⟨Nat.le_of_ble_eq_true rfl, Nat.le_of_ble_eq_true rfl⟩) hP (hD _ _) hS hl dX7_ages_5 foc_nil rfl (Nat.le_of_ble_eq_true rfl) rfl rfl (fun H locs hP hS => ?_)
  refine lv_if_ne (tgt := 18) hx hb dX7_ages_8 (by decide) (fun c_3 => ?_) (fun c_3 => ?_)
  · replace hf := ite_n c_3 hf
    refine lv_iconst (v := 0) hx hb dX7_ages_18 (by decide) ?_
    refine lv_istore_n (lv' := [(2, .int (0 : Int32)), (0, .ref (am 0)), (1, .int x1)]) hx hb dX7_ages_19 rfl hl (by decide) rfl (fun ls hl => ?_)
    refine lv_iconst (v := 0) hx hb dX7_ages_20 (by decide) ?_
    refine lv_istore_n (lv' := [(3, .int (0 : Int32)), (2, .int (0 : Int32)), (0, .ref (am 0)), (1, .int x1)]) hx hb dX7_ages_21 rfl hl (by decide) rfl (fun ls hl => ?_)
    exact L22 x1 FU (0 : Int32) (0 : Int32) sm _ _ _ hf hP hS (lv_sub hl [2, 3, 1, 0] rfl)
  · replace hf := ite_p c_3 hf
    refine lv_aload_n hx hb dX7_ages_11 rfl (lv_at hl 0 rfl) ?_
    refine lv_bipush (v := -6) hx hb dX7_ages_12 (by decide) ?_
    obtain ⟨r_34, sm_35, hg_36, hf⟩ := bd2_of hf
    refine kt_V0 (As := [.int (-6 : Int32)]) (rest := []) (st1 := [.int r_34]) (b := am 0) C0 (c_X7_no l γ am hg_36) (cxV (nA := 1) hts goodU U1082 U1084 U30 U91 U1085 (by decide +kernel) ⟨Nat.le_of_ble_eq_true rfl, Nat.le_of_ble_eq_true rfl⟩) hP (hD _ _) hS hl dX7_ages_14 0 7 rfl rfl rfl rfl (Nat.le_of_ble_eq_true rfl) rfl rfl (fun H locs hP hS => ?_)
    obtain ⟨rfl, rfl⟩ := rt2 hf
    exact kt_iret C0 hP hS dX7_ages_17
set_option maxHeartbeats 4000000 in
set_option maxRecDepth 100000 in
theorem c_X7_seed (l : Launch) (γ : Gm) (am : Nat → Nat) {sm : GS} {sq : Nat → Int64} {x1 : Int32} {rv : Int32} {sm_z : GS} (hf : f_X7_seed sm x1 = some (rv, sm_z)) : Kt l γ yX7_seed (Cond.code yX7_seed cX7_seed 3 (some .int) :: U) 0 0 [.ref (am 0), .int x1] (wM γ am sm sq) (some (.int rv)) (wM γ am sm_z sq) := by
  refine Kt.of (by decide) rfl (Nat.le_of_ble_eq_true rfl) rfl ?_
  intro p e s m below meth c A ls C0 hP hD0 hS hl
  obtain ⟨hx, hb, hml, hown, hts, hr, hlocks, hK, hE, hA⟩ := id C0
  have hU : ∀ w ∈ U, w.before _ s = true := fun w h => hts w (List.mem_cons_of_mem _ h)
  have hD : ∀ (sm : GS) (sq : Nat → Int64), va_D A (wM γ am sm sq) := fun _ _ => hD0.fst rfl
  have hl : lv_has ls 3 [(0, .ref (am 0)), (1, .int x1)] := hl
  unfold f_X7_seed at hf
  refine lv_aload_n hx hb dX7_seed_0 rfl (lv_at hl 0 rfl) ?_
  refine va_get (D := γ.1) (ci := 7) (v := .int (sm 0 18)) (C := RX7) (T := TX7) (N := 35) hx hb hU uin7 hown hK hP 0 rfl rfl 18 (by decide) (hU _ U987) (fun _ h9 => h9) rfl dX7_seed_1 ?_
  refine lv_topi (fun u_1 e_u_1 => ?_)
  replace hf := nm_y hf e_u_1
  refine lv_istore_n (lv' := [(2, .int u_1), (0, .ref (am 0)), (1, .int x1)]) hx hb dX7_seed_4 rfl hl (by decide) rfl (fun ls hl => ?_)
  refine lv_aload_n hx hb dX7_seed_5 rfl (lv_at hl 1 rfl) ?_
  refine lv_iload_n hx hb dX7_seed_6 rfl (lv_at hl 2 rfl) ?_
  refine va_put (D := γ.1) (ci := 7) (v := .int x1) (ty := .int) (C := RX7) (T := TX7) (N := 35) hx hb hU uin7 tyX7 tyX7_ok nmX7 hown hK hP (hD _ _) hS 0 rfl rfl 18 (by decide) (hU _ U987) (fun _ h9 => h9) rfl (by decide +kernel) rfl rfl (Nat.le_of_ble_eq_true rfl) dX7_seed_7 (fun H locs hP _ hS => ?_)
  obtain ⟨sm_2, e_sm_2, hf⟩ := nm_of hf
  replace hP : va_P γ.1 vwCl (wM γ am sm_2 sq) H := by rw [e_sm_2]; exact hP
  refine lv_iload_n hx hb dX7_seed_10 rfl (lv_at hl 0 rfl) ?_
  obtain ⟨rfl, rfl⟩ := rt2 hf
  exact kt_iret C0 hP hS dX7_seed_11
set_option maxHeartbeats 4000000 in
set_option maxRecDepth 100000 in
theorem c_X7_ran (l : Launch) (γ : Gm) (am : Nat → Nat) {sm : GS} {sq : Nat → Int64} {x1 : Int32} {sm_z : GS} (hf : f_X7_ran sm x1 = some sm_z) : Kt l γ yX7_ran (Cond.code yX7_ran cX7_ran 2 none :: U) 0 0 [.ref (am 0), .int x1] (wM γ am sm sq) none (wM γ am sm_z sq) := by
  refine Kt.of (by decide) rfl (Nat.le_of_ble_eq_true rfl) rfl ?_
  intro p e s m below meth c A ls C0 hP hD0 hS hl
  obtain ⟨hx, hb, hml, hown, hts, hr, hlocks, hK, hE, hA⟩ := id C0
  have hU : ∀ w ∈ U, w.before _ s = true := fun w h => hts w (List.mem_cons_of_mem _ h)
  have hD : ∀ (sm : GS) (sq : Nat → Int64), va_D A (wM γ am sm sq) := fun _ _ => hD0.fst rfl
  have hl : lv_has ls 2 [(0, .ref (am 0)), (1, .int x1)] := hl
  have J19 : ∀ (sm_2 : GS) (H : Heap) (locs : List Loc) (ls : Array Slot), f_X7_ran_J19 sm_2 = some sm_z → va_P γ.1 vwCl (wM γ am sm_2 sq) H → va_S A s.heap H locs → lv_has ls 2 [(0, .ref (am 0))] → W p l e (rmK 0 0) s m ([.ref (am 0), .int x1] : List Value).toArray below meth c H locs 0 0 (MQ below (KQ γ A none (wM γ am sm_z sq)) ([.ref (am 0), .int x1] : List Value).toArray s 0 0 A) (F0 m 19 ls []) := by
    intro sm_2 H locs ls hf hP hS hl
    unfold f_X7_ran_J19 at hf
    refine lv_aload_n hx hb dX7_ran_19 rfl (lv_at hl 0 rfl) ?_
    refine lv_dup hx hb dX7_ran_20 rfl ?_
    refine va_get (D := γ.1) (ci := 7) (v := .int (sm_2 0 21)) (C := RX7) (T := TX7) (N := 35) hx hb hU uin7 hown hK hP 0 rfl rfl 21 (by decide) (hU _ U990) (fun _ h9 => h9) rfl dX7_ran_21 ?_
    refine lv_iconst (v := 1) hx hb dX7_ran_24 (by decide) ?_
    refine lv_iadd hx hb dX7_ran_25 ?_
    refine lv_topi (fun u_3 e_u_3 => ?_)
    replace hf := nm_y hf e_u_3
    refine va_put (D := γ.1) (ci := 7) (v := .int u_3) (ty := .int) (C := RX7) (T := TX7) (N := 35) hx hb hU uin7 tyX7 tyX7_ok nmX7 hown hK hP (hD _ _) hS 0 rfl rfl 21 (by decide) (hU _ U990) (fun _ h9 => h9) rfl (by decide +kernel) rfl rfl (Nat.le_of_ble_eq_true rfl) dX7_ran_26 (fun H locs hP _ hS => ?_)
    obtain ⟨sm_4, e_sm_4, hf⟩ := nm_of hf
    replace hP : va_P γ.1 vwCl (wM γ am sm_4 sq) H := by rw [e_sm_4]; exact hP
    obtain rfl := Option.some.inj hf
    exact kt_vret C0 hP hS dX7_ran_29
  unfold f_X7_ran at hf
  refine lv_aload_n hx hb dX7_ran_0 rfl (lv_at hl 0 rfl) ?_
  refine va_get (D := γ.1) (ci := 7) (v := .int (sm 0 21)) (C := RX7) (T := TX7) (N := 35) hx hb hU uin7 hown hK hP 0 rfl rfl 21 (by decide) (hU _ U990) (fun _ h9 => h9) rfl dX7_ran_1 ?_
  refine lv_bipush (v := 20) hx hb dX7_ran_4 (by decide) ?_
  refine lv_icmp_ge (tgt := 19) hx hb dX7_ran_6 (by decide) (fun c_1 => ?_) (fun c_1 => ?_)
  · replace hf := ite_p c_1 hf
    exact J19 sm _ _ _ hf hP hS (lv_sub hl [0] rfl)
  · replace hf := ite_n c_1 hf
    refine lv_aload_n hx hb dX7_ran_9 rfl (lv_at hl 0 rfl) ?_
    refine va_get (D := γ.1) (ci := 7) (v := .ref (am 23)) (C := RX7) (T := TX7) (N := 35) hx hb hU uin7 hown hK hP 0 rfl rfl 22 (by decide) (hU _ U991) (fun _ h9 => h9) rfl dX7_ran_10 ?_
    refine lv_aload_n hx hb dX7_ran_13 rfl (lv_at hl 0 rfl) ?_
    refine va_get (D := γ.1) (ci := 7) (v := .int (sm 0 21)) (C := RX7) (T := TX7) (N := 35) hx hb hU uin7 hown hK hP 0 rfl rfl 21 (by decide) (hU _ U990) (fun _ h9 => h9) rfl dX7_ran_14 ?_
    refine lv_iload_n hx hb dX7_ran_17 rfl (lv_at hl 1 rfl) ?_
    obtain ⟨g_5, hf⟩ := gd_of hf
    refine va_iast hx hb hK hP (hD _ _) hS 16 0 rfl rfl (inB_vp g_5) dX7_ran_18 (fun H locs hP _ hS => ?_)
    obtain ⟨sm_6, e_sm_6, hf⟩ := nm_of hf
    replace hP : va_P γ.1 vwCl (wM γ am sm_6 sq) H := by rw [e_sm_6]; exact hP
    exact J19 sm_6 _ _ _ hf hP hS (lv_sub hl [0] rfl)
set_option maxHeartbeats 4000000 in
set_option maxRecDepth 100000 in
theorem c_X7_seesBy (l : Launch) (γ : Gm) (am : Nat → Nat) {sm : GS} {sq : Nat → Int64} {x1 : Int32} {x2 : Int32} {rv : Int32} {sm_z : GS} (hf : f_X7_seesBy sm x1 x2 = some (rv, sm_z)) : Kt l γ yX7_seesBy (Cond.code yX7_seesBy cX7_seesBy 5 (some .int) :: U) 1 21 [.ref (am 0), .int x1, .int x2] (wM γ am sm sq) (some (.int rv)) (wM γ am sm_z sq) := by
  refine Kt.of (by decide) rfl (Nat.le_of_ble_eq_true rfl) rfl ?_
  intro p e s m below meth c A ls C0 hP hD0 hS hl
  obtain ⟨hx, hb, hml, hown, hts, hr, hlocks, hK, hE, hA⟩ := id C0
  have hU : ∀ w ∈ U, w.before _ s = true := fun w h => hts w (List.mem_cons_of_mem _ h)
  have hD : ∀ (sm : GS) (sq : Nat → Int64), va_D A (wM γ am sm sq) := fun _ _ => hD0.fst rfl
  have hl : lv_has ls 5 [(0, .ref (am 0)), (1, .int x1), (2, .int x2)] := hl
  have J52 : ∀ (x1_26 : Int32) (x2_27 : Int32) (x3_28 : Int32) (sm_29 : GS) (H : Heap) (locs : List Loc) (ls : Array Slot), f_X7_seesBy_J52 x1_26 x2_27 x3_28 sm_29 = some (rv, sm_z) → va_P γ.1 vwCl (wM γ am sm_29 sq) H → va_S A s.heap H locs → lv_has ls 5 [(0, .ref (am 0)), (1, .int x1_26), (2, .int x2_27), (3, .int x3_28)] → W p l e (rmK 1 21) s m ([.ref (am 0), .int x1, .int x2] : List Value).toArray below meth c H locs 0 0 (MQ below (KQ γ A (some (.int rv)) (wM γ am sm_z sq)) ([.ref (am 0), .int x1, .int x2] : List Value).toArray s 0 0 A) (F0 m 52 ls []) := by
    intro x1_26 x2_27 x3_28 sm_29 H locs ls hf hP hS hl
    unfold f_X7_seesBy_J52 at hf
    refine lv_aload_n hx hb dX7_seesBy_52 rfl (lv_at hl 0 rfl) ?_
    refine lv_bipush (v := 10) hx hb dX7_seesBy_53 (by decide) ?_
    obtain ⟨sm_30, hg_31, hf⟩ := bd_of hf
    refine kt_V0 (As := [.int (10 : Int32)]) (rest := []) (st1 := []) (b := am 0) C0 (c_X7_ran l γ am hg_31) (cxV (nA := 1) hts goodU U1470 U1472 U80 U91 U1473 (by decide +kernel) ⟨Nat.le_of_ble_eq_true rfl, Nat.le_of_ble_eq_true rfl⟩) hP (hD _ _) hS hl dX7_seesBy_55 0 7 rfl rfl rfl rfl (Nat.le_of_ble_eq_true rfl) rfl rfl (fun H locs hP hS => ?_)
    refine lv_iload_n hx hb dX7_seesBy_58 rfl (lv_at hl 2 rfl) ?_
    refine lv_iload_n hx hb dX7_seesBy_59 rfl (lv_at hl 1 rfl) ?_
    refine lv_iadd hx hb dX7_seesBy_60 ?_
    refine lv_topi (fun u_32 e_u_32 => ?_)
    replace hf := nm_y hf e_u_32
    refine lv_istore (lv' := [(4, .int u_32), (0, .ref (am 0)), (1, .int x1_26), (2, .int x2_27), (3, .int x3_28)]) hx hb dX7_seesBy_61 hl (by decide) rfl (fun ls hl => ?_)
    refine lv_iload_n hx hb dX7_seesBy_63 rfl (lv_at hl 4 rfl) ?_
    refine lv_iconst (v := 1) hx hb dX7_seesBy_64 (by decide) ?_
    refine lv_icmp_eq (tgt := 73) hx hb dX7_seesBy_65 (by decide) (fun c_33 => ?_) (fun c_33 => ?_)
    · replace hf := ite_p c_33 hf
      refine lv_iload hx hb dX7_seesBy_73 (lv_at hl 0 rfl) ?_
      refine lv_aload_n hx hb dX7_seesBy_75 rfl (lv_at hl 1 rfl) ?_
      refine va_get (D := γ.1) (ci := 7) (v := .ref (am 6)) (C := RX7) (T := TX7) (N := 35) hx hb hU uin7 hown hK hP 0 rfl rfl 5 (by decide) (hU _ U974) (fun _ h9 => h9) rfl dX7_seesBy_76 ?_
      refine lv_iload_n hx hb dX7_seesBy_79 rfl (lv_at hl 2 rfl) ?_
      obtain ⟨g_34, hf⟩ := gd_of hf
      refine va_iald hx hb hK hP 5 0 rfl rfl (inB_vp g_34) dX7_seesBy_80 ?_
      refine lv_iadd hx hb dX7_seesBy_81 ?_
      obtain ⟨rfl, rfl⟩ := rt2 hf
      exact kt_iret C0 hP hS dX7_seesBy_82
    · replace hf := ite_n c_33 hf
      refine lv_iload_n hx hb dX7_seesBy_68 rfl (lv_at hl 4 rfl) ?_
      refine lv_iconst (v := 3) hx hb dX7_seesBy_69 (by decide) ?_
      refine lv_icmp_ne (tgt := 83) hx hb dX7_seesBy_70 (by decide) (fun c_35 => ?_) (fun c_35 => ?_)
      · replace hf := ite_n c_35 hf
        refine lv_iload_n hx hb dX7_seesBy_83 rfl (lv_at hl 4 rfl) ?_
        refine lv_iconst (v := 4) hx hb dX7_seesBy_84 (by decide) ?_
        refine lv_icmp_ne (tgt := 95) hx hb dX7_seesBy_85 (by decide) (fun c_36 => ?_) (fun c_36 => ?_)
        · replace hf := ite_n c_36 hf
          refine lv_iload_n hx hb dX7_seesBy_95 rfl (lv_at hl 4 rfl) ?_
          refine lv_bipush (v := 6) hx hb dX7_seesBy_96 (by decide) ?_
          refine lv_icmp_ne (tgt := 110) hx hb dX7_seesBy_98 (by decide) (fun c_37 => ?_) (fun c_37 => ?_)
          · replace hf := ite_n c_37 hf
            refine lv_iload hx hb dX7_seesBy_110 (lv_at hl 0 rfl) ?_
            obtain ⟨rfl, rfl⟩ := rt2 hf
            exact kt_iret C0 hP hS dX7_seesBy_112
          · replace hf := ite_p c_37 hf
            refine lv_iload hx hb dX7_seesBy_101 (lv_at hl 0 rfl) ?_
            refine lv_iload_n hx hb dX7_seesBy_103 rfl (lv_at hl 2 rfl) ?_
            refine lv_isub hx hb dX7_seesBy_104 ?_
            refine lv_iconst (v := 2) hx hb dX7_seesBy_105 (by decide) ?_
            refine lv_imul hx hb dX7_seesBy_106 ?_
            refine lv_goto (tgt := 112) hx hb dX7_seesBy_107 (by decide) ?_
            obtain ⟨rfl, rfl⟩ := rt2 hf
            exact kt_iret C0 hP hS dX7_seesBy_112
        · replace hf := ite_p c_36 hf
          refine lv_iload hx hb dX7_seesBy_88 (lv_at hl 0 rfl) ?_
          refine lv_iload_n hx hb dX7_seesBy_90 rfl (lv_at hl 2 rfl) ?_
          refine lv_isub hx hb dX7_seesBy_91 ?_
          refine lv_goto (tgt := 112) hx hb dX7_seesBy_92 (by decide) ?_
          obtain ⟨rfl, rfl⟩ := rt2 hf
          exact kt_iret C0 hP hS dX7_seesBy_112
      · replace hf := ite_p c_35 hf
        refine lv_iload hx hb dX7_seesBy_73 (lv_at hl 0 rfl) ?_
        refine lv_aload_n hx hb dX7_seesBy_75 rfl (lv_at hl 1 rfl) ?_
        refine va_get (D := γ.1) (ci := 7) (v := .ref (am 6)) (C := RX7) (T := TX7) (N := 35) hx hb hU uin7 hown hK hP 0 rfl rfl 5 (by decide) (hU _ U974) (fun _ h9 => h9) rfl dX7_seesBy_76 ?_
        refine lv_iload_n hx hb dX7_seesBy_79 rfl (lv_at hl 2 rfl) ?_
        obtain ⟨g_38, hf⟩ := gd_of hf
        refine va_iald hx hb hK hP 5 0 rfl rfl (inB_vp g_38) dX7_seesBy_80 ?_
        refine lv_iadd hx hb dX7_seesBy_81 ?_
        obtain ⟨rfl, rfl⟩ := rt2 hf
        exact kt_iret C0 hP hS dX7_seesBy_82
  have J46 : ∀ (x1_20 : Int32) (x2_21 : Int32) (x3_22 : Int32) (sm_23 : GS) (H : Heap) (locs : List Loc) (ls : Array Slot), f_X7_seesBy_J46 x1_20 x2_21 x3_22 sm_23 = some (rv, sm_z) → va_P γ.1 vwCl (wM γ am sm_23 sq) H → va_S A s.heap H locs → lv_has ls 5 [(0, .ref (am 0)), (1, .int x1_20), (2, .int x2_21), (3, .int x3_22)] → W p l e (rmK 1 21) s m ([.ref (am 0), .int x1, .int x2] : List Value).toArray below meth c H locs 0 0 (MQ below (KQ γ A (some (.int rv)) (wM γ am sm_z sq)) ([.ref (am 0), .int x1, .int x2] : List Value).toArray s 0 0 A) (F0 m 46 ls []) := by
    intro x1_20 x2_21 x3_22 sm_23 H locs ls hf hP hS hl
    unfold f_X7_seesBy_J46 at hf
    refine lv_aload_n hx hb dX7_seesBy_46 rfl (lv_at hl 0 rfl) ?_
    refine lv_bipush (v := 20) hx hb dX7_seesBy_47 (by decide) ?_
    obtain ⟨sm_24, hg_25, hf⟩ := bd_of hf
    refine kt_V0 (As := [.int (20 : Int32)]) (rest := []) (st1 := []) (b := am 0) C0 (c_X7_ran l γ am hg_25) (cxV (nA := 1) hts goodU U1470 U1472 U80 U91 U1473 (by decide +kernel) ⟨Nat.le_of_ble_eq_true rfl, Nat.le_of_ble_eq_true rfl⟩) hP (hD _ _) hS hl dX7_seesBy_49 0 7 rfl rfl rfl rfl (Nat.le_of_ble_eq_true rfl) rfl rfl (fun H locs hP hS => ?_)
    exact J52 x1_20 x2_21 x3_22 sm_24 _ _ _ hf hP hS (lv_sub hl [0, 1, 2, 3] rfl)
  have J36 : ∀ (x1_15 : Int32) (x2_16 : Int32) (x3_17 : Int32) (sm_18 : GS) (H : Heap) (locs : List Loc) (ls : Array Slot), f_X7_seesBy_J36 x1_15 x2_16 x3_17 sm_18 = some (rv, sm_z) → va_P γ.1 vwCl (wM γ am sm_18 sq) H → va_S A s.heap H locs → lv_has ls 5 [(0, .ref (am 0)), (1, .int x1_15), (2, .int x2_16), (3, .int x3_17)] → W p l e (rmK 1 21) s m ([.ref (am 0), .int x1, .int x2] : List Value).toArray below meth c H locs 0 0 (MQ below (KQ γ A (some (.int rv)) (wM γ am sm_z sq)) ([.ref (am 0), .int x1, .int x2] : List Value).toArray s 0 0 A) (F0 m 36 ls []) := by
    intro x1_15 x2_16 x3_17 sm_18 H locs ls hf hP hS hl
    unfold f_X7_seesBy_J36 at hf
    refine lv_iload_n hx hb dX7_seesBy_36 rfl (lv_at hl 3 rfl) ?_
    refine lv_iconst (v := 1) hx hb dX7_seesBy_37 (by decide) ?_
    refine lv_icmp_eq (tgt := 46) hx hb dX7_seesBy_38 (by decide) (fun c_19 => ?_) (fun c_19 => ?_)
    · replace hf := ite_p c_19 hf
      exact J46 x1_15 x2_16 x3_17 sm_18 _ _ _ hf hP hS (lv_sub hl [0, 1, 2, 3] rfl)
    · replace hf := ite_n c_19 hf
      refine lv_iload_n hx hb dX7_seesBy_41 rfl (lv_at hl 3 rfl) ?_
      refine lv_iconst (v := 3) hx hb dX7_seesBy_42 (by decide) ?_
      refine lv_icmp_ne (tgt := 52) hx hb dX7_seesBy_43 (by decide) (fun c_39 => ?_) (fun c_39 => ?_)
      · replace hf := ite_n c_39 hf
        exact J52 x1_15 x2_16 x3_17 sm_18 _ _ _ hf hP hS (lv_sub hl [0, 1, 2, 3] rfl)
      · replace hf := ite_p c_39 hf
        exact J46 x1_15 x2_16 x3_17 sm_18 _ _ _ hf hP hS (lv_sub hl [0, 1, 2, 3] rfl)
  have J30 : ∀ (x1_9 : Int32) (x2_10 : Int32) (x3_11 : Int32) (sm_12 : GS) (H : Heap) (locs : List Loc) (ls : Array Slot), f_X7_seesBy_J30 x1_9 x2_10 x3_11 sm_12 = some (rv, sm_z) → va_P γ.1 vwCl (wM γ am sm_12 sq) H → va_S A s.heap H locs → lv_has ls 5 [(0, .ref (am 0)), (1, .int x1_9), (2, .int x2_10), (3, .int x3_11)] → W p l e (rmK 1 21) s m ([.ref (am 0), .int x1, .int x2] : List Value).toArray below meth c H locs 0 0 (MQ below (KQ γ A (some (.int rv)) (wM γ am sm_z sq)) ([.ref (am 0), .int x1, .int x2] : List Value).toArray s 0 0 A) (F0 m 30 ls []) := by
    intro x1_9 x2_10 x3_11 sm_12 H locs ls hf hP hS hl
    unfold f_X7_seesBy_J30 at hf
    refine lv_aload_n hx hb dX7_seesBy_30 rfl (lv_at hl 0 rfl) ?_
    refine lv_bipush (v := 51) hx hb dX7_seesBy_31 (by decide) ?_
    obtain ⟨sm_13, hg_14, hf⟩ := bd_of hf
    refine kt_V0 (As := [.int (51 : Int32)]) (rest := []) (st1 := []) (b := am 0) C0 (c_X7_ran l γ am hg_14) (cxV (nA := 1) hts goodU U1470 U1472 U80 U91 U1473 (by decide +kernel) ⟨Nat.le_of_ble_eq_true rfl, Nat.le_of_ble_eq_true rfl⟩) hP (hD _ _) hS hl dX7_seesBy_33 0 7 rfl rfl rfl rfl (Nat.le_of_ble_eq_true rfl) rfl rfl (fun H locs hP hS => ?_)
    exact J36 x1_9 x2_10 x3_11 sm_13 _ _ _ hf hP hS (lv_sub hl [0, 1, 2, 3] rfl)
  have J19 : ∀ (x1_4 : Int32) (x2_5 : Int32) (x3_6 : Int32) (sm_7 : GS) (H : Heap) (locs : List Loc) (ls : Array Slot), f_X7_seesBy_J19 x1_4 x2_5 x3_6 sm_7 = some (rv, sm_z) → va_P γ.1 vwCl (wM γ am sm_7 sq) H → va_S A s.heap H locs → lv_has ls 5 [(0, .ref (am 0)), (1, .int x1_4), (2, .int x2_5), (3, .int x3_6)] → W p l e (rmK 1 21) s m ([.ref (am 0), .int x1, .int x2] : List Value).toArray below meth c H locs 0 0 (MQ below (KQ γ A (some (.int rv)) (wM γ am sm_z sq)) ([.ref (am 0), .int x1, .int x2] : List Value).toArray s 0 0 A) (F0 m 19 ls []) := by
    intro x1_4 x2_5 x3_6 sm_7 H locs ls hf hP hS hl
    unfold f_X7_seesBy_J19 at hf
    refine lv_iload_n hx hb dX7_seesBy_19 rfl (lv_at hl 3 rfl) ?_
    refine lv_iconst (v := 4) hx hb dX7_seesBy_20 (by decide) ?_
    refine lv_icmp_eq (tgt := 30) hx hb dX7_seesBy_21 (by decide) (fun c_8 => ?_) (fun c_8 => ?_)
    · replace hf := ite_p c_8 hf
      exact J30 x1_4 x2_5 x3_6 sm_7 _ _ _ hf hP hS (lv_sub hl [0, 1, 2, 3] rfl)
    · replace hf := ite_n c_8 hf
      refine lv_iload_n hx hb dX7_seesBy_24 rfl (lv_at hl 3 rfl) ?_
      refine lv_bipush (v := 6) hx hb dX7_seesBy_25 (by decide) ?_
      refine lv_icmp_ne (tgt := 36) hx hb dX7_seesBy_27 (by decide) (fun c_40 => ?_) (fun c_40 => ?_)
      · replace hf := ite_n c_40 hf
        exact J36 x1_4 x2_5 x3_6 sm_7 _ _ _ hf hP hS (lv_sub hl [0, 1, 2, 3] rfl)
      · replace hf := ite_p c_40 hf
        exact J30 x1_4 x2_5 x3_6 sm_7 _ _ _ hf hP hS (lv_sub hl [0, 1, 2, 3] rfl)
  unfold f_X7_seesBy at hf
  refine lv_aload_n hx hb dX7_seesBy_0 rfl (lv_at hl 0 rfl) ?_
  refine va_get (D := γ.1) (ci := 7) (v := .ref (am 5)) (C := RX7) (T := TX7) (N := 35) hx hb hU uin7 hown hK hP 0 rfl rfl 4 (by decide) (hU _ U973) (fun _ h9 => h9) rfl dX7_seesBy_1 ?_
  refine lv_iload_n hx hb dX7_seesBy_4 rfl (lv_at hl 1 rfl) ?_
  obtain ⟨g_1, hf⟩ := gd_of hf
  refine va_iald hx hb hK hP 4 0 rfl rfl (inB_vp g_1) dX7_seesBy_5 ?_
  refine lv_topi (fun u_2 e_u_2 => ?_)
  replace hf := nm_y hf e_u_2
  refine lv_istore_n (lv' := [(3, .int u_2), (0, .ref (am 0)), (1, .int x1), (2, .int x2)]) hx hb dX7_seesBy_6 rfl hl (by decide) rfl (fun ls hl => ?_)
  refine lv_iload_n hx hb dX7_seesBy_7 rfl (lv_at hl 0 rfl) ?_
  refine lv_bipush (v := 6) hx hb dX7_seesBy_8 (by decide) ?_
  refine lv_icmp_ne (tgt := 19) hx hb dX7_seesBy_10 (by decide) (fun c_3 => ?_) (fun c_3 => ?_)
  · replace hf := ite_n c_3 hf
    exact J19 x1 x2 u_2 sm _ _ _ hf hP hS (lv_sub hl [1, 2, 3, 0] rfl)
  · replace hf := ite_p c_3 hf
    refine lv_aload_n hx hb dX7_seesBy_13 rfl (lv_at hl 1 rfl) ?_
    refine lv_bipush (v := 70) hx hb dX7_seesBy_14 (by decide) ?_
    obtain ⟨sm_41, hg_42, hf⟩ := bd_of hf
    refine kt_V0 (As := [.int (70 : Int32)]) (rest := []) (st1 := []) (b := am 0) C0 (c_X7_ran l γ am hg_42) (cxV (nA := 1) hts goodU U1470 U1472 U80 U91 U1473 (by decide +kernel) ⟨Nat.le_of_ble_eq_true rfl, Nat.le_of_ble_eq_true rfl⟩) hP (hD _ _) hS hl dX7_seesBy_16 0 7 rfl rfl rfl rfl (Nat.le_of_ble_eq_true rfl) rfl rfl (fun H locs hP hS => ?_)
    exact J19 x1 x2 u_2 sm_41 _ _ _ hf hP hS (lv_sub hl [1, 2, 3, 0] rfl)
set_option maxHeartbeats 4000000 in
set_option maxRecDepth 100000 in
theorem c_X7_mournsBy (l : Launch) (γ : Gm) (am : Nat → Nat) {sm : GS} {sq : Nat → Int64} {x1 : Int32} {x2 : Int32} {rv : Int32} {sm_z : GS} (hf : f_X7_mournsBy sm x1 x2 = some (rv, sm_z)) : Kt l γ yX7_mournsBy (Cond.code yX7_mournsBy cX7_mournsBy 6 (some .int) :: U) 2 45 [.ref (am 0), .int x1, .int x2] (wM γ am sm sq) (some (.int rv)) (wM γ am sm_z sq) := by
  refine Kt.of (by decide) rfl (Nat.le_of_ble_eq_true rfl) rfl ?_
  intro p e s m below meth c A ls C0 hP hD0 hS hl
  obtain ⟨hx, hb, hml, hown, hts, hr, hlocks, hK, hE, hA⟩ := id C0
  have hU : ∀ w ∈ U, w.before _ s = true := fun w h => hts w (List.mem_cons_of_mem _ h)
  have hD : ∀ (sm : GS) (sq : Nat → Int64), va_D A (wM γ am sm sq) := fun _ _ => hD0.fst rfl
  have hl : lv_has ls 6 [(0, .ref (am 0)), (1, .int x1), (2, .int x2)] := hl
  have J64 : ∀ (x1_21 : Int32) (x3_22 : Int32) (x4_23 : Int32) (sm_24 : GS) (H : Heap) (locs : List Loc) (ls : Array Slot), f_X7_mournsBy_J64 x1_21 x3_22 x4_23 sm_24 = some (rv, sm_z) → va_P γ.1 vwCl (wM γ am sm_24 sq) H → va_S A s.heap H locs → lv_has ls 6 [(0, .ref (am 0)), (1, .int x1_21), (3, .int x3_22), (4, .int x4_23)] → W p l e (rmK 2 45) s m ([.ref (am 0), .int x1, .int x2] : List Value).toArray below meth c H locs 0 0 (MQ below (KQ γ A (some (.int rv)) (wM γ am sm_z sq)) ([.ref (am 0), .int x1, .int x2] : List Value).toArray s 0 0 A) (F0 m 64 ls []) := by
    intro x1_21 x3_22 x4_23 sm_24 H locs ls hf hP hS hl
    unfold f_X7_mournsBy_J64 at hf
    refine lv_aload_n hx hb dX7_mournsBy_64 rfl (lv_at hl 0 rfl) ?_
    refine lv_bipush (v := 11) hx hb dX7_mournsBy_65 (by decide) ?_
    obtain ⟨sm_25, hg_26, hf⟩ := bd_of hf
    refine kt_V0 (As := [.int (11 : Int32)]) (rest := []) (st1 := []) (b := am 0) C0 (c_X7_ran l γ am hg_26) (cxV (nA := 1) hts goodU U1470 U1472 U80 U91 U1473 (by decide +kernel) ⟨Nat.le_of_ble_eq_true rfl, Nat.le_of_ble_eq_true rfl⟩) hP (hD _ _) hS hl dX7_mournsBy_67 0 7 rfl rfl rfl rfl (Nat.le_of_ble_eq_true rfl) rfl rfl (fun H locs hP hS => ?_)
    refine lv_aload_n hx hb dX7_mournsBy_70 rfl (lv_at hl 0 rfl) ?_
    refine lv_iload_n hx hb dX7_mournsBy_71 rfl (lv_at hl 1 rfl) ?_
    refine lv_iload hx hb dX7_mournsBy_72 (lv_at hl 3 rfl) ?_
    obtain ⟨r_27, sm_28, hg_29, hf⟩ := bd2_of hf
    refine kt_V0 (As := [.int x1_21, .int x4_23]) (rest := []) (st1 := [.int r_27]) (b := am 0) C0 (c_X7_seesBy l γ am hg_29) (cxV (nA := 2) hts goodU U1466 U1468 U79 U91 U1469 (by decide +kernel) ⟨Nat.le_of_ble_eq_true rfl, Nat.le_of_ble_eq_true rfl⟩) hP (hD _ _) hS hl dX7_mournsBy_74 0 7 rfl rfl rfl rfl (Nat.le_of_ble_eq_true rfl) rfl rfl (fun H locs hP hS => ?_)
    refine lv_iconst (v := 2) hx hb dX7_mournsBy_77 (by decide) ?_
    refine lv_imul hx hb dX7_mournsBy_78 ?_
    refine lv_topi (fun u_30 e_u_30 => ?_)
    replace hf := nm_y hf e_u_30
    refine lv_istore (lv' := [(5, .int u_30), (0, .ref (am 0)), (1, .int x1_21), (3, .int x3_22), (4, .int x4_23)]) hx hb dX7_mournsBy_79 hl (by decide) rfl (fun ls hl => ?_)
    refine lv_iload_n hx hb dX7_mournsBy_81 rfl (lv_at hl 3 rfl) ?_
    refine lv_iconst (v := 2) hx hb dX7_mournsBy_82 (by decide) ?_
    refine lv_icmp_eq (tgt := 91) hx hb dX7_mournsBy_83 (by decide) (fun c_31 => ?_) (fun c_31 => ?_)
    · replace hf := ite_p c_31 hf
      refine lv_iload hx hb dX7_mournsBy_91 (lv_at hl 0 rfl) ?_
      refine lv_iconst (v := 3) hx hb dX7_mournsBy_93 (by decide) ?_
      refine lv_imul hx hb dX7_mournsBy_94 ?_
      refine lv_goto (tgt := 100) hx hb dX7_mournsBy_95 (by decide) ?_
      obtain ⟨rfl, rfl⟩ := rt2 hf
      exact kt_iret C0 hP hS dX7_mournsBy_100
    · replace hf := ite_n c_31 hf
      refine lv_iload_n hx hb dX7_mournsBy_86 rfl (lv_at hl 3 rfl) ?_
      refine lv_iconst (v := 5) hx hb dX7_mournsBy_87 (by decide) ?_
      refine lv_icmp_ne (tgt := 98) hx hb dX7_mournsBy_88 (by decide) (fun c_32 => ?_) (fun c_32 => ?_)
      · replace hf := ite_n c_32 hf
        refine lv_iload hx hb dX7_mournsBy_98 (lv_at hl 0 rfl) ?_
        obtain ⟨rfl, rfl⟩ := rt2 hf
        exact kt_iret C0 hP hS dX7_mournsBy_100
      · replace hf := ite_p c_32 hf
        refine lv_iload hx hb dX7_mournsBy_91 (lv_at hl 0 rfl) ?_
        refine lv_iconst (v := 3) hx hb dX7_mournsBy_93 (by decide) ?_
        refine lv_imul hx hb dX7_mournsBy_94 ?_
        refine lv_goto (tgt := 100) hx hb dX7_mournsBy_95 (by decide) ?_
        obtain ⟨rfl, rfl⟩ := rt2 hf
        exact kt_iret C0 hP hS dX7_mournsBy_100
  have J58 : ∀ (x1_15 : Int32) (x3_16 : Int32) (x4_17 : Int32) (sm_18 : GS) (H : Heap) (locs : List Loc) (ls : Array Slot), f_X7_mournsBy_J58 x1_15 x3_16 x4_17 sm_18 = some (rv, sm_z) → va_P γ.1 vwCl (wM γ am sm_18 sq) H → va_S A s.heap H locs → lv_has ls 6 [(0, .ref (am 0)), (1, .int x1_15), (3, .int x3_16), (4, .int x4_17)] → W p l e (rmK 2 45) s m ([.ref (am 0), .int x1, .int x2] : List Value).toArray below meth c H locs 0 0 (MQ below (KQ γ A (some (.int rv)) (wM γ am sm_z sq)) ([.ref (am 0), .int x1, .int x2] : List Value).toArray s 0 0 A) (F0 m 58 ls []) := by
    intro x1_15 x3_16 x4_17 sm_18 H locs ls hf hP hS hl
    unfold f_X7_mournsBy_J58 at hf
    refine lv_aload_n hx hb dX7_mournsBy_58 rfl (lv_at hl 0 rfl) ?_
    refine lv_bipush (v := 30) hx hb dX7_mournsBy_59 (by decide) ?_
    obtain ⟨sm_19, hg_20, hf⟩ := bd_of hf
    refine kt_V0 (As := [.int (30 : Int32)]) (rest := []) (st1 := []) (b := am 0) C0 (c_X7_ran l γ am hg_20) (cxV (nA := 1) hts goodU U1470 U1472 U80 U91 U1473 (by decide +kernel) ⟨Nat.le_of_ble_eq_true rfl, Nat.le_of_ble_eq_true rfl⟩) hP (hD _ _) hS hl dX7_mournsBy_61 0 7 rfl rfl rfl rfl (Nat.le_of_ble_eq_true rfl) rfl rfl (fun H locs hP hS => ?_)
    exact J64 x1_15 x3_16 x4_17 sm_19 _ _ _ hf hP hS (lv_sub hl [0, 1, 2, 3] rfl)
  have J48 : ∀ (x1_10 : Int32) (x3_11 : Int32) (x4_12 : Int32) (sm_13 : GS) (H : Heap) (locs : List Loc) (ls : Array Slot), f_X7_mournsBy_J48 x1_10 x3_11 x4_12 sm_13 = some (rv, sm_z) → va_P γ.1 vwCl (wM γ am sm_13 sq) H → va_S A s.heap H locs → lv_has ls 6 [(0, .ref (am 0)), (1, .int x1_10), (3, .int x3_11), (4, .int x4_12)] → W p l e (rmK 2 45) s m ([.ref (am 0), .int x1, .int x2] : List Value).toArray below meth c H locs 0 0 (MQ below (KQ γ A (some (.int rv)) (wM γ am sm_z sq)) ([.ref (am 0), .int x1, .int x2] : List Value).toArray s 0 0 A) (F0 m 48 ls []) := by
    intro x1_10 x3_11 x4_12 sm_13 H locs ls hf hP hS hl
    unfold f_X7_mournsBy_J48 at hf
    refine lv_iload_n hx hb dX7_mournsBy_48 rfl (lv_at hl 2 rfl) ?_
    refine lv_iconst (v := 2) hx hb dX7_mournsBy_49 (by decide) ?_
    refine lv_icmp_eq (tgt := 58) hx hb dX7_mournsBy_50 (by decide) (fun c_14 => ?_) (fun c_14 => ?_)
    · replace hf := ite_p c_14 hf
      exact J58 x1_10 x3_11 x4_12 sm_13 _ _ _ hf hP hS (lv_sub hl [0, 1, 2, 3] rfl)
    · replace hf := ite_n c_14 hf
      refine lv_iload_n hx hb dX7_mournsBy_53 rfl (lv_at hl 2 rfl) ?_
      refine lv_iconst (v := 5) hx hb dX7_mournsBy_54 (by decide) ?_
      refine lv_icmp_ne (tgt := 64) hx hb dX7_mournsBy_55 (by decide) (fun c_33 => ?_) (fun c_33 => ?_)
      · replace hf := ite_n c_33 hf
        exact J64 x1_10 x3_11 x4_12 sm_13 _ _ _ hf hP hS (lv_sub hl [0, 1, 2, 3] rfl)
      · replace hf := ite_p c_33 hf
        exact J58 x1_10 x3_11 x4_12 sm_13 _ _ _ hf hP hS (lv_sub hl [0, 1, 2, 3] rfl)
  have J32 : ∀ (x1_4 : Int32) (x2_5 : Int32) (x3_6 : Int32) (x4_7 : Int32) (sm_8 : GS) (H : Heap) (locs : List Loc) (ls : Array Slot), f_X7_mournsBy_J32 x1_4 x2_5 x3_6 x4_7 sm_8 = some (rv, sm_z) → va_P γ.1 vwCl (wM γ am sm_8 sq) H → va_S A s.heap H locs → lv_has ls 6 [(0, .ref (am 0)), (1, .int x1_4), (2, .int x2_5), (3, .int x3_6), (4, .int x4_7)] → W p l e (rmK 2 45) s m ([.ref (am 0), .int x1, .int x2] : List Value).toArray below meth c H locs 0 0 (MQ below (KQ γ A (some (.int rv)) (wM γ am sm_z sq)) ([.ref (am 0), .int x1, .int x2] : List Value).toArray s 0 0 A) (F0 m 32 ls []) := by
    intro x1_4 x2_5 x3_6 x4_7 sm_8 H locs ls hf hP hS hl
    unfold f_X7_mournsBy_J32 at hf
    refine lv_iload_n hx hb dX7_mournsBy_32 rfl (lv_at hl 3 rfl) ?_
    refine lv_iconst (v := 3) hx hb dX7_mournsBy_33 (by decide) ?_
    refine lv_icmp_ne (tgt := 48) hx hb dX7_mournsBy_34 (by decide) (fun c_9 => ?_) (fun c_9 => ?_)
    · replace hf := ite_n c_9 hf
      exact J48 x1_4 x3_6 x4_7 sm_8 _ _ _ hf hP hS (lv_sub hl [0, 1, 3, 4] rfl)
    · replace hf := ite_p c_9 hf
      refine lv_aload_n hx hb dX7_mournsBy_37 rfl (lv_at hl 0 rfl) ?_
      refine lv_bipush (v := 40) hx hb dX7_mournsBy_38 (by decide) ?_
      obtain ⟨sm_34, hg_35, hf⟩ := bd_of hf
      refine kt_V0 (As := [.int (40 : Int32)]) (rest := []) (st1 := []) (b := am 0) C0 (c_X7_ran l γ am hg_35) (cxV (nA := 1) hts goodU U1470 U1472 U80 U91 U1473 (by decide +kernel) ⟨Nat.le_of_ble_eq_true rfl, Nat.le_of_ble_eq_true rfl⟩) hP (hD _ _) hS hl dX7_mournsBy_40 0 7 rfl rfl rfl rfl (Nat.le_of_ble_eq_true rfl) rfl rfl (fun H locs hP hS => ?_)
      refine lv_iload_n hx hb dX7_mournsBy_43 rfl (lv_at hl 2 rfl) ?_
      refine lv_iconst (v := 1) hx hb dX7_mournsBy_44 (by decide) ?_
      refine lv_iadd hx hb dX7_mournsBy_45 ?_
      refine lv_topi (fun u_36 e_u_36 => ?_)
      replace hf := nm_y hf e_u_36
      refine lv_istore (lv' := [(4, .int u_36), (0, .ref (am 0)), (1, .int x1_4), (2, .int x2_5), (3, .int x3_6)]) hx hb dX7_mournsBy_46 hl (by decide) rfl (fun ls hl => ?_)
      exact J48 x1_4 x3_6 u_36 sm_34 _ _ _ hf hP hS (lv_sub hl [1, 2, 4, 0] rfl)
  unfold f_X7_mournsBy at hf
  refine lv_aload_n hx hb dX7_mournsBy_0 rfl (lv_at hl 0 rfl) ?_
  refine va_get (D := γ.1) (ci := 7) (v := .ref (am 5)) (C := RX7) (T := TX7) (N := 35) hx hb hU uin7 hown hK hP 0 rfl rfl 4 (by decide) (hU _ U973) (fun _ h9 => h9) rfl dX7_mournsBy_1 ?_
  refine lv_iload_n hx hb dX7_mournsBy_4 rfl (lv_at hl 1 rfl) ?_
  obtain ⟨g_1, hf⟩ := gd_of hf
  refine va_iald hx hb hK hP 4 0 rfl rfl (inB_vp g_1) dX7_mournsBy_5 ?_
  refine lv_topi (fun u_2 e_u_2 => ?_)
  replace hf := nm_y hf e_u_2
  refine lv_istore_n (lv' := [(3, .int u_2), (0, .ref (am 0)), (1, .int x1), (2, .int x2)]) hx hb dX7_mournsBy_6 rfl hl (by decide) rfl (fun ls hl => ?_)
  refine lv_iload_n hx hb dX7_mournsBy_7 rfl (lv_at hl 3 rfl) ?_
  refine lv_istore (lv' := [(4, .int x2), (3, .int u_2), (0, .ref (am 0)), (1, .int x1), (2, .int x2)]) hx hb dX7_mournsBy_8 hl (by decide) rfl (fun ls hl => ?_)
  refine lv_iload_n hx hb dX7_mournsBy_10 rfl (lv_at hl 1 rfl) ?_
  refine lv_bipush (v := 6) hx hb dX7_mournsBy_11 (by decide) ?_
  refine lv_icmp_ne (tgt := 32) hx hb dX7_mournsBy_13 (by decide) (fun c_3 => ?_) (fun c_3 => ?_)
  · replace hf := ite_n c_3 hf
    exact J32 x1 x2 u_2 x2 sm _ _ _ hf hP hS (lv_sub hl [2, 3, 4, 1, 0] rfl)
  · replace hf := ite_p c_3 hf
    refine lv_aload_n hx hb dX7_mournsBy_16 rfl (lv_at hl 2 rfl) ?_
    refine lv_bipush (v := 71) hx hb dX7_mournsBy_17 (by decide) ?_
    obtain ⟨sm_37, hg_38, hf⟩ := bd_of hf
    refine kt_V0 (As := [.int (71 : Int32)]) (rest := []) (st1 := []) (b := am 0) C0 (c_X7_ran l γ am hg_38) (cxV (nA := 1) hts goodU U1470 U1472 U80 U91 U1473 (by decide +kernel) ⟨Nat.le_of_ble_eq_true rfl, Nat.le_of_ble_eq_true rfl⟩) hP (hD _ _) hS hl dX7_mournsBy_19 0 7 rfl rfl rfl rfl (Nat.le_of_ble_eq_true rfl) rfl rfl (fun H locs hP hS => ?_)
    refine lv_iload_n hx hb dX7_mournsBy_22 rfl (lv_at hl 4 rfl) ?_
    refine lv_aload_n hx hb dX7_mournsBy_23 rfl (lv_at hl 2 rfl) ?_
    refine va_get (D := γ.1) (ci := 7) (v := .ref (am 6)) (C := RX7) (T := TX7) (N := 35) hx hb hU uin7 hown hK hP 0 rfl rfl 5 (by decide) (hU _ U974) (fun _ h9 => h9) rfl dX7_mournsBy_24 ?_
    refine lv_iload_n hx hb dX7_mournsBy_27 rfl (lv_at hl 3 rfl) ?_
    obtain ⟨g_39, hf⟩ := gd_of hf
    refine va_iald hx hb hK hP 5 0 rfl rfl (inB_vp g_39) dX7_mournsBy_28 ?_
    refine lv_isub hx hb dX7_mournsBy_29 ?_
    refine lv_topi (fun u_40 e_u_40 => ?_)
    replace hf := nm_y hf e_u_40
    refine lv_istore (lv' := [(4, .int u_40), (3, .int u_2), (0, .ref (am 0)), (1, .int x1), (2, .int x2)]) hx hb dX7_mournsBy_30 hl (by decide) rfl (fun ls hl => ?_)
    exact J32 x1 x2 u_2 u_40 sm_37 _ _ _ hf hP hS (lv_sub hl [2, 3, 4, 1, 0] rfl)
set_option maxHeartbeats 4000000 in
set_option maxRecDepth 100000 in
theorem c_X7_leansBy (l : Launch) (γ : Gm) (am : Nat → Nat) {sm : GS} {sq : Nat → Int64} {x1 : Int32} {x2 : Int32} {rv : Int32} {sm_z : GS} (hf : f_X7_leansBy sm x1 x2 = some (rv, sm_z)) : Kt l γ yX7_leansBy (Cond.code yX7_leansBy cX7_leansBy 6 (some .int) :: U) 3 70 [.ref (am 0), .int x1, .int x2] (wM γ am sm sq) (some (.int rv)) (wM γ am sm_z sq) := by
  refine Kt.of (by decide) rfl (Nat.le_of_ble_eq_true rfl) rfl ?_
  intro p e s m below meth c A ls C0 hP hD0 hS hl
  obtain ⟨hx, hb, hml, hown, hts, hr, hlocks, hK, hE, hA⟩ := id C0
  have hU : ∀ w ∈ U, w.before _ s = true := fun w h => hts w (List.mem_cons_of_mem _ h)
  have hD : ∀ (sm : GS) (sq : Nat → Int64), va_D A (wM γ am sm sq) := fun _ _ => hD0.fst rfl
  have hl : lv_has ls 6 [(0, .ref (am 0)), (1, .int x1), (2, .int x2)] := hl
  have J35 : ∀ (x1_15 : Int32) (x2_16 : Int32) (x3_17 : Int32) (sm_18 : GS) (H : Heap) (locs : List Loc) (ls : Array Slot), f_X7_leansBy_J35 x1_15 x2_16 x3_17 sm_18 = some (rv, sm_z) → va_P γ.1 vwCl (wM γ am sm_18 sq) H → va_S A s.heap H locs → lv_has ls 6 [(0, .ref (am 0)), (1, .int x1_15), (2, .int x2_16), (3, .int x3_17)] → W p l e (rmK 3 70) s m ([.ref (am 0), .int x1, .int x2] : List Value).toArray below meth c H locs 0 0 (MQ below (KQ γ A (some (.int rv)) (wM γ am sm_z sq)) ([.ref (am 0), .int x1, .int x2] : List Value).toArray s 0 0 A) (F0 m 35 ls []) := by
    intro x1_15 x2_16 x3_17 sm_18 H locs ls hf hP hS hl
    unfold f_X7_leansBy_J35 at hf
    refine lv_aload_n hx hb dX7_leansBy_35 rfl (lv_at hl 0 rfl) ?_
    refine lv_bipush (v := 12) hx hb dX7_leansBy_36 (by decide) ?_
    obtain ⟨sm_19, hg_20, hf⟩ := bd_of hf
    refine kt_V0 (As := [.int (12 : Int32)]) (rest := []) (st1 := []) (b := am 0) C0 (c_X7_ran l γ am hg_20) (cxV (nA := 1) hts goodU U1470 U1472 U80 U91 U1473 (by decide +kernel) ⟨Nat.le_of_ble_eq_true rfl, Nat.le_of_ble_eq_true rfl⟩) hP (hD _ _) hS hl dX7_leansBy_38 0 7 rfl rfl rfl rfl (Nat.le_of_ble_eq_true rfl) rfl rfl (fun H locs hP hS => ?_)
    refine lv_aload_n hx hb dX7_leansBy_41 rfl (lv_at hl 0 rfl) ?_
    refine lv_iload_n hx hb dX7_leansBy_42 rfl (lv_at hl 1 rfl) ?_
    refine lv_iload_n hx hb dX7_leansBy_43 rfl (lv_at hl 2 rfl) ?_
    obtain ⟨r_21, sm_22, hg_23, hf⟩ := bd2_of hf
    refine kt_V0 (As := [.int x1_15, .int x2_16]) (rest := []) (st1 := [.int r_21]) (b := am 0) C0 (c_X7_mournsBy l γ am hg_23) (cxV (nA := 2) hts goodU U1474 U1476 U81 U91 U1477 (by decide +kernel) ⟨Nat.le_of_ble_eq_true rfl, Nat.le_of_ble_eq_true rfl⟩) hP (hD _ _) hS hl dX7_leansBy_44 0 7 rfl rfl rfl rfl (Nat.le_of_ble_eq_true rfl) rfl rfl (fun H locs hP hS => ?_)
    refine lv_istore (lv' := [(4, .int r_21), (0, .ref (am 0)), (1, .int x1_15), (2, .int x2_16), (3, .int x3_17)]) hx hb dX7_leansBy_47 hl (by decide) rfl (fun ls hl => ?_)
    refine lv_iload hx hb dX7_leansBy_49 (lv_at hl 0 rfl) ?_
    refine lv_aload_n hx hb dX7_leansBy_51 rfl (lv_at hl 1 rfl) ?_
    refine lv_iload_n hx hb dX7_leansBy_52 rfl (lv_at hl 2 rfl) ?_
    refine lv_iload_n hx hb dX7_leansBy_53 rfl (lv_at hl 3 rfl) ?_
    refine lv_aload_n hx hb dX7_leansBy_54 rfl (lv_at hl 1 rfl) ?_
    refine va_get (D := γ.1) (ci := 7) (v := .ref (am 6)) (C := RX7) (T := TX7) (N := 35) hx hb hU uin7 hown hK hP 0 rfl rfl 5 (by decide) (hU _ U974) (fun _ h9 => h9) rfl dX7_leansBy_55 ?_
    refine lv_iload_n hx hb dX7_leansBy_58 rfl (lv_at hl 2 rfl) ?_
    obtain ⟨g_24, hf⟩ := gd_of hf
    refine va_iald hx hb hK hP 5 0 rfl rfl (inB_vp g_24) dX7_leansBy_59 ?_
    refine lv_isub hx hb dX7_leansBy_60 ?_
    obtain ⟨r_25, sm_26, hg_27, hf⟩ := bd2_of hf
    refine kt_V0 (As := [.int x1_15, .int (x2_16 - (sm_22 6 x1_15.toNatClampNeg))]) (rest := [.int r_21]) (st1 := [.int r_25, .int r_21]) (b := am 0) C0 (c_X7_seesBy l γ am hg_27) (cxV (nA := 2) hts goodU U1466 U1468 U79 U91 U1469 (by decide +kernel) ⟨Nat.le_of_ble_eq_true rfl, Nat.le_of_ble_eq_true rfl⟩) hP (hD _ _) hS hl dX7_leansBy_61 0 7 rfl rfl rfl rfl (Nat.le_of_ble_eq_true rfl) rfl rfl (fun H locs hP hS => ?_)
    refine lv_ixor hx hb dX7_leansBy_64 ?_
    refine lv_topi (fun u_28 e_u_28 => ?_)
    replace hf := nm_y hf e_u_28
    refine lv_istore (lv' := [(5, .int u_28), (4, .int r_21), (0, .ref (am 0)), (1, .int x1_15), (2, .int x2_16), (3, .int x3_17)]) hx hb dX7_leansBy_65 hl (by decide) rfl (fun ls hl => ?_)
    refine lv_iload_n hx hb dX7_leansBy_67 rfl (lv_at hl 5 rfl) ?_
    refine lv_iconst (v := 4) hx hb dX7_leansBy_68 (by decide) ?_
    refine lv_icmp_eq (tgt := 78) hx hb dX7_leansBy_69 (by decide) (fun c_29 => ?_) (fun c_29 => ?_)
    · replace hf := ite_p c_29 hf
      refine lv_iload hx hb dX7_leansBy_78 (lv_at hl 0 rfl) ?_
      refine lv_ineg hx hb dX7_leansBy_80 ?_
      refine lv_goto (tgt := 98) hx hb dX7_leansBy_81 (by decide) ?_
      obtain ⟨rfl, rfl⟩ := rt2 hf
      exact kt_iret C0 hP hS dX7_leansBy_98
    · replace hf := ite_n c_29 hf
      refine lv_iload_n hx hb dX7_leansBy_72 rfl (lv_at hl 5 rfl) ?_
      refine lv_bipush (v := 6) hx hb dX7_leansBy_73 (by decide) ?_
      refine lv_icmp_ne (tgt := 84) hx hb dX7_leansBy_75 (by decide) (fun c_30 => ?_) (fun c_30 => ?_)
      · replace hf := ite_n c_30 hf
        refine lv_iload_n hx hb dX7_leansBy_84 rfl (lv_at hl 5 rfl) ?_
        refine lv_iconst (v := 5) hx hb dX7_leansBy_85 (by decide) ?_
        refine lv_icmp_ne (tgt := 96) hx hb dX7_leansBy_86 (by decide) (fun c_31 => ?_) (fun c_31 => ?_)
        · replace hf := ite_n c_31 hf
          refine lv_iload hx hb dX7_leansBy_96 (lv_at hl 0 rfl) ?_
          obtain ⟨rfl, rfl⟩ := rt2 hf
          exact kt_iret C0 hP hS dX7_leansBy_98
        · replace hf := ite_p c_31 hf
          refine lv_iload hx hb dX7_leansBy_89 (lv_at hl 0 rfl) ?_
          refine lv_iconst (v := 5) hx hb dX7_leansBy_91 (by decide) ?_
          refine lv_ixor hx hb dX7_leansBy_92 ?_
          refine lv_goto (tgt := 98) hx hb dX7_leansBy_93 (by decide) ?_
          obtain ⟨rfl, rfl⟩ := rt2 hf
          exact kt_iret C0 hP hS dX7_leansBy_98
      · replace hf := ite_p c_30 hf
        refine lv_iload hx hb dX7_leansBy_78 (lv_at hl 0 rfl) ?_
        refine lv_ineg hx hb dX7_leansBy_80 ?_
        refine lv_goto (tgt := 98) hx hb dX7_leansBy_81 (by decide) ?_
        obtain ⟨rfl, rfl⟩ := rt2 hf
        exact kt_iret C0 hP hS dX7_leansBy_98
  have J24 : ∀ (x1_10 : Int32) (x2_11 : Int32) (x3_12 : Int32) (sm_13 : GS) (H : Heap) (locs : List Loc) (ls : Array Slot), f_X7_leansBy_J24 x1_10 x2_11 x3_12 sm_13 = some (rv, sm_z) → va_P γ.1 vwCl (wM γ am sm_13 sq) H → va_S A s.heap H locs → lv_has ls 6 [(0, .ref (am 0)), (1, .int x1_10), (2, .int x2_11), (3, .int x3_12)] → W p l e (rmK 3 70) s m ([.ref (am 0), .int x1, .int x2] : List Value).toArray below meth c H locs 0 0 (MQ below (KQ γ A (some (.int rv)) (wM γ am sm_z sq)) ([.ref (am 0), .int x1, .int x2] : List Value).toArray s 0 0 A) (F0 m 24 ls []) := by
    intro x1_10 x2_11 x3_12 sm_13 H locs ls hf hP hS hl
    unfold f_X7_leansBy_J24 at hf
    refine lv_iload_n hx hb dX7_leansBy_24 rfl (lv_at hl 3 rfl) ?_
    refine lv_iconst (v := 5) hx hb dX7_leansBy_25 (by decide) ?_
    refine lv_icmp_ne (tgt := 35) hx hb dX7_leansBy_26 (by decide) (fun c_14 => ?_) (fun c_14 => ?_)
    · replace hf := ite_n c_14 hf
      exact J35 x1_10 x2_11 x3_12 sm_13 _ _ _ hf hP hS (lv_sub hl [0, 1, 2, 3] rfl)
    · replace hf := ite_p c_14 hf
      refine lv_aload_n hx hb dX7_leansBy_29 rfl (lv_at hl 0 rfl) ?_
      refine lv_bipush (v := 60) hx hb dX7_leansBy_30 (by decide) ?_
      obtain ⟨sm_32, hg_33, hf⟩ := bd_of hf
      refine kt_V0 (As := [.int (60 : Int32)]) (rest := []) (st1 := []) (b := am 0) C0 (c_X7_ran l γ am hg_33) (cxV (nA := 1) hts goodU U1470 U1472 U80 U91 U1473 (by decide +kernel) ⟨Nat.le_of_ble_eq_true rfl, Nat.le_of_ble_eq_true rfl⟩) hP (hD _ _) hS hl dX7_leansBy_32 0 7 rfl rfl rfl rfl (Nat.le_of_ble_eq_true rfl) rfl rfl (fun H locs hP hS => ?_)
      exact J35 x1_10 x2_11 x3_12 sm_32 _ _ _ hf hP hS (lv_sub hl [0, 1, 2, 3] rfl)
  have J18 : ∀ (x1_4 : Int32) (x2_5 : Int32) (x3_6 : Int32) (sm_7 : GS) (H : Heap) (locs : List Loc) (ls : Array Slot), f_X7_leansBy_J18 x1_4 x2_5 x3_6 sm_7 = some (rv, sm_z) → va_P γ.1 vwCl (wM γ am sm_7 sq) H → va_S A s.heap H locs → lv_has ls 6 [(0, .ref (am 0)), (1, .int x1_4), (2, .int x2_5), (3, .int x3_6)] → W p l e (rmK 3 70) s m ([.ref (am 0), .int x1, .int x2] : List Value).toArray below meth c H locs 0 0 (MQ below (KQ γ A (some (.int rv)) (wM γ am sm_z sq)) ([.ref (am 0), .int x1, .int x2] : List Value).toArray s 0 0 A) (F0 m 18 ls []) := by
    intro x1_4 x2_5 x3_6 sm_7 H locs ls hf hP hS hl
    unfold f_X7_leansBy_J18 at hf
    refine lv_aload_n hx hb dX7_leansBy_18 rfl (lv_at hl 0 rfl) ?_
    refine lv_bipush (v := 50) hx hb dX7_leansBy_19 (by decide) ?_
    obtain ⟨sm_8, hg_9, hf⟩ := bd_of hf
    refine kt_V0 (As := [.int (50 : Int32)]) (rest := []) (st1 := []) (b := am 0) C0 (c_X7_ran l γ am hg_9) (cxV (nA := 1) hts goodU U1470 U1472 U80 U91 U1473 (by decide +kernel) ⟨Nat.le_of_ble_eq_true rfl, Nat.le_of_ble_eq_true rfl⟩) hP (hD _ _) hS hl dX7_leansBy_21 0 7 rfl rfl rfl rfl (Nat.le_of_ble_eq_true rfl) rfl rfl (fun H locs hP hS => ?_)
    exact J24 x1_4 x2_5 x3_6 sm_8 _ _ _ hf hP hS (lv_sub hl [0, 1, 2, 3] rfl)
  unfold f_X7_leansBy at hf
  refine lv_aload_n hx hb dX7_leansBy_0 rfl (lv_at hl 0 rfl) ?_
  refine va_get (D := γ.1) (ci := 7) (v := .ref (am 5)) (C := RX7) (T := TX7) (N := 35) hx hb hU uin7 hown hK hP 0 rfl rfl 4 (by decide) (hU _ U973) (fun _ h9 => h9) rfl dX7_leansBy_1 ?_
  refine lv_iload_n hx hb dX7_leansBy_4 rfl (lv_at hl 1 rfl) ?_
  obtain ⟨g_1, hf⟩ := gd_of hf
  refine va_iald hx hb hK hP 4 0 rfl rfl (inB_vp g_1) dX7_leansBy_5 ?_
  refine lv_topi (fun u_2 e_u_2 => ?_)
  replace hf := nm_y hf e_u_2
  refine lv_istore_n (lv' := [(3, .int u_2), (0, .ref (am 0)), (1, .int x1), (2, .int x2)]) hx hb dX7_leansBy_6 rfl hl (by decide) rfl (fun ls hl => ?_)
  refine lv_iload_n hx hb dX7_leansBy_7 rfl (lv_at hl 0 rfl) ?_
  refine lv_iconst (v := 4) hx hb dX7_leansBy_8 (by decide) ?_
  refine lv_icmp_eq (tgt := 18) hx hb dX7_leansBy_9 (by decide) (fun c_3 => ?_) (fun c_3 => ?_)
  · replace hf := ite_p c_3 hf
    exact J18 x1 x2 u_2 sm _ _ _ hf hP hS (lv_sub hl [1, 2, 3, 0] rfl)
  · replace hf := ite_n c_3 hf
    refine lv_iload_n hx hb dX7_leansBy_12 rfl (lv_at hl 0 rfl) ?_
    refine lv_bipush (v := 6) hx hb dX7_leansBy_13 (by decide) ?_
    refine lv_icmp_ne (tgt := 24) hx hb dX7_leansBy_15 (by decide) (fun c_34 => ?_) (fun c_34 => ?_)
    · replace hf := ite_n c_34 hf
      exact J24 x1 x2 u_2 sm _ _ _ hf hP hS (lv_sub hl [1, 2, 3, 0] rfl)
    · replace hf := ite_p c_34 hf
      exact J18 x1 x2 u_2 sm _ _ _ hf hP hS (lv_sub hl [1, 2, 3, 0] rfl)
set_option maxHeartbeats 4000000 in
set_option maxRecDepth 100000 in
theorem c_X7_act (l : Launch) (γ : Gm) (am : Nat → Nat) {sm : GS} {sq : Nat → Int64} {x1 : Int32} {x2 : Int32} {x3 : Int32} {rv : Int32} {sm_z : GS} (hf : f_X7_act sm x1 x2 x3 = some (rv, sm_z)) : Kt l γ yX7_act (Cond.code yX7_act cX7_act 4 (some .int) :: U) 4 95 [.ref (am 0), .int x1, .int x2, .int x3] (wM γ am sm sq) (some (.int rv)) (wM γ am sm_z sq) := by
  refine Kt.of (by decide) rfl (Nat.le_of_ble_eq_true rfl) rfl ?_
  intro p e s m below meth c A ls C0 hP hD0 hS hl
  obtain ⟨hx, hb, hml, hown, hts, hr, hlocks, hK, hE, hA⟩ := id C0
  have hU : ∀ w ∈ U, w.before _ s = true := fun w h => hts w (List.mem_cons_of_mem _ h)
  have hD : ∀ (sm : GS) (sq : Nat → Int64), va_D A (wM γ am sm sq) := fun _ _ => hD0.fst rfl
  have hl : lv_has ls 4 [(0, .ref (am 0)), (1, .int x1), (2, .int x2), (3, .int x3)] := hl
  unfold f_X7_act at hf
  refine lv_aload_n hx hb dX7_act_0 rfl (lv_at hl 0 rfl) ?_
  refine lv_iconst (v := 0) hx hb dX7_act_1 (by decide) ?_
  refine va_put (D := γ.1) (ci := 7) (v := .int (0 : Int32)) (ty := .int) (C := RX7) (T := TX7) (N := 35) hx hb hU uin7 tyX7 tyX7_ok nmX7 hown hK hP (hD _ _) hS 0 rfl rfl 21 (by decide) (hU _ U990) (fun _ h9 => h9) rfl (by decide +kernel) rfl rfl (Nat.le_of_ble_eq_true rfl) dX7_act_2 (fun H locs hP _ hS => ?_)
  obtain ⟨sm_1, e_sm_1, hf⟩ := nm_of hf
  replace hP : va_P γ.1 vwCl (wM γ am sm_1 sq) H := by rw [e_sm_1]; exact hP
  refine lv_aload_n hx hb dX7_act_5 rfl (lv_at hl 0 rfl) ?_
  refine lv_iload_n hx hb dX7_act_6 rfl (lv_at hl 1 rfl) ?_
  obtain ⟨r_2, hg_3, hf⟩ := bd_of hf
  refine kt_V0 (As := [.int x1]) (rest := []) (st1 := [.int r_2]) (b := am 0) C0 (c_X7_isPeak l γ am hg_3) (cxV (nA := 1) hts goodU U1110 U1112 U33 U91 U1113 (by decide +kernel) ⟨Nat.le_of_ble_eq_true rfl, Nat.le_of_ble_eq_true rfl⟩) hP (hD _ _) hS hl dX7_act_7 0 7 rfl rfl rfl rfl (Nat.le_of_ble_eq_true rfl) rfl rfl (fun H locs hP hS => ?_)
  refine lv_if_eq (tgt := 22) hx hb dX7_act_10 (by decide) (fun c_4 => ?_) (fun c_4 => ?_)
  · replace hf := ite_p c_4 hf
    refine lv_iconst (v := 0) hx hb dX7_act_22 (by decide) ?_
    obtain ⟨rfl, rfl⟩ := rt2 hf
    exact kt_iret C0 hP hS dX7_act_23
  · replace hf := ite_n c_4 hf
    refine lv_iload_n hx hb dX7_act_13 rfl (lv_at hl 2 rfl) ?_
    refine lv_iconst (v := 0) hx hb dX7_act_14 (by decide) ?_
    refine lv_iconst (v := 2) hx hb dX7_act_15 (by decide) ?_
    obtain ⟨r_5, hg_6, hf⟩ := bd_of hf
    refine kt_SF (As := [.int x2, .int (0 : Int32), .int (2 : Int32)]) (rest := []) (st1 := [.int r_5]) (wc' := wM γ am sm_1 sq) C0 (c_X7_within l γ hg_6) (cxS (nA := 3) hts goodU U1079 U1080 U91 U1081 (by decide +kernel) ⟨Nat.le_of_ble_eq_true rfl, Nat.le_of_ble_eq_true rfl⟩) hP (hD _ _) hS hl dX7_act_16 foc_nil rfl (Nat.le_of_ble_eq_true rfl) rfl rfl (fun H locs hP hS => ?_)
    refine lv_if_ne (tgt := 24) hx hb dX7_act_19 (by decide) (fun c_7 => ?_) (fun c_7 => ?_)
    · replace hf := ite_n c_7 hf
      refine lv_iload_n hx hb dX7_act_24 rfl (lv_at hl 2 rfl) ?_
      refine lv_if_ne (tgt := 37) hx hb dX7_act_25 (by decide) (fun c_8 => ?_) (fun c_8 => ?_)
      · replace hf := ite_n c_8 hf
        refine lv_iload_n hx hb dX7_act_37 rfl (lv_at hl 2 rfl) ?_
        refine lv_iconst (v := 1) hx hb dX7_act_38 (by decide) ?_
        refine lv_icmp_ne (tgt := 51) hx hb dX7_act_39 (by decide) (fun c_9 => ?_) (fun c_9 => ?_)
        · replace hf := ite_n c_9 hf
          refine lv_aload_n hx hb dX7_act_51 rfl (lv_at hl 0 rfl) ?_
          refine lv_iload_n hx hb dX7_act_52 rfl (lv_at hl 1 rfl) ?_
          refine lv_iload_n hx hb dX7_act_53 rfl (lv_at hl 3 rfl) ?_
          obtain ⟨r_10, sm_11, hg_12, hf⟩ := bd2_of hf
          refine kt_V0 (As := [.int x1, .int x3]) (rest := []) (st1 := [.int r_10]) (b := am 0) C0 (c_X7_leansBy l γ am hg_12) (cxV (nA := 2) hts goodU U1478 U1480 U82 U91 U1481 (by decide +kernel) ⟨Nat.le_of_ble_eq_true rfl, Nat.le_of_ble_eq_true rfl⟩) hP (hD _ _) hS hl dX7_act_54 0 7 rfl rfl rfl rfl (Nat.le_of_ble_eq_true rfl) rfl rfl (fun H locs hP hS => ?_)
          obtain ⟨rfl, rfl⟩ := rt2 hf
          exact kt_iret C0 hP hS dX7_act_57
        · replace hf := ite_p c_9 hf
          refine lv_aload_n hx hb dX7_act_42 rfl (lv_at hl 0 rfl) ?_
          refine lv_iload_n hx hb dX7_act_43 rfl (lv_at hl 1 rfl) ?_
          refine lv_iload_n hx hb dX7_act_44 rfl (lv_at hl 3 rfl) ?_
          obtain ⟨r_13, sm_14, hg_15, hf⟩ := bd2_of hf
          refine kt_V0 (As := [.int x1, .int x3]) (rest := []) (st1 := [.int r_13]) (b := am 0) C0 (c_X7_mournsBy l γ am hg_15) (cxV (nA := 2) hts goodU U1474 U1476 U81 U91 U1477 (by decide +kernel) ⟨Nat.le_of_ble_eq_true rfl, Nat.le_of_ble_eq_true rfl⟩) hP (hD _ _) hS hl dX7_act_45 0 7 rfl rfl rfl rfl (Nat.le_of_ble_eq_true rfl) rfl rfl (fun H locs hP hS => ?_)
          refine lv_goto (tgt := 57) hx hb dX7_act_48 (by decide) ?_
          obtain ⟨rfl, rfl⟩ := rt2 hf
          exact kt_iret C0 hP hS dX7_act_57
      · replace hf := ite_p c_8 hf
        refine lv_aload_n hx hb dX7_act_28 rfl (lv_at hl 0 rfl) ?_
        refine lv_iload_n hx hb dX7_act_29 rfl (lv_at hl 1 rfl) ?_
        refine lv_iload_n hx hb dX7_act_30 rfl (lv_at hl 3 rfl) ?_
        obtain ⟨r_16, sm_17, hg_18, hf⟩ := bd2_of hf
        refine kt_V0 (As := [.int x1, .int x3]) (rest := []) (st1 := [.int r_16]) (b := am 0) C0 (c_X7_seesBy l γ am hg_18) (cxV (nA := 2) hts goodU U1466 U1468 U79 U91 U1469 (by decide +kernel) ⟨Nat.le_of_ble_eq_true rfl, Nat.le_of_ble_eq_true rfl⟩) hP (hD _ _) hS hl dX7_act_31 0 7 rfl rfl rfl rfl (Nat.le_of_ble_eq_true rfl) rfl rfl (fun H locs hP hS => ?_)
        refine lv_goto (tgt := 57) hx hb dX7_act_34 (by decide) ?_
        obtain ⟨rfl, rfl⟩ := rt2 hf
        exact kt_iret C0 hP hS dX7_act_57
    · replace hf := ite_p c_7 hf
      refine lv_iconst (v := 0) hx hb dX7_act_22 (by decide) ?_
      obtain ⟨rfl, rfl⟩ := rt2 hf
      exact kt_iret C0 hP hS dX7_act_23
set_option maxHeartbeats 4000000 in
set_option maxRecDepth 100000 in
theorem c_X7_trace (l : Launch) (γ : Gm) (am : Nat → Nat) {sm : GS} {sq : Nat → Int64} {x1 : Int32} {rv : Int32} (hf : f_X7_trace sm x1 = some rv) : Kt l γ yX7_trace (Cond.code yX7_trace cX7_trace 2 (some .int) :: U) 0 0 [.ref (am 0), .int x1] (wM γ am sm sq) (some (.int rv)) (wM γ am sm sq) := by
  refine Kt.of (by decide) rfl (Nat.le_of_ble_eq_true rfl) rfl ?_
  intro p e s m below meth c A ls C0 hP hD0 hS hl
  obtain ⟨hx, hb, hml, hown, hts, hr, hlocks, hK, hE, hA⟩ := id C0
  have hU : ∀ w ∈ U, w.before _ s = true := fun w h => hts w (List.mem_cons_of_mem _ h)
  have hD : ∀ (sm : GS) (sq : Nat → Int64), va_D A (wM γ am sm sq) := fun _ _ => hD0.fst rfl
  have hl : lv_has ls 2 [(0, .ref (am 0)), (1, .int x1)] := hl
  unfold f_X7_trace at hf
  refine lv_iload_n hx hb dX7_trace_0 rfl (lv_at hl 1 rfl) ?_
  refine lv_if_lt (tgt := 27) hx hb dX7_trace_1 (by decide) (fun c_1 => ?_) (fun c_1 => ?_)
  · replace hf := ite_p c_1 hf
    refine lv_iconst (v := -1) hx hb dX7_trace_27 (by decide) ?_
    obtain rfl := Option.some.inj hf
    exact kt_iret C0 hP hS dX7_trace_28
  · replace hf := ite_n c_1 hf
    refine lv_iload_n hx hb dX7_trace_4 rfl (lv_at hl 1 rfl) ?_
    refine lv_aload_n hx hb dX7_trace_5 rfl (lv_at hl 0 rfl) ?_
    refine va_get (D := γ.1) (ci := 7) (v := .int (sm 0 21)) (C := RX7) (T := TX7) (N := 35) hx hb hU uin7 hown hK hP 0 rfl rfl 21 (by decide) (hU _ U990) (fun _ h9 => h9) rfl dX7_trace_6 ?_
    refine lv_icmp_ge (tgt := 27) hx hb dX7_trace_9 (by decide) (fun c_2 => ?_) (fun c_2 => ?_)
    · replace hf := ite_p c_2 hf
      refine lv_iconst (v := -1) hx hb dX7_trace_27 (by decide) ?_
      obtain rfl := Option.some.inj hf
      exact kt_iret C0 hP hS dX7_trace_28
    · replace hf := ite_n c_2 hf
      refine lv_iload_n hx hb dX7_trace_12 rfl (lv_at hl 1 rfl) ?_
      refine lv_bipush (v := 20) hx hb dX7_trace_13 (by decide) ?_
      refine lv_icmp_ge (tgt := 27) hx hb dX7_trace_15 (by decide) (fun c_3 => ?_) (fun c_3 => ?_)
      · replace hf := ite_p c_3 hf
        refine lv_iconst (v := -1) hx hb dX7_trace_27 (by decide) ?_
        obtain rfl := Option.some.inj hf
        exact kt_iret C0 hP hS dX7_trace_28
      · replace hf := ite_n c_3 hf
        refine lv_aload_n hx hb dX7_trace_18 rfl (lv_at hl 0 rfl) ?_
        refine va_get (D := γ.1) (ci := 7) (v := .ref (am 23)) (C := RX7) (T := TX7) (N := 35) hx hb hU uin7 hown hK hP 0 rfl rfl 22 (by decide) (hU _ U991) (fun _ h9 => h9) rfl dX7_trace_19 ?_
        refine lv_iload_n hx hb dX7_trace_22 rfl (lv_at hl 1 rfl) ?_
        obtain ⟨g_4, hf⟩ := gd_of hf
        refine va_iald hx hb hK hP 16 0 rfl rfl (inB_vp g_4) dX7_trace_23 ?_
        refine lv_goto (tgt := 28) hx hb dX7_trace_24 (by decide) ?_
        obtain rfl := Option.some.inj hf
        exact kt_iret C0 hP hS dX7_trace_28
set_option maxHeartbeats 4000000 in
set_option maxRecDepth 100000 in
theorem c_X7_image (l : Launch) (γ : Gm) (am : Nat → Nat) {sm : GS} {sq : Nat → Int64} {rv : Int32} {sm_z : GS} (hf : f_X7_image sm = some (rv, sm_z)) : Kt l γ yX7_image (Cond.code yX7_image cX7_image 1 (some .int) :: U) 1 22 [.ref (am 0)] (wM γ am sm sq) (some (.int rv)) (wM γ am sm_z sq) := by
  refine Kt.of (by decide) rfl (Nat.le_of_ble_eq_true rfl) rfl ?_
  intro p e s m below meth c A ls C0 hP hD0 hS hl
  obtain ⟨hx, hb, hml, hown, hts, hr, hlocks, hK, hE, hA⟩ := id C0
  have hU : ∀ w ∈ U, w.before _ s = true := fun w h => hts w (List.mem_cons_of_mem _ h)
  have hD : ∀ (sm : GS) (sq : Nat → Int64), va_D A (wM γ am sm sq) := fun _ _ => hD0.fst rfl
  have hl : lv_has ls 1 [(0, .ref (am 0))] := hl
  unfold f_X7_image at hf
  refine lv_aload_n hx hb dX7_image_0 rfl (lv_at hl 0 rfl) ?_
  refine lv_iconst (v := 1) hx hb dX7_image_1 (by decide) ?_
  refine va_put (D := γ.1) (ci := 7) (v := .int (1 : Int32)) (ty := .boolean) (C := RX7) (T := TX7) (N := 35) hx hb hU uin7 tyX7 tyX7_ok nmX7 hown hK hP (hD _ _) hS 0 rfl rfl 23 (by decide) (hU _ U992) (fun _ h9 => h9) rfl (by decide +kernel) rfl rfl (Nat.le_of_ble_eq_true rfl) dX7_image_2 (fun H locs hP _ hS => ?_)
  obtain ⟨sm_1, e_sm_1, hf⟩ := nm_of hf
  replace hP : va_P γ.1 vwCl (wM γ am sm_1 sq) H := by rw [e_sm_1]; exact hP
  refine lv_aload_n hx hb dX7_image_5 rfl (lv_at hl 0 rfl) ?_
  refine lv_aload_n hx hb dX7_image_6 rfl (lv_at hl 0 rfl) ?_
  refine va_get (D := γ.1) (ci := 7) (v := .ref (am 25)) (C := RX7) (T := TX7) (N := 35) hx hb hU uin7 hown hK hP 0 rfl rfl 24 (by decide) (hU _ U993) (fun _ h9 => h9) rfl dX7_image_7 ?_
  obtain ⟨sm_2, hg_3, hf⟩ := bd_of hf
  refine kt_V0 (As := [.ref (am 25)]) (rest := []) (st1 := []) (b := am 0) C0 (c_X7_keep_25 l γ am hg_3) (cxV (nA := 1) hts goodU U1228 U1230 U49 U91 U1231 (by decide +kernel) ⟨Nat.le_of_ble_eq_true rfl, Nat.le_of_ble_eq_true rfl⟩) hP (hD _ _) hS hl dX7_image_10 0 7 rfl rfl rfl rfl (Nat.le_of_ble_eq_true rfl) rfl rfl (fun H locs hP hS => ?_)
  refine lv_aload_n hx hb dX7_image_13 rfl (lv_at hl 0 rfl) ?_
  refine va_get (D := γ.1) (ci := 7) (v := .int (sm_2 0 3)) (C := RX7) (T := TX7) (N := 35) hx hb hU uin7 hown hK hP 0 rfl rfl 3 (by decide) (hU _ U972) (fun _ h9 => h9) rfl dX7_image_14 ?_
  obtain ⟨rfl, rfl⟩ := rt2 hf
  exact kt_iret C0 hP hS dX7_image_17
set_option maxHeartbeats 4000000 in
set_option maxRecDepth 100000 in
theorem c_X7_restore (l : Launch) (γ : Gm) (am : Nat → Nat) {sm : GS} {sq : Nat → Int64} {rv : Int32} {sm_z : GS} (hf : f_X7_restore sm = some (rv, sm_z)) : Kt l γ yX7_restore (Cond.code yX7_restore cX7_restore 2 (some .int) :: U) 1 22 [.ref (am 0)] (wM γ am sm sq) (some (.int rv)) (wM γ am sm_z sq) := by
  refine Kt.of (by decide) rfl (Nat.le_of_ble_eq_true rfl) rfl ?_
  intro p e s m below meth c A ls C0 hP hD0 hS hl
  obtain ⟨hx, hb, hml, hown, hts, hr, hlocks, hK, hE, hA⟩ := id C0
  have hU : ∀ w ∈ U, w.before _ s = true := fun w h => hts w (List.mem_cons_of_mem _ h)
  have hD : ∀ (sm : GS) (sq : Nat → Int64), va_D A (wM γ am sm sq) := fun _ _ => hD0.fst rfl
  have hl : lv_has ls 2 [(0, .ref (am 0))] := hl
  have L24 : ∀ (n : Nat) (x1_4 : Int32) (sm_5 : GS) (H : Heap) (locs : List Loc) (ls : Array Slot), f_X7_restore_L24 n x1_4 sm_5 = some (rv, sm_z) → va_P γ.1 vwCl (wM γ am sm_5 sq) H → va_S A s.heap H locs → lv_has ls 2 [(0, .ref (am 0)), (1, .int x1_4)] → W p l e (rmK 1 22) s m ([.ref (am 0)] : List Value).toArray below meth c H locs 0 0 (MQ below (KQ γ A (some (.int rv)) (wM γ am sm_z sq)) ([.ref (am 0)] : List Value).toArray s 0 0 A) (F0 m 24 ls []) := by
    intro n
    induction n with
    | zero =>
      intro x1_4 sm_5 H locs ls hf
      have hf : none = some _ := hf
      cases hf
    | succ n ih =>
      intro x1_4 sm_5 H locs ls hf hP hS hl
      rw [f_X7_restore_L24.eq_2] at hf
      refine lv_iload_n hx hb dX7_restore_24 rfl (lv_at hl 1 rfl) ?_
      refine lv_bipush (v := 8) hx hb dX7_restore_25 (by decide) ?_
      refine lv_icmp_ge (tgt := 64) hx hb dX7_restore_27 (by decide) (fun c_6 => ?_) (fun c_6 => ?_)
      · replace hf := ite_p c_6 hf
        refine lv_aload_n hx hb dX7_restore_64 rfl (lv_at hl 0 rfl) ?_
        refine va_get (D := γ.1) (ci := 7) (v := .int (sm_5 0 3)) (C := RX7) (T := TX7) (N := 35) hx hb hU uin7 hown hK hP 0 rfl rfl 3 (by decide) (hU _ U972) (fun _ h9 => h9) rfl dX7_restore_65 ?_
        obtain ⟨rfl, rfl⟩ := rt2 hf
        exact kt_iret C0 hP hS dX7_restore_68
      · replace hf := ite_n c_6 hf
        refine lv_aload_n hx hb dX7_restore_30 rfl (lv_at hl 0 rfl) ?_
        refine lv_iload_n hx hb dX7_restore_31 rfl (lv_at hl 1 rfl) ?_
        obtain ⟨r_7, hg_8, hf⟩ := bd_of hf
        refine kt_V0 (As := [.int x1_4]) (rest := []) (st1 := [.int r_7]) (b := am 0) C0 (c_X7_isRow l γ am hg_8) (cxV (nA := 1) hts goodU U1094 U1096 U32 U91 U1097 (by decide +kernel) ⟨Nat.le_of_ble_eq_true rfl, Nat.le_of_ble_eq_true rfl⟩) hP (hD _ _) hS hl dX7_restore_32 0 7 rfl rfl rfl rfl (Nat.le_of_ble_eq_true rfl) rfl rfl (fun H locs hP hS => ?_)
        refine lv_if_ne (tgt := 58) hx hb dX7_restore_35 (by decide) (fun c_9 => ?_) (fun c_9 => ?_)
        · replace hf := ite_n c_9 hf
          obtain ⟨x1_10, e_x1_10⟩ : ∃ y : Int32, y = x1_4 + (1 : Int32) := ⟨_, rfl⟩
          replace hf := nm_y hf e_x1_10
          refine lv_iinc (v := x1_10) (lv' := [(1, .int x1_10), (0, .ref (am 0))]) hx hb dX7_restore_58 hl (k := 1) rfl (by rw [e_x1_10]; rfl) (by decide) rfl (fun ls hl => ?_)
          refine lv_goto (tgt := 24) hx hb dX7_restore_61 (by decide) ?_
          exact ih x1_10 sm_5 _ _ _ hf hP hS (lv_sub hl [1, 0] rfl)
        · replace hf := ite_p c_9 hf
          refine lv_aload_n hx hb dX7_restore_38 rfl (lv_at hl 0 rfl) ?_
          refine va_get (D := γ.1) (ci := 7) (v := .ref (am 1)) (C := RX7) (T := TX7) (N := 35) hx hb hU uin7 hown hK hP 0 rfl rfl 0 (by decide) (hU _ U969) (fun _ h9 => h9) rfl dX7_restore_39 ?_
          refine lv_iload_n hx hb dX7_restore_42 rfl (lv_at hl 1 rfl) ?_
          obtain ⟨g_11, hf⟩ := gd_of hf
          refine va_iald hx hb hK hP 1 0 rfl rfl (inB_vp g_11) dX7_restore_43 ?_
          refine lv_aload_n hx hb dX7_restore_44 rfl (lv_at hl 0 rfl) ?_
          refine va_get (D := γ.1) (ci := 7) (v := .int (sm_5 0 3)) (C := RX7) (T := TX7) (N := 35) hx hb hU uin7 hown hK hP 0 rfl rfl 3 (by decide) (hU _ U972) (fun _ h9 => h9) rfl dX7_restore_45 ?_
          refine lv_icmp_lt (tgt := 58) hx hb dX7_restore_48 (by decide) (fun c_12 => ?_) (fun c_12 => ?_)
          · replace hf := ite_p c_12 hf
            obtain ⟨x1_13, e_x1_13⟩ : ∃ y : Int32, y = x1_4 + (1 : Int32) := ⟨_, rfl⟩
            replace hf := nm_y hf e_x1_13
            refine lv_iinc (v := x1_13) (lv' := [(1, .int x1_13), (0, .ref (am 0))]) hx hb dX7_restore_58 hl (k := 1) rfl (by rw [e_x1_13]; rfl) (by decide) rfl (fun ls hl => ?_)
            refine lv_goto (tgt := 24) hx hb dX7_restore_61 (by decide) ?_
            exact ih x1_13 sm_5 _ _ _ hf hP hS (lv_sub hl [1, 0] rfl)
          · replace hf := ite_n c_12 hf
            refine lv_aload_n hx hb dX7_restore_51 rfl (lv_at hl 0 rfl) ?_
            refine va_get (D := γ.1) (ci := 7) (v := .ref (am 1)) (C := RX7) (T := TX7) (N := 35) hx hb hU uin7 hown hK hP 0 rfl rfl 0 (by decide) (hU _ U969) (fun _ h9 => h9) rfl dX7_restore_52 ?_
            refine lv_iload_n hx hb dX7_restore_55 rfl (lv_at hl 1 rfl) ?_
            refine lv_iconst (v := -1) hx hb dX7_restore_56 (by decide) ?_
            obtain ⟨g_14, hf⟩ := gd_of hf
            refine va_iast hx hb hK hP (hD _ _) hS 1 0 rfl rfl (inB_vp g_14) dX7_restore_57 (fun H locs hP _ hS => ?_)
            obtain ⟨sm_15, e_sm_15, hf⟩ := nm_of hf
            replace hP : va_P γ.1 vwCl (wM γ am sm_15 sq) H := by rw [e_sm_15]; exact hP
            obtain ⟨x1_16, e_x1_16⟩ : ∃ y : Int32, y = x1_4 + (1 : Int32) := ⟨_, rfl⟩
            replace hf := nm_y hf e_x1_16
            refine lv_iinc (v := x1_16) (lv' := [(1, .int x1_16), (0, .ref (am 0))]) hx hb dX7_restore_58 hl (k := 1) rfl (by rw [e_x1_16]; rfl) (by decide) rfl (fun ls hl => ?_)
            refine lv_goto (tgt := 24) hx hb dX7_restore_61 (by decide) ?_
            exact ih x1_16 sm_15 _ _ _ hf hP hS (lv_sub hl [1, 0] rfl)
  unfold f_X7_restore at hf
  refine lv_aload_n hx hb dX7_restore_0 rfl (lv_at hl 0 rfl) ?_
  refine va_get (D := γ.1) (ci := 7) (v := .int (sm 0 23)) (C := RX7) (T := TX7) (N := 35) hx hb hU uin7 hown hK hP 0 rfl rfl 23 (by decide) (hU _ U992) (fun _ h9 => h9) rfl dX7_restore_1 ?_
  refine lv_if_ne (tgt := 14) hx hb dX7_restore_4 (by decide) (fun c_1 => ?_) (fun c_1 => ?_)
  · replace hf := ite_n c_1 hf
    refine lv_aload_n hx hb dX7_restore_14 rfl (lv_at hl 0 rfl) ?_
    refine lv_aload_n hx hb dX7_restore_15 rfl (lv_at hl 0 rfl) ?_
    refine va_get (D := γ.1) (ci := 7) (v := .ref (am 25)) (C := RX7) (T := TX7) (N := 35) hx hb hU uin7 hown hK hP 0 rfl rfl 24 (by decide) (hU _ U993) (fun _ h9 => h9) rfl dX7_restore_16 ?_
    obtain ⟨sm_2, hg_3, hf⟩ := bd_of hf
    refine kt_V0 (As := [.ref (am 25)]) (rest := []) (st1 := []) (b := am 0) C0 (c_X7_again_25 l γ am hg_3) (cxV (nA := 1) hts goodU U1280 U1282 U60 U91 U1283 (by decide +kernel) ⟨Nat.le_of_ble_eq_true rfl, Nat.le_of_ble_eq_true rfl⟩) hP (hD _ _) hS hl dX7_restore_19 0 7 rfl rfl rfl rfl (Nat.le_of_ble_eq_true rfl) rfl rfl (fun H locs hP hS => ?_)
    refine lv_iconst (v := 0) hx hb dX7_restore_22 (by decide) ?_
    refine lv_istore_n (lv' := [(1, .int (0 : Int32)), (0, .ref (am 0))]) hx hb dX7_restore_23 rfl hl (by decide) rfl (fun ls hl => ?_)
    exact L24 FU (0 : Int32) sm_2 _ _ _ hf hP hS (lv_sub hl [1, 0] rfl)
  · replace hf := ite_p c_1 hf
    refine lv_aload_n hx hb dX7_restore_7 rfl (lv_at hl 0 rfl) ?_
    refine lv_bipush (v := -6) hx hb dX7_restore_8 (by decide) ?_
    obtain ⟨r_17, sm_18, hg_19, hf⟩ := bd2_of hf
    refine kt_V0 (As := [.int (-6 : Int32)]) (rest := []) (st1 := [.int r_17]) (b := am 0) C0 (c_X7_no l γ am hg_19) (cxV (nA := 1) hts goodU U1082 U1084 U30 U91 U1085 (by decide +kernel) ⟨Nat.le_of_ble_eq_true rfl, Nat.le_of_ble_eq_true rfl⟩) hP (hD _ _) hS hl dX7_restore_10 0 7 rfl rfl rfl rfl (Nat.le_of_ble_eq_true rfl) rfl rfl (fun H locs hP hS => ?_)
    obtain ⟨rfl, rfl⟩ := rt2 hf
    exact kt_iret C0 hP hS dX7_restore_13
set_option maxHeartbeats 4000000 in
set_option maxRecDepth 100000 in
theorem c_X7_status (l : Launch) (γ : Gm) (am : Nat → Nat) {sm : GS} {sq : Nat → Int64} {x1 : Int32} {rv : Int32} (hf : f_X7_status sm x1 = some rv) : Kt l γ yX7_status (Cond.code yX7_status cX7_status 2 (some .int) :: U) 3 69 [.ref (am 0), .int x1] (wM γ am sm sq) (some (.int rv)) (wM γ am sm sq) := by
  refine Kt.of (by decide) rfl (Nat.le_of_ble_eq_true rfl) rfl ?_
  intro p e s m below meth c A ls C0 hP hD0 hS hl
  obtain ⟨hx, hb, hml, hown, hts, hr, hlocks, hK, hE, hA⟩ := id C0
  have hU : ∀ w ∈ U, w.before _ s = true := fun w h => hts w (List.mem_cons_of_mem _ h)
  have hD : ∀ (sm : GS) (sq : Nat → Int64), va_D A (wM γ am sm sq) := fun _ _ => hD0.fst rfl
  have hl : lv_has ls 2 [(0, .ref (am 0)), (1, .int x1)] := hl
  unfold f_X7_status at hf
  refine lv_iload_n hx hb dX7_status_0 rfl (lv_at hl 1 rfl) ?_
  by_cases c_1 : x1 = (0 : Int32)
  · replace hf := ite_p c_1 hf
    refine lv_tableIn (off := 47) (tgt := 48) hx hb dX7_status_1 (by rw [c_1]; decide) (by rw [c_1]; decide) (by rw [c_1]; rfl) (by decide) ?_
    refine lv_aload_n hx hb dX7_status_48 rfl (lv_at hl 0 rfl) ?_
    refine va_get (D := γ.1) (ci := 7) (v := .int (sm 0 3)) (C := RX7) (T := TX7) (N := 35) hx hb hU uin7 hown hK hP 0 rfl rfl 3 (by decide) (hU _ U972) (fun _ h9 => h9) rfl dX7_status_49 ?_
    obtain rfl := Option.some.inj hf
    exact kt_iret C0 hP hS dX7_status_52
  · replace hf := ite_n c_1 hf
    by_cases c_2 : x1 = (1 : Int32)
    · replace hf := ite_p c_2 hf
      refine lv_tableIn (off := 52) (tgt := 53) hx hb dX7_status_1 (by rw [c_2]; decide) (by rw [c_2]; decide) (by rw [c_2]; rfl) (by decide) ?_
      refine lv_aload_n hx hb dX7_status_53 rfl (lv_at hl 0 rfl) ?_
      obtain ⟨r_3, hg_4, hf⟩ := bd_of hf
      refine kt_V0 (As := []) (rest := []) (st1 := [.int r_3]) (b := am 0) C0 (c_X7_standing l γ am hg_4) (cxV (nA := 0) hts goodU U1343 U1345 U66 U91 U1346 (by decide +kernel) ⟨Nat.le_of_ble_eq_true rfl, Nat.le_of_ble_eq_true rfl⟩) hP (hD _ _) hS hl dX7_status_54 0 7 rfl rfl rfl rfl (Nat.le_of_ble_eq_true rfl) rfl rfl (fun H locs hP hS => ?_)
      obtain rfl := Option.some.inj hf
      exact kt_iret C0 hP hS dX7_status_57
    · replace hf := ite_n c_2 hf
      by_cases c_5 : x1 = (2 : Int32)
      · replace hf := ite_p c_5 hf
        refine lv_tableIn (off := 57) (tgt := 58) hx hb dX7_status_1 (by rw [c_5]; decide) (by rw [c_5]; decide) (by rw [c_5]; rfl) (by decide) ?_
        refine lv_aload_n hx hb dX7_status_58 rfl (lv_at hl 0 rfl) ?_
        refine va_get (D := γ.1) (ci := 7) (v := .int (sm 0 11)) (C := RX7) (T := TX7) (N := 35) hx hb hU uin7 hown hK hP 0 rfl rfl 11 (by decide) (hU _ U980) (fun _ h9 => h9) rfl dX7_status_59 ?_
        obtain rfl := Option.some.inj hf
        exact kt_iret C0 hP hS dX7_status_62
      · replace hf := ite_n c_5 hf
        by_cases c_6 : x1 = (3 : Int32)
        · replace hf := ite_p c_6 hf
          refine lv_tableIn (off := 62) (tgt := 63) hx hb dX7_status_1 (by rw [c_6]; decide) (by rw [c_6]; decide) (by rw [c_6]; rfl) (by decide) ?_
          refine lv_aload_n hx hb dX7_status_63 rfl (lv_at hl 0 rfl) ?_
          refine va_get (D := γ.1) (ci := 7) (v := .int (sm 0 14)) (C := RX7) (T := TX7) (N := 35) hx hb hU uin7 hown hK hP 0 rfl rfl 14 (by decide) (hU _ U983) (fun _ h9 => h9) rfl dX7_status_64 ?_
          obtain rfl := Option.some.inj hf
          exact kt_iret C0 hP hS dX7_status_67
        · replace hf := ite_n c_6 hf
          by_cases c_7 : x1 = (4 : Int32)
          · replace hf := ite_p c_7 hf
            refine lv_tableIn (off := 67) (tgt := 68) hx hb dX7_status_1 (by rw [c_7]; decide) (by rw [c_7]; decide) (by rw [c_7]; rfl) (by decide) ?_
            refine lv_aload_n hx hb dX7_status_68 rfl (lv_at hl 0 rfl) ?_
            refine va_get (D := γ.1) (ci := 7) (v := .int (sm 0 17)) (C := RX7) (T := TX7) (N := 35) hx hb hU uin7 hown hK hP 0 rfl rfl 17 (by decide) (hU _ U986) (fun _ h9 => h9) rfl dX7_status_69 ?_
            obtain rfl := Option.some.inj hf
            exact kt_iret C0 hP hS dX7_status_72
          · replace hf := ite_n c_7 hf
            by_cases c_8 : x1 = (5 : Int32)
            · replace hf := ite_p c_8 hf
              refine lv_tableIn (off := 72) (tgt := 73) hx hb dX7_status_1 (by rw [c_8]; decide) (by rw [c_8]; decide) (by rw [c_8]; rfl) (by decide) ?_
              refine lv_aload_n hx hb dX7_status_73 rfl (lv_at hl 0 rfl) ?_
              obtain ⟨r_9, hg_10, hf⟩ := bd_of hf
              refine kt_V0 (As := []) (rest := []) (st1 := [.int r_9]) (b := am 0) C0 (c_X7_blacks l γ am hg_10) (cxV (nA := 0) hts goodU U1128 U1130 U34 U91 U1131 (by decide +kernel) ⟨Nat.le_of_ble_eq_true rfl, Nat.le_of_ble_eq_true rfl⟩) hP (hD _ _) hS hl dX7_status_74 0 7 rfl rfl rfl rfl (Nat.le_of_ble_eq_true rfl) rfl rfl (fun H locs hP hS => ?_)
              obtain ⟨r_11, hg_12, hf⟩ := bd_of hf
              refine kt_SF (As := [.int r_9]) (rest := []) (st1 := [.int r_11]) (wc' := wM γ am sm sq) C0 (c_J6_bitCount_0f7a4 l γ hg_12) (cxS (nA := 1) hts goodU U1384 U766 U98 U767 (by decide +kernel) ⟨Nat.le_of_ble_eq_true rfl, Nat.le_of_ble_eq_true rfl⟩) hP (hD _ _) hS hl dX7_status_77 foc_nil rfl (Nat.le_of_ble_eq_true rfl) rfl rfl (fun H locs hP hS => ?_)
              obtain rfl := Option.some.inj hf
              exact kt_iret C0 hP hS dX7_status_80
            · replace hf := ite_n c_8 hf
              by_cases c_13 : x1 = (6 : Int32)
              · replace hf := ite_p c_13 hf
                refine lv_tableIn (off := 80) (tgt := 81) hx hb dX7_status_1 (by rw [c_13]; decide) (by rw [c_13]; decide) (by rw [c_13]; rfl) (by decide) ?_
                refine lv_aload_n hx hb dX7_status_81 rfl (lv_at hl 0 rfl) ?_
                refine va_get (D := γ.1) (ci := 7) (v := .int (sm 0 18)) (C := RX7) (T := TX7) (N := 35) hx hb hU uin7 hown hK hP 0 rfl rfl 18 (by decide) (hU _ U987) (fun _ h9 => h9) rfl dX7_status_82 ?_
                obtain rfl := Option.some.inj hf
                exact kt_iret C0 hP hS dX7_status_85
              · replace hf := ite_n c_13 hf
                by_cases c_14 : x1 = (7 : Int32)
                · replace hf := ite_p c_14 hf
                  refine lv_tableIn (off := 85) (tgt := 86) hx hb dX7_status_1 (by rw [c_14]; decide) (by rw [c_14]; decide) (by rw [c_14]; rfl) (by decide) ?_
                  refine lv_aload_n hx hb dX7_status_86 rfl (lv_at hl 0 rfl) ?_
                  refine va_get (D := γ.1) (ci := 7) (v := .int (sm 0 21)) (C := RX7) (T := TX7) (N := 35) hx hb hU uin7 hown hK hP 0 rfl rfl 21 (by decide) (hU _ U990) (fun _ h9 => h9) rfl dX7_status_87 ?_
                  obtain rfl := Option.some.inj hf
                  exact kt_iret C0 hP hS dX7_status_90
                · replace hf := ite_n c_14 hf
                  refine lv_tableOut (tgt := 91) hx hb dX7_status_1 (by have := lv_neT c_1 (a := 0) (by decide); have := lv_neT c_2 (a := 1) (by decide); have := lv_neT c_5 (a := 2) (by decide); have := lv_neT c_6 (a := 3) (by decide); have := lv_neT c_7 (a := 4) (by decide); have := lv_neT c_8 (a := 5) (by decide); have := lv_neT c_13 (a := 6) (by decide); have := lv_neT c_14 (a := 7) (by decide); omega) (by decide) ?_
                  refine lv_iload_n hx hb dX7_status_91 rfl (lv_at hl 1 rfl) ?_
                  refine lv_bipush (v := 11) hx hb dX7_status_92 (by decide) ?_
                  refine lv_bipush (v := 17) hx hb dX7_status_94 (by decide) ?_
                  obtain ⟨r_15, hg_16, hf⟩ := bd_of hf
                  refine kt_SF (As := [.int x1, .int (11 : Int32), .int (17 : Int32)]) (rest := []) (st1 := [.int r_15]) (wc' := wM γ am sm sq) C0 (c_X7_within l γ hg_16) (cxS (nA := 3) hts goodU U1079 U1080 U91 U1081 (by decide +kernel) ⟨Nat.le_of_ble_eq_true rfl, Nat.le_of_ble_eq_true rfl⟩) hP (hD _ _) hS hl dX7_status_96 foc_nil rfl (Nat.le_of_ble_eq_true rfl) rfl rfl (fun H locs hP hS => ?_)
                  refine lv_if_eq (tgt := 114) hx hb dX7_status_99 (by decide) (fun c_17 => ?_) (fun c_17 => ?_)
                  · replace hf := ite_p c_17 hf
                    refine lv_iconst (v := -1) hx hb dX7_status_114 (by decide) ?_
                    obtain rfl := Option.some.inj hf
                    exact kt_iret C0 hP hS dX7_status_115
                  · replace hf := ite_n c_17 hf
                    refine lv_aload_n hx hb dX7_status_102 rfl (lv_at hl 0 rfl) ?_
                    refine va_get (D := γ.1) (ci := 7) (v := .ref (am 21)) (C := RX7) (T := TX7) (N := 35) hx hb hU uin7 hown hK hP 0 rfl rfl 20 (by decide) (hU _ U989) (fun _ h9 => h9) rfl dX7_status_103 ?_
                    refine lv_iload_n hx hb dX7_status_106 rfl (lv_at hl 1 rfl) ?_
                    refine lv_bipush (v := 10) hx hb dX7_status_107 (by decide) ?_
                    refine lv_isub hx hb dX7_status_109 ?_
                    obtain ⟨g_18, hf⟩ := gd_of hf
                    refine va_iald hx hb hK hP 15 0 rfl rfl (inB_vp g_18) dX7_status_110 ?_
                    refine lv_goto (tgt := 115) hx hb dX7_status_111 (by decide) ?_
                    obtain rfl := Option.some.inj hf
                    exact kt_iret C0 hP hS dX7_status_115
