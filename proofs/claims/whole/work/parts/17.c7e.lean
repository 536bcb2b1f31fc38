set_option maxHeartbeats 4000000 in
set_option maxRecDepth 100000 in
theorem c_X7_grief (l : Launch) (γ : Gm) (am : Nat → Nat) {sm : GS} {sq : Nat → Int64} {x1 : Int32} {rv : Int32} {sm_z : GS} (hf : f_X7_grief sm x1 = some (rv, sm_z)) : Kt l γ yX7_grief (Cond.code yX7_grief cX7_grief 2 (some .int) :: U) 6 135 [.ref (am 0), .int x1] (wM γ am sm sq) (some (.int rv)) (wM γ am sm_z sq) := by
  refine Kt.of (by decide) rfl (Nat.le_of_ble_eq_true rfl) rfl ?_
  intro p e s m below meth c A ls C0 hP hD0 hS hl
  obtain ⟨hx, hb, hml, hown, hts, hr, hlocks, hK, hE, hA⟩ := id C0
  have hU : ∀ w ∈ U, w.before _ s = true := fun w h => hts w (List.mem_cons_of_mem _ h)
  have hD : ∀ (sm : GS) (sq : Nat → Int64), va_D A (wM γ am sm sq) := fun _ _ => hD0.fst rfl
  have hl : lv_has ls 2 [(0, .ref (am 0)), (1, .int x1)] := hl
  unfold f_X7_grief at hf
  refine lv_aload_n hx hb dX7_grief_0 rfl (lv_at hl 0 rfl) ?_
  refine lv_iload_n hx hb dX7_grief_1 rfl (lv_at hl 1 rfl) ?_
  obtain ⟨r_1, hg_2, hf⟩ := bd_of hf
  refine kt_V0 (As := [.int x1]) (rest := []) (st1 := [.int r_1]) (b := am 0) C0 (c_X7_isPeak l γ am hg_2) (cxV (nA := 1) hts goodU U1110 U1112 U33 U91 U1113 (by decide +kernel) ⟨Nat.le_of_ble_eq_true rfl, Nat.le_of_ble_eq_true rfl⟩) hP (hD _ _) hS hl dX7_grief_2 0 7 rfl rfl rfl rfl (Nat.le_of_ble_eq_true rfl) rfl rfl (fun H locs hP hS => ?_)
  refine lv_if_ne (tgt := 14) hx hb dX7_grief_5 (by decide) (fun c_3 => ?_) (fun c_3 => ?_)
  · replace hf := ite_n c_3 hf
    refine lv_aload_n hx hb dX7_grief_14 rfl (lv_at hl 0 rfl) ?_
    refine lv_iload_n hx hb dX7_grief_15 rfl (lv_at hl 1 rfl) ?_
    obtain ⟨r_4, hg_5, hf⟩ := bd_of hf
    refine kt_V0 (As := [.int x1]) (rest := []) (st1 := [.int r_4]) (b := am 0) C0 (c_X7_isThere l γ am hg_5) (cxV (nA := 1) hts goodU U1268 U1270 U57 U91 U1271 (by decide +kernel) ⟨Nat.le_of_ble_eq_true rfl, Nat.le_of_ble_eq_true rfl⟩) hP (hD _ _) hS hl dX7_grief_16 0 7 rfl rfl rfl rfl (Nat.le_of_ble_eq_true rfl) rfl rfl (fun H locs hP hS => ?_)
    refine lv_if_eq (tgt := 30) hx hb dX7_grief_19 (by decide) (fun c_6 => ?_) (fun c_6 => ?_)
    · replace hf := ite_p c_6 hf
      refine lv_aload_n hx hb dX7_grief_30 rfl (lv_at hl 0 rfl) ?_
      refine lv_bipush (v := -6) hx hb dX7_grief_31 (by decide) ?_
      obtain ⟨r_7, sm_8, hg_9, hf⟩ := bd2_of hf
      refine kt_V0 (As := [.int (-6 : Int32)]) (rest := []) (st1 := [.int r_7]) (b := am 0) C0 (c_X7_no l γ am hg_9) (cxV (nA := 1) hts goodU U1082 U1084 U30 U91 U1085 (by decide +kernel) ⟨Nat.le_of_ble_eq_true rfl, Nat.le_of_ble_eq_true rfl⟩) hP (hD _ _) hS hl dX7_grief_33 0 7 rfl rfl rfl rfl (Nat.le_of_ble_eq_true rfl) rfl rfl (fun H locs hP hS => ?_)
      obtain ⟨rfl, rfl⟩ := rt2 hf
      exact kt_iret C0 hP hS dX7_grief_36
    · replace hf := ite_n c_6 hf
      refine lv_aload_n hx hb dX7_grief_22 rfl (lv_at hl 0 rfl) ?_
      refine lv_iload_n hx hb dX7_grief_23 rfl (lv_at hl 1 rfl) ?_
      obtain ⟨r_10, sm_11, hg_12, hf⟩ := bd2_of hf
      refine kt_V0 (As := [.int x1]) (rest := []) (st1 := [.int r_10]) (b := am 0) C0 (c_X7_griefOf l γ am hg_12) (cxV (nA := 1) hts goodU U1331 U1333 U65 U91 U1334 (by decide +kernel) ⟨Nat.le_of_ble_eq_true rfl, Nat.le_of_ble_eq_true rfl⟩) hP (hD _ _) hS hl dX7_grief_24 0 7 rfl rfl rfl rfl (Nat.le_of_ble_eq_true rfl) rfl rfl (fun H locs hP hS => ?_)
      refine lv_goto (tgt := 36) hx hb dX7_grief_27 (by decide) ?_
      obtain ⟨rfl, rfl⟩ := rt2 hf
      exact kt_iret C0 hP hS dX7_grief_36
  · replace hf := ite_p c_3 hf
    refine lv_aload_n hx hb dX7_grief_8 rfl (lv_at hl 0 rfl) ?_
    refine lv_iconst (v := -1) hx hb dX7_grief_9 (by decide) ?_
    obtain ⟨r_13, sm_14, hg_15, hf⟩ := bd2_of hf
    refine kt_V0 (As := [.int (-1 : Int32)]) (rest := []) (st1 := [.int r_13]) (b := am 0) C0 (c_X7_no l γ am hg_15) (cxV (nA := 1) hts goodU U1082 U1084 U30 U91 U1085 (by decide +kernel) ⟨Nat.le_of_ble_eq_true rfl, Nat.le_of_ble_eq_true rfl⟩) hP (hD _ _) hS hl dX7_grief_10 0 7 rfl rfl rfl rfl (Nat.le_of_ble_eq_true rfl) rfl rfl (fun H locs hP hS => ?_)
    obtain ⟨rfl, rfl⟩ := rt2 hf
    exact kt_iret C0 hP hS dX7_grief_13
set_option maxHeartbeats 4000000 in
set_option maxRecDepth 100000 in
theorem c_X7_least (l : Launch) (γ : Gm) (am : Nat → Nat) {sm : GS} {sq : Nat → Int64} {rv : Int32} {sm_z : GS} (hf : f_X7_least sm = some (rv, sm_z)) : Kt l γ yX7_least (Cond.code yX7_least cX7_least 5 (some .int) :: U) 6 135 [.ref (am 0)] (wM γ am sm sq) (some (.int rv)) (wM γ am sm_z sq) := by
  refine Kt.of (by decide) rfl (Nat.le_of_ble_eq_true rfl) rfl ?_
  intro p e s m below meth c A ls C0 hP hD0 hS hl
  obtain ⟨hx, hb, hml, hown, hts, hr, hlocks, hK, hE, hA⟩ := id C0
  have hU : ∀ w ∈ U, w.before _ s = true := fun w h => hts w (List.mem_cons_of_mem _ h)
  have hD : ∀ (sm : GS) (sq : Nat → Int64), va_D A (wM γ am sm sq) := fun _ _ => hD0.fst rfl
  have hl : lv_has ls 5 [(0, .ref (am 0))] := hl
  have J46 : ∀ (x3_13 : Int32) (x4_14 : Int32) (sm_15 : GS) (K6 : Int32 → Int32 → Int32 → GS → Option (Int32 × GS)) (HK6 : ∀ (z1 : Int32) (z2 : Int32) (z3 : Int32) (zsm : GS) (H : Heap) (locs : List Loc) (ls : Array Slot), K6 z1 z2 z3 zsm = some (rv, sm_z) → va_P γ.1 vwCl (wM γ am zsm sq) H → va_S A s.heap H locs → lv_has ls 5 [(0, .ref (am 0)), (1, .int z1), (2, .int z2), (3, .int z3)] → W p l e (rmK 6 135) s m ([.ref (am 0)] : List Value).toArray below meth c H locs 0 0 (MQ below (KQ γ A (some (.int rv)) (wM γ am sm_z sq)) ([.ref (am 0)] : List Value).toArray s 0 0 A) (F0 m 6 ls [])) (H : Heap) (locs : List Loc) (ls : Array Slot), f_X7_least_J46 x3_13 x4_14 sm_15 K6 = some (rv, sm_z) → va_P γ.1 vwCl (wM γ am sm_15 sq) H → va_S A s.heap H locs → lv_has ls 5 [(0, .ref (am 0)), (3, .int x3_13), (4, .int x4_14)] → W p l e (rmK 6 135) s m ([.ref (am 0)] : List Value).toArray below meth c H locs 0 0 (MQ below (KQ γ A (some (.int rv)) (wM γ am sm_z sq)) ([.ref (am 0)] : List Value).toArray s 0 0 A) (F0 m 46 ls []) := by
    intro x3_13 x4_14 sm_15 K6 HK6 H locs ls hf hP hS hl
    unfold f_X7_least_J46 at hf
    refine lv_iload_n hx hb dX7_least_46 rfl (lv_at hl 1 rfl) ?_
    refine lv_istore_n (lv' := [(1, .int x3_13), (0, .ref (am 0)), (3, .int x3_13), (4, .int x4_14)]) hx hb dX7_least_47 rfl hl (by decide) rfl (fun ls hl => ?_)
    refine lv_iload hx hb dX7_least_48 (lv_at hl 3 rfl) ?_
    refine lv_istore_n (lv' := [(2, .int x4_14), (1, .int x3_13), (0, .ref (am 0)), (3, .int x3_13), (4, .int x4_14)]) hx hb dX7_least_50 rfl hl (by decide) rfl (fun ls hl => ?_)
    obtain ⟨x3_16, e_x3_16⟩ : ∃ y : Int32, y = x3_13 + (1 : Int32) := ⟨_, rfl⟩
    replace hf := nm_y hf e_x3_16
    refine lv_iinc (v := x3_16) (lv' := [(3, .int x3_16), (2, .int x4_14), (1, .int x3_13), (0, .ref (am 0)), (4, .int x4_14)]) hx hb dX7_least_51 hl (k := 3) rfl (by rw [e_x3_16]; rfl) (by decide) rfl (fun ls hl => ?_)
    refine lv_goto (tgt := 6) hx hb dX7_least_54 (by decide) ?_
    exact HK6 x3_13 x4_14 x3_16 sm_15 _ _ _ hf hP hS (lv_sub hl [3, 2, 1, 0] rfl)
  have L6 : ∀ (n : Nat) (x1_1 : Int32) (x2_2 : Int32) (x3_3 : Int32) (sm_4 : GS) (H : Heap) (locs : List Loc) (ls : Array Slot), f_X7_least_L6 n x1_1 x2_2 x3_3 sm_4 = some (rv, sm_z) → va_P γ.1 vwCl (wM γ am sm_4 sq) H → va_S A s.heap H locs → lv_has ls 5 [(0, .ref (am 0)), (1, .int x1_1), (2, .int x2_2), (3, .int x3_3)] → W p l e (rmK 6 135) s m ([.ref (am 0)] : List Value).toArray below meth c H locs 0 0 (MQ below (KQ γ A (some (.int rv)) (wM γ am sm_z sq)) ([.ref (am 0)] : List Value).toArray s 0 0 A) (F0 m 6 ls []) := by
    intro n
    induction n with
    | zero =>
      intro x1_1 x2_2 x3_3 sm_4 H locs ls hf
      have hf : none = some _ := hf
      cases hf
    | succ n ih =>
      intro x1_1 x2_2 x3_3 sm_4 H locs ls hf hP hS hl
      rw [f_X7_least_L6.eq_2] at hf
      refine lv_iload_n hx hb dX7_least_6 rfl (lv_at hl 3 rfl) ?_
      refine lv_aload_n hx hb dX7_least_7 rfl (lv_at hl 0 rfl) ?_
      refine va_get (D := γ.1) (ci := 7) (v := .int (sm_4 0 3)) (C := RX7) (T := TX7) (N := 35) hx hb hU uin7 hown hK hP 0 rfl rfl 3 (by decide) (hU _ U972) (fun _ h9 => h9) rfl dX7_least_8 ?_
      refine lv_icmp_ge (tgt := 57) hx hb dX7_least_11 (by decide) (fun c_5 => ?_) (fun c_5 => ?_)
      · replace hf := ite_p c_5 hf
        refine lv_iload_n hx hb dX7_least_57 rfl (lv_at hl 1 rfl) ?_
        obtain ⟨rfl, rfl⟩ := rt2 hf
        exact kt_iret C0 hP hS dX7_least_58
      · replace hf := ite_n c_5 hf
        refine lv_aload_n hx hb dX7_least_14 rfl (lv_at hl 0 rfl) ?_
        refine lv_iload_n hx hb dX7_least_15 rfl (lv_at hl 3 rfl) ?_
        obtain ⟨r_6, hg_7, hf⟩ := bd_of hf
        refine kt_V0 (As := [.int x3_3]) (rest := []) (st1 := [.int r_6]) (b := am 0) C0 (c_X7_isThere l γ am hg_7) (cxV (nA := 1) hts goodU U1268 U1270 U57 U91 U1271 (by decide +kernel) ⟨Nat.le_of_ble_eq_true rfl, Nat.le_of_ble_eq_true rfl⟩) hP (hD _ _) hS hl dX7_least_16 0 7 rfl rfl rfl rfl (Nat.le_of_ble_eq_true rfl) rfl rfl (fun H locs hP hS => ?_)
        refine lv_if_ne (tgt := 25) hx hb dX7_least_19 (by decide) (fun c_8 => ?_) (fun c_8 => ?_)
        · replace hf := ite_n c_8 hf
          refine lv_aload_n hx hb dX7_least_25 rfl (lv_at hl 0 rfl) ?_
          refine lv_iload_n hx hb dX7_least_26 rfl (lv_at hl 3 rfl) ?_
          obtain ⟨r_9, sm_10, hg_11, hf⟩ := bd2_of hf
          refine kt_V0 (As := [.int x3_3]) (rest := []) (st1 := [.int r_9]) (b := am 0) C0 (c_X7_griefOf l γ am hg_11) (cxV (nA := 1) hts goodU U1331 U1333 U65 U91 U1334 (by decide +kernel) ⟨Nat.le_of_ble_eq_true rfl, Nat.le_of_ble_eq_true rfl⟩) hP (hD _ _) hS hl dX7_least_27 0 7 rfl rfl rfl rfl (Nat.le_of_ble_eq_true rfl) rfl rfl (fun H locs hP hS => ?_)
          refine lv_istore (lv' := [(4, .int r_9), (0, .ref (am 0)), (1, .int x1_1), (2, .int x2_2), (3, .int x3_3)]) hx hb dX7_least_30 hl (by decide) rfl (fun ls hl => ?_)
          refine lv_iload_n hx hb dX7_least_32 rfl (lv_at hl 2 rfl) ?_
          refine lv_iconst (v := -1) hx hb dX7_least_33 (by decide) ?_
          refine lv_icmp_eq (tgt := 46) hx hb dX7_least_34 (by decide) (fun c_12 => ?_) (fun c_12 => ?_)
          · replace hf := ite_p c_12 hf
            exact J46 x3_3 r_9 sm_10 _ ih _ _ _ hf hP hS (lv_sub hl [1, 4, 0] rfl)
          · replace hf := ite_n c_12 hf
            refine lv_iload hx hb dX7_least_37 (lv_at hl 0 rfl) ?_
            refine lv_iload_n hx hb dX7_least_39 rfl (lv_at hl 3 rfl) ?_
            refine lv_icmp_lt (tgt := 46) hx hb dX7_least_40 (by decide) (fun c_17 => ?_) (fun c_17 => ?_)
            · replace hf := ite_p c_17 hf
              exact J46 x3_3 r_9 sm_10 _ ih _ _ _ hf hP hS (lv_sub hl [1, 4, 0] rfl)
            · replace hf := ite_n c_17 hf
              refine lv_goto (tgt := 51) hx hb dX7_least_43 (by decide) ?_
              obtain ⟨x3_18, e_x3_18⟩ : ∃ y : Int32, y = x3_3 + (1 : Int32) := ⟨_, rfl⟩
              replace hf := nm_y hf e_x3_18
              refine lv_iinc (v := x3_18) (lv' := [(3, .int x3_18), (4, .int r_9), (0, .ref (am 0)), (1, .int x1_1), (2, .int x2_2)]) hx hb dX7_least_51 hl (k := 4) rfl (by rw [e_x3_18]; rfl) (by decide) rfl (fun ls hl => ?_)
              refine lv_goto (tgt := 6) hx hb dX7_least_54 (by decide) ?_
              exact ih x1_1 x2_2 x3_18 sm_10 _ _ _ hf hP hS (lv_sub hl [2, 3, 4, 0] rfl)
        · replace hf := ite_p c_8 hf
          refine lv_goto (tgt := 51) hx hb dX7_least_22 (by decide) ?_
          obtain ⟨x3_19, e_x3_19⟩ : ∃ y : Int32, y = x3_3 + (1 : Int32) := ⟨_, rfl⟩
          replace hf := nm_y hf e_x3_19
          refine lv_iinc (v := x3_19) (lv' := [(3, .int x3_19), (0, .ref (am 0)), (1, .int x1_1), (2, .int x2_2)]) hx hb dX7_least_51 hl (k := 3) rfl (by rw [e_x3_19]; rfl) (by decide) rfl (fun ls hl => ?_)
          refine lv_goto (tgt := 6) hx hb dX7_least_54 (by decide) ?_
          exact ih x1_1 x2_2 x3_19 sm_4 _ _ _ hf hP hS (lv_sub hl [1, 2, 3, 0] rfl)
  unfold f_X7_least at hf
  refine lv_iconst (v := -1) hx hb dX7_least_0 (by decide) ?_
  refine lv_istore_n (lv' := [(1, .int (-1 : Int32)), (0, .ref (am 0))]) hx hb dX7_least_1 rfl hl (by decide) rfl (fun ls hl => ?_)
  refine lv_iconst (v := 0) hx hb dX7_least_2 (by decide) ?_
  refine lv_istore_n (lv' := [(2, .int (0 : Int32)), (1, .int (-1 : Int32)), (0, .ref (am 0))]) hx hb dX7_least_3 rfl hl (by decide) rfl (fun ls hl => ?_)
  refine lv_iconst (v := 0) hx hb dX7_least_4 (by decide) ?_
  refine lv_istore_n (lv' := [(3, .int (0 : Int32)), (2, .int (0 : Int32)), (1, .int (-1 : Int32)), (0, .ref (am 0))]) hx hb dX7_least_5 rfl hl (by decide) rfl (fun ls hl => ?_)
  exact L6 FU (-1 : Int32) (0 : Int32) (0 : Int32) sm _ _ _ hf hP hS (lv_sub hl [3, 2, 1, 0] rfl)
set_option maxHeartbeats 4000000 in
set_option maxRecDepth 100000 in
theorem c_X7_standing (l : Launch) (γ : Gm) (am : Nat → Nat) {sm : GS} {sq : Nat → Int64} {rv : Int32} (hf : f_X7_standing sm = some rv) : Kt l γ yX7_standing (Cond.code yX7_standing cX7_standing 3 (some .int) :: U) 0 0 [.ref (am 0)] (wM γ am sm sq) (some (.int rv)) (wM γ am sm sq) := by
  refine Kt.of (by decide) rfl (Nat.le_of_ble_eq_true rfl) rfl ?_
  intro p e s m below meth c A ls C0 hP hD0 hS hl
  obtain ⟨hx, hb, hml, hown, hts, hr, hlocks, hK, hE, hA⟩ := id C0
  have hU : ∀ w ∈ U, w.before _ s = true := fun w h => hts w (List.mem_cons_of_mem _ h)
  have hD : ∀ (sm : GS) (sq : Nat → Int64), va_D A (wM γ am sm sq) := fun _ _ => hD0.fst rfl
  have hl : lv_has ls 3 [(0, .ref (am 0))] := hl
  have L4 : ∀ (n : Nat) (x1_1 : Int32) (x2_2 : Int32) (H : Heap) (locs : List Loc) (ls : Array Slot), f_X7_standing_L4 sm n x1_1 x2_2 = some rv → va_P γ.1 vwCl (wM γ am sm sq) H → va_S A s.heap H locs → lv_has ls 3 [(0, .ref (am 0)), (1, .int x1_1), (2, .int x2_2)] → W p l e (rmK 0 0) s m ([.ref (am 0)] : List Value).toArray below meth c H locs 0 0 (MQ below (KQ γ A (some (.int rv)) (wM γ am sm sq)) ([.ref (am 0)] : List Value).toArray s 0 0 A) (F0 m 4 ls []) := by
    intro n
    induction n with
    | zero =>
      intro x1_1 x2_2 H locs ls hf
      have hf : none = some _ := hf
      cases hf
    | succ n ih =>
      intro x1_1 x2_2 H locs ls hf hP hS hl
      rw [f_X7_standing_L4.eq_2] at hf
      refine lv_iload_n hx hb dX7_standing_4 rfl (lv_at hl 2 rfl) ?_
      refine lv_aload_n hx hb dX7_standing_5 rfl (lv_at hl 0 rfl) ?_
      refine va_get (D := γ.1) (ci := 7) (v := .int (sm 0 3)) (C := RX7) (T := TX7) (N := 35) hx hb hU uin7 hown hK hP 0 rfl rfl 3 (by decide) (hU _ U972) (fun _ h9 => h9) rfl dX7_standing_6 ?_
      refine lv_icmp_ge (tgt := 27) hx hb dX7_standing_9 (by decide) (fun c_3 => ?_) (fun c_3 => ?_)
      · replace hf := ite_p c_3 hf
        refine lv_iload_n hx hb dX7_standing_27 rfl (lv_at hl 1 rfl) ?_
        obtain rfl := Option.some.inj hf
        exact kt_iret C0 hP hS dX7_standing_28
      · replace hf := ite_n c_3 hf
        refine lv_iload_n hx hb dX7_standing_12 rfl (lv_at hl 1 rfl) ?_
        refine lv_aload_n hx hb dX7_standing_13 rfl (lv_at hl 0 rfl) ?_
        refine va_get (D := γ.1) (ci := 7) (v := .ref (am 9)) (C := RX7) (T := TX7) (N := 35) hx hb hU uin7 hown hK hP 0 rfl rfl 8 (by decide) (hU _ U977) (fun _ h9 => h9) rfl dX7_standing_14 ?_
        refine lv_iload_n hx hb dX7_standing_17 rfl (lv_at hl 2 rfl) ?_
        obtain ⟨g_4, hf⟩ := gd_of hf
        refine va_iald hx hb hK hP 8 0 rfl rfl (inB_vp g_4) dX7_standing_18 ?_
        refine lv_iadd hx hb dX7_standing_19 ?_
        refine lv_topi (fun u_5 e_u_5 => ?_)
        replace hf := nm_y hf e_u_5
        refine lv_istore_n (lv' := [(1, .int u_5), (0, .ref (am 0)), (2, .int x2_2)]) hx hb dX7_standing_20 rfl hl (by decide) rfl (fun ls hl => ?_)
        obtain ⟨x2_6, e_x2_6⟩ : ∃ y : Int32, y = x2_2 + (1 : Int32) := ⟨_, rfl⟩
        replace hf := nm_y hf e_x2_6
        refine lv_iinc (v := x2_6) (lv' := [(2, .int x2_6), (1, .int u_5), (0, .ref (am 0))]) hx hb dX7_standing_21 hl (k := 2) rfl (by rw [e_x2_6]; rfl) (by decide) rfl (fun ls hl => ?_)
        refine lv_goto (tgt := 4) hx hb dX7_standing_24 (by decide) ?_
        exact ih u_5 x2_6 _ _ _ hf hP hS (lv_sub hl [2, 1, 0] rfl)
  unfold f_X7_standing at hf
  refine lv_iconst (v := 0) hx hb dX7_standing_0 (by decide) ?_
  refine lv_istore_n (lv' := [(1, .int (0 : Int32)), (0, .ref (am 0))]) hx hb dX7_standing_1 rfl hl (by decide) rfl (fun ls hl => ?_)
  refine lv_iconst (v := 0) hx hb dX7_standing_2 (by decide) ?_
  refine lv_istore_n (lv' := [(2, .int (0 : Int32)), (1, .int (0 : Int32)), (0, .ref (am 0))]) hx hb dX7_standing_3 rfl hl (by decide) rfl (fun ls hl => ?_)
  exact L4 FU (0 : Int32) (0 : Int32) _ _ _ hf hP hS (lv_sub hl [2, 1, 0] rfl)
set_option maxHeartbeats 4000000 in
set_option maxRecDepth 100000 in
theorem c_X7_order (l : Launch) (γ : Gm) (am : Nat → Nat) {sm : GS} {sq : Nat → Int64} {x1 : Int32} {x2 : Int32} {rv : Int32} {sm_z : GS} (hf : f_X7_order sm x1 x2 = some (rv, sm_z)) : Kt l γ yX7_order (Cond.code yX7_order cX7_order 10 (some .int) :: U) 5 113 [.ref (am 0), .int x1, .int x2] (wM γ am sm sq) (some (.int rv)) (wM γ am sm_z sq) := by
  refine Kt.of (by decide) rfl (Nat.le_of_ble_eq_true rfl) rfl ?_
  intro p e s m below meth c A ls C0 hP hD0 hS hl
  obtain ⟨hx, hb, hml, hown, hts, hr, hlocks, hK, hE, hA⟩ := id C0
  have hU : ∀ w ∈ U, w.before _ s = true := fun w h => hts w (List.mem_cons_of_mem _ h)
  have hD : ∀ (sm : GS) (sq : Nat → Int64), va_D A (wM γ am sm sq) := fun _ _ => hD0.fst rfl
  have hl : lv_has ls 10 [(0, .ref (am 0)), (1, .int x1), (2, .int x2)] := hl
  have J17 : ∀ (sm_4 : GS) (H : Heap) (locs : List Loc) (ls : Array Slot), f_X7_order_J17 sm_4 = some (rv, sm_z) → va_P γ.1 vwCl (wM γ am sm_4 sq) H → va_S A s.heap H locs → lv_has ls 10 [(0, .ref (am 0))] → W p l e (rmK 5 113) s m ([.ref (am 0), .int x1, .int x2] : List Value).toArray below meth c H locs 0 0 (MQ below (KQ γ A (some (.int rv)) (wM γ am sm_z sq)) ([.ref (am 0), .int x1, .int x2] : List Value).toArray s 0 0 A) (F0 m 17 ls []) := by
    intro sm_4 H locs ls hf hP hS hl
    unfold f_X7_order_J17 at hf
    refine lv_aload_n hx hb dX7_order_17 rfl (lv_at hl 0 rfl) ?_
    refine lv_bipush (v := -6) hx hb dX7_order_18 (by decide) ?_
    obtain ⟨r_5, sm_6, hg_7, hf⟩ := bd2_of hf
    refine kt_V0 (As := [.int (-6 : Int32)]) (rest := []) (st1 := [.int r_5]) (b := am 0) C0 (c_X7_no l γ am hg_7) (cxV (nA := 1) hts goodU U1082 U1084 U30 U91 U1085 (by decide +kernel) ⟨Nat.le_of_ble_eq_true rfl, Nat.le_of_ble_eq_true rfl⟩) hP (hD _ _) hS hl dX7_order_20 0 7 rfl rfl rfl rfl (Nat.le_of_ble_eq_true rfl) rfl rfl (fun H locs hP hS => ?_)
    obtain ⟨rfl, rfl⟩ := rt2 hf
    exact kt_iret C0 hP hS dX7_order_23
  have L96 : ∀ (x1_31 : Int32) (x2_32 : Int32) (x3_33 : Int32) (x4_34 : Int32) (x5_35 : Int32) (K126 : GS → Option (Int32 × GS)) (HK126 : ∀ (zsm : GS) (H : Heap) (locs : List Loc) (ls : Array Slot), K126 zsm = some (rv, sm_z) → va_P γ.1 vwCl (wM γ am zsm sq) H → va_S A s.heap H locs → lv_has ls 10 [(0, .ref (am 0)), (1, .int x1_31), (2, .int x2_32), (3, .int x3_33), (4, .int x4_34), (5, .int x5_35)] → W p l e (rmK 5 113) s m ([.ref (am 0), .int x1, .int x2] : List Value).toArray below meth c H locs 0 0 (MQ below (KQ γ A (some (.int rv)) (wM γ am sm_z sq)) ([.ref (am 0), .int x1, .int x2] : List Value).toArray s 0 0 A) (F0 m 126 ls [])) (n : Nat) (x6_36 : Int32) (x7_37 : Int32) (sm_38 : GS) (H : Heap) (locs : List Loc) (ls : Array Slot), f_X7_order_L96 K126 n x6_36 x7_37 sm_38 = some (rv, sm_z) → va_P γ.1 vwCl (wM γ am sm_38 sq) H → va_S A s.heap H locs → lv_has ls 10 [(0, .ref (am 0)), (1, .int x1_31), (2, .int x2_32), (3, .int x3_33), (4, .int x4_34), (5, .int x5_35), (6, .int x6_36), (7, .int x7_37)] → W p l e (rmK 5 113) s m ([.ref (am 0), .int x1, .int x2] : List Value).toArray below meth c H locs 0 0 (MQ below (KQ γ A (some (.int rv)) (wM γ am sm_z sq)) ([.ref (am 0), .int x1, .int x2] : List Value).toArray s 0 0 A) (F0 m 96 ls []) := by
    intro x1_31 x2_32 x3_33 x4_34 x5_35 K126 HK126
    intro n
    induction n with
    | zero =>
      intro x6_36 x7_37 sm_38 H locs ls hf
      have hf : none = some _ := hf
      cases hf
    | succ n ih =>
      intro x6_36 x7_37 sm_38 H locs ls hf hP hS hl
      rw [f_X7_order_L96.eq_2] at hf
      refine lv_iload hx hb dX7_order_96 (lv_at hl 7 rfl) ?_
      refine lv_if_lt (tgt := 126) hx hb dX7_order_98 (by decide) (fun c_39 => ?_) (fun c_39 => ?_)
      · replace hf := ite_p c_39 hf
        exact HK126 sm_38 _ _ _ hf hP hS (lv_sub hl [0, 1, 2, 3, 4, 5] rfl)
      · replace hf := ite_n c_39 hf
        refine lv_aload_n hx hb dX7_order_101 rfl (lv_at hl 0 rfl) ?_
        refine va_get (D := γ.1) (ci := 7) (v := .ref (am 29)) (C := RX7) (T := TX7) (N := 35) hx hb hU uin7 hown hK hP 0 rfl rfl 28 (by decide) (hU _ U997) (fun _ h9 => h9) rfl dX7_order_102 ?_
        refine lv_iload hx hb dX7_order_105 (lv_at hl 7 rfl) ?_
        refine lv_iload hx hb dX7_order_107 (lv_at hl 6 rfl) ?_
        refine lv_bipush (v := 10) hx hb dX7_order_109 (by decide) ?_
        refine lv_irem hx hb dX7_order_111 (by decide) ?_
        refine lv_topi (fun u_40 e_u_40 => ?_)
        replace hf := nm_y hf e_u_40
        obtain ⟨g_41, hf⟩ := gd_of hf
        refine va_iast hx hb hK hP (hD _ _) hS 21 0 rfl rfl (inB_vp g_41) dX7_order_112 (fun H locs hP _ hS => ?_)
        obtain ⟨sm_42, e_sm_42, hf⟩ := nm_of hf
        replace hP : va_P γ.1 vwCl (wM γ am sm_42 sq) H := by rw [e_sm_42]; exact hP
        refine lv_iload hx hb dX7_order_113 (lv_at hl 6 rfl) ?_
        refine lv_bipush (v := 10) hx hb dX7_order_115 (by decide) ?_
        refine lv_idiv hx hb dX7_order_117 (by decide) ?_
        refine lv_topi (fun u_43 e_u_43 => ?_)
        replace hf := nm_y hf e_u_43
        refine lv_istore (lv' := [(6, .int u_43), (0, .ref (am 0)), (1, .int x1_31), (2, .int x2_32), (3, .int x3_33), (4, .int x4_34), (5, .int x5_35), (7, .int x7_37)]) hx hb dX7_order_118 hl (by decide) rfl (fun ls hl => ?_)
        obtain ⟨x7_44, e_x7_44⟩ : ∃ y : Int32, y = x7_37 + (-1 : Int32) := ⟨_, rfl⟩
        replace hf := nm_y hf e_x7_44
        refine lv_iinc (v := x7_44) (lv' := [(7, .int x7_44), (6, .int u_43), (0, .ref (am 0)), (1, .int x1_31), (2, .int x2_32), (3, .int x3_33), (4, .int x4_34), (5, .int x5_35)]) hx hb dX7_order_120 hl (k := 7) rfl (by rw [e_x7_44]; rfl) (by decide) rfl (fun ls hl => ?_)
        refine lv_goto (tgt := 96) hx hb dX7_order_123 (by decide) ?_
        exact ih u_43 x7_44 sm_42 _ _ _ hf hP hS (lv_sub hl [2, 3, 4, 5, 6, 7, 1, 0] rfl)
  have L135 : ∀ (x1_46 : Int32) (x2_47 : Int32) (x3_48 : Int32) (x4_49 : Int32) (x5_50 : Int32) (K186 : Int32 → Int32 → GS → Option (Int32 × GS)) (HK186 : ∀ (z7 : Int32) (z8 : Int32) (zsm : GS) (H : Heap) (locs : List Loc) (ls : Array Slot), K186 z7 z8 zsm = some (rv, sm_z) → va_P γ.1 vwCl (wM γ am zsm sq) H → va_S A s.heap H locs → lv_has ls 10 [(0, .ref (am 0)), (1, .int x1_46), (2, .int x2_47), (3, .int x3_48), (4, .int x4_49), (5, .int x5_50), (7, .int z7), (8, .int z8)] → W p l e (rmK 5 113) s m ([.ref (am 0), .int x1, .int x2] : List Value).toArray below meth c H locs 0 0 (MQ below (KQ γ A (some (.int rv)) (wM γ am sm_z sq)) ([.ref (am 0), .int x1, .int x2] : List Value).toArray s 0 0 A) (F0 m 186 ls [])) (n : Nat) (x7_51 : Int32) (x8_52 : Int32) (x9_53 : Int32) (sm_54 : GS) (H : Heap) (locs : List Loc) (ls : Array Slot), f_X7_order_L135 x1_46 K186 n x7_51 x8_52 x9_53 sm_54 = some (rv, sm_z) → va_P γ.1 vwCl (wM γ am sm_54 sq) H → va_S A s.heap H locs → lv_has ls 10 [(0, .ref (am 0)), (1, .int x1_46), (2, .int x2_47), (3, .int x3_48), (4, .int x4_49), (5, .int x5_50), (7, .int x7_51), (8, .int x8_52), (9, .int x9_53)] → W p l e (rmK 5 113) s m ([.ref (am 0), .int x1, .int x2] : List Value).toArray below meth c H locs 0 0 (MQ below (KQ γ A (some (.int rv)) (wM γ am sm_z sq)) ([.ref (am 0), .int x1, .int x2] : List Value).toArray s 0 0 A) (F0 m 135 ls []) := by
    intro x1_46 x2_47 x3_48 x4_49 x5_50 K186 HK186
    intro n
    induction n with
    | zero =>
      intro x7_51 x8_52 x9_53 sm_54 H locs ls hf
      have hf : none = some _ := hf
      cases hf
    | succ n ih =>
      intro x7_51 x8_52 x9_53 sm_54 H locs ls hf hP hS hl
      rw [f_X7_order_L135.eq_2] at hf
      refine lv_iload hx hb dX7_order_135 (lv_at hl 8 rfl) ?_
      refine lv_iload_n hx hb dX7_order_137 rfl (lv_at hl 1 rfl) ?_
      refine lv_icmp_ge (tgt := 186) hx hb dX7_order_138 (by decide) (fun c_55 => ?_) (fun c_55 => ?_)
      · replace hf := ite_p c_55 hf
        exact HK186 x7_51 x8_52 sm_54 _ _ _ hf hP hS (lv_sub hl [0, 1, 2, 3, 4, 5, 6, 7] rfl)
      · replace hf := ite_n c_55 hf
        refine lv_iload hx hb dX7_order_141 (lv_at hl 7 rfl) ?_
        refine lv_if_eq (tgt := 186) hx hb dX7_order_143 (by decide) (fun c_56 => ?_) (fun c_56 => ?_)
        · replace hf := ite_p c_56 hf
          exact HK186 x7_51 x8_52 sm_54 _ _ _ hf hP hS (lv_sub hl [0, 1, 2, 3, 4, 5, 6, 7] rfl)
        · replace hf := ite_n c_56 hf
          refine lv_aload_n hx hb dX7_order_146 rfl (lv_at hl 0 rfl) ?_
          refine lv_aload_n hx hb dX7_order_147 rfl (lv_at hl 0 rfl) ?_
          refine va_get (D := γ.1) (ci := 7) (v := .ref (am 29)) (C := RX7) (T := TX7) (N := 35) hx hb hU uin7 hown hK hP 0 rfl rfl 28 (by decide) (hU _ U997) (fun _ h9 => h9) rfl dX7_order_148 ?_
          refine lv_iload hx hb dX7_order_151 (lv_at hl 8 rfl) ?_
          obtain ⟨g_57, hf⟩ := gd_of hf
          refine va_iald hx hb hK hP 21 0 rfl rfl (inB_vp g_57) dX7_order_153 ?_
          obtain ⟨r_58, hg_59, hf⟩ := bd_of hf
          refine kt_V0 (As := [.int (sm_54 29 x9_53.toNatClampNeg)]) (rest := []) (st1 := [.int r_58]) (b := am 0) C0 (c_X7_isThere l γ am hg_59) (cxV (nA := 1) hts goodU U1268 U1270 U57 U91 U1271 (by decide +kernel) ⟨Nat.le_of_ble_eq_true rfl, Nat.le_of_ble_eq_true rfl⟩) hP (hD _ _) hS hl dX7_order_154 0 7 rfl rfl rfl rfl (Nat.le_of_ble_eq_true rfl) rfl rfl (fun H locs hP hS => ?_)
          refine lv_istore (lv' := [(8, .int r_58), (0, .ref (am 0)), (1, .int x1_46), (2, .int x2_47), (3, .int x3_48), (4, .int x4_49), (5, .int x5_50), (7, .int x7_51), (9, .int x9_53)]) hx hb dX7_order_157 hl (by decide) rfl (fun ls hl => ?_)
          refine lv_iload hx hb dX7_order_159 (lv_at hl 0 rfl) ?_
          refine lv_if_eq (tgt := 180) hx hb dX7_order_161 (by decide) (fun c_60 => ?_) (fun c_60 => ?_)
          · replace hf := ite_p c_60 hf
            obtain ⟨x9_61, e_x9_61⟩ : ∃ y : Int32, y = x9_53 + (1 : Int32) := ⟨_, rfl⟩
            replace hf := nm_y hf e_x9_61
            refine lv_iinc (v := x9_61) (lv' := [(9, .int x9_61), (8, .int r_58), (0, .ref (am 0)), (1, .int x1_46), (2, .int x2_47), (3, .int x3_48), (4, .int x4_49), (5, .int x5_50), (7, .int x7_51)]) hx hb dX7_order_180 hl (k := 8) rfl (by rw [e_x9_61]; rfl) (by decide) rfl (fun ls hl => ?_)
            refine lv_goto (tgt := 135) hx hb dX7_order_183 (by decide) ?_
            exact ih x7_51 r_58 x9_61 sm_54 _ _ _ hf hP hS (lv_sub hl [2, 3, 4, 5, 6, 7, 8, 1, 0] rfl)
          · replace hf := ite_n c_60 hf
            refine lv_iload hx hb dX7_order_164 (lv_at hl 7 rfl) ?_
            refine lv_aload_n hx hb dX7_order_166 rfl (lv_at hl 1 rfl) ?_
            refine lv_aload_n hx hb dX7_order_167 rfl (lv_at hl 1 rfl) ?_
            refine va_get (D := γ.1) (ci := 7) (v := .ref (am 29)) (C := RX7) (T := TX7) (N := 35) hx hb hU uin7 hown hK hP 0 rfl rfl 28 (by decide) (hU _ U997) (fun _ h9 => h9) rfl dX7_order_168 ?_
            refine lv_iload hx hb dX7_order_171 (lv_at hl 8 rfl) ?_
            obtain ⟨g_62, hf⟩ := gd_of hf
            refine va_iald hx hb hK hP 21 0 rfl rfl (inB_vp g_62) dX7_order_173 ?_
            obtain ⟨r_63, sm_64, hg_65, hf⟩ := bd2_of hf
            refine kt_V0 (As := [.int (sm_54 29 x9_53.toNatClampNeg)]) (rest := [.int x7_51]) (st1 := [.int r_63, .int x7_51]) (b := am 0) C0 (c_X7_loses l γ am hg_65) (cxV (nA := 1) hts goodU U1272 U1274 U58 U91 U1275 (by decide +kernel) ⟨Nat.le_of_ble_eq_true rfl, Nat.le_of_ble_eq_true rfl⟩) hP (hD _ _) hS hl dX7_order_174 0 7 rfl rfl rfl rfl (Nat.le_of_ble_eq_true rfl) rfl rfl (fun H locs hP hS => ?_)
            refine lv_iadd hx hb dX7_order_177 ?_
            refine lv_topi (fun u_66 e_u_66 => ?_)
            replace hf := nm_y hf e_u_66
            refine lv_istore (lv' := [(7, .int u_66), (8, .int r_58), (0, .ref (am 0)), (1, .int x1_46), (2, .int x2_47), (3, .int x3_48), (4, .int x4_49), (5, .int x5_50), (9, .int x9_53)]) hx hb dX7_order_178 hl (by decide) rfl (fun ls hl => ?_)
            obtain ⟨x9_67, e_x9_67⟩ : ∃ y : Int32, y = x9_53 + (1 : Int32) := ⟨_, rfl⟩
            replace hf := nm_y hf e_x9_67
            refine lv_iinc (v := x9_67) (lv' := [(9, .int x9_67), (7, .int u_66), (8, .int r_58), (0, .ref (am 0)), (1, .int x1_46), (2, .int x2_47), (3, .int x3_48), (4, .int x4_49), (5, .int x5_50)]) hx hb dX7_order_180 hl (k := 8) rfl (by rw [e_x9_67]; rfl) (by decide) rfl (fun ls hl => ?_)
            refine lv_goto (tgt := 135) hx hb dX7_order_183 (by decide) ?_
            exact ih u_66 r_58 x9_67 sm_64 _ _ _ hf hP hS (lv_sub hl [3, 4, 5, 6, 7, 8, 1, 2, 0] rfl)
  have L218 : ∀ (x1_90 : Int32) (x2_91 : Int32) (x3_92 : Int32) (x4_93 : Int32) (x5_94 : Int32) (K244 : GS → Option (Int32 × GS)) (HK244 : ∀ (zsm : GS) (H : Heap) (locs : List Loc) (ls : Array Slot), K244 zsm = some (rv, sm_z) → va_P γ.1 vwCl (wM γ am zsm sq) H → va_S A s.heap H locs → lv_has ls 10 [(0, .ref (am 0)), (1, .int x1_90), (2, .int x2_91), (3, .int x3_92), (4, .int x4_93), (5, .int x5_94)] → W p l e (rmK 5 113) s m ([.ref (am 0), .int x1, .int x2] : List Value).toArray below meth c H locs 0 0 (MQ below (KQ γ A (some (.int rv)) (wM γ am sm_z sq)) ([.ref (am 0), .int x1, .int x2] : List Value).toArray s 0 0 A) (F0 m 244 ls [])) (n : Nat) (x9_95 : Int32) (sm_96 : GS) (H : Heap) (locs : List Loc) (ls : Array Slot), f_X7_order_L218 x1_90 K244 n x9_95 sm_96 = some (rv, sm_z) → va_P γ.1 vwCl (wM γ am sm_96 sq) H → va_S A s.heap H locs → lv_has ls 10 [(0, .ref (am 0)), (1, .int x1_90), (2, .int x2_91), (3, .int x3_92), (4, .int x4_93), (5, .int x5_94), (9, .int x9_95)] → W p l e (rmK 5 113) s m ([.ref (am 0), .int x1, .int x2] : List Value).toArray below meth c H locs 0 0 (MQ below (KQ γ A (some (.int rv)) (wM γ am sm_z sq)) ([.ref (am 0), .int x1, .int x2] : List Value).toArray s 0 0 A) (F0 m 218 ls []) := by
    intro x1_90 x2_91 x3_92 x4_93 x5_94 K244 HK244
    intro n
    induction n with
    | zero =>
      intro x9_95 sm_96 H locs ls hf
      have hf : none = some _ := hf
      cases hf
    | succ n ih =>
      intro x9_95 sm_96 H locs ls hf hP hS hl
      rw [f_X7_order_L218.eq_2] at hf
      refine lv_iload hx hb dX7_order_218 (lv_at hl 6 rfl) ?_
      refine lv_iload_n hx hb dX7_order_220 rfl (lv_at hl 1 rfl) ?_
      refine lv_icmp_ge (tgt := 244) hx hb dX7_order_221 (by decide) (fun c_97 => ?_) (fun c_97 => ?_)
      · replace hf := ite_p c_97 hf
        exact HK244 sm_96 _ _ _ hf hP hS (lv_sub hl [0, 1, 2, 3, 4, 5] rfl)
      · replace hf := ite_n c_97 hf
        refine lv_aload_n hx hb dX7_order_224 rfl (lv_at hl 0 rfl) ?_
        refine va_get (D := γ.1) (ci := 7) (v := .ref (am 30)) (C := RX7) (T := TX7) (N := 35) hx hb hU uin7 hown hK hP 0 rfl rfl 29 (by decide) (hU _ U998) (fun _ h9 => h9) rfl dX7_order_225 ?_
        refine lv_iload hx hb dX7_order_228 (lv_at hl 6 rfl) ?_
        refine lv_aload_n hx hb dX7_order_230 rfl (lv_at hl 0 rfl) ?_
        refine va_get (D := γ.1) (ci := 7) (v := .ref (am 29)) (C := RX7) (T := TX7) (N := 35) hx hb hU uin7 hown hK hP 0 rfl rfl 28 (by decide) (hU _ U997) (fun _ h9 => h9) rfl dX7_order_231 ?_
        refine lv_iload hx hb dX7_order_234 (lv_at hl 6 rfl) ?_
        obtain ⟨g_98, hf⟩ := gd_of hf
        refine va_iald hx hb hK hP 21 0 rfl rfl (inB_vp g_98) dX7_order_236 ?_
        refine lv_topi (fun u_99 e_u_99 => ?_)
        replace hf := nm_y hf e_u_99
        obtain ⟨g_100, hf⟩ := gd_of hf
        refine va_iast hx hb hK hP (hD _ _) hS 22 0 rfl rfl (inB_vp g_100) dX7_order_237 (fun H locs hP _ hS => ?_)
        obtain ⟨sm_101, e_sm_101, hf⟩ := nm_of hf
        replace hP : va_P γ.1 vwCl (wM γ am sm_101 sq) H := by rw [e_sm_101]; exact hP
        obtain ⟨x9_102, e_x9_102⟩ : ∃ y : Int32, y = x9_95 + (1 : Int32) := ⟨_, rfl⟩
        replace hf := nm_y hf e_x9_102
        refine lv_iinc (v := x9_102) (lv' := [(9, .int x9_102), (0, .ref (am 0)), (1, .int x1_90), (2, .int x2_91), (3, .int x3_92), (4, .int x4_93), (5, .int x5_94)]) hx hb dX7_order_238 hl (k := 6) rfl (by rw [e_x9_102]; rfl) (by decide) rfl (fun ls hl => ?_)
        refine lv_goto (tgt := 218) hx hb dX7_order_241 (by decide) ?_
        exact ih x9_102 sm_101 _ _ _ hf hP hS (lv_sub hl [1, 2, 3, 4, 5, 6, 0] rfl)
  have J212 : ∀ (x1_84 : Int32) (x2_85 : Int32) (x4_86 : Int32) (x5_87 : Int32) (x7_88 : Int32) (sm_89 : GS) (K80 : Int32 → Int32 → GS → Option (Int32 × GS)) (HK80 : ∀ (z3 : Int32) (z5 : Int32) (zsm : GS) (H : Heap) (locs : List Loc) (ls : Array Slot), K80 z3 z5 zsm = some (rv, sm_z) → va_P γ.1 vwCl (wM γ am zsm sq) H → va_S A s.heap H locs → lv_has ls 10 [(0, .ref (am 0)), (1, .int x1_84), (2, .int x2_85), (3, .int z3), (4, .int x4_86), (5, .int z5)] → W p l e (rmK 5 113) s m ([.ref (am 0), .int x1, .int x2] : List Value).toArray below meth c H locs 0 0 (MQ below (KQ γ A (some (.int rv)) (wM γ am sm_z sq)) ([.ref (am 0), .int x1, .int x2] : List Value).toArray s 0 0 A) (F0 m 80 ls [])) (H : Heap) (locs : List Loc) (ls : Array Slot), f_X7_order_J212 x1_84 x5_87 x7_88 sm_89 K80 = some (rv, sm_z) → va_P γ.1 vwCl (wM γ am sm_89 sq) H → va_S A s.heap H locs → lv_has ls 10 [(0, .ref (am 0)), (1, .int x1_84), (2, .int x2_85), (4, .int x4_86), (5, .int x5_87), (7, .int x7_88)] → W p l e (rmK 5 113) s m ([.ref (am 0), .int x1, .int x2] : List Value).toArray below meth c H locs 0 0 (MQ below (KQ γ A (some (.int rv)) (wM γ am sm_z sq)) ([.ref (am 0), .int x1, .int x2] : List Value).toArray s 0 0 A) (F0 m 212 ls []) := by
    intro x1_84 x2_85 x4_86 x5_87 x7_88 sm_89 K80 HK80 H locs ls hf hP hS hl
    unfold f_X7_order_J212 at hf
    refine lv_iload hx hb dX7_order_212 (lv_at hl 5 rfl) ?_
    refine lv_istore_n (lv' := [(3, .int x7_88), (0, .ref (am 0)), (1, .int x1_84), (2, .int x2_85), (4, .int x4_86), (5, .int x5_87), (7, .int x7_88)]) hx hb dX7_order_214 rfl hl (by decide) rfl (fun ls hl => ?_)
    refine lv_iconst (v := 0) hx hb dX7_order_215 (by decide) ?_
    refine lv_istore (lv' := [(9, .int (0 : Int32)), (3, .int x7_88), (0, .ref (am 0)), (1, .int x1_84), (2, .int x2_85), (4, .int x4_86), (5, .int x5_87), (7, .int x7_88)]) hx hb dX7_order_216 hl (by decide) rfl (fun ls hl => ?_)
    refine L218 x1_84 x2_85 x7_88 x4_86 x5_87 _ (fun sm_103 H locs ls hf hP hS hl => ?_) FU (0 : Int32) sm_89 _ _ _ hf hP hS (lv_sub hl [2, 3, 4, 1, 5, 6, 0] rfl)
    obtain ⟨x5_104, e_x5_104⟩ : ∃ y : Int32, y = x5_87 + (1 : Int32) := ⟨_, rfl⟩
    replace hf := nm_y hf e_x5_104
    refine lv_iinc (v := x5_104) (lv' := [(5, .int x5_104), (0, .ref (am 0)), (1, .int x1_84), (2, .int x2_85), (3, .int x7_88), (4, .int x4_86)]) hx hb dX7_order_244 hl (k := 5) rfl (by rw [e_x5_104]; rfl) (by decide) rfl (fun ls hl => ?_)
    refine lv_goto (tgt := 80) hx hb dX7_order_247 (by decide) ?_
    exact HK80 x7_88 x5_104 sm_103 _ _ _ hf hP hS (lv_sub hl [1, 2, 3, 4, 5, 0] rfl)
  have J186 : ∀ (x1_71 : Int32) (x2_72 : Int32) (x3_73 : Int32) (x4_74 : Int32) (x5_75 : Int32) (x7_76 : Int32) (x8_77 : Int32) (sm_78 : GS) (K80 : Int32 → Int32 → GS → Option (Int32 × GS)) (HK80 : ∀ (z3 : Int32) (z5 : Int32) (zsm : GS) (H : Heap) (locs : List Loc) (ls : Array Slot), K80 z3 z5 zsm = some (rv, sm_z) → va_P γ.1 vwCl (wM γ am zsm sq) H → va_S A s.heap H locs → lv_has ls 10 [(0, .ref (am 0)), (1, .int x1_71), (2, .int x2_72), (3, .int z3), (4, .int x4_74), (5, .int z5)] → W p l e (rmK 5 113) s m ([.ref (am 0), .int x1, .int x2] : List Value).toArray below meth c H locs 0 0 (MQ below (KQ γ A (some (.int rv)) (wM γ am sm_z sq)) ([.ref (am 0), .int x1, .int x2] : List Value).toArray s 0 0 A) (F0 m 80 ls [])) (H : Heap) (locs : List Loc) (ls : Array Slot), f_X7_order_J186 x1_71 x3_73 x5_75 x7_76 x8_77 sm_78 K80 = some (rv, sm_z) → va_P γ.1 vwCl (wM γ am sm_78 sq) H → va_S A s.heap H locs → lv_has ls 10 [(0, .ref (am 0)), (1, .int x1_71), (2, .int x2_72), (3, .int x3_73), (4, .int x4_74), (5, .int x5_75), (7, .int x7_76), (8, .int x8_77)] → W p l e (rmK 5 113) s m ([.ref (am 0), .int x1, .int x2] : List Value).toArray below meth c H locs 0 0 (MQ below (KQ γ A (some (.int rv)) (wM γ am sm_z sq)) ([.ref (am 0), .int x1, .int x2] : List Value).toArray s 0 0 A) (F0 m 186 ls []) := by
    intro x1_71 x2_72 x3_73 x4_74 x5_75 x7_76 x8_77 sm_78 K80 HK80 H locs ls hf hP hS hl
    unfold f_X7_order_J186 at hf
    refine lv_aload_n hx hb dX7_order_186 rfl (lv_at hl 0 rfl) ?_
    refine lv_aload_n hx hb dX7_order_187 rfl (lv_at hl 0 rfl) ?_
    refine va_get (D := γ.1) (ci := 7) (v := .ref (am 28)) (C := RX7) (T := TX7) (N := 35) hx hb hU uin7 hown hK hP 0 rfl rfl 27 (by decide) (hU _ U996) (fun _ h9 => h9) rfl dX7_order_188 ?_
    obtain ⟨sm_79, hg_80, hf⟩ := bd_of hf
    refine kt_V0 (As := [.ref (am 28)]) (rest := []) (st1 := []) (b := am 0) C0 (c_X7_again_28 l γ am hg_80) (cxV (nA := 1) hts goodU U1280 U1282 U60 U91 U1283 (by decide +kernel) ⟨Nat.le_of_ble_eq_true rfl, Nat.le_of_ble_eq_true rfl⟩) hP (hD _ _) hS hl dX7_order_191 0 7 rfl rfl rfl rfl (Nat.le_of_ble_eq_true rfl) rfl rfl (fun H locs hP hS => ?_)
    refine lv_iload hx hb dX7_order_194 (lv_at hl 7 rfl) ?_
    refine lv_if_eq (tgt := 244) hx hb dX7_order_196 (by decide) (fun c_81 => ?_) (fun c_81 => ?_)
    · replace hf := ite_p c_81 hf
      obtain ⟨x5_82, e_x5_82⟩ : ∃ y : Int32, y = x5_75 + (1 : Int32) := ⟨_, rfl⟩
      replace hf := nm_y hf e_x5_82
      refine lv_iinc (v := x5_82) (lv' := [(5, .int x5_82), (0, .ref (am 0)), (1, .int x1_71), (2, .int x2_72), (3, .int x3_73), (4, .int x4_74), (7, .int x7_76), (8, .int x8_77)]) hx hb dX7_order_244 hl (k := 5) rfl (by rw [e_x5_82]; rfl) (by decide) rfl (fun ls hl => ?_)
      refine lv_goto (tgt := 80) hx hb dX7_order_247 (by decide) ?_
      exact HK80 x3_73 x5_82 sm_79 _ _ _ hf hP hS (lv_sub hl [1, 2, 3, 4, 5, 0] rfl)
    · replace hf := ite_n c_81 hf
      refine lv_iload_n hx hb dX7_order_199 rfl (lv_at hl 3 rfl) ?_
      refine lv_if_lt (tgt := 212) hx hb dX7_order_200 (by decide) (fun c_83 => ?_) (fun c_83 => ?_)
      · replace hf := ite_p c_83 hf
        exact J212 x1_71 x2_72 x4_74 x5_75 x7_76 sm_79 _ HK80 _ _ _ hf hP hS (lv_sub hl [0, 1, 2, 4, 5, 6] rfl)
      · replace hf := ite_n c_83 hf
        refine lv_iload hx hb dX7_order_203 (lv_at hl 6 rfl) ?_
        refine lv_iload_n hx hb dX7_order_205 rfl (lv_at hl 3 rfl) ?_
        refine lv_icmp_lt (tgt := 212) hx hb dX7_order_206 (by decide) (fun c_105 => ?_) (fun c_105 => ?_)
        · replace hf := ite_p c_105 hf
          exact J212 x1_71 x2_72 x4_74 x5_75 x7_76 sm_79 _ HK80 _ _ _ hf hP hS (lv_sub hl [0, 1, 2, 4, 5, 6] rfl)
        · replace hf := ite_n c_105 hf
          refine lv_goto (tgt := 244) hx hb dX7_order_209 (by decide) ?_
          obtain ⟨x5_106, e_x5_106⟩ : ∃ y : Int32, y = x5_75 + (1 : Int32) := ⟨_, rfl⟩
          replace hf := nm_y hf e_x5_106
          refine lv_iinc (v := x5_106) (lv' := [(5, .int x5_106), (0, .ref (am 0)), (1, .int x1_71), (2, .int x2_72), (3, .int x3_73), (4, .int x4_74), (7, .int x7_76), (8, .int x8_77)]) hx hb dX7_order_244 hl (k := 5) rfl (by rw [e_x5_106]; rfl) (by decide) rfl (fun ls hl => ?_)
          refine lv_goto (tgt := 80) hx hb dX7_order_247 (by decide) ?_
          exact HK80 x3_73 x5_106 sm_79 _ _ _ hf hP hS (lv_sub hl [1, 2, 3, 4, 5, 0] rfl)
  have L80 : ∀ (x1_23 : Int32) (x2_24 : Int32) (x4_26 : Int32) (K250 : Int32 → GS → Option (Int32 × GS)) (HK250 : ∀ (z3 : Int32) (zsm : GS) (H : Heap) (locs : List Loc) (ls : Array Slot), K250 z3 zsm = some (rv, sm_z) → va_P γ.1 vwCl (wM γ am zsm sq) H → va_S A s.heap H locs → lv_has ls 10 [(0, .ref (am 0)), (2, .int x2_24), (3, .int z3)] → W p l e (rmK 5 113) s m ([.ref (am 0), .int x1, .int x2] : List Value).toArray below meth c H locs 0 0 (MQ below (KQ γ A (some (.int rv)) (wM γ am sm_z sq)) ([.ref (am 0), .int x1, .int x2] : List Value).toArray s 0 0 A) (F0 m 250 ls [])) (n : Nat) (x3_25 : Int32) (x5_27 : Int32) (sm_28 : GS) (H : Heap) (locs : List Loc) (ls : Array Slot), f_X7_order_L80 x1_23 x4_26 K250 n x3_25 x5_27 sm_28 = some (rv, sm_z) → va_P γ.1 vwCl (wM γ am sm_28 sq) H → va_S A s.heap H locs → lv_has ls 10 [(0, .ref (am 0)), (1, .int x1_23), (2, .int x2_24), (3, .int x3_25), (4, .int x4_26), (5, .int x5_27)] → W p l e (rmK 5 113) s m ([.ref (am 0), .int x1, .int x2] : List Value).toArray below meth c H locs 0 0 (MQ below (KQ γ A (some (.int rv)) (wM γ am sm_z sq)) ([.ref (am 0), .int x1, .int x2] : List Value).toArray s 0 0 A) (F0 m 80 ls []) := by
    intro x1_23 x2_24 x4_26 K250 HK250
    intro n
    induction n with
    | zero =>
      intro x3_25 x5_27 sm_28 H locs ls hf
      have hf : none = some _ := hf
      cases hf
    | succ n ih =>
      intro x3_25 x5_27 sm_28 H locs ls hf hP hS hl
      rw [f_X7_order_L80.eq_2] at hf
      refine lv_iload hx hb dX7_order_80 (lv_at hl 5 rfl) ?_
      refine lv_iload hx hb dX7_order_82 (lv_at hl 4 rfl) ?_
      refine lv_icmp_ge (tgt := 250) hx hb dX7_order_84 (by decide) (fun c_29 => ?_) (fun c_29 => ?_)
      · replace hf := ite_p c_29 hf
        exact HK250 x3_25 sm_28 _ _ _ hf hP hS (lv_sub hl [0, 2, 3] rfl)
      · replace hf := ite_n c_29 hf
        refine lv_iload hx hb dX7_order_87 (lv_at hl 5 rfl) ?_
        refine lv_istore (lv' := [(6, .int x5_27), (0, .ref (am 0)), (1, .int x1_23), (2, .int x2_24), (3, .int x3_25), (4, .int x4_26), (5, .int x5_27)]) hx hb dX7_order_89 hl (by decide) rfl (fun ls hl => ?_)
        refine lv_iload_n hx hb dX7_order_91 rfl (lv_at hl 2 rfl) ?_
        refine lv_iconst (v := 1) hx hb dX7_order_92 (by decide) ?_
        refine lv_isub hx hb dX7_order_93 ?_
        refine lv_topi (fun u_30 e_u_30 => ?_)
        replace hf := nm_y hf e_u_30
        refine lv_istore (lv' := [(7, .int u_30), (6, .int x5_27), (0, .ref (am 0)), (1, .int x1_23), (2, .int x2_24), (3, .int x3_25), (4, .int x4_26), (5, .int x5_27)]) hx hb dX7_order_94 hl (by decide) rfl (fun ls hl => ?_)
        refine L96 x1_23 x2_24 x3_25 x4_26 x5_27 _ (fun sm_45 H locs ls hf hP hS hl => ?_) FU x5_27 u_30 sm_28 _ _ _ hf hP hS (lv_sub hl [2, 3, 4, 5, 6, 7, 1, 0] rfl)
        refine lv_iconst (v := 0) hx hb dX7_order_126 (by decide) ?_
        refine lv_istore (lv' := [(7, .int (0 : Int32)), (0, .ref (am 0)), (1, .int x1_23), (2, .int x2_24), (3, .int x3_25), (4, .int x4_26), (5, .int x5_27)]) hx hb dX7_order_127 hl (by decide) rfl (fun ls hl => ?_)
        refine lv_iconst (v := 1) hx hb dX7_order_129 (by decide) ?_
        refine lv_istore (lv' := [(8, .int (1 : Int32)), (7, .int (0 : Int32)), (0, .ref (am 0)), (1, .int x1_23), (2, .int x2_24), (3, .int x3_25), (4, .int x4_26), (5, .int x5_27)]) hx hb dX7_order_130 hl (by decide) rfl (fun ls hl => ?_)
        refine lv_iconst (v := 0) hx hb dX7_order_132 (by decide) ?_
        refine lv_istore (lv' := [(9, .int (0 : Int32)), (8, .int (1 : Int32)), (7, .int (0 : Int32)), (0, .ref (am 0)), (1, .int x1_23), (2, .int x2_24), (3, .int x3_25), (4, .int x4_26), (5, .int x5_27)]) hx hb dX7_order_133 hl (by decide) rfl (fun ls hl => ?_)
        refine L135 x1_23 x2_24 x3_25 x4_26 x5_27 _ (fun x7_68 x8_69 sm_70 H locs ls hf hP hS hl => ?_) FU (0 : Int32) (1 : Int32) (0 : Int32) sm_45 _ _ _ hf hP hS (lv_sub hl [3, 4, 5, 6, 7, 8, 2, 1, 0] rfl)
        exact J186 x1_23 x2_24 x3_25 x4_26 x5_27 x7_68 x8_69 sm_70 _ ih _ _ _ hf hP hS (lv_sub hl [0, 1, 2, 3, 4, 5, 6, 7] rfl)
  have J67 : ∀ (x1_16 : Int32) (x2_17 : Int32) (x3_18 : Int32) (sm_19 : GS) (t0_20 : Int32) (H : Heap) (locs : List Loc) (ls : Array Slot), f_X7_order_J67 x1_16 x2_17 x3_18 sm_19 t0_20 = some (rv, sm_z) → va_P γ.1 vwCl (wM γ am sm_19 sq) H → va_S A s.heap H locs → lv_has ls 10 [(0, .ref (am 0)), (1, .int x1_16), (2, .int x2_17), (3, .int x3_18)] → W p l e (rmK 5 113) s m ([.ref (am 0), .int x1, .int x2] : List Value).toArray below meth c H locs 0 0 (MQ below (KQ γ A (some (.int rv)) (wM γ am sm_z sq)) ([.ref (am 0), .int x1, .int x2] : List Value).toArray s 0 0 A) (F0 m 67 ls [.int t0_20]) := by
    intro x1_16 x2_17 x3_18 sm_19 t0_20 H locs ls hf hP hS hl
    unfold f_X7_order_J67 at hf
    refine lv_istore (lv' := [(4, .int t0_20), (0, .ref (am 0)), (1, .int x1_16), (2, .int x2_17), (3, .int x3_18)]) hx hb dX7_order_67 hl (by decide) rfl (fun ls hl => ?_)
    refine lv_aload_n hx hb dX7_order_69 rfl (lv_at hl 1 rfl) ?_
    refine lv_aload_n hx hb dX7_order_70 rfl (lv_at hl 1 rfl) ?_
    refine va_get (D := γ.1) (ci := 7) (v := .ref (am 28)) (C := RX7) (T := TX7) (N := 35) hx hb hU uin7 hown hK hP 0 rfl rfl 27 (by decide) (hU _ U996) (fun _ h9 => h9) rfl dX7_order_71 ?_
    obtain ⟨sm_21, hg_22, hf⟩ := bd_of hf
    refine kt_V0 (As := [.ref (am 28)]) (rest := []) (st1 := []) (b := am 0) C0 (c_X7_keep_28 l γ am hg_22) (cxV (nA := 1) hts goodU U1228 U1230 U49 U91 U1231 (by decide +kernel) ⟨Nat.le_of_ble_eq_true rfl, Nat.le_of_ble_eq_true rfl⟩) hP (hD _ _) hS hl dX7_order_74 0 7 rfl rfl rfl rfl (Nat.le_of_ble_eq_true rfl) rfl rfl (fun H locs hP hS => ?_)
    refine lv_iconst (v := 0) hx hb dX7_order_77 (by decide) ?_
    refine lv_istore (lv' := [(5, .int (0 : Int32)), (4, .int t0_20), (0, .ref (am 0)), (1, .int x1_16), (2, .int x2_17), (3, .int x3_18)]) hx hb dX7_order_78 hl (by decide) rfl (fun ls hl => ?_)
    refine L80 x1_16 x2_17 t0_20 _ (fun x3_107 sm_108 H locs ls hf hP hS hl => ?_) FU x3_18 (0 : Int32) sm_21 _ _ _ hf hP hS (lv_sub hl [2, 3, 4, 5, 1, 0] rfl)
    refine lv_iload_n hx hb dX7_order_250 rfl (lv_at hl 1 rfl) ?_
    refine lv_iconst (v := -1) hx hb dX7_order_251 (by decide) ?_
    refine lv_icmp_ne (tgt := 259) hx hb dX7_order_252 (by decide) (fun c_109 => ?_) (fun c_109 => ?_)
    · replace hf := ite_n c_109 hf
      refine lv_aload_n hx hb dX7_order_259 rfl (lv_at hl 0 rfl) ?_
      refine va_get (D := γ.1) (ci := 7) (v := .ref (am 30)) (C := RX7) (T := TX7) (N := 35) hx hb hU uin7 hown hK hP 0 rfl rfl 29 (by decide) (hU _ U998) (fun _ h9 => h9) rfl dX7_order_260 ?_
      refine lv_iload_n hx hb dX7_order_263 rfl (lv_at hl 1 rfl) ?_
      obtain ⟨g_110, hf⟩ := gd_of hf
      refine va_iald hx hb hK hP 22 0 rfl rfl (inB_vp g_110) dX7_order_264 ?_
      obtain ⟨rfl, rfl⟩ := rt2 hf
      exact kt_iret C0 hP hS dX7_order_265
    · replace hf := ite_p c_109 hf
      refine lv_iload_n hx hb dX7_order_255 rfl (lv_at hl 2 rfl) ?_
      refine lv_goto (tgt := 265) hx hb dX7_order_256 (by decide) ?_
      obtain ⟨rfl, rfl⟩ := rt2 hf
      exact kt_iret C0 hP hS dX7_order_265
  unfold f_X7_order at hf
  refine lv_iload_n hx hb dX7_order_0 rfl (lv_at hl 1 rfl) ?_
  refine lv_iconst (v := 1) hx hb dX7_order_1 (by decide) ?_
  refine lv_iconst (v := 3) hx hb dX7_order_2 (by decide) ?_
  obtain ⟨r_1, hg_2, hf⟩ := bd_of hf
  refine kt_SF (As := [.int x1, .int (1 : Int32), .int (3 : Int32)]) (rest := []) (st1 := [.int r_1]) (wc' := wM γ am sm sq) C0 (c_X7_within l γ hg_2) (cxS (nA := 3) hts goodU U1079 U1080 U91 U1081 (by decide +kernel) ⟨Nat.le_of_ble_eq_true rfl, Nat.le_of_ble_eq_true rfl⟩) hP (hD _ _) hS hl dX7_order_3 foc_nil rfl (Nat.le_of_ble_eq_true rfl) rfl rfl (fun H locs hP hS => ?_)
  refine lv_if_eq (tgt := 17) hx hb dX7_order_6 (by decide) (fun c_3 => ?_) (fun c_3 => ?_)
  · replace hf := ite_p c_3 hf
    exact J17 sm _ _ _ hf hP hS (lv_sub hl [0] rfl)
  · replace hf := ite_n c_3 hf
    refine lv_aload_n hx hb dX7_order_9 rfl (lv_at hl 0 rfl) ?_
    obtain ⟨r_8, hg_9, hf⟩ := bd_of hf
    refine kt_V0 (As := []) (rest := []) (st1 := [.int r_8]) (b := am 0) C0 (c_X7_standing l γ am hg_9) (cxV (nA := 0) hts goodU U1343 U1345 U66 U91 U1346 (by decide +kernel) ⟨Nat.le_of_ble_eq_true rfl, Nat.le_of_ble_eq_true rfl⟩) hP (hD _ _) hS hl dX7_order_10 0 7 rfl rfl rfl rfl (Nat.le_of_ble_eq_true rfl) rfl rfl (fun H locs hP hS => ?_)
    refine lv_iload_n hx hb dX7_order_13 rfl (lv_at hl 1 rfl) ?_
    refine lv_icmp_ge (tgt := 24) hx hb dX7_order_14 (by decide) (fun c_10 => ?_) (fun c_10 => ?_)
    · replace hf := ite_p c_10 hf
      refine lv_iload_n hx hb dX7_order_24 rfl (lv_at hl 2 rfl) ?_
      refine lv_iconst (v := -1) hx hb dX7_order_25 (by decide) ?_
      refine lv_iload_n hx hb dX7_order_26 rfl (lv_at hl 1 rfl) ?_
      refine lv_iconst (v := 1) hx hb dX7_order_27 (by decide) ?_
      refine lv_isub hx hb dX7_order_28 ?_
      obtain ⟨r_11, hg_12, hf⟩ := bd_of hf
      refine kt_SF (As := [.int x2, .int (-1 : Int32), .int (x1 - (1 : Int32))]) (rest := []) (st1 := [.int r_11]) (wc' := wM γ am sm sq) C0 (c_X7_within l γ hg_12) (cxS (nA := 3) hts goodU U1079 U1080 U91 U1081 (by decide +kernel) ⟨Nat.le_of_ble_eq_true rfl, Nat.le_of_ble_eq_true rfl⟩) hP (hD _ _) hS hl dX7_order_29 foc_nil rfl (Nat.le_of_ble_eq_true rfl) rfl rfl (fun H locs hP hS => ?_)
      refine lv_if_ne (tgt := 42) hx hb dX7_order_32 (by decide) (fun c_13 => ?_) (fun c_13 => ?_)
      · replace hf := ite_n c_13 hf
        refine lv_iconst (v := -1) hx hb dX7_order_42 (by decide) ?_
        refine lv_istore_n (lv' := [(3, .int (-1 : Int32)), (0, .ref (am 0)), (1, .int x1), (2, .int x2)]) hx hb dX7_order_43 rfl hl (by decide) rfl (fun ls hl => ?_)
        refine lv_iload_n hx hb dX7_order_44 rfl (lv_at hl 2 rfl) ?_
        refine lv_iconst (v := 1) hx hb dX7_order_45 (by decide) ?_
        refine lv_icmp_ne (tgt := 54) hx hb dX7_order_46 (by decide) (fun c_14 => ?_) (fun c_14 => ?_)
        · replace hf := ite_n c_14 hf
          refine lv_iload_n hx hb dX7_order_54 rfl (lv_at hl 2 rfl) ?_
          refine lv_iconst (v := 2) hx hb dX7_order_55 (by decide) ?_
          refine lv_icmp_ne (tgt := 64) hx hb dX7_order_56 (by decide) (fun c_15 => ?_) (fun c_15 => ?_)
          · replace hf := ite_n c_15 hf
            refine lv_sipush (v := 1000) hx hb dX7_order_64 (by decide) ?_
            exact J67 x1 x2 (-1 : Int32) sm (1000 : Int32) _ _ _ hf hP hS (lv_sub hl [1, 2, 3, 0] rfl)
          · replace hf := ite_p c_15 hf
            refine lv_bipush (v := 100) hx hb dX7_order_59 (by decide) ?_
            refine lv_goto (tgt := 67) hx hb dX7_order_61 (by decide) ?_
            exact J67 x1 x2 (-1 : Int32) sm (100 : Int32) _ _ _ hf hP hS (lv_sub hl [1, 2, 3, 0] rfl)
        · replace hf := ite_p c_14 hf
          refine lv_bipush (v := 10) hx hb dX7_order_49 (by decide) ?_
          refine lv_goto (tgt := 67) hx hb dX7_order_51 (by decide) ?_
          exact J67 x1 x2 (-1 : Int32) sm (10 : Int32) _ _ _ hf hP hS (lv_sub hl [1, 2, 3, 0] rfl)
      · replace hf := ite_p c_13 hf
        refine lv_aload_n hx hb dX7_order_35 rfl (lv_at hl 0 rfl) ?_
        refine lv_bipush (v := -5) hx hb dX7_order_36 (by decide) ?_
        obtain ⟨r_111, sm_112, hg_113, hf⟩ := bd2_of hf
        refine kt_V0 (As := [.int (-5 : Int32)]) (rest := []) (st1 := [.int r_111]) (b := am 0) C0 (c_X7_no l γ am hg_113) (cxV (nA := 1) hts goodU U1082 U1084 U30 U91 U1085 (by decide +kernel) ⟨Nat.le_of_ble_eq_true rfl, Nat.le_of_ble_eq_true rfl⟩) hP (hD _ _) hS hl dX7_order_38 0 7 rfl rfl rfl rfl (Nat.le_of_ble_eq_true rfl) rfl rfl (fun H locs hP hS => ?_)
        obtain ⟨rfl, rfl⟩ := rt2 hf
        exact kt_iret C0 hP hS dX7_order_41
    · replace hf := ite_n c_10 hf
      exact J17 sm _ _ _ hf hP hS (lv_sub hl [0] rfl)
set_option maxHeartbeats 4000000 in
set_option maxRecDepth 100000 in
theorem c_X7_cost (l : Launch) (γ : Gm) (am : Nat → Nat) {sm : GS} {sq : Nat → Int64} {x1 : Int32} {rv : Int32} {sm_z : GS} (hf : f_X7_cost sm x1 = some (rv, sm_z)) : Kt l γ yX7_cost (Cond.code yX7_cost cX7_cost 4 (some .int) :: U) 5 115 [.ref (am 0), .int x1] (wM γ am sm sq) (some (.int rv)) (wM γ am sm_z sq) := by
  refine Kt.of (by decide) rfl (Nat.le_of_ble_eq_true rfl) rfl ?_
  intro p e s m below meth c A ls C0 hP hD0 hS hl
  obtain ⟨hx, hb, hml, hown, hts, hr, hlocks, hK, hE, hA⟩ := id C0
  have hU : ∀ w ∈ U, w.before _ s = true := fun w h => hts w (List.mem_cons_of_mem _ h)
  have hD : ∀ (sm : GS) (sq : Nat → Int64), va_D A (wM γ am sm sq) := fun _ _ => hD0.fst rfl
  have hl : lv_has ls 4 [(0, .ref (am 0)), (1, .int x1)] := hl
  unfold f_X7_cost at hf
  refine lv_aload_n hx hb dX7_cost_0 rfl (lv_at hl 0 rfl) ?_
  refine lv_iload_n hx hb dX7_cost_1 rfl (lv_at hl 1 rfl) ?_
  obtain ⟨r_1, hg_2, hf⟩ := bd_of hf
  refine kt_V0 (As := [.int x1]) (rest := []) (st1 := [.int r_1]) (b := am 0) C0 (c_X7_isPeak l γ am hg_2) (cxV (nA := 1) hts goodU U1110 U1112 U33 U91 U1113 (by decide +kernel) ⟨Nat.le_of_ble_eq_true rfl, Nat.le_of_ble_eq_true rfl⟩) hP (hD _ _) hS hl dX7_cost_2 0 7 rfl rfl rfl rfl (Nat.le_of_ble_eq_true rfl) rfl rfl (fun H locs hP hS => ?_)
  refine lv_if_ne (tgt := 18) hx hb dX7_cost_5 (by decide) (fun c_3 => ?_) (fun c_3 => ?_)
  · replace hf := ite_n c_3 hf
    refine lv_aload_n hx hb dX7_cost_18 rfl (lv_at hl 0 rfl) ?_
    refine lv_iload_n hx hb dX7_cost_19 rfl (lv_at hl 1 rfl) ?_
    obtain ⟨r_4, hg_5, hf⟩ := bd_of hf
    refine kt_V0 (As := [.int x1]) (rest := []) (st1 := [.int r_4]) (b := am 0) C0 (c_X7_isThere l γ am hg_5) (cxV (nA := 1) hts goodU U1268 U1270 U57 U91 U1271 (by decide +kernel) ⟨Nat.le_of_ble_eq_true rfl, Nat.le_of_ble_eq_true rfl⟩) hP (hD _ _) hS hl dX7_cost_20 0 7 rfl rfl rfl rfl (Nat.le_of_ble_eq_true rfl) rfl rfl (fun H locs hP hS => ?_)
    refine lv_if_ne (tgt := 37) hx hb dX7_cost_23 (by decide) (fun c_6 => ?_) (fun c_6 => ?_)
    · replace hf := ite_n c_6 hf
      refine lv_aload_n hx hb dX7_cost_37 rfl (lv_at hl 0 rfl) ?_
      refine lv_bipush (v := 100) hx hb dX7_cost_38 (by decide) ?_
      obtain ⟨r_7, sm_8, hg_9, hf⟩ := bd2_of hf
      refine kt_V0 (As := [.int (100 : Int32)]) (rest := []) (st1 := [.int r_7]) (b := am 0) C0 (c_X7_yieldOf l γ am hg_9) (cxV (nA := 1) hts goodU U1323 U1325 U64 U91 U1326 (by decide +kernel) ⟨Nat.le_of_ble_eq_true rfl, Nat.le_of_ble_eq_true rfl⟩) hP (hD _ _) hS hl dX7_cost_40 0 7 rfl rfl rfl rfl (Nat.le_of_ble_eq_true rfl) rfl rfl (fun H locs hP hS => ?_)
      refine lv_istore_n (lv' := [(2, .int r_7), (0, .ref (am 0)), (1, .int x1)]) hx hb dX7_cost_43 rfl hl (by decide) rfl (fun ls hl => ?_)
      refine lv_aload_n hx hb dX7_cost_44 rfl (lv_at hl 1 rfl) ?_
      refine lv_aload_n hx hb dX7_cost_45 rfl (lv_at hl 1 rfl) ?_
      refine va_get (D := γ.1) (ci := 7) (v := .ref (am 27)) (C := RX7) (T := TX7) (N := 35) hx hb hU uin7 hown hK hP 0 rfl rfl 26 (by decide) (hU _ U995) (fun _ h9 => h9) rfl dX7_cost_46 ?_
      obtain ⟨sm_10, hg_11, hf⟩ := bd_of hf
      refine kt_V0 (As := [.ref (am 27)]) (rest := []) (st1 := []) (b := am 0) C0 (c_X7_keep_27 l γ am hg_11) (cxV (nA := 1) hts goodU U1228 U1230 U49 U91 U1231 (by decide +kernel) ⟨Nat.le_of_ble_eq_true rfl, Nat.le_of_ble_eq_true rfl⟩) hP (hD _ _) hS hl dX7_cost_49 0 7 rfl rfl rfl rfl (Nat.le_of_ble_eq_true rfl) rfl rfl (fun H locs hP hS => ?_)
      refine lv_aload_n hx hb dX7_cost_52 rfl (lv_at hl 1 rfl) ?_
      refine lv_iload_n hx hb dX7_cost_53 rfl (lv_at hl 2 rfl) ?_
      obtain ⟨r_12, sm_13, hg_14, hf⟩ := bd2_of hf
      refine kt_V0 (As := [.int x1]) (rest := []) (st1 := [.int r_12]) (b := am 0) C0 (c_X7_loses l γ am hg_14) (cxV (nA := 1) hts goodU U1272 U1274 U58 U91 U1275 (by decide +kernel) ⟨Nat.le_of_ble_eq_true rfl, Nat.le_of_ble_eq_true rfl⟩) hP (hD _ _) hS hl dX7_cost_54 0 7 rfl rfl rfl rfl (Nat.le_of_ble_eq_true rfl) rfl rfl (fun H locs hP hS => ?_)
      refine lv_pop hx hb dX7_cost_57 rfl ?_
      refine lv_aload_n hx hb dX7_cost_58 rfl (lv_at hl 1 rfl) ?_
      refine lv_bipush (v := 100) hx hb dX7_cost_59 (by decide) ?_
      obtain ⟨r_15, sm_16, hg_17, hf⟩ := bd2_of hf
      refine kt_V0 (As := [.int (100 : Int32)]) (rest := []) (st1 := [.int r_15]) (b := am 0) C0 (c_X7_yieldOf l γ am hg_17) (cxV (nA := 1) hts goodU U1323 U1325 U64 U91 U1326 (by decide +kernel) ⟨Nat.le_of_ble_eq_true rfl, Nat.le_of_ble_eq_true rfl⟩) hP (hD _ _) hS hl dX7_cost_61 0 7 rfl rfl rfl rfl (Nat.le_of_ble_eq_true rfl) rfl rfl (fun H locs hP hS => ?_)
      refine lv_istore_n (lv' := [(3, .int r_15), (2, .int r_7), (0, .ref (am 0)), (1, .int x1)]) hx hb dX7_cost_64 rfl hl (by decide) rfl (fun ls hl => ?_)
      refine lv_aload_n hx hb dX7_cost_65 rfl (lv_at hl 2 rfl) ?_
      refine lv_aload_n hx hb dX7_cost_66 rfl (lv_at hl 2 rfl) ?_
      refine va_get (D := γ.1) (ci := 7) (v := .ref (am 27)) (C := RX7) (T := TX7) (N := 35) hx hb hU uin7 hown hK hP 0 rfl rfl 26 (by decide) (hU _ U995) (fun _ h9 => h9) rfl dX7_cost_67 ?_
      obtain ⟨sm_18, hg_19, hf⟩ := bd_of hf
      refine kt_V0 (As := [.ref (am 27)]) (rest := []) (st1 := []) (b := am 0) C0 (c_X7_again_27 l γ am hg_19) (cxV (nA := 1) hts goodU U1280 U1282 U60 U91 U1283 (by decide +kernel) ⟨Nat.le_of_ble_eq_true rfl, Nat.le_of_ble_eq_true rfl⟩) hP (hD _ _) hS hl dX7_cost_70 0 7 rfl rfl rfl rfl (Nat.le_of_ble_eq_true rfl) rfl rfl (fun H locs hP hS => ?_)
      refine lv_iload_n hx hb dX7_cost_73 rfl (lv_at hl 1 rfl) ?_
      refine lv_iload_n hx hb dX7_cost_74 rfl (lv_at hl 0 rfl) ?_
      refine lv_isub hx hb dX7_cost_75 ?_
      obtain ⟨rfl, rfl⟩ := rt2 hf
      exact kt_iret C0 hP hS dX7_cost_76
    · replace hf := ite_p c_6 hf
      refine lv_aload_n hx hb dX7_cost_26 rfl (lv_at hl 0 rfl) ?_
      refine lv_bipush (v := -6) hx hb dX7_cost_27 (by decide) ?_
      obtain ⟨r_20, sm_21, hg_22, hf⟩ := bd2_of hf
      refine kt_V0 (As := [.int (-6 : Int32)]) (rest := []) (st1 := [.int r_20]) (b := am 0) C0 (c_X7_no l γ am hg_22) (cxV (nA := 1) hts goodU U1082 U1084 U30 U91 U1085 (by decide +kernel) ⟨Nat.le_of_ble_eq_true rfl, Nat.le_of_ble_eq_true rfl⟩) hP (hD _ _) hS hl dX7_cost_29 0 7 rfl rfl rfl rfl (Nat.le_of_ble_eq_true rfl) rfl rfl (fun H locs hP hS => ?_)
      refine lv_ldcw hx hb hown (hU _ U1351) dX7_cost_32 ?_
      refine lv_iadd hx hb dX7_cost_35 ?_
      obtain ⟨rfl, rfl⟩ := rt2 hf
      exact kt_iret C0 hP hS dX7_cost_36
  · replace hf := ite_p c_3 hf
    refine lv_aload_n hx hb dX7_cost_8 rfl (lv_at hl 0 rfl) ?_
    refine lv_iconst (v := -1) hx hb dX7_cost_9 (by decide) ?_
    obtain ⟨r_23, sm_24, hg_25, hf⟩ := bd2_of hf
    refine kt_V0 (As := [.int (-1 : Int32)]) (rest := []) (st1 := [.int r_23]) (b := am 0) C0 (c_X7_no l γ am hg_25) (cxV (nA := 1) hts goodU U1082 U1084 U30 U91 U1085 (by decide +kernel) ⟨Nat.le_of_ble_eq_true rfl, Nat.le_of_ble_eq_true rfl⟩) hP (hD _ _) hS hl dX7_cost_10 0 7 rfl rfl rfl rfl (Nat.le_of_ble_eq_true rfl) rfl rfl (fun H locs hP hS => ?_)
    refine lv_ldcw hx hb hown (hU _ U1351) dX7_cost_13 ?_
    refine lv_iadd hx hb dX7_cost_16 ?_
    obtain ⟨rfl, rfl⟩ := rt2 hf
    exact kt_iret C0 hP hS dX7_cost_17
set_option maxHeartbeats 4000000 in
set_option maxRecDepth 100000 in
theorem c_X7_screenedAt (l : Launch) (γ : Gm) (am : Nat → Nat) {sm : GS} {sq : Nat → Int64} {x1 : Int32} {x2 : Int32} {x3 : Int32} {rv : Int32} (hf : f_X7_screenedAt sm x1 x2 x3 = some rv) : Kt l γ yX7_screenedAt (Cond.code yX7_screenedAt cX7_screenedAt 5 (some .int) :: U) 2 44 [.ref (am 0), .int x1, .int x2, .int x3] (wM γ am sm sq) (some (.int rv)) (wM γ am sm sq) := by
  refine Kt.of (by decide) rfl (Nat.le_of_ble_eq_true rfl) rfl ?_
  intro p e s m below meth c A ls C0 hP hD0 hS hl
  obtain ⟨hx, hb, hml, hown, hts, hr, hlocks, hK, hE, hA⟩ := id C0
  have hU : ∀ w ∈ U, w.before _ s = true := fun w h => hts w (List.mem_cons_of_mem _ h)
  have hD : ∀ (sm : GS) (sq : Nat → Int64), va_D A (wM γ am sm sq) := fun _ _ => hD0.fst rfl
  have hl : lv_has ls 5 [(0, .ref (am 0)), (1, .int x1), (2, .int x2), (3, .int x3)] := hl
  have L15 : ∀ (x1_4 : Int32) (x2_5 : Int32) (x3_6 : Int32) (n : Nat) (x4_7 : Int32) (H : Heap) (locs : List Loc) (ls : Array Slot), f_X7_screenedAt_L15 sm x1_4 x2_5 x3_6 n x4_7 = some rv → va_P γ.1 vwCl (wM γ am sm sq) H → va_S A s.heap H locs → lv_has ls 5 [(0, .ref (am 0)), (1, .int x1_4), (2, .int x2_5), (3, .int x3_6), (4, .int x4_7)] → W p l e (rmK 2 44) s m ([.ref (am 0), .int x1, .int x2, .int x3] : List Value).toArray below meth c H locs 0 0 (MQ below (KQ γ A (some (.int rv)) (wM γ am sm sq)) ([.ref (am 0), .int x1, .int x2, .int x3] : List Value).toArray s 0 0 A) (F0 m 15 ls []) := by
    intro x1_4 x2_5 x3_6
    intro n
    induction n with
    | zero =>
      intro x4_7 H locs ls hf
      have hf : none = some _ := hf
      cases hf
    | succ n ih =>
      intro x4_7 H locs ls hf hP hS hl
      rw [f_X7_screenedAt_L15.eq_2] at hf
      refine lv_iload hx hb dX7_screenedAt_15 (lv_at hl 4 rfl) ?_
      refine lv_sipush (v := 1000) hx hb dX7_screenedAt_17 (by decide) ?_
      refine lv_icmp_ge (tgt := 44) hx hb dX7_screenedAt_20 (by decide) (fun c_8 => ?_) (fun c_8 => ?_)
      · replace hf := ite_p c_8 hf
        refine lv_iconst (v := -1) hx hb dX7_screenedAt_44 (by decide) ?_
        obtain rfl := Option.some.inj hf
        exact kt_iret C0 hP hS dX7_screenedAt_45
      · replace hf := ite_n c_8 hf
        refine lv_aload_n hx hb dX7_screenedAt_23 rfl (lv_at hl 0 rfl) ?_
        refine lv_iload_n hx hb dX7_screenedAt_24 rfl (lv_at hl 1 rfl) ?_
        refine lv_iload_n hx hb dX7_screenedAt_25 rfl (lv_at hl 2 rfl) ?_
        refine lv_iload_n hx hb dX7_screenedAt_26 rfl (lv_at hl 3 rfl) ?_
        refine lv_iload hx hb dX7_screenedAt_27 (lv_at hl 4 rfl) ?_
        obtain ⟨r_9, hg_10, hf⟩ := bd_of hf
        refine kt_V0 (As := [.int x1_4, .int x2_5, .int x3_6, .int x4_7]) (rest := []) (st1 := [.int r_9]) (b := am 0) C0 (c_X7_isBelow l γ am hg_10) (cxV (nA := 4) hts goodU U1184 U1186 U44 U91 U1187 (by decide +kernel) ⟨Nat.le_of_ble_eq_true rfl, Nat.le_of_ble_eq_true rfl⟩) hP (hD _ _) hS hl dX7_screenedAt_29 0 7 rfl rfl rfl rfl (Nat.le_of_ble_eq_true rfl) rfl rfl (fun H locs hP hS => ?_)
        refine lv_if_ne (tgt := 38) hx hb dX7_screenedAt_32 (by decide) (fun c_11 => ?_) (fun c_11 => ?_)
        · replace hf := ite_n c_11 hf
          obtain ⟨x4_12, e_x4_12⟩ : ∃ y : Int32, y = x4_7 + (1 : Int32) := ⟨_, rfl⟩
          replace hf := nm_y hf e_x4_12
          refine lv_iinc (v := x4_12) (lv' := [(4, .int x4_12), (0, .ref (am 0)), (1, .int x1_4), (2, .int x2_5), (3, .int x3_6)]) hx hb dX7_screenedAt_38 hl (k := 4) rfl (by rw [e_x4_12]; rfl) (by decide) rfl (fun ls hl => ?_)
          refine lv_goto (tgt := 15) hx hb dX7_screenedAt_41 (by decide) ?_
          exact ih x4_12 _ _ _ hf hP hS (lv_sub hl [1, 2, 3, 4, 0] rfl)
        · replace hf := ite_p c_11 hf
          refine lv_iload hx hb dX7_screenedAt_35 (lv_at hl 4 rfl) ?_
          obtain rfl := Option.some.inj hf
          exact kt_iret C0 hP hS dX7_screenedAt_37
  unfold f_X7_screenedAt at hf
  refine lv_aload_n hx hb dX7_screenedAt_0 rfl (lv_at hl 0 rfl) ?_
  refine lv_iload_n hx hb dX7_screenedAt_1 rfl (lv_at hl 1 rfl) ?_
  refine lv_iload_n hx hb dX7_screenedAt_2 rfl (lv_at hl 2 rfl) ?_
  refine lv_iload_n hx hb dX7_screenedAt_3 rfl (lv_at hl 3 rfl) ?_
  obtain ⟨r_1, hg_2, hf⟩ := bd_of hf
  refine kt_V0 (As := [.int x1, .int x2, .int x3]) (rest := []) (st1 := [.int r_1]) (b := am 0) C0 (c_X7_isBetween l γ am hg_2) (cxV (nA := 3) hts goodU U1179 U1181 U43 U91 U1182 (by decide +kernel) ⟨Nat.le_of_ble_eq_true rfl, Nat.le_of_ble_eq_true rfl⟩) hP (hD _ _) hS hl dX7_screenedAt_4 0 7 rfl rfl rfl rfl (Nat.le_of_ble_eq_true rfl) rfl rfl (fun H locs hP hS => ?_)
  refine lv_if_ne (tgt := 12) hx hb dX7_screenedAt_7 (by decide) (fun c_3 => ?_) (fun c_3 => ?_)
  · replace hf := ite_n c_3 hf
    refine lv_iconst (v := 1) hx hb dX7_screenedAt_12 (by decide) ?_
    refine lv_istore (lv' := [(4, .int (1 : Int32)), (0, .ref (am 0)), (1, .int x1), (2, .int x2), (3, .int x3)]) hx hb dX7_screenedAt_13 hl (by decide) rfl (fun ls hl => ?_)
    exact L15 x1 x2 x3 FU (1 : Int32) _ _ _ hf hP hS (lv_sub hl [1, 2, 3, 4, 0] rfl)
  · replace hf := ite_p c_3 hf
    refine lv_iconst (v := -1) hx hb dX7_screenedAt_10 (by decide) ?_
    obtain rfl := Option.some.inj hf
    exact kt_iret C0 hP hS dX7_screenedAt_11
set_option maxHeartbeats 4000000 in
set_option maxRecDepth 100000 in
theorem c_X7_screened (l : Launch) (γ : Gm) (am : Nat → Nat) {sm : GS} {sq : Nat → Int64} {x1 : Int32} {x2 : Int32} {x3 : Int32} {rv : Int32} {sm_z : GS} (hf : f_X7_screened sm x1 x2 x3 = some (rv, sm_z)) : Kt l γ yX7_screened (Cond.code yX7_screened cX7_screened 4 (some .int) :: U) 3 68 [.ref (am 0), .int x1, .int x2, .int x3] (wM γ am sm sq) (some (.int rv)) (wM γ am sm_z sq) := by
  refine Kt.of (by decide) rfl (Nat.le_of_ble_eq_true rfl) rfl ?_
  intro p e s m below meth c A ls C0 hP hD0 hS hl
  obtain ⟨hx, hb, hml, hown, hts, hr, hlocks, hK, hE, hA⟩ := id C0
  have hU : ∀ w ∈ U, w.before _ s = true := fun w h => hts w (List.mem_cons_of_mem _ h)
  have hD : ∀ (sm : GS) (sq : Nat → Int64), va_D A (wM γ am sm sq) := fun _ _ => hD0.fst rfl
  have hl : lv_has ls 4 [(0, .ref (am 0)), (1, .int x1), (2, .int x2), (3, .int x3)] := hl
  have J16 : ∀ (sm_4 : GS) (H : Heap) (locs : List Loc) (ls : Array Slot), f_X7_screened_J16 sm_4 = some (rv, sm_z) → va_P γ.1 vwCl (wM γ am sm_4 sq) H → va_S A s.heap H locs → lv_has ls 4 [(0, .ref (am 0))] → W p l e (rmK 3 68) s m ([.ref (am 0), .int x1, .int x2, .int x3] : List Value).toArray below meth c H locs 0 0 (MQ below (KQ γ A (some (.int rv)) (wM γ am sm_z sq)) ([.ref (am 0), .int x1, .int x2, .int x3] : List Value).toArray s 0 0 A) (F0 m 16 ls []) := by
    intro sm_4 H locs ls hf hP hS hl
    unfold f_X7_screened_J16 at hf
    refine lv_aload_n hx hb dX7_screened_16 rfl (lv_at hl 0 rfl) ?_
    refine lv_iconst (v := -1) hx hb dX7_screened_17 (by decide) ?_
    obtain ⟨r_5, sm_6, hg_7, hf⟩ := bd2_of hf
    refine kt_V0 (As := [.int (-1 : Int32)]) (rest := []) (st1 := [.int r_5]) (b := am 0) C0 (c_X7_no10 l γ am hg_7) (cxV (nA := 1) hts goodU U1292 U1294 U61 U91 U1295 (by decide +kernel) ⟨Nat.le_of_ble_eq_true rfl, Nat.le_of_ble_eq_true rfl⟩) hP (hD _ _) hS hl dX7_screened_18 0 7 rfl rfl rfl rfl (Nat.le_of_ble_eq_true rfl) rfl rfl (fun H locs hP hS => ?_)
    obtain ⟨rfl, rfl⟩ := rt2 hf
    exact kt_iret C0 hP hS dX7_screened_21
  have J38 : ∀ (sm_14 : GS) (H : Heap) (locs : List Loc) (ls : Array Slot), f_X7_screened_J38 sm_14 = some (rv, sm_z) → va_P γ.1 vwCl (wM γ am sm_14 sq) H → va_S A s.heap H locs → lv_has ls 4 [(0, .ref (am 0))] → W p l e (rmK 3 68) s m ([.ref (am 0), .int x1, .int x2, .int x3] : List Value).toArray below meth c H locs 0 0 (MQ below (KQ γ A (some (.int rv)) (wM γ am sm_z sq)) ([.ref (am 0), .int x1, .int x2, .int x3] : List Value).toArray s 0 0 A) (F0 m 38 ls []) := by
    intro sm_14 H locs ls hf hP hS hl
    unfold f_X7_screened_J38 at hf
    refine lv_aload_n hx hb dX7_screened_38 rfl (lv_at hl 0 rfl) ?_
    refine lv_bipush (v := -6) hx hb dX7_screened_39 (by decide) ?_
    obtain ⟨r_15, sm_16, hg_17, hf⟩ := bd2_of hf
    refine kt_V0 (As := [.int (-6 : Int32)]) (rest := []) (st1 := [.int r_15]) (b := am 0) C0 (c_X7_no10 l γ am hg_17) (cxV (nA := 1) hts goodU U1292 U1294 U61 U91 U1295 (by decide +kernel) ⟨Nat.le_of_ble_eq_true rfl, Nat.le_of_ble_eq_true rfl⟩) hP (hD _ _) hS hl dX7_screened_41 0 7 rfl rfl rfl rfl (Nat.le_of_ble_eq_true rfl) rfl rfl (fun H locs hP hS => ?_)
    obtain ⟨rfl, rfl⟩ := rt2 hf
    exact kt_iret C0 hP hS dX7_screened_44
  unfold f_X7_screened at hf
  refine lv_aload_n hx hb dX7_screened_0 rfl (lv_at hl 0 rfl) ?_
  refine lv_iload_n hx hb dX7_screened_1 rfl (lv_at hl 1 rfl) ?_
  obtain ⟨r_1, hg_2, hf⟩ := bd_of hf
  refine kt_V0 (As := [.int x1]) (rest := []) (st1 := [.int r_1]) (b := am 0) C0 (c_X7_isPeak l γ am hg_2) (cxV (nA := 1) hts goodU U1110 U1112 U33 U91 U1113 (by decide +kernel) ⟨Nat.le_of_ble_eq_true rfl, Nat.le_of_ble_eq_true rfl⟩) hP (hD _ _) hS hl dX7_screened_2 0 7 rfl rfl rfl rfl (Nat.le_of_ble_eq_true rfl) rfl rfl (fun H locs hP hS => ?_)
  refine lv_if_eq (tgt := 16) hx hb dX7_screened_5 (by decide) (fun c_3 => ?_) (fun c_3 => ?_)
  · replace hf := ite_p c_3 hf
    exact J16 sm _ _ _ hf hP hS (lv_sub hl [0] rfl)
  · replace hf := ite_n c_3 hf
    refine lv_aload_n hx hb dX7_screened_8 rfl (lv_at hl 0 rfl) ?_
    refine lv_iload_n hx hb dX7_screened_9 rfl (lv_at hl 2 rfl) ?_
    obtain ⟨r_8, hg_9, hf⟩ := bd_of hf
    refine kt_V0 (As := [.int x2]) (rest := []) (st1 := [.int r_8]) (b := am 0) C0 (c_X7_isPeak l γ am hg_9) (cxV (nA := 1) hts goodU U1110 U1112 U33 U91 U1113 (by decide +kernel) ⟨Nat.le_of_ble_eq_true rfl, Nat.le_of_ble_eq_true rfl⟩) hP (hD _ _) hS hl dX7_screened_10 0 7 rfl rfl rfl rfl (Nat.le_of_ble_eq_true rfl) rfl rfl (fun H locs hP hS => ?_)
    refine lv_if_ne (tgt := 22) hx hb dX7_screened_13 (by decide) (fun c_10 => ?_) (fun c_10 => ?_)
    · replace hf := ite_n c_10 hf
      refine lv_aload_n hx hb dX7_screened_22 rfl (lv_at hl 0 rfl) ?_
      refine lv_iload_n hx hb dX7_screened_23 rfl (lv_at hl 1 rfl) ?_
      refine lv_iload_n hx hb dX7_screened_24 rfl (lv_at hl 2 rfl) ?_
      obtain ⟨r_11, hg_12, hf⟩ := bd_of hf
      refine kt_V0 (As := [.int x1, .int x2]) (rest := []) (st1 := [.int r_11]) (b := am 0) C0 (c_X7_sees l γ am hg_12) (cxV (nA := 2) hts goodU U1143 U1145 U37 U91 U1146 (by decide +kernel) ⟨Nat.le_of_ble_eq_true rfl, Nat.le_of_ble_eq_true rfl⟩) hP (hD _ _) hS hl dX7_screened_25 0 7 rfl rfl rfl rfl (Nat.le_of_ble_eq_true rfl) rfl rfl (fun H locs hP hS => ?_)
      refine lv_if_eq (tgt := 38) hx hb dX7_screened_28 (by decide) (fun c_13 => ?_) (fun c_13 => ?_)
      · replace hf := ite_p c_13 hf
        exact J38 sm _ _ _ hf hP hS (lv_sub hl [0] rfl)
      · replace hf := ite_n c_13 hf
        refine lv_iload_n hx hb dX7_screened_31 rfl (lv_at hl 3 rfl) ?_
        obtain ⟨r_18, hg_19, hf⟩ := bd_of hf
        refine kt_SF (As := [.int x3]) (rest := []) (st1 := [.int r_18]) (wc' := wM γ am sm sq) C0 (c_X7_isPlace l γ hg_19) (cxS (nA := 1) hts goodU U1156 U1157 U91 U1158 (by decide +kernel) ⟨Nat.le_of_ble_eq_true rfl, Nat.le_of_ble_eq_true rfl⟩) hP (hD _ _) hS hl dX7_screened_32 foc_nil rfl (Nat.le_of_ble_eq_true rfl) rfl rfl (fun H locs hP hS => ?_)
        refine lv_if_ne (tgt := 45) hx hb dX7_screened_35 (by decide) (fun c_20 => ?_) (fun c_20 => ?_)
        · replace hf := ite_n c_20 hf
          refine lv_aload_n hx hb dX7_screened_45 rfl (lv_at hl 0 rfl) ?_
          refine lv_iload_n hx hb dX7_screened_46 rfl (lv_at hl 1 rfl) ?_
          refine lv_iload_n hx hb dX7_screened_47 rfl (lv_at hl 2 rfl) ?_
          refine lv_iload_n hx hb dX7_screened_48 rfl (lv_at hl 3 rfl) ?_
          obtain ⟨r_21, hg_22, hf⟩ := bd_of hf
          refine kt_V0 (As := [.int x1, .int x2, .int x3]) (rest := []) (st1 := [.int r_21]) (b := am 0) C0 (c_X7_screenedAt l γ am hg_22) (cxV (nA := 3) hts goodU U1356 U1358 U67 U91 U1359 (by decide +kernel) ⟨Nat.le_of_ble_eq_true rfl, Nat.le_of_ble_eq_true rfl⟩) hP (hD _ _) hS hl dX7_screened_49 0 7 rfl rfl rfl rfl (Nat.le_of_ble_eq_true rfl) rfl rfl (fun H locs hP hS => ?_)
          obtain ⟨rfl, rfl⟩ := rt2 hf
          exact kt_iret C0 hP hS dX7_screened_52
        · replace hf := ite_p c_20 hf
          exact J38 sm _ _ _ hf hP hS (lv_sub hl [0] rfl)
    · replace hf := ite_p c_10 hf
      exact J16 sm _ _ _ hf hP hS (lv_sub hl [0] rfl)
set_option maxHeartbeats 4000000 in
set_option maxRecDepth 100000 in
theorem c_X7_isFree (l : Launch) (γ : Gm) (am : Nat → Nat) {sm : GS} {sq : Nat → Int64} {x1 : Int32} {rv : Int32} (hf : f_X7_isFree sm x1 = some rv) : Kt l γ yX7_isFree (Cond.code yX7_isFree cX7_isFree 3 (some .boolean) :: U) 0 0 [.ref (am 0), .int x1] (wM γ am sm sq) (some (.int rv)) (wM γ am sm sq) := by
  refine Kt.of (by decide) rfl (Nat.le_of_ble_eq_true rfl) rfl ?_
  intro p e s m below meth c A ls C0 hP hD0 hS hl
  obtain ⟨hx, hb, hml, hown, hts, hr, hlocks, hK, hE, hA⟩ := id C0
  have hU : ∀ w ∈ U, w.before _ s = true := fun w h => hts w (List.mem_cons_of_mem _ h)
  have hD : ∀ (sm : GS) (sq : Nat → Int64), va_D A (wM γ am sm sq) := fun _ _ => hD0.fst rfl
  have hl : lv_has ls 3 [(0, .ref (am 0)), (1, .int x1)] := hl
  have L2 : ∀ (x1_1 : Int32) (n : Nat) (x2_2 : Int32) (H : Heap) (locs : List Loc) (ls : Array Slot), f_X7_isFree_L2 sm x1_1 n x2_2 = some rv → va_P γ.1 vwCl (wM γ am sm sq) H → va_S A s.heap H locs → lv_has ls 3 [(0, .ref (am 0)), (1, .int x1_1), (2, .int x2_2)] → W p l e (rmK 0 0) s m ([.ref (am 0), .int x1] : List Value).toArray below meth c H locs 0 0 (MQ below (KQ γ A (some (.int rv)) (wM γ am sm sq)) ([.ref (am 0), .int x1] : List Value).toArray s 0 0 A) (F0 m 2 ls []) := by
    intro x1_1
    intro n
    induction n with
    | zero =>
      intro x2_2 H locs ls hf
      have hf : none = some _ := hf
      cases hf
    | succ n ih =>
      intro x2_2 H locs ls hf hP hS hl
      rw [f_X7_isFree_L2.eq_2] at hf
      refine lv_iload_n hx hb dX7_isFree_2 rfl (lv_at hl 2 rfl) ?_
      refine lv_aload_n hx hb dX7_isFree_3 rfl (lv_at hl 0 rfl) ?_
      refine va_get (D := γ.1) (ci := 7) (v := .int (sm 0 3)) (C := RX7) (T := TX7) (N := 35) hx hb hU uin7 hown hK hP 0 rfl rfl 3 (by decide) (hU _ U972) (fun _ h9 => h9) rfl dX7_isFree_4 ?_
      refine lv_icmp_ge (tgt := 38) hx hb dX7_isFree_7 (by decide) (fun c_3 => ?_) (fun c_3 => ?_)
      · replace hf := ite_p c_3 hf
        refine lv_iconst (v := 1) hx hb dX7_isFree_38 (by decide) ?_
        obtain rfl := Option.some.inj hf
        exact kt_zret C0 (by decide) hP hS dX7_isFree_39
      · replace hf := ite_n c_3 hf
        refine lv_aload_n hx hb dX7_isFree_10 rfl (lv_at hl 0 rfl) ?_
        refine va_get (D := γ.1) (ci := 7) (v := .ref (am 9)) (C := RX7) (T := TX7) (N := 35) hx hb hU uin7 hown hK hP 0 rfl rfl 8 (by decide) (hU _ U977) (fun _ h9 => h9) rfl dX7_isFree_11 ?_
        refine lv_iload_n hx hb dX7_isFree_14 rfl (lv_at hl 2 rfl) ?_
        obtain ⟨g_4, hf⟩ := gd_of hf
        refine va_iald hx hb hK hP 8 0 rfl rfl (inB_vp g_4) dX7_isFree_15 ?_
        refine lv_iconst (v := 1) hx hb dX7_isFree_16 (by decide) ?_
        refine lv_icmp_ne (tgt := 32) hx hb dX7_isFree_17 (by decide) (fun c_5 => ?_) (fun c_5 => ?_)
        · replace hf := ite_n c_5 hf
          obtain ⟨x2_6, e_x2_6⟩ : ∃ y : Int32, y = x2_2 + (1 : Int32) := ⟨_, rfl⟩
          replace hf := nm_y hf e_x2_6
          refine lv_iinc (v := x2_6) (lv' := [(2, .int x2_6), (0, .ref (am 0)), (1, .int x1_1)]) hx hb dX7_isFree_32 hl (k := 2) rfl (by rw [e_x2_6]; rfl) (by decide) rfl (fun ls hl => ?_)
          refine lv_goto (tgt := 2) hx hb dX7_isFree_35 (by decide) ?_
          exact ih x2_6 _ _ _ hf hP hS (lv_sub hl [1, 2, 0] rfl)
        · replace hf := ite_p c_5 hf
          refine lv_aload_n hx hb dX7_isFree_20 rfl (lv_at hl 0 rfl) ?_
          refine va_get (D := γ.1) (ci := 7) (v := .ref (am 7)) (C := RX7) (T := TX7) (N := 35) hx hb hU uin7 hown hK hP 0 rfl rfl 6 (by decide) (hU _ U975) (fun _ h9 => h9) rfl dX7_isFree_21 ?_
          refine lv_iload_n hx hb dX7_isFree_24 rfl (lv_at hl 2 rfl) ?_
          obtain ⟨g_7, hf⟩ := gd_of hf
          refine va_iald hx hb hK hP 6 0 rfl rfl (inB_vp g_7) dX7_isFree_25 ?_
          refine lv_iload_n hx hb dX7_isFree_26 rfl (lv_at hl 1 rfl) ?_
          refine lv_icmp_ne (tgt := 32) hx hb dX7_isFree_27 (by decide) (fun c_8 => ?_) (fun c_8 => ?_)
          · replace hf := ite_n c_8 hf
            obtain ⟨x2_9, e_x2_9⟩ : ∃ y : Int32, y = x2_2 + (1 : Int32) := ⟨_, rfl⟩
            replace hf := nm_y hf e_x2_9
            refine lv_iinc (v := x2_9) (lv' := [(2, .int x2_9), (0, .ref (am 0)), (1, .int x1_1)]) hx hb dX7_isFree_32 hl (k := 2) rfl (by rw [e_x2_9]; rfl) (by decide) rfl (fun ls hl => ?_)
            refine lv_goto (tgt := 2) hx hb dX7_isFree_35 (by decide) ?_
            exact ih x2_9 _ _ _ hf hP hS (lv_sub hl [1, 2, 0] rfl)
          · replace hf := ite_p c_8 hf
            refine lv_iconst (v := 0) hx hb dX7_isFree_30 (by decide) ?_
            obtain rfl := Option.some.inj hf
            exact kt_zret C0 (by decide) hP hS dX7_isFree_31
  unfold f_X7_isFree at hf
  refine lv_iconst (v := 0) hx hb dX7_isFree_0 (by decide) ?_
  refine lv_istore_n (lv' := [(2, .int (0 : Int32)), (0, .ref (am 0)), (1, .int x1)]) hx hb dX7_isFree_1 rfl hl (by decide) rfl (fun ls hl => ?_)
  exact L2 x1 FU (0 : Int32) _ _ _ hf hP hS (lv_sub hl [1, 2, 0] rfl)
set_option maxHeartbeats 4000000 in
set_option maxRecDepth 100000 in
theorem c_X7_hide (l : Launch) (γ : Gm) (am : Nat → Nat) {sm : GS} {sq : Nat → Int64} {x1 : Int32} {x2 : Int32} {rv : Int32} {sm_z : GS} (hf : f_X7_hide sm x1 x2 = some (rv, sm_z)) : Kt l γ yX7_hide (Cond.code yX7_hide cX7_hide 7 (some .int) :: U) 3 68 [.ref (am 0), .int x1, .int x2] (wM γ am sm sq) (some (.int rv)) (wM γ am sm_z sq) := by
  refine Kt.of (by decide) rfl (Nat.le_of_ble_eq_true rfl) rfl ?_
  intro p e s m below meth c A ls C0 hP hD0 hS hl
  obtain ⟨hx, hb, hml, hown, hts, hr, hlocks, hK, hE, hA⟩ := id C0
  have hU : ∀ w ∈ U, w.before _ s = true := fun w h => hts w (List.mem_cons_of_mem _ h)
  have hD : ∀ (sm : GS) (sq : Nat → Int64), va_D A (wM γ am sm sq) := fun _ _ => hD0.fst rfl
  have hl : lv_has ls 7 [(0, .ref (am 0)), (1, .int x1), (2, .int x2)] := hl
  have J16 : ∀ (sm_4 : GS) (H : Heap) (locs : List Loc) (ls : Array Slot), f_X7_hide_J16 sm_4 = some (rv, sm_z) → va_P γ.1 vwCl (wM γ am sm_4 sq) H → va_S A s.heap H locs → lv_has ls 7 [(0, .ref (am 0))] → W p l e (rmK 3 68) s m ([.ref (am 0), .int x1, .int x2] : List Value).toArray below meth c H locs 0 0 (MQ below (KQ γ A (some (.int rv)) (wM γ am sm_z sq)) ([.ref (am 0), .int x1, .int x2] : List Value).toArray s 0 0 A) (F0 m 16 ls []) := by
    intro sm_4 H locs ls hf hP hS hl
    unfold f_X7_hide_J16 at hf
    refine lv_aload_n hx hb dX7_hide_16 rfl (lv_at hl 0 rfl) ?_
    refine lv_iconst (v := -1) hx hb dX7_hide_17 (by decide) ?_
    obtain ⟨r_5, sm_6, hg_7, hf⟩ := bd2_of hf
    refine kt_V0 (As := [.int (-1 : Int32)]) (rest := []) (st1 := [.int r_5]) (b := am 0) C0 (c_X7_no10 l γ am hg_7) (cxV (nA := 1) hts goodU U1292 U1294 U61 U91 U1295 (by decide +kernel) ⟨Nat.le_of_ble_eq_true rfl, Nat.le_of_ble_eq_true rfl⟩) hP (hD _ _) hS hl dX7_hide_18 0 7 rfl rfl rfl rfl (Nat.le_of_ble_eq_true rfl) rfl rfl (fun H locs hP hS => ?_)
    obtain ⟨rfl, rfl⟩ := rt2 hf
    exact kt_iret C0 hP hS dX7_hide_21
  have J97 : ∀ (x1_34 : Int32) (x2_35 : Int32) (x5_36 : Int32) (x6_37 : Int32) (sm_38 : GS) (K46 : Int32 → Int32 → Int32 → Option (Int32 × GS)) (HK46 : ∀ (z3 : Int32) (z4 : Int32) (z5 : Int32) (H : Heap) (locs : List Loc) (ls : Array Slot), K46 z3 z4 z5 = some (rv, sm_z) → va_P γ.1 vwCl (wM γ am sm_38 sq) H → va_S A s.heap H locs → lv_has ls 7 [(0, .ref (am 0)), (1, .int x1_34), (2, .int x2_35), (3, .int z3), (4, .int z4), (5, .int z5)] → W p l e (rmK 3 68) s m ([.ref (am 0), .int x1, .int x2] : List Value).toArray below meth c H locs 0 0 (MQ below (KQ γ A (some (.int rv)) (wM γ am sm_z sq)) ([.ref (am 0), .int x1, .int x2] : List Value).toArray s 0 0 A) (F0 m 46 ls [])) (H : Heap) (locs : List Loc) (ls : Array Slot), f_X7_hide_J97 x5_36 x6_37 K46 = some (rv, sm_z) → va_P γ.1 vwCl (wM γ am sm_38 sq) H → va_S A s.heap H locs → lv_has ls 7 [(0, .ref (am 0)), (1, .int x1_34), (2, .int x2_35), (5, .int x5_36), (6, .int x6_37)] → W p l e (rmK 3 68) s m ([.ref (am 0), .int x1, .int x2] : List Value).toArray below meth c H locs 0 0 (MQ below (KQ γ A (some (.int rv)) (wM γ am sm_z sq)) ([.ref (am 0), .int x1, .int x2] : List Value).toArray s 0 0 A) (F0 m 97 ls []) := by
    intro x1_34 x2_35 x5_36 x6_37 sm_38 K46 HK46 H locs ls hf hP hS hl
    unfold f_X7_hide_J97 at hf
    refine lv_iload hx hb dX7_hide_97 (lv_at hl 3 rfl) ?_
    refine lv_istore_n (lv' := [(3, .int x5_36), (0, .ref (am 0)), (1, .int x1_34), (2, .int x2_35), (5, .int x5_36), (6, .int x6_37)]) hx hb dX7_hide_99 rfl hl (by decide) rfl (fun ls hl => ?_)
    refine lv_iload hx hb dX7_hide_100 (lv_at hl 5 rfl) ?_
    refine lv_istore (lv' := [(4, .int x6_37), (3, .int x5_36), (0, .ref (am 0)), (1, .int x1_34), (2, .int x2_35), (5, .int x5_36), (6, .int x6_37)]) hx hb dX7_hide_102 hl (by decide) rfl (fun ls hl => ?_)
    obtain ⟨x5_39, e_x5_39⟩ : ∃ y : Int32, y = x5_36 + (1 : Int32) := ⟨_, rfl⟩
    replace hf := nm_y hf e_x5_39
    refine lv_iinc (v := x5_39) (lv' := [(5, .int x5_39), (4, .int x6_37), (3, .int x5_36), (0, .ref (am 0)), (1, .int x1_34), (2, .int x2_35), (6, .int x6_37)]) hx hb dX7_hide_104 hl (k := 5) rfl (by rw [e_x5_39]; rfl) (by decide) rfl (fun ls hl => ?_)
    refine lv_goto (tgt := 46) hx hb dX7_hide_107 (by decide) ?_
    exact HK46 x5_36 x6_37 x5_39 _ _ _ hf hP hS (lv_sub hl [3, 4, 5, 2, 1, 0] rfl)
  have J74 : ∀ (x1_24 : Int32) (x2_25 : Int32) (x3_26 : Int32) (x4_27 : Int32) (x5_28 : Int32) (sm_29 : GS) (t0_30 : Int32) (K46 : Int32 → Int32 → Int32 → Option (Int32 × GS)) (HK46 : ∀ (z3 : Int32) (z4 : Int32) (z5 : Int32) (H : Heap) (locs : List Loc) (ls : Array Slot), K46 z3 z4 z5 = some (rv, sm_z) → va_P γ.1 vwCl (wM γ am sm_29 sq) H → va_S A s.heap H locs → lv_has ls 7 [(0, .ref (am 0)), (1, .int x1_24), (2, .int x2_25), (3, .int z3), (4, .int z4), (5, .int z5)] → W p l e (rmK 3 68) s m ([.ref (am 0), .int x1, .int x2] : List Value).toArray below meth c H locs 0 0 (MQ below (KQ γ A (some (.int rv)) (wM γ am sm_z sq)) ([.ref (am 0), .int x1, .int x2] : List Value).toArray s 0 0 A) (F0 m 46 ls [])) (H : Heap) (locs : List Loc) (ls : Array Slot), f_X7_hide_J74 x3_26 x4_27 x5_28 t0_30 K46 = some (rv, sm_z) → va_P γ.1 vwCl (wM γ am sm_29 sq) H → va_S A s.heap H locs → lv_has ls 7 [(0, .ref (am 0)), (1, .int x1_24), (2, .int x2_25), (3, .int x3_26), (4, .int x4_27), (5, .int x5_28)] → W p l e (rmK 3 68) s m ([.ref (am 0), .int x1, .int x2] : List Value).toArray below meth c H locs 0 0 (MQ below (KQ γ A (some (.int rv)) (wM γ am sm_z sq)) ([.ref (am 0), .int x1, .int x2] : List Value).toArray s 0 0 A) (F0 m 74 ls [.int t0_30]) := by
    intro x1_24 x2_25 x3_26 x4_27 x5_28 sm_29 t0_30 K46 HK46 H locs ls hf hP hS hl
    unfold f_X7_hide_J74 at hf
    refine lv_istore (lv' := [(6, .int t0_30), (0, .ref (am 0)), (1, .int x1_24), (2, .int x2_25), (3, .int x3_26), (4, .int x4_27), (5, .int x5_28)]) hx hb dX7_hide_74 hl (by decide) rfl (fun ls hl => ?_)
    refine lv_iload hx hb dX7_hide_76 (lv_at hl 0 rfl) ?_
    refine lv_iconst (v := -1) hx hb dX7_hide_78 (by decide) ?_
    refine lv_icmp_eq (tgt := 104) hx hb dX7_hide_79 (by decide) (fun c_31 => ?_) (fun c_31 => ?_)
    · replace hf := ite_p c_31 hf
      obtain ⟨x5_32, e_x5_32⟩ : ∃ y : Int32, y = x5_28 + (1 : Int32) := ⟨_, rfl⟩
      replace hf := nm_y hf e_x5_32
      refine lv_iinc (v := x5_32) (lv' := [(5, .int x5_32), (6, .int t0_30), (0, .ref (am 0)), (1, .int x1_24), (2, .int x2_25), (3, .int x3_26), (4, .int x4_27)]) hx hb dX7_hide_104 hl (k := 6) rfl (by rw [e_x5_32]; rfl) (by decide) rfl (fun ls hl => ?_)
      refine lv_goto (tgt := 46) hx hb dX7_hide_107 (by decide) ?_
      exact HK46 x3_26 x4_27 x5_32 _ _ _ hf hP hS (lv_sub hl [2, 3, 4, 5, 6, 0] rfl)
    · replace hf := ite_n c_31 hf
      refine lv_iload_n hx hb dX7_hide_82 rfl (lv_at hl 4 rfl) ?_
      refine lv_iconst (v := -1) hx hb dX7_hide_83 (by decide) ?_
      refine lv_icmp_eq (tgt := 97) hx hb dX7_hide_84 (by decide) (fun c_33 => ?_) (fun c_33 => ?_)
      · replace hf := ite_p c_33 hf
        exact J97 x1_24 x2_25 x5_28 t0_30 sm_29 _ HK46 _ _ _ hf hP hS (lv_sub hl [1, 2, 3, 6, 0] rfl)
      · replace hf := ite_n c_33 hf
        refine lv_iload hx hb dX7_hide_87 (lv_at hl 0 rfl) ?_
        refine lv_iload hx hb dX7_hide_89 (lv_at hl 5 rfl) ?_
        refine lv_icmp_lt (tgt := 97) hx hb dX7_hide_91 (by decide) (fun c_40 => ?_) (fun c_40 => ?_)
        · replace hf := ite_p c_40 hf
          exact J97 x1_24 x2_25 x5_28 t0_30 sm_29 _ HK46 _ _ _ hf hP hS (lv_sub hl [1, 2, 3, 6, 0] rfl)
        · replace hf := ite_n c_40 hf
          refine lv_goto (tgt := 104) hx hb dX7_hide_94 (by decide) ?_
          obtain ⟨x5_41, e_x5_41⟩ : ∃ y : Int32, y = x5_28 + (1 : Int32) := ⟨_, rfl⟩
          replace hf := nm_y hf e_x5_41
          refine lv_iinc (v := x5_41) (lv' := [(5, .int x5_41), (6, .int t0_30), (0, .ref (am 0)), (1, .int x1_24), (2, .int x2_25), (3, .int x3_26), (4, .int x4_27)]) hx hb dX7_hide_104 hl (k := 6) rfl (by rw [e_x5_41]; rfl) (by decide) rfl (fun ls hl => ?_)
          refine lv_goto (tgt := 46) hx hb dX7_hide_107 (by decide) ?_
          exact HK46 x3_26 x4_27 x5_41 _ _ _ hf hP hS (lv_sub hl [2, 3, 4, 5, 6, 0] rfl)
  have L46 : ∀ (x1_14 : Int32) (x2_15 : Int32) (sm_19 : GS) (n : Nat) (x3_16 : Int32) (x4_17 : Int32) (x5_18 : Int32) (H : Heap) (locs : List Loc) (ls : Array Slot), f_X7_hide_L46 x1_14 x2_15 sm_19 n x3_16 x4_17 x5_18 = some (rv, sm_z) → va_P γ.1 vwCl (wM γ am sm_19 sq) H → va_S A s.heap H locs → lv_has ls 7 [(0, .ref (am 0)), (1, .int x1_14), (2, .int x2_15), (3, .int x3_16), (4, .int x4_17), (5, .int x5_18)] → W p l e (rmK 3 68) s m ([.ref (am 0), .int x1, .int x2] : List Value).toArray below meth c H locs 0 0 (MQ below (KQ γ A (some (.int rv)) (wM γ am sm_z sq)) ([.ref (am 0), .int x1, .int x2] : List Value).toArray s 0 0 A) (F0 m 46 ls []) := by
    intro x1_14 x2_15 sm_19
    intro n
    induction n with
    | zero =>
      intro x3_16 x4_17 x5_18 H locs ls hf
      have hf : none = some _ := hf
      cases hf
    | succ n ih =>
      intro x3_16 x4_17 x5_18 H locs ls hf hP hS hl
      rw [f_X7_hide_L46.eq_2] at hf
      refine lv_iload hx hb dX7_hide_46 (lv_at hl 5 rfl) ?_
      refine lv_bipush (v := 100) hx hb dX7_hide_48 (by decide) ?_
      refine lv_icmp_ge (tgt := 110) hx hb dX7_hide_50 (by decide) (fun c_20 => ?_) (fun c_20 => ?_)
      · replace hf := ite_p c_20 hf
        refine lv_iload_n hx hb dX7_hide_110 rfl (lv_at hl 3 rfl) ?_
        obtain ⟨rfl, rfl⟩ := rt2 hf
        exact kt_iret C0 hP hS dX7_hide_111
      · replace hf := ite_n c_20 hf
        refine lv_aload_n hx hb dX7_hide_53 rfl (lv_at hl 0 rfl) ?_
        refine lv_iload hx hb dX7_hide_54 (lv_at hl 5 rfl) ?_
        obtain ⟨r_21, hg_22, hf⟩ := bd_of hf
        refine kt_V0 (As := [.int x5_18]) (rest := []) (st1 := [.int r_21]) (b := am 0) C0 (c_X7_isFree l γ am hg_22) (cxV (nA := 1) hts goodU U1364 U1366 U68 U91 U1367 (by decide +kernel) ⟨Nat.le_of_ble_eq_true rfl, Nat.le_of_ble_eq_true rfl⟩) hP (hD _ _) hS hl dX7_hide_56 0 7 rfl rfl rfl rfl (Nat.le_of_ble_eq_true rfl) rfl rfl (fun H locs hP hS => ?_)
        refine lv_if_eq (tgt := 73) hx hb dX7_hide_59 (by decide) (fun c_23 => ?_) (fun c_23 => ?_)
        · replace hf := ite_p c_23 hf
          refine lv_iconst (v := -1) hx hb dX7_hide_73 (by decide) ?_
          exact J74 x1_14 x2_15 x3_16 x4_17 x5_18 sm_19 (-1 : Int32) _ ih _ _ _ hf hP hS (lv_sub hl [0, 1, 2, 3, 4, 5] rfl)
        · replace hf := ite_n c_23 hf
          refine lv_aload_n hx hb dX7_hide_62 rfl (lv_at hl 0 rfl) ?_
          refine lv_iload_n hx hb dX7_hide_63 rfl (lv_at hl 1 rfl) ?_
          refine lv_iload_n hx hb dX7_hide_64 rfl (lv_at hl 2 rfl) ?_
          refine lv_iload hx hb dX7_hide_65 (lv_at hl 5 rfl) ?_
          obtain ⟨r_42, hg_43, hf⟩ := bd_of hf
          refine kt_V0 (As := [.int x1_14, .int x2_15, .int x5_18]) (rest := []) (st1 := [.int r_42]) (b := am 0) C0 (c_X7_screenedAt l γ am hg_43) (cxV (nA := 3) hts goodU U1356 U1358 U67 U91 U1359 (by decide +kernel) ⟨Nat.le_of_ble_eq_true rfl, Nat.le_of_ble_eq_true rfl⟩) hP (hD _ _) hS hl dX7_hide_67 0 7 rfl rfl rfl rfl (Nat.le_of_ble_eq_true rfl) rfl rfl (fun H locs hP hS => ?_)
          refine lv_goto (tgt := 74) hx hb dX7_hide_70 (by decide) ?_
          exact J74 x1_14 x2_15 x3_16 x4_17 x5_18 sm_19 r_42 _ ih _ _ _ hf hP hS (lv_sub hl [0, 1, 2, 3, 4, 5] rfl)
  unfold f_X7_hide at hf
  refine lv_aload_n hx hb dX7_hide_0 rfl (lv_at hl 0 rfl) ?_
  refine lv_iload_n hx hb dX7_hide_1 rfl (lv_at hl 1 rfl) ?_
  obtain ⟨r_1, hg_2, hf⟩ := bd_of hf
  refine kt_V0 (As := [.int x1]) (rest := []) (st1 := [.int r_1]) (b := am 0) C0 (c_X7_isPeak l γ am hg_2) (cxV (nA := 1) hts goodU U1110 U1112 U33 U91 U1113 (by decide +kernel) ⟨Nat.le_of_ble_eq_true rfl, Nat.le_of_ble_eq_true rfl⟩) hP (hD _ _) hS hl dX7_hide_2 0 7 rfl rfl rfl rfl (Nat.le_of_ble_eq_true rfl) rfl rfl (fun H locs hP hS => ?_)
  refine lv_if_eq (tgt := 16) hx hb dX7_hide_5 (by decide) (fun c_3 => ?_) (fun c_3 => ?_)
  · replace hf := ite_p c_3 hf
    exact J16 sm _ _ _ hf hP hS (lv_sub hl [0] rfl)
  · replace hf := ite_n c_3 hf
    refine lv_aload_n hx hb dX7_hide_8 rfl (lv_at hl 0 rfl) ?_
    refine lv_iload_n hx hb dX7_hide_9 rfl (lv_at hl 2 rfl) ?_
    obtain ⟨r_8, hg_9, hf⟩ := bd_of hf
    refine kt_V0 (As := [.int x2]) (rest := []) (st1 := [.int r_8]) (b := am 0) C0 (c_X7_isPeak l γ am hg_9) (cxV (nA := 1) hts goodU U1110 U1112 U33 U91 U1113 (by decide +kernel) ⟨Nat.le_of_ble_eq_true rfl, Nat.le_of_ble_eq_true rfl⟩) hP (hD _ _) hS hl dX7_hide_10 0 7 rfl rfl rfl rfl (Nat.le_of_ble_eq_true rfl) rfl rfl (fun H locs hP hS => ?_)
    refine lv_if_ne (tgt := 22) hx hb dX7_hide_13 (by decide) (fun c_10 => ?_) (fun c_10 => ?_)
    · replace hf := ite_n c_10 hf
      refine lv_aload_n hx hb dX7_hide_22 rfl (lv_at hl 0 rfl) ?_
      refine lv_iload_n hx hb dX7_hide_23 rfl (lv_at hl 1 rfl) ?_
      refine lv_iload_n hx hb dX7_hide_24 rfl (lv_at hl 2 rfl) ?_
      obtain ⟨r_11, hg_12, hf⟩ := bd_of hf
      refine kt_V0 (As := [.int x1, .int x2]) (rest := []) (st1 := [.int r_11]) (b := am 0) C0 (c_X7_sees l γ am hg_12) (cxV (nA := 2) hts goodU U1143 U1145 U37 U91 U1146 (by decide +kernel) ⟨Nat.le_of_ble_eq_true rfl, Nat.le_of_ble_eq_true rfl⟩) hP (hD _ _) hS hl dX7_hide_25 0 7 rfl rfl rfl rfl (Nat.le_of_ble_eq_true rfl) rfl rfl (fun H locs hP hS => ?_)
      refine lv_if_ne (tgt := 38) hx hb dX7_hide_28 (by decide) (fun c_13 => ?_) (fun c_13 => ?_)
      · replace hf := ite_n c_13 hf
        refine lv_iconst (v := -1) hx hb dX7_hide_38 (by decide) ?_
        refine lv_istore_n (lv' := [(3, .int (-1 : Int32)), (0, .ref (am 0)), (1, .int x1), (2, .int x2)]) hx hb dX7_hide_39 rfl hl (by decide) rfl (fun ls hl => ?_)
        refine lv_iconst (v := 0) hx hb dX7_hide_40 (by decide) ?_
        refine lv_istore (lv' := [(4, .int (0 : Int32)), (3, .int (-1 : Int32)), (0, .ref (am 0)), (1, .int x1), (2, .int x2)]) hx hb dX7_hide_41 hl (by decide) rfl (fun ls hl => ?_)
        refine lv_iconst (v := 0) hx hb dX7_hide_43 (by decide) ?_
        refine lv_istore (lv' := [(5, .int (0 : Int32)), (4, .int (0 : Int32)), (3, .int (-1 : Int32)), (0, .ref (am 0)), (1, .int x1), (2, .int x2)]) hx hb dX7_hide_44 hl (by decide) rfl (fun ls hl => ?_)
        exact L46 x1 x2 sm FU (-1 : Int32) (0 : Int32) (0 : Int32) _ _ _ hf hP hS (lv_sub hl [3, 4, 5, 2, 1, 0] rfl)
      · replace hf := ite_p c_13 hf
        refine lv_aload_n hx hb dX7_hide_31 rfl (lv_at hl 0 rfl) ?_
        refine lv_bipush (v := -6) hx hb dX7_hide_32 (by decide) ?_
        obtain ⟨r_44, sm_45, hg_46, hf⟩ := bd2_of hf
        refine kt_V0 (As := [.int (-6 : Int32)]) (rest := []) (st1 := [.int r_44]) (b := am 0) C0 (c_X7_no10 l γ am hg_46) (cxV (nA := 1) hts goodU U1292 U1294 U61 U91 U1295 (by decide +kernel) ⟨Nat.le_of_ble_eq_true rfl, Nat.le_of_ble_eq_true rfl⟩) hP (hD _ _) hS hl dX7_hide_34 0 7 rfl rfl rfl rfl (Nat.le_of_ble_eq_true rfl) rfl rfl (fun H locs hP hS => ?_)
        obtain ⟨rfl, rfl⟩ := rt2 hf
        exact kt_iret C0 hP hS dX7_hide_37
    · replace hf := ite_p c_10 hf
      exact J16 sm _ _ _ hf hP hS (lv_sub hl [0] rfl)
set_option maxHeartbeats 4000000 in
set_option maxRecDepth 100000 in
theorem c_X7_told (l : Launch) (γ : Gm) (am : Nat → Nat) {sm : GS} {sq : Nat → Int64} {x1 : Int32} {x2 : Int32} {rv : Int32} (hf : f_X7_told sq x1 x2 = some rv) : Kt l γ yX7_told (Cond.code yX7_told cX7_told 3 (some .int) :: U) 0 0 [.ref (am 0), .int x1, .int x2] (wM γ am sm sq) (some (.int rv)) (wM γ am sm sq) := by
  refine Kt.of (by decide) rfl (Nat.le_of_ble_eq_true rfl) rfl ?_
  intro p e s m below meth c A ls C0 hP hD0 hS hl
  obtain ⟨hx, hb, hml, hown, hts, hr, hlocks, hK, hE, hA⟩ := id C0
  have hU : ∀ w ∈ U, w.before _ s = true := fun w h => hts w (List.mem_cons_of_mem _ h)
  have hD : ∀ (sm : GS) (sq : Nat → Int64), va_D A (wM γ am sm sq) := fun _ _ => hD0.fst rfl
  have hl : lv_has ls 3 [(0, .ref (am 0)), (1, .int x1), (2, .int x2)] := hl
  unfold f_X7_told at hf
  refine lv_aload_n hx hb dX7_told_0 rfl (lv_at hl 0 rfl) ?_
  refine va_get (D := γ.1) (ci := 7) (v := .ref (am 3)) (C := RX7) (T := TX7) (N := 35) hx hb hU uin7 hown hK hP 0 rfl rfl 2 (by decide) (hU _ U971) (fun _ h9 => h9) rfl dX7_told_1 ?_
  refine lv_sipush (v := 160) hx hb dX7_told_4 (by decide) ?_
  refine lv_iload_n hx hb dX7_told_7 rfl (lv_at hl 1 rfl) ?_
  refine lv_imul hx hb dX7_told_8 ?_
  refine lv_iload_n hx hb dX7_told_9 rfl (lv_at hl 2 rfl) ?_
  refine lv_iadd hx hb dX7_told_10 ?_
  obtain ⟨g_1, hf⟩ := gd_of hf
  refine va_lald hx hb hK hP 3 1 rfl rfl (inB_vp g_1) dX7_told_11 ?_
  refine lv_l2i hx hb dX7_told_12 rfl ?_
  obtain rfl := Option.some.inj hf
  exact kt_iret C0 hP hS dX7_told_13
set_option maxHeartbeats 4000000 in
set_option maxRecDepth 100000 in
theorem c_X7_fits (l : Launch) (γ : Gm) (am : Nat → Nat) {sm : GS} {sq : Nat → Int64} {x1 : Int32} {rv : Int32} {sm_z : GS} (hf : f_X7_fits sm sq x1 = some (rv, sm_z)) : Kt l γ yX7_fits (Cond.code yX7_fits cX7_fits 7 (some .int) :: U) 5 113 [.ref (am 0), .int x1] (wM γ am sm sq) (some (.int rv)) (wM γ am sm_z sq) := by
  refine Kt.of (by decide) rfl (Nat.le_of_ble_eq_true rfl) rfl ?_
  intro p e s m below meth c A ls C0 hP hD0 hS hl
  obtain ⟨hx, hb, hml, hown, hts, hr, hlocks, hK, hE, hA⟩ := id C0
  have hU : ∀ w ∈ U, w.before _ s = true := fun w h => hts w (List.mem_cons_of_mem _ h)
  have hD : ∀ (sm : GS) (sq : Nat → Int64), va_D A (wM γ am sm sq) := fun _ _ => hD0.fst rfl
  have hl : lv_has ls 7 [(0, .ref (am 0)), (1, .int x1)] := hl
  have L83 : ∀ (x1_19 : Int32) (x3_20 : Int32) (x4_21 : Int32) (sm_24 : GS) (K140 : Int32 → Option (Int32 × GS)) (HK140 : ∀ (z5 : Int32) (H : Heap) (locs : List Loc) (ls : Array Slot), K140 z5 = some (rv, sm_z) → va_P γ.1 vwCl (wM γ am sm_24 sq) H → va_S A s.heap H locs → lv_has ls 7 [(0, .ref (am 0)), (1, .int x1_19), (3, .int x3_20), (4, .int x4_21), (5, .int z5)] → W p l e (rmK 5 113) s m ([.ref (am 0), .int x1] : List Value).toArray below meth c H locs 0 0 (MQ below (KQ γ A (some (.int rv)) (wM γ am sm_z sq)) ([.ref (am 0), .int x1] : List Value).toArray s 0 0 A) (F0 m 140 ls [])) (n : Nat) (x5_22 : Int32) (x6_23 : Int32) (H : Heap) (locs : List Loc) (ls : Array Slot), f_X7_fits_L83 sq x1_19 sm_24 K140 n x5_22 x6_23 = some (rv, sm_z) → va_P γ.1 vwCl (wM γ am sm_24 sq) H → va_S A s.heap H locs → lv_has ls 7 [(0, .ref (am 0)), (1, .int x1_19), (3, .int x3_20), (4, .int x4_21), (5, .int x5_22), (6, .int x6_23)] → W p l e (rmK 5 113) s m ([.ref (am 0), .int x1] : List Value).toArray below meth c H locs 0 0 (MQ below (KQ γ A (some (.int rv)) (wM γ am sm_z sq)) ([.ref (am 0), .int x1] : List Value).toArray s 0 0 A) (F0 m 83 ls []) := by
    intro x1_19 x3_20 x4_21 sm_24 K140 HK140
    intro n
    induction n with
    | zero =>
      intro x5_22 x6_23 H locs ls hf
      have hf : none = some _ := hf
      cases hf
    | succ n ih =>
      intro x5_22 x6_23 H locs ls hf hP hS hl
      rw [f_X7_fits_L83.eq_2] at hf
      refine lv_iload hx hb dX7_fits_83 (lv_at hl 5 rfl) ?_
      refine lv_aload_n hx hb dX7_fits_85 rfl (lv_at hl 0 rfl) ?_
      refine va_get (D := γ.1) (ci := 7) (v := .int (sm_24 0 3)) (C := RX7) (T := TX7) (N := 35) hx hb hU uin7 hown hK hP 0 rfl rfl 3 (by decide) (hU _ U972) (fun _ h9 => h9) rfl dX7_fits_86 ?_
      refine lv_icmp_ge (tgt := 140) hx hb dX7_fits_89 (by decide) (fun c_25 => ?_) (fun c_25 => ?_)
      · replace hf := ite_p c_25 hf
        exact HK140 x5_22 _ _ _ hf hP hS (lv_sub hl [0, 1, 2, 3, 4] rfl)
      · replace hf := ite_n c_25 hf
        refine lv_aload_n hx hb dX7_fits_92 rfl (lv_at hl 0 rfl) ?_
        refine va_get (D := γ.1) (ci := 7) (v := .ref (am 9)) (C := RX7) (T := TX7) (N := 35) hx hb hU uin7 hown hK hP 0 rfl rfl 8 (by decide) (hU _ U977) (fun _ h9 => h9) rfl dX7_fits_93 ?_
        refine lv_iload hx hb dX7_fits_96 (lv_at hl 5 rfl) ?_
        obtain ⟨g_26, hf⟩ := gd_of hf
        refine va_iald hx hb hK hP 8 0 rfl rfl (inB_vp g_26) dX7_fits_98 ?_
        refine lv_iconst (v := 1) hx hb dX7_fits_99 (by decide) ?_
        refine lv_icmp_ne (tgt := 134) hx hb dX7_fits_100 (by decide) (fun c_27 => ?_) (fun c_27 => ?_)
        · replace hf := ite_n c_27 hf
          obtain ⟨x6_28, e_x6_28⟩ : ∃ y : Int32, y = x6_23 + (1 : Int32) := ⟨_, rfl⟩
          replace hf := nm_y hf e_x6_28
          refine lv_iinc (v := x6_28) (lv' := [(6, .int x6_28), (0, .ref (am 0)), (1, .int x1_19), (3, .int x3_20), (4, .int x4_21), (5, .int x5_22)]) hx hb dX7_fits_134 hl (k := 5) rfl (by rw [e_x6_28]; rfl) (by decide) rfl (fun ls hl => ?_)
          refine lv_goto (tgt := 83) hx hb dX7_fits_137 (by decide) ?_
          exact ih x5_22 x6_28 _ _ _ hf hP hS (lv_sub hl [1, 2, 3, 4, 5, 0] rfl)
        · replace hf := ite_p c_27 hf
          refine lv_aload_n hx hb dX7_fits_103 rfl (lv_at hl 0 rfl) ?_
          refine lv_iload_n hx hb dX7_fits_104 rfl (lv_at hl 1 rfl) ?_
          refine lv_iload hx hb dX7_fits_105 (lv_at hl 5 rfl) ?_
          obtain ⟨r_29, hg_30, hf⟩ := bd_of hf
          refine kt_V0 (As := [.int x1_19, .int x6_23]) (rest := []) (st1 := [.int r_29]) (b := am 0) C0 (c_X7_told l γ am hg_30) (cxV (nA := 2) hts goodU U1372 U1374 U69 U91 U1375 (by decide +kernel) ⟨Nat.le_of_ble_eq_true rfl, Nat.le_of_ble_eq_true rfl⟩) hP (hD _ _) hS hl dX7_fits_107 0 7 rfl rfl rfl rfl (Nat.le_of_ble_eq_true rfl) rfl rfl (fun H locs hP hS => ?_)
          refine lv_iconst (v := -1) hx hb dX7_fits_110 (by decide) ?_
          refine lv_icmp_eq (tgt := 134) hx hb dX7_fits_111 (by decide) (fun c_31 => ?_) (fun c_31 => ?_)
          · replace hf := ite_p c_31 hf
            obtain ⟨x6_32, e_x6_32⟩ : ∃ y : Int32, y = x6_23 + (1 : Int32) := ⟨_, rfl⟩
            replace hf := nm_y hf e_x6_32
            refine lv_iinc (v := x6_32) (lv' := [(6, .int x6_32), (0, .ref (am 0)), (1, .int x1_19), (3, .int x3_20), (4, .int x4_21), (5, .int x5_22)]) hx hb dX7_fits_134 hl (k := 5) rfl (by rw [e_x6_32]; rfl) (by decide) rfl (fun ls hl => ?_)
            refine lv_goto (tgt := 83) hx hb dX7_fits_137 (by decide) ?_
            exact ih x5_22 x6_32 _ _ _ hf hP hS (lv_sub hl [1, 2, 3, 4, 5, 0] rfl)
          · replace hf := ite_n c_31 hf
            refine lv_aload_n hx hb dX7_fits_114 rfl (lv_at hl 0 rfl) ?_
            refine lv_iload_n hx hb dX7_fits_115 rfl (lv_at hl 1 rfl) ?_
            refine lv_iload hx hb dX7_fits_116 (lv_at hl 5 rfl) ?_
            obtain ⟨r_33, hg_34, hf⟩ := bd_of hf
            refine kt_V0 (As := [.int x1_19, .int x6_23]) (rest := []) (st1 := [.int r_33]) (b := am 0) C0 (c_X7_told l γ am hg_34) (cxV (nA := 2) hts goodU U1372 U1374 U69 U91 U1375 (by decide +kernel) ⟨Nat.le_of_ble_eq_true rfl, Nat.le_of_ble_eq_true rfl⟩) hP (hD _ _) hS hl dX7_fits_118 0 7 rfl rfl rfl rfl (Nat.le_of_ble_eq_true rfl) rfl rfl (fun H locs hP hS => ?_)
            refine lv_aload_n hx hb dX7_fits_121 rfl (lv_at hl 0 rfl) ?_
            refine va_get (D := γ.1) (ci := 7) (v := .ref (am 10)) (C := RX7) (T := TX7) (N := 35) hx hb hU uin7 hown hK hP 0 rfl rfl 9 (by decide) (hU _ U978) (fun _ h9 => h9) rfl dX7_fits_122 ?_
            refine lv_iload hx hb dX7_fits_125 (lv_at hl 5 rfl) ?_
            obtain ⟨g_35, hf⟩ := gd_of hf
            refine va_iald hx hb hK hP 9 0 rfl rfl (inB_vp g_35) dX7_fits_127 ?_
            refine lv_icmp_eq (tgt := 134) hx hb dX7_fits_128 (by decide) (fun c_36 => ?_) (fun c_36 => ?_)
            · replace hf := ite_p c_36 hf
              obtain ⟨x6_37, e_x6_37⟩ : ∃ y : Int32, y = x6_23 + (1 : Int32) := ⟨_, rfl⟩
              replace hf := nm_y hf e_x6_37
              refine lv_iinc (v := x6_37) (lv' := [(6, .int x6_37), (0, .ref (am 0)), (1, .int x1_19), (3, .int x3_20), (4, .int x4_21), (5, .int x5_22)]) hx hb dX7_fits_134 hl (k := 5) rfl (by rw [e_x6_37]; rfl) (by decide) rfl (fun ls hl => ?_)
              refine lv_goto (tgt := 83) hx hb dX7_fits_137 (by decide) ?_
              exact ih x5_22 x6_37 _ _ _ hf hP hS (lv_sub hl [1, 2, 3, 4, 5, 0] rfl)
            · replace hf := ite_n c_36 hf
              refine lv_iconst (v := 0) hx hb dX7_fits_131 (by decide) ?_
              refine lv_istore (lv' := [(5, .int (0 : Int32)), (0, .ref (am 0)), (1, .int x1_19), (3, .int x3_20), (4, .int x4_21), (6, .int x6_23)]) hx hb dX7_fits_132 hl (by decide) rfl (fun ls hl => ?_)
              obtain ⟨x6_38, e_x6_38⟩ : ∃ y : Int32, y = x6_23 + (1 : Int32) := ⟨_, rfl⟩
              replace hf := nm_y hf e_x6_38
              refine lv_iinc (v := x6_38) (lv' := [(6, .int x6_38), (5, .int (0 : Int32)), (0, .ref (am 0)), (1, .int x1_19), (3, .int x3_20), (4, .int x4_21)]) hx hb dX7_fits_134 hl (k := 5) rfl (by rw [e_x6_38]; rfl) (by decide) rfl (fun ls hl => ?_)
              refine lv_goto (tgt := 83) hx hb dX7_fits_137 (by decide) ?_
              exact ih (0 : Int32) x6_38 _ _ _ hf hP hS (lv_sub hl [2, 3, 4, 5, 1, 0] rfl)
  have L41 : ∀ (x1_6 : Int32) (n : Nat) (x3_7 : Int32) (x4_8 : Int32) (sm_9 : GS) (H : Heap) (locs : List Loc) (ls : Array Slot), f_X7_fits_L41 sq x1_6 n x3_7 x4_8 sm_9 = some (rv, sm_z) → va_P γ.1 vwCl (wM γ am sm_9 sq) H → va_S A s.heap H locs → lv_has ls 7 [(0, .ref (am 0)), (1, .int x1_6), (3, .int x3_7), (4, .int x4_8)] → W p l e (rmK 5 113) s m ([.ref (am 0), .int x1] : List Value).toArray below meth c H locs 0 0 (MQ below (KQ γ A (some (.int rv)) (wM γ am sm_z sq)) ([.ref (am 0), .int x1] : List Value).toArray s 0 0 A) (F0 m 41 ls []) := by
    intro x1_6
    intro n
    induction n with
    | zero =>
      intro x3_7 x4_8 sm_9 H locs ls hf
      have hf : none = some _ := hf
      cases hf
    | succ n ih =>
      intro x3_7 x4_8 sm_9 H locs ls hf hP hS hl
      rw [f_X7_fits_L41.eq_2] at hf
      refine lv_iload hx hb dX7_fits_41 (lv_at hl 3 rfl) ?_
      refine lv_aload_n hx hb dX7_fits_43 rfl (lv_at hl 0 rfl) ?_
      refine va_get (D := γ.1) (ci := 7) (v := .int (sm_9 0 3)) (C := RX7) (T := TX7) (N := 35) hx hb hU uin7 hown hK hP 0 rfl rfl 3 (by decide) (hU _ U972) (fun _ h9 => h9) rfl dX7_fits_44 ?_
      refine lv_icmp_ge (tgt := 166) hx hb dX7_fits_47 (by decide) (fun c_10 => ?_) (fun c_10 => ?_)
      · replace hf := ite_p c_10 hf
        refine lv_iload_n hx hb dX7_fits_166 rfl (lv_at hl 2 rfl) ?_
        obtain ⟨rfl, rfl⟩ := rt2 hf
        exact kt_iret C0 hP hS dX7_fits_167
      · replace hf := ite_n c_10 hf
        refine lv_aload_n hx hb dX7_fits_50 rfl (lv_at hl 0 rfl) ?_
        refine lv_iload hx hb dX7_fits_51 (lv_at hl 3 rfl) ?_
        obtain ⟨r_11, hg_12, hf⟩ := bd_of hf
        refine kt_V0 (As := [.int x4_8]) (rest := []) (st1 := [.int r_11]) (b := am 0) C0 (c_X7_isThere l γ am hg_12) (cxV (nA := 1) hts goodU U1268 U1270 U57 U91 U1271 (by decide +kernel) ⟨Nat.le_of_ble_eq_true rfl, Nat.le_of_ble_eq_true rfl⟩) hP (hD _ _) hS hl dX7_fits_53 0 7 rfl rfl rfl rfl (Nat.le_of_ble_eq_true rfl) rfl rfl (fun H locs hP hS => ?_)
        refine lv_if_ne (tgt := 62) hx hb dX7_fits_56 (by decide) (fun c_13 => ?_) (fun c_13 => ?_)
        · replace hf := ite_n c_13 hf
          refine lv_aload_n hx hb dX7_fits_62 rfl (lv_at hl 0 rfl) ?_
          refine lv_aload_n hx hb dX7_fits_63 rfl (lv_at hl 0 rfl) ?_
          refine va_get (D := γ.1) (ci := 7) (v := .ref (am 27)) (C := RX7) (T := TX7) (N := 35) hx hb hU uin7 hown hK hP 0 rfl rfl 26 (by decide) (hU _ U995) (fun _ h9 => h9) rfl dX7_fits_64 ?_
          obtain ⟨sm_14, hg_15, hf⟩ := bd_of hf
          refine kt_V0 (As := [.ref (am 27)]) (rest := []) (st1 := []) (b := am 0) C0 (c_X7_keep_27 l γ am hg_15) (cxV (nA := 1) hts goodU U1228 U1230 U49 U91 U1231 (by decide +kernel) ⟨Nat.le_of_ble_eq_true rfl, Nat.le_of_ble_eq_true rfl⟩) hP (hD _ _) hS hl dX7_fits_67 0 7 rfl rfl rfl rfl (Nat.le_of_ble_eq_true rfl) rfl rfl (fun H locs hP hS => ?_)
          refine lv_aload_n hx hb dX7_fits_70 rfl (lv_at hl 0 rfl) ?_
          refine lv_iload hx hb dX7_fits_71 (lv_at hl 3 rfl) ?_
          obtain ⟨r_16, sm_17, hg_18, hf⟩ := bd2_of hf
          refine kt_V0 (As := [.int x4_8]) (rest := []) (st1 := [.int r_16]) (b := am 0) C0 (c_X7_loses l γ am hg_18) (cxV (nA := 1) hts goodU U1272 U1274 U58 U91 U1275 (by decide +kernel) ⟨Nat.le_of_ble_eq_true rfl, Nat.le_of_ble_eq_true rfl⟩) hP (hD _ _) hS hl dX7_fits_73 0 7 rfl rfl rfl rfl (Nat.le_of_ble_eq_true rfl) rfl rfl (fun H locs hP hS => ?_)
          refine lv_pop hx hb dX7_fits_76 rfl ?_
          refine lv_iconst (v := 1) hx hb dX7_fits_77 (by decide) ?_
          refine lv_istore (lv' := [(5, .int (1 : Int32)), (0, .ref (am 0)), (1, .int x1_6), (3, .int x3_7), (4, .int x4_8)]) hx hb dX7_fits_78 hl (by decide) rfl (fun ls hl => ?_)
          refine lv_iconst (v := 0) hx hb dX7_fits_80 (by decide) ?_
          refine lv_istore (lv' := [(6, .int (0 : Int32)), (5, .int (1 : Int32)), (0, .ref (am 0)), (1, .int x1_6), (3, .int x3_7), (4, .int x4_8)]) hx hb dX7_fits_81 hl (by decide) rfl (fun ls hl => ?_)
          refine L83 x1_6 x3_7 x4_8 sm_17 _ (fun x5_39 H locs ls hf hP hS hl => ?_) FU (1 : Int32) (0 : Int32) _ _ _ hf hP hS (lv_sub hl [2, 3, 4, 5, 1, 0] rfl)
          refine lv_aload_n hx hb dX7_fits_140 rfl (lv_at hl 0 rfl) ?_
          refine lv_aload_n hx hb dX7_fits_141 rfl (lv_at hl 0 rfl) ?_
          refine va_get (D := γ.1) (ci := 7) (v := .ref (am 27)) (C := RX7) (T := TX7) (N := 35) hx hb hU uin7 hown hK hP 0 rfl rfl 26 (by decide) (hU _ U995) (fun _ h9 => h9) rfl dX7_fits_142 ?_
          obtain ⟨sm_40, hg_41, hf⟩ := bd_of hf
          refine kt_V0 (As := [.ref (am 27)]) (rest := []) (st1 := []) (b := am 0) C0 (c_X7_again_27 l γ am hg_41) (cxV (nA := 1) hts goodU U1280 U1282 U60 U91 U1283 (by decide +kernel) ⟨Nat.le_of_ble_eq_true rfl, Nat.le_of_ble_eq_true rfl⟩) hP (hD _ _) hS hl dX7_fits_145 0 7 rfl rfl rfl rfl (Nat.le_of_ble_eq_true rfl) rfl rfl (fun H locs hP hS => ?_)
          refine lv_iload hx hb dX7_fits_148 (lv_at hl 4 rfl) ?_
          refine lv_if_eq (tgt := 160) hx hb dX7_fits_150 (by decide) (fun c_42 => ?_) (fun c_42 => ?_)
          · replace hf := ite_p c_42 hf
            obtain ⟨x4_43, e_x4_43⟩ : ∃ y : Int32, y = x4_8 + (1 : Int32) := ⟨_, rfl⟩
            replace hf := nm_y hf e_x4_43
            refine lv_iinc (v := x4_43) (lv' := [(4, .int x4_43), (0, .ref (am 0)), (1, .int x1_6), (3, .int x3_7), (5, .int x5_39)]) hx hb dX7_fits_160 hl (k := 3) rfl (by rw [e_x4_43]; rfl) (by decide) rfl (fun ls hl => ?_)
            refine lv_goto (tgt := 41) hx hb dX7_fits_163 (by decide) ?_
            exact ih x3_7 x4_43 sm_40 _ _ _ hf hP hS (lv_sub hl [1, 2, 3, 0] rfl)
          · replace hf := ite_n c_42 hf
            refine lv_iload_n hx hb dX7_fits_153 rfl (lv_at hl 2 rfl) ?_
            refine lv_iconst (v := 1) hx hb dX7_fits_154 (by decide) ?_
            refine lv_iload hx hb dX7_fits_155 (lv_at hl 3 rfl) ?_
            refine lv_ishl hx hb dX7_fits_157 ?_
            refine lv_ior hx hb dX7_fits_158 ?_
            refine lv_topi (fun u_44 e_u_44 => ?_)
            replace hf := nm_y hf e_u_44
            refine lv_istore_n (lv' := [(3, .int u_44), (0, .ref (am 0)), (1, .int x1_6), (4, .int x4_8), (5, .int x5_39)]) hx hb dX7_fits_159 rfl hl (by decide) rfl (fun ls hl => ?_)
            obtain ⟨x4_45, e_x4_45⟩ : ∃ y : Int32, y = x4_8 + (1 : Int32) := ⟨_, rfl⟩
            replace hf := nm_y hf e_x4_45
            refine lv_iinc (v := x4_45) (lv' := [(4, .int x4_45), (3, .int u_44), (0, .ref (am 0)), (1, .int x1_6), (5, .int x5_39)]) hx hb dX7_fits_160 hl (k := 3) rfl (by rw [e_x4_45]; rfl) (by decide) rfl (fun ls hl => ?_)
            refine lv_goto (tgt := 41) hx hb dX7_fits_163 (by decide) ?_
            exact ih u_44 x4_45 sm_40 _ _ _ hf hP hS (lv_sub hl [2, 3, 1, 0] rfl)
        · replace hf := ite_p c_13 hf
          refine lv_goto (tgt := 160) hx hb dX7_fits_59 (by decide) ?_
          obtain ⟨x4_46, e_x4_46⟩ : ∃ y : Int32, y = x4_8 + (1 : Int32) := ⟨_, rfl⟩
          replace hf := nm_y hf e_x4_46
          refine lv_iinc (v := x4_46) (lv' := [(4, .int x4_46), (0, .ref (am 0)), (1, .int x1_6), (3, .int x3_7)]) hx hb dX7_fits_160 hl (k := 3) rfl (by rw [e_x4_46]; rfl) (by decide) rfl (fun ls hl => ?_)
          refine lv_goto (tgt := 41) hx hb dX7_fits_163 (by decide) ?_
          exact ih x3_7 x4_46 sm_9 _ _ _ hf hP hS (lv_sub hl [1, 2, 3, 0] rfl)
  unfold f_X7_fits at hf
  refine lv_aload_n hx hb dX7_fits_0 rfl (lv_at hl 0 rfl) ?_
  refine lv_iload_n hx hb dX7_fits_1 rfl (lv_at hl 1 rfl) ?_
  obtain ⟨r_1, hg_2, hf⟩ := bd_of hf
  refine kt_V0 (As := [.int x1]) (rest := []) (st1 := [.int r_1]) (b := am 0) C0 (c_X7_noRow l γ am hg_2) (cxV (nA := 1) hts goodU U1090 U1092 U31 U91 U1093 (by decide +kernel) ⟨Nat.le_of_ble_eq_true rfl, Nat.le_of_ble_eq_true rfl⟩) hP (hD _ _) hS hl dX7_fits_2 0 7 rfl rfl rfl rfl (Nat.le_of_ble_eq_true rfl) rfl rfl (fun H locs hP hS => ?_)
  refine lv_istore_n (lv' := [(2, .int r_1), (0, .ref (am 0)), (1, .int x1)]) hx hb dX7_fits_5 rfl hl (by decide) rfl (fun ls hl => ?_)
  refine lv_iload_n hx hb dX7_fits_6 rfl (lv_at hl 0 rfl) ?_
  refine lv_if_ge (tgt := 16) hx hb dX7_fits_7 (by decide) (fun c_3 => ?_) (fun c_3 => ?_)
  · replace hf := ite_p c_3 hf
    refine lv_aload_n hx hb dX7_fits_16 rfl (lv_at hl 1 rfl) ?_
    refine va_get (D := γ.1) (ci := 7) (v := .ref (am 2)) (C := RX7) (T := TX7) (N := 35) hx hb hU uin7 hown hK hP 0 rfl rfl 1 (by decide) (hU _ U970) (fun _ h9 => h9) rfl dX7_fits_17 ?_
    refine lv_iload_n hx hb dX7_fits_20 rfl (lv_at hl 2 rfl) ?_
    obtain ⟨g_4, hf⟩ := gd_of hf
    refine va_iald hx hb hK hP 2 0 rfl rfl (inB_vp g_4) dX7_fits_21 ?_
    refine lv_aload_n hx hb dX7_fits_22 rfl (lv_at hl 1 rfl) ?_
    refine va_get (D := γ.1) (ci := 7) (v := .int (sm 0 3)) (C := RX7) (T := TX7) (N := 35) hx hb hU uin7 hown hK hP 0 rfl rfl 3 (by decide) (hU _ U972) (fun _ h9 => h9) rfl dX7_fits_23 ?_
    refine lv_icmp_ge (tgt := 36) hx hb dX7_fits_26 (by decide) (fun c_5 => ?_) (fun c_5 => ?_)
    · replace hf := ite_p c_5 hf
      refine lv_iconst (v := 0) hx hb dX7_fits_36 (by decide) ?_
      refine lv_istore_n (lv' := [(3, .int (0 : Int32)), (2, .int r_1), (0, .ref (am 0)), (1, .int x1)]) hx hb dX7_fits_37 rfl hl (by decide) rfl (fun ls hl => ?_)
      refine lv_iconst (v := 0) hx hb dX7_fits_38 (by decide) ?_
      refine lv_istore (lv' := [(4, .int (0 : Int32)), (3, .int (0 : Int32)), (2, .int r_1), (0, .ref (am 0)), (1, .int x1)]) hx hb dX7_fits_39 hl (by decide) rfl (fun ls hl => ?_)
      exact L41 x1 FU (0 : Int32) (0 : Int32) sm _ _ _ hf hP hS (lv_sub hl [3, 4, 1, 0] rfl)
    · replace hf := ite_n c_5 hf
      refine lv_aload_n hx hb dX7_fits_29 rfl (lv_at hl 1 rfl) ?_
      refine lv_bipush (v := -5) hx hb dX7_fits_30 (by decide) ?_
      obtain ⟨r_47, sm_48, hg_49, hf⟩ := bd2_of hf
      refine kt_V0 (As := [.int (-5 : Int32)]) (rest := []) (st1 := [.int r_47]) (b := am 0) C0 (c_X7_no l γ am hg_49) (cxV (nA := 1) hts goodU U1082 U1084 U30 U91 U1085 (by decide +kernel) ⟨Nat.le_of_ble_eq_true rfl, Nat.le_of_ble_eq_true rfl⟩) hP (hD _ _) hS hl dX7_fits_32 0 7 rfl rfl rfl rfl (Nat.le_of_ble_eq_true rfl) rfl rfl (fun H locs hP hS => ?_)
      obtain ⟨rfl, rfl⟩ := rt2 hf
      exact kt_iret C0 hP hS dX7_fits_35
  · replace hf := ite_n c_3 hf
    refine lv_aload_n hx hb dX7_fits_10 rfl (lv_at hl 1 rfl) ?_
    refine lv_iload_n hx hb dX7_fits_11 rfl (lv_at hl 0 rfl) ?_
    obtain ⟨r_50, sm_51, hg_52, hf⟩ := bd2_of hf
    refine kt_V0 (As := [.int r_1]) (rest := []) (st1 := [.int r_50]) (b := am 0) C0 (c_X7_no l γ am hg_52) (cxV (nA := 1) hts goodU U1082 U1084 U30 U91 U1085 (by decide +kernel) ⟨Nat.le_of_ble_eq_true rfl, Nat.le_of_ble_eq_true rfl⟩) hP (hD _ _) hS hl dX7_fits_12 0 7 rfl rfl rfl rfl (Nat.le_of_ble_eq_true rfl) rfl rfl (fun H locs hP hS => ?_)
    obtain ⟨rfl, rfl⟩ := rt2 hf
    exact kt_iret C0 hP hS dX7_fits_15
set_option maxHeartbeats 4000000 in
set_option maxRecDepth 100000 in
theorem c_X7_there (l : Launch) (γ : Gm) (am : Nat → Nat) {sm : GS} {sq : Nat → Int64} {rv : Int32} (hf : f_X7_there sm = some rv) : Kt l γ yX7_there (Cond.code yX7_there cX7_there 3 (some .int) :: U) 0 0 [.ref (am 0)] (wM γ am sm sq) (some (.int rv)) (wM γ am sm sq) := by
  refine Kt.of (by decide) rfl (Nat.le_of_ble_eq_true rfl) rfl ?_
  intro p e s m below meth c A ls C0 hP hD0 hS hl
  obtain ⟨hx, hb, hml, hown, hts, hr, hlocks, hK, hE, hA⟩ := id C0
  have hU : ∀ w ∈ U, w.before _ s = true := fun w h => hts w (List.mem_cons_of_mem _ h)
  have hD : ∀ (sm : GS) (sq : Nat → Int64), va_D A (wM γ am sm sq) := fun _ _ => hD0.fst rfl
  have hl : lv_has ls 3 [(0, .ref (am 0))] := hl
  have L4 : ∀ (n : Nat) (x1_1 : Int32) (x2_2 : Int32) (H : Heap) (locs : List Loc) (ls : Array Slot), f_X7_there_L4 sm n x1_1 x2_2 = some rv → va_P γ.1 vwCl (wM γ am sm sq) H → va_S A s.heap H locs → lv_has ls 3 [(0, .ref (am 0)), (1, .int x1_1), (2, .int x2_2)] → W p l e (rmK 0 0) s m ([.ref (am 0)] : List Value).toArray below meth c H locs 0 0 (MQ below (KQ γ A (some (.int rv)) (wM γ am sm sq)) ([.ref (am 0)] : List Value).toArray s 0 0 A) (F0 m 4 ls []) := by
    intro n
    induction n with
    | zero =>
      intro x1_1 x2_2 H locs ls hf
      have hf : none = some _ := hf
      cases hf
    | succ n ih =>
      intro x1_1 x2_2 H locs ls hf hP hS hl
      rw [f_X7_there_L4.eq_2] at hf
      refine lv_iload_n hx hb dX7_there_4 rfl (lv_at hl 2 rfl) ?_
      refine lv_aload_n hx hb dX7_there_5 rfl (lv_at hl 0 rfl) ?_
      refine va_get (D := γ.1) (ci := 7) (v := .int (sm 0 3)) (C := RX7) (T := TX7) (N := 35) hx hb hU uin7 hown hK hP 0 rfl rfl 3 (by decide) (hU _ U972) (fun _ h9 => h9) rfl dX7_there_6 ?_
      refine lv_icmp_ge (tgt := 34) hx hb dX7_there_9 (by decide) (fun c_3 => ?_) (fun c_3 => ?_)
      · replace hf := ite_p c_3 hf
        refine lv_iload_n hx hb dX7_there_34 rfl (lv_at hl 1 rfl) ?_
        obtain rfl := Option.some.inj hf
        exact kt_iret C0 hP hS dX7_there_35
      · replace hf := ite_n c_3 hf
        refine lv_aload_n hx hb dX7_there_12 rfl (lv_at hl 0 rfl) ?_
        refine va_get (D := γ.1) (ci := 7) (v := .ref (am 9)) (C := RX7) (T := TX7) (N := 35) hx hb hU uin7 hown hK hP 0 rfl rfl 8 (by decide) (hU _ U977) (fun _ h9 => h9) rfl dX7_there_13 ?_
        refine lv_iload_n hx hb dX7_there_16 rfl (lv_at hl 2 rfl) ?_
        obtain ⟨g_4, hf⟩ := gd_of hf
        refine va_iald hx hb hK hP 8 0 rfl rfl (inB_vp g_4) dX7_there_17 ?_
        refine lv_iconst (v := 1) hx hb dX7_there_18 (by decide) ?_
        refine lv_icmp_ne (tgt := 28) hx hb dX7_there_19 (by decide) (fun c_5 => ?_) (fun c_5 => ?_)
        · replace hf := ite_n c_5 hf
          obtain ⟨x2_6, e_x2_6⟩ : ∃ y : Int32, y = x2_2 + (1 : Int32) := ⟨_, rfl⟩
          replace hf := nm_y hf e_x2_6
          refine lv_iinc (v := x2_6) (lv' := [(2, .int x2_6), (0, .ref (am 0)), (1, .int x1_1)]) hx hb dX7_there_28 hl (k := 2) rfl (by rw [e_x2_6]; rfl) (by decide) rfl (fun ls hl => ?_)
          refine lv_goto (tgt := 4) hx hb dX7_there_31 (by decide) ?_
          exact ih x1_1 x2_6 _ _ _ hf hP hS (lv_sub hl [1, 2, 0] rfl)
        · replace hf := ite_p c_5 hf
          refine lv_iload_n hx hb dX7_there_22 rfl (lv_at hl 1 rfl) ?_
          refine lv_iconst (v := 1) hx hb dX7_there_23 (by decide) ?_
          refine lv_iload_n hx hb dX7_there_24 rfl (lv_at hl 2 rfl) ?_
          refine lv_ishl hx hb dX7_there_25 ?_
          refine lv_ior hx hb dX7_there_26 ?_
          refine lv_topi (fun u_7 e_u_7 => ?_)
          replace hf := nm_y hf e_u_7
          refine lv_istore_n (lv' := [(1, .int u_7), (0, .ref (am 0)), (2, .int x2_2)]) hx hb dX7_there_27 rfl hl (by decide) rfl (fun ls hl => ?_)
          obtain ⟨x2_8, e_x2_8⟩ : ∃ y : Int32, y = x2_2 + (1 : Int32) := ⟨_, rfl⟩
          replace hf := nm_y hf e_x2_8
          refine lv_iinc (v := x2_8) (lv' := [(2, .int x2_8), (1, .int u_7), (0, .ref (am 0))]) hx hb dX7_there_28 hl (k := 2) rfl (by rw [e_x2_8]; rfl) (by decide) rfl (fun ls hl => ?_)
          refine lv_goto (tgt := 4) hx hb dX7_there_31 (by decide) ?_
          exact ih u_7 x2_8 _ _ _ hf hP hS (lv_sub hl [2, 1, 0] rfl)
  unfold f_X7_there at hf
  refine lv_iconst (v := 0) hx hb dX7_there_0 (by decide) ?_
  refine lv_istore_n (lv' := [(1, .int (0 : Int32)), (0, .ref (am 0))]) hx hb dX7_there_1 rfl hl (by decide) rfl (fun ls hl => ?_)
  refine lv_iconst (v := 0) hx hb dX7_there_2 (by decide) ?_
  refine lv_istore_n (lv' := [(2, .int (0 : Int32)), (1, .int (0 : Int32)), (0, .ref (am 0))]) hx hb dX7_there_3 rfl hl (by decide) rfl (fun ls hl => ?_)
  exact L4 FU (0 : Int32) (0 : Int32) _ _ _ hf hP hS (lv_sub hl [2, 1, 0] rfl)
set_option maxHeartbeats 4000000 in
set_option maxRecDepth 100000 in
theorem c_X7_isLit (l : Launch) (γ : Gm) (am : Nat → Nat) {sm : GS} {sq : Nat → Int64} {x1 : Int32} {x2 : Int32} {rv : Int32} (hf : f_X7_isLit sm x1 x2 = some rv) : Kt l γ yX7_isLit (Cond.code yX7_isLit cX7_isLit 4 (some .boolean) :: U) 2 45 [.ref (am 0), .int x1, .int x2] (wM γ am sm sq) (some (.int rv)) (wM γ am sm sq) := by
  refine Kt.of (by decide) rfl (Nat.le_of_ble_eq_true rfl) rfl ?_
  intro p e s m below meth c A ls C0 hP hD0 hS hl
  obtain ⟨hx, hb, hml, hown, hts, hr, hlocks, hK, hE, hA⟩ := id C0
  have hU : ∀ w ∈ U, w.before _ s = true := fun w h => hts w (List.mem_cons_of_mem _ h)
  have hD : ∀ (sm : GS) (sq : Nat → Int64), va_D A (wM γ am sm sq) := fun _ _ => hD0.fst rfl
  have hl : lv_has ls 4 [(0, .ref (am 0)), (1, .int x1), (2, .int x2)] := hl
  have L2 : ∀ (x1_1 : Int32) (x2_2 : Int32) (n : Nat) (x3_3 : Int32) (H : Heap) (locs : List Loc) (ls : Array Slot), f_X7_isLit_L2 sm x1_1 x2_2 n x3_3 = some rv → va_P γ.1 vwCl (wM γ am sm sq) H → va_S A s.heap H locs → lv_has ls 4 [(0, .ref (am 0)), (1, .int x1_1), (2, .int x2_2), (3, .int x3_3)] → W p l e (rmK 2 45) s m ([.ref (am 0), .int x1, .int x2] : List Value).toArray below meth c H locs 0 0 (MQ below (KQ γ A (some (.int rv)) (wM γ am sm sq)) ([.ref (am 0), .int x1, .int x2] : List Value).toArray s 0 0 A) (F0 m 2 ls []) := by
    intro x1_1 x2_2
    intro n
    induction n with
    | zero =>
      intro x3_3 H locs ls hf
      have hf : none = some _ := hf
      cases hf
    | succ n ih =>
      intro x3_3 H locs ls hf hP hS hl
      rw [f_X7_isLit_L2.eq_2] at hf
      refine lv_iload_n hx hb dX7_isLit_2 rfl (lv_at hl 3 rfl) ?_
      refine lv_aload_n hx hb dX7_isLit_3 rfl (lv_at hl 0 rfl) ?_
      refine va_get (D := γ.1) (ci := 7) (v := .int (sm 0 3)) (C := RX7) (T := TX7) (N := 35) hx hb hU uin7 hown hK hP 0 rfl rfl 3 (by decide) (hU _ U972) (fun _ h9 => h9) rfl dX7_isLit_4 ?_
      refine lv_icmp_ge (tgt := 43) hx hb dX7_isLit_7 (by decide) (fun c_4 => ?_) (fun c_4 => ?_)
      · replace hf := ite_p c_4 hf
        refine lv_iconst (v := 1) hx hb dX7_isLit_43 (by decide) ?_
        obtain rfl := Option.some.inj hf
        exact kt_zret C0 (by decide) hP hS dX7_isLit_44
      · replace hf := ite_n c_4 hf
        refine lv_iload_n hx hb dX7_isLit_10 rfl (lv_at hl 1 rfl) ?_
        refine lv_iload_n hx hb dX7_isLit_11 rfl (lv_at hl 3 rfl) ?_
        obtain ⟨r_5, hg_6, hf⟩ := bd_of hf
        refine kt_SF (As := [.int x1_1, .int x3_3]) (rest := []) (st1 := [.int r_5]) (wc' := wM γ am sm sq) C0 (c_X7_has l γ hg_6) (cxS (nA := 2) hts goodU U1140 U1141 U91 U1142 (by decide +kernel) ⟨Nat.le_of_ble_eq_true rfl, Nat.le_of_ble_eq_true rfl⟩) hP (hD _ _) hS hl dX7_isLit_12 foc_nil rfl (Nat.le_of_ble_eq_true rfl) rfl rfl (fun H locs hP hS => ?_)
        refine lv_if_eq (tgt := 37) hx hb dX7_isLit_15 (by decide) (fun c_7 => ?_) (fun c_7 => ?_)
        · replace hf := ite_p c_7 hf
          obtain ⟨x3_8, e_x3_8⟩ : ∃ y : Int32, y = x3_3 + (1 : Int32) := ⟨_, rfl⟩
          replace hf := nm_y hf e_x3_8
          refine lv_iinc (v := x3_8) (lv' := [(3, .int x3_8), (0, .ref (am 0)), (1, .int x1_1), (2, .int x2_2)]) hx hb dX7_isLit_37 hl (k := 3) rfl (by rw [e_x3_8]; rfl) (by decide) rfl (fun ls hl => ?_)
          refine lv_goto (tgt := 2) hx hb dX7_isLit_40 (by decide) ?_
          exact ih x3_8 _ _ _ hf hP hS (lv_sub hl [1, 2, 3, 0] rfl)
        · replace hf := ite_n c_7 hf
          refine lv_iload_n hx hb dX7_isLit_18 rfl (lv_at hl 2 rfl) ?_
          refine lv_iload_n hx hb dX7_isLit_19 rfl (lv_at hl 3 rfl) ?_
          obtain ⟨r_9, hg_10, hf⟩ := bd_of hf
          refine kt_SF (As := [.int x2_2, .int x3_3]) (rest := []) (st1 := [.int r_9]) (wc' := wM γ am sm sq) C0 (c_X7_has l γ hg_10) (cxS (nA := 2) hts goodU U1140 U1141 U91 U1142 (by decide +kernel) ⟨Nat.le_of_ble_eq_true rfl, Nat.le_of_ble_eq_true rfl⟩) hP (hD _ _) hS hl dX7_isLit_20 foc_nil rfl (Nat.le_of_ble_eq_true rfl) rfl rfl (fun H locs hP hS => ?_)
          refine lv_if_ne (tgt := 37) hx hb dX7_isLit_23 (by decide) (fun c_11 => ?_) (fun c_11 => ?_)
          · replace hf := ite_n c_11 hf
            obtain ⟨x3_12, e_x3_12⟩ : ∃ y : Int32, y = x3_3 + (1 : Int32) := ⟨_, rfl⟩
            replace hf := nm_y hf e_x3_12
            refine lv_iinc (v := x3_12) (lv' := [(3, .int x3_12), (0, .ref (am 0)), (1, .int x1_1), (2, .int x2_2)]) hx hb dX7_isLit_37 hl (k := 3) rfl (by rw [e_x3_12]; rfl) (by decide) rfl (fun ls hl => ?_)
            refine lv_goto (tgt := 2) hx hb dX7_isLit_40 (by decide) ?_
            exact ih x3_12 _ _ _ hf hP hS (lv_sub hl [1, 2, 3, 0] rfl)
          · replace hf := ite_p c_11 hf
            refine lv_aload_n hx hb dX7_isLit_26 rfl (lv_at hl 0 rfl) ?_
            refine lv_iload_n hx hb dX7_isLit_27 rfl (lv_at hl 3 rfl) ?_
            refine lv_iload_n hx hb dX7_isLit_28 rfl (lv_at hl 2 rfl) ?_
            obtain ⟨r_13, hg_14, hf⟩ := bd_of hf
            refine kt_V0 (As := [.int x3_3, .int x2_2]) (rest := []) (st1 := [.int r_13]) (b := am 0) C0 (c_X7_seesAny l γ am hg_14) (cxV (nA := 2) hts goodU U1136 U1138 U36 U91 U1139 (by decide +kernel) ⟨Nat.le_of_ble_eq_true rfl, Nat.le_of_ble_eq_true rfl⟩) hP (hD _ _) hS hl dX7_isLit_29 0 7 rfl rfl rfl rfl (Nat.le_of_ble_eq_true rfl) rfl rfl (fun H locs hP hS => ?_)
            refine lv_if_ne (tgt := 37) hx hb dX7_isLit_32 (by decide) (fun c_15 => ?_) (fun c_15 => ?_)
            · replace hf := ite_n c_15 hf
              obtain ⟨x3_16, e_x3_16⟩ : ∃ y : Int32, y = x3_3 + (1 : Int32) := ⟨_, rfl⟩
              replace hf := nm_y hf e_x3_16
              refine lv_iinc (v := x3_16) (lv' := [(3, .int x3_16), (0, .ref (am 0)), (1, .int x1_1), (2, .int x2_2)]) hx hb dX7_isLit_37 hl (k := 3) rfl (by rw [e_x3_16]; rfl) (by decide) rfl (fun ls hl => ?_)
              refine lv_goto (tgt := 2) hx hb dX7_isLit_40 (by decide) ?_
              exact ih x3_16 _ _ _ hf hP hS (lv_sub hl [1, 2, 3, 0] rfl)
            · replace hf := ite_p c_15 hf
              refine lv_iconst (v := 0) hx hb dX7_isLit_35 (by decide) ?_
              obtain rfl := Option.some.inj hf
              exact kt_zret C0 (by decide) hP hS dX7_isLit_36
  unfold f_X7_isLit at hf
  refine lv_iconst (v := 0) hx hb dX7_isLit_0 (by decide) ?_
  refine lv_istore_n (lv' := [(3, .int (0 : Int32)), (0, .ref (am 0)), (1, .int x1), (2, .int x2)]) hx hb dX7_isLit_1 rfl hl (by decide) rfl (fun ls hl => ?_)
  exact L2 x1 x2 FU (0 : Int32) _ _ _ hf hP hS (lv_sub hl [1, 2, 3, 0] rfl)
set_option maxHeartbeats 4000000 in
set_option maxRecDepth 100000 in
theorem c_X7_fires (l : Launch) (γ : Gm) (am : Nat → Nat) {sm : GS} {sq : Nat → Int64} {x1 : Int32} {rv : Int32} {sm_z : GS} (hf : f_X7_fires sm x1 = some (rv, sm_z)) : Kt l γ yX7_fires (Cond.code yX7_fires cX7_fires 5 (some .int) :: U) 3 68 [.ref (am 0), .int x1] (wM γ am sm sq) (some (.int rv)) (wM γ am sm_z sq) := by
  refine Kt.of (by decide) rfl (Nat.le_of_ble_eq_true rfl) rfl ?_
  intro p e s m below meth c A ls C0 hP hD0 hS hl
  obtain ⟨hx, hb, hml, hown, hts, hr, hlocks, hK, hE, hA⟩ := id C0
  have hU : ∀ w ∈ U, w.before _ s = true := fun w h => hts w (List.mem_cons_of_mem _ h)
  have hD : ∀ (sm : GS) (sq : Nat → Int64), va_D A (wM γ am sm sq) := fun _ _ => hD0.fst rfl
  have hl : lv_has ls 5 [(0, .ref (am 0)), (1, .int x1)] := hl
  have J14 : ∀ (sm_2 : GS) (H : Heap) (locs : List Loc) (ls : Array Slot), f_X7_fires_J14 sm_2 = some (rv, sm_z) → va_P γ.1 vwCl (wM γ am sm_2 sq) H → va_S A s.heap H locs → lv_has ls 5 [(0, .ref (am 0))] → W p l e (rmK 3 68) s m ([.ref (am 0), .int x1] : List Value).toArray below meth c H locs 0 0 (MQ below (KQ γ A (some (.int rv)) (wM γ am sm_z sq)) ([.ref (am 0), .int x1] : List Value).toArray s 0 0 A) (F0 m 14 ls []) := by
    intro sm_2 H locs ls hf hP hS hl
    unfold f_X7_fires_J14 at hf
    refine lv_aload_n hx hb dX7_fires_14 rfl (lv_at hl 0 rfl) ?_
    refine lv_bipush (v := -6) hx hb dX7_fires_15 (by decide) ?_
    obtain ⟨r_3, sm_4, hg_5, hf⟩ := bd2_of hf
    refine kt_V0 (As := [.int (-6 : Int32)]) (rest := []) (st1 := [.int r_3]) (b := am 0) C0 (c_X7_no l γ am hg_5) (cxV (nA := 1) hts goodU U1082 U1084 U30 U91 U1085 (by decide +kernel) ⟨Nat.le_of_ble_eq_true rfl, Nat.le_of_ble_eq_true rfl⟩) hP (hD _ _) hS hl dX7_fires_17 0 7 rfl rfl rfl rfl (Nat.le_of_ble_eq_true rfl) rfl rfl (fun H locs hP hS => ?_)
    obtain ⟨rfl, rfl⟩ := rt2 hf
    exact kt_iret C0 hP hS dX7_fires_20
  have J71 : ∀ (x1_18 : Int32) (x2_19 : Int32) (x3_20 : Int32) (x4_21 : Int32) (sm_22 : GS) (K31 : Int32 → Int32 → Option (Int32 × GS)) (HK31 : ∀ (z3 : Int32) (z4 : Int32) (H : Heap) (locs : List Loc) (ls : Array Slot), K31 z3 z4 = some (rv, sm_z) → va_P γ.1 vwCl (wM γ am sm_22 sq) H → va_S A s.heap H locs → lv_has ls 5 [(0, .ref (am 0)), (1, .int x1_18), (2, .int x2_19), (3, .int z3), (4, .int z4)] → W p l e (rmK 3 68) s m ([.ref (am 0), .int x1] : List Value).toArray below meth c H locs 0 0 (MQ below (KQ γ A (some (.int rv)) (wM γ am sm_z sq)) ([.ref (am 0), .int x1] : List Value).toArray s 0 0 A) (F0 m 31 ls [])) (H : Heap) (locs : List Loc) (ls : Array Slot), f_X7_fires_J71 x1_18 x2_19 x3_20 x4_21 sm_22 K31 = some (rv, sm_z) → va_P γ.1 vwCl (wM γ am sm_22 sq) H → va_S A s.heap H locs → lv_has ls 5 [(0, .ref (am 0)), (1, .int x1_18), (2, .int x2_19), (3, .int x3_20), (4, .int x4_21)] → W p l e (rmK 3 68) s m ([.ref (am 0), .int x1] : List Value).toArray below meth c H locs 0 0 (MQ below (KQ γ A (some (.int rv)) (wM γ am sm_z sq)) ([.ref (am 0), .int x1] : List Value).toArray s 0 0 A) (F0 m 71 ls []) := by
    intro x1_18 x2_19 x3_20 x4_21 sm_22 K31 HK31 H locs ls hf hP hS hl
    unfold f_X7_fires_J71 at hf
    refine lv_aload_n hx hb dX7_fires_71 rfl (lv_at hl 0 rfl) ?_
    refine lv_iload_n hx hb dX7_fires_72 rfl (lv_at hl 1 rfl) ?_
    refine lv_iload_n hx hb dX7_fires_73 rfl (lv_at hl 2 rfl) ?_
    refine lv_iand hx hb dX7_fires_74 ?_
    refine lv_iload hx hb dX7_fires_75 (lv_at hl 4 rfl) ?_
    obtain ⟨r_23, hg_24, hf⟩ := bd_of hf
    refine kt_V0 (As := [.int (x1_18 &&& x2_19), .int x4_21]) (rest := []) (st1 := [.int r_23]) (b := am 0) C0 (c_X7_isLit l γ am hg_24) (cxV (nA := 2) hts goodU U1385 U1387 U71 U91 U1388 (by decide +kernel) ⟨Nat.le_of_ble_eq_true rfl, Nat.le_of_ble_eq_true rfl⟩) hP (hD _ _) hS hl dX7_fires_77 0 7 rfl rfl rfl rfl (Nat.le_of_ble_eq_true rfl) rfl rfl (fun H locs hP hS => ?_)
    refine lv_if_eq (tgt := 86) hx hb dX7_fires_80 (by decide) (fun c_25 => ?_) (fun c_25 => ?_)
    · replace hf := ite_p c_25 hf
      obtain ⟨x4_26, e_x4_26⟩ : ∃ y : Int32, y = x4_21 + (1 : Int32) := ⟨_, rfl⟩
      replace hf := nm_y hf e_x4_26
      refine lv_iinc (v := x4_26) (lv' := [(4, .int x4_26), (0, .ref (am 0)), (1, .int x1_18), (2, .int x2_19), (3, .int x3_20)]) hx hb dX7_fires_86 hl (k := 4) rfl (by rw [e_x4_26]; rfl) (by decide) rfl (fun ls hl => ?_)
      refine lv_goto (tgt := 31) hx hb dX7_fires_89 (by decide) ?_
      exact HK31 x3_20 x4_26 _ _ _ hf hP hS (lv_sub hl [1, 2, 3, 4, 0] rfl)
    · replace hf := ite_n c_25 hf
      refine lv_iload hx hb dX7_fires_83 (lv_at hl 4 rfl) ?_
      refine lv_istore_n (lv' := [(3, .int x4_21), (0, .ref (am 0)), (1, .int x1_18), (2, .int x2_19), (4, .int x4_21)]) hx hb dX7_fires_85 rfl hl (by decide) rfl (fun ls hl => ?_)
      obtain ⟨x4_27, e_x4_27⟩ : ∃ y : Int32, y = x4_21 + (1 : Int32) := ⟨_, rfl⟩
      replace hf := nm_y hf e_x4_27
      refine lv_iinc (v := x4_27) (lv' := [(4, .int x4_27), (3, .int x4_21), (0, .ref (am 0)), (1, .int x1_18), (2, .int x2_19)]) hx hb dX7_fires_86 hl (k := 4) rfl (by rw [e_x4_27]; rfl) (by decide) rfl (fun ls hl => ?_)
      refine lv_goto (tgt := 31) hx hb dX7_fires_89 (by decide) ?_
      exact HK31 x4_21 x4_27 _ _ _ hf hP hS (lv_sub hl [2, 3, 4, 1, 0] rfl)
  have L31 : ∀ (x1_9 : Int32) (x2_10 : Int32) (sm_13 : GS) (n : Nat) (x3_11 : Int32) (x4_12 : Int32) (H : Heap) (locs : List Loc) (ls : Array Slot), f_X7_fires_L31 x1_9 x2_10 sm_13 n x3_11 x4_12 = some (rv, sm_z) → va_P γ.1 vwCl (wM γ am sm_13 sq) H → va_S A s.heap H locs → lv_has ls 5 [(0, .ref (am 0)), (1, .int x1_9), (2, .int x2_10), (3, .int x3_11), (4, .int x4_12)] → W p l e (rmK 3 68) s m ([.ref (am 0), .int x1] : List Value).toArray below meth c H locs 0 0 (MQ below (KQ γ A (some (.int rv)) (wM γ am sm_z sq)) ([.ref (am 0), .int x1] : List Value).toArray s 0 0 A) (F0 m 31 ls []) := by
    intro x1_9 x2_10 sm_13
    intro n
    induction n with
    | zero =>
      intro x3_11 x4_12 H locs ls hf
      have hf : none = some _ := hf
      cases hf
    | succ n ih =>
      intro x3_11 x4_12 H locs ls hf hP hS hl
      rw [f_X7_fires_L31.eq_2] at hf
      refine lv_iload hx hb dX7_fires_31 (lv_at hl 4 rfl) ?_
      refine lv_iconst (v := 1) hx hb dX7_fires_33 (by decide) ?_
      refine lv_aload_n hx hb dX7_fires_34 rfl (lv_at hl 0 rfl) ?_
      refine va_get (D := γ.1) (ci := 7) (v := .int (sm_13 0 3)) (C := RX7) (T := TX7) (N := 35) hx hb hU uin7 hown hK hP 0 rfl rfl 3 (by decide) (hU _ U972) (fun _ h9 => h9) rfl dX7_fires_35 ?_
      refine lv_ishl hx hb dX7_fires_38 ?_
      refine lv_icmp_ge (tgt := 92) hx hb dX7_fires_39 (by decide) (fun c_14 => ?_) (fun c_14 => ?_)
      · replace hf := ite_p c_14 hf
        refine lv_iload_n hx hb dX7_fires_92 rfl (lv_at hl 3 rfl) ?_
        obtain ⟨rfl, rfl⟩ := rt2 hf
        exact kt_iret C0 hP hS dX7_fires_93
      · replace hf := ite_n c_14 hf
        refine lv_iload hx hb dX7_fires_42 (lv_at hl 4 rfl) ?_
        refine lv_iload_n hx hb dX7_fires_44 rfl (lv_at hl 2 rfl) ?_
        refine lv_iconst (v := -1) hx hb dX7_fires_45 (by decide) ?_
        refine lv_ixor hx hb dX7_fires_46 ?_
        refine lv_iand hx hb dX7_fires_47 ?_
        refine lv_if_ne (tgt := 86) hx hb dX7_fires_48 (by decide) (fun c_15 => ?_) (fun c_15 => ?_)
        · replace hf := ite_n c_15 hf
          obtain ⟨x4_16, e_x4_16⟩ : ∃ y : Int32, y = x4_12 + (1 : Int32) := ⟨_, rfl⟩
          replace hf := nm_y hf e_x4_16
          refine lv_iinc (v := x4_16) (lv' := [(4, .int x4_16), (0, .ref (am 0)), (1, .int x1_9), (2, .int x2_10), (3, .int x3_11)]) hx hb dX7_fires_86 hl (k := 4) rfl (by rw [e_x4_16]; rfl) (by decide) rfl (fun ls hl => ?_)
          refine lv_goto (tgt := 31) hx hb dX7_fires_89 (by decide) ?_
          exact ih x3_11 x4_16 _ _ _ hf hP hS (lv_sub hl [1, 2, 3, 4, 0] rfl)
        · replace hf := ite_p c_15 hf
          refine lv_iload_n hx hb dX7_fires_51 rfl (lv_at hl 3 rfl) ?_
          refine lv_iconst (v := -1) hx hb dX7_fires_52 (by decide) ?_
          refine lv_icmp_eq (tgt := 71) hx hb dX7_fires_53 (by decide) (fun c_17 => ?_) (fun c_17 => ?_)
          · replace hf := ite_p c_17 hf
            exact J71 x1_9 x2_10 x3_11 x4_12 sm_13 _ ih _ _ _ hf hP hS (lv_sub hl [0, 1, 2, 3, 4] rfl)
          · replace hf := ite_n c_17 hf
            refine lv_iload hx hb dX7_fires_56 (lv_at hl 4 rfl) ?_
            obtain ⟨r_28, hg_29, hf⟩ := bd_of hf
            refine kt_SF (As := [.int x4_12]) (rest := []) (st1 := [.int r_28]) (wc' := wM γ am sm_13 sq) C0 (c_J6_bitCount_0f7a4 l γ hg_29) (cxS (nA := 1) hts goodU U1384 U766 U98 U767 (by decide +kernel) ⟨Nat.le_of_ble_eq_true rfl, Nat.le_of_ble_eq_true rfl⟩) hP (hD _ _) hS hl dX7_fires_58 foc_nil rfl (Nat.le_of_ble_eq_true rfl) rfl rfl (fun H locs hP hS => ?_)
            refine lv_iload_n hx hb dX7_fires_61 rfl (lv_at hl 3 rfl) ?_
            obtain ⟨r_30, hg_31, hf⟩ := bd_of hf
            refine kt_SF (As := [.int x3_11]) (rest := [.int r_28]) (st1 := [.int r_30, .int r_28]) (wc' := wM γ am sm_13 sq) C0 (c_J6_bitCount_0f7a4 l γ hg_31) (cxS (nA := 1) hts goodU U1384 U766 U98 U767 (by decide +kernel) ⟨Nat.le_of_ble_eq_true rfl, Nat.le_of_ble_eq_true rfl⟩) hP (hD _ _) hS hl dX7_fires_62 foc_nil rfl (Nat.le_of_ble_eq_true rfl) rfl rfl (fun H locs hP hS => ?_)
            refine lv_icmp_lt (tgt := 71) hx hb dX7_fires_65 (by decide) (fun c_32 => ?_) (fun c_32 => ?_)
            · replace hf := ite_p c_32 hf
              exact J71 x1_9 x2_10 x3_11 x4_12 sm_13 _ ih _ _ _ hf hP hS (lv_sub hl [0, 1, 2, 3, 4] rfl)
            · replace hf := ite_n c_32 hf
              refine lv_goto (tgt := 86) hx hb dX7_fires_68 (by decide) ?_
              obtain ⟨x4_33, e_x4_33⟩ : ∃ y : Int32, y = x4_12 + (1 : Int32) := ⟨_, rfl⟩
              replace hf := nm_y hf e_x4_33
              refine lv_iinc (v := x4_33) (lv' := [(4, .int x4_33), (0, .ref (am 0)), (1, .int x1_9), (2, .int x2_10), (3, .int x3_11)]) hx hb dX7_fires_86 hl (k := 4) rfl (by rw [e_x4_33]; rfl) (by decide) rfl (fun ls hl => ?_)
              refine lv_goto (tgt := 31) hx hb dX7_fires_89 (by decide) ?_
              exact ih x3_11 x4_33 _ _ _ hf hP hS (lv_sub hl [1, 2, 3, 4, 0] rfl)
  unfold f_X7_fires at hf
  refine lv_iload_n hx hb dX7_fires_0 rfl (lv_at hl 1 rfl) ?_
  refine lv_if_lt (tgt := 14) hx hb dX7_fires_1 (by decide) (fun c_1 => ?_) (fun c_1 => ?_)
  · replace hf := ite_p c_1 hf
    exact J14 sm _ _ _ hf hP hS (lv_sub hl [0] rfl)
  · replace hf := ite_n c_1 hf
    refine lv_iload_n hx hb dX7_fires_4 rfl (lv_at hl 1 rfl) ?_
    refine lv_iconst (v := 1) hx hb dX7_fires_5 (by decide) ?_
    refine lv_aload_n hx hb dX7_fires_6 rfl (lv_at hl 0 rfl) ?_
    refine va_get (D := γ.1) (ci := 7) (v := .int (sm 0 3)) (C := RX7) (T := TX7) (N := 35) hx hb hU uin7 hown hK hP 0 rfl rfl 3 (by decide) (hU _ U972) (fun _ h9 => h9) rfl dX7_fires_7 ?_
    refine lv_ishl hx hb dX7_fires_10 ?_
    refine lv_icmp_lt (tgt := 21) hx hb dX7_fires_11 (by decide) (fun c_6 => ?_) (fun c_6 => ?_)
    · replace hf := ite_p c_6 hf
      refine lv_aload_n hx hb dX7_fires_21 rfl (lv_at hl 0 rfl) ?_
      obtain ⟨r_7, hg_8, hf⟩ := bd_of hf
      refine kt_V0 (As := []) (rest := []) (st1 := [.int r_7]) (b := am 0) C0 (c_X7_there l γ am hg_8) (cxV (nA := 0) hts goodU U1380 U1382 U70 U91 U1383 (by decide +kernel) ⟨Nat.le_of_ble_eq_true rfl, Nat.le_of_ble_eq_true rfl⟩) hP (hD _ _) hS hl dX7_fires_22 0 7 rfl rfl rfl rfl (Nat.le_of_ble_eq_true rfl) rfl rfl (fun H locs hP hS => ?_)
      refine lv_istore_n (lv' := [(2, .int r_7), (0, .ref (am 0)), (1, .int x1)]) hx hb dX7_fires_25 rfl hl (by decide) rfl (fun ls hl => ?_)
      refine lv_iconst (v := -1) hx hb dX7_fires_26 (by decide) ?_
      refine lv_istore_n (lv' := [(3, .int (-1 : Int32)), (2, .int r_7), (0, .ref (am 0)), (1, .int x1)]) hx hb dX7_fires_27 rfl hl (by decide) rfl (fun ls hl => ?_)
      refine lv_iconst (v := 0) hx hb dX7_fires_28 (by decide) ?_
      refine lv_istore (lv' := [(4, .int (0 : Int32)), (3, .int (-1 : Int32)), (2, .int r_7), (0, .ref (am 0)), (1, .int x1)]) hx hb dX7_fires_29 hl (by decide) rfl (fun ls hl => ?_)
      exact L31 x1 r_7 sm FU (-1 : Int32) (0 : Int32) _ _ _ hf hP hS (lv_sub hl [3, 4, 2, 1, 0] rfl)
    · replace hf := ite_n c_6 hf
      exact J14 sm _ _ _ hf hP hS (lv_sub hl [0] rfl)
set_option maxHeartbeats 4000000 in
set_option maxRecDepth 100000 in
theorem c_X7_seenBy (l : Launch) (γ : Gm) (am : Nat → Nat) {sm : GS} {sq : Nat → Int64} {x1 : Int32} {rv : Int32} (hf : f_X7_seenBy sm x1 = some rv) : Kt l γ yX7_seenBy (Cond.code yX7_seenBy cX7_seenBy 4 (some .int) :: U) 1 22 [.ref (am 0), .int x1] (wM γ am sm sq) (some (.int rv)) (wM γ am sm sq) := by
  refine Kt.of (by decide) rfl (Nat.le_of_ble_eq_true rfl) rfl ?_
  intro p e s m below meth c A ls C0 hP hD0 hS hl
  obtain ⟨hx, hb, hml, hown, hts, hr, hlocks, hK, hE, hA⟩ := id C0
  have hU : ∀ w ∈ U, w.before _ s = true := fun w h => hts w (List.mem_cons_of_mem _ h)
  have hD : ∀ (sm : GS) (sq : Nat → Int64), va_D A (wM γ am sm sq) := fun _ _ => hD0.fst rfl
  have hl : lv_has ls 4 [(0, .ref (am 0)), (1, .int x1)] := hl
  have L4 : ∀ (x1_1 : Int32) (n : Nat) (x2_2 : Int32) (x3_3 : Int32) (H : Heap) (locs : List Loc) (ls : Array Slot), f_X7_seenBy_L4 sm x1_1 n x2_2 x3_3 = some rv → va_P γ.1 vwCl (wM γ am sm sq) H → va_S A s.heap H locs → lv_has ls 4 [(0, .ref (am 0)), (1, .int x1_1), (2, .int x2_2), (3, .int x3_3)] → W p l e (rmK 1 22) s m ([.ref (am 0), .int x1] : List Value).toArray below meth c H locs 0 0 (MQ below (KQ γ A (some (.int rv)) (wM γ am sm sq)) ([.ref (am 0), .int x1] : List Value).toArray s 0 0 A) (F0 m 4 ls []) := by
    intro x1_1
    intro n
    induction n with
    | zero =>
      intro x2_2 x3_3 H locs ls hf
      have hf : none = some _ := hf
      cases hf
    | succ n ih =>
      intro x2_2 x3_3 H locs ls hf hP hS hl
      rw [f_X7_seenBy_L4.eq_2] at hf
      refine lv_iload_n hx hb dX7_seenBy_4 rfl (lv_at hl 3 rfl) ?_
      refine lv_aload_n hx hb dX7_seenBy_5 rfl (lv_at hl 0 rfl) ?_
      refine va_get (D := γ.1) (ci := 7) (v := .int (sm 0 3)) (C := RX7) (T := TX7) (N := 35) hx hb hU uin7 hown hK hP 0 rfl rfl 3 (by decide) (hU _ U972) (fun _ h9 => h9) rfl dX7_seenBy_6 ?_
      refine lv_icmp_ge (tgt := 30) hx hb dX7_seenBy_9 (by decide) (fun c_4 => ?_) (fun c_4 => ?_)
      · replace hf := ite_p c_4 hf
        refine lv_iload_n hx hb dX7_seenBy_30 rfl (lv_at hl 2 rfl) ?_
        obtain rfl := Option.some.inj hf
        exact kt_iret C0 hP hS dX7_seenBy_31
      · replace hf := ite_n c_4 hf
        refine lv_aload_n hx hb dX7_seenBy_12 rfl (lv_at hl 0 rfl) ?_
        refine lv_iload_n hx hb dX7_seenBy_13 rfl (lv_at hl 3 rfl) ?_
        refine lv_iload_n hx hb dX7_seenBy_14 rfl (lv_at hl 1 rfl) ?_
        obtain ⟨r_5, hg_6, hf⟩ := bd_of hf
        refine kt_V0 (As := [.int x3_3, .int x1_1]) (rest := []) (st1 := [.int r_5]) (b := am 0) C0 (c_X7_sees l γ am hg_6) (cxV (nA := 2) hts goodU U1143 U1145 U37 U91 U1146 (by decide +kernel) ⟨Nat.le_of_ble_eq_true rfl, Nat.le_of_ble_eq_true rfl⟩) hP (hD _ _) hS hl dX7_seenBy_15 0 7 rfl rfl rfl rfl (Nat.le_of_ble_eq_true rfl) rfl rfl (fun H locs hP hS => ?_)
        refine lv_if_eq (tgt := 24) hx hb dX7_seenBy_18 (by decide) (fun c_7 => ?_) (fun c_7 => ?_)
        · replace hf := ite_p c_7 hf
          obtain ⟨x3_8, e_x3_8⟩ : ∃ y : Int32, y = x3_3 + (1 : Int32) := ⟨_, rfl⟩
          replace hf := nm_y hf e_x3_8
          refine lv_iinc (v := x3_8) (lv' := [(3, .int x3_8), (0, .ref (am 0)), (1, .int x1_1), (2, .int x2_2)]) hx hb dX7_seenBy_24 hl (k := 3) rfl (by rw [e_x3_8]; rfl) (by decide) rfl (fun ls hl => ?_)
          refine lv_goto (tgt := 4) hx hb dX7_seenBy_27 (by decide) ?_
          exact ih x2_2 x3_8 _ _ _ hf hP hS (lv_sub hl [1, 2, 3, 0] rfl)
        · replace hf := ite_n c_7 hf
          obtain ⟨x2_9, e_x2_9⟩ : ∃ y : Int32, y = x2_2 + (1 : Int32) := ⟨_, rfl⟩
          replace hf := nm_y hf e_x2_9
          refine lv_iinc (v := x2_9) (lv' := [(2, .int x2_9), (0, .ref (am 0)), (1, .int x1_1), (3, .int x3_3)]) hx hb dX7_seenBy_21 hl (k := 2) rfl (by rw [e_x2_9]; rfl) (by decide) rfl (fun ls hl => ?_)
          obtain ⟨x3_10, e_x3_10⟩ : ∃ y : Int32, y = x3_3 + (1 : Int32) := ⟨_, rfl⟩
          replace hf := nm_y hf e_x3_10
          refine lv_iinc (v := x3_10) (lv' := [(3, .int x3_10), (2, .int x2_9), (0, .ref (am 0)), (1, .int x1_1)]) hx hb dX7_seenBy_24 hl (k := 3) rfl (by rw [e_x3_10]; rfl) (by decide) rfl (fun ls hl => ?_)
          refine lv_goto (tgt := 4) hx hb dX7_seenBy_27 (by decide) ?_
          exact ih x2_9 x3_10 _ _ _ hf hP hS (lv_sub hl [2, 3, 1, 0] rfl)
  unfold f_X7_seenBy at hf
  refine lv_iconst (v := 0) hx hb dX7_seenBy_0 (by decide) ?_
  refine lv_istore_n (lv' := [(2, .int (0 : Int32)), (0, .ref (am 0)), (1, .int x1)]) hx hb dX7_seenBy_1 rfl hl (by decide) rfl (fun ls hl => ?_)
  refine lv_iconst (v := 0) hx hb dX7_seenBy_2 (by decide) ?_
  refine lv_istore_n (lv' := [(3, .int (0 : Int32)), (2, .int (0 : Int32)), (0, .ref (am 0)), (1, .int x1)]) hx hb dX7_seenBy_3 rfl hl (by decide) rfl (fun ls hl => ?_)
  exact L4 x1 FU (0 : Int32) (0 : Int32) _ _ _ hf hP hS (lv_sub hl [2, 3, 1, 0] rfl)
set_option maxHeartbeats 4000000 in
set_option maxRecDepth 100000 in
theorem c_X7_send (l : Launch) (γ : Gm) (am : Nat → Nat) {sm : GS} {sq : Nat → Int64} {rv : Int32} (hf : f_X7_send sm = some rv) : Kt l γ yX7_send (Cond.code yX7_send cX7_send 3 (some .int) :: U) 3 64 [.ref (am 0)] (wM γ am sm sq) (some (.int rv)) (wM γ am sm sq) := by
  refine Kt.of (by decide) rfl (Nat.le_of_ble_eq_true rfl) rfl ?_
  intro p e s m below meth c A ls C0 hP hD0 hS hl
  obtain ⟨hx, hb, hml, hown, hts, hr, hlocks, hK, hE, hA⟩ := id C0
  have hU : ∀ w ∈ U, w.before _ s = true := fun w h => hts w (List.mem_cons_of_mem _ h)
  have hD : ∀ (sm : GS) (sq : Nat → Int64), va_D A (wM γ am sm sq) := fun _ _ => hD0.fst rfl
  have hl : lv_has ls 3 [(0, .ref (am 0))] := hl
  have J38 : ∀ (x2_9 : Int32) (K4 : Int32 → Int32 → Option (Int32)) (HK4 : ∀ (z1 : Int32) (z2 : Int32) (H : Heap) (locs : List Loc) (ls : Array Slot), K4 z1 z2 = some rv → va_P γ.1 vwCl (wM γ am sm sq) H → va_S A s.heap H locs → lv_has ls 3 [(0, .ref (am 0)), (1, .int z1), (2, .int z2)] → W p l e (rmK 3 64) s m ([.ref (am 0)] : List Value).toArray below meth c H locs 0 0 (MQ below (KQ γ A (some (.int rv)) (wM γ am sm sq)) ([.ref (am 0)] : List Value).toArray s 0 0 A) (F0 m 4 ls [])) (H : Heap) (locs : List Loc) (ls : Array Slot), f_X7_send_J38 x2_9 K4 = some rv → va_P γ.1 vwCl (wM γ am sm sq) H → va_S A s.heap H locs → lv_has ls 3 [(0, .ref (am 0)), (2, .int x2_9)] → W p l e (rmK 3 64) s m ([.ref (am 0)] : List Value).toArray below meth c H locs 0 0 (MQ below (KQ γ A (some (.int rv)) (wM γ am sm sq)) ([.ref (am 0)] : List Value).toArray s 0 0 A) (F0 m 38 ls []) := by
    intro x2_9 K4 HK4 H locs ls hf hP hS hl
    unfold f_X7_send_J38 at hf
    refine lv_iload_n hx hb dX7_send_38 rfl (lv_at hl 1 rfl) ?_
    refine lv_istore_n (lv' := [(1, .int x2_9), (0, .ref (am 0)), (2, .int x2_9)]) hx hb dX7_send_39 rfl hl (by decide) rfl (fun ls hl => ?_)
    obtain ⟨x2_10, e_x2_10⟩ : ∃ y : Int32, y = x2_9 + (1 : Int32) := ⟨_, rfl⟩
    replace hf := nm_y hf e_x2_10
    refine lv_iinc (v := x2_10) (lv' := [(2, .int x2_10), (1, .int x2_9), (0, .ref (am 0))]) hx hb dX7_send_40 hl (k := 2) rfl (by rw [e_x2_10]; rfl) (by decide) rfl (fun ls hl => ?_)
    refine lv_goto (tgt := 4) hx hb dX7_send_43 (by decide) ?_
    exact HK4 x2_9 x2_10 _ _ _ hf hP hS (lv_sub hl [2, 1, 0] rfl)
  have L4 : ∀ (n : Nat) (x1_1 : Int32) (x2_2 : Int32) (H : Heap) (locs : List Loc) (ls : Array Slot), f_X7_send_L4 sm n x1_1 x2_2 = some rv → va_P γ.1 vwCl (wM γ am sm sq) H → va_S A s.heap H locs → lv_has ls 3 [(0, .ref (am 0)), (1, .int x1_1), (2, .int x2_2)] → W p l e (rmK 3 64) s m ([.ref (am 0)] : List Value).toArray below meth c H locs 0 0 (MQ below (KQ γ A (some (.int rv)) (wM γ am sm sq)) ([.ref (am 0)] : List Value).toArray s 0 0 A) (F0 m 4 ls []) := by
    intro n
    induction n with
    | zero =>
      intro x1_1 x2_2 H locs ls hf
      have hf : none = some _ := hf
      cases hf
    | succ n ih =>
      intro x1_1 x2_2 H locs ls hf hP hS hl
      rw [f_X7_send_L4.eq_2] at hf
      refine lv_iload_n hx hb dX7_send_4 rfl (lv_at hl 2 rfl) ?_
      refine lv_aload_n hx hb dX7_send_5 rfl (lv_at hl 0 rfl) ?_
      refine va_get (D := γ.1) (ci := 7) (v := .int (sm 0 3)) (C := RX7) (T := TX7) (N := 35) hx hb hU uin7 hown hK hP 0 rfl rfl 3 (by decide) (hU _ U972) (fun _ h9 => h9) rfl dX7_send_6 ?_
      refine lv_icmp_ge (tgt := 46) hx hb dX7_send_9 (by decide) (fun c_3 => ?_) (fun c_3 => ?_)
      · replace hf := ite_p c_3 hf
        refine lv_iload_n hx hb dX7_send_46 rfl (lv_at hl 1 rfl) ?_
        obtain rfl := Option.some.inj hf
        exact kt_iret C0 hP hS dX7_send_47
      · replace hf := ite_n c_3 hf
        refine lv_aload_n hx hb dX7_send_12 rfl (lv_at hl 0 rfl) ?_
        refine lv_iload_n hx hb dX7_send_13 rfl (lv_at hl 2 rfl) ?_
        obtain ⟨r_4, hg_5, hf⟩ := bd_of hf
        refine kt_V0 (As := [.int x2_2]) (rest := []) (st1 := [.int r_4]) (b := am 0) C0 (c_X7_isThere l γ am hg_5) (cxV (nA := 1) hts goodU U1268 U1270 U57 U91 U1271 (by decide +kernel) ⟨Nat.le_of_ble_eq_true rfl, Nat.le_of_ble_eq_true rfl⟩) hP (hD _ _) hS hl dX7_send_14 0 7 rfl rfl rfl rfl (Nat.le_of_ble_eq_true rfl) rfl rfl (fun H locs hP hS => ?_)
        refine lv_if_eq (tgt := 40) hx hb dX7_send_17 (by decide) (fun c_6 => ?_) (fun c_6 => ?_)
        · replace hf := ite_p c_6 hf
          obtain ⟨x2_7, e_x2_7⟩ : ∃ y : Int32, y = x2_2 + (1 : Int32) := ⟨_, rfl⟩
          replace hf := nm_y hf e_x2_7
          refine lv_iinc (v := x2_7) (lv' := [(2, .int x2_7), (0, .ref (am 0)), (1, .int x1_1)]) hx hb dX7_send_40 hl (k := 2) rfl (by rw [e_x2_7]; rfl) (by decide) rfl (fun ls hl => ?_)
          refine lv_goto (tgt := 4) hx hb dX7_send_43 (by decide) ?_
          exact ih x1_1 x2_7 _ _ _ hf hP hS (lv_sub hl [1, 2, 0] rfl)
        · replace hf := ite_n c_6 hf
          refine lv_iload_n hx hb dX7_send_20 rfl (lv_at hl 1 rfl) ?_
          refine lv_iconst (v := -1) hx hb dX7_send_21 (by decide) ?_
          refine lv_icmp_eq (tgt := 38) hx hb dX7_send_22 (by decide) (fun c_8 => ?_) (fun c_8 => ?_)
          · replace hf := ite_p c_8 hf
            exact J38 x2_2 _ ih _ _ _ hf hP hS (lv_sub hl [0, 2] rfl)
          · replace hf := ite_n c_8 hf
            refine lv_aload_n hx hb dX7_send_25 rfl (lv_at hl 0 rfl) ?_
            refine lv_iload_n hx hb dX7_send_26 rfl (lv_at hl 2 rfl) ?_
            obtain ⟨r_11, hg_12, hf⟩ := bd_of hf
            refine kt_V0 (As := [.int x2_2]) (rest := []) (st1 := [.int r_11]) (b := am 0) C0 (c_X7_seenBy l γ am hg_12) (cxV (nA := 1) hts goodU U1393 U1395 U72 U91 U1396 (by decide +kernel) ⟨Nat.le_of_ble_eq_true rfl, Nat.le_of_ble_eq_true rfl⟩) hP (hD _ _) hS hl dX7_send_27 0 7 rfl rfl rfl rfl (Nat.le_of_ble_eq_true rfl) rfl rfl (fun H locs hP hS => ?_)
            refine lv_aload_n hx hb dX7_send_30 rfl (lv_at hl 0 rfl) ?_
            refine lv_iload_n hx hb dX7_send_31 rfl (lv_at hl 1 rfl) ?_
            obtain ⟨r_13, hg_14, hf⟩ := bd_of hf
            refine kt_V0 (As := [.int x1_1]) (rest := [.int r_11]) (st1 := [.int r_13, .int r_11]) (b := am 0) C0 (c_X7_seenBy l γ am hg_14) (cxV (nA := 1) hts goodU U1393 U1395 U72 U91 U1396 (by decide +kernel) ⟨Nat.le_of_ble_eq_true rfl, Nat.le_of_ble_eq_true rfl⟩) hP (hD _ _) hS hl dX7_send_32 0 7 rfl rfl rfl rfl (Nat.le_of_ble_eq_true rfl) rfl rfl (fun H locs hP hS => ?_)
            refine lv_icmp_le (tgt := 40) hx hb dX7_send_35 (by decide) (fun c_15 => ?_) (fun c_15 => ?_)
            · replace hf := ite_p c_15 hf
              obtain ⟨x2_16, e_x2_16⟩ : ∃ y : Int32, y = x2_2 + (1 : Int32) := ⟨_, rfl⟩
              replace hf := nm_y hf e_x2_16
              refine lv_iinc (v := x2_16) (lv' := [(2, .int x2_16), (0, .ref (am 0)), (1, .int x1_1)]) hx hb dX7_send_40 hl (k := 2) rfl (by rw [e_x2_16]; rfl) (by decide) rfl (fun ls hl => ?_)
              refine lv_goto (tgt := 4) hx hb dX7_send_43 (by decide) ?_
              exact ih x1_1 x2_16 _ _ _ hf hP hS (lv_sub hl [1, 2, 0] rfl)
            · replace hf := ite_n c_15 hf
              exact J38 x2_2 _ ih _ _ _ hf hP hS (lv_sub hl [0, 2] rfl)
  unfold f_X7_send at hf
  refine lv_iconst (v := -1) hx hb dX7_send_0 (by decide) ?_
  refine lv_istore_n (lv' := [(1, .int (-1 : Int32)), (0, .ref (am 0))]) hx hb dX7_send_1 rfl hl (by decide) rfl (fun ls hl => ?_)
  refine lv_iconst (v := 0) hx hb dX7_send_2 (by decide) ?_
  refine lv_istore_n (lv' := [(2, .int (0 : Int32)), (1, .int (-1 : Int32)), (0, .ref (am 0))]) hx hb dX7_send_3 rfl hl (by decide) rfl (fun ls hl => ?_)
  exact L4 FU (-1 : Int32) (0 : Int32) _ _ _ hf hP hS (lv_sub hl [2, 1, 0] rfl)
set_option maxHeartbeats 4000000 in
set_option maxRecDepth 100000 in
theorem c_X7_chain (l : Launch) (γ : Gm) (am : Nat → Nat) {sm : GS} {sq : Nat → Int64} {x1 : Int32} {x2 : Int32} {rv : Int32} {sm_z : GS} (hf : f_X7_chain sm x1 x2 = some (rv, sm_z)) : Kt l γ yX7_chain (Cond.code yX7_chain cX7_chain 7 (some .int) :: U) 3 64 [.ref (am 0), .int x1, .int x2] (wM γ am sm sq) (some (.int rv)) (wM γ am sm_z sq) := by
  refine Kt.of (by decide) rfl (Nat.le_of_ble_eq_true rfl) rfl ?_
  intro p e s m below meth c A ls C0 hP hD0 hS hl
  obtain ⟨hx, hb, hml, hown, hts, hr, hlocks, hK, hE, hA⟩ := id C0
  have hU : ∀ w ∈ U, w.before _ s = true := fun w h => hts w (List.mem_cons_of_mem _ h)
  have hD : ∀ (sm : GS) (sq : Nat → Int64), va_D A (wM γ am sm sq) := fun _ _ => hD0.fst rfl
  have hl : lv_has ls 7 [(0, .ref (am 0)), (1, .int x1), (2, .int x2)] := hl
  have J16 : ∀ (sm_4 : GS) (H : Heap) (locs : List Loc) (ls : Array Slot), f_X7_chain_J16 sm_4 = some (rv, sm_z) → va_P γ.1 vwCl (wM γ am sm_4 sq) H → va_S A s.heap H locs → lv_has ls 7 [(0, .ref (am 0))] → W p l e (rmK 3 64) s m ([.ref (am 0), .int x1, .int x2] : List Value).toArray below meth c H locs 0 0 (MQ below (KQ γ A (some (.int rv)) (wM γ am sm_z sq)) ([.ref (am 0), .int x1, .int x2] : List Value).toArray s 0 0 A) (F0 m 16 ls []) := by
    intro sm_4 H locs ls hf hP hS hl
    unfold f_X7_chain_J16 at hf
    refine lv_aload_n hx hb dX7_chain_16 rfl (lv_at hl 0 rfl) ?_
    refine lv_iconst (v := -1) hx hb dX7_chain_17 (by decide) ?_
    obtain ⟨r_5, sm_6, hg_7, hf⟩ := bd2_of hf
    refine kt_V0 (As := [.int (-1 : Int32)]) (rest := []) (st1 := [.int r_5]) (b := am 0) C0 (c_X7_no10 l γ am hg_7) (cxV (nA := 1) hts goodU U1292 U1294 U61 U91 U1295 (by decide +kernel) ⟨Nat.le_of_ble_eq_true rfl, Nat.le_of_ble_eq_true rfl⟩) hP (hD _ _) hS hl dX7_chain_18 0 7 rfl rfl rfl rfl (Nat.le_of_ble_eq_true rfl) rfl rfl (fun H locs hP hS => ?_)
    obtain ⟨rfl, rfl⟩ := rt2 hf
    exact kt_iret C0 hP hS dX7_chain_21
  have J43 : ∀ (sm_12 : GS) (H : Heap) (locs : List Loc) (ls : Array Slot), f_X7_chain_J43 sm_12 = some (rv, sm_z) → va_P γ.1 vwCl (wM γ am sm_12 sq) H → va_S A s.heap H locs → lv_has ls 7 [(0, .ref (am 0))] → W p l e (rmK 3 64) s m ([.ref (am 0), .int x1, .int x2] : List Value).toArray below meth c H locs 0 0 (MQ below (KQ γ A (some (.int rv)) (wM γ am sm_z sq)) ([.ref (am 0), .int x1, .int x2] : List Value).toArray s 0 0 A) (F0 m 43 ls []) := by
    intro sm_12 H locs ls hf hP hS hl
    unfold f_X7_chain_J43 at hf
    refine lv_aload_n hx hb dX7_chain_43 rfl (lv_at hl 0 rfl) ?_
    refine lv_bipush (v := -6) hx hb dX7_chain_44 (by decide) ?_
    obtain ⟨r_13, sm_14, hg_15, hf⟩ := bd2_of hf
    refine kt_V0 (As := [.int (-6 : Int32)]) (rest := []) (st1 := [.int r_13]) (b := am 0) C0 (c_X7_no10 l γ am hg_15) (cxV (nA := 1) hts goodU U1292 U1294 U61 U91 U1295 (by decide +kernel) ⟨Nat.le_of_ble_eq_true rfl, Nat.le_of_ble_eq_true rfl⟩) hP (hD _ _) hS hl dX7_chain_46 0 7 rfl rfl rfl rfl (Nat.le_of_ble_eq_true rfl) rfl rfl (fun H locs hP hS => ?_)
    obtain ⟨rfl, rfl⟩ := rt2 hf
    exact kt_iret C0 hP hS dX7_chain_49
  have L70 : ∀ (x2_28 : Int32) (x3_29 : Int32) (x4_30 : Int32) (sm_33 : GS) (K104 : Int32 → Option (Int32 × GS)) (HK104 : ∀ (z5 : Int32) (H : Heap) (locs : List Loc) (ls : Array Slot), K104 z5 = some (rv, sm_z) → va_P γ.1 vwCl (wM γ am sm_33 sq) H → va_S A s.heap H locs → lv_has ls 7 [(0, .ref (am 0)), (2, .int x2_28), (4, .int x4_30), (5, .int z5)] → W p l e (rmK 3 64) s m ([.ref (am 0), .int x1, .int x2] : List Value).toArray below meth c H locs 0 0 (MQ below (KQ γ A (some (.int rv)) (wM γ am sm_z sq)) ([.ref (am 0), .int x1, .int x2] : List Value).toArray s 0 0 A) (F0 m 104 ls [])) (n : Nat) (x5_31 : Int32) (x6_32 : Int32) (H : Heap) (locs : List Loc) (ls : Array Slot), f_X7_chain_L70 x3_29 sm_33 K104 n x5_31 x6_32 = some (rv, sm_z) → va_P γ.1 vwCl (wM γ am sm_33 sq) H → va_S A s.heap H locs → lv_has ls 7 [(0, .ref (am 0)), (2, .int x2_28), (3, .int x3_29), (4, .int x4_30), (5, .int x5_31), (6, .int x6_32)] → W p l e (rmK 3 64) s m ([.ref (am 0), .int x1, .int x2] : List Value).toArray below meth c H locs 0 0 (MQ below (KQ γ A (some (.int rv)) (wM γ am sm_z sq)) ([.ref (am 0), .int x1, .int x2] : List Value).toArray s 0 0 A) (F0 m 70 ls []) := by
    intro x2_28 x3_29 x4_30 sm_33 K104 HK104
    intro n
    induction n with
    | zero =>
      intro x5_31 x6_32 H locs ls hf
      have hf : none = some _ := hf
      cases hf
    | succ n ih =>
      intro x5_31 x6_32 H locs ls hf hP hS hl
      rw [f_X7_chain_L70.eq_2] at hf
      refine lv_iload hx hb dX7_chain_70 (lv_at hl 5 rfl) ?_
      refine lv_aload_n hx hb dX7_chain_72 rfl (lv_at hl 0 rfl) ?_
      refine va_get (D := γ.1) (ci := 7) (v := .int (sm_33 0 3)) (C := RX7) (T := TX7) (N := 35) hx hb hU uin7 hown hK hP 0 rfl rfl 3 (by decide) (hU _ U972) (fun _ h9 => h9) rfl dX7_chain_73 ?_
      refine lv_icmp_ge (tgt := 104) hx hb dX7_chain_76 (by decide) (fun c_34 => ?_) (fun c_34 => ?_)
      · replace hf := ite_p c_34 hf
        exact HK104 x5_31 _ _ _ hf hP hS (lv_sub hl [0, 1, 3, 4] rfl)
      · replace hf := ite_n c_34 hf
        refine lv_aload_n hx hb dX7_chain_79 rfl (lv_at hl 0 rfl) ?_
        refine lv_iload hx hb dX7_chain_80 (lv_at hl 5 rfl) ?_
        refine lv_iload_n hx hb dX7_chain_82 rfl (lv_at hl 2 rfl) ?_
        obtain ⟨r_35, hg_36, hf⟩ := bd_of hf
        refine kt_V0 (As := [.int x6_32, .int x3_29]) (rest := []) (st1 := [.int r_35]) (b := am 0) C0 (c_X7_seesAny l γ am hg_36) (cxV (nA := 2) hts goodU U1136 U1138 U36 U91 U1139 (by decide +kernel) ⟨Nat.le_of_ble_eq_true rfl, Nat.le_of_ble_eq_true rfl⟩) hP (hD _ _) hS hl dX7_chain_83 0 7 rfl rfl rfl rfl (Nat.le_of_ble_eq_true rfl) rfl rfl (fun H locs hP hS => ?_)
        refine lv_if_eq (tgt := 98) hx hb dX7_chain_86 (by decide) (fun c_37 => ?_) (fun c_37 => ?_)
        · replace hf := ite_p c_37 hf
          obtain ⟨x6_38, e_x6_38⟩ : ∃ y : Int32, y = x6_32 + (1 : Int32) := ⟨_, rfl⟩
          replace hf := nm_y hf e_x6_38
          refine lv_iinc (v := x6_38) (lv' := [(6, .int x6_38), (0, .ref (am 0)), (2, .int x2_28), (3, .int x3_29), (4, .int x4_30), (5, .int x5_31)]) hx hb dX7_chain_98 hl (k := 5) rfl (by rw [e_x6_38]; rfl) (by decide) rfl (fun ls hl => ?_)
          refine lv_goto (tgt := 70) hx hb dX7_chain_101 (by decide) ?_
          exact ih x5_31 x6_38 _ _ _ hf hP hS (lv_sub hl [1, 2, 3, 4, 5, 0] rfl)
        · replace hf := ite_n c_37 hf
          refine lv_iload hx hb dX7_chain_89 (lv_at hl 4 rfl) ?_
          refine lv_iconst (v := 1) hx hb dX7_chain_91 (by decide) ?_
          refine lv_iload hx hb dX7_chain_92 (lv_at hl 5 rfl) ?_
          refine lv_ishl hx hb dX7_chain_94 ?_
          refine lv_ior hx hb dX7_chain_95 ?_
          refine lv_topi (fun u_39 e_u_39 => ?_)
          replace hf := nm_y hf e_u_39
          refine lv_istore (lv' := [(5, .int u_39), (0, .ref (am 0)), (2, .int x2_28), (3, .int x3_29), (4, .int x4_30), (6, .int x6_32)]) hx hb dX7_chain_96 hl (by decide) rfl (fun ls hl => ?_)
          obtain ⟨x6_40, e_x6_40⟩ : ∃ y : Int32, y = x6_32 + (1 : Int32) := ⟨_, rfl⟩
          replace hf := nm_y hf e_x6_40
          refine lv_iinc (v := x6_40) (lv' := [(6, .int x6_40), (5, .int u_39), (0, .ref (am 0)), (2, .int x2_28), (3, .int x3_29), (4, .int x4_30)]) hx hb dX7_chain_98 hl (k := 5) rfl (by rw [e_x6_40]; rfl) (by decide) rfl (fun ls hl => ?_)
          refine lv_goto (tgt := 70) hx hb dX7_chain_101 (by decide) ?_
          exact ih u_39 x6_40 _ _ _ hf hP hS (lv_sub hl [2, 3, 4, 5, 1, 0] rfl)
  have L57 : ∀ (x2_23 : Int32) (sm_26 : GS) (n : Nat) (x3_24 : Int32) (x4_25 : Int32) (H : Heap) (locs : List Loc) (ls : Array Slot), f_X7_chain_L57 x2_23 sm_26 n x3_24 x4_25 = some (rv, sm_z) → va_P γ.1 vwCl (wM γ am sm_26 sq) H → va_S A s.heap H locs → lv_has ls 7 [(0, .ref (am 0)), (2, .int x2_23), (3, .int x3_24), (4, .int x4_25)] → W p l e (rmK 3 64) s m ([.ref (am 0), .int x1, .int x2] : List Value).toArray below meth c H locs 0 0 (MQ below (KQ γ A (some (.int rv)) (wM γ am sm_z sq)) ([.ref (am 0), .int x1, .int x2] : List Value).toArray s 0 0 A) (F0 m 57 ls []) := by
    intro x2_23 sm_26
    intro n
    induction n with
    | zero =>
      intro x3_24 x4_25 H locs ls hf
      have hf : none = some _ := hf
      cases hf
    | succ n ih =>
      intro x3_24 x4_25 H locs ls hf hP hS hl
      rw [f_X7_chain_L57.eq_2] at hf
      refine lv_iload hx hb dX7_chain_57 (lv_at hl 3 rfl) ?_
      refine lv_bipush (v := 10) hx hb dX7_chain_59 (by decide) ?_
      refine lv_icmp_ge (tgt := 125) hx hb dX7_chain_61 (by decide) (fun c_27 => ?_) (fun c_27 => ?_)
      · replace hf := ite_p c_27 hf
        refine lv_iconst (v := -1) hx hb dX7_chain_125 (by decide) ?_
        obtain ⟨rfl, rfl⟩ := rt2 hf
        exact kt_iret C0 hP hS dX7_chain_126
      · replace hf := ite_n c_27 hf
        refine lv_iload_n hx hb dX7_chain_64 rfl (lv_at hl 2 rfl) ?_
        refine lv_istore (lv' := [(5, .int x3_24), (0, .ref (am 0)), (2, .int x2_23), (3, .int x3_24), (4, .int x4_25)]) hx hb dX7_chain_65 hl (by decide) rfl (fun ls hl => ?_)
        refine lv_iconst (v := 0) hx hb dX7_chain_67 (by decide) ?_
        refine lv_istore (lv' := [(6, .int (0 : Int32)), (5, .int x3_24), (0, .ref (am 0)), (2, .int x2_23), (3, .int x3_24), (4, .int x4_25)]) hx hb dX7_chain_68 hl (by decide) rfl (fun ls hl => ?_)
        refine L70 x2_23 x3_24 x4_25 sm_26 _ (fun x5_41 H locs ls hf hP hS hl => ?_) FU x3_24 (0 : Int32) _ _ _ hf hP hS (lv_sub hl [2, 3, 4, 5, 1, 0] rfl)
        refine lv_iload hx hb dX7_chain_104 (lv_at hl 3 rfl) ?_
        refine lv_iload_n hx hb dX7_chain_106 rfl (lv_at hl 1 rfl) ?_
        obtain ⟨r_42, hg_43, hf⟩ := bd_of hf
        refine kt_SF (As := [.int x5_41, .int x2_23]) (rest := []) (st1 := [.int r_42]) (wc' := wM γ am sm_26 sq) C0 (c_X7_has l γ hg_43) (cxS (nA := 2) hts goodU U1140 U1141 U91 U1142 (by decide +kernel) ⟨Nat.le_of_ble_eq_true rfl, Nat.le_of_ble_eq_true rfl⟩) hP (hD _ _) hS hl dX7_chain_107 foc_nil rfl (Nat.le_of_ble_eq_true rfl) rfl rfl (fun H locs hP hS => ?_)
        refine lv_if_eq (tgt := 116) hx hb dX7_chain_110 (by decide) (fun c_44 => ?_) (fun c_44 => ?_)
        · replace hf := ite_p c_44 hf
          refine lv_iload hx hb dX7_chain_116 (lv_at hl 3 rfl) ?_
          refine lv_istore_n (lv' := [(3, .int x5_41), (0, .ref (am 0)), (2, .int x2_23), (4, .int x4_25), (5, .int x5_41)]) hx hb dX7_chain_118 rfl hl (by decide) rfl (fun ls hl => ?_)
          obtain ⟨x4_45, e_x4_45⟩ : ∃ y : Int32, y = x4_25 + (1 : Int32) := ⟨_, rfl⟩
          replace hf := nm_y hf e_x4_45
          refine lv_iinc (v := x4_45) (lv' := [(4, .int x4_45), (3, .int x5_41), (0, .ref (am 0)), (2, .int x2_23), (5, .int x5_41)]) hx hb dX7_chain_119 hl (k := 3) rfl (by rw [e_x4_45]; rfl) (by decide) rfl (fun ls hl => ?_)
          refine lv_goto (tgt := 57) hx hb dX7_chain_122 (by decide) ?_
          exact ih x5_41 x4_45 _ _ _ hf hP hS (lv_sub hl [2, 3, 1, 0] rfl)
        · replace hf := ite_n c_44 hf
          refine lv_iload hx hb dX7_chain_113 (lv_at hl 2 rfl) ?_
          obtain ⟨rfl, rfl⟩ := rt2 hf
          exact kt_iret C0 hP hS dX7_chain_115
  unfold f_X7_chain at hf
  refine lv_aload_n hx hb dX7_chain_0 rfl (lv_at hl 0 rfl) ?_
  refine lv_iload_n hx hb dX7_chain_1 rfl (lv_at hl 1 rfl) ?_
  obtain ⟨r_1, hg_2, hf⟩ := bd_of hf
  refine kt_V0 (As := [.int x1]) (rest := []) (st1 := [.int r_1]) (b := am 0) C0 (c_X7_isPeak l γ am hg_2) (cxV (nA := 1) hts goodU U1110 U1112 U33 U91 U1113 (by decide +kernel) ⟨Nat.le_of_ble_eq_true rfl, Nat.le_of_ble_eq_true rfl⟩) hP (hD _ _) hS hl dX7_chain_2 0 7 rfl rfl rfl rfl (Nat.le_of_ble_eq_true rfl) rfl rfl (fun H locs hP hS => ?_)
  refine lv_if_eq (tgt := 16) hx hb dX7_chain_5 (by decide) (fun c_3 => ?_) (fun c_3 => ?_)
  · replace hf := ite_p c_3 hf
    exact J16 sm _ _ _ hf hP hS (lv_sub hl [0] rfl)
  · replace hf := ite_n c_3 hf
    refine lv_aload_n hx hb dX7_chain_8 rfl (lv_at hl 0 rfl) ?_
    refine lv_iload_n hx hb dX7_chain_9 rfl (lv_at hl 2 rfl) ?_
    obtain ⟨r_8, hg_9, hf⟩ := bd_of hf
    refine kt_V0 (As := [.int x2]) (rest := []) (st1 := [.int r_8]) (b := am 0) C0 (c_X7_isPeak l γ am hg_9) (cxV (nA := 1) hts goodU U1110 U1112 U33 U91 U1113 (by decide +kernel) ⟨Nat.le_of_ble_eq_true rfl, Nat.le_of_ble_eq_true rfl⟩) hP (hD _ _) hS hl dX7_chain_10 0 7 rfl rfl rfl rfl (Nat.le_of_ble_eq_true rfl) rfl rfl (fun H locs hP hS => ?_)
    refine lv_if_ne (tgt := 22) hx hb dX7_chain_13 (by decide) (fun c_10 => ?_) (fun c_10 => ?_)
    · replace hf := ite_n c_10 hf
      refine lv_iload_n hx hb dX7_chain_22 rfl (lv_at hl 1 rfl) ?_
      refine lv_iload_n hx hb dX7_chain_23 rfl (lv_at hl 2 rfl) ?_
      refine lv_icmp_eq (tgt := 43) hx hb dX7_chain_24 (by decide) (fun c_11 => ?_) (fun c_11 => ?_)
      · replace hf := ite_p c_11 hf
        exact J43 sm _ _ _ hf hP hS (lv_sub hl [0] rfl)
      · replace hf := ite_n c_11 hf
        refine lv_aload_n hx hb dX7_chain_27 rfl (lv_at hl 0 rfl) ?_
        refine lv_iload_n hx hb dX7_chain_28 rfl (lv_at hl 1 rfl) ?_
        obtain ⟨r_16, hg_17, hf⟩ := bd_of hf
        refine kt_V0 (As := [.int x1]) (rest := []) (st1 := [.int r_16]) (b := am 0) C0 (c_X7_isThere l γ am hg_17) (cxV (nA := 1) hts goodU U1268 U1270 U57 U91 U1271 (by decide +kernel) ⟨Nat.le_of_ble_eq_true rfl, Nat.le_of_ble_eq_true rfl⟩) hP (hD _ _) hS hl dX7_chain_29 0 7 rfl rfl rfl rfl (Nat.le_of_ble_eq_true rfl) rfl rfl (fun H locs hP hS => ?_)
        refine lv_if_eq (tgt := 43) hx hb dX7_chain_32 (by decide) (fun c_18 => ?_) (fun c_18 => ?_)
        · replace hf := ite_p c_18 hf
          exact J43 sm _ _ _ hf hP hS (lv_sub hl [0] rfl)
        · replace hf := ite_n c_18 hf
          refine lv_aload_n hx hb dX7_chain_35 rfl (lv_at hl 0 rfl) ?_
          refine lv_iload_n hx hb dX7_chain_36 rfl (lv_at hl 2 rfl) ?_
          obtain ⟨r_19, hg_20, hf⟩ := bd_of hf
          refine kt_V0 (As := [.int x2]) (rest := []) (st1 := [.int r_19]) (b := am 0) C0 (c_X7_isThere l γ am hg_20) (cxV (nA := 1) hts goodU U1268 U1270 U57 U91 U1271 (by decide +kernel) ⟨Nat.le_of_ble_eq_true rfl, Nat.le_of_ble_eq_true rfl⟩) hP (hD _ _) hS hl dX7_chain_37 0 7 rfl rfl rfl rfl (Nat.le_of_ble_eq_true rfl) rfl rfl (fun H locs hP hS => ?_)
          refine lv_if_ne (tgt := 50) hx hb dX7_chain_40 (by decide) (fun c_21 => ?_) (fun c_21 => ?_)
          · replace hf := ite_n c_21 hf
            refine lv_iconst (v := 1) hx hb dX7_chain_50 (by decide) ?_
            refine lv_iload_n hx hb dX7_chain_51 rfl (lv_at hl 1 rfl) ?_
            refine lv_ishl hx hb dX7_chain_52 ?_
            refine lv_topi (fun u_22 e_u_22 => ?_)
            replace hf := nm_y hf e_u_22
            refine lv_istore_n (lv' := [(3, .int u_22), (0, .ref (am 0)), (1, .int x1), (2, .int x2)]) hx hb dX7_chain_53 rfl hl (by decide) rfl (fun ls hl => ?_)
            refine lv_iconst (v := 0) hx hb dX7_chain_54 (by decide) ?_
            refine lv_istore (lv' := [(4, .int (0 : Int32)), (3, .int u_22), (0, .ref (am 0)), (1, .int x1), (2, .int x2)]) hx hb dX7_chain_55 hl (by decide) rfl (fun ls hl => ?_)
            exact L57 x2 sm FU u_22 (0 : Int32) _ _ _ hf hP hS (lv_sub hl [2, 4, 1, 0] rfl)
          · replace hf := ite_p c_21 hf
            exact J43 sm _ _ _ hf hP hS (lv_sub hl [0] rfl)
    · replace hf := ite_p c_10 hf
      exact J16 sm _ _ _ hf hP hS (lv_sub hl [0] rfl)
set_option maxHeartbeats 4000000 in
set_option maxRecDepth 100000 in
theorem c_X7_poorest (l : Launch) (γ : Gm) (am : Nat → Nat) {sm : GS} {sq : Nat → Int64} {rv : Int32} {sm_z : GS} (hf : f_X7_poorest sm = some (rv, sm_z)) : Kt l γ yX7_poorest (Cond.code yX7_poorest cX7_poorest 6 (some .int) :: U) 4 91 [.ref (am 0)] (wM γ am sm sq) (some (.int rv)) (wM γ am sm_z sq) := by
  refine Kt.of (by decide) rfl (Nat.le_of_ble_eq_true rfl) rfl ?_
  intro p e s m below meth c A ls C0 hP hD0 hS hl
  obtain ⟨hx, hb, hml, hown, hts, hr, hlocks, hK, hE, hA⟩ := id C0
  have hU : ∀ w ∈ U, w.before _ s = true := fun w h => hts w (List.mem_cons_of_mem _ h)
  have hD : ∀ (sm : GS) (sq : Nat → Int64), va_D A (wM γ am sm sq) := fun _ _ => hD0.fst rfl
  have hl : lv_has ls 6 [(0, .ref (am 0))] := hl
  have L20 : ∀ (x1_6 : Int32) (x2_7 : Int32) (x3_8 : Int32) (K50 : Int32 → GS → Option (Int32 × GS)) (HK50 : ∀ (z4 : Int32) (zsm : GS) (H : Heap) (locs : List Loc) (ls : Array Slot), K50 z4 zsm = some (rv, sm_z) → va_P γ.1 vwCl (wM γ am zsm sq) H → va_S A s.heap H locs → lv_has ls 6 [(0, .ref (am 0)), (1, .int x1_6), (2, .int x2_7), (3, .int x3_8), (4, .int z4)] → W p l e (rmK 4 91) s m ([.ref (am 0)] : List Value).toArray below meth c H locs 0 0 (MQ below (KQ γ A (some (.int rv)) (wM γ am sm_z sq)) ([.ref (am 0)] : List Value).toArray s 0 0 A) (F0 m 50 ls [])) (n : Nat) (x4_9 : Int32) (x5_10 : Int32) (sm_11 : GS) (H : Heap) (locs : List Loc) (ls : Array Slot), f_X7_poorest_L20 x3_8 K50 n x4_9 x5_10 sm_11 = some (rv, sm_z) → va_P γ.1 vwCl (wM γ am sm_11 sq) H → va_S A s.heap H locs → lv_has ls 6 [(0, .ref (am 0)), (1, .int x1_6), (2, .int x2_7), (3, .int x3_8), (4, .int x4_9), (5, .int x5_10)] → W p l e (rmK 4 91) s m ([.ref (am 0)] : List Value).toArray below meth c H locs 0 0 (MQ below (KQ γ A (some (.int rv)) (wM γ am sm_z sq)) ([.ref (am 0)] : List Value).toArray s 0 0 A) (F0 m 20 ls []) := by
    intro x1_6 x2_7 x3_8 K50 HK50
    intro n
    induction n with
    | zero =>
      intro x4_9 x5_10 sm_11 H locs ls hf
      have hf : none = some _ := hf
      cases hf
    | succ n ih =>
      intro x4_9 x5_10 sm_11 H locs ls hf hP hS hl
      rw [f_X7_poorest_L20.eq_2] at hf
      refine lv_iload hx hb dX7_poorest_20 (lv_at hl 5 rfl) ?_
      refine lv_bipush (v := 100) hx hb dX7_poorest_22 (by decide) ?_
      refine lv_icmp_ge (tgt := 50) hx hb dX7_poorest_24 (by decide) (fun c_12 => ?_) (fun c_12 => ?_)
      · replace hf := ite_p c_12 hf
        exact HK50 x4_9 sm_11 _ _ _ hf hP hS (lv_sub hl [0, 1, 2, 3, 4] rfl)
      · replace hf := ite_n c_12 hf
        refine lv_aload_n hx hb dX7_poorest_27 rfl (lv_at hl 0 rfl) ?_
        refine lv_iload_n hx hb dX7_poorest_28 rfl (lv_at hl 3 rfl) ?_
        refine lv_aload_n hx hb dX7_poorest_29 rfl (lv_at hl 0 rfl) ?_
        refine lv_iload hx hb dX7_poorest_30 (lv_at hl 5 rfl) ?_
        obtain ⟨r_13, sm_14, hg_15, hf⟩ := bd2_of hf
        refine kt_V0 (As := [.int x5_10]) (rest := [.int x3_8, .ref (am 0)]) (st1 := [.int r_13, .int x3_8, .ref (am 0)]) (b := am 0) C0 (c_X7_blacksBehind l γ am hg_15) (cxV (nA := 1) hts goodU U1303 U1305 U62 U91 U1306 (by decide +kernel) ⟨Nat.le_of_ble_eq_true rfl, Nat.le_of_ble_eq_true rfl⟩) hP (hD _ _) hS hl dX7_poorest_32 0 7 rfl rfl rfl rfl (Nat.le_of_ble_eq_true rfl) rfl rfl (fun H locs hP hS => ?_)
        obtain ⟨r_16, hg_17, hf⟩ := bd_of hf
        refine kt_V0 (As := [.int x3_8, .int r_13]) (rest := []) (st1 := [.int r_16]) (b := am 0) C0 (c_X7_gives l γ am hg_17) (cxV (nA := 2) hts goodU U1220 U1222 U48 U91 U1223 (by decide +kernel) ⟨Nat.le_of_ble_eq_true rfl, Nat.le_of_ble_eq_true rfl⟩) hP (hD _ _) hS hl dX7_poorest_35 0 7 rfl rfl rfl rfl (Nat.le_of_ble_eq_true rfl) rfl rfl (fun H locs hP hS => ?_)
        refine lv_if_ne (tgt := 44) hx hb dX7_poorest_38 (by decide) (fun c_18 => ?_) (fun c_18 => ?_)
        · replace hf := ite_n c_18 hf
          obtain ⟨x5_19, e_x5_19⟩ : ∃ y : Int32, y = x5_10 + (1 : Int32) := ⟨_, rfl⟩
          replace hf := nm_y hf e_x5_19
          refine lv_iinc (v := x5_19) (lv' := [(5, .int x5_19), (0, .ref (am 0)), (1, .int x1_6), (2, .int x2_7), (3, .int x3_8), (4, .int x4_9)]) hx hb dX7_poorest_44 hl (k := 5) rfl (by rw [e_x5_19]; rfl) (by decide) rfl (fun ls hl => ?_)
          refine lv_goto (tgt := 20) hx hb dX7_poorest_47 (by decide) ?_
          exact ih x4_9 x5_19 sm_14 _ _ _ hf hP hS (lv_sub hl [1, 2, 3, 4, 5, 0] rfl)
        · replace hf := ite_p c_18 hf
          obtain ⟨x4_20, e_x4_20⟩ : ∃ y : Int32, y = x4_9 + (1 : Int32) := ⟨_, rfl⟩
          replace hf := nm_y hf e_x4_20
          refine lv_iinc (v := x4_20) (lv' := [(4, .int x4_20), (0, .ref (am 0)), (1, .int x1_6), (2, .int x2_7), (3, .int x3_8), (5, .int x5_10)]) hx hb dX7_poorest_41 hl (k := 4) rfl (by rw [e_x4_20]; rfl) (by decide) rfl (fun ls hl => ?_)
          obtain ⟨x5_21, e_x5_21⟩ : ∃ y : Int32, y = x5_10 + (1 : Int32) := ⟨_, rfl⟩
          replace hf := nm_y hf e_x5_21
          refine lv_iinc (v := x5_21) (lv' := [(5, .int x5_21), (4, .int x4_20), (0, .ref (am 0)), (1, .int x1_6), (2, .int x2_7), (3, .int x3_8)]) hx hb dX7_poorest_44 hl (k := 5) rfl (by rw [e_x5_21]; rfl) (by decide) rfl (fun ls hl => ?_)
          refine lv_goto (tgt := 20) hx hb dX7_poorest_47 (by decide) ?_
          exact ih x4_20 x5_21 sm_14 _ _ _ hf hP hS (lv_sub hl [2, 3, 4, 5, 1, 0] rfl)
  have L6 : ∀ (n : Nat) (x1_1 : Int32) (x2_2 : Int32) (x3_3 : Int32) (sm_4 : GS) (H : Heap) (locs : List Loc) (ls : Array Slot), f_X7_poorest_L6 n x1_1 x2_2 x3_3 sm_4 = some (rv, sm_z) → va_P γ.1 vwCl (wM γ am sm_4 sq) H → va_S A s.heap H locs → lv_has ls 6 [(0, .ref (am 0)), (1, .int x1_1), (2, .int x2_2), (3, .int x3_3)] → W p l e (rmK 4 91) s m ([.ref (am 0)] : List Value).toArray below meth c H locs 0 0 (MQ below (KQ γ A (some (.int rv)) (wM γ am sm_z sq)) ([.ref (am 0)] : List Value).toArray s 0 0 A) (F0 m 6 ls []) := by
    intro n
    induction n with
    | zero =>
      intro x1_1 x2_2 x3_3 sm_4 H locs ls hf
      have hf : none = some _ := hf
      cases hf
    | succ n ih =>
      intro x1_1 x2_2 x3_3 sm_4 H locs ls hf hP hS hl
      rw [f_X7_poorest_L6.eq_2] at hf
      refine lv_iload_n hx hb dX7_poorest_6 rfl (lv_at hl 3 rfl) ?_
      refine lv_aload_n hx hb dX7_poorest_7 rfl (lv_at hl 0 rfl) ?_
      refine va_get (D := γ.1) (ci := 7) (v := .int (sm_4 0 14)) (C := RX7) (T := TX7) (N := 35) hx hb hU uin7 hown hK hP 0 rfl rfl 14 (by decide) (hU _ U983) (fun _ h9 => h9) rfl dX7_poorest_8 ?_
      refine lv_icmp_ge (tgt := 70) hx hb dX7_poorest_11 (by decide) (fun c_5 => ?_) (fun c_5 => ?_)
      · replace hf := ite_p c_5 hf
        refine lv_iload_n hx hb dX7_poorest_70 rfl (lv_at hl 1 rfl) ?_
        obtain ⟨rfl, rfl⟩ := rt2 hf
        exact kt_iret C0 hP hS dX7_poorest_71
      · replace hf := ite_n c_5 hf
        refine lv_iconst (v := 0) hx hb dX7_poorest_14 (by decide) ?_
        refine lv_istore (lv' := [(4, .int (0 : Int32)), (0, .ref (am 0)), (1, .int x1_1), (2, .int x2_2), (3, .int x3_3)]) hx hb dX7_poorest_15 hl (by decide) rfl (fun ls hl => ?_)
        refine lv_iconst (v := 0) hx hb dX7_poorest_17 (by decide) ?_
        refine lv_istore (lv' := [(5, .int (0 : Int32)), (4, .int (0 : Int32)), (0, .ref (am 0)), (1, .int x1_1), (2, .int x2_2), (3, .int x3_3)]) hx hb dX7_poorest_18 hl (by decide) rfl (fun ls hl => ?_)
        refine L20 x1_1 x2_2 x3_3 _ (fun x4_22 sm_23 H locs ls hf hP hS hl => ?_) FU (0 : Int32) (0 : Int32) sm_4 _ _ _ hf hP hS (lv_sub hl [2, 3, 4, 5, 1, 0] rfl)
        refine lv_iload hx hb dX7_poorest_50 (lv_at hl 4 rfl) ?_
        refine lv_iload_n hx hb dX7_poorest_52 rfl (lv_at hl 2 rfl) ?_
        refine lv_icmp_gt (tgt := 59) hx hb dX7_poorest_53 (by decide) (fun c_24 => ?_) (fun c_24 => ?_)
        · replace hf := ite_p c_24 hf
          refine lv_iload hx hb dX7_poorest_59 (lv_at hl 4 rfl) ?_
          refine lv_istore_n (lv' := [(2, .int x4_22), (0, .ref (am 0)), (1, .int x1_1), (3, .int x3_3), (4, .int x4_22)]) hx hb dX7_poorest_61 rfl hl (by decide) rfl (fun ls hl => ?_)
          refine lv_iload_n hx hb dX7_poorest_62 rfl (lv_at hl 3 rfl) ?_
          refine lv_istore_n (lv' := [(1, .int x3_3), (2, .int x4_22), (0, .ref (am 0)), (3, .int x3_3), (4, .int x4_22)]) hx hb dX7_poorest_63 rfl hl (by decide) rfl (fun ls hl => ?_)
          obtain ⟨x3_25, e_x3_25⟩ : ∃ y : Int32, y = x3_3 + (1 : Int32) := ⟨_, rfl⟩
          replace hf := nm_y hf e_x3_25
          refine lv_iinc (v := x3_25) (lv' := [(3, .int x3_25), (1, .int x3_3), (2, .int x4_22), (0, .ref (am 0)), (4, .int x4_22)]) hx hb dX7_poorest_64 hl (k := 3) rfl (by rw [e_x3_25]; rfl) (by decide) rfl (fun ls hl => ?_)
          refine lv_goto (tgt := 6) hx hb dX7_poorest_67 (by decide) ?_
          exact ih x3_3 x4_22 x3_25 sm_23 _ _ _ hf hP hS (lv_sub hl [3, 1, 2, 0] rfl)
        · replace hf := ite_n c_24 hf
          refine lv_goto (tgt := 64) hx hb dX7_poorest_56 (by decide) ?_
          obtain ⟨x3_26, e_x3_26⟩ : ∃ y : Int32, y = x3_3 + (1 : Int32) := ⟨_, rfl⟩
          replace hf := nm_y hf e_x3_26
          refine lv_iinc (v := x3_26) (lv' := [(3, .int x3_26), (0, .ref (am 0)), (1, .int x1_1), (2, .int x2_2), (4, .int x4_22)]) hx hb dX7_poorest_64 hl (k := 3) rfl (by rw [e_x3_26]; rfl) (by decide) rfl (fun ls hl => ?_)
          refine lv_goto (tgt := 6) hx hb dX7_poorest_67 (by decide) ?_
          exact ih x1_1 x2_2 x3_26 sm_23 _ _ _ hf hP hS (lv_sub hl [1, 2, 3, 0] rfl)
  unfold f_X7_poorest at hf
  refine lv_iconst (v := 0) hx hb dX7_poorest_0 (by decide) ?_
  refine lv_istore_n (lv' := [(1, .int (0 : Int32)), (0, .ref (am 0))]) hx hb dX7_poorest_1 rfl hl (by decide) rfl (fun ls hl => ?_)
  refine lv_iconst (v := -1) hx hb dX7_poorest_2 (by decide) ?_
  refine lv_istore_n (lv' := [(2, .int (-1 : Int32)), (1, .int (0 : Int32)), (0, .ref (am 0))]) hx hb dX7_poorest_3 rfl hl (by decide) rfl (fun ls hl => ?_)
  refine lv_iconst (v := 0) hx hb dX7_poorest_4 (by decide) ?_
  refine lv_istore_n (lv' := [(3, .int (0 : Int32)), (2, .int (-1 : Int32)), (1, .int (0 : Int32)), (0, .ref (am 0))]) hx hb dX7_poorest_5 rfl hl (by decide) rfl (fun ls hl => ?_)
  exact L6 FU (0 : Int32) (-1 : Int32) (0 : Int32) sm _ _ _ hf hP hS (lv_sub hl [3, 2, 1, 0] rfl)
set_option maxHeartbeats 4000000 in
set_option maxRecDepth 100000 in
theorem c_X7_saved (l : Launch) (γ : Gm) (am : Nat → Nat) {sm : GS} {sq : Nat → Int64} {rv : Int32} {sm_z : GS} (hf : f_X7_saved sm = some (rv, sm_z)) : Kt l γ yX7_saved (Cond.code yX7_saved cX7_saved 5 (some .int) :: U) 5 115 [.ref (am 0)] (wM γ am sm sq) (some (.int rv)) (wM γ am sm_z sq) := by
  refine Kt.of (by decide) rfl (Nat.le_of_ble_eq_true rfl) rfl ?_
  intro p e s m below meth c A ls C0 hP hD0 hS hl
  obtain ⟨hx, hb, hml, hown, hts, hr, hlocks, hK, hE, hA⟩ := id C0
  have hU : ∀ w ∈ U, w.before _ s = true := fun w h => hts w (List.mem_cons_of_mem _ h)
  have hD : ∀ (sm : GS) (sq : Nat → Int64), va_D A (wM γ am sm sq) := fun _ _ => hD0.fst rfl
  have hl : lv_has ls 5 [(0, .ref (am 0))] := hl
  have L25 : ∀ (x1_8 : Int32) (x2_9 : Int32) (x3_10 : Int32) (K55 : GS → Option (Int32 × GS)) (HK55 : ∀ (zsm : GS) (H : Heap) (locs : List Loc) (ls : Array Slot), K55 zsm = some (rv, sm_z) → va_P γ.1 vwCl (wM γ am zsm sq) H → va_S A s.heap H locs → lv_has ls 5 [(0, .ref (am 0)), (1, .int x1_8), (2, .int x2_9), (3, .int x3_10)] → W p l e (rmK 5 115) s m ([.ref (am 0)] : List Value).toArray below meth c H locs 0 0 (MQ below (KQ γ A (some (.int rv)) (wM γ am sm_z sq)) ([.ref (am 0)] : List Value).toArray s 0 0 A) (F0 m 55 ls [])) (n : Nat) (x4_11 : Int32) (sm_12 : GS) (H : Heap) (locs : List Loc) (ls : Array Slot), f_X7_saved_L25 x3_10 K55 n x4_11 sm_12 = some (rv, sm_z) → va_P γ.1 vwCl (wM γ am sm_12 sq) H → va_S A s.heap H locs → lv_has ls 5 [(0, .ref (am 0)), (1, .int x1_8), (2, .int x2_9), (3, .int x3_10), (4, .int x4_11)] → W p l e (rmK 5 115) s m ([.ref (am 0)] : List Value).toArray below meth c H locs 0 0 (MQ below (KQ γ A (some (.int rv)) (wM γ am sm_z sq)) ([.ref (am 0)] : List Value).toArray s 0 0 A) (F0 m 25 ls []) := by
    intro x1_8 x2_9 x3_10 K55 HK55
    intro n
    induction n with
    | zero =>
      intro x4_11 sm_12 H locs ls hf
      have hf : none = some _ := hf
      cases hf
    | succ n ih =>
      intro x4_11 sm_12 H locs ls hf hP hS hl
      rw [f_X7_saved_L25.eq_2] at hf
      refine lv_iload hx hb dX7_saved_25 (lv_at hl 4 rfl) ?_
      refine lv_aload_n hx hb dX7_saved_27 rfl (lv_at hl 0 rfl) ?_
      refine va_get (D := γ.1) (ci := 7) (v := .int (sm_12 0 14)) (C := RX7) (T := TX7) (N := 35) hx hb hU uin7 hown hK hP 0 rfl rfl 14 (by decide) (hU _ U983) (fun _ h9 => h9) rfl dX7_saved_28 ?_
      refine lv_icmp_ge (tgt := 55) hx hb dX7_saved_31 (by decide) (fun c_13 => ?_) (fun c_13 => ?_)
      · replace hf := ite_p c_13 hf
        exact HK55 sm_12 _ _ _ hf hP hS (lv_sub hl [0, 1, 2, 3] rfl)
      · replace hf := ite_n c_13 hf
        refine lv_aload_n hx hb dX7_saved_34 rfl (lv_at hl 0 rfl) ?_
        refine va_get (D := γ.1) (ci := 7) (v := .ref (am 17)) (C := RX7) (T := TX7) (N := 35) hx hb hU uin7 hown hK hP 0 rfl rfl 16 (by decide) (hU _ U985) (fun _ h9 => h9) rfl dX7_saved_35 ?_
        refine lv_iload hx hb dX7_saved_38 (lv_at hl 4 rfl) ?_
        refine lv_dup2_11 hx hb dX7_saved_40 rfl rfl ?_
        obtain ⟨g_14, hf⟩ := gd_of hf
        refine va_iald hx hb hK hP 14 0 rfl rfl (inB_vp g_14) dX7_saved_41 ?_
        refine lv_iconst (v := 1) hx hb dX7_saved_42 (by decide) ?_
        refine lv_iload_n hx hb dX7_saved_43 rfl (lv_at hl 3 rfl) ?_
        refine lv_ishl hx hb dX7_saved_44 ?_
        refine lv_iconst (v := -1) hx hb dX7_saved_45 (by decide) ?_
        refine lv_ixor hx hb dX7_saved_46 ?_
        refine lv_iand hx hb dX7_saved_47 ?_
        refine lv_topi (fun u_15 e_u_15 => ?_)
        replace hf := nm_y hf e_u_15
        obtain ⟨g_16, hf⟩ := gd_of hf
        refine va_iast hx hb hK hP (hD _ _) hS 14 0 rfl rfl (inB_vp g_16) dX7_saved_48 (fun H locs hP _ hS => ?_)
        obtain ⟨sm_17, e_sm_17, hf⟩ := nm_of hf
        replace hP : va_P γ.1 vwCl (wM γ am sm_17 sq) H := by rw [e_sm_17]; exact hP
        obtain ⟨x4_18, e_x4_18⟩ : ∃ y : Int32, y = x4_11 + (1 : Int32) := ⟨_, rfl⟩
        replace hf := nm_y hf e_x4_18
        refine lv_iinc (v := x4_18) (lv' := [(4, .int x4_18), (0, .ref (am 0)), (1, .int x1_8), (2, .int x2_9), (3, .int x3_10)]) hx hb dX7_saved_49 hl (k := 4) rfl (by rw [e_x4_18]; rfl) (by decide) rfl (fun ls hl => ?_)
        refine lv_goto (tgt := 25) hx hb dX7_saved_52 (by decide) ?_
        exact ih x4_18 sm_17 _ _ _ hf hP hS (lv_sub hl [1, 2, 3, 4, 0] rfl)
  have L6 : ∀ (n : Nat) (x1_1 : Int32) (x2_2 : Int32) (x3_3 : Int32) (sm_4 : GS) (H : Heap) (locs : List Loc) (ls : Array Slot), f_X7_saved_L6 n x1_1 x2_2 x3_3 sm_4 = some (rv, sm_z) → va_P γ.1 vwCl (wM γ am sm_4 sq) H → va_S A s.heap H locs → lv_has ls 5 [(0, .ref (am 0)), (1, .int x1_1), (2, .int x2_2), (3, .int x3_3)] → W p l e (rmK 5 115) s m ([.ref (am 0)] : List Value).toArray below meth c H locs 0 0 (MQ below (KQ γ A (some (.int rv)) (wM γ am sm_z sq)) ([.ref (am 0)] : List Value).toArray s 0 0 A) (F0 m 6 ls []) := by
    intro n
    induction n with
    | zero =>
      intro x1_1 x2_2 x3_3 sm_4 H locs ls hf
      have hf : none = some _ := hf
      cases hf
    | succ n ih =>
      intro x1_1 x2_2 x3_3 sm_4 H locs ls hf hP hS hl
      rw [f_X7_saved_L6.eq_2] at hf
      refine lv_iload_n hx hb dX7_saved_6 rfl (lv_at hl 3 rfl) ?_
      refine lv_aload_n hx hb dX7_saved_7 rfl (lv_at hl 0 rfl) ?_
      refine va_get (D := γ.1) (ci := 7) (v := .int (sm_4 0 3)) (C := RX7) (T := TX7) (N := 35) hx hb hU uin7 hown hK hP 0 rfl rfl 3 (by decide) (hU _ U972) (fun _ h9 => h9) rfl dX7_saved_8 ?_
      refine lv_icmp_ge (tgt := 91) hx hb dX7_saved_11 (by decide) (fun c_5 => ?_) (fun c_5 => ?_)
      · replace hf := ite_p c_5 hf
        refine lv_iload_n hx hb dX7_saved_91 rfl (lv_at hl 1 rfl) ?_
        obtain ⟨rfl, rfl⟩ := rt2 hf
        exact kt_iret C0 hP hS dX7_saved_92
      · replace hf := ite_n c_5 hf
        refine lv_aload_n hx hb dX7_saved_14 rfl (lv_at hl 0 rfl) ?_
        refine lv_aload_n hx hb dX7_saved_15 rfl (lv_at hl 0 rfl) ?_
        refine va_get (D := γ.1) (ci := 7) (v := .ref (am 27)) (C := RX7) (T := TX7) (N := 35) hx hb hU uin7 hown hK hP 0 rfl rfl 26 (by decide) (hU _ U995) (fun _ h9 => h9) rfl dX7_saved_16 ?_
        obtain ⟨sm_6, hg_7, hf⟩ := bd_of hf
        refine kt_V0 (As := [.ref (am 27)]) (rest := []) (st1 := []) (b := am 0) C0 (c_X7_keep_27 l γ am hg_7) (cxV (nA := 1) hts goodU U1228 U1230 U49 U91 U1231 (by decide +kernel) ⟨Nat.le_of_ble_eq_true rfl, Nat.le_of_ble_eq_true rfl⟩) hP (hD _ _) hS hl dX7_saved_19 0 7 rfl rfl rfl rfl (Nat.le_of_ble_eq_true rfl) rfl rfl (fun H locs hP hS => ?_)
        refine lv_iconst (v := 0) hx hb dX7_saved_22 (by decide) ?_
        refine lv_istore (lv' := [(4, .int (0 : Int32)), (0, .ref (am 0)), (1, .int x1_1), (2, .int x2_2), (3, .int x3_3)]) hx hb dX7_saved_23 hl (by decide) rfl (fun ls hl => ?_)
        refine L25 x1_1 x2_2 x3_3 _ (fun sm_19 H locs ls hf hP hS hl => ?_) FU (0 : Int32) sm_6 _ _ _ hf hP hS (lv_sub hl [1, 2, 3, 4, 0] rfl)
        refine lv_aload_n hx hb dX7_saved_55 rfl (lv_at hl 0 rfl) ?_
        refine lv_bipush (v := 100) hx hb dX7_saved_56 (by decide) ?_
        obtain ⟨r_20, sm_21, hg_22, hf⟩ := bd2_of hf
        refine kt_V0 (As := [.int (100 : Int32)]) (rest := []) (st1 := [.int r_20]) (b := am 0) C0 (c_X7_yieldOf l γ am hg_22) (cxV (nA := 1) hts goodU U1323 U1325 U64 U91 U1326 (by decide +kernel) ⟨Nat.le_of_ble_eq_true rfl, Nat.le_of_ble_eq_true rfl⟩) hP (hD _ _) hS hl dX7_saved_58 0 7 rfl rfl rfl rfl (Nat.le_of_ble_eq_true rfl) rfl rfl (fun H locs hP hS => ?_)
        refine lv_istore (lv' := [(4, .int r_20), (0, .ref (am 0)), (1, .int x1_1), (2, .int x2_2), (3, .int x3_3)]) hx hb dX7_saved_61 hl (by decide) rfl (fun ls hl => ?_)
        refine lv_aload_n hx hb dX7_saved_63 rfl (lv_at hl 1 rfl) ?_
        refine lv_aload_n hx hb dX7_saved_64 rfl (lv_at hl 1 rfl) ?_
        refine va_get (D := γ.1) (ci := 7) (v := .ref (am 27)) (C := RX7) (T := TX7) (N := 35) hx hb hU uin7 hown hK hP 0 rfl rfl 26 (by decide) (hU _ U995) (fun _ h9 => h9) rfl dX7_saved_65 ?_
        obtain ⟨sm_23, hg_24, hf⟩ := bd_of hf
        refine kt_V0 (As := [.ref (am 27)]) (rest := []) (st1 := []) (b := am 0) C0 (c_X7_again_27 l γ am hg_24) (cxV (nA := 1) hts goodU U1280 U1282 U60 U91 U1283 (by decide +kernel) ⟨Nat.le_of_ble_eq_true rfl, Nat.le_of_ble_eq_true rfl⟩) hP (hD _ _) hS hl dX7_saved_68 0 7 rfl rfl rfl rfl (Nat.le_of_ble_eq_true rfl) rfl rfl (fun H locs hP hS => ?_)
        refine lv_iload hx hb dX7_saved_71 (lv_at hl 0 rfl) ?_
        refine lv_iload_n hx hb dX7_saved_73 rfl (lv_at hl 3 rfl) ?_
        refine lv_icmp_gt (tgt := 80) hx hb dX7_saved_74 (by decide) (fun c_25 => ?_) (fun c_25 => ?_)
        · replace hf := ite_p c_25 hf
          refine lv_iload hx hb dX7_saved_80 (lv_at hl 0 rfl) ?_
          refine lv_istore_n (lv' := [(2, .int r_20), (4, .int r_20), (0, .ref (am 0)), (1, .int x1_1), (3, .int x3_3)]) hx hb dX7_saved_82 rfl hl (by decide) rfl (fun ls hl => ?_)
          refine lv_iload_n hx hb dX7_saved_83 rfl (lv_at hl 4 rfl) ?_
          refine lv_istore_n (lv' := [(1, .int x3_3), (2, .int r_20), (4, .int r_20), (0, .ref (am 0)), (3, .int x3_3)]) hx hb dX7_saved_84 rfl hl (by decide) rfl (fun ls hl => ?_)
          obtain ⟨x3_26, e_x3_26⟩ : ∃ y : Int32, y = x3_3 + (1 : Int32) := ⟨_, rfl⟩
          replace hf := nm_y hf e_x3_26
          refine lv_iinc (v := x3_26) (lv' := [(3, .int x3_26), (1, .int x3_3), (2, .int r_20), (4, .int r_20), (0, .ref (am 0))]) hx hb dX7_saved_85 hl (k := 4) rfl (by rw [e_x3_26]; rfl) (by decide) rfl (fun ls hl => ?_)
          refine lv_goto (tgt := 6) hx hb dX7_saved_88 (by decide) ?_
          exact ih x3_3 r_20 x3_26 sm_23 _ _ _ hf hP hS (lv_sub hl [4, 1, 2, 0] rfl)
        · replace hf := ite_n c_25 hf
          refine lv_goto (tgt := 85) hx hb dX7_saved_77 (by decide) ?_
          obtain ⟨x3_27, e_x3_27⟩ : ∃ y : Int32, y = x3_3 + (1 : Int32) := ⟨_, rfl⟩
          replace hf := nm_y hf e_x3_27
          refine lv_iinc (v := x3_27) (lv' := [(3, .int x3_27), (4, .int r_20), (0, .ref (am 0)), (1, .int x1_1), (2, .int x2_2)]) hx hb dX7_saved_85 hl (k := 4) rfl (by rw [e_x3_27]; rfl) (by decide) rfl (fun ls hl => ?_)
          refine lv_goto (tgt := 6) hx hb dX7_saved_88 (by decide) ?_
          exact ih x1_1 x2_2 x3_27 sm_23 _ _ _ hf hP hS (lv_sub hl [2, 3, 4, 0] rfl)
  unfold f_X7_saved at hf
  refine lv_iconst (v := 0) hx hb dX7_saved_0 (by decide) ?_
  refine lv_istore_n (lv' := [(1, .int (0 : Int32)), (0, .ref (am 0))]) hx hb dX7_saved_1 rfl hl (by decide) rfl (fun ls hl => ?_)
  refine lv_iconst (v := -1) hx hb dX7_saved_2 (by decide) ?_
  refine lv_istore_n (lv' := [(2, .int (-1 : Int32)), (1, .int (0 : Int32)), (0, .ref (am 0))]) hx hb dX7_saved_3 rfl hl (by decide) rfl (fun ls hl => ?_)
  refine lv_iconst (v := 0) hx hb dX7_saved_4 (by decide) ?_
  refine lv_istore_n (lv' := [(3, .int (0 : Int32)), (2, .int (-1 : Int32)), (1, .int (0 : Int32)), (0, .ref (am 0))]) hx hb dX7_saved_5 rfl hl (by decide) rfl (fun ls hl => ?_)
  exact L6 FU (0 : Int32) (-1 : Int32) (0 : Int32) sm _ _ _ hf hP hS (lv_sub hl [3, 2, 1, 0] rfl)
