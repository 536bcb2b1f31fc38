set_option maxHeartbeats 4000000 in
set_option maxRecDepth 100000 in
theorem c_X2_keep (l : Launch) (γ : Gm) (ad : Nat → Nat) {sd : GS} {x1 : Int32} {sd_z : GS} (hf : f_X2_keep sd x1 = some sd_z) : Kt l γ yX2_keep (Cond.code yX2_keep cX2_keep 2 none :: U) 1 60 [.ref (ad 0), .int x1] (wD γ ad sd) none (wD γ ad sd_z) := by
  refine Kt.of (by decide) rfl (Nat.le_of_ble_eq_true rfl) rfl ?_
  intro p e s m below meth c A ls C0 hP hD0 hS hl
  obtain ⟨hx, hb, hml, hown, hts, hr, hlocks, hK, hE, hA⟩ := id C0
  have hU : ∀ w ∈ U, w.before _ s = true := fun w h => hts w (List.mem_cons_of_mem _ h)
  have hD : ∀ (sd : GS), va_D A (wD γ ad sd) := fun _ => hD0.fst rfl
  have hl : lv_has ls 2 [(0, .ref (ad 0)), (1, .int x1)] := hl
  have J15 : ∀ (x1_2 : Int32) (sd_3 : GS) (H : Heap) (locs : List Loc) (ls : Array Slot), f_X2_keep_J15 x1_2 sd_3 = some sd_z → va_P γ.1 vwCl (wD γ ad sd_3) H → va_S A s.heap H locs → lv_has ls 2 [(0, .ref (ad 0)), (1, .int x1_2)] → W p l e (rmK 1 60) s m ([.ref (ad 0), .int x1] : List Value).toArray below meth c H locs 0 0 (MQ below (KQ γ A none (wD γ ad sd_z)) ([.ref (ad 0), .int x1] : List Value).toArray s 0 0 A) (F0 m 15 ls []) := by
    intro x1_2 sd_3 H locs ls hf hP hS hl
    unfold f_X2_keep_J15 at hf
    refine lv_aload_n hx hb dX2_keep_15 rfl (lv_at hl 0 rfl) ?_
    refine lv_iconst (v := 1) hx hb dX2_keep_16 (by decide) ?_
    refine va_put (D := γ.1) (ci := 2) (v := .int (1 : Int32)) (ty := .boolean) (C := RX2) (T := TX2) (N := 5) hx hb hU uin2 tyX2 tyX2_ok nmX2 hown hK hP (hD _) hS 0 rfl rfl 4 (by decide) (hU _ U269) (fun _ h9 => h9) rfl (by decide +kernel) rfl rfl (Nat.le_of_ble_eq_true rfl) dX2_keep_17 (fun H locs hP _ hS => ?_)
    obtain ⟨sd_4, e_sd_4, hf⟩ := nm_of hf
    replace hP : va_P γ.1 vwCl (wD γ ad sd_4) H := by rw [e_sd_4]; exact hP
    refine lv_aload_n hx hb dX2_keep_20 rfl (lv_at hl 0 rfl) ?_
    refine lv_iload_n hx hb dX2_keep_21 rfl (lv_at hl 1 rfl) ?_
    refine va_put (D := γ.1) (ci := 2) (v := .int x1_2) (ty := .int) (C := RX2) (T := TX2) (N := 5) hx hb hU uin2 tyX2 tyX2_ok nmX2 hown hK hP (hD _) hS 0 rfl rfl 0 (by decide) (hU _ U263) (fun _ h9 => h9) rfl (by decide +kernel) rfl rfl (Nat.le_of_ble_eq_true rfl) dX2_keep_22 (fun H locs hP _ hS => ?_)
    obtain ⟨sd_5, e_sd_5, hf⟩ := nm_of hf
    replace hP : va_P γ.1 vwCl (wD γ ad sd_5) H := by rw [e_sd_5]; exact hP
    refine lv_aload_n hx hb dX2_keep_25 rfl (lv_at hl 0 rfl) ?_
    refine va_get (D := γ.1) (ci := 2) (v := .ref (ad 3)) (C := RX2) (T := TX2) (N := 5) hx hb hU uin2 hown hK hP 0 rfl rfl 2 (by decide) (hU _ U267) (fun _ h9 => h9) rfl dX2_keep_26 ?_
    refine lv_iconst (v := 0) hx hb dX2_keep_29 (by decide) ?_
    refine lv_aload_n hx hb dX2_keep_30 rfl (lv_at hl 0 rfl) ?_
    refine va_get (D := γ.1) (ci := 2) (v := .ref (ad 2)) (C := RX2) (T := TX2) (N := 5) hx hb hU uin2 hown hK hP 0 rfl rfl 1 (by decide) (hU _ U265) (fun _ h9 => h9) rfl dX2_keep_31 ?_
    refine lv_iconst (v := 0) hx hb dX2_keep_34 (by decide) ?_
    refine lv_iconst (v := 3) hx hb dX2_keep_35 (by decide) ?_
    refine va_copyi (rest := []) (sp := (0 : Int32)) (dp := (0 : Int32)) (n := (3 : Int32)) (ty := .int) hx hb (hml.trans hl.1.symm) hown (hU _ U775) (hU _ U390) (hU _ U389) (hU _ U92) hK hP (hD _) hS 2 1 0 0 rfl rfl rfl rfl rfl (by decide) (by decide) (by decide) (by decide) (by decide) (fun _ _ => rfl) (Nat.le_of_ble_eq_true rfl) (by decide +kernel) dX2_keep_36 (fun H locs hP _ hS => ?_)
    obtain ⟨sd_6, e_sd_6, hf⟩ := nm_of hf
    replace hP : va_P γ.1 vwCl (wD γ ad sd_6) H := by rw [e_sd_6]; exact hP
    obtain rfl := Option.some.inj hf
    exact kt_vret C0 hP hS dX2_keep_39
  unfold f_X2_keep at hf
  refine lv_aload_n hx hb dX2_keep_0 rfl (lv_at hl 0 rfl) ?_
  refine va_get (D := γ.1) (ci := 2) (v := .int (sd 0 4)) (C := RX2) (T := TX2) (N := 5) hx hb hU uin2 hown hK hP 0 rfl rfl 4 (by decide) (hU _ U269) (fun _ h9 => h9) rfl dX2_keep_1 ?_
  refine lv_if_eq (tgt := 15) hx hb dX2_keep_4 (by decide) (fun c_1 => ?_) (fun c_1 => ?_)
  · replace hf := ite_p c_1 hf
    exact J15 x1 sd _ _ _ hf hP hS (lv_sub hl [0, 1] rfl)
  · replace hf := ite_n c_1 hf
    refine lv_iload_n hx hb dX2_keep_7 rfl (lv_at hl 1 rfl) ?_
    refine lv_aload_n hx hb dX2_keep_8 rfl (lv_at hl 0 rfl) ?_
    refine va_get (D := γ.1) (ci := 2) (v := .int (sd 0 0)) (C := RX2) (T := TX2) (N := 5) hx hb hU uin2 hown hK hP 0 rfl rfl 0 (by decide) (hU _ U263) (fun _ h9 => h9) rfl dX2_keep_9 ?_
    refine lv_icmp_ge (tgt := 39) hx hb dX2_keep_12 (by decide) (fun c_7 => ?_) (fun c_7 => ?_)
    · replace hf := ite_p c_7 hf
      obtain rfl := Option.some.inj hf
      exact kt_vret C0 hP hS dX2_keep_39
    · replace hf := ite_n c_7 hf
      exact J15 x1 sd _ _ _ hf hP hS (lv_sub hl [0, 1] rfl)
set_option maxHeartbeats 4000000 in
set_option maxRecDepth 100000 in
theorem c_X2_mournNext (l : Launch) (γ : Gm) (ad : Nat → Nat) (ar : Nat → Nat) {sd : GS} {sr : GS} {x2 : Int32} {x3 : Int32} {x4 : Int32} {rv : Int32} {sd_z : GS} (hf : f_X2_mournNext sd sr x2 x3 x4 = some (rv, sd_z)) : Kt l γ yX2_mournNext (Cond.code yX2_mournNext cX2_mournNext 9 (some .int) :: U) 3 67 [.ref (ad 0), .ref (ar 0), .int x2, .int x3, .int x4] (wD γ ad sd ++ wR γ ar sr) (some (.int rv)) (wD γ ad sd_z ++ wR γ ar sr) := by
  refine Kt.of (by decide) rfl (Nat.le_of_ble_eq_true rfl) rfl ?_
  intro p e s m below meth c A ls C0 hP hD0 hS hl
  obtain ⟨hx, hb, hml, hown, hts, hr, hlocks, hK, hE, hA⟩ := id C0
  have hU : ∀ w ∈ U, w.before _ s = true := fun w h => hts w (List.mem_cons_of_mem _ h)
  have hD : ∀ (sd : GS) (sr : GS), va_D A (wD γ ad sd ++ wR γ ar sr) := fun _ _ => hD0.fst rfl
  have hl : lv_has ls 9 [(0, .ref (ad 0)), (1, .ref (ar 0)), (2, .int x2), (3, .int x3), (4, .int x4)] := hl
  have J80 : ∀ (x2_14 : Int32) (x3_15 : Int32) (x4_16 : Int32) (x5_17 : Int32) (x6_18 : Int32) (x8_19 : Int32) (sd_20 : GS) (K6 : Int32 → Int32 → GS → Option (Int32 × GS)) (HK6 : ∀ (z5 : Int32) (z6 : Int32) (zsd : GS) (H : Heap) (locs : List Loc) (ls : Array Slot), K6 z5 z6 zsd = some (rv, sd_z) → va_P γ.1 vwCl (wD γ ad zsd ++ wR γ ar sr) H → va_S A s.heap H locs → lv_has ls 9 [(0, .ref (ad 0)), (1, .ref (ar 0)), (2, .int x2_14), (3, .int x3_15), (4, .int x4_16), (5, .int z5), (6, .int z6)] → W p l e (rmK 3 67) s m ([.ref (ad 0), .ref (ar 0), .int x2, .int x3, .int x4] : List Value).toArray below meth c H locs 0 0 (MQ below (KQ γ A (some (.int rv)) (wD γ ad sd_z ++ wR γ ar sr)) ([.ref (ad 0), .ref (ar 0), .int x2, .int x3, .int x4] : List Value).toArray s 0 0 A) (F0 m 6 ls [])) (H : Heap) (locs : List Loc) (ls : Array Slot), f_X2_mournNext_J80 x3_15 x5_17 x6_18 x8_19 sd_20 K6 = some (rv, sd_z) → va_P γ.1 vwCl (wD γ ad sd_20 ++ wR γ ar sr) H → va_S A s.heap H locs → lv_has ls 9 [(0, .ref (ad 0)), (1, .ref (ar 0)), (2, .int x2_14), (3, .int x3_15), (4, .int x4_16), (5, .int x5_17), (6, .int x6_18), (8, .int x8_19)] → W p l e (rmK 3 67) s m ([.ref (ad 0), .ref (ar 0), .int x2, .int x3, .int x4] : List Value).toArray below meth c H locs 0 0 (MQ below (KQ γ A (some (.int rv)) (wD γ ad sd_z ++ wR γ ar sr)) ([.ref (ad 0), .ref (ar 0), .int x2, .int x3, .int x4] : List Value).toArray s 0 0 A) (F0 m 80 ls []) := by
    intro x2_14 x3_15 x4_16 x5_17 x6_18 x8_19 sd_20 K6 HK6 H locs ls hf hP hS hl
    unfold f_X2_mournNext_J80 at hf
    refine lv_aload_n hx hb dX2_mournNext_80 rfl (lv_at hl 0 rfl) ?_
    refine va_get (D := γ.1) (ci := 2) (v := .ref (ad 4)) (C := RX2) (T := TX2) (N := 5) hx hb hU uin2 hown hK hP 0 rfl rfl 3 (by decide) (hU _ U268) (fun _ h9 => h9) rfl dX2_mournNext_81 ?_
    refine lv_iload_n hx hb dX2_mournNext_84 rfl (lv_at hl 3 rfl) ?_
    refine lv_iconst (v := 1) hx hb dX2_mournNext_85 (by decide) ?_
    refine lv_iadd hx hb dX2_mournNext_86 ?_
    refine lv_topi (fun u_21 e_u_21 => ?_)
    replace hf := nm_y hf e_u_21
    obtain ⟨g_22, hf⟩ := gd_of hf
    refine va_aldA (C := .int) hx hb hK hP 3 3 rfl rfl (inB_vp g_22) dX2_mournNext_87 ?_
    rw [unF_at ad (inB_lt g_22)]
    refine lv_iload hx hb dX2_mournNext_88 (lv_at hl 6 rfl) ?_
    refine lv_iload hx hb dX2_mournNext_90 (lv_at hl 7 rfl) ?_
    obtain ⟨g_23, hf⟩ := gd_of hf
    refine va_iast hx hb hK hP (hD _ _) hS (4 + u_21.toNatClampNeg) 0 (un_at γ (inB_lt g_22)) rfl (inB_vp g_23) dX2_mournNext_92 (fun H locs hP _ hS => ?_)
    obtain ⟨sd_24, e_sd_24, hf⟩ := nm_of hf
    replace hP : va_P γ.1 vwCl (wD γ ad sd_24 ++ wR γ ar sr) H := by rw [e_sd_24]; rw [un_set γ (inB_lt g_22)] at hP; exact hP
    obtain ⟨x6_25, e_x6_25⟩ : ∃ y : Int32, y = x6_18 + (1 : Int32) := ⟨_, rfl⟩
    replace hf := nm_y hf e_x6_25
    refine lv_iinc (v := x6_25) (lv' := [(6, .int x6_25), (0, .ref (ad 0)), (1, .ref (ar 0)), (2, .int x2_14), (3, .int x3_15), (4, .int x4_16), (5, .int x5_17), (8, .int x8_19)]) hx hb dX2_mournNext_93 hl (k := 6) rfl (by rw [e_x6_25]; rfl) (by decide) rfl (fun ls hl => ?_)
    refine lv_goto (tgt := 6) hx hb dX2_mournNext_96 (by decide) ?_
    exact HK6 x5_17 x6_25 sd_24 _ _ _ hf hP hS (lv_sub hl [1, 2, 3, 4, 5, 6, 0] rfl)
  have L6 : ∀ (x2_1 : Int32) (x3_2 : Int32) (x4_3 : Int32) (n : Nat) (x5_4 : Int32) (x6_5 : Int32) (sd_6 : GS) (H : Heap) (locs : List Loc) (ls : Array Slot), f_X2_mournNext_L6 sr x2_1 x3_2 x4_3 n x5_4 x6_5 sd_6 = some (rv, sd_z) → va_P γ.1 vwCl (wD γ ad sd_6 ++ wR γ ar sr) H → va_S A s.heap H locs → lv_has ls 9 [(0, .ref (ad 0)), (1, .ref (ar 0)), (2, .int x2_1), (3, .int x3_2), (4, .int x4_3), (5, .int x5_4), (6, .int x6_5)] → W p l e (rmK 3 67) s m ([.ref (ad 0), .ref (ar 0), .int x2, .int x3, .int x4] : List Value).toArray below meth c H locs 0 0 (MQ below (KQ γ A (some (.int rv)) (wD γ ad sd_z ++ wR γ ar sr)) ([.ref (ad 0), .ref (ar 0), .int x2, .int x3, .int x4] : List Value).toArray s 0 0 A) (F0 m 6 ls []) := by
    intro x2_1 x3_2 x4_3
    intro n
    induction n with
    | zero =>
      intro x5_4 x6_5 sd_6 H locs ls hf
      have hf : none = some _ := hf
      cases hf
    | succ n ih =>
      intro x5_4 x6_5 sd_6 H locs ls hf hP hS hl
      rw [f_X2_mournNext_L6.eq_2] at hf
      refine lv_iload hx hb dX2_mournNext_6 (lv_at hl 6 rfl) ?_
      refine lv_aload_n hx hb dX2_mournNext_8 rfl (lv_at hl 1 rfl) ?_
      refine va_getN (D := γ.1) (ci := 3) (v := .int (sr 0 0)) (C := RX3) (T := TX3) (N := 18) hx hb hU uin3 hown hK hP 8 rfl rfl 0 (by decide) (va_Nw.use rfl (hE.2.2.2.2.2.1 _ NW1)) (fun _ h9 => h9) rfl dX2_mournNext_9 ?_
      refine lv_icmp_ge (tgt := 99) hx hb dX2_mournNext_12 (by decide) (fun c_7 => ?_) (fun c_7 => ?_)
      · replace hf := ite_p c_7 hf
        refine lv_iload hx hb dX2_mournNext_99 (lv_at hl 5 rfl) ?_
        obtain ⟨rfl, rfl⟩ := rt2 hf
        exact kt_iret C0 hP hS dX2_mournNext_101
      · replace hf := ite_n c_7 hf
        refine lv_aload_n hx hb dX2_mournNext_15 rfl (lv_at hl 0 rfl) ?_
        refine va_get (D := γ.1) (ci := 2) (v := .ref (ad 4)) (C := RX2) (T := TX2) (N := 5) hx hb hU uin2 hown hK hP 0 rfl rfl 3 (by decide) (hU _ U268) (fun _ h9 => h9) rfl dX2_mournNext_16 ?_
        refine lv_iload_n hx hb dX2_mournNext_19 rfl (lv_at hl 3 rfl) ?_
        obtain ⟨g_8, hf⟩ := gd_of hf
        refine va_aldA (C := .int) hx hb hK hP 3 3 rfl rfl (inB_vp g_8) dX2_mournNext_20 ?_
        rw [unF_at ad (inB_lt g_8)]
        refine lv_iload hx hb dX2_mournNext_21 (lv_at hl 6 rfl) ?_
        obtain ⟨g_9, hf⟩ := gd_of hf
        refine va_iald hx hb hK hP (4 + x3_2.toNatClampNeg) 0 (un_at γ (inB_lt g_8)) rfl (inB_vp g_9) dX2_mournNext_23 ?_
        refine lv_topi (fun u_10 e_u_10 => ?_)
        replace hf := nm_y hf e_u_10
        refine lv_istore (lv' := [(7, .int u_10), (0, .ref (ad 0)), (1, .ref (ar 0)), (2, .int x2_1), (3, .int x3_2), (4, .int x4_3), (5, .int x5_4), (6, .int x6_5)]) hx hb dX2_mournNext_24 hl (by decide) rfl (fun ls hl => ?_)
        refine lv_iload hx hb dX2_mournNext_26 (lv_at hl 0 rfl) ?_
        refine lv_istore (lv' := [(8, .int u_10), (7, .int u_10), (0, .ref (ad 0)), (1, .ref (ar 0)), (2, .int x2_1), (3, .int x3_2), (4, .int x4_3), (5, .int x5_4), (6, .int x6_5)]) hx hb dX2_mournNext_28 hl (by decide) rfl (fun ls hl => ?_)
        refine lv_iload hx hb dX2_mournNext_30 (lv_at hl 6 rfl) ?_
        refine lv_iload hx hb dX2_mournNext_32 (lv_at hl 8 rfl) ?_
        obtain ⟨r_11, hg_12, hf⟩ := bd_of hf
        refine kt_SN (As := [.int x4_3, .int x6_5]) (rest := []) (st1 := [.int r_11]) C0 (c_X6_bit l γ hg_12) (cxN (nA := 2) hts goodU hE NW46 U441 U84 U442 (by decide +kernel) ⟨Nat.le_of_ble_eq_true rfl, Nat.le_of_ble_eq_true rfl⟩) hP (hD _ _) hS hl dX2_mournNext_34 rfl (Nat.le_of_ble_eq_true rfl) rfl rfl (fun H locs hP hS => ?_)
        refine lv_iconst (v := 1) hx hb dX2_mournNext_37 (by decide) ?_
        refine lv_icmp_ne (tgt := 80) hx hb dX2_mournNext_38 (by decide) (fun c_13 => ?_) (fun c_13 => ?_)
        · replace hf := ite_n c_13 hf
          exact J80 x2_1 x3_2 x4_3 x5_4 x6_5 u_10 sd_6 _ ih _ _ _ hf hP hS (lv_sub hl [2, 3, 4, 5, 6, 7, 8, 0] rfl)
        · replace hf := ite_p c_13 hf
          refine lv_aload_n hx hb dX2_mournNext_41 rfl (lv_at hl 3 rfl) ?_
          refine lv_iload hx hb dX2_mournNext_42 (lv_at hl 1 rfl) ?_
          refine lv_iload hx hb dX2_mournNext_44 (lv_at hl 8 rfl) ?_
          refine lv_iload_n hx hb dX2_mournNext_46 rfl (lv_at hl 4 rfl) ?_
          refine lv_aload_n hx hb dX2_mournNext_47 rfl (lv_at hl 3 rfl) ?_
          refine va_getN (D := γ.1) (ci := 3) (v := .int (sr 0 16)) (C := RX3) (T := TX3) (N := 18) hx hb hU uin3 hown hK hP 8 rfl rfl 16 (by decide) (va_Nw.use rfl (hE.2.2.2.2.2.1 _ NW24)) (fun _ h9 => h9) rfl dX2_mournNext_48 ?_
          obtain ⟨r_26, hg_27, hf⟩ := bd_of hf
          refine kt_VF (As := [.int u_10, .int x6_5, .int x2_1, .int (sr 0 16)]) (rest := []) (st1 := [.int r_26]) (b := ar 0) (wc' := wD γ ad sd_6 ++ wR γ ar sr) C0 (c_X3_untilBehind l γ ar hg_27) (cxV (nA := 4) hts goodU U788 U685 U686 U85 U687 (by decide +kernel) ⟨Nat.le_of_ble_eq_true rfl, Nat.le_of_ble_eq_true rfl⟩) hP (hD _ _) hS hl dX2_mournNext_51 focA2 0 3 rfl rfl rfl rfl (Nat.le_of_ble_eq_true rfl) rfl rfl (fun H locs hP hS => ?_)
          refine lv_istore (lv' := [(8, .int r_26), (7, .int u_10), (0, .ref (ad 0)), (1, .ref (ar 0)), (2, .int x2_1), (3, .int x3_2), (4, .int x4_3), (5, .int x5_4), (6, .int x6_5)]) hx hb dX2_mournNext_54 hl (by decide) rfl (fun ls hl => ?_)
          refine lv_iload hx hb dX2_mournNext_56 (lv_at hl 7 rfl) ?_
          refine lv_iload hx hb dX2_mournNext_58 (lv_at hl 0 rfl) ?_
          refine lv_aload_n hx hb dX2_mournNext_60 rfl (lv_at hl 3 rfl) ?_
          refine va_getN (D := γ.1) (ci := 3) (v := .int (sr 0 16)) (C := RX3) (T := TX3) (N := 18) hx hb hU uin3 hown hK hP 8 rfl rfl 16 (by decide) (va_Nw.use rfl (hE.2.2.2.2.2.1 _ NW24)) (fun _ h9 => h9) rfl dX2_mournNext_61 ?_
          refine va_mmax (rest := [.int x5_4]) (x := r_26) (y := (sr 0 16)) hx hb (hml.trans hl.1.symm) hown (hU _ U789) (hU _ U698) (hU _ U93) (hU _ U699) (Nat.le_of_ble_eq_true rfl) (Nat.le_of_ble_eq_true rfl) (Nat.zero_le _) (Nat.zero_le _) dX2_mournNext_64 ?_
          refine lv_topi (fun u_28 e_u_28 => ?_)
          replace hf := nm_y hf e_u_28
          refine lv_iload hx hb dX2_mournNext_67 (lv_at hl 1 rfl) ?_
          refine lv_aload_n hx hb dX2_mournNext_69 rfl (lv_at hl 3 rfl) ?_
          refine va_getN (D := γ.1) (ci := 3) (v := .int (sr 0 16)) (C := RX3) (T := TX3) (N := 18) hx hb hU uin3 hown hK hP 8 rfl rfl 16 (by decide) (va_Nw.use rfl (hE.2.2.2.2.2.1 _ NW24)) (fun _ h9 => h9) rfl dX2_mournNext_70 ?_
          refine va_mmax (rest := [.int u_28, .int x5_4]) (x := u_10) (y := (sr 0 16)) hx hb (hml.trans hl.1.symm) hown (hU _ U789) (hU _ U698) (hU _ U93) (hU _ U699) (Nat.le_of_ble_eq_true rfl) (Nat.le_of_ble_eq_true rfl) (Nat.zero_le _) (Nat.zero_le _) dX2_mournNext_73 ?_
          refine lv_topi (fun u_29 e_u_29 => ?_)
          replace hf := nm_y hf e_u_29
          refine lv_isub hx hb dX2_mournNext_76 ?_
          refine lv_iadd hx hb dX2_mournNext_77 ?_
          refine lv_topi (fun u_30 e_u_30 => ?_)
          replace hf := nm_y hf e_u_30
          refine lv_istore (lv' := [(5, .int u_30), (8, .int r_26), (7, .int u_10), (0, .ref (ad 0)), (1, .ref (ar 0)), (2, .int x2_1), (3, .int x3_2), (4, .int x4_3), (6, .int x6_5)]) hx hb dX2_mournNext_78 hl (by decide) rfl (fun ls hl => ?_)
          exact J80 x2_1 x3_2 x4_3 u_30 x6_5 r_26 sd_6 _ ih _ _ _ hf hP hS (lv_sub hl [3, 4, 5, 6, 7, 0, 8, 1] rfl)
  unfold f_X2_mournNext at hf
  refine lv_iconst (v := 0) hx hb dX2_mournNext_0 (by decide) ?_
  refine lv_istore (lv' := [(5, .int (0 : Int32)), (0, .ref (ad 0)), (1, .ref (ar 0)), (2, .int x2), (3, .int x3), (4, .int x4)]) hx hb dX2_mournNext_1 hl (by decide) rfl (fun ls hl => ?_)
  refine lv_iconst (v := 0) hx hb dX2_mournNext_3 (by decide) ?_
  refine lv_istore (lv' := [(6, .int (0 : Int32)), (5, .int (0 : Int32)), (0, .ref (ad 0)), (1, .ref (ar 0)), (2, .int x2), (3, .int x3), (4, .int x4)]) hx hb dX2_mournNext_4 hl (by decide) rfl (fun ls hl => ?_)
  exact L6 x2 x3 x4 FU (0 : Int32) (0 : Int32) sd _ _ _ hf hP hS (lv_sub hl [2, 3, 4, 5, 6, 1, 0] rfl)
set_option maxHeartbeats 4000000 in
set_option maxRecDepth 100000 in
theorem c_X2_searchB (l : Launch) (γ : Gm) (ad : Nat → Nat) (ar : Nat → Nat) {RUN : GS → GS → Int32 → Int32 → Int32 → Int32 → Option GS} {sd : GS} {sr : GS} {x3 : Int32} {x4 : Int32} {x5 : Int32} {x6 : Int32} {sd_z : GS} {fd ld : Nat} (HR : ∀ {sd sr : GS} {x3 x4 x5 x6 : Int32} {sd_z : GS}, RUN sd sr x3 x4 x5 x6 = some sd_z → Kt l γ yX2_search (Cond.code yX2_search cX2_search 9 none :: U) fd ld [.ref (ad 0), .ref (ar 0), .int x3, .int x4, .int x5, .int x6] (wD γ ad sd ++ wR γ ar sr) none (wD γ ad sd_z ++ wR γ ar sr)) (hf : f_X2_searchB RUN sd sr x3 x4 x5 x6 = some sd_z) : Kt l γ yX2_search (Cond.code yX2_search cX2_search 9 none :: U) (fd + 8) (ld + 400) [.ref (ad 0), .ref (ar 0), .int x3, .int x4, .int x5, .int x6] (wD γ ad sd ++ wR γ ar sr) none (wD γ ad sd_z ++ wR γ ar sr) := by
  refine Kt.of (by decide) rfl (Nat.le_of_ble_eq_true rfl) rfl ?_
  intro p e s m below meth c A ls C0 hP hD0 hS hl
  obtain ⟨hx, hb, hml, hown, hts, hr, hlocks, hK, hE, hA⟩ := id C0
  have hU : ∀ w ∈ U, w.before _ s = true := fun w h => hts w (List.mem_cons_of_mem _ h)
  have hD : ∀ (sd : GS) (sr : GS), va_D A (wD γ ad sd ++ wR γ ar sr) := fun _ _ => hD0.fst rfl
  have hl : lv_has ls 9 [(0, .ref (ad 0)), (1, .ref (ar 0)), (2, .int x3), (3, .int x4), (4, .int x5), (5, .int x6)] := hl
  have J10 : ∀ (x4_2 : Int32) (sd_3 : GS) (H : Heap) (locs : List Loc) (ls : Array Slot), f_X2_search_J10 x4_2 sd_3 = some sd_z → va_P γ.1 vwCl (wD γ ad sd_3 ++ wR γ ar sr) H → va_S A s.heap H locs → lv_has ls 9 [(0, .ref (ad 0)), (4, .int x4_2)] → W p l e (rmK (fd + 8) (ld + 400)) s m ([.ref (ad 0), .ref (ar 0), .int x3, .int x4, .int x5, .int x6] : List Value).toArray below meth c H locs 0 0 (MQ below (KQ γ A none (wD γ ad sd_z ++ wR γ ar sr)) ([.ref (ad 0), .ref (ar 0), .int x3, .int x4, .int x5, .int x6] : List Value).toArray s 0 0 A) (F0 m 10 ls []) := by
    intro x4_2 sd_3 H locs ls hf hP hS hl
    unfold f_X2_search_J10 at hf
    refine lv_aload_n hx hb dX2_search_10 rfl (lv_at hl 0 rfl) ?_
    refine lv_iload hx hb dX2_search_11 (lv_at hl 1 rfl) ?_
    obtain ⟨sd_4, hg_5, hf⟩ := bd_of hf
    refine kt_VF (As := [.int x4_2]) (rest := []) (st1 := []) (b := ad 0) (wc' := wD γ ad sd_4 ++ wR γ ar sr) C0 (c_X2_keep l γ ad hg_5) (cxV (nA := 1) hts goodU U779 U781 U20 U89 U782 (by decide +kernel) ⟨by simp only [rmK]; omega, by simp only [rmK]; omega⟩) hP (hD _ _) hS hl dX2_search_13 focA1 0 2 rfl rfl rfl rfl (Nat.le_of_ble_eq_true rfl) rfl rfl (fun H locs hP hS => ?_)
    obtain rfl := Option.some.inj hf
    exact kt_vret C0 hP hS dX2_search_16
  have L20 : ∀ (x2_7 : Int32) (x3_8 : Int32) (x4_9 : Int32) (x5_10 : Int32) (n : Nat) (x6_11 : Int32) (sd_12 : GS) (H : Heap) (locs : List Loc) (ls : Array Slot), f_X2_search_L20 sr RUN x2_7 x3_8 x4_9 x5_10 n x6_11 sd_12 = some sd_z → va_P γ.1 vwCl (wD γ ad sd_12 ++ wR γ ar sr) H → va_S A s.heap H locs → lv_has ls 9 [(0, .ref (ad 0)), (1, .ref (ar 0)), (2, .int x2_7), (3, .int x3_8), (4, .int x4_9), (5, .int x5_10), (6, .int x6_11)] → W p l e (rmK (fd + 8) (ld + 400)) s m ([.ref (ad 0), .ref (ar 0), .int x3, .int x4, .int x5, .int x6] : List Value).toArray below meth c H locs 0 0 (MQ below (KQ γ A none (wD γ ad sd_z ++ wR γ ar sr)) ([.ref (ad 0), .ref (ar 0), .int x3, .int x4, .int x5, .int x6] : List Value).toArray s 0 0 A) (F0 m 20 ls []) := by
    intro x2_7 x3_8 x4_9 x5_10
    intro n
    induction n with
    | zero =>
      intro x6_11 sd_12 H locs ls hf
      have hf : none = some _ := hf
      cases hf
    | succ n ih =>
      intro x6_11 sd_12 H locs ls hf hP hS hl
      rw [f_X2_search_L20.eq_2] at hf
      refine lv_iload hx hb dX2_search_20 (lv_at hl 6 rfl) ?_
      refine lv_aload_n hx hb dX2_search_22 rfl (lv_at hl 1 rfl) ?_
      refine va_getN (D := γ.1) (ci := 3) (v := .int (sr 0 0)) (C := RX3) (T := TX3) (N := 18) hx hb hU uin3 hown hK hP 8 rfl rfl 0 (by decide) (va_Nw.use rfl (hE.2.2.2.2.2.1 _ NW1)) (fun _ h9 => h9) rfl dX2_search_23 ?_
      refine lv_icmp_ge (tgt := 93) hx hb dX2_search_26 (by decide) (fun c_13 => ?_) (fun c_13 => ?_)
      · replace hf := ite_p c_13 hf
        obtain rfl := Option.some.inj hf
        exact kt_vret C0 hP hS dX2_search_93
      · replace hf := ite_n c_13 hf
        refine lv_iload hx hb dX2_search_29 (lv_at hl 5 rfl) ?_
        refine lv_iload hx hb dX2_search_31 (lv_at hl 6 rfl) ?_
        obtain ⟨r_14, hg_15, hf⟩ := bd_of hf
        refine kt_SN (As := [.int x5_10, .int x6_11]) (rest := []) (st1 := [.int r_14]) C0 (c_X6_bit l γ hg_15) (cxN (nA := 2) hts goodU hE NW46 U441 U84 U442 (by decide +kernel) ⟨by simp only [rmK]; omega, by simp only [rmK]; omega⟩) hP (hD _ _) hS hl dX2_search_33 rfl (Nat.le_of_ble_eq_true rfl) rfl rfl (fun H locs hP hS => ?_)
        refine lv_iconst (v := 1) hx hb dX2_search_36 (by decide) ?_
        refine lv_icmp_ne (tgt := 87) hx hb dX2_search_37 (by decide) (fun c_16 => ?_) (fun c_16 => ?_)
        · replace hf := ite_n c_16 hf
          obtain ⟨x6_17, e_x6_17⟩ : ∃ y : Int32, y = x6_11 + (1 : Int32) := ⟨_, rfl⟩
          replace hf := nm_y hf e_x6_17
          refine lv_iinc (v := x6_17) (lv' := [(6, .int x6_17), (0, .ref (ad 0)), (1, .ref (ar 0)), (2, .int x2_7), (3, .int x3_8), (4, .int x4_9), (5, .int x5_10)]) hx hb dX2_search_87 hl (k := 6) rfl (by rw [e_x6_17]; rfl) (by decide) rfl (fun ls hl => ?_)
          refine lv_goto (tgt := 20) hx hb dX2_search_90 (by decide) ?_
          exact ih x6_17 sd_12 _ _ _ hf hP hS (lv_sub hl [1, 2, 3, 4, 5, 6, 0] rfl)
        · replace hf := ite_p c_16 hf
          refine lv_aload_n hx hb dX2_search_40 rfl (lv_at hl 0 rfl) ?_
          refine va_get (D := γ.1) (ci := 2) (v := .ref (ad 3)) (C := RX2) (T := TX2) (N := 5) hx hb hU uin2 hown hK hP 0 rfl rfl 2 (by decide) (hU _ U267) (fun _ h9 => h9) rfl dX2_search_41 ?_
          refine lv_iload_n hx hb dX2_search_44 rfl (lv_at hl 3 rfl) ?_
          refine lv_iload hx hb dX2_search_45 (lv_at hl 6 rfl) ?_
          obtain ⟨g_18, hf⟩ := gd_of hf
          refine va_iast hx hb hK hP (hD _ _) hS 2 0 rfl rfl (inB_vp g_18) dX2_search_47 (fun H locs hP _ hS => ?_)
          obtain ⟨sd_19, e_sd_19, hf⟩ := nm_of hf
          replace hP : va_P γ.1 vwCl (wD γ ad sd_19 ++ wR γ ar sr) H := by rw [e_sd_19]; exact hP
          refine lv_iload hx hb dX2_search_48 (lv_at hl 5 rfl) ?_
          refine lv_iconst (v := 1) hx hb dX2_search_50 (by decide) ?_
          refine lv_iload hx hb dX2_search_51 (lv_at hl 6 rfl) ?_
          refine lv_ishl hx hb dX2_search_53 ?_
          refine lv_iconst (v := -1) hx hb dX2_search_54 (by decide) ?_
          refine lv_ixor hx hb dX2_search_55 ?_
          refine lv_iand hx hb dX2_search_56 ?_
          refine lv_topi (fun u_20 e_u_20 => ?_)
          replace hf := nm_y hf e_u_20
          refine lv_istore (lv' := [(7, .int u_20), (0, .ref (ad 0)), (1, .ref (ar 0)), (2, .int x2_7), (3, .int x3_8), (4, .int x4_9), (5, .int x5_10), (6, .int x6_11)]) hx hb dX2_search_57 hl (by decide) rfl (fun ls hl => ?_)
          refine lv_aload_n hx hb dX2_search_59 rfl (lv_at hl 1 rfl) ?_
          refine lv_aload_n hx hb dX2_search_60 rfl (lv_at hl 2 rfl) ?_
          refine lv_iload hx hb dX2_search_61 (lv_at hl 7 rfl) ?_
          refine lv_iload_n hx hb dX2_search_63 rfl (lv_at hl 4 rfl) ?_
          refine lv_iload hx hb dX2_search_64 (lv_at hl 0 rfl) ?_
          obtain ⟨r_21, sd_22, hg_23, hf⟩ := bd2_of hf
          refine kt_V0 (As := [.ref (ar 0), .int x6_11, .int x3_8, .int u_20]) (rest := []) (st1 := [.int r_21]) (b := ad 0) C0 (c_X2_mournNext l γ ad ar hg_23) (cxV (nA := 4) hts goodU U784 U786 U21 U89 U787 (by decide +kernel) ⟨by simp only [rmK]; omega, by simp only [rmK]; omega⟩) hP (hD _ _) hS hl dX2_search_66 0 2 rfl rfl rfl rfl (Nat.le_of_ble_eq_true rfl) rfl rfl (fun H locs hP hS => ?_)
          refine lv_istore (lv' := [(8, .int r_21), (7, .int u_20), (0, .ref (ad 0)), (1, .ref (ar 0)), (2, .int x2_7), (3, .int x3_8), (4, .int x4_9), (5, .int x5_10), (6, .int x6_11)]) hx hb dX2_search_69 hl (by decide) rfl (fun ls hl => ?_)
          refine lv_aload_n hx hb dX2_search_71 rfl (lv_at hl 2 rfl) ?_
          refine lv_aload_n hx hb dX2_search_72 rfl (lv_at hl 3 rfl) ?_
          refine lv_iload_n hx hb dX2_search_73 rfl (lv_at hl 4 rfl) ?_
          refine lv_iload_n hx hb dX2_search_74 rfl (lv_at hl 5 rfl) ?_
          refine lv_iconst (v := 1) hx hb dX2_search_75 (by decide) ?_
          refine lv_iadd hx hb dX2_search_76 ?_
          refine lv_iload hx hb dX2_search_77 (lv_at hl 6 rfl) ?_
          refine lv_iload hx hb dX2_search_79 (lv_at hl 0 rfl) ?_
          refine lv_iadd hx hb dX2_search_81 ?_
          refine lv_iload hx hb dX2_search_82 (lv_at hl 1 rfl) ?_
          obtain ⟨sd_24, hg_25, hf⟩ := bd_of hf
          refine kt_SF (As := [.ref (ad 0), .ref (ar 0), .int x2_7, .int (x3_8 + (1 : Int32)), .int (x4_9 + r_21), .int u_20]) (rest := []) (st1 := []) (wc' := wD γ ad sd_24 ++ wR γ ar sr) C0 (HR hg_25) (cxS (nA := 6) hts goodU U776 U777 U89 U778 (by decide +kernel) ⟨by simp only [rmK]; omega, by simp only [rmK]; omega⟩) hP (hD _ _) hS hl dX2_search_84 foc_all rfl (Nat.le_of_ble_eq_true rfl) rfl rfl (fun H locs hP hS => ?_)
          obtain ⟨x6_26, e_x6_26⟩ : ∃ y : Int32, y = x6_11 + (1 : Int32) := ⟨_, rfl⟩
          replace hf := nm_y hf e_x6_26
          refine lv_iinc (v := x6_26) (lv' := [(6, .int x6_26), (8, .int r_21), (7, .int u_20), (0, .ref (ad 0)), (1, .ref (ar 0)), (2, .int x2_7), (3, .int x3_8), (4, .int x4_9), (5, .int x5_10)]) hx hb dX2_search_87 hl (k := 8) rfl (by rw [e_x6_26]; rfl) (by decide) rfl (fun ls hl => ?_)
          refine lv_goto (tgt := 20) hx hb dX2_search_90 (by decide) ?_
          exact ih x6_26 sd_24 _ _ _ hf hP hS (lv_sub hl [3, 4, 5, 6, 7, 8, 0] rfl)
  unfold f_X2_searchB at hf
  refine lv_iload_n hx hb dX2_search_0 rfl (lv_at hl 3 rfl) ?_
  refine lv_iload_n hx hb dX2_search_1 rfl (lv_at hl 2 rfl) ?_
  refine lv_icmp_ge (tgt := 10) hx hb dX2_search_2 (by decide) (fun c_1 => ?_) (fun c_1 => ?_)
  · replace hf := ite_p c_1 hf
    exact J10 x5 sd _ _ _ hf hP hS (lv_sub hl [0, 4] rfl)
  · replace hf := ite_n c_1 hf
    refine lv_iload_n hx hb dX2_search_5 rfl (lv_at hl 3 rfl) ?_
    refine lv_iconst (v := 3) hx hb dX2_search_6 (by decide) ?_
    refine lv_icmp_lt (tgt := 17) hx hb dX2_search_7 (by decide) (fun c_6 => ?_) (fun c_6 => ?_)
    · replace hf := ite_p c_6 hf
      refine lv_iconst (v := 0) hx hb dX2_search_17 (by decide) ?_
      refine lv_istore (lv' := [(6, .int (0 : Int32)), (0, .ref (ad 0)), (1, .ref (ar 0)), (2, .int x3), (3, .int x4), (4, .int x5), (5, .int x6)]) hx hb dX2_search_18 hl (by decide) rfl (fun ls hl => ?_)
      exact L20 x3 x4 x5 x6 FU (0 : Int32) sd _ _ _ hf hP hS (lv_sub hl [1, 2, 3, 4, 5, 6, 0] rfl)
    · replace hf := ite_n c_6 hf
      exact J10 x5 sd _ _ _ hf hP hS (lv_sub hl [0, 4] rfl)
theorem c_X2_search (l : Launch) (γ : Gm) (ad ar : Nat → Nat) : ∀ (dd : Nat) {sd sr : GS} {x3 x4 x5 x6 : Int32} {sd_z : GS}, f_X2_search dd sd sr x3 x4 x5 x6 = some sd_z → Kt l γ yX2_search (Cond.code yX2_search cX2_search 9 none :: U) (8 * dd) (400 * dd) [.ref (ad 0), .ref (ar 0), .int x3, .int x4, .int x5, .int x6] (wD γ ad sd ++ wR γ ar sr) none (wD γ ad sd_z ++ wR γ ar sr) := by
  intro dd
  induction dd with
  | zero =>
    intro sd sr x3 x4 x5 x6 sd_z hf
    have hf : none = some _ := hf
    cases hf
  | succ dd ih =>
    intro sd sr x3 x4 x5 x6 sd_z hf
    exact c_X2_searchB l γ ad ar (fun h => ih h) hf
set_option maxHeartbeats 4000000 in
set_option maxRecDepth 100000 in
theorem c_X2_find (l : Launch) (γ : Gm) (ad : Nat → Nat) (ar : Nat → Nat) {sd : GS} {sr : GS} {x2 : Int32} {sd_z : GS} (hf : f_X2_find sd sr x2 = some sd_z) : Kt l γ yX2_find (Cond.code yX2_find cX2_find 3 none :: U) 49 2428 [.ref (ad 0), .ref (ar 0), .int x2] (wD γ ad sd ++ wR γ ar sr) none (wD γ ad sd_z ++ wR γ ar sr) := by
  refine Kt.of (by decide) rfl (Nat.le_of_ble_eq_true rfl) rfl ?_
  intro p e s m below meth c A ls C0 hP hD0 hS hl
  obtain ⟨hx, hb, hml, hown, hts, hr, hlocks, hK, hE, hA⟩ := id C0
  have hU : ∀ w ∈ U, w.before _ s = true := fun w h => hts w (List.mem_cons_of_mem _ h)
  have hD : ∀ (sd : GS) (sr : GS), va_D A (wD γ ad sd ++ wR γ ar sr) := fun _ _ => hD0.fst rfl
  have hl : lv_has ls 3 [(0, .ref (ad 0)), (1, .ref (ar 0)), (2, .int x2)] := hl
  unfold f_X2_find at hf
  refine lv_aload_n hx hb dX2_find_0 rfl (lv_at hl 0 rfl) ?_
  refine lv_iconst (v := 0) hx hb dX2_find_1 (by decide) ?_
  refine va_put (D := γ.1) (ci := 2) (v := .int (0 : Int32)) (ty := .boolean) (C := RX2) (T := TX2) (N := 5) hx hb hU uin2 tyX2 tyX2_ok nmX2 hown hK hP (hD _ _) hS 0 rfl rfl 4 (by decide) (hU _ U269) (fun _ h9 => h9) rfl (by decide +kernel) rfl rfl (Nat.le_of_ble_eq_true rfl) dX2_find_2 (fun H locs hP _ hS => ?_)
  obtain ⟨sd_1, e_sd_1, hf⟩ := nm_of hf
  replace hP : va_P γ.1 vwCl (wD γ ad sd_1 ++ wR γ ar sr) H := by rw [e_sd_1]; exact hP
  refine lv_aload_n hx hb dX2_find_5 rfl (lv_at hl 0 rfl) ?_
  refine lv_iconst (v := 0) hx hb dX2_find_6 (by decide) ?_
  refine va_put (D := γ.1) (ci := 2) (v := .int (0 : Int32)) (ty := .int) (C := RX2) (T := TX2) (N := 5) hx hb hU uin2 tyX2 tyX2_ok nmX2 hown hK hP (hD _ _) hS 0 rfl rfl 0 (by decide) (hU _ U263) (fun _ h9 => h9) rfl (by decide +kernel) rfl rfl (Nat.le_of_ble_eq_true rfl) dX2_find_7 (fun H locs hP _ hS => ?_)
  obtain ⟨sd_2, e_sd_2, hf⟩ := nm_of hf
  replace hP : va_P γ.1 vwCl (wD γ ad sd_2 ++ wR γ ar sr) H := by rw [e_sd_2]; exact hP
  refine lv_aload_n hx hb dX2_find_10 rfl (lv_at hl 1 rfl) ?_
  refine va_getN (D := γ.1) (ci := 3) (v := .ref (ar 7)) (C := RX3) (T := TX3) (N := 18) hx hb hU uin3 hown hK hP 8 rfl rfl 6 (by decide) (va_Nw.use rfl (hE.2.2.2.2.2.1 _ NW13)) (fun _ h9 => h9) rfl dX2_find_11 ?_
  refine lv_iconst (v := 0) hx hb dX2_find_14 (by decide) ?_
  refine lv_aload_n hx hb dX2_find_15 rfl (lv_at hl 0 rfl) ?_
  refine va_get (D := γ.1) (ci := 2) (v := .ref (ad 4)) (C := RX2) (T := TX2) (N := 5) hx hb hU uin2 hown hK hP 0 rfl rfl 3 (by decide) (hU _ U268) (fun _ h9 => h9) rfl dX2_find_16 ?_
  refine lv_iconst (v := 0) hx hb dX2_find_19 (by decide) ?_
  obtain ⟨g_3, hf⟩ := gd_of hf
  refine va_aldA (C := .int) hx hb hK hP 3 3 rfl rfl (inB_vp g_3) dX2_find_20 ?_
  rw [unF_at ad (inB_lt g_3)]
  refine lv_iconst (v := 0) hx hb dX2_find_21 (by decide) ?_
  refine lv_bipush (v := 10) hx hb dX2_find_22 (by decide) ?_
  refine va_copyi (rest := []) (sp := (0 : Int32)) (dp := (0 : Int32)) (n := (10 : Int32)) (ty := .int) hx hb (hml.trans hl.1.symm) hown (hU _ U775) (hU _ U390) (hU _ U389) (hU _ U92) hK hP (hD _ _) hS 13 (4 + (0 : Int32).toNatClampNeg) 0 0 rfl (un_at γ (inB_lt g_3)) rfl rfl rfl (by decide) (by decide) (by decide) (by decide) (by decide) (fun _ _ => rfl) (Nat.le_of_ble_eq_true rfl) (by decide +kernel) dX2_find_24 (fun H locs hP _ hS => ?_)
  obtain ⟨sd_4, e_sd_4, hf⟩ := nm_of hf
  replace hP : va_P γ.1 vwCl (wD γ ad sd_4 ++ wR γ ar sr) H := by rw [e_sd_4]; exact hP
  refine lv_aload_n hx hb dX2_find_27 rfl (lv_at hl 0 rfl) ?_
  refine lv_aload_n hx hb dX2_find_28 rfl (lv_at hl 1 rfl) ?_
  refine lv_iload_n hx hb dX2_find_29 rfl (lv_at hl 2 rfl) ?_
  refine lv_iconst (v := 0) hx hb dX2_find_30 (by decide) ?_
  refine lv_iconst (v := 0) hx hb dX2_find_31 (by decide) ?_
  refine lv_aload_n hx hb dX2_find_32 rfl (lv_at hl 1 rfl) ?_
  refine va_getN (D := γ.1) (ci := 3) (v := .int (sr 0 1)) (C := RX3) (T := TX3) (N := 18) hx hb hU uin3 hown hK hP 8 rfl rfl 1 (by decide) (va_Nw.use rfl (hE.2.2.2.2.2.1 _ NW5)) (fun _ h9 => h9) rfl dX2_find_33 ?_
  obtain ⟨sd_5, hg_6, hf⟩ := bd_of hf
  refine kt_SF (As := [.ref (ad 0), .ref (ar 0), .int x2, .int (0 : Int32), .int (0 : Int32), .int (sr 0 1)]) (rest := []) (st1 := []) (wc' := wD γ ad sd_5 ++ wR γ ar sr) C0 (c_X2_search l γ ad ar 6 hg_6) (cxS (nA := 6) hts goodU U776 U777 U89 U778 (by decide +kernel) ⟨Nat.le_of_ble_eq_true rfl, Nat.le_of_ble_eq_true rfl⟩) hP (hD _ _) hS hl dX2_find_36 foc_all rfl (Nat.le_of_ble_eq_true rfl) rfl rfl (fun H locs hP hS => ?_)
  obtain rfl := Option.some.inj hf
  exact kt_vret C0 hP hS dX2_find_39
