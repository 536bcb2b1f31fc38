set_option maxHeartbeats 4000000 in
set_option maxRecDepth 100000 in
theorem c_X0_look (l : Launch) (γ : Gm) (ak : Nat → Nat) (ar : Nat → Nat) {sk : GS} {sr : GS} {x2 : Int32} {sk_z : GS} (hf : f_X0_look sk sr x2 = some sk_z) : Kt l γ yX0_look (Cond.code yX0_look cX0_look 4 none :: U) 4 90 [.ref (ak 0), .ref (ar 0), .int x2] (wK γ ak sk ++ wR γ ar sr) none (wK γ ak sk_z ++ wR γ ar sr) := by
  refine Kt.of (by decide) rfl (Nat.le_of_ble_eq_true rfl) rfl ?_
  intro p e s m below meth c A ls C0 hP hD0 hS hl
  obtain ⟨hx, hb, hml, hown, hts, hr, hlocks, hK, hE, hA⟩ := id C0
  have hU : ∀ w ∈ U, w.before _ s = true := fun w h => hts w (List.mem_cons_of_mem _ h)
  have hD : ∀ (sk : GS) (sr : GS), va_D A (wK γ ak sk ++ wR γ ar sr) := fun _ _ => hD0.fst rfl
  have hl : lv_has ls 4 [(0, .ref (ak 0)), (1, .ref (ar 0)), (2, .int x2)] := hl
  have L2 : ∀ (x2_1 : Int32) (n : Nat) (x3_2 : Int32) (sk_3 : GS) (H : Heap) (locs : List Loc) (ls : Array Slot), f_X0_look_L2 sr x2_1 n x3_2 sk_3 = some sk_z → va_P γ.1 vwCl (wK γ ak sk_3 ++ wR γ ar sr) H → va_S A s.heap H locs → lv_has ls 4 [(0, .ref (ak 0)), (1, .ref (ar 0)), (2, .int x2_1), (3, .int x3_2)] → W p l e (rmK 4 90) s m ([.ref (ak 0), .ref (ar 0), .int x2] : List Value).toArray below meth c H locs 0 0 (MQ below (KQ γ A none (wK γ ak sk_z ++ wR γ ar sr)) ([.ref (ak 0), .ref (ar 0), .int x2] : List Value).toArray s 0 0 A) (F0 m 2 ls []) := by
    intro x2_1
    intro n
    induction n with
    | zero =>
      intro x3_2 sk_3 H locs ls hf
      have hf : none = some _ := hf
      cases hf
    | succ n ih =>
      intro x3_2 sk_3 H locs ls hf hP hS hl
      rw [f_X0_look_L2.eq_2] at hf
      refine lv_iload_n hx hb dX0_look_2 rfl (lv_at hl 3 rfl) ?_
      refine lv_iload_n hx hb dX0_look_3 rfl (lv_at hl 2 rfl) ?_
      refine lv_icmp_ge (tgt := 36) hx hb dX0_look_4 (by decide) (fun c_4 => ?_) (fun c_4 => ?_)
      · replace hf := ite_p c_4 hf
        obtain rfl := Option.some.inj hf
        exact kt_vret C0 hP hS dX0_look_36
      · replace hf := ite_n c_4 hf
        refine lv_iload_n hx hb dX0_look_7 rfl (lv_at hl 3 rfl) ?_
        refine lv_sipush (v := 200) hx hb dX0_look_8 (by decide) ?_
        refine lv_icmp_ge (tgt := 36) hx hb dX0_look_11 (by decide) (fun c_5 => ?_) (fun c_5 => ?_)
        · replace hf := ite_p c_5 hf
          obtain rfl := Option.some.inj hf
          exact kt_vret C0 hP hS dX0_look_36
        · replace hf := ite_n c_5 hf
          refine lv_aload_n hx hb dX0_look_14 rfl (lv_at hl 0 rfl) ?_
          refine va_get (D := γ.1) (ci := 0) (v := .ref (ak 1)) (C := RX0) (T := TX0) (N := 1) hx hb hU uin0 hown hK hP 0 rfl rfl 0 (by decide) (hU _ U251) (fun _ h9 => h9) rfl dX0_look_15 ?_
          refine lv_iload_n hx hb dX0_look_18 rfl (lv_at hl 3 rfl) ?_
          refine lv_aload_n hx hb dX0_look_19 rfl (lv_at hl 1 rfl) ?_
          refine lv_aload_n hx hb dX0_look_20 rfl (lv_at hl 1 rfl) ?_
          refine va_getN (D := γ.1) (ci := 3) (v := .int (sr 0 16)) (C := RX3) (T := TX3) (N := 18) hx hb hU uin3 hown hK hP 2 rfl rfl 16 (by decide) (va_Nw.use rfl (hE.2.2.2.2.2.1 _ NW23)) (fun _ h9 => h9) rfl dX0_look_21 ?_
          refine lv_iload_n hx hb dX0_look_24 rfl (lv_at hl 3 rfl) ?_
          refine lv_iadd hx hb dX0_look_25 ?_
          obtain ⟨r_6, hg_7, hf⟩ := bd_of hf
          refine kt_VF (As := [.int ((sr 0 16) + x3_2)]) (rest := [.int x3_2, .ref (ak 1)]) (st1 := [.int r_6, .int x3_2, .ref (ak 1)]) (b := ar 0) (wc' := wK γ ak sk_3 ++ wR γ ar sr) C0 (c_X3_blackIn l γ ar hg_7) (cxV (nA := 1) hts goodU U745 U428 U429 U85 U430 (by decide +kernel) ⟨Nat.le_of_ble_eq_true rfl, Nat.le_of_ble_eq_true rfl⟩) hP (hD _ _) hS hl dX0_look_26 focA2 0 3 rfl rfl rfl rfl (Nat.le_of_ble_eq_true rfl) rfl rfl (fun H locs hP hS => ?_)
          obtain ⟨g_8, hf⟩ := gd_of hf
          refine va_iast hx hb hK hP (hD _ _) hS 1 0 rfl rfl (inB_vp g_8) dX0_look_29 (fun H locs hP _ hS => ?_)
          obtain ⟨sk_9, e_sk_9, hf⟩ := nm_of hf
          replace hP : va_P γ.1 vwCl (wK γ ak sk_9 ++ wR γ ar sr) H := by rw [e_sk_9]; exact hP
          obtain ⟨x3_10, e_x3_10⟩ : ∃ y : Int32, y = x3_2 + (1 : Int32) := ⟨_, rfl⟩
          replace hf := nm_y hf e_x3_10
          refine lv_iinc (v := x3_10) (lv' := [(3, .int x3_10), (0, .ref (ak 0)), (1, .ref (ar 0)), (2, .int x2_1)]) hx hb dX0_look_30 hl (k := 3) rfl (by rw [e_x3_10]; rfl) (by decide) rfl (fun ls hl => ?_)
          refine lv_goto (tgt := 2) hx hb dX0_look_33 (by decide) ?_
          exact ih x3_10 sk_9 _ _ _ hf hP hS (lv_sub hl [1, 2, 3, 0] rfl)
  unfold f_X0_look at hf
  refine lv_iconst (v := 0) hx hb dX0_look_0 (by decide) ?_
  refine lv_istore_n (lv' := [(3, .int (0 : Int32)), (0, .ref (ak 0)), (1, .ref (ar 0)), (2, .int x2)]) hx hb dX0_look_1 rfl hl (by decide) rfl (fun ls hl => ?_)
  exact L2 x2 FU (0 : Int32) sk _ _ _ hf hP hS (lv_sub hl [1, 2, 3, 0] rfl)
set_option maxHeartbeats 4000000 in
set_option maxRecDepth 100000 in
theorem c_X0_yieldWithout (l : Launch) (γ : Gm) (ak : Nat → Nat) (ar : Nat → Nat) {sk : GS} {sr : GS} {x2 : Int32} {x3 : Int32} {rv : Int32} (hf : f_X0_yieldWithout sk sr x2 x3 = some rv) : Kt l γ yX0_yieldWithout (Cond.code yX0_yieldWithout cX0_yieldWithout 6 (some .int) :: U) 2 45 [.ref (ak 0), .ref (ar 0), .int x2, .int x3] (wK γ ak sk ++ wR γ ar sr) (some (.int rv)) (wK γ ak sk ++ wR γ ar sr) := by
  refine Kt.of (by decide) rfl (Nat.le_of_ble_eq_true rfl) rfl ?_
  intro p e s m below meth c A ls C0 hP hD0 hS hl
  obtain ⟨hx, hb, hml, hown, hts, hr, hlocks, hK, hE, hA⟩ := id C0
  have hU : ∀ w ∈ U, w.before _ s = true := fun w h => hts w (List.mem_cons_of_mem _ h)
  have hD : ∀ (sk : GS) (sr : GS), va_D A (wK γ ak sk ++ wR γ ar sr) := fun _ _ => hD0.fst rfl
  have hl : lv_has ls 6 [(0, .ref (ak 0)), (1, .ref (ar 0)), (2, .int x2), (3, .int x3)] := hl
  have L6 : ∀ (x2_1 : Int32) (x3_2 : Int32) (n : Nat) (x4_3 : Int32) (x5_4 : Int32) (H : Heap) (locs : List Loc) (ls : Array Slot), f_X0_yieldWithout_L6 sk sr x2_1 x3_2 n x4_3 x5_4 = some rv → va_P γ.1 vwCl (wK γ ak sk ++ wR γ ar sr) H → va_S A s.heap H locs → lv_has ls 6 [(0, .ref (ak 0)), (1, .ref (ar 0)), (2, .int x2_1), (3, .int x3_2), (4, .int x4_3), (5, .int x5_4)] → W p l e (rmK 2 45) s m ([.ref (ak 0), .ref (ar 0), .int x2, .int x3] : List Value).toArray below meth c H locs 0 0 (MQ below (KQ γ A (some (.int rv)) (wK γ ak sk ++ wR γ ar sr)) ([.ref (ak 0), .ref (ar 0), .int x2, .int x3] : List Value).toArray s 0 0 A) (F0 m 6 ls []) := by
    intro x2_1 x3_2
    intro n
    induction n with
    | zero =>
      intro x4_3 x5_4 H locs ls hf
      have hf : none = some _ := hf
      cases hf
    | succ n ih =>
      intro x4_3 x5_4 H locs ls hf hP hS hl
      rw [f_X0_yieldWithout_L6.eq_2] at hf
      refine lv_iload hx hb dX0_yieldWithout_6 (lv_at hl 5 rfl) ?_
      refine lv_iload_n hx hb dX0_yieldWithout_8 rfl (lv_at hl 2 rfl) ?_
      refine lv_icmp_ge (tgt := 46) hx hb dX0_yieldWithout_9 (by decide) (fun c_5 => ?_) (fun c_5 => ?_)
      · replace hf := ite_p c_5 hf
        refine lv_iload hx hb dX0_yieldWithout_46 (lv_at hl 4 rfl) ?_
        obtain rfl := Option.some.inj hf
        exact kt_iret C0 hP hS dX0_yieldWithout_48
      · replace hf := ite_n c_5 hf
        refine lv_iload hx hb dX0_yieldWithout_12 (lv_at hl 5 rfl) ?_
        refine lv_sipush (v := 200) hx hb dX0_yieldWithout_14 (by decide) ?_
        refine lv_icmp_ge (tgt := 46) hx hb dX0_yieldWithout_17 (by decide) (fun c_6 => ?_) (fun c_6 => ?_)
        · replace hf := ite_p c_6 hf
          refine lv_iload hx hb dX0_yieldWithout_46 (lv_at hl 4 rfl) ?_
          obtain rfl := Option.some.inj hf
          exact kt_iret C0 hP hS dX0_yieldWithout_48
        · replace hf := ite_n c_6 hf
          refine lv_iload hx hb dX0_yieldWithout_20 (lv_at hl 4 rfl) ?_
          refine lv_aload_n hx hb dX0_yieldWithout_22 rfl (lv_at hl 1 rfl) ?_
          refine lv_aload_n hx hb dX0_yieldWithout_23 rfl (lv_at hl 0 rfl) ?_
          refine va_get (D := γ.1) (ci := 0) (v := .ref (ak 1)) (C := RX0) (T := TX0) (N := 1) hx hb hU uin0 hown hK hP 0 rfl rfl 0 (by decide) (hU _ U251) (fun _ h9 => h9) rfl dX0_yieldWithout_24 ?_
          refine lv_iload hx hb dX0_yieldWithout_27 (lv_at hl 5 rfl) ?_
          obtain ⟨g_7, hf⟩ := gd_of hf
          refine va_iald hx hb hK hP 1 0 rfl rfl (inB_vp g_7) dX0_yieldWithout_29 ?_
          refine lv_iload_n hx hb dX0_yieldWithout_30 rfl (lv_at hl 3 rfl) ?_
          refine lv_iconst (v := -1) hx hb dX0_yieldWithout_31 (by decide) ?_
          refine lv_ixor hx hb dX0_yieldWithout_32 ?_
          refine lv_iand hx hb dX0_yieldWithout_33 ?_
          obtain ⟨r_8, hg_9, hf⟩ := bd_of hf
          refine kt_VF (As := [.int ((sk 1 x5_4.toNatClampNeg) &&& (x3_2 ^^^ (-1 : Int32)))]) (rest := [.int x4_3]) (st1 := [.int r_8, .int x4_3]) (b := ar 0) (wc' := wK γ ak sk ++ wR γ ar sr) C0 (c_X3_milkOfAll l γ ar hg_9) (cxV (nA := 1) hts goodU U750 U724 U725 U85 U726 (by decide +kernel) ⟨Nat.le_of_ble_eq_true rfl, Nat.le_of_ble_eq_true rfl⟩) hP (hD _ _) hS hl dX0_yieldWithout_34 focA2 0 3 rfl rfl rfl rfl (Nat.le_of_ble_eq_true rfl) rfl rfl (fun H locs hP hS => ?_)
          refine lv_iadd hx hb dX0_yieldWithout_37 ?_
          refine lv_topi (fun u_10 e_u_10 => ?_)
          replace hf := nm_y hf e_u_10
          refine lv_istore (lv' := [(4, .int u_10), (0, .ref (ak 0)), (1, .ref (ar 0)), (2, .int x2_1), (3, .int x3_2), (5, .int x5_4)]) hx hb dX0_yieldWithout_38 hl (by decide) rfl (fun ls hl => ?_)
          obtain ⟨x5_11, e_x5_11⟩ : ∃ y : Int32, y = x5_4 + (1 : Int32) := ⟨_, rfl⟩
          replace hf := nm_y hf e_x5_11
          refine lv_iinc (v := x5_11) (lv' := [(5, .int x5_11), (4, .int u_10), (0, .ref (ak 0)), (1, .ref (ar 0)), (2, .int x2_1), (3, .int x3_2)]) hx hb dX0_yieldWithout_40 hl (k := 5) rfl (by rw [e_x5_11]; rfl) (by decide) rfl (fun ls hl => ?_)
          refine lv_goto (tgt := 6) hx hb dX0_yieldWithout_43 (by decide) ?_
          exact ih u_10 x5_11 _ _ _ hf hP hS (lv_sub hl [2, 3, 4, 5, 1, 0] rfl)
  unfold f_X0_yieldWithout at hf
  refine lv_iconst (v := 0) hx hb dX0_yieldWithout_0 (by decide) ?_
  refine lv_istore (lv' := [(4, .int (0 : Int32)), (0, .ref (ak 0)), (1, .ref (ar 0)), (2, .int x2), (3, .int x3)]) hx hb dX0_yieldWithout_1 hl (by decide) rfl (fun ls hl => ?_)
  refine lv_iconst (v := 0) hx hb dX0_yieldWithout_3 (by decide) ?_
  refine lv_istore (lv' := [(5, .int (0 : Int32)), (4, .int (0 : Int32)), (0, .ref (ak 0)), (1, .ref (ar 0)), (2, .int x2), (3, .int x3)]) hx hb dX0_yieldWithout_4 hl (by decide) rfl (fun ls hl => ?_)
  exact L6 x2 x3 FU (0 : Int32) (0 : Int32) _ _ _ hf hP hS (lv_sub hl [2, 3, 4, 5, 1, 0] rfl)
set_option maxHeartbeats 4000000 in
set_option maxRecDepth 100000 in
theorem c_X0_yearsWithoutMilk (l : Launch) (γ : Gm) (ak : Nat → Nat) (ar : Nat → Nat) {sk : GS} {sr : GS} {x2 : Int32} {x3 : Int32} {rv : Int32} (hf : f_X0_yearsWithoutMilk sk sr x2 x3 = some rv) : Kt l γ yX0_yearsWithoutMilk (Cond.code yX0_yearsWithoutMilk cX0_yearsWithoutMilk 6 (some .int) :: U) 1 22 [.ref (ak 0), .ref (ar 0), .int x2, .int x3] (wK γ ak sk ++ wR γ ar sr) (some (.int rv)) (wK γ ak sk ++ wR γ ar sr) := by
  refine Kt.of (by decide) rfl (Nat.le_of_ble_eq_true rfl) rfl ?_
  intro p e s m below meth c A ls C0 hP hD0 hS hl
  obtain ⟨hx, hb, hml, hown, hts, hr, hlocks, hK, hE, hA⟩ := id C0
  have hU : ∀ w ∈ U, w.before _ s = true := fun w h => hts w (List.mem_cons_of_mem _ h)
  have hD : ∀ (sk : GS) (sr : GS), va_D A (wK γ ak sk ++ wR γ ar sr) := fun _ _ => hD0.fst rfl
  have hl : lv_has ls 6 [(0, .ref (ak 0)), (1, .ref (ar 0)), (2, .int x2), (3, .int x3)] := hl
  have L6 : ∀ (x2_1 : Int32) (x3_2 : Int32) (n : Nat) (x4_3 : Int32) (x5_4 : Int32) (H : Heap) (locs : List Loc) (ls : Array Slot), f_X0_yearsWithoutMilk_L6 sk sr x2_1 x3_2 n x4_3 x5_4 = some rv → va_P γ.1 vwCl (wK γ ak sk ++ wR γ ar sr) H → va_S A s.heap H locs → lv_has ls 6 [(0, .ref (ak 0)), (1, .ref (ar 0)), (2, .int x2_1), (3, .int x3_2), (4, .int x4_3), (5, .int x5_4)] → W p l e (rmK 1 22) s m ([.ref (ak 0), .ref (ar 0), .int x2, .int x3] : List Value).toArray below meth c H locs 0 0 (MQ below (KQ γ A (some (.int rv)) (wK γ ak sk ++ wR γ ar sr)) ([.ref (ak 0), .ref (ar 0), .int x2, .int x3] : List Value).toArray s 0 0 A) (F0 m 6 ls []) := by
    intro x2_1 x3_2
    intro n
    induction n with
    | zero =>
      intro x4_3 x5_4 H locs ls hf
      have hf : none = some _ := hf
      cases hf
    | succ n ih =>
      intro x4_3 x5_4 H locs ls hf hP hS hl
      rw [f_X0_yearsWithoutMilk_L6.eq_2] at hf
      refine lv_iload hx hb dX0_yearsWithoutMilk_6 (lv_at hl 5 rfl) ?_
      refine lv_iload_n hx hb dX0_yearsWithoutMilk_8 rfl (lv_at hl 2 rfl) ?_
      refine lv_icmp_ge (tgt := 44) hx hb dX0_yearsWithoutMilk_9 (by decide) (fun c_5 => ?_) (fun c_5 => ?_)
      · replace hf := ite_p c_5 hf
        refine lv_iload hx hb dX0_yearsWithoutMilk_44 (lv_at hl 4 rfl) ?_
        obtain rfl := Option.some.inj hf
        exact kt_iret C0 hP hS dX0_yearsWithoutMilk_46
      · replace hf := ite_n c_5 hf
        refine lv_iload hx hb dX0_yearsWithoutMilk_12 (lv_at hl 5 rfl) ?_
        refine lv_sipush (v := 200) hx hb dX0_yearsWithoutMilk_14 (by decide) ?_
        refine lv_icmp_ge (tgt := 44) hx hb dX0_yearsWithoutMilk_17 (by decide) (fun c_6 => ?_) (fun c_6 => ?_)
        · replace hf := ite_p c_6 hf
          refine lv_iload hx hb dX0_yearsWithoutMilk_44 (lv_at hl 4 rfl) ?_
          obtain rfl := Option.some.inj hf
          exact kt_iret C0 hP hS dX0_yearsWithoutMilk_46
        · replace hf := ite_n c_6 hf
          refine lv_aload_n hx hb dX0_yearsWithoutMilk_20 rfl (lv_at hl 1 rfl) ?_
          refine lv_iload_n hx hb dX0_yearsWithoutMilk_21 rfl (lv_at hl 3 rfl) ?_
          refine lv_aload_n hx hb dX0_yearsWithoutMilk_22 rfl (lv_at hl 0 rfl) ?_
          refine va_get (D := γ.1) (ci := 0) (v := .ref (ak 1)) (C := RX0) (T := TX0) (N := 1) hx hb hU uin0 hown hK hP 0 rfl rfl 0 (by decide) (hU _ U251) (fun _ h9 => h9) rfl dX0_yearsWithoutMilk_23 ?_
          refine lv_iload hx hb dX0_yearsWithoutMilk_26 (lv_at hl 5 rfl) ?_
          obtain ⟨g_7, hf⟩ := gd_of hf
          refine va_iald hx hb hK hP 1 0 rfl rfl (inB_vp g_7) dX0_yearsWithoutMilk_28 ?_
          obtain ⟨r_8, hg_9, hf⟩ := bd_of hf
          refine kt_VF (As := [.int x3_2, .int (sk 1 x5_4.toNatClampNeg)]) (rest := []) (st1 := [.int r_8]) (b := ar 0) (wc' := wK γ ak sk ++ wR γ ar sr) C0 (c_X3_milkOf l γ ar hg_9) (cxV (nA := 2) hts goodU U854 U542 U543 U85 U544 (by decide +kernel) ⟨Nat.le_of_ble_eq_true rfl, Nat.le_of_ble_eq_true rfl⟩) hP (hD _ _) hS hl dX0_yearsWithoutMilk_29 focA2 0 3 rfl rfl rfl rfl (Nat.le_of_ble_eq_true rfl) rfl rfl (fun H locs hP hS => ?_)
          refine lv_if_ne (tgt := 38) hx hb dX0_yearsWithoutMilk_32 (by decide) (fun c_10 => ?_) (fun c_10 => ?_)
          · replace hf := ite_n c_10 hf
            obtain ⟨x5_11, e_x5_11⟩ : ∃ y : Int32, y = x5_4 + (1 : Int32) := ⟨_, rfl⟩
            replace hf := nm_y hf e_x5_11
            refine lv_iinc (v := x5_11) (lv' := [(5, .int x5_11), (0, .ref (ak 0)), (1, .ref (ar 0)), (2, .int x2_1), (3, .int x3_2), (4, .int x4_3)]) hx hb dX0_yearsWithoutMilk_38 hl (k := 5) rfl (by rw [e_x5_11]; rfl) (by decide) rfl (fun ls hl => ?_)
            refine lv_goto (tgt := 6) hx hb dX0_yearsWithoutMilk_41 (by decide) ?_
            exact ih x4_3 x5_11 _ _ _ hf hP hS (lv_sub hl [1, 2, 3, 4, 5, 0] rfl)
          · replace hf := ite_p c_10 hf
            obtain ⟨x4_12, e_x4_12⟩ : ∃ y : Int32, y = x4_3 + (1 : Int32) := ⟨_, rfl⟩
            replace hf := nm_y hf e_x4_12
            refine lv_iinc (v := x4_12) (lv' := [(4, .int x4_12), (0, .ref (ak 0)), (1, .ref (ar 0)), (2, .int x2_1), (3, .int x3_2), (5, .int x5_4)]) hx hb dX0_yearsWithoutMilk_35 hl (k := 4) rfl (by rw [e_x4_12]; rfl) (by decide) rfl (fun ls hl => ?_)
            obtain ⟨x5_13, e_x5_13⟩ : ∃ y : Int32, y = x5_4 + (1 : Int32) := ⟨_, rfl⟩
            replace hf := nm_y hf e_x5_13
            refine lv_iinc (v := x5_13) (lv' := [(5, .int x5_13), (4, .int x4_12), (0, .ref (ak 0)), (1, .ref (ar 0)), (2, .int x2_1), (3, .int x3_2)]) hx hb dX0_yearsWithoutMilk_38 hl (k := 5) rfl (by rw [e_x5_13]; rfl) (by decide) rfl (fun ls hl => ?_)
            refine lv_goto (tgt := 6) hx hb dX0_yearsWithoutMilk_41 (by decide) ?_
            exact ih x4_12 x5_13 _ _ _ hf hP hS (lv_sub hl [2, 3, 4, 5, 1, 0] rfl)
  unfold f_X0_yearsWithoutMilk at hf
  refine lv_iconst (v := 0) hx hb dX0_yearsWithoutMilk_0 (by decide) ?_
  refine lv_istore (lv' := [(4, .int (0 : Int32)), (0, .ref (ak 0)), (1, .ref (ar 0)), (2, .int x2), (3, .int x3)]) hx hb dX0_yearsWithoutMilk_1 hl (by decide) rfl (fun ls hl => ?_)
  refine lv_iconst (v := 0) hx hb dX0_yearsWithoutMilk_3 (by decide) ?_
  refine lv_istore (lv' := [(5, .int (0 : Int32)), (4, .int (0 : Int32)), (0, .ref (ak 0)), (1, .ref (ar 0)), (2, .int x2), (3, .int x3)]) hx hb dX0_yearsWithoutMilk_4 hl (by decide) rfl (fun ls hl => ?_)
  exact L6 x2 x3 FU (0 : Int32) (0 : Int32) _ _ _ hf hP hS (lv_sub hl [2, 3, 4, 5, 1, 0] rfl)
set_option maxHeartbeats 4000000 in
set_option maxRecDepth 100000 in
theorem c_X0_poorestValley (l : Launch) (γ : Gm) (ak : Nat → Nat) (ar : Nat → Nat) {sk : GS} {sr : GS} {x2 : Int32} {rv : Int32} (hf : f_X0_poorestValley sk sr x2 = some rv) : Kt l γ yX0_poorestValley (Cond.code yX0_poorestValley cX0_poorestValley 7 (some .int) :: U) 2 47 [.ref (ak 0), .ref (ar 0), .int x2] (wK γ ak sk ++ wR γ ar sr) (some (.int rv)) (wK γ ak sk ++ wR γ ar sr) := by
  refine Kt.of (by decide) rfl (Nat.le_of_ble_eq_true rfl) rfl ?_
  intro p e s m below meth c A ls C0 hP hD0 hS hl
  obtain ⟨hx, hb, hml, hown, hts, hr, hlocks, hK, hE, hA⟩ := id C0
  have hU : ∀ w ∈ U, w.before _ s = true := fun w h => hts w (List.mem_cons_of_mem _ h)
  have hD : ∀ (sk : GS) (sr : GS), va_D A (wK γ ak sk ++ wR γ ar sr) := fun _ _ => hD0.fst rfl
  have hl : lv_has ls 7 [(0, .ref (ak 0)), (1, .ref (ar 0)), (2, .int x2)] := hl
  have J39 : ∀ (x2_9 : Int32) (x5_10 : Int32) (x6_11 : Int32) (K8 : Int32 → Int32 → Int32 → Option (Int32)) (HK8 : ∀ (z3 : Int32) (z4 : Int32) (z5 : Int32) (H : Heap) (locs : List Loc) (ls : Array Slot), K8 z3 z4 z5 = some rv → va_P γ.1 vwCl (wK γ ak sk ++ wR γ ar sr) H → va_S A s.heap H locs → lv_has ls 7 [(0, .ref (ak 0)), (1, .ref (ar 0)), (2, .int x2_9), (3, .int z3), (4, .int z4), (5, .int z5)] → W p l e (rmK 2 47) s m ([.ref (ak 0), .ref (ar 0), .int x2] : List Value).toArray below meth c H locs 0 0 (MQ below (KQ γ A (some (.int rv)) (wK γ ak sk ++ wR γ ar sr)) ([.ref (ak 0), .ref (ar 0), .int x2] : List Value).toArray s 0 0 A) (F0 m 8 ls [])) (H : Heap) (locs : List Loc) (ls : Array Slot), f_X0_poorestValley_J39 x5_10 x6_11 K8 = some rv → va_P γ.1 vwCl (wK γ ak sk ++ wR γ ar sr) H → va_S A s.heap H locs → lv_has ls 7 [(0, .ref (ak 0)), (1, .ref (ar 0)), (2, .int x2_9), (5, .int x5_10), (6, .int x6_11)] → W p l e (rmK 2 47) s m ([.ref (ak 0), .ref (ar 0), .int x2] : List Value).toArray below meth c H locs 0 0 (MQ below (KQ γ A (some (.int rv)) (wK γ ak sk ++ wR γ ar sr)) ([.ref (ak 0), .ref (ar 0), .int x2] : List Value).toArray s 0 0 A) (F0 m 39 ls []) := by
    intro x2_9 x5_10 x6_11 K8 HK8 H locs ls hf hP hS hl
    unfold f_X0_poorestValley_J39 at hf
    refine lv_iload hx hb dX0_poorestValley_39 (lv_at hl 3 rfl) ?_
    refine lv_istore_n (lv' := [(3, .int x5_10), (0, .ref (ak 0)), (1, .ref (ar 0)), (2, .int x2_9), (5, .int x5_10), (6, .int x6_11)]) hx hb dX0_poorestValley_41 rfl hl (by decide) rfl (fun ls hl => ?_)
    refine lv_iload hx hb dX0_poorestValley_42 (lv_at hl 5 rfl) ?_
    refine lv_istore (lv' := [(4, .int x6_11), (3, .int x5_10), (0, .ref (ak 0)), (1, .ref (ar 0)), (2, .int x2_9), (5, .int x5_10), (6, .int x6_11)]) hx hb dX0_poorestValley_44 hl (by decide) rfl (fun ls hl => ?_)
    obtain ⟨x5_12, e_x5_12⟩ : ∃ y : Int32, y = x5_10 + (1 : Int32) := ⟨_, rfl⟩
    replace hf := nm_y hf e_x5_12
    refine lv_iinc (v := x5_12) (lv' := [(5, .int x5_12), (4, .int x6_11), (3, .int x5_10), (0, .ref (ak 0)), (1, .ref (ar 0)), (2, .int x2_9), (6, .int x6_11)]) hx hb dX0_poorestValley_46 hl (k := 5) rfl (by rw [e_x5_12]; rfl) (by decide) rfl (fun ls hl => ?_)
    refine lv_goto (tgt := 8) hx hb dX0_poorestValley_49 (by decide) ?_
    exact HK8 x5_10 x6_11 x5_12 _ _ _ hf hP hS (lv_sub hl [3, 4, 5, 2, 1, 0] rfl)
  have L8 : ∀ (x2_1 : Int32) (n : Nat) (x3_2 : Int32) (x4_3 : Int32) (x5_4 : Int32) (H : Heap) (locs : List Loc) (ls : Array Slot), f_X0_poorestValley_L8 sk sr x2_1 n x3_2 x4_3 x5_4 = some rv → va_P γ.1 vwCl (wK γ ak sk ++ wR γ ar sr) H → va_S A s.heap H locs → lv_has ls 7 [(0, .ref (ak 0)), (1, .ref (ar 0)), (2, .int x2_1), (3, .int x3_2), (4, .int x4_3), (5, .int x5_4)] → W p l e (rmK 2 47) s m ([.ref (ak 0), .ref (ar 0), .int x2] : List Value).toArray below meth c H locs 0 0 (MQ below (KQ γ A (some (.int rv)) (wK γ ak sk ++ wR γ ar sr)) ([.ref (ak 0), .ref (ar 0), .int x2] : List Value).toArray s 0 0 A) (F0 m 8 ls []) := by
    intro x2_1
    intro n
    induction n with
    | zero =>
      intro x3_2 x4_3 x5_4 H locs ls hf
      have hf : none = some _ := hf
      cases hf
    | succ n ih =>
      intro x3_2 x4_3 x5_4 H locs ls hf hP hS hl
      rw [f_X0_poorestValley_L8.eq_2] at hf
      refine lv_iload hx hb dX0_poorestValley_8 (lv_at hl 5 rfl) ?_
      refine lv_aload_n hx hb dX0_poorestValley_10 rfl (lv_at hl 1 rfl) ?_
      refine va_getN (D := γ.1) (ci := 3) (v := .int (sr 0 13)) (C := RX3) (T := TX3) (N := 18) hx hb hU uin3 hown hK hP 2 rfl rfl 13 (by decide) (va_Nw.use rfl (hE.2.2.2.2.2.1 _ NW18)) (fun _ h9 => h9) rfl dX0_poorestValley_11 ?_
      refine lv_icmp_ge (tgt := 52) hx hb dX0_poorestValley_14 (by decide) (fun c_5 => ?_) (fun c_5 => ?_)
      · replace hf := ite_p c_5 hf
        refine lv_iload_n hx hb dX0_poorestValley_52 rfl (lv_at hl 3 rfl) ?_
        obtain rfl := Option.some.inj hf
        exact kt_iret C0 hP hS dX0_poorestValley_53
      · replace hf := ite_n c_5 hf
        refine lv_aload_n hx hb dX0_poorestValley_17 rfl (lv_at hl 0 rfl) ?_
        refine lv_aload_n hx hb dX0_poorestValley_18 rfl (lv_at hl 1 rfl) ?_
        refine lv_iload_n hx hb dX0_poorestValley_19 rfl (lv_at hl 2 rfl) ?_
        refine lv_iload hx hb dX0_poorestValley_20 (lv_at hl 5 rfl) ?_
        obtain ⟨r_6, hg_7, hf⟩ := bd_of hf
        refine kt_V0 (As := [.ref (ar 0), .int x2_1, .int x5_4]) (rest := []) (st1 := [.int r_6]) (b := ak 0) C0 (c_X0_yearsWithoutMilk l γ ak ar hg_7) (cxV (nA := 3) hts goodU U850 U852 U23 U88 U853 (by decide +kernel) ⟨Nat.le_of_ble_eq_true rfl, Nat.le_of_ble_eq_true rfl⟩) hP (hD _ _) hS hl dX0_poorestValley_22 0 0 rfl rfl rfl rfl (Nat.le_of_ble_eq_true rfl) rfl rfl (fun H locs hP hS => ?_)
        refine lv_istore (lv' := [(6, .int r_6), (0, .ref (ak 0)), (1, .ref (ar 0)), (2, .int x2_1), (3, .int x3_2), (4, .int x4_3), (5, .int x5_4)]) hx hb dX0_poorestValley_25 hl (by decide) rfl (fun ls hl => ?_)
        refine lv_iload_n hx hb dX0_poorestValley_27 rfl (lv_at hl 4 rfl) ?_
        refine lv_iconst (v := -1) hx hb dX0_poorestValley_28 (by decide) ?_
        refine lv_icmp_eq (tgt := 39) hx hb dX0_poorestValley_29 (by decide) (fun c_8 => ?_) (fun c_8 => ?_)
        · replace hf := ite_p c_8 hf
          exact J39 x2_1 x5_4 r_6 _ ih _ _ _ hf hP hS (lv_sub hl [1, 2, 3, 6, 0] rfl)
        · replace hf := ite_n c_8 hf
          refine lv_iload hx hb dX0_poorestValley_32 (lv_at hl 0 rfl) ?_
          refine lv_iload hx hb dX0_poorestValley_34 (lv_at hl 5 rfl) ?_
          refine lv_icmp_le (tgt := 46) hx hb dX0_poorestValley_36 (by decide) (fun c_13 => ?_) (fun c_13 => ?_)
          · replace hf := ite_p c_13 hf
            obtain ⟨x5_14, e_x5_14⟩ : ∃ y : Int32, y = x5_4 + (1 : Int32) := ⟨_, rfl⟩
            replace hf := nm_y hf e_x5_14
            refine lv_iinc (v := x5_14) (lv' := [(5, .int x5_14), (6, .int r_6), (0, .ref (ak 0)), (1, .ref (ar 0)), (2, .int x2_1), (3, .int x3_2), (4, .int x4_3)]) hx hb dX0_poorestValley_46 hl (k := 6) rfl (by rw [e_x5_14]; rfl) (by decide) rfl (fun ls hl => ?_)
            refine lv_goto (tgt := 8) hx hb dX0_poorestValley_49 (by decide) ?_
            exact ih x3_2 x4_3 x5_14 _ _ _ hf hP hS (lv_sub hl [2, 3, 4, 5, 6, 0] rfl)
          · replace hf := ite_n c_13 hf
            exact J39 x2_1 x5_4 r_6 _ ih _ _ _ hf hP hS (lv_sub hl [1, 2, 3, 6, 0] rfl)
  unfold f_X0_poorestValley at hf
  refine lv_iconst (v := -1) hx hb dX0_poorestValley_0 (by decide) ?_
  refine lv_istore_n (lv' := [(3, .int (-1 : Int32)), (0, .ref (ak 0)), (1, .ref (ar 0)), (2, .int x2)]) hx hb dX0_poorestValley_1 rfl hl (by decide) rfl (fun ls hl => ?_)
  refine lv_iconst (v := 0) hx hb dX0_poorestValley_2 (by decide) ?_
  refine lv_istore (lv' := [(4, .int (0 : Int32)), (3, .int (-1 : Int32)), (0, .ref (ak 0)), (1, .ref (ar 0)), (2, .int x2)]) hx hb dX0_poorestValley_3 hl (by decide) rfl (fun ls hl => ?_)
  refine lv_iconst (v := 0) hx hb dX0_poorestValley_5 (by decide) ?_
  refine lv_istore (lv' := [(5, .int (0 : Int32)), (4, .int (0 : Int32)), (3, .int (-1 : Int32)), (0, .ref (ak 0)), (1, .ref (ar 0)), (2, .int x2)]) hx hb dX0_poorestValley_6 hl (by decide) rfl (fun ls hl => ?_)
  exact L8 x2 FU (-1 : Int32) (0 : Int32) (0 : Int32) _ _ _ hf hP hS (lv_sub hl [3, 4, 5, 2, 1, 0] rfl)
set_option maxHeartbeats 4000000 in
set_option maxRecDepth 100000 in
theorem c_X0_savingPeak (l : Launch) (γ : Gm) (ak : Nat → Nat) (ar : Nat → Nat) {sk : GS} {sr : GS} {x2 : Int32} {rv : Int32} (hf : f_X0_savingPeak sk sr x2 = some rv) : Kt l γ yX0_savingPeak (Cond.code yX0_savingPeak cX0_savingPeak 7 (some .int) :: U) 3 70 [.ref (ak 0), .ref (ar 0), .int x2] (wK γ ak sk ++ wR γ ar sr) (some (.int rv)) (wK γ ak sk ++ wR γ ar sr) := by
  refine Kt.of (by decide) rfl (Nat.le_of_ble_eq_true rfl) rfl ?_
  intro p e s m below meth c A ls C0 hP hD0 hS hl
  obtain ⟨hx, hb, hml, hown, hts, hr, hlocks, hK, hE, hA⟩ := id C0
  have hU : ∀ w ∈ U, w.before _ s = true := fun w h => hts w (List.mem_cons_of_mem _ h)
  have hD : ∀ (sk : GS) (sr : GS), va_D A (wK γ ak sk ++ wR γ ar sr) := fun _ _ => hD0.fst rfl
  have hl : lv_has ls 7 [(0, .ref (ak 0)), (1, .ref (ar 0)), (2, .int x2)] := hl
  have J41 : ∀ (x2_9 : Int32) (x5_10 : Int32) (x6_11 : Int32) (K8 : Int32 → Int32 → Int32 → Option (Int32)) (HK8 : ∀ (z3 : Int32) (z4 : Int32) (z5 : Int32) (H : Heap) (locs : List Loc) (ls : Array Slot), K8 z3 z4 z5 = some rv → va_P γ.1 vwCl (wK γ ak sk ++ wR γ ar sr) H → va_S A s.heap H locs → lv_has ls 7 [(0, .ref (ak 0)), (1, .ref (ar 0)), (2, .int x2_9), (3, .int z3), (4, .int z4), (5, .int z5)] → W p l e (rmK 3 70) s m ([.ref (ak 0), .ref (ar 0), .int x2] : List Value).toArray below meth c H locs 0 0 (MQ below (KQ γ A (some (.int rv)) (wK γ ak sk ++ wR γ ar sr)) ([.ref (ak 0), .ref (ar 0), .int x2] : List Value).toArray s 0 0 A) (F0 m 8 ls [])) (H : Heap) (locs : List Loc) (ls : Array Slot), f_X0_savingPeak_J41 x5_10 x6_11 K8 = some rv → va_P γ.1 vwCl (wK γ ak sk ++ wR γ ar sr) H → va_S A s.heap H locs → lv_has ls 7 [(0, .ref (ak 0)), (1, .ref (ar 0)), (2, .int x2_9), (5, .int x5_10), (6, .int x6_11)] → W p l e (rmK 3 70) s m ([.ref (ak 0), .ref (ar 0), .int x2] : List Value).toArray below meth c H locs 0 0 (MQ below (KQ γ A (some (.int rv)) (wK γ ak sk ++ wR γ ar sr)) ([.ref (ak 0), .ref (ar 0), .int x2] : List Value).toArray s 0 0 A) (F0 m 41 ls []) := by
    intro x2_9 x5_10 x6_11 K8 HK8 H locs ls hf hP hS hl
    unfold f_X0_savingPeak_J41 at hf
    refine lv_iload hx hb dX0_savingPeak_41 (lv_at hl 3 rfl) ?_
    refine lv_istore_n (lv' := [(3, .int x5_10), (0, .ref (ak 0)), (1, .ref (ar 0)), (2, .int x2_9), (5, .int x5_10), (6, .int x6_11)]) hx hb dX0_savingPeak_43 rfl hl (by decide) rfl (fun ls hl => ?_)
    refine lv_iload hx hb dX0_savingPeak_44 (lv_at hl 5 rfl) ?_
    refine lv_istore (lv' := [(4, .int x6_11), (3, .int x5_10), (0, .ref (ak 0)), (1, .ref (ar 0)), (2, .int x2_9), (5, .int x5_10), (6, .int x6_11)]) hx hb dX0_savingPeak_46 hl (by decide) rfl (fun ls hl => ?_)
    obtain ⟨x5_12, e_x5_12⟩ : ∃ y : Int32, y = x5_10 + (1 : Int32) := ⟨_, rfl⟩
    replace hf := nm_y hf e_x5_12
    refine lv_iinc (v := x5_12) (lv' := [(5, .int x5_12), (4, .int x6_11), (3, .int x5_10), (0, .ref (ak 0)), (1, .ref (ar 0)), (2, .int x2_9), (6, .int x6_11)]) hx hb dX0_savingPeak_48 hl (k := 5) rfl (by rw [e_x5_12]; rfl) (by decide) rfl (fun ls hl => ?_)
    refine lv_goto (tgt := 8) hx hb dX0_savingPeak_51 (by decide) ?_
    exact HK8 x5_10 x6_11 x5_12 _ _ _ hf hP hS (lv_sub hl [3, 4, 5, 2, 1, 0] rfl)
  have L8 : ∀ (x2_1 : Int32) (n : Nat) (x3_2 : Int32) (x4_3 : Int32) (x5_4 : Int32) (H : Heap) (locs : List Loc) (ls : Array Slot), f_X0_savingPeak_L8 sk sr x2_1 n x3_2 x4_3 x5_4 = some rv → va_P γ.1 vwCl (wK γ ak sk ++ wR γ ar sr) H → va_S A s.heap H locs → lv_has ls 7 [(0, .ref (ak 0)), (1, .ref (ar 0)), (2, .int x2_1), (3, .int x3_2), (4, .int x4_3), (5, .int x5_4)] → W p l e (rmK 3 70) s m ([.ref (ak 0), .ref (ar 0), .int x2] : List Value).toArray below meth c H locs 0 0 (MQ below (KQ γ A (some (.int rv)) (wK γ ak sk ++ wR γ ar sr)) ([.ref (ak 0), .ref (ar 0), .int x2] : List Value).toArray s 0 0 A) (F0 m 8 ls []) := by
    intro x2_1
    intro n
    induction n with
    | zero =>
      intro x3_2 x4_3 x5_4 H locs ls hf
      have hf : none = some _ := hf
      cases hf
    | succ n ih =>
      intro x3_2 x4_3 x5_4 H locs ls hf hP hS hl
      rw [f_X0_savingPeak_L8.eq_2] at hf
      refine lv_iload hx hb dX0_savingPeak_8 (lv_at hl 5 rfl) ?_
      refine lv_aload_n hx hb dX0_savingPeak_10 rfl (lv_at hl 1 rfl) ?_
      refine va_getN (D := γ.1) (ci := 3) (v := .int (sr 0 0)) (C := RX3) (T := TX3) (N := 18) hx hb hU uin3 hown hK hP 2 rfl rfl 0 (by decide) (va_Nw.use rfl (hE.2.2.2.2.2.1 _ NW2)) (fun _ h9 => h9) rfl dX0_savingPeak_11 ?_
      refine lv_icmp_ge (tgt := 54) hx hb dX0_savingPeak_14 (by decide) (fun c_5 => ?_) (fun c_5 => ?_)
      · replace hf := ite_p c_5 hf
        refine lv_iload_n hx hb dX0_savingPeak_54 rfl (lv_at hl 3 rfl) ?_
        obtain rfl := Option.some.inj hf
        exact kt_iret C0 hP hS dX0_savingPeak_55
      · replace hf := ite_n c_5 hf
        refine lv_aload_n hx hb dX0_savingPeak_17 rfl (lv_at hl 0 rfl) ?_
        refine lv_aload_n hx hb dX0_savingPeak_18 rfl (lv_at hl 1 rfl) ?_
        refine lv_iload_n hx hb dX0_savingPeak_19 rfl (lv_at hl 2 rfl) ?_
        refine lv_iconst (v := 1) hx hb dX0_savingPeak_20 (by decide) ?_
        refine lv_iload hx hb dX0_savingPeak_21 (lv_at hl 5 rfl) ?_
        refine lv_ishl hx hb dX0_savingPeak_23 ?_
        obtain ⟨r_6, hg_7, hf⟩ := bd_of hf
        refine kt_V0 (As := [.ref (ar 0), .int x2_1, .int ((1 : Int32) <<< (x5_4 &&& 31))]) (rest := []) (st1 := [.int r_6]) (b := ak 0) C0 (c_X0_yieldWithout l γ ak ar hg_7) (cxV (nA := 3) hts goodU U859 U747 U748 U88 U749 (by decide +kernel) ⟨Nat.le_of_ble_eq_true rfl, Nat.le_of_ble_eq_true rfl⟩) hP (hD _ _) hS hl dX0_savingPeak_24 0 0 rfl rfl rfl rfl (Nat.le_of_ble_eq_true rfl) rfl rfl (fun H locs hP hS => ?_)
        refine lv_istore (lv' := [(6, .int r_6), (0, .ref (ak 0)), (1, .ref (ar 0)), (2, .int x2_1), (3, .int x3_2), (4, .int x4_3), (5, .int x5_4)]) hx hb dX0_savingPeak_27 hl (by decide) rfl (fun ls hl => ?_)
        refine lv_iload_n hx hb dX0_savingPeak_29 rfl (lv_at hl 4 rfl) ?_
        refine lv_iconst (v := -1) hx hb dX0_savingPeak_30 (by decide) ?_
        refine lv_icmp_eq (tgt := 41) hx hb dX0_savingPeak_31 (by decide) (fun c_8 => ?_) (fun c_8 => ?_)
        · replace hf := ite_p c_8 hf
          exact J41 x2_1 x5_4 r_6 _ ih _ _ _ hf hP hS (lv_sub hl [1, 2, 3, 6, 0] rfl)
        · replace hf := ite_n c_8 hf
          refine lv_iload hx hb dX0_savingPeak_34 (lv_at hl 0 rfl) ?_
          refine lv_iload hx hb dX0_savingPeak_36 (lv_at hl 5 rfl) ?_
          refine lv_icmp_le (tgt := 48) hx hb dX0_savingPeak_38 (by decide) (fun c_13 => ?_) (fun c_13 => ?_)
          · replace hf := ite_p c_13 hf
            obtain ⟨x5_14, e_x5_14⟩ : ∃ y : Int32, y = x5_4 + (1 : Int32) := ⟨_, rfl⟩
            replace hf := nm_y hf e_x5_14
            refine lv_iinc (v := x5_14) (lv' := [(5, .int x5_14), (6, .int r_6), (0, .ref (ak 0)), (1, .ref (ar 0)), (2, .int x2_1), (3, .int x3_2), (4, .int x4_3)]) hx hb dX0_savingPeak_48 hl (k := 6) rfl (by rw [e_x5_14]; rfl) (by decide) rfl (fun ls hl => ?_)
            refine lv_goto (tgt := 8) hx hb dX0_savingPeak_51 (by decide) ?_
            exact ih x3_2 x4_3 x5_14 _ _ _ hf hP hS (lv_sub hl [2, 3, 4, 5, 6, 0] rfl)
          · replace hf := ite_n c_13 hf
            exact J41 x2_1 x5_4 r_6 _ ih _ _ _ hf hP hS (lv_sub hl [1, 2, 3, 6, 0] rfl)
  unfold f_X0_savingPeak at hf
  refine lv_iconst (v := -1) hx hb dX0_savingPeak_0 (by decide) ?_
  refine lv_istore_n (lv' := [(3, .int (-1 : Int32)), (0, .ref (ak 0)), (1, .ref (ar 0)), (2, .int x2)]) hx hb dX0_savingPeak_1 rfl hl (by decide) rfl (fun ls hl => ?_)
  refine lv_iconst (v := 0) hx hb dX0_savingPeak_2 (by decide) ?_
  refine lv_istore (lv' := [(4, .int (0 : Int32)), (3, .int (-1 : Int32)), (0, .ref (ak 0)), (1, .ref (ar 0)), (2, .int x2)]) hx hb dX0_savingPeak_3 hl (by decide) rfl (fun ls hl => ?_)
  refine lv_iconst (v := 0) hx hb dX0_savingPeak_5 (by decide) ?_
  refine lv_istore (lv' := [(5, .int (0 : Int32)), (4, .int (0 : Int32)), (3, .int (-1 : Int32)), (0, .ref (ak 0)), (1, .ref (ar 0)), (2, .int x2)]) hx hb dX0_savingPeak_6 hl (by decide) rfl (fun ls hl => ?_)
  exact L8 x2 FU (-1 : Int32) (0 : Int32) (0 : Int32) _ _ _ hf hP hS (lv_sub hl [3, 4, 5, 2, 1, 0] rfl)
