set_option maxHeartbeats 4000000 in
set_option maxRecDepth 100000 in
theorem c_X6_cost (l : Launch) (γ : Gm) (a : Nat → Nat → Nat) {so : GS} {r0 : GS} {r1 : GS} {r2 : GS} {rw : Nat → GS} {re : Nat → Nat → Int64} {tn : Option Nat} {se : GS} {sv : GS} {sk : GS} {sd : GS} {x1 : Int32} {rv : Int32} {so_z : GS} {r2_z : GS} {sk_z : GS} (hf : f_X6_cost so r0 r2 sk x1 = some (rv, so_z, r2_z, sk_z)) : Kt l γ yX6_cost (Cond.code yX6_cost cX6_cost 3 (some .int) :: U) 5 115 [.ref ((a 0) 0), .int x1] (wC γ a so r0 r1 r2 rw re tn se sv sk sd) (some (.int rv)) (wC γ a so_z r0 r1 r2_z rw re tn se sv sk_z sd) := by
  refine Kt.of (by decide) rfl (Nat.le_of_ble_eq_true rfl) rfl ?_
  intro p e s m below meth c A ls C0 hP hD0 hS hl
  obtain ⟨hx, hb, hml, hown, hts, hr, hlocks, hK, hE, hA⟩ := id C0
  have hU : ∀ w ∈ U, w.before _ s = true := fun w h => hts w (List.mem_cons_of_mem _ h)
  have hD : ∀ (so : GS) (r0 : GS) (r1 : GS) (r2 : GS) (rw : Nat → GS) (re : Nat → Nat → Int64) (tn : Option Nat) (se : GS) (sv : GS) (sk : GS) (sd : GS), va_D A (wC γ a so r0 r1 r2 rw re tn se sv sk sd) := fun _ _ _ _ _ _ _ _ _ _ _ => hD0.fst rfl
  have hl : lv_has ls 3 [(0, .ref ((a 0) 0)), (1, .int x1)] := hl
  unfold f_X6_cost at hf
  refine lv_aload_n hx hb dX6_cost_0 rfl (lv_at hl 0 rfl) ?_
  refine va_get (D := γ.1) (ci := 6) (v := .ref ((a 1) 0)) (C := RX6) (T := TX6) (N := 12) hx hb hU uin6 hown hK hP 0 rfl rfl 0 (by decide) (hU _ U299) (fun _ h9 => h9) rfl dX6_cost_1 ?_
  refine lv_iload_n hx hb dX6_cost_4 rfl (lv_at hl 1 rfl) ?_
  obtain ⟨r_1, hg_2, hf⟩ := bd_of hf
  refine kt_VF (As := [.int x1]) (rest := []) (st1 := [.int r_1]) (b := (a 1) 0) (wc' := wC γ a so r0 r1 r2 rw re tn se sv sk sd) C0 (c_X3_isPeak l γ (a 1) hg_2) (cxV (nA := 1) hts goodU U403 U404 U405 U85 U406 (by decide +kernel) ⟨Nat.le_of_ble_eq_true rfl, Nat.le_of_ble_eq_true rfl⟩) hP (hD _ _ _ _ _ _ _ _ _ _ _) hS hl dX6_cost_5 (foc_ro (foc_r0 γ a _ _ _ _ _ _ _ _ _ _ _ (fun _ _ => 0))) 0 3 rfl rfl rfl rfl (Nat.le_of_ble_eq_true rfl) rfl rfl (fun H locs hP hS => ?_)
  refine lv_if_ne (tgt := 21) hx hb dX6_cost_8 (by decide) (fun c_3 => ?_) (fun c_3 => ?_)
  · replace hf := ite_n c_3 hf
    refine lv_aload_n hx hb dX6_cost_21 rfl (lv_at hl 0 rfl) ?_
    refine va_get (D := γ.1) (ci := 6) (v := .ref ((a 1) 0)) (C := RX6) (T := TX6) (N := 12) hx hb hU uin6 hown hK hP 0 rfl rfl 0 (by decide) (hU _ U299) (fun _ h9 => h9) rfl dX6_cost_22 ?_
    refine lv_iload_n hx hb dX6_cost_25 rfl (lv_at hl 1 rfl) ?_
    obtain ⟨r_4, hg_5, hf⟩ := bd_of hf
    refine kt_VF (As := [.int x1]) (rest := []) (st1 := [.int r_4]) (b := (a 1) 0) (wc' := wC γ a so r0 r1 r2 rw re tn se sv sk sd) C0 (c_X3_isStanding l γ (a 1) hg_5) (cxV (nA := 1) hts goodU U755 U436 U437 U85 U438 (by decide +kernel) ⟨Nat.le_of_ble_eq_true rfl, Nat.le_of_ble_eq_true rfl⟩) hP (hD _ _ _ _ _ _ _ _ _ _ _) hS hl dX6_cost_26 (foc_ro (foc_r0 γ a _ _ _ _ _ _ _ _ _ _ _ (fun _ _ => 0))) 0 3 rfl rfl rfl rfl (Nat.le_of_ble_eq_true rfl) rfl rfl (fun H locs hP hS => ?_)
    refine lv_if_ne (tgt := 43) hx hb dX6_cost_29 (by decide) (fun c_6 => ?_) (fun c_6 => ?_)
    · replace hf := ite_n c_6 hf
      refine lv_aload_n hx hb dX6_cost_43 rfl (lv_at hl 0 rfl) ?_
      refine va_get (D := γ.1) (ci := 6) (v := .ref ((a 6) 0)) (C := RX6) (T := TX6) (N := 12) hx hb hU uin6 hown hK hP 0 rfl rfl 10 (by decide) (hU _ U309) (fun _ h9 => h9) rfl dX6_cost_44 ?_
      refine lv_aload_n hx hb dX6_cost_47 rfl (lv_at hl 0 rfl) ?_
      refine va_get (D := γ.1) (ci := 6) (v := .ref ((a 1) 0)) (C := RX6) (T := TX6) (N := 12) hx hb hU uin6 hown hK hP 0 rfl rfl 0 (by decide) (hU _ U299) (fun _ h9 => h9) rfl dX6_cost_48 ?_
      refine lv_bipush (v := 100) hx hb dX6_cost_51 (by decide) ?_
      obtain ⟨sk_7, hg_8, hf⟩ := bd_of hf
      refine kt_VF (As := [.ref ((a 1) 0), .int (100 : Int32)]) (rest := []) (st1 := []) (b := (a 6) 0) (wc' := wC γ a so r0 r1 r2 rw re tn se sv sk_7 sd) C0 (c_X0_look l γ (a 6) (a 1) hg_8) (cxV (nA := 2) hts goodU U741 U742 U743 U88 U744 (by decide +kernel) ⟨Nat.le_of_ble_eq_true rfl, Nat.le_of_ble_eq_true rfl⟩) hP (hD _ _ _ _ _ _ _ _ _ _ _) hS hl dX6_cost_53 (foc_sk_r0 γ a _ _ _ _ _ _ _ _ _ _ _ _ _) 0 0 rfl rfl rfl rfl (Nat.le_of_ble_eq_true rfl) rfl rfl (fun H locs hP hS => ?_)
      refine lv_aload_n hx hb dX6_cost_56 rfl (lv_at hl 0 rfl) ?_
      refine va_get (D := γ.1) (ci := 6) (v := .ref ((a 6) 0)) (C := RX6) (T := TX6) (N := 12) hx hb hU uin6 hown hK hP 0 rfl rfl 10 (by decide) (hU _ U309) (fun _ h9 => h9) rfl dX6_cost_57 ?_
      refine lv_aload_n hx hb dX6_cost_60 rfl (lv_at hl 0 rfl) ?_
      refine va_get (D := γ.1) (ci := 6) (v := .ref ((a 1) 0)) (C := RX6) (T := TX6) (N := 12) hx hb hU uin6 hown hK hP 0 rfl rfl 0 (by decide) (hU _ U299) (fun _ h9 => h9) rfl dX6_cost_61 ?_
      refine lv_bipush (v := 100) hx hb dX6_cost_64 (by decide) ?_
      refine lv_iconst (v := 0) hx hb dX6_cost_66 (by decide) ?_
      obtain ⟨r_9, hg_10, hf⟩ := bd_of hf
      refine kt_VF (As := [.ref ((a 1) 0), .int (100 : Int32), .int (0 : Int32)]) (rest := []) (st1 := [.int r_9]) (b := (a 6) 0) (wc' := wC γ a so r0 r1 r2 rw re tn se sv sk_7 sd) C0 (c_X0_yieldWithout l γ (a 6) (a 1) hg_10) (cxV (nA := 3) hts goodU U746 U747 U748 U88 U749 (by decide +kernel) ⟨Nat.le_of_ble_eq_true rfl, Nat.le_of_ble_eq_true rfl⟩) hP (hD _ _ _ _ _ _ _ _ _ _ _) hS hl dX6_cost_67 (foc_ro (foc_sk_r0 γ a _ _ _ _ _ _ _ _ _ _ _ (fun _ _ => 0) (fun _ _ => 0))) 0 0 rfl rfl rfl rfl (Nat.le_of_ble_eq_true rfl) rfl rfl (fun H locs hP hS => ?_)
      refine lv_istore_n (lv' := [(2, .int r_9), (0, .ref ((a 0) 0)), (1, .int x1)]) hx hb dX6_cost_70 rfl hl (by decide) rfl (fun ls hl => ?_)
      refine lv_aload_n hx hb dX6_cost_71 rfl (lv_at hl 1 rfl) ?_
      refine va_get (D := γ.1) (ci := 6) (v := .ref ((a 3) 0)) (C := RX6) (T := TX6) (N := 12) hx hb hU uin6 hown hK hP 0 rfl rfl 2 (by decide) (hU _ U301) (fun _ h9 => h9) rfl dX6_cost_72 ?_
      refine lv_aload_n hx hb dX6_cost_75 rfl (lv_at hl 1 rfl) ?_
      refine va_get (D := γ.1) (ci := 6) (v := .ref ((a 1) 0)) (C := RX6) (T := TX6) (N := 12) hx hb hU uin6 hown hK hP 0 rfl rfl 0 (by decide) (hU _ U299) (fun _ h9 => h9) rfl dX6_cost_76 ?_
      obtain ⟨r2_11, hg_12, hf⟩ := bd_of hf
      refine kt_VF (As := [.ref ((a 1) 0)]) (rest := []) (st1 := []) (b := (a 3) 0) (wc' := wC γ a so r0 r1 r2_11 rw re tn se sv sk_7 sd) C0 (c_X3_become l γ (a 3) (a 1) hg_12) (cxV (nA := 1) hts goodU U549 U550 U551 U85 U552 (by decide +kernel) ⟨Nat.le_of_ble_eq_true rfl, Nat.le_of_ble_eq_true rfl⟩) hP (hD _ _ _ _ _ _ _ _ _ _ _) hS hl dX6_cost_79 (foc_r2_r0 γ a _ _ _ _ _ _ _ _ _ _ _ _ _) 0 3 rfl rfl rfl rfl (Nat.le_of_ble_eq_true rfl) rfl rfl (fun H locs hP hS => ?_)
      refine lv_aload_n hx hb dX6_cost_82 rfl (lv_at hl 1 rfl) ?_
      refine va_get (D := γ.1) (ci := 6) (v := .ref ((a 3) 0)) (C := RX6) (T := TX6) (N := 12) hx hb hU uin6 hown hK hP 0 rfl rfl 2 (by decide) (hU _ U301) (fun _ h9 => h9) rfl dX6_cost_83 ?_
      refine lv_iload_n hx hb dX6_cost_86 rfl (lv_at hl 2 rfl) ?_
      obtain ⟨r_13, r2_14, hg_15, hf⟩ := bd2_of hf
      refine kt_VF (As := [.int x1]) (rest := []) (st1 := [.int r_13]) (b := (a 3) 0) (wc' := wC γ a so r0 r1 r2_14 rw re tn se sv sk_7 sd) C0 (c_X3_lose l γ (a 3) hg_15) (cxV (nA := 1) hts goodU U795 U677 U678 U85 U679 (by decide +kernel) ⟨Nat.le_of_ble_eq_true rfl, Nat.le_of_ble_eq_true rfl⟩) hP (hD _ _ _ _ _ _ _ _ _ _ _) hS hl dX6_cost_87 (foc_r2 γ a _ _ _ _ _ _ _ _ _ _ _ _) 0 3 rfl rfl rfl rfl (Nat.le_of_ble_eq_true rfl) rfl rfl (fun H locs hP hS => ?_)
      refine lv_pop hx hb dX6_cost_90 rfl ?_
      refine lv_aload_n hx hb dX6_cost_91 rfl (lv_at hl 1 rfl) ?_
      refine va_get (D := γ.1) (ci := 6) (v := .ref ((a 6) 0)) (C := RX6) (T := TX6) (N := 12) hx hb hU uin6 hown hK hP 0 rfl rfl 10 (by decide) (hU _ U309) (fun _ h9 => h9) rfl dX6_cost_92 ?_
      refine lv_aload_n hx hb dX6_cost_95 rfl (lv_at hl 1 rfl) ?_
      refine va_get (D := γ.1) (ci := 6) (v := .ref ((a 3) 0)) (C := RX6) (T := TX6) (N := 12) hx hb hU uin6 hown hK hP 0 rfl rfl 2 (by decide) (hU _ U301) (fun _ h9 => h9) rfl dX6_cost_96 ?_
      refine lv_bipush (v := 100) hx hb dX6_cost_99 (by decide) ?_
      obtain ⟨sk_16, hg_17, hf⟩ := bd_of hf
      refine kt_VF (As := [.ref ((a 3) 0), .int (100 : Int32)]) (rest := []) (st1 := []) (b := (a 6) 0) (wc' := wC γ a so r0 r1 r2_14 rw re tn se sv sk_16 sd) C0 (c_X0_look l γ (a 6) (a 3) hg_17) (cxV (nA := 2) hts goodU U741 U742 U743 U88 U744 (by decide +kernel) ⟨Nat.le_of_ble_eq_true rfl, Nat.le_of_ble_eq_true rfl⟩) hP (hD _ _ _ _ _ _ _ _ _ _ _) hS hl dX6_cost_101 (foc_sk_r2 γ a _ _ _ _ _ _ _ _ _ _ _ _ _) 0 0 rfl rfl rfl rfl (Nat.le_of_ble_eq_true rfl) rfl rfl (fun H locs hP hS => ?_)
      refine lv_iload_n hx hb dX6_cost_104 rfl (lv_at hl 0 rfl) ?_
      refine lv_aload_n hx hb dX6_cost_105 rfl (lv_at hl 1 rfl) ?_
      refine va_get (D := γ.1) (ci := 6) (v := .ref ((a 6) 0)) (C := RX6) (T := TX6) (N := 12) hx hb hU uin6 hown hK hP 0 rfl rfl 10 (by decide) (hU _ U309) (fun _ h9 => h9) rfl dX6_cost_106 ?_
      refine lv_aload_n hx hb dX6_cost_109 rfl (lv_at hl 1 rfl) ?_
      refine va_get (D := γ.1) (ci := 6) (v := .ref ((a 3) 0)) (C := RX6) (T := TX6) (N := 12) hx hb hU uin6 hown hK hP 0 rfl rfl 2 (by decide) (hU _ U301) (fun _ h9 => h9) rfl dX6_cost_110 ?_
      refine lv_bipush (v := 100) hx hb dX6_cost_113 (by decide) ?_
      refine lv_iconst (v := 0) hx hb dX6_cost_115 (by decide) ?_
      obtain ⟨r_18, hg_19, hf⟩ := bd_of hf
      refine kt_VF (As := [.ref ((a 3) 0), .int (100 : Int32), .int (0 : Int32)]) (rest := [.int r_9]) (st1 := [.int r_18, .int r_9]) (b := (a 6) 0) (wc' := wC γ a so r0 r1 r2_14 rw re tn se sv sk_16 sd) C0 (c_X0_yieldWithout l γ (a 6) (a 3) hg_19) (cxV (nA := 3) hts goodU U746 U747 U748 U88 U749 (by decide +kernel) ⟨Nat.le_of_ble_eq_true rfl, Nat.le_of_ble_eq_true rfl⟩) hP (hD _ _ _ _ _ _ _ _ _ _ _) hS hl dX6_cost_116 (foc_ro (foc_sk_r2 γ a _ _ _ _ _ _ _ _ _ _ _ (fun _ _ => 0) (fun _ _ => 0))) 0 0 rfl rfl rfl rfl (Nat.le_of_ble_eq_true rfl) rfl rfl (fun H locs hP hS => ?_)
      refine lv_isub hx hb dX6_cost_119 ?_
      obtain ⟨rfl, rfl, rfl, rfl⟩ := rt4 hf
      exact kt_iret C0 hP hS dX6_cost_120
    · replace hf := ite_p c_6 hf
      refine lv_aload_n hx hb dX6_cost_32 rfl (lv_at hl 0 rfl) ?_
      refine lv_bipush (v := 6) hx hb dX6_cost_33 (by decide) ?_
      obtain ⟨r_20, so_21, hg_22, hf⟩ := bd2_of hf
      refine kt_V0 (As := [.int (6 : Int32)]) (rest := []) (st1 := [.int r_20]) (b := (a 0) 0) C0 (c_X6_refused l γ a hg_22) (cxV (nA := 1) hts goodU U343 U345 U0 U84 U346 (by decide +kernel) ⟨Nat.le_of_ble_eq_true rfl, Nat.le_of_ble_eq_true rfl⟩) hP (hD _ _ _ _ _ _ _ _ _ _ _) hS hl dX6_cost_35 0 6 rfl rfl rfl rfl (Nat.le_of_ble_eq_true rfl) rfl rfl (fun H locs hP hS => ?_)
      refine lv_ldcw hx hb hown (hU _ U794) dX6_cost_38 ?_
      refine lv_isub hx hb dX6_cost_41 ?_
      obtain ⟨rfl, rfl, rfl, rfl⟩ := rt4 hf
      exact kt_iret C0 hP hS dX6_cost_42
  · replace hf := ite_p c_3 hf
    refine lv_aload_n hx hb dX6_cost_11 rfl (lv_at hl 0 rfl) ?_
    refine lv_iconst (v := 1) hx hb dX6_cost_12 (by decide) ?_
    obtain ⟨r_23, so_24, hg_25, hf⟩ := bd2_of hf
    refine kt_V0 (As := [.int (1 : Int32)]) (rest := []) (st1 := [.int r_23]) (b := (a 0) 0) C0 (c_X6_refused l γ a hg_25) (cxV (nA := 1) hts goodU U343 U345 U0 U84 U346 (by decide +kernel) ⟨Nat.le_of_ble_eq_true rfl, Nat.le_of_ble_eq_true rfl⟩) hP (hD _ _ _ _ _ _ _ _ _ _ _) hS hl dX6_cost_13 0 6 rfl rfl rfl rfl (Nat.le_of_ble_eq_true rfl) rfl rfl (fun H locs hP hS => ?_)
    refine lv_ldcw hx hb hown (hU _ U794) dX6_cost_16 ?_
    refine lv_isub hx hb dX6_cost_19 ?_
    obtain ⟨rfl, rfl, rfl, rfl⟩ := rt4 hf
    exact kt_iret C0 hP hS dX6_cost_20
set_option maxHeartbeats 4000000 in
set_option maxRecDepth 100000 in
theorem c_X6_screened (l : Launch) (γ : Gm) (a : Nat → Nat → Nat) {so : GS} {r0 : GS} {r1 : GS} {r2 : GS} {rw : Nat → GS} {re : Nat → Nat → Int64} {tn : Option Nat} {se : GS} {sv : GS} {sk : GS} {sd : GS} {x1 : Int32} {x2 : Int32} {x3 : Int32} {rv : Int32} {so_z : GS} (hf : f_X6_screened so r0 x1 x2 x3 = some (rv, so_z)) : Kt l γ yX6_screened (Cond.code yX6_screened cX6_screened 4 (some .int) :: U) 2 49 [.ref ((a 0) 0), .int x1, .int x2, .int x3] (wC γ a so r0 r1 r2 rw re tn se sv sk sd) (some (.int rv)) (wC γ a so_z r0 r1 r2 rw re tn se sv sk sd) := by
  refine Kt.of (by decide) rfl (Nat.le_of_ble_eq_true rfl) rfl ?_
  intro p e s m below meth c A ls C0 hP hD0 hS hl
  obtain ⟨hx, hb, hml, hown, hts, hr, hlocks, hK, hE, hA⟩ := id C0
  have hU : ∀ w ∈ U, w.before _ s = true := fun w h => hts w (List.mem_cons_of_mem _ h)
  have hD : ∀ (so : GS) (r0 : GS) (r1 : GS) (r2 : GS) (rw : Nat → GS) (re : Nat → Nat → Int64) (tn : Option Nat) (se : GS) (sv : GS) (sk : GS) (sd : GS), va_D A (wC γ a so r0 r1 r2 rw re tn se sv sk sd) := fun _ _ _ _ _ _ _ _ _ _ _ => hD0.fst rfl
  have hl : lv_has ls 4 [(0, .ref ((a 0) 0)), (1, .int x1), (2, .int x2), (3, .int x3)] := hl
  have J22 : ∀ (so_4 : GS) (H : Heap) (locs : List Loc) (ls : Array Slot), f_X6_screened_J22 so_4 = some (rv, so_z) → va_P γ.1 vwCl (wC γ a so_4 r0 r1 r2 rw re tn se sv sk sd) H → va_S A s.heap H locs → lv_has ls 4 [(0, .ref ((a 0) 0))] → W p l e (rmK 2 49) s m ([.ref ((a 0) 0), .int x1, .int x2, .int x3] : List Value).toArray below meth c H locs 0 0 (MQ below (KQ γ A (some (.int rv)) (wC γ a so_z r0 r1 r2 rw re tn se sv sk sd)) ([.ref ((a 0) 0), .int x1, .int x2, .int x3] : List Value).toArray s 0 0 A) (F0 m 22 ls []) := by
    intro so_4 H locs ls hf hP hS hl
    unfold f_X6_screened_J22 at hf
    refine lv_aload_n hx hb dX6_screened_22 rfl (lv_at hl 0 rfl) ?_
    refine lv_iconst (v := 1) hx hb dX6_screened_23 (by decide) ?_
    obtain ⟨r_5, so_6, hg_7, hf⟩ := bd2_of hf
    refine kt_V0 (As := [.int (1 : Int32)]) (rest := []) (st1 := [.int r_5]) (b := (a 0) 0) C0 (c_X6_refused l γ a hg_7) (cxV (nA := 1) hts goodU U343 U345 U0 U84 U346 (by decide +kernel) ⟨Nat.le_of_ble_eq_true rfl, Nat.le_of_ble_eq_true rfl⟩) hP (hD _ _ _ _ _ _ _ _ _ _ _) hS hl dX6_screened_24 0 6 rfl rfl rfl rfl (Nat.le_of_ble_eq_true rfl) rfl rfl (fun H locs hP hS => ?_)
    refine lv_bipush (v := 10) hx hb dX6_screened_27 (by decide) ?_
    refine lv_isub hx hb dX6_screened_29 ?_
    obtain ⟨rfl, rfl⟩ := rt2 hf
    exact kt_iret C0 hP hS dX6_screened_30
  have J50 : ∀ (so_14 : GS) (H : Heap) (locs : List Loc) (ls : Array Slot), f_X6_screened_J50 so_14 = some (rv, so_z) → va_P γ.1 vwCl (wC γ a so_14 r0 r1 r2 rw re tn se sv sk sd) H → va_S A s.heap H locs → lv_has ls 4 [(0, .ref ((a 0) 0))] → W p l e (rmK 2 49) s m ([.ref ((a 0) 0), .int x1, .int x2, .int x3] : List Value).toArray below meth c H locs 0 0 (MQ below (KQ γ A (some (.int rv)) (wC γ a so_z r0 r1 r2 rw re tn se sv sk sd)) ([.ref ((a 0) 0), .int x1, .int x2, .int x3] : List Value).toArray s 0 0 A) (F0 m 50 ls []) := by
    intro so_14 H locs ls hf hP hS hl
    unfold f_X6_screened_J50 at hf
    refine lv_aload_n hx hb dX6_screened_50 rfl (lv_at hl 0 rfl) ?_
    refine lv_bipush (v := 6) hx hb dX6_screened_51 (by decide) ?_
    obtain ⟨r_15, so_16, hg_17, hf⟩ := bd2_of hf
    refine kt_V0 (As := [.int (6 : Int32)]) (rest := []) (st1 := [.int r_15]) (b := (a 0) 0) C0 (c_X6_refused l γ a hg_17) (cxV (nA := 1) hts goodU U343 U345 U0 U84 U346 (by decide +kernel) ⟨Nat.le_of_ble_eq_true rfl, Nat.le_of_ble_eq_true rfl⟩) hP (hD _ _ _ _ _ _ _ _ _ _ _) hS hl dX6_screened_53 0 6 rfl rfl rfl rfl (Nat.le_of_ble_eq_true rfl) rfl rfl (fun H locs hP hS => ?_)
    refine lv_bipush (v := 10) hx hb dX6_screened_56 (by decide) ?_
    refine lv_isub hx hb dX6_screened_58 ?_
    obtain ⟨rfl, rfl⟩ := rt2 hf
    exact kt_iret C0 hP hS dX6_screened_59
  unfold f_X6_screened at hf
  refine lv_aload_n hx hb dX6_screened_0 rfl (lv_at hl 0 rfl) ?_
  refine va_get (D := γ.1) (ci := 6) (v := .ref ((a 1) 0)) (C := RX6) (T := TX6) (N := 12) hx hb hU uin6 hown hK hP 0 rfl rfl 0 (by decide) (hU _ U299) (fun _ h9 => h9) rfl dX6_screened_1 ?_
  refine lv_iload_n hx hb dX6_screened_4 rfl (lv_at hl 1 rfl) ?_
  obtain ⟨r_1, hg_2, hf⟩ := bd_of hf
  refine kt_VF (As := [.int x1]) (rest := []) (st1 := [.int r_1]) (b := (a 1) 0) (wc' := wC γ a so r0 r1 r2 rw re tn se sv sk sd) C0 (c_X3_isPeak l γ (a 1) hg_2) (cxV (nA := 1) hts goodU U403 U404 U405 U85 U406 (by decide +kernel) ⟨Nat.le_of_ble_eq_true rfl, Nat.le_of_ble_eq_true rfl⟩) hP (hD _ _ _ _ _ _ _ _ _ _ _) hS hl dX6_screened_5 (foc_ro (foc_r0 γ a _ _ _ _ _ _ _ _ _ _ _ (fun _ _ => 0))) 0 3 rfl rfl rfl rfl (Nat.le_of_ble_eq_true rfl) rfl rfl (fun H locs hP hS => ?_)
  refine lv_if_eq (tgt := 22) hx hb dX6_screened_8 (by decide) (fun c_3 => ?_) (fun c_3 => ?_)
  · replace hf := ite_p c_3 hf
    exact J22 so _ _ _ hf hP hS (lv_sub hl [0] rfl)
  · replace hf := ite_n c_3 hf
    refine lv_aload_n hx hb dX6_screened_11 rfl (lv_at hl 0 rfl) ?_
    refine va_get (D := γ.1) (ci := 6) (v := .ref ((a 1) 0)) (C := RX6) (T := TX6) (N := 12) hx hb hU uin6 hown hK hP 0 rfl rfl 0 (by decide) (hU _ U299) (fun _ h9 => h9) rfl dX6_screened_12 ?_
    refine lv_iload_n hx hb dX6_screened_15 rfl (lv_at hl 2 rfl) ?_
    obtain ⟨r_8, hg_9, hf⟩ := bd_of hf
    refine kt_VF (As := [.int x2]) (rest := []) (st1 := [.int r_8]) (b := (a 1) 0) (wc' := wC γ a so r0 r1 r2 rw re tn se sv sk sd) C0 (c_X3_isPeak l γ (a 1) hg_9) (cxV (nA := 1) hts goodU U403 U404 U405 U85 U406 (by decide +kernel) ⟨Nat.le_of_ble_eq_true rfl, Nat.le_of_ble_eq_true rfl⟩) hP (hD _ _ _ _ _ _ _ _ _ _ _) hS hl dX6_screened_16 (foc_ro (foc_r0 γ a _ _ _ _ _ _ _ _ _ _ _ (fun _ _ => 0))) 0 3 rfl rfl rfl rfl (Nat.le_of_ble_eq_true rfl) rfl rfl (fun H locs hP hS => ?_)
    refine lv_if_ne (tgt := 31) hx hb dX6_screened_19 (by decide) (fun c_10 => ?_) (fun c_10 => ?_)
    · replace hf := ite_n c_10 hf
      refine lv_aload_n hx hb dX6_screened_31 rfl (lv_at hl 0 rfl) ?_
      refine va_get (D := γ.1) (ci := 6) (v := .ref ((a 1) 0)) (C := RX6) (T := TX6) (N := 12) hx hb hU uin6 hown hK hP 0 rfl rfl 0 (by decide) (hU _ U299) (fun _ h9 => h9) rfl dX6_screened_32 ?_
      refine lv_iload_n hx hb dX6_screened_35 rfl (lv_at hl 1 rfl) ?_
      refine lv_iload_n hx hb dX6_screened_36 rfl (lv_at hl 2 rfl) ?_
      obtain ⟨r_11, hg_12, hf⟩ := bd_of hf
      refine kt_VF (As := [.int x1, .int x2]) (rest := []) (st1 := [.int r_11]) (b := (a 1) 0) (wc' := wC γ a so r0 r1 r2 rw re tn se sv sk sd) C0 (c_X3_seesPeak l γ (a 1) hg_12) (cxV (nA := 2) hts goodU U713 U689 U690 U85 U691 (by decide +kernel) ⟨Nat.le_of_ble_eq_true rfl, Nat.le_of_ble_eq_true rfl⟩) hP (hD _ _ _ _ _ _ _ _ _ _ _) hS hl dX6_screened_37 (foc_ro (foc_r0 γ a _ _ _ _ _ _ _ _ _ _ _ (fun _ _ => 0))) 0 3 rfl rfl rfl rfl (Nat.le_of_ble_eq_true rfl) rfl rfl (fun H locs hP hS => ?_)
      refine lv_if_eq (tgt := 50) hx hb dX6_screened_40 (by decide) (fun c_13 => ?_) (fun c_13 => ?_)
      · replace hf := ite_p c_13 hf
        exact J50 so _ _ _ hf hP hS (lv_sub hl [0] rfl)
      · replace hf := ite_n c_13 hf
        refine lv_iload_n hx hb dX6_screened_43 rfl (lv_at hl 3 rfl) ?_
        obtain ⟨r_18, hg_19, hf⟩ := bd_of hf
        refine kt_SF (As := [.int x3]) (rest := []) (st1 := [.int r_18]) (wc' := wC γ a so r0 r1 r2 rw re tn se sv sk sd) C0 (c_X6_isPlace l γ hg_19) (cxS (nA := 1) hts goodU U467 U468 U84 U469 (by decide +kernel) ⟨Nat.le_of_ble_eq_true rfl, Nat.le_of_ble_eq_true rfl⟩) hP (hD _ _ _ _ _ _ _ _ _ _ _) hS hl dX6_screened_44 foc_nil rfl (Nat.le_of_ble_eq_true rfl) rfl rfl (fun H locs hP hS => ?_)
        refine lv_if_ne (tgt := 60) hx hb dX6_screened_47 (by decide) (fun c_20 => ?_) (fun c_20 => ?_)
        · replace hf := ite_n c_20 hf
          refine lv_aload_n hx hb dX6_screened_60 rfl (lv_at hl 0 rfl) ?_
          refine va_get (D := γ.1) (ci := 6) (v := .ref ((a 1) 0)) (C := RX6) (T := TX6) (N := 12) hx hb hU uin6 hown hK hP 0 rfl rfl 0 (by decide) (hU _ U299) (fun _ h9 => h9) rfl dX6_screened_61 ?_
          refine lv_iload_n hx hb dX6_screened_64 rfl (lv_at hl 1 rfl) ?_
          refine lv_iload_n hx hb dX6_screened_65 rfl (lv_at hl 2 rfl) ?_
          refine lv_iload_n hx hb dX6_screened_66 rfl (lv_at hl 3 rfl) ?_
          obtain ⟨r_21, hg_22, hf⟩ := bd_of hf
          refine kt_VF (As := [.int x1, .int x2, .int x3]) (rest := []) (st1 := [.int r_21]) (b := (a 1) 0) (wc' := wC γ a so r0 r1 r2 rw re tn se sv sk sd) C0 (c_X3_leastScreen l γ (a 1) hg_22) (cxV (nA := 3) hts goodU U800 U801 U802 U85 U803 (by decide +kernel) ⟨Nat.le_of_ble_eq_true rfl, Nat.le_of_ble_eq_true rfl⟩) hP (hD _ _ _ _ _ _ _ _ _ _ _) hS hl dX6_screened_67 (foc_ro (foc_r0 γ a _ _ _ _ _ _ _ _ _ _ _ (fun _ _ => 0))) 0 3 rfl rfl rfl rfl (Nat.le_of_ble_eq_true rfl) rfl rfl (fun H locs hP hS => ?_)
          obtain ⟨rfl, rfl⟩ := rt2 hf
          exact kt_iret C0 hP hS dX6_screened_70
        · replace hf := ite_p c_20 hf
          exact J50 so _ _ _ hf hP hS (lv_sub hl [0] rfl)
    · replace hf := ite_p c_10 hf
      exact J22 so _ _ _ hf hP hS (lv_sub hl [0] rfl)
set_option maxHeartbeats 4000000 in
set_option maxRecDepth 100000 in
theorem c_X6_hide (l : Launch) (γ : Gm) (a : Nat → Nat → Nat) {so : GS} {r0 : GS} {r1 : GS} {r2 : GS} {rw : Nat → GS} {re : Nat → Nat → Int64} {tn : Option Nat} {se : GS} {sv : GS} {sk : GS} {sd : GS} {x1 : Int32} {x2 : Int32} {rv : Int32} {so_z : GS} (hf : f_X6_hide so r0 x1 x2 = some (rv, so_z)) : Kt l γ yX6_hide (Cond.code yX6_hide cX6_hide 7 (some .int) :: U) 3 64 [.ref ((a 0) 0), .int x1, .int x2] (wC γ a so r0 r1 r2 rw re tn se sv sk sd) (some (.int rv)) (wC γ a so_z r0 r1 r2 rw re tn se sv sk sd) := by
  refine Kt.of (by decide) rfl (Nat.le_of_ble_eq_true rfl) rfl ?_
  intro p e s m below meth c A ls C0 hP hD0 hS hl
  obtain ⟨hx, hb, hml, hown, hts, hr, hlocks, hK, hE, hA⟩ := id C0
  have hU : ∀ w ∈ U, w.before _ s = true := fun w h => hts w (List.mem_cons_of_mem _ h)
  have hD : ∀ (so : GS) (r0 : GS) (r1 : GS) (r2 : GS) (rw : Nat → GS) (re : Nat → Nat → Int64) (tn : Option Nat) (se : GS) (sv : GS) (sk : GS) (sd : GS), va_D A (wC γ a so r0 r1 r2 rw re tn se sv sk sd) := fun _ _ _ _ _ _ _ _ _ _ _ => hD0.fst rfl
  have hl : lv_has ls 7 [(0, .ref ((a 0) 0)), (1, .int x1), (2, .int x2)] := hl
  have J22 : ∀ (so_4 : GS) (H : Heap) (locs : List Loc) (ls : Array Slot), f_X6_hide_J22 so_4 = some (rv, so_z) → va_P γ.1 vwCl (wC γ a so_4 r0 r1 r2 rw re tn se sv sk sd) H → va_S A s.heap H locs → lv_has ls 7 [(0, .ref ((a 0) 0))] → W p l e (rmK 3 64) s m ([.ref ((a 0) 0), .int x1, .int x2] : List Value).toArray below meth c H locs 0 0 (MQ below (KQ γ A (some (.int rv)) (wC γ a so_z r0 r1 r2 rw re tn se sv sk sd)) ([.ref ((a 0) 0), .int x1, .int x2] : List Value).toArray s 0 0 A) (F0 m 22 ls []) := by
    intro so_4 H locs ls hf hP hS hl
    unfold f_X6_hide_J22 at hf
    refine lv_aload_n hx hb dX6_hide_22 rfl (lv_at hl 0 rfl) ?_
    refine lv_iconst (v := 1) hx hb dX6_hide_23 (by decide) ?_
    obtain ⟨r_5, so_6, hg_7, hf⟩ := bd2_of hf
    refine kt_V0 (As := [.int (1 : Int32)]) (rest := []) (st1 := [.int r_5]) (b := (a 0) 0) C0 (c_X6_refused l γ a hg_7) (cxV (nA := 1) hts goodU U343 U345 U0 U84 U346 (by decide +kernel) ⟨Nat.le_of_ble_eq_true rfl, Nat.le_of_ble_eq_true rfl⟩) hP (hD _ _ _ _ _ _ _ _ _ _ _) hS hl dX6_hide_24 0 6 rfl rfl rfl rfl (Nat.le_of_ble_eq_true rfl) rfl rfl (fun H locs hP hS => ?_)
    refine lv_bipush (v := 10) hx hb dX6_hide_27 (by decide) ?_
    refine lv_isub hx hb dX6_hide_29 ?_
    obtain ⟨rfl, rfl⟩ := rt2 hf
    exact kt_iret C0 hP hS dX6_hide_30
  have J115 : ∀ (x1_36 : Int32) (x2_37 : Int32) (x5_38 : Int32) (x6_39 : Int32) (so_40 : GS) (K61 : Int32 → Int32 → Int32 → Option (Int32 × GS)) (HK61 : ∀ (z3 : Int32) (z4 : Int32) (z5 : Int32) (H : Heap) (locs : List Loc) (ls : Array Slot), K61 z3 z4 z5 = some (rv, so_z) → va_P γ.1 vwCl (wC γ a so_40 r0 r1 r2 rw re tn se sv sk sd) H → va_S A s.heap H locs → lv_has ls 7 [(0, .ref ((a 0) 0)), (1, .int x1_36), (2, .int x2_37), (3, .int z3), (4, .int z4), (5, .int z5)] → W p l e (rmK 3 64) s m ([.ref ((a 0) 0), .int x1, .int x2] : List Value).toArray below meth c H locs 0 0 (MQ below (KQ γ A (some (.int rv)) (wC γ a so_z r0 r1 r2 rw re tn se sv sk sd)) ([.ref ((a 0) 0), .int x1, .int x2] : List Value).toArray s 0 0 A) (F0 m 61 ls [])) (H : Heap) (locs : List Loc) (ls : Array Slot), f_X6_hide_J115 x5_38 x6_39 K61 = some (rv, so_z) → va_P γ.1 vwCl (wC γ a so_40 r0 r1 r2 rw re tn se sv sk sd) H → va_S A s.heap H locs → lv_has ls 7 [(0, .ref ((a 0) 0)), (1, .int x1_36), (2, .int x2_37), (5, .int x5_38), (6, .int x6_39)] → W p l e (rmK 3 64) s m ([.ref ((a 0) 0), .int x1, .int x2] : List Value).toArray below meth c H locs 0 0 (MQ below (KQ γ A (some (.int rv)) (wC γ a so_z r0 r1 r2 rw re tn se sv sk sd)) ([.ref ((a 0) 0), .int x1, .int x2] : List Value).toArray s 0 0 A) (F0 m 115 ls []) := by
    intro x1_36 x2_37 x5_38 x6_39 so_40 K61 HK61 H locs ls hf hP hS hl
    unfold f_X6_hide_J115 at hf
    refine lv_iload hx hb dX6_hide_115 (lv_at hl 3 rfl) ?_
    refine lv_istore_n (lv' := [(3, .int x5_38), (0, .ref ((a 0) 0)), (1, .int x1_36), (2, .int x2_37), (5, .int x5_38), (6, .int x6_39)]) hx hb dX6_hide_117 rfl hl (by decide) rfl (fun ls hl => ?_)
    refine lv_iload hx hb dX6_hide_118 (lv_at hl 5 rfl) ?_
    refine lv_istore (lv' := [(4, .int x6_39), (3, .int x5_38), (0, .ref ((a 0) 0)), (1, .int x1_36), (2, .int x2_37), (5, .int x5_38), (6, .int x6_39)]) hx hb dX6_hide_120 hl (by decide) rfl (fun ls hl => ?_)
    obtain ⟨x5_41, e_x5_41⟩ : ∃ y : Int32, y = x5_38 + (1 : Int32) := ⟨_, rfl⟩
    replace hf := nm_y hf e_x5_41
    refine lv_iinc (v := x5_41) (lv' := [(5, .int x5_41), (4, .int x6_39), (3, .int x5_38), (0, .ref ((a 0) 0)), (1, .int x1_36), (2, .int x2_37), (6, .int x6_39)]) hx hb dX6_hide_122 hl (k := 5) rfl (by rw [e_x5_41]; rfl) (by decide) rfl (fun ls hl => ?_)
    refine lv_goto (tgt := 61) hx hb dX6_hide_125 (by decide) ?_
    exact HK61 x5_38 x6_39 x5_41 _ _ _ hf hP hS (lv_sub hl [3, 4, 5, 2, 1, 0] rfl)
  have J95 : ∀ (x1_26 : Int32) (x2_27 : Int32) (x3_28 : Int32) (x4_29 : Int32) (x5_30 : Int32) (so_31 : GS) (t0_32 : Int32) (K61 : Int32 → Int32 → Int32 → Option (Int32 × GS)) (HK61 : ∀ (z3 : Int32) (z4 : Int32) (z5 : Int32) (H : Heap) (locs : List Loc) (ls : Array Slot), K61 z3 z4 z5 = some (rv, so_z) → va_P γ.1 vwCl (wC γ a so_31 r0 r1 r2 rw re tn se sv sk sd) H → va_S A s.heap H locs → lv_has ls 7 [(0, .ref ((a 0) 0)), (1, .int x1_26), (2, .int x2_27), (3, .int z3), (4, .int z4), (5, .int z5)] → W p l e (rmK 3 64) s m ([.ref ((a 0) 0), .int x1, .int x2] : List Value).toArray below meth c H locs 0 0 (MQ below (KQ γ A (some (.int rv)) (wC γ a so_z r0 r1 r2 rw re tn se sv sk sd)) ([.ref ((a 0) 0), .int x1, .int x2] : List Value).toArray s 0 0 A) (F0 m 61 ls [])) (H : Heap) (locs : List Loc) (ls : Array Slot), f_X6_hide_J95 x3_28 x4_29 x5_30 t0_32 K61 = some (rv, so_z) → va_P γ.1 vwCl (wC γ a so_31 r0 r1 r2 rw re tn se sv sk sd) H → va_S A s.heap H locs → lv_has ls 7 [(0, .ref ((a 0) 0)), (1, .int x1_26), (2, .int x2_27), (3, .int x3_28), (4, .int x4_29), (5, .int x5_30)] → W p l e (rmK 3 64) s m ([.ref ((a 0) 0), .int x1, .int x2] : List Value).toArray below meth c H locs 0 0 (MQ below (KQ γ A (some (.int rv)) (wC γ a so_z r0 r1 r2 rw re tn se sv sk sd)) ([.ref ((a 0) 0), .int x1, .int x2] : List Value).toArray s 0 0 A) (F0 m 95 ls [.int t0_32]) := by
    intro x1_26 x2_27 x3_28 x4_29 x5_30 so_31 t0_32 K61 HK61 H locs ls hf hP hS hl
    unfold f_X6_hide_J95 at hf
    refine lv_istore (lv' := [(6, .int t0_32), (0, .ref ((a 0) 0)), (1, .int x1_26), (2, .int x2_27), (3, .int x3_28), (4, .int x4_29), (5, .int x5_30)]) hx hb dX6_hide_95 hl (by decide) rfl (fun ls hl => ?_)
    refine lv_iload hx hb dX6_hide_97 (lv_at hl 0 rfl) ?_
    refine lv_iconst (v := -1) hx hb dX6_hide_99 (by decide) ?_
    refine lv_icmp_eq (tgt := 122) hx hb dX6_hide_100 (by decide) (fun c_33 => ?_) (fun c_33 => ?_)
    · replace hf := ite_p c_33 hf
      obtain ⟨x5_34, e_x5_34⟩ : ∃ y : Int32, y = x5_30 + (1 : Int32) := ⟨_, rfl⟩
      replace hf := nm_y hf e_x5_34
      refine lv_iinc (v := x5_34) (lv' := [(5, .int x5_34), (6, .int t0_32), (0, .ref ((a 0) 0)), (1, .int x1_26), (2, .int x2_27), (3, .int x3_28), (4, .int x4_29)]) hx hb dX6_hide_122 hl (k := 6) rfl (by rw [e_x5_34]; rfl) (by decide) rfl (fun ls hl => ?_)
      refine lv_goto (tgt := 61) hx hb dX6_hide_125 (by decide) ?_
      exact HK61 x3_28 x4_29 x5_34 _ _ _ hf hP hS (lv_sub hl [2, 3, 4, 5, 6, 0] rfl)
    · replace hf := ite_n c_33 hf
      refine lv_iload_n hx hb dX6_hide_103 rfl (lv_at hl 4 rfl) ?_
      refine lv_iconst (v := -1) hx hb dX6_hide_104 (by decide) ?_
      refine lv_icmp_eq (tgt := 115) hx hb dX6_hide_105 (by decide) (fun c_35 => ?_) (fun c_35 => ?_)
      · replace hf := ite_p c_35 hf
        exact J115 x1_26 x2_27 x5_30 t0_32 so_31 _ HK61 _ _ _ hf hP hS (lv_sub hl [1, 2, 3, 6, 0] rfl)
      · replace hf := ite_n c_35 hf
        refine lv_iload hx hb dX6_hide_108 (lv_at hl 0 rfl) ?_
        refine lv_iload hx hb dX6_hide_110 (lv_at hl 5 rfl) ?_
        refine lv_icmp_ge (tgt := 122) hx hb dX6_hide_112 (by decide) (fun c_42 => ?_) (fun c_42 => ?_)
        · replace hf := ite_p c_42 hf
          obtain ⟨x5_43, e_x5_43⟩ : ∃ y : Int32, y = x5_30 + (1 : Int32) := ⟨_, rfl⟩
          replace hf := nm_y hf e_x5_43
          refine lv_iinc (v := x5_43) (lv' := [(5, .int x5_43), (6, .int t0_32), (0, .ref ((a 0) 0)), (1, .int x1_26), (2, .int x2_27), (3, .int x3_28), (4, .int x4_29)]) hx hb dX6_hide_122 hl (k := 6) rfl (by rw [e_x5_43]; rfl) (by decide) rfl (fun ls hl => ?_)
          refine lv_goto (tgt := 61) hx hb dX6_hide_125 (by decide) ?_
          exact HK61 x3_28 x4_29 x5_43 _ _ _ hf hP hS (lv_sub hl [2, 3, 4, 5, 6, 0] rfl)
        · replace hf := ite_n c_42 hf
          exact J115 x1_26 x2_27 x5_30 t0_32 so_31 _ HK61 _ _ _ hf hP hS (lv_sub hl [1, 2, 3, 6, 0] rfl)
  have L61 : ∀ (x1_14 : Int32) (x2_15 : Int32) (so_19 : GS) (n : Nat) (x3_16 : Int32) (x4_17 : Int32) (x5_18 : Int32) (H : Heap) (locs : List Loc) (ls : Array Slot), f_X6_hide_L61 r0 x1_14 x2_15 so_19 n x3_16 x4_17 x5_18 = some (rv, so_z) → va_P γ.1 vwCl (wC γ a so_19 r0 r1 r2 rw re tn se sv sk sd) H → va_S A s.heap H locs → lv_has ls 7 [(0, .ref ((a 0) 0)), (1, .int x1_14), (2, .int x2_15), (3, .int x3_16), (4, .int x4_17), (5, .int x5_18)] → W p l e (rmK 3 64) s m ([.ref ((a 0) 0), .int x1, .int x2] : List Value).toArray below meth c H locs 0 0 (MQ below (KQ γ A (some (.int rv)) (wC γ a so_z r0 r1 r2 rw re tn se sv sk sd)) ([.ref ((a 0) 0), .int x1, .int x2] : List Value).toArray s 0 0 A) (F0 m 61 ls []) := by
    intro x1_14 x2_15 so_19
    intro n
    induction n with
    | zero =>
      intro x3_16 x4_17 x5_18 H locs ls hf
      have hf : none = some _ := hf
      cases hf
    | succ n ih =>
      intro x3_16 x4_17 x5_18 H locs ls hf hP hS hl
      rw [f_X6_hide_L61.eq_2] at hf
      refine lv_iload hx hb dX6_hide_61 (lv_at hl 5 rfl) ?_
      refine lv_bipush (v := 100) hx hb dX6_hide_63 (by decide) ?_
      refine lv_icmp_ge (tgt := 128) hx hb dX6_hide_65 (by decide) (fun c_20 => ?_) (fun c_20 => ?_)
      · replace hf := ite_p c_20 hf
        refine lv_iload_n hx hb dX6_hide_128 rfl (lv_at hl 3 rfl) ?_
        obtain ⟨rfl, rfl⟩ := rt2 hf
        exact kt_iret C0 hP hS dX6_hide_129
      · replace hf := ite_n c_20 hf
        refine lv_aload_n hx hb dX6_hide_68 rfl (lv_at hl 0 rfl) ?_
        refine va_get (D := γ.1) (ci := 6) (v := .ref ((a 1) 0)) (C := RX6) (T := TX6) (N := 12) hx hb hU uin6 hown hK hP 0 rfl rfl 0 (by decide) (hU _ U299) (fun _ h9 => h9) rfl dX6_hide_69 ?_
        refine lv_iload hx hb dX6_hide_72 (lv_at hl 5 rfl) ?_
        obtain ⟨r_21, hg_22, hf⟩ := bd_of hf
        refine kt_VF (As := [.int x5_18]) (rest := []) (st1 := [.int r_21]) (b := (a 1) 0) (wc' := wC γ a so_19 r0 r1 r2 rw re tn se sv sk sd) C0 (c_X3_hasStandingPeakAt l γ (a 1) hg_22) (cxV (nA := 1) hts goodU U808 U809 U810 U85 U811 (by decide +kernel) ⟨Nat.le_of_ble_eq_true rfl, Nat.le_of_ble_eq_true rfl⟩) hP (hD _ _ _ _ _ _ _ _ _ _ _) hS hl dX6_hide_74 (foc_ro (foc_r0 γ a _ _ _ _ _ _ _ _ _ _ _ (fun _ _ => 0))) 0 3 rfl rfl rfl rfl (Nat.le_of_ble_eq_true rfl) rfl rfl (fun H locs hP hS => ?_)
        refine lv_if_eq (tgt := 84) hx hb dX6_hide_77 (by decide) (fun c_23 => ?_) (fun c_23 => ?_)
        · replace hf := ite_p c_23 hf
          refine lv_aload_n hx hb dX6_hide_84 rfl (lv_at hl 0 rfl) ?_
          refine va_get (D := γ.1) (ci := 6) (v := .ref ((a 1) 0)) (C := RX6) (T := TX6) (N := 12) hx hb hU uin6 hown hK hP 0 rfl rfl 0 (by decide) (hU _ U299) (fun _ h9 => h9) rfl dX6_hide_85 ?_
          refine lv_iload_n hx hb dX6_hide_88 rfl (lv_at hl 1 rfl) ?_
          refine lv_iload_n hx hb dX6_hide_89 rfl (lv_at hl 2 rfl) ?_
          refine lv_iload hx hb dX6_hide_90 (lv_at hl 5 rfl) ?_
          obtain ⟨r_24, hg_25, hf⟩ := bd_of hf
          refine kt_VF (As := [.int x1_14, .int x2_15, .int x5_18]) (rest := []) (st1 := [.int r_24]) (b := (a 1) 0) (wc' := wC γ a so_19 r0 r1 r2 rw re tn se sv sk sd) C0 (c_X3_leastScreen l γ (a 1) hg_25) (cxV (nA := 3) hts goodU U800 U801 U802 U85 U803 (by decide +kernel) ⟨Nat.le_of_ble_eq_true rfl, Nat.le_of_ble_eq_true rfl⟩) hP (hD _ _ _ _ _ _ _ _ _ _ _) hS hl dX6_hide_92 (foc_ro (foc_r0 γ a _ _ _ _ _ _ _ _ _ _ _ (fun _ _ => 0))) 0 3 rfl rfl rfl rfl (Nat.le_of_ble_eq_true rfl) rfl rfl (fun H locs hP hS => ?_)
          exact J95 x1_14 x2_15 x3_16 x4_17 x5_18 so_19 r_24 _ ih _ _ _ hf hP hS (lv_sub hl [0, 1, 2, 3, 4, 5] rfl)
        · replace hf := ite_n c_23 hf
          refine lv_iconst (v := -1) hx hb dX6_hide_80 (by decide) ?_
          refine lv_goto (tgt := 95) hx hb dX6_hide_81 (by decide) ?_
          exact J95 x1_14 x2_15 x3_16 x4_17 x5_18 so_19 (-1 : Int32) _ ih _ _ _ hf hP hS (lv_sub hl [0, 1, 2, 3, 4, 5] rfl)
  unfold f_X6_hide at hf
  refine lv_aload_n hx hb dX6_hide_0 rfl (lv_at hl 0 rfl) ?_
  refine va_get (D := γ.1) (ci := 6) (v := .ref ((a 1) 0)) (C := RX6) (T := TX6) (N := 12) hx hb hU uin6 hown hK hP 0 rfl rfl 0 (by decide) (hU _ U299) (fun _ h9 => h9) rfl dX6_hide_1 ?_
  refine lv_iload_n hx hb dX6_hide_4 rfl (lv_at hl 1 rfl) ?_
  obtain ⟨r_1, hg_2, hf⟩ := bd_of hf
  refine kt_VF (As := [.int x1]) (rest := []) (st1 := [.int r_1]) (b := (a 1) 0) (wc' := wC γ a so r0 r1 r2 rw re tn se sv sk sd) C0 (c_X3_isPeak l γ (a 1) hg_2) (cxV (nA := 1) hts goodU U403 U404 U405 U85 U406 (by decide +kernel) ⟨Nat.le_of_ble_eq_true rfl, Nat.le_of_ble_eq_true rfl⟩) hP (hD _ _ _ _ _ _ _ _ _ _ _) hS hl dX6_hide_5 (foc_ro (foc_r0 γ a _ _ _ _ _ _ _ _ _ _ _ (fun _ _ => 0))) 0 3 rfl rfl rfl rfl (Nat.le_of_ble_eq_true rfl) rfl rfl (fun H locs hP hS => ?_)
  refine lv_if_eq (tgt := 22) hx hb dX6_hide_8 (by decide) (fun c_3 => ?_) (fun c_3 => ?_)
  · replace hf := ite_p c_3 hf
    exact J22 so _ _ _ hf hP hS (lv_sub hl [0] rfl)
  · replace hf := ite_n c_3 hf
    refine lv_aload_n hx hb dX6_hide_11 rfl (lv_at hl 0 rfl) ?_
    refine va_get (D := γ.1) (ci := 6) (v := .ref ((a 1) 0)) (C := RX6) (T := TX6) (N := 12) hx hb hU uin6 hown hK hP 0 rfl rfl 0 (by decide) (hU _ U299) (fun _ h9 => h9) rfl dX6_hide_12 ?_
    refine lv_iload_n hx hb dX6_hide_15 rfl (lv_at hl 2 rfl) ?_
    obtain ⟨r_8, hg_9, hf⟩ := bd_of hf
    refine kt_VF (As := [.int x2]) (rest := []) (st1 := [.int r_8]) (b := (a 1) 0) (wc' := wC γ a so r0 r1 r2 rw re tn se sv sk sd) C0 (c_X3_isPeak l γ (a 1) hg_9) (cxV (nA := 1) hts goodU U403 U404 U405 U85 U406 (by decide +kernel) ⟨Nat.le_of_ble_eq_true rfl, Nat.le_of_ble_eq_true rfl⟩) hP (hD _ _ _ _ _ _ _ _ _ _ _) hS hl dX6_hide_16 (foc_ro (foc_r0 γ a _ _ _ _ _ _ _ _ _ _ _ (fun _ _ => 0))) 0 3 rfl rfl rfl rfl (Nat.le_of_ble_eq_true rfl) rfl rfl (fun H locs hP hS => ?_)
    refine lv_if_ne (tgt := 31) hx hb dX6_hide_19 (by decide) (fun c_10 => ?_) (fun c_10 => ?_)
    · replace hf := ite_n c_10 hf
      refine lv_aload_n hx hb dX6_hide_31 rfl (lv_at hl 0 rfl) ?_
      refine va_get (D := γ.1) (ci := 6) (v := .ref ((a 1) 0)) (C := RX6) (T := TX6) (N := 12) hx hb hU uin6 hown hK hP 0 rfl rfl 0 (by decide) (hU _ U299) (fun _ h9 => h9) rfl dX6_hide_32 ?_
      refine lv_iload_n hx hb dX6_hide_35 rfl (lv_at hl 1 rfl) ?_
      refine lv_iload_n hx hb dX6_hide_36 rfl (lv_at hl 2 rfl) ?_
      obtain ⟨r_11, hg_12, hf⟩ := bd_of hf
      refine kt_VF (As := [.int x1, .int x2]) (rest := []) (st1 := [.int r_11]) (b := (a 1) 0) (wc' := wC γ a so r0 r1 r2 rw re tn se sv sk sd) C0 (c_X3_seesPeak l γ (a 1) hg_12) (cxV (nA := 2) hts goodU U713 U689 U690 U85 U691 (by decide +kernel) ⟨Nat.le_of_ble_eq_true rfl, Nat.le_of_ble_eq_true rfl⟩) hP (hD _ _ _ _ _ _ _ _ _ _ _) hS hl dX6_hide_37 (foc_ro (foc_r0 γ a _ _ _ _ _ _ _ _ _ _ _ (fun _ _ => 0))) 0 3 rfl rfl rfl rfl (Nat.le_of_ble_eq_true rfl) rfl rfl (fun H locs hP hS => ?_)
      refine lv_if_ne (tgt := 53) hx hb dX6_hide_40 (by decide) (fun c_13 => ?_) (fun c_13 => ?_)
      · replace hf := ite_n c_13 hf
        refine lv_iconst (v := -1) hx hb dX6_hide_53 (by decide) ?_
        refine lv_istore_n (lv' := [(3, .int (-1 : Int32)), (0, .ref ((a 0) 0)), (1, .int x1), (2, .int x2)]) hx hb dX6_hide_54 rfl hl (by decide) rfl (fun ls hl => ?_)
        refine lv_iconst (v := -1) hx hb dX6_hide_55 (by decide) ?_
        refine lv_istore (lv' := [(4, .int (-1 : Int32)), (3, .int (-1 : Int32)), (0, .ref ((a 0) 0)), (1, .int x1), (2, .int x2)]) hx hb dX6_hide_56 hl (by decide) rfl (fun ls hl => ?_)
        refine lv_iconst (v := 0) hx hb dX6_hide_58 (by decide) ?_
        refine lv_istore (lv' := [(5, .int (0 : Int32)), (4, .int (-1 : Int32)), (3, .int (-1 : Int32)), (0, .ref ((a 0) 0)), (1, .int x1), (2, .int x2)]) hx hb dX6_hide_59 hl (by decide) rfl (fun ls hl => ?_)
        exact L61 x1 x2 so FU (-1 : Int32) (-1 : Int32) (0 : Int32) _ _ _ hf hP hS (lv_sub hl [3, 4, 5, 2, 1, 0] rfl)
      · replace hf := ite_p c_13 hf
        refine lv_aload_n hx hb dX6_hide_43 rfl (lv_at hl 0 rfl) ?_
        refine lv_bipush (v := 6) hx hb dX6_hide_44 (by decide) ?_
        obtain ⟨r_44, so_45, hg_46, hf⟩ := bd2_of hf
        refine kt_V0 (As := [.int (6 : Int32)]) (rest := []) (st1 := [.int r_44]) (b := (a 0) 0) C0 (c_X6_refused l γ a hg_46) (cxV (nA := 1) hts goodU U343 U345 U0 U84 U346 (by decide +kernel) ⟨Nat.le_of_ble_eq_true rfl, Nat.le_of_ble_eq_true rfl⟩) hP (hD _ _ _ _ _ _ _ _ _ _ _) hS hl dX6_hide_46 0 6 rfl rfl rfl rfl (Nat.le_of_ble_eq_true rfl) rfl rfl (fun H locs hP hS => ?_)
        refine lv_bipush (v := 10) hx hb dX6_hide_49 (by decide) ?_
        refine lv_isub hx hb dX6_hide_51 ?_
        obtain ⟨rfl, rfl⟩ := rt2 hf
        exact kt_iret C0 hP hS dX6_hide_52
    · replace hf := ite_p c_10 hf
      exact J22 so _ _ _ hf hP hS (lv_sub hl [0] rfl)
set_option maxHeartbeats 4000000 in
set_option maxRecDepth 100000 in
theorem c_X6_lossFits (l : Launch) (γ : Gm) (a : Nat → Nat → Nat) {so : GS} {r0 : GS} {r1 : GS} {r2 : GS} {rw : Nat → GS} {re : Nat → Nat → Int64} {tn : Option Nat} {se : GS} {sv : GS} {sk : GS} {sd : GS} {x1 : Int32} {nr : Nat} {rv : Int32} (hn : nr < 8) (hf : f_X6_lossFits r0 rw re x1 nr = some rv) : Kt l γ yX6_lossFits (Cond.code yX6_lossFits cX6_lossFits 5 (some .boolean) :: U) 3 67 [.ref ((a 0) 0), .int x1, .ref ((a (8 + nr)) 0)] (wC γ a so r0 r1 r2 rw re tn se sv sk sd) (some (.int rv)) (wC γ a so r0 r1 r2 rw re tn se sv sk sd) := by
  refine Kt.of (by decide) rfl (Nat.le_of_ble_eq_true rfl) rfl ?_
  intro p e s m below meth c A ls C0 hP hD0 hS hl
  obtain ⟨hx, hb, hml, hown, hts, hr, hlocks, hK, hE, hA⟩ := id C0
  have hU : ∀ w ∈ U, w.before _ s = true := fun w h => hts w (List.mem_cons_of_mem _ h)
  have hD : ∀ (so : GS) (r0 : GS) (r1 : GS) (r2 : GS) (rw : Nat → GS) (re : Nat → Nat → Int64) (tn : Option Nat) (se : GS) (sv : GS) (sk : GS) (sd : GS), va_D A (wC γ a so r0 r1 r2 rw re tn se sv sk sd) := fun _ _ _ _ _ _ _ _ _ _ _ => hD0.fst rfl
  have hl : lv_has ls 5 [(0, .ref ((a 0) 0)), (1, .int x1), (2, .ref ((a (8 + nr)) 0))] := hl
  have L2 : ∀ (x1_1 : Int32) (n : Nat) (x3_2 : Int32) (H : Heap) (locs : List Loc) (ls : Array Slot), f_X6_lossFits_L2 r0 rw re nr x1_1 n x3_2 = some rv → va_P γ.1 vwCl (wC γ a so r0 r1 r2 rw re tn se sv sk sd) H → va_S A s.heap H locs → lv_has ls 5 [(0, .ref ((a 0) 0)), (1, .int x1_1), (2, .ref ((a (8 + nr)) 0)), (3, .int x3_2)] → W p l e (rmK 3 67) s m ([.ref ((a 0) 0), .int x1, .ref ((a (8 + nr)) 0)] : List Value).toArray below meth c H locs 0 0 (MQ below (KQ γ A (some (.int rv)) (wC γ a so r0 r1 r2 rw re tn se sv sk sd)) ([.ref ((a 0) 0), .int x1, .ref ((a (8 + nr)) 0)] : List Value).toArray s 0 0 A) (F0 m 2 ls []) := by
    intro x1_1
    intro n
    induction n with
    | zero =>
      intro x3_2 H locs ls hf
      have hf : none = some _ := hf
      cases hf
    | succ n ih =>
      intro x3_2 H locs ls hf hP hS hl
      rw [f_X6_lossFits_L2.eq_2] at hf
      refine lv_iload_n hx hb dX6_lossFits_2 rfl (lv_at hl 3 rfl) ?_
      refine lv_aload_n hx hb dX6_lossFits_3 rfl (lv_at hl 0 rfl) ?_
      refine va_get (D := γ.1) (ci := 6) (v := .ref ((a 1) 0)) (C := RX6) (T := TX6) (N := 12) hx hb hU uin6 hown hK hP 0 rfl rfl 0 (by decide) (hU _ U299) (fun _ h9 => h9) rfl dX6_lossFits_4 ?_
      refine va_getN (D := γ.1) (ci := 3) (v := .int (r0 0 0)) (C := RX3) (T := TX3) (N := 18) hx hb hU uin3 hown hK hP 4 rfl rfl 0 (by decide) (va_Nw.use rfl (hE.2.2.2.2.2.1 _ NW4)) (fun _ h9 => h9) rfl dX6_lossFits_7 ?_
      refine lv_icmp_ge (tgt := 80) hx hb dX6_lossFits_10 (by decide) (fun c_3 => ?_) (fun c_3 => ?_)
      · replace hf := ite_p c_3 hf
        refine lv_iconst (v := 1) hx hb dX6_lossFits_80 (by decide) ?_
        obtain rfl := Option.some.inj hf
        exact kt_zret C0 (by decide) hP hS dX6_lossFits_81
      · replace hf := ite_n c_3 hf
        refine lv_aload_n hx hb dX6_lossFits_13 rfl (lv_at hl 2 rfl) ?_
        refine lv_iload_n hx hb dX6_lossFits_14 rfl (lv_at hl 3 rfl) ?_
        obtain ⟨r_4, hg_5, hf⟩ := bd_of hf
        refine kt_VF (As := [.int x3_2]) (rest := []) (st1 := [.int r_4]) (b := (a (8 + nr)) 0) (wc' := wC γ a so r0 r1 r2 rw re tn se sv sk sd) C0 (c_X5_intAt l γ (a (8 + nr)) hg_5) (cxV (nA := 1) hts goodU U820 U571 U572 U90 U573 (by decide +kernel) ⟨Nat.le_of_ble_eq_true rfl, Nat.le_of_ble_eq_true rfl⟩) hP (hD _ _ _ _ _ _ _ _ _ _ _) hS hl dX6_lossFits_15 (foc_ro (foc_rw γ a _ _ _ _ _ _ _ _ _ _ _ hn (fun _ _ => 0) (fun _ => 0))) 0 5 rfl rfl rfl rfl (Nat.le_of_ble_eq_true rfl) rfl rfl (fun H locs hP hS => ?_)
        refine lv_istore (lv' := [(4, .int r_4), (0, .ref ((a 0) 0)), (1, .int x1_1), (2, .ref ((a (8 + nr)) 0)), (3, .int x3_2)]) hx hb dX6_lossFits_18 hl (by decide) rfl (fun ls hl => ?_)
        refine lv_iload_n hx hb dX6_lossFits_20 rfl (lv_at hl 4 rfl) ?_
        refine lv_iload_n hx hb dX6_lossFits_21 rfl (lv_at hl 2 rfl) ?_
        refine lv_icmp_eq (tgt := 74) hx hb dX6_lossFits_22 (by decide) (fun c_6 => ?_) (fun c_6 => ?_)
        · replace hf := ite_p c_6 hf
          obtain ⟨x3_7, e_x3_7⟩ : ∃ y : Int32, y = x3_2 + (1 : Int32) := ⟨_, rfl⟩
          replace hf := nm_y hf e_x3_7
          refine lv_iinc (v := x3_7) (lv' := [(3, .int x3_7), (4, .int r_4), (0, .ref ((a 0) 0)), (1, .int x1_1), (2, .ref ((a (8 + nr)) 0))]) hx hb dX6_lossFits_74 hl (k := 4) rfl (by rw [e_x3_7]; rfl) (by decide) rfl (fun ls hl => ?_)
          refine lv_goto (tgt := 2) hx hb dX6_lossFits_77 (by decide) ?_
          exact ih x3_7 _ _ _ hf hP hS (lv_sub hl [2, 3, 4, 0] rfl)
        · replace hf := ite_n c_6 hf
          refine lv_aload_n hx hb dX6_lossFits_25 rfl (lv_at hl 1 rfl) ?_
          refine va_get (D := γ.1) (ci := 6) (v := .ref ((a 1) 0)) (C := RX6) (T := TX6) (N := 12) hx hb hU uin6 hown hK hP 0 rfl rfl 0 (by decide) (hU _ U299) (fun _ h9 => h9) rfl dX6_lossFits_26 ?_
          refine lv_iload_n hx hb dX6_lossFits_29 rfl (lv_at hl 4 rfl) ?_
          obtain ⟨r_8, hg_9, hf⟩ := bd_of hf
          refine kt_VF (As := [.int x3_2]) (rest := []) (st1 := [.int r_8]) (b := (a 1) 0) (wc' := wC γ a so r0 r1 r2 rw re tn se sv sk sd) C0 (c_X3_isStanding l γ (a 1) hg_9) (cxV (nA := 1) hts goodU U755 U436 U437 U85 U438 (by decide +kernel) ⟨Nat.le_of_ble_eq_true rfl, Nat.le_of_ble_eq_true rfl⟩) hP (hD _ _ _ _ _ _ _ _ _ _ _) hS hl dX6_lossFits_30 (foc_ro (foc_r0 γ a _ _ _ _ _ _ _ _ _ _ _ (fun _ _ => 0))) 0 3 rfl rfl rfl rfl (Nat.le_of_ble_eq_true rfl) rfl rfl (fun H locs hP hS => ?_)
          refine lv_if_eq (tgt := 74) hx hb dX6_lossFits_33 (by decide) (fun c_10 => ?_) (fun c_10 => ?_)
          · replace hf := ite_p c_10 hf
            obtain ⟨x3_11, e_x3_11⟩ : ∃ y : Int32, y = x3_2 + (1 : Int32) := ⟨_, rfl⟩
            replace hf := nm_y hf e_x3_11
            refine lv_iinc (v := x3_11) (lv' := [(3, .int x3_11), (4, .int r_4), (0, .ref ((a 0) 0)), (1, .int x1_1), (2, .ref ((a (8 + nr)) 0))]) hx hb dX6_lossFits_74 hl (k := 4) rfl (by rw [e_x3_11]; rfl) (by decide) rfl (fun ls hl => ?_)
            refine lv_goto (tgt := 2) hx hb dX6_lossFits_77 (by decide) ?_
            exact ih x3_11 _ _ _ hf hP hS (lv_sub hl [2, 3, 4, 0] rfl)
          · replace hf := ite_n c_10 hf
            refine lv_iload hx hb dX6_lossFits_36 (lv_at hl 0 rfl) ?_
            refine lv_iconst (v := -1) hx hb dX6_lossFits_38 (by decide) ?_
            refine lv_icmp_eq (tgt := 74) hx hb dX6_lossFits_39 (by decide) (fun c_12 => ?_) (fun c_12 => ?_)
            · replace hf := ite_p c_12 hf
              obtain ⟨x3_13, e_x3_13⟩ : ∃ y : Int32, y = x3_2 + (1 : Int32) := ⟨_, rfl⟩
              replace hf := nm_y hf e_x3_13
              refine lv_iinc (v := x3_13) (lv' := [(3, .int x3_13), (4, .int r_4), (0, .ref ((a 0) 0)), (1, .int x1_1), (2, .ref ((a (8 + nr)) 0))]) hx hb dX6_lossFits_74 hl (k := 4) rfl (by rw [e_x3_13]; rfl) (by decide) rfl (fun ls hl => ?_)
              refine lv_goto (tgt := 2) hx hb dX6_lossFits_77 (by decide) ?_
              exact ih x3_13 _ _ _ hf hP hS (lv_sub hl [2, 3, 4, 0] rfl)
            · replace hf := ite_n c_12 hf
              refine lv_aload_n hx hb dX6_lossFits_42 rfl (lv_at hl 1 rfl) ?_
              refine va_get (D := γ.1) (ci := 6) (v := .ref ((a 1) 0)) (C := RX6) (T := TX6) (N := 12) hx hb hU uin6 hown hK hP 0 rfl rfl 0 (by decide) (hU _ U299) (fun _ h9 => h9) rfl dX6_lossFits_43 ?_
              refine lv_aload_n hx hb dX6_lossFits_46 rfl (lv_at hl 1 rfl) ?_
              refine va_get (D := γ.1) (ci := 6) (v := .ref ((a 1) 0)) (C := RX6) (T := TX6) (N := 12) hx hb hU uin6 hown hK hP 0 rfl rfl 0 (by decide) (hU _ U299) (fun _ h9 => h9) rfl dX6_lossFits_47 ?_
              refine va_getN (D := γ.1) (ci := 3) (v := .ref ((a 1) 7)) (C := RX3) (T := TX3) (N := 18) hx hb hU uin3 hown hK hP 4 rfl rfl 6 (by decide) (va_Nw.use rfl (hE.2.2.2.2.2.1 _ NW14)) (fun _ h9 => h9) rfl dX6_lossFits_50 ?_
              refine lv_iload_n hx hb dX6_lossFits_53 rfl (lv_at hl 4 rfl) ?_
              obtain ⟨g_14, hf⟩ := gd_of hf
              refine va_iald hx hb hK hP 9 0 rfl rfl (inB_vp g_14) dX6_lossFits_54 ?_
              refine lv_iload_n hx hb dX6_lossFits_55 rfl (lv_at hl 4 rfl) ?_
              refine lv_iload_n hx hb dX6_lossFits_56 rfl (lv_at hl 2 rfl) ?_
              refine lv_aload_n hx hb dX6_lossFits_57 rfl (lv_at hl 1 rfl) ?_
              refine va_get (D := γ.1) (ci := 6) (v := .ref ((a 1) 0)) (C := RX6) (T := TX6) (N := 12) hx hb hU uin6 hown hK hP 0 rfl rfl 0 (by decide) (hU _ U299) (fun _ h9 => h9) rfl dX6_lossFits_58 ?_
              refine va_getN (D := γ.1) (ci := 3) (v := .int (r0 0 16)) (C := RX3) (T := TX3) (N := 18) hx hb hU uin3 hown hK hP 4 rfl rfl 16 (by decide) (va_Nw.use rfl (hE.2.2.2.2.2.1 _ NW25)) (fun _ h9 => h9) rfl dX6_lossFits_61 ?_
              obtain ⟨r_15, hg_16, hf⟩ := bd_of hf
              refine kt_VF (As := [.int (r0 7 x3_2.toNatClampNeg), .int x3_2, .int x1_1, .int (r0 0 16)]) (rest := []) (st1 := [.int r_15]) (b := (a 1) 0) (wc' := wC γ a so r0 r1 r2 rw re tn se sv sk sd) C0 (c_X3_untilBehind l γ (a 1) hg_16) (cxV (nA := 4) hts goodU U821 U685 U686 U85 U687 (by decide +kernel) ⟨Nat.le_of_ble_eq_true rfl, Nat.le_of_ble_eq_true rfl⟩) hP (hD _ _ _ _ _ _ _ _ _ _ _) hS hl dX6_lossFits_64 (foc_ro (foc_r0 γ a _ _ _ _ _ _ _ _ _ _ _ (fun _ _ => 0))) 0 3 rfl rfl rfl rfl (Nat.le_of_ble_eq_true rfl) rfl rfl (fun H locs hP hS => ?_)
              refine lv_iload hx hb dX6_lossFits_67 (lv_at hl 0 rfl) ?_
              refine lv_icmp_eq (tgt := 74) hx hb dX6_lossFits_69 (by decide) (fun c_17 => ?_) (fun c_17 => ?_)
              · replace hf := ite_p c_17 hf
                obtain ⟨x3_18, e_x3_18⟩ : ∃ y : Int32, y = x3_2 + (1 : Int32) := ⟨_, rfl⟩
                replace hf := nm_y hf e_x3_18
                refine lv_iinc (v := x3_18) (lv' := [(3, .int x3_18), (4, .int r_4), (0, .ref ((a 0) 0)), (1, .int x1_1), (2, .ref ((a (8 + nr)) 0))]) hx hb dX6_lossFits_74 hl (k := 4) rfl (by rw [e_x3_18]; rfl) (by decide) rfl (fun ls hl => ?_)
                refine lv_goto (tgt := 2) hx hb dX6_lossFits_77 (by decide) ?_
                exact ih x3_18 _ _ _ hf hP hS (lv_sub hl [2, 3, 4, 0] rfl)
              · replace hf := ite_n c_17 hf
                refine lv_iconst (v := 0) hx hb dX6_lossFits_72 (by decide) ?_
                obtain rfl := Option.some.inj hf
                exact kt_zret C0 (by decide) hP hS dX6_lossFits_73
  unfold f_X6_lossFits at hf
  refine lv_iconst (v := 0) hx hb dX6_lossFits_0 (by decide) ?_
  refine lv_istore_n (lv' := [(3, .int (0 : Int32)), (0, .ref ((a 0) 0)), (1, .int x1), (2, .ref ((a (8 + nr)) 0))]) hx hb dX6_lossFits_1 rfl hl (by decide) rfl (fun ls hl => ?_)
  exact L2 x1 FU (0 : Int32) _ _ _ hf hP hS (lv_sub hl [1, 2, 3, 0] rfl)
set_option maxHeartbeats 4000000 in
set_option maxRecDepth 100000 in
theorem c_X6_fits (l : Launch) (γ : Gm) (a : Nat → Nat → Nat) {so : GS} {r0 : GS} {r1 : GS} {r2 : GS} {rw : Nat → GS} {re : Nat → Nat → Int64} {tn : Option Nat} {se : GS} {sv : GS} {sk : GS} {sd : GS} {x1 : Int32} {rv : Int32} {so_z : GS} (hf : f_X6_fits so r0 rw re x1 = some (rv, so_z)) : Kt l γ yX6_fits (Cond.code yX6_fits cX6_fits 5 (some .int) :: U) 4 91 [.ref ((a 0) 0), .int x1] (wC γ a so r0 r1 r2 rw re tn se sv sk sd) (some (.int rv)) (wC γ a so_z r0 r1 r2 rw re tn se sv sk sd) := by
  refine Kt.of (by decide) rfl (Nat.le_of_ble_eq_true rfl) rfl ?_
  intro p e s m below meth c A ls C0 hP hD0 hS hl
  obtain ⟨hx, hb, hml, hown, hts, hr, hlocks, hK, hE, hA⟩ := id C0
  have hU : ∀ w ∈ U, w.before _ s = true := fun w h => hts w (List.mem_cons_of_mem _ h)
  have hD : ∀ (so : GS) (r0 : GS) (r1 : GS) (r2 : GS) (rw : Nat → GS) (re : Nat → Nat → Int64) (tn : Option Nat) (se : GS) (sv : GS) (sk : GS) (sd : GS), va_D A (wC γ a so r0 r1 r2 rw re tn se sv sk sd) := fun _ _ _ _ _ _ _ _ _ _ _ => hD0.fst rfl
  have hl : lv_has ls 5 [(0, .ref ((a 0) 0)), (1, .int x1)] := hl
  have L46 : ∀ (x1_6 : Int32) (so_9 : GS) (n : Nat) (x3_7 : Int32) (x4_8 : Int32) (H : Heap) (locs : List Loc) (ls : Array Slot), f_X6_fits_L46 r0 rw re x1_6 so_9 n x3_7 x4_8 = some (rv, so_z) → va_P γ.1 vwCl (wC γ a so_9 r0 r1 r2 rw re tn se sv sk sd) H → va_S A s.heap H locs → lv_has ls 5 [(0, .ref ((a 0) 0)), (1, .int x1_6), (3, .int x3_7), (4, .int x4_8)] → W p l e (rmK 4 91) s m ([.ref ((a 0) 0), .int x1] : List Value).toArray below meth c H locs 0 0 (MQ below (KQ γ A (some (.int rv)) (wC γ a so_z r0 r1 r2 rw re tn se sv sk sd)) ([.ref ((a 0) 0), .int x1] : List Value).toArray s 0 0 A) (F0 m 46 ls []) := by
    intro x1_6 so_9
    intro n
    induction n with
    | zero =>
      intro x3_7 x4_8 H locs ls hf
      have hf : none = some _ := hf
      cases hf
    | succ n ih =>
      intro x3_7 x4_8 H locs ls hf hP hS hl
      rw [f_X6_fits_L46.eq_2] at hf
      refine lv_iload hx hb dX6_fits_46 (lv_at hl 3 rfl) ?_
      refine lv_aload_n hx hb dX6_fits_48 rfl (lv_at hl 0 rfl) ?_
      refine va_get (D := γ.1) (ci := 6) (v := .ref ((a 1) 0)) (C := RX6) (T := TX6) (N := 12) hx hb hU uin6 hown hK hP 0 rfl rfl 0 (by decide) (hU _ U299) (fun _ h9 => h9) rfl dX6_fits_49 ?_
      refine va_getN (D := γ.1) (ci := 3) (v := .int (r0 0 0)) (C := RX3) (T := TX3) (N := 18) hx hb hU uin3 hown hK hP 4 rfl rfl 0 (by decide) (va_Nw.use rfl (hE.2.2.2.2.2.1 _ NW4)) (fun _ h9 => h9) rfl dX6_fits_52 ?_
      refine lv_icmp_ge (tgt := 98) hx hb dX6_fits_55 (by decide) (fun c_10 => ?_) (fun c_10 => ?_)
      · replace hf := ite_p c_10 hf
        refine lv_iload_n hx hb dX6_fits_98 rfl (lv_at hl 2 rfl) ?_
        obtain ⟨rfl, rfl⟩ := rt2 hf
        exact kt_iret C0 hP hS dX6_fits_99
      · replace hf := ite_n c_10 hf
        refine lv_aload_n hx hb dX6_fits_58 rfl (lv_at hl 0 rfl) ?_
        refine va_get (D := γ.1) (ci := 6) (v := .ref ((a 1) 0)) (C := RX6) (T := TX6) (N := 12) hx hb hU uin6 hown hK hP 0 rfl rfl 0 (by decide) (hU _ U299) (fun _ h9 => h9) rfl dX6_fits_59 ?_
        refine lv_iload hx hb dX6_fits_62 (lv_at hl 3 rfl) ?_
        obtain ⟨r_11, hg_12, hf⟩ := bd_of hf
        refine kt_VF (As := [.int x4_8]) (rest := []) (st1 := [.int r_11]) (b := (a 1) 0) (wc' := wC γ a so_9 r0 r1 r2 rw re tn se sv sk sd) C0 (c_X3_isStanding l γ (a 1) hg_12) (cxV (nA := 1) hts goodU U755 U436 U437 U85 U438 (by decide +kernel) ⟨Nat.le_of_ble_eq_true rfl, Nat.le_of_ble_eq_true rfl⟩) hP (hD _ _ _ _ _ _ _ _ _ _ _) hS hl dX6_fits_64 (foc_ro (foc_r0 γ a _ _ _ _ _ _ _ _ _ _ _ (fun _ _ => 0))) 0 3 rfl rfl rfl rfl (Nat.le_of_ble_eq_true rfl) rfl rfl (fun H locs hP hS => ?_)
        refine lv_if_eq (tgt := 92) hx hb dX6_fits_67 (by decide) (fun c_13 => ?_) (fun c_13 => ?_)
        · replace hf := ite_p c_13 hf
          obtain ⟨x4_14, e_x4_14⟩ : ∃ y : Int32, y = x4_8 + (1 : Int32) := ⟨_, rfl⟩
          replace hf := nm_y hf e_x4_14
          refine lv_iinc (v := x4_14) (lv' := [(4, .int x4_14), (0, .ref ((a 0) 0)), (1, .int x1_6), (3, .int x3_7)]) hx hb dX6_fits_92 hl (k := 3) rfl (by rw [e_x4_14]; rfl) (by decide) rfl (fun ls hl => ?_)
          refine lv_goto (tgt := 46) hx hb dX6_fits_95 (by decide) ?_
          exact ih x3_7 x4_14 _ _ _ hf hP hS (lv_sub hl [1, 2, 3, 0] rfl)
        · replace hf := ite_n c_13 hf
          refine lv_aload_n hx hb dX6_fits_70 rfl (lv_at hl 0 rfl) ?_
          refine lv_iload hx hb dX6_fits_71 (lv_at hl 3 rfl) ?_
          refine lv_aload_n hx hb dX6_fits_73 rfl (lv_at hl 0 rfl) ?_
          refine va_get (D := γ.1) (ci := 6) (v := .ref (a 0 5)) (C := RX6) (T := TX6) (N := 12) hx hb hU uin6 hown hK hP 0 rfl rfl 4 (by decide) (hU _ U303) (fun _ h9 => h9) rfl dX6_fits_74 ?_
          refine lv_iload_n hx hb dX6_fits_77 rfl (lv_at hl 1 rfl) ?_
          obtain ⟨g_15, hf⟩ := gd_of hf
          refine va_aldq (C := RX5) hx hb hK hP 1 2 rfl rfl (inB_vp g_15) dX6_fits_78 ?_
          rw [rowF_at a (inB_lt g_15)]
          obtain ⟨r_16, hg_17, hf⟩ := bd_of hf
          refine kt_V0 (As := [.int x4_8, .ref ((a (8 + x1_6.toNatClampNeg)) 0)]) (rest := []) (st1 := [.int r_16]) (b := (a 0) 0) C0 (c_X6_lossFits l γ a (inB_lt g_15) hg_17) (cxV (nA := 2) hts goodU U816 U818 U22 U84 U819 (by decide +kernel) ⟨Nat.le_of_ble_eq_true rfl, Nat.le_of_ble_eq_true rfl⟩) hP (hD _ _ _ _ _ _ _ _ _ _ _) hS hl dX6_fits_79 0 6 rfl rfl rfl rfl (Nat.le_of_ble_eq_true rfl) rfl rfl (fun H locs hP hS => ?_)
          refine lv_if_eq (tgt := 92) hx hb dX6_fits_82 (by decide) (fun c_18 => ?_) (fun c_18 => ?_)
          · replace hf := ite_p c_18 hf
            obtain ⟨x4_19, e_x4_19⟩ : ∃ y : Int32, y = x4_8 + (1 : Int32) := ⟨_, rfl⟩
            replace hf := nm_y hf e_x4_19
            refine lv_iinc (v := x4_19) (lv' := [(4, .int x4_19), (0, .ref ((a 0) 0)), (1, .int x1_6), (3, .int x3_7)]) hx hb dX6_fits_92 hl (k := 3) rfl (by rw [e_x4_19]; rfl) (by decide) rfl (fun ls hl => ?_)
            refine lv_goto (tgt := 46) hx hb dX6_fits_95 (by decide) ?_
            exact ih x3_7 x4_19 _ _ _ hf hP hS (lv_sub hl [1, 2, 3, 0] rfl)
          · replace hf := ite_n c_18 hf
            refine lv_iload_n hx hb dX6_fits_85 rfl (lv_at hl 2 rfl) ?_
            refine lv_iconst (v := 1) hx hb dX6_fits_86 (by decide) ?_
            refine lv_iload hx hb dX6_fits_87 (lv_at hl 3 rfl) ?_
            refine lv_ishl hx hb dX6_fits_89 ?_
            refine lv_ior hx hb dX6_fits_90 ?_
            refine lv_topi (fun u_20 e_u_20 => ?_)
            replace hf := nm_y hf e_u_20
            refine lv_istore_n (lv' := [(3, .int u_20), (0, .ref ((a 0) 0)), (1, .int x1_6), (4, .int x4_8)]) hx hb dX6_fits_91 rfl hl (by decide) rfl (fun ls hl => ?_)
            obtain ⟨x4_21, e_x4_21⟩ : ∃ y : Int32, y = x4_8 + (1 : Int32) := ⟨_, rfl⟩
            replace hf := nm_y hf e_x4_21
            refine lv_iinc (v := x4_21) (lv' := [(4, .int x4_21), (3, .int u_20), (0, .ref ((a 0) 0)), (1, .int x1_6)]) hx hb dX6_fits_92 hl (k := 3) rfl (by rw [e_x4_21]; rfl) (by decide) rfl (fun ls hl => ?_)
            refine lv_goto (tgt := 46) hx hb dX6_fits_95 (by decide) ?_
            exact ih u_20 x4_21 _ _ _ hf hP hS (lv_sub hl [2, 3, 1, 0] rfl)
  unfold f_X6_fits at hf
  refine lv_aload_n hx hb dX6_fits_0 rfl (lv_at hl 0 rfl) ?_
  refine lv_iload_n hx hb dX6_fits_1 rfl (lv_at hl 1 rfl) ?_
  obtain ⟨r_1, hg_2, hf⟩ := bd_of hf
  refine kt_V0 (As := [.int x1]) (rest := []) (st1 := [.int r_1]) (b := (a 0) 0) C0 (c_X6_rowRefusal l γ a hg_2) (cxV (nA := 1) hts goodU U355 U357 U1 U84 U358 (by decide +kernel) ⟨Nat.le_of_ble_eq_true rfl, Nat.le_of_ble_eq_true rfl⟩) hP (hD _ _ _ _ _ _ _ _ _ _ _) hS hl dX6_fits_2 0 6 rfl rfl rfl rfl (Nat.le_of_ble_eq_true rfl) rfl rfl (fun H locs hP hS => ?_)
  refine lv_istore_n (lv' := [(2, .int r_1), (0, .ref ((a 0) 0)), (1, .int x1)]) hx hb dX6_fits_5 rfl hl (by decide) rfl (fun ls hl => ?_)
  refine lv_iload_n hx hb dX6_fits_6 rfl (lv_at hl 0 rfl) ?_
  refine lv_if_eq (tgt := 16) hx hb dX6_fits_7 (by decide) (fun c_3 => ?_) (fun c_3 => ?_)
  · replace hf := ite_p c_3 hf
    refine lv_aload_n hx hb dX6_fits_16 rfl (lv_at hl 1 rfl) ?_
    refine va_get (D := γ.1) (ci := 6) (v := .ref (a 0 5)) (C := RX6) (T := TX6) (N := 12) hx hb hU uin6 hown hK hP 0 rfl rfl 4 (by decide) (hU _ U303) (fun _ h9 => h9) rfl dX6_fits_17 ?_
    refine lv_iload_n hx hb dX6_fits_20 rfl (lv_at hl 2 rfl) ?_
    obtain ⟨g_4, hf⟩ := gd_of hf
    refine va_aldq (C := RX5) hx hb hK hP 1 2 rfl rfl (inB_vp g_4) dX6_fits_21 ?_
    rw [rowF_at a (inB_lt g_4)]
    refine va_getN (D := γ.1) (ci := 5) (v := .int ((rw x1.toNatClampNeg) 0 2)) (C := RX5) (T := TX5) (N := 3) hx hb hU uin5 hown hK hP (57 + 2 * x1.toNatClampNeg) (row_at γ a _ _ _ _ _ _ _ _ _ _ _ (inB_lt g_4)) rfl 2 (by decide) (va_Nw.use rfl (hE.2.2.2.2.2.1 _ NW39)) (fun _ h9 => h9) rfl dX6_fits_22 ?_
    refine lv_aload_n hx hb dX6_fits_25 rfl (lv_at hl 1 rfl) ?_
    refine va_get (D := γ.1) (ci := 6) (v := .ref ((a 1) 0)) (C := RX6) (T := TX6) (N := 12) hx hb hU uin6 hown hK hP 0 rfl rfl 0 (by decide) (hU _ U299) (fun _ h9 => h9) rfl dX6_fits_26 ?_
    refine va_getN (D := γ.1) (ci := 3) (v := .int (r0 0 0)) (C := RX3) (T := TX3) (N := 18) hx hb hU uin3 hown hK hP 4 rfl rfl 0 (by decide) (va_Nw.use rfl (hE.2.2.2.2.2.1 _ NW4)) (fun _ h9 => h9) rfl dX6_fits_29 ?_
    refine lv_icmp_ge (tgt := 41) hx hb dX6_fits_32 (by decide) (fun c_5 => ?_) (fun c_5 => ?_)
    · replace hf := ite_p c_5 hf
      refine lv_iconst (v := 0) hx hb dX6_fits_41 (by decide) ?_
      refine lv_istore_n (lv' := [(3, .int (0 : Int32)), (2, .int r_1), (0, .ref ((a 0) 0)), (1, .int x1)]) hx hb dX6_fits_42 rfl hl (by decide) rfl (fun ls hl => ?_)
      refine lv_iconst (v := 0) hx hb dX6_fits_43 (by decide) ?_
      refine lv_istore (lv' := [(4, .int (0 : Int32)), (3, .int (0 : Int32)), (2, .int r_1), (0, .ref ((a 0) 0)), (1, .int x1)]) hx hb dX6_fits_44 hl (by decide) rfl (fun ls hl => ?_)
      exact L46 x1 so FU (0 : Int32) (0 : Int32) _ _ _ hf hP hS (lv_sub hl [3, 4, 1, 0] rfl)
    · replace hf := ite_n c_5 hf
      refine lv_aload_n hx hb dX6_fits_35 rfl (lv_at hl 1 rfl) ?_
      refine lv_iconst (v := 5) hx hb dX6_fits_36 (by decide) ?_
      obtain ⟨r_22, so_23, hg_24, hf⟩ := bd2_of hf
      refine kt_V0 (As := [.int (5 : Int32)]) (rest := []) (st1 := [.int r_22]) (b := (a 0) 0) C0 (c_X6_refused l γ a hg_24) (cxV (nA := 1) hts goodU U343 U345 U0 U84 U346 (by decide +kernel) ⟨Nat.le_of_ble_eq_true rfl, Nat.le_of_ble_eq_true rfl⟩) hP (hD _ _ _ _ _ _ _ _ _ _ _) hS hl dX6_fits_37 0 6 rfl rfl rfl rfl (Nat.le_of_ble_eq_true rfl) rfl rfl (fun H locs hP hS => ?_)
      obtain ⟨rfl, rfl⟩ := rt2 hf
      exact kt_iret C0 hP hS dX6_fits_40
  · replace hf := ite_n c_3 hf
    refine lv_aload_n hx hb dX6_fits_10 rfl (lv_at hl 1 rfl) ?_
    refine lv_iload_n hx hb dX6_fits_11 rfl (lv_at hl 0 rfl) ?_
    obtain ⟨r_25, so_26, hg_27, hf⟩ := bd2_of hf
    refine kt_V0 (As := [.int r_1]) (rest := []) (st1 := [.int r_25]) (b := (a 0) 0) C0 (c_X6_refused l γ a hg_27) (cxV (nA := 1) hts goodU U343 U345 U0 U84 U346 (by decide +kernel) ⟨Nat.le_of_ble_eq_true rfl, Nat.le_of_ble_eq_true rfl⟩) hP (hD _ _ _ _ _ _ _ _ _ _ _) hS hl dX6_fits_12 0 6 rfl rfl rfl rfl (Nat.le_of_ble_eq_true rfl) rfl rfl (fun H locs hP hS => ?_)
    obtain ⟨rfl, rfl⟩ := rt2 hf
    exact kt_iret C0 hP hS dX6_fits_15
set_option maxHeartbeats 4000000 in
set_option maxRecDepth 100000 in
theorem c_X6_fires (l : Launch) (γ : Gm) (a : Nat → Nat → Nat) {so : GS} {r0 : GS} {r1 : GS} {r2 : GS} {rw : Nat → GS} {re : Nat → Nat → Int64} {tn : Option Nat} {se : GS} {sv : GS} {sk : GS} {sd : GS} {x1 : Int32} {rv : Int32} {so_z : GS} (hf : f_X6_fires so r0 x1 = some (rv, so_z)) : Kt l γ yX6_fires (Cond.code yX6_fires cX6_fires 5 (some .int) :: U) 2 44 [.ref ((a 0) 0), .int x1] (wC γ a so r0 r1 r2 rw re tn se sv sk sd) (some (.int rv)) (wC γ a so_z r0 r1 r2 rw re tn se sv sk sd) := by
  refine Kt.of (by decide) rfl (Nat.le_of_ble_eq_true rfl) rfl ?_
  intro p e s m below meth c A ls C0 hP hD0 hS hl
  obtain ⟨hx, hb, hml, hown, hts, hr, hlocks, hK, hE, hA⟩ := id C0
  have hU : ∀ w ∈ U, w.before _ s = true := fun w h => hts w (List.mem_cons_of_mem _ h)
  have hD : ∀ (so : GS) (r0 : GS) (r1 : GS) (r2 : GS) (rw : Nat → GS) (re : Nat → Nat → Int64) (tn : Option Nat) (se : GS) (sv : GS) (sk : GS) (sd : GS), va_D A (wC γ a so r0 r1 r2 rw re tn se sv sk sd) := fun _ _ _ _ _ _ _ _ _ _ _ => hD0.fst rfl
  have hl : lv_has ls 5 [(0, .ref ((a 0) 0)), (1, .int x1)] := hl
  have L53 : ∀ (x2_5 : Int32) (so_8 : GS) (n : Nat) (x3_6 : Int32) (x4_7 : Int32) (H : Heap) (locs : List Loc) (ls : Array Slot), f_X6_fires_L53 r0 x2_5 so_8 n x3_6 x4_7 = some (rv, so_z) → va_P γ.1 vwCl (wC γ a so_8 r0 r1 r2 rw re tn se sv sk sd) H → va_S A s.heap H locs → lv_has ls 5 [(0, .ref ((a 0) 0)), (2, .int x2_5), (3, .int x3_6), (4, .int x4_7)] → W p l e (rmK 2 44) s m ([.ref ((a 0) 0), .int x1] : List Value).toArray below meth c H locs 0 0 (MQ below (KQ γ A (some (.int rv)) (wC γ a so_z r0 r1 r2 rw re tn se sv sk sd)) ([.ref ((a 0) 0), .int x1] : List Value).toArray s 0 0 A) (F0 m 53 ls []) := by
    intro x2_5 so_8
    intro n
    induction n with
    | zero =>
      intro x3_6 x4_7 H locs ls hf
      have hf : none = some _ := hf
      cases hf
    | succ n ih =>
      intro x3_6 x4_7 H locs ls hf hP hS hl
      rw [f_X6_fires_L53.eq_2] at hf
      refine lv_iload hx hb dX6_fires_53 (lv_at hl 3 rfl) ?_
      refine lv_if_lt (tgt := 107) hx hb dX6_fires_55 (by decide) (fun c_9 => ?_) (fun c_9 => ?_)
      · replace hf := ite_p c_9 hf
        refine lv_iload_n hx hb dX6_fires_107 rfl (lv_at hl 2 rfl) ?_
        obtain ⟨rfl, rfl⟩ := rt2 hf
        exact kt_iret C0 hP hS dX6_fires_108
      · replace hf := ite_n c_9 hf
        refine lv_iload hx hb dX6_fires_58 (lv_at hl 3 rfl) ?_
        refine lv_aload_n hx hb dX6_fires_60 rfl (lv_at hl 0 rfl) ?_
        refine va_get (D := γ.1) (ci := 6) (v := .ref ((a 1) 0)) (C := RX6) (T := TX6) (N := 12) hx hb hU uin6 hown hK hP 0 rfl rfl 0 (by decide) (hU _ U299) (fun _ h9 => h9) rfl dX6_fires_61 ?_
        refine va_getN (D := γ.1) (ci := 3) (v := .int (r0 0 1)) (C := RX3) (T := TX3) (N := 18) hx hb hU uin3 hown hK hP 4 rfl rfl 1 (by decide) (va_Nw.use rfl (hE.2.2.2.2.2.1 _ NW6)) (fun _ h9 => h9) rfl dX6_fires_64 ?_
        refine lv_iconst (v := -1) hx hb dX6_fires_67 (by decide) ?_
        refine lv_ixor hx hb dX6_fires_68 ?_
        refine lv_iand hx hb dX6_fires_69 ?_
        refine lv_if_ne (tgt := 101) hx hb dX6_fires_70 (by decide) (fun c_10 => ?_) (fun c_10 => ?_)
        · replace hf := ite_n c_10 hf
          obtain ⟨x4_11, e_x4_11⟩ : ∃ y : Int32, y = x4_7 + (-1 : Int32) := ⟨_, rfl⟩
          replace hf := nm_y hf e_x4_11
          refine lv_iinc (v := x4_11) (lv' := [(4, .int x4_11), (0, .ref ((a 0) 0)), (2, .int x2_5), (3, .int x3_6)]) hx hb dX6_fires_101 hl (k := 3) rfl (by rw [e_x4_11]; rfl) (by decide) rfl (fun ls hl => ?_)
          refine lv_goto (tgt := 53) hx hb dX6_fires_104 (by decide) ?_
          exact ih x3_6 x4_11 _ _ _ hf hP hS (lv_sub hl [1, 2, 3, 0] rfl)
        · replace hf := ite_p c_10 hf
          refine lv_iload hx hb dX6_fires_73 (lv_at hl 3 rfl) ?_
          obtain ⟨r_12, hg_13, hf⟩ := bd_of hf
          refine kt_SF (As := [.int x4_7]) (rest := []) (st1 := [.int r_12]) (wc' := wC γ a so_8 r0 r1 r2 rw re tn se sv sk sd) C0 (c_J6_bitCount_0f7a4 l γ hg_13) (cxS (nA := 1) hts goodU U765 U766 U98 U767 (by decide +kernel) ⟨Nat.le_of_ble_eq_true rfl, Nat.le_of_ble_eq_true rfl⟩) hP (hD _ _ _ _ _ _ _ _ _ _ _) hS hl dX6_fires_75 foc_nil rfl (Nat.le_of_ble_eq_true rfl) rfl rfl (fun H locs hP hS => ?_)
          refine lv_iload_n hx hb dX6_fires_78 rfl (lv_at hl 2 rfl) ?_
          obtain ⟨r_14, hg_15, hf⟩ := bd_of hf
          refine kt_SF (As := [.int x3_6]) (rest := [.int r_12]) (st1 := [.int r_14, .int r_12]) (wc' := wC γ a so_8 r0 r1 r2 rw re tn se sv sk sd) C0 (c_J6_bitCount_0f7a4 l γ hg_15) (cxS (nA := 1) hts goodU U765 U766 U98 U767 (by decide +kernel) ⟨Nat.le_of_ble_eq_true rfl, Nat.le_of_ble_eq_true rfl⟩) hP (hD _ _ _ _ _ _ _ _ _ _ _) hS hl dX6_fires_79 foc_nil rfl (Nat.le_of_ble_eq_true rfl) rfl rfl (fun H locs hP hS => ?_)
          refine lv_icmp_gt (tgt := 101) hx hb dX6_fires_82 (by decide) (fun c_16 => ?_) (fun c_16 => ?_)
          · replace hf := ite_p c_16 hf
            obtain ⟨x4_17, e_x4_17⟩ : ∃ y : Int32, y = x4_7 + (-1 : Int32) := ⟨_, rfl⟩
            replace hf := nm_y hf e_x4_17
            refine lv_iinc (v := x4_17) (lv' := [(4, .int x4_17), (0, .ref ((a 0) 0)), (2, .int x2_5), (3, .int x3_6)]) hx hb dX6_fires_101 hl (k := 3) rfl (by rw [e_x4_17]; rfl) (by decide) rfl (fun ls hl => ?_)
            refine lv_goto (tgt := 53) hx hb dX6_fires_104 (by decide) ?_
            exact ih x3_6 x4_17 _ _ _ hf hP hS (lv_sub hl [1, 2, 3, 0] rfl)
          · replace hf := ite_n c_16 hf
            refine lv_aload_n hx hb dX6_fires_85 rfl (lv_at hl 0 rfl) ?_
            refine va_get (D := γ.1) (ci := 6) (v := .ref ((a 1) 0)) (C := RX6) (T := TX6) (N := 12) hx hb hU uin6 hown hK hP 0 rfl rfl 0 (by decide) (hU _ U299) (fun _ h9 => h9) rfl dX6_fires_86 ?_
            refine lv_iload_n hx hb dX6_fires_89 rfl (lv_at hl 1 rfl) ?_
            refine lv_iload hx hb dX6_fires_90 (lv_at hl 3 rfl) ?_
            obtain ⟨r_18, hg_19, hf⟩ := bd_of hf
            refine kt_VF (As := [.int x2_5, .int x4_7]) (rest := []) (st1 := [.int r_18]) (b := (a 1) 0) (wc' := wC γ a so_8 r0 r1 r2 rw re tn se sv sk sd) C0 (c_X3_allSeeOne l γ (a 1) hg_19) (cxV (nA := 2) hts goodU U826 U827 U828 U85 U829 (by decide +kernel) ⟨Nat.le_of_ble_eq_true rfl, Nat.le_of_ble_eq_true rfl⟩) hP (hD _ _ _ _ _ _ _ _ _ _ _) hS hl dX6_fires_92 (foc_ro (foc_r0 γ a _ _ _ _ _ _ _ _ _ _ _ (fun _ _ => 0))) 0 3 rfl rfl rfl rfl (Nat.le_of_ble_eq_true rfl) rfl rfl (fun H locs hP hS => ?_)
            refine lv_if_eq (tgt := 101) hx hb dX6_fires_95 (by decide) (fun c_20 => ?_) (fun c_20 => ?_)
            · replace hf := ite_p c_20 hf
              obtain ⟨x4_21, e_x4_21⟩ : ∃ y : Int32, y = x4_7 + (-1 : Int32) := ⟨_, rfl⟩
              replace hf := nm_y hf e_x4_21
              refine lv_iinc (v := x4_21) (lv' := [(4, .int x4_21), (0, .ref ((a 0) 0)), (2, .int x2_5), (3, .int x3_6)]) hx hb dX6_fires_101 hl (k := 3) rfl (by rw [e_x4_21]; rfl) (by decide) rfl (fun ls hl => ?_)
              refine lv_goto (tgt := 53) hx hb dX6_fires_104 (by decide) ?_
              exact ih x3_6 x4_21 _ _ _ hf hP hS (lv_sub hl [1, 2, 3, 0] rfl)
            · replace hf := ite_n c_20 hf
              refine lv_iload hx hb dX6_fires_98 (lv_at hl 3 rfl) ?_
              refine lv_istore_n (lv' := [(3, .int x4_7), (0, .ref ((a 0) 0)), (2, .int x2_5), (4, .int x4_7)]) hx hb dX6_fires_100 rfl hl (by decide) rfl (fun ls hl => ?_)
              obtain ⟨x4_22, e_x4_22⟩ : ∃ y : Int32, y = x4_7 + (-1 : Int32) := ⟨_, rfl⟩
              replace hf := nm_y hf e_x4_22
              refine lv_iinc (v := x4_22) (lv' := [(4, .int x4_22), (3, .int x4_7), (0, .ref ((a 0) 0)), (2, .int x2_5)]) hx hb dX6_fires_101 hl (k := 3) rfl (by rw [e_x4_22]; rfl) (by decide) rfl (fun ls hl => ?_)
              refine lv_goto (tgt := 53) hx hb dX6_fires_104 (by decide) ?_
              exact ih x4_7 x4_22 _ _ _ hf hP hS (lv_sub hl [2, 3, 1, 0] rfl)
  unfold f_X6_fires at hf
  refine lv_iload_n hx hb dX6_fires_0 rfl (lv_at hl 1 rfl) ?_
  refine lv_iconst (v := 1) hx hb dX6_fires_1 (by decide) ?_
  refine lv_aload_n hx hb dX6_fires_2 rfl (lv_at hl 0 rfl) ?_
  refine va_get (D := γ.1) (ci := 6) (v := .ref ((a 1) 0)) (C := RX6) (T := TX6) (N := 12) hx hb hU uin6 hown hK hP 0 rfl rfl 0 (by decide) (hU _ U299) (fun _ h9 => h9) rfl dX6_fires_3 ?_
  refine va_getN (D := γ.1) (ci := 3) (v := .int (r0 0 0)) (C := RX3) (T := TX3) (N := 18) hx hb hU uin3 hown hK hP 4 rfl rfl 0 (by decide) (va_Nw.use rfl (hE.2.2.2.2.2.1 _ NW4)) (fun _ h9 => h9) rfl dX6_fires_6 ?_
  refine lv_ishl hx hb dX6_fires_9 ?_
  refine lv_ineg hx hb dX6_fires_10 ?_
  refine lv_iand hx hb dX6_fires_11 ?_
  refine lv_if_eq (tgt := 22) hx hb dX6_fires_12 (by decide) (fun c_1 => ?_) (fun c_1 => ?_)
  · replace hf := ite_p c_1 hf
    refine lv_iload_n hx hb dX6_fires_22 rfl (lv_at hl 1 rfl) ?_
    refine lv_aload_n hx hb dX6_fires_23 rfl (lv_at hl 0 rfl) ?_
    refine va_get (D := γ.1) (ci := 6) (v := .ref ((a 1) 0)) (C := RX6) (T := TX6) (N := 12) hx hb hU uin6 hown hK hP 0 rfl rfl 0 (by decide) (hU _ U299) (fun _ h9 => h9) rfl dX6_fires_24 ?_
    refine va_getN (D := γ.1) (ci := 3) (v := .int (r0 0 1)) (C := RX3) (T := TX3) (N := 18) hx hb hU uin3 hown hK hP 4 rfl rfl 1 (by decide) (va_Nw.use rfl (hE.2.2.2.2.2.1 _ NW6)) (fun _ h9 => h9) rfl dX6_fires_27 ?_
    refine lv_iand hx hb dX6_fires_30 ?_
    refine lv_topi (fun u_2 e_u_2 => ?_)
    replace hf := nm_y hf e_u_2
    refine lv_istore_n (lv' := [(2, .int u_2), (0, .ref ((a 0) 0)), (1, .int x1)]) hx hb dX6_fires_31 rfl hl (by decide) rfl (fun ls hl => ?_)
    refine lv_aload_n hx hb dX6_fires_32 rfl (lv_at hl 1 rfl) ?_
    refine va_get (D := γ.1) (ci := 6) (v := .ref ((a 1) 0)) (C := RX6) (T := TX6) (N := 12) hx hb hU uin6 hown hK hP 0 rfl rfl 0 (by decide) (hU _ U299) (fun _ h9 => h9) rfl dX6_fires_33 ?_
    refine va_getN (D := γ.1) (ci := 3) (v := .int (r0 0 1)) (C := RX3) (T := TX3) (N := 18) hx hb hU uin3 hown hK hP 4 rfl rfl 1 (by decide) (va_Nw.use rfl (hE.2.2.2.2.2.1 _ NW6)) (fun _ h9 => h9) rfl dX6_fires_36 ?_
    refine lv_topi (fun u_3 e_u_3 => ?_)
    replace hf := nm_y hf e_u_3
    refine lv_istore_n (lv' := [(3, .int u_3), (2, .int u_2), (0, .ref ((a 0) 0)), (1, .int x1)]) hx hb dX6_fires_39 rfl hl (by decide) rfl (fun ls hl => ?_)
    refine lv_iconst (v := 1) hx hb dX6_fires_40 (by decide) ?_
    refine lv_aload_n hx hb dX6_fires_41 rfl (lv_at hl 2 rfl) ?_
    refine va_get (D := γ.1) (ci := 6) (v := .ref ((a 1) 0)) (C := RX6) (T := TX6) (N := 12) hx hb hU uin6 hown hK hP 0 rfl rfl 0 (by decide) (hU _ U299) (fun _ h9 => h9) rfl dX6_fires_42 ?_
    refine va_getN (D := γ.1) (ci := 3) (v := .int (r0 0 0)) (C := RX3) (T := TX3) (N := 18) hx hb hU uin3 hown hK hP 4 rfl rfl 0 (by decide) (va_Nw.use rfl (hE.2.2.2.2.2.1 _ NW4)) (fun _ h9 => h9) rfl dX6_fires_45 ?_
    refine lv_ishl hx hb dX6_fires_48 ?_
    refine lv_iconst (v := 1) hx hb dX6_fires_49 (by decide) ?_
    refine lv_isub hx hb dX6_fires_50 ?_
    refine lv_topi (fun u_4 e_u_4 => ?_)
    replace hf := nm_y hf e_u_4
    refine lv_istore (lv' := [(4, .int u_4), (3, .int u_3), (2, .int u_2), (0, .ref ((a 0) 0)), (1, .int x1)]) hx hb dX6_fires_51 hl (by decide) rfl (fun ls hl => ?_)
    exact L53 u_2 so FU u_3 u_4 _ _ _ hf hP hS (lv_sub hl [3, 2, 1, 0] rfl)
  · replace hf := ite_n c_1 hf
    refine lv_aload_n hx hb dX6_fires_15 rfl (lv_at hl 0 rfl) ?_
    refine lv_bipush (v := 6) hx hb dX6_fires_16 (by decide) ?_
    obtain ⟨r_23, so_24, hg_25, hf⟩ := bd2_of hf
    refine kt_V0 (As := [.int (6 : Int32)]) (rest := []) (st1 := [.int r_23]) (b := (a 0) 0) C0 (c_X6_refused l γ a hg_25) (cxV (nA := 1) hts goodU U343 U345 U0 U84 U346 (by decide +kernel) ⟨Nat.le_of_ble_eq_true rfl, Nat.le_of_ble_eq_true rfl⟩) hP (hD _ _ _ _ _ _ _ _ _ _ _) hS hl dX6_fires_18 0 6 rfl rfl rfl rfl (Nat.le_of_ble_eq_true rfl) rfl rfl (fun H locs hP hS => ?_)
    obtain ⟨rfl, rfl⟩ := rt2 hf
    exact kt_iret C0 hP hS dX6_fires_21
set_option maxHeartbeats 4000000 in
set_option maxRecDepth 100000 in
theorem c_X6_send (l : Launch) (γ : Gm) (a : Nat → Nat → Nat) {so : GS} {r0 : GS} {r1 : GS} {r2 : GS} {rw : Nat → GS} {re : Nat → Nat → Int64} {tn : Option Nat} {se : GS} {sv : GS} {sk : GS} {sd : GS} {rv : Int32} (hf : f_X6_send r0 = some rv) : Kt l γ yX6_send (Cond.code yX6_send cX6_send 5 (some .int) :: U) 2 42 [.ref ((a 0) 0)] (wC γ a so r0 r1 r2 rw re tn se sv sk sd) (some (.int rv)) (wC γ a so r0 r1 r2 rw re tn se sv sk sd) := by
  refine Kt.of (by decide) rfl (Nat.le_of_ble_eq_true rfl) rfl ?_
  intro p e s m below meth c A ls C0 hP hD0 hS hl
  obtain ⟨hx, hb, hml, hown, hts, hr, hlocks, hK, hE, hA⟩ := id C0
  have hU : ∀ w ∈ U, w.before _ s = true := fun w h => hts w (List.mem_cons_of_mem _ h)
  have hD : ∀ (so : GS) (r0 : GS) (r1 : GS) (r2 : GS) (rw : Nat → GS) (re : Nat → Nat → Int64) (tn : Option Nat) (se : GS) (sv : GS) (sk : GS) (sd : GS), va_D A (wC γ a so r0 r1 r2 rw re tn se sv sk sd) := fun _ _ _ _ _ _ _ _ _ _ _ => hD0.fst rfl
  have hl : lv_has ls 5 [(0, .ref ((a 0) 0))] := hl
  have J54 : ∀ (x3_14 : Int32) (x4_15 : Int32) (K6 : Int32 → Int32 → Int32 → Option (Int32)) (HK6 : ∀ (z1 : Int32) (z2 : Int32) (z3 : Int32) (H : Heap) (locs : List Loc) (ls : Array Slot), K6 z1 z2 z3 = some rv → va_P γ.1 vwCl (wC γ a so r0 r1 r2 rw re tn se sv sk sd) H → va_S A s.heap H locs → lv_has ls 5 [(0, .ref ((a 0) 0)), (1, .int z1), (2, .int z2), (3, .int z3)] → W p l e (rmK 2 42) s m ([.ref ((a 0) 0)] : List Value).toArray below meth c H locs 0 0 (MQ below (KQ γ A (some (.int rv)) (wC γ a so r0 r1 r2 rw re tn se sv sk sd)) ([.ref ((a 0) 0)] : List Value).toArray s 0 0 A) (F0 m 6 ls [])) (H : Heap) (locs : List Loc) (ls : Array Slot), f_X6_send_J54 x3_14 x4_15 K6 = some rv → va_P γ.1 vwCl (wC γ a so r0 r1 r2 rw re tn se sv sk sd) H → va_S A s.heap H locs → lv_has ls 5 [(0, .ref ((a 0) 0)), (3, .int x3_14), (4, .int x4_15)] → W p l e (rmK 2 42) s m ([.ref ((a 0) 0)] : List Value).toArray below meth c H locs 0 0 (MQ below (KQ γ A (some (.int rv)) (wC γ a so r0 r1 r2 rw re tn se sv sk sd)) ([.ref ((a 0) 0)] : List Value).toArray s 0 0 A) (F0 m 54 ls []) := by
    intro x3_14 x4_15 K6 HK6 H locs ls hf hP hS hl
    unfold f_X6_send_J54 at hf
    refine lv_iload_n hx hb dX6_send_54 rfl (lv_at hl 1 rfl) ?_
    refine lv_istore_n (lv' := [(1, .int x3_14), (0, .ref ((a 0) 0)), (3, .int x3_14), (4, .int x4_15)]) hx hb dX6_send_55 rfl hl (by decide) rfl (fun ls hl => ?_)
    refine lv_iload hx hb dX6_send_56 (lv_at hl 3 rfl) ?_
    refine lv_istore_n (lv' := [(2, .int x4_15), (1, .int x3_14), (0, .ref ((a 0) 0)), (3, .int x3_14), (4, .int x4_15)]) hx hb dX6_send_58 rfl hl (by decide) rfl (fun ls hl => ?_)
    obtain ⟨x3_16, e_x3_16⟩ : ∃ y : Int32, y = x3_14 + (1 : Int32) := ⟨_, rfl⟩
    replace hf := nm_y hf e_x3_16
    refine lv_iinc (v := x3_16) (lv' := [(3, .int x3_16), (2, .int x4_15), (1, .int x3_14), (0, .ref ((a 0) 0)), (4, .int x4_15)]) hx hb dX6_send_59 hl (k := 3) rfl (by rw [e_x3_16]; rfl) (by decide) rfl (fun ls hl => ?_)
    refine lv_goto (tgt := 6) hx hb dX6_send_62 (by decide) ?_
    exact HK6 x3_14 x4_15 x3_16 _ _ _ hf hP hS (lv_sub hl [3, 2, 1, 0] rfl)
  have L6 : ∀ (n : Nat) (x1_1 : Int32) (x2_2 : Int32) (x3_3 : Int32) (H : Heap) (locs : List Loc) (ls : Array Slot), f_X6_send_L6 r0 n x1_1 x2_2 x3_3 = some rv → va_P γ.1 vwCl (wC γ a so r0 r1 r2 rw re tn se sv sk sd) H → va_S A s.heap H locs → lv_has ls 5 [(0, .ref ((a 0) 0)), (1, .int x1_1), (2, .int x2_2), (3, .int x3_3)] → W p l e (rmK 2 42) s m ([.ref ((a 0) 0)] : List Value).toArray below meth c H locs 0 0 (MQ below (KQ γ A (some (.int rv)) (wC γ a so r0 r1 r2 rw re tn se sv sk sd)) ([.ref ((a 0) 0)] : List Value).toArray s 0 0 A) (F0 m 6 ls []) := by
    intro n
    induction n with
    | zero =>
      intro x1_1 x2_2 x3_3 H locs ls hf
      have hf : none = some _ := hf
      cases hf
    | succ n ih =>
      intro x1_1 x2_2 x3_3 H locs ls hf hP hS hl
      rw [f_X6_send_L6.eq_2] at hf
      refine lv_iload_n hx hb dX6_send_6 rfl (lv_at hl 3 rfl) ?_
      refine lv_aload_n hx hb dX6_send_7 rfl (lv_at hl 0 rfl) ?_
      refine va_get (D := γ.1) (ci := 6) (v := .ref ((a 1) 0)) (C := RX6) (T := TX6) (N := 12) hx hb hU uin6 hown hK hP 0 rfl rfl 0 (by decide) (hU _ U299) (fun _ h9 => h9) rfl dX6_send_8 ?_
      refine va_getN (D := γ.1) (ci := 3) (v := .int (r0 0 0)) (C := RX3) (T := TX3) (N := 18) hx hb hU uin3 hown hK hP 4 rfl rfl 0 (by decide) (va_Nw.use rfl (hE.2.2.2.2.2.1 _ NW4)) (fun _ h9 => h9) rfl dX6_send_11 ?_
      refine lv_icmp_ge (tgt := 65) hx hb dX6_send_14 (by decide) (fun c_4 => ?_) (fun c_4 => ?_)
      · replace hf := ite_p c_4 hf
        refine lv_iload_n hx hb dX6_send_65 rfl (lv_at hl 1 rfl) ?_
        obtain rfl := Option.some.inj hf
        exact kt_iret C0 hP hS dX6_send_66
      · replace hf := ite_n c_4 hf
        refine lv_aload_n hx hb dX6_send_17 rfl (lv_at hl 0 rfl) ?_
        refine va_get (D := γ.1) (ci := 6) (v := .ref ((a 1) 0)) (C := RX6) (T := TX6) (N := 12) hx hb hU uin6 hown hK hP 0 rfl rfl 0 (by decide) (hU _ U299) (fun _ h9 => h9) rfl dX6_send_18 ?_
        refine lv_iload_n hx hb dX6_send_21 rfl (lv_at hl 3 rfl) ?_
        obtain ⟨r_5, hg_6, hf⟩ := bd_of hf
        refine kt_VF (As := [.int x3_3]) (rest := []) (st1 := [.int r_5]) (b := (a 1) 0) (wc' := wC γ a so r0 r1 r2 rw re tn se sv sk sd) C0 (c_X3_isStanding l γ (a 1) hg_6) (cxV (nA := 1) hts goodU U755 U436 U437 U85 U438 (by decide +kernel) ⟨Nat.le_of_ble_eq_true rfl, Nat.le_of_ble_eq_true rfl⟩) hP (hD _ _ _ _ _ _ _ _ _ _ _) hS hl dX6_send_22 (foc_ro (foc_r0 γ a _ _ _ _ _ _ _ _ _ _ _ (fun _ _ => 0))) 0 3 rfl rfl rfl rfl (Nat.le_of_ble_eq_true rfl) rfl rfl (fun H locs hP hS => ?_)
        refine lv_if_eq (tgt := 59) hx hb dX6_send_25 (by decide) (fun c_7 => ?_) (fun c_7 => ?_)
        · replace hf := ite_p c_7 hf
          obtain ⟨x3_8, e_x3_8⟩ : ∃ y : Int32, y = x3_3 + (1 : Int32) := ⟨_, rfl⟩
          replace hf := nm_y hf e_x3_8
          refine lv_iinc (v := x3_8) (lv' := [(3, .int x3_8), (0, .ref ((a 0) 0)), (1, .int x1_1), (2, .int x2_2)]) hx hb dX6_send_59 hl (k := 3) rfl (by rw [e_x3_8]; rfl) (by decide) rfl (fun ls hl => ?_)
          refine lv_goto (tgt := 6) hx hb dX6_send_62 (by decide) ?_
          exact ih x1_1 x2_2 x3_8 _ _ _ hf hP hS (lv_sub hl [1, 2, 3, 0] rfl)
        · replace hf := ite_n c_7 hf
          refine lv_aload_n hx hb dX6_send_28 rfl (lv_at hl 0 rfl) ?_
          refine va_get (D := γ.1) (ci := 6) (v := .ref ((a 1) 0)) (C := RX6) (T := TX6) (N := 12) hx hb hU uin6 hown hK hP 0 rfl rfl 0 (by decide) (hU _ U299) (fun _ h9 => h9) rfl dX6_send_29 ?_
          refine lv_iconst (v := 1) hx hb dX6_send_32 (by decide) ?_
          refine lv_iload_n hx hb dX6_send_33 rfl (lv_at hl 3 rfl) ?_
          refine lv_ishl hx hb dX6_send_34 ?_
          obtain ⟨r_9, hg_10, hf⟩ := bd_of hf
          refine kt_VF (As := [.int ((1 : Int32) <<< (x3_3 &&& 31))]) (rest := []) (st1 := [.int r_9]) (b := (a 1) 0) (wc' := wC γ a so r0 r1 r2 rw re tn se sv sk sd) C0 (c_X3_watchersOf l γ (a 1) hg_10) (cxV (nA := 1) hts goodU U834 U835 U836 U85 U837 (by decide +kernel) ⟨Nat.le_of_ble_eq_true rfl, Nat.le_of_ble_eq_true rfl⟩) hP (hD _ _ _ _ _ _ _ _ _ _ _) hS hl dX6_send_35 (foc_ro (foc_r0 γ a _ _ _ _ _ _ _ _ _ _ _ (fun _ _ => 0))) 0 3 rfl rfl rfl rfl (Nat.le_of_ble_eq_true rfl) rfl rfl (fun H locs hP hS => ?_)
          obtain ⟨r_11, hg_12, hf⟩ := bd_of hf
          refine kt_SF (As := [.int r_9]) (rest := []) (st1 := [.int r_11]) (wc' := wC γ a so r0 r1 r2 rw re tn se sv sk sd) C0 (c_J6_bitCount_0f7a4 l γ hg_12) (cxS (nA := 1) hts goodU U765 U766 U98 U767 (by decide +kernel) ⟨Nat.le_of_ble_eq_true rfl, Nat.le_of_ble_eq_true rfl⟩) hP (hD _ _ _ _ _ _ _ _ _ _ _) hS hl dX6_send_38 foc_nil rfl (Nat.le_of_ble_eq_true rfl) rfl rfl (fun H locs hP hS => ?_)
          refine lv_istore (lv' := [(4, .int r_11), (0, .ref ((a 0) 0)), (1, .int x1_1), (2, .int x2_2), (3, .int x3_3)]) hx hb dX6_send_41 hl (by decide) rfl (fun ls hl => ?_)
          refine lv_iload_n hx hb dX6_send_43 rfl (lv_at hl 2 rfl) ?_
          refine lv_iconst (v := -1) hx hb dX6_send_44 (by decide) ?_
          refine lv_icmp_eq (tgt := 54) hx hb dX6_send_45 (by decide) (fun c_13 => ?_) (fun c_13 => ?_)
          · replace hf := ite_p c_13 hf
            exact J54 x3_3 r_11 _ ih _ _ _ hf hP hS (lv_sub hl [1, 4, 0] rfl)
          · replace hf := ite_n c_13 hf
            refine lv_iload hx hb dX6_send_48 (lv_at hl 0 rfl) ?_
            refine lv_iload_n hx hb dX6_send_50 rfl (lv_at hl 3 rfl) ?_
            refine lv_icmp_le (tgt := 59) hx hb dX6_send_51 (by decide) (fun c_17 => ?_) (fun c_17 => ?_)
            · replace hf := ite_p c_17 hf
              obtain ⟨x3_18, e_x3_18⟩ : ∃ y : Int32, y = x3_3 + (1 : Int32) := ⟨_, rfl⟩
              replace hf := nm_y hf e_x3_18
              refine lv_iinc (v := x3_18) (lv' := [(3, .int x3_18), (4, .int r_11), (0, .ref ((a 0) 0)), (1, .int x1_1), (2, .int x2_2)]) hx hb dX6_send_59 hl (k := 4) rfl (by rw [e_x3_18]; rfl) (by decide) rfl (fun ls hl => ?_)
              refine lv_goto (tgt := 6) hx hb dX6_send_62 (by decide) ?_
              exact ih x1_1 x2_2 x3_18 _ _ _ hf hP hS (lv_sub hl [2, 3, 4, 0] rfl)
            · replace hf := ite_n c_17 hf
              exact J54 x3_3 r_11 _ ih _ _ _ hf hP hS (lv_sub hl [1, 4, 0] rfl)
  unfold f_X6_send at hf
  refine lv_iconst (v := -1) hx hb dX6_send_0 (by decide) ?_
  refine lv_istore_n (lv' := [(1, .int (-1 : Int32)), (0, .ref ((a 0) 0))]) hx hb dX6_send_1 rfl hl (by decide) rfl (fun ls hl => ?_)
  refine lv_iconst (v := 0) hx hb dX6_send_2 (by decide) ?_
  refine lv_istore_n (lv' := [(2, .int (0 : Int32)), (1, .int (-1 : Int32)), (0, .ref ((a 0) 0))]) hx hb dX6_send_3 rfl hl (by decide) rfl (fun ls hl => ?_)
  refine lv_iconst (v := 0) hx hb dX6_send_4 (by decide) ?_
  refine lv_istore_n (lv' := [(3, .int (0 : Int32)), (2, .int (0 : Int32)), (1, .int (-1 : Int32)), (0, .ref ((a 0) 0))]) hx hb dX6_send_5 rfl hl (by decide) rfl (fun ls hl => ?_)
  exact L6 FU (-1 : Int32) (0 : Int32) (0 : Int32) _ _ _ hf hP hS (lv_sub hl [3, 2, 1, 0] rfl)
set_option maxHeartbeats 4000000 in
set_option maxRecDepth 100000 in
theorem c_X6_chain (l : Launch) (γ : Gm) (a : Nat → Nat → Nat) {so : GS} {r0 : GS} {r1 : GS} {r2 : GS} {rw : Nat → GS} {re : Nat → Nat → Int64} {tn : Option Nat} {se : GS} {sv : GS} {sk : GS} {sd : GS} {x1 : Int32} {x2 : Int32} {rv : Int32} {so_z : GS} (hf : f_X6_chain so r0 x1 x2 = some (rv, so_z)) : Kt l γ yX6_chain (Cond.code yX6_chain cX6_chain 5 (some .int) :: U) 2 42 [.ref ((a 0) 0), .int x1, .int x2] (wC γ a so r0 r1 r2 rw re tn se sv sk sd) (some (.int rv)) (wC γ a so_z r0 r1 r2 rw re tn se sv sk sd) := by
  refine Kt.of (by decide) rfl (Nat.le_of_ble_eq_true rfl) rfl ?_
  intro p e s m below meth c A ls C0 hP hD0 hS hl
  obtain ⟨hx, hb, hml, hown, hts, hr, hlocks, hK, hE, hA⟩ := id C0
  have hU : ∀ w ∈ U, w.before _ s = true := fun w h => hts w (List.mem_cons_of_mem _ h)
  have hD : ∀ (so : GS) (r0 : GS) (r1 : GS) (r2 : GS) (rw : Nat → GS) (re : Nat → Nat → Int64) (tn : Option Nat) (se : GS) (sv : GS) (sk : GS) (sd : GS), va_D A (wC γ a so r0 r1 r2 rw re tn se sv sk sd) := fun _ _ _ _ _ _ _ _ _ _ _ => hD0.fst rfl
  have hl : lv_has ls 5 [(0, .ref ((a 0) 0)), (1, .int x1), (2, .int x2)] := hl
  have J22 : ∀ (so_4 : GS) (H : Heap) (locs : List Loc) (ls : Array Slot), f_X6_chain_J22 so_4 = some (rv, so_z) → va_P γ.1 vwCl (wC γ a so_4 r0 r1 r2 rw re tn se sv sk sd) H → va_S A s.heap H locs → lv_has ls 5 [(0, .ref ((a 0) 0))] → W p l e (rmK 2 42) s m ([.ref ((a 0) 0), .int x1, .int x2] : List Value).toArray below meth c H locs 0 0 (MQ below (KQ γ A (some (.int rv)) (wC γ a so_z r0 r1 r2 rw re tn se sv sk sd)) ([.ref ((a 0) 0), .int x1, .int x2] : List Value).toArray s 0 0 A) (F0 m 22 ls []) := by
    intro so_4 H locs ls hf hP hS hl
    unfold f_X6_chain_J22 at hf
    refine lv_aload_n hx hb dX6_chain_22 rfl (lv_at hl 0 rfl) ?_
    refine lv_iconst (v := 1) hx hb dX6_chain_23 (by decide) ?_
    obtain ⟨r_5, so_6, hg_7, hf⟩ := bd2_of hf
    refine kt_V0 (As := [.int (1 : Int32)]) (rest := []) (st1 := [.int r_5]) (b := (a 0) 0) C0 (c_X6_refused l γ a hg_7) (cxV (nA := 1) hts goodU U343 U345 U0 U84 U346 (by decide +kernel) ⟨Nat.le_of_ble_eq_true rfl, Nat.le_of_ble_eq_true rfl⟩) hP (hD _ _ _ _ _ _ _ _ _ _ _) hS hl dX6_chain_24 0 6 rfl rfl rfl rfl (Nat.le_of_ble_eq_true rfl) rfl rfl (fun H locs hP hS => ?_)
    refine lv_bipush (v := 10) hx hb dX6_chain_27 (by decide) ?_
    refine lv_isub hx hb dX6_chain_29 ?_
    obtain ⟨rfl, rfl⟩ := rt2 hf
    exact kt_iret C0 hP hS dX6_chain_30
  have J58 : ∀ (so_12 : GS) (H : Heap) (locs : List Loc) (ls : Array Slot), f_X6_chain_J58 so_12 = some (rv, so_z) → va_P γ.1 vwCl (wC γ a so_12 r0 r1 r2 rw re tn se sv sk sd) H → va_S A s.heap H locs → lv_has ls 5 [(0, .ref ((a 0) 0))] → W p l e (rmK 2 42) s m ([.ref ((a 0) 0), .int x1, .int x2] : List Value).toArray below meth c H locs 0 0 (MQ below (KQ γ A (some (.int rv)) (wC γ a so_z r0 r1 r2 rw re tn se sv sk sd)) ([.ref ((a 0) 0), .int x1, .int x2] : List Value).toArray s 0 0 A) (F0 m 58 ls []) := by
    intro so_12 H locs ls hf hP hS hl
    unfold f_X6_chain_J58 at hf
    refine lv_aload_n hx hb dX6_chain_58 rfl (lv_at hl 0 rfl) ?_
    refine lv_bipush (v := 6) hx hb dX6_chain_59 (by decide) ?_
    obtain ⟨r_13, so_14, hg_15, hf⟩ := bd2_of hf
    refine kt_V0 (As := [.int (6 : Int32)]) (rest := []) (st1 := [.int r_13]) (b := (a 0) 0) C0 (c_X6_refused l γ a hg_15) (cxV (nA := 1) hts goodU U343 U345 U0 U84 U346 (by decide +kernel) ⟨Nat.le_of_ble_eq_true rfl, Nat.le_of_ble_eq_true rfl⟩) hP (hD _ _ _ _ _ _ _ _ _ _ _) hS hl dX6_chain_61 0 6 rfl rfl rfl rfl (Nat.le_of_ble_eq_true rfl) rfl rfl (fun H locs hP hS => ?_)
    refine lv_bipush (v := 10) hx hb dX6_chain_64 (by decide) ?_
    refine lv_isub hx hb dX6_chain_66 ?_
    obtain ⟨rfl, rfl⟩ := rt2 hf
    exact kt_iret C0 hP hS dX6_chain_67
  have L75 : ∀ (x2_23 : Int32) (so_26 : GS) (n : Nat) (x3_24 : Int32) (x4_25 : Int32) (H : Heap) (locs : List Loc) (ls : Array Slot), f_X6_chain_L75 r0 x2_23 so_26 n x3_24 x4_25 = some (rv, so_z) → va_P γ.1 vwCl (wC γ a so_26 r0 r1 r2 rw re tn se sv sk sd) H → va_S A s.heap H locs → lv_has ls 5 [(0, .ref ((a 0) 0)), (2, .int x2_23), (3, .int x3_24), (4, .int x4_25)] → W p l e (rmK 2 42) s m ([.ref ((a 0) 0), .int x1, .int x2] : List Value).toArray below meth c H locs 0 0 (MQ below (KQ γ A (some (.int rv)) (wC γ a so_z r0 r1 r2 rw re tn se sv sk sd)) ([.ref ((a 0) 0), .int x1, .int x2] : List Value).toArray s 0 0 A) (F0 m 75 ls []) := by
    intro x2_23 so_26
    intro n
    induction n with
    | zero =>
      intro x3_24 x4_25 H locs ls hf
      have hf : none = some _ := hf
      cases hf
    | succ n ih =>
      intro x3_24 x4_25 H locs ls hf hP hS hl
      rw [f_X6_chain_L75.eq_2] at hf
      refine lv_iload hx hb dX6_chain_75 (lv_at hl 3 rfl) ?_
      refine lv_aload_n hx hb dX6_chain_77 rfl (lv_at hl 0 rfl) ?_
      refine va_get (D := γ.1) (ci := 6) (v := .ref ((a 1) 0)) (C := RX6) (T := TX6) (N := 12) hx hb hU uin6 hown hK hP 0 rfl rfl 0 (by decide) (hU _ U299) (fun _ h9 => h9) rfl dX6_chain_78 ?_
      refine va_getN (D := γ.1) (ci := 3) (v := .int (r0 0 0)) (C := RX3) (T := TX3) (N := 18) hx hb hU uin3 hown hK hP 4 rfl rfl 0 (by decide) (va_Nw.use rfl (hE.2.2.2.2.2.1 _ NW4)) (fun _ h9 => h9) rfl dX6_chain_81 ?_
      refine lv_icmp_ge (tgt := 116) hx hb dX6_chain_84 (by decide) (fun c_27 => ?_) (fun c_27 => ?_)
      · replace hf := ite_p c_27 hf
        refine lv_iconst (v := -1) hx hb dX6_chain_116 (by decide) ?_
        obtain ⟨rfl, rfl⟩ := rt2 hf
        exact kt_iret C0 hP hS dX6_chain_117
      · replace hf := ite_n c_27 hf
        refine lv_iload_n hx hb dX6_chain_87 rfl (lv_at hl 2 rfl) ?_
        refine lv_aload_n hx hb dX6_chain_88 rfl (lv_at hl 0 rfl) ?_
        refine va_get (D := γ.1) (ci := 6) (v := .ref ((a 1) 0)) (C := RX6) (T := TX6) (N := 12) hx hb hU uin6 hown hK hP 0 rfl rfl 0 (by decide) (hU _ U299) (fun _ h9 => h9) rfl dX6_chain_89 ?_
        refine lv_iload_n hx hb dX6_chain_92 rfl (lv_at hl 2 rfl) ?_
        obtain ⟨r_28, hg_29, hf⟩ := bd_of hf
        refine kt_VF (As := [.int x3_24]) (rest := [.int x3_24]) (st1 := [.int r_28, .int x3_24]) (b := (a 1) 0) (wc' := wC γ a so_26 r0 r1 r2 rw re tn se sv sk sd) C0 (c_X3_watchersOf l γ (a 1) hg_29) (cxV (nA := 1) hts goodU U834 U835 U836 U85 U837 (by decide +kernel) ⟨Nat.le_of_ble_eq_true rfl, Nat.le_of_ble_eq_true rfl⟩) hP (hD _ _ _ _ _ _ _ _ _ _ _) hS hl dX6_chain_93 (foc_ro (foc_r0 γ a _ _ _ _ _ _ _ _ _ _ _ (fun _ _ => 0))) 0 3 rfl rfl rfl rfl (Nat.le_of_ble_eq_true rfl) rfl rfl (fun H locs hP hS => ?_)
        refine lv_ior hx hb dX6_chain_96 ?_
        refine lv_topi (fun u_30 e_u_30 => ?_)
        replace hf := nm_y hf e_u_30
        refine lv_istore_n (lv' := [(3, .int u_30), (0, .ref ((a 0) 0)), (2, .int x2_23), (4, .int x4_25)]) hx hb dX6_chain_97 rfl hl (by decide) rfl (fun ls hl => ?_)
        refine lv_iload_n hx hb dX6_chain_98 rfl (lv_at hl 0 rfl) ?_
        refine lv_iload_n hx hb dX6_chain_99 rfl (lv_at hl 2 rfl) ?_
        obtain ⟨r_31, hg_32, hf⟩ := bd_of hf
        refine kt_SF (As := [.int u_30, .int x2_23]) (rest := []) (st1 := [.int r_31]) (wc' := wC γ a so_26 r0 r1 r2 rw re tn se sv sk sd) C0 (c_X6_bit l γ hg_32) (cxS (nA := 2) hts goodU U448 U441 U84 U442 (by decide +kernel) ⟨Nat.le_of_ble_eq_true rfl, Nat.le_of_ble_eq_true rfl⟩) hP (hD _ _ _ _ _ _ _ _ _ _ _) hS hl dX6_chain_100 foc_nil rfl (Nat.le_of_ble_eq_true rfl) rfl rfl (fun H locs hP hS => ?_)
        refine lv_iconst (v := 1) hx hb dX6_chain_103 (by decide) ?_
        refine lv_icmp_ne (tgt := 110) hx hb dX6_chain_104 (by decide) (fun c_33 => ?_) (fun c_33 => ?_)
        · replace hf := ite_n c_33 hf
          obtain ⟨x4_34, e_x4_34⟩ : ∃ y : Int32, y = x4_25 + (1 : Int32) := ⟨_, rfl⟩
          replace hf := nm_y hf e_x4_34
          refine lv_iinc (v := x4_34) (lv' := [(4, .int x4_34), (3, .int u_30), (0, .ref ((a 0) 0)), (2, .int x2_23)]) hx hb dX6_chain_110 hl (k := 3) rfl (by rw [e_x4_34]; rfl) (by decide) rfl (fun ls hl => ?_)
          refine lv_goto (tgt := 75) hx hb dX6_chain_113 (by decide) ?_
          exact ih u_30 x4_34 _ _ _ hf hP hS (lv_sub hl [2, 3, 1, 0] rfl)
        · replace hf := ite_p c_33 hf
          refine lv_iload hx hb dX6_chain_107 (lv_at hl 3 rfl) ?_
          obtain ⟨rfl, rfl⟩ := rt2 hf
          exact kt_iret C0 hP hS dX6_chain_109
  unfold f_X6_chain at hf
  refine lv_aload_n hx hb dX6_chain_0 rfl (lv_at hl 0 rfl) ?_
  refine va_get (D := γ.1) (ci := 6) (v := .ref ((a 1) 0)) (C := RX6) (T := TX6) (N := 12) hx hb hU uin6 hown hK hP 0 rfl rfl 0 (by decide) (hU _ U299) (fun _ h9 => h9) rfl dX6_chain_1 ?_
  refine lv_iload_n hx hb dX6_chain_4 rfl (lv_at hl 1 rfl) ?_
  obtain ⟨r_1, hg_2, hf⟩ := bd_of hf
  refine kt_VF (As := [.int x1]) (rest := []) (st1 := [.int r_1]) (b := (a 1) 0) (wc' := wC γ a so r0 r1 r2 rw re tn se sv sk sd) C0 (c_X3_isPeak l γ (a 1) hg_2) (cxV (nA := 1) hts goodU U403 U404 U405 U85 U406 (by decide +kernel) ⟨Nat.le_of_ble_eq_true rfl, Nat.le_of_ble_eq_true rfl⟩) hP (hD _ _ _ _ _ _ _ _ _ _ _) hS hl dX6_chain_5 (foc_ro (foc_r0 γ a _ _ _ _ _ _ _ _ _ _ _ (fun _ _ => 0))) 0 3 rfl rfl rfl rfl (Nat.le_of_ble_eq_true rfl) rfl rfl (fun H locs hP hS => ?_)
  refine lv_if_eq (tgt := 22) hx hb dX6_chain_8 (by decide) (fun c_3 => ?_) (fun c_3 => ?_)
  · replace hf := ite_p c_3 hf
    exact J22 so _ _ _ hf hP hS (lv_sub hl [0] rfl)
  · replace hf := ite_n c_3 hf
    refine lv_aload_n hx hb dX6_chain_11 rfl (lv_at hl 0 rfl) ?_
    refine va_get (D := γ.1) (ci := 6) (v := .ref ((a 1) 0)) (C := RX6) (T := TX6) (N := 12) hx hb hU uin6 hown hK hP 0 rfl rfl 0 (by decide) (hU _ U299) (fun _ h9 => h9) rfl dX6_chain_12 ?_
    refine lv_iload_n hx hb dX6_chain_15 rfl (lv_at hl 2 rfl) ?_
    obtain ⟨r_8, hg_9, hf⟩ := bd_of hf
    refine kt_VF (As := [.int x2]) (rest := []) (st1 := [.int r_8]) (b := (a 1) 0) (wc' := wC γ a so r0 r1 r2 rw re tn se sv sk sd) C0 (c_X3_isPeak l γ (a 1) hg_9) (cxV (nA := 1) hts goodU U403 U404 U405 U85 U406 (by decide +kernel) ⟨Nat.le_of_ble_eq_true rfl, Nat.le_of_ble_eq_true rfl⟩) hP (hD _ _ _ _ _ _ _ _ _ _ _) hS hl dX6_chain_16 (foc_ro (foc_r0 γ a _ _ _ _ _ _ _ _ _ _ _ (fun _ _ => 0))) 0 3 rfl rfl rfl rfl (Nat.le_of_ble_eq_true rfl) rfl rfl (fun H locs hP hS => ?_)
    refine lv_if_ne (tgt := 31) hx hb dX6_chain_19 (by decide) (fun c_10 => ?_) (fun c_10 => ?_)
    · replace hf := ite_n c_10 hf
      refine lv_iload_n hx hb dX6_chain_31 rfl (lv_at hl 1 rfl) ?_
      refine lv_iload_n hx hb dX6_chain_32 rfl (lv_at hl 2 rfl) ?_
      refine lv_icmp_eq (tgt := 58) hx hb dX6_chain_33 (by decide) (fun c_11 => ?_) (fun c_11 => ?_)
      · replace hf := ite_p c_11 hf
        exact J58 so _ _ _ hf hP hS (lv_sub hl [0] rfl)
      · replace hf := ite_n c_11 hf
        refine lv_aload_n hx hb dX6_chain_36 rfl (lv_at hl 0 rfl) ?_
        refine va_get (D := γ.1) (ci := 6) (v := .ref ((a 1) 0)) (C := RX6) (T := TX6) (N := 12) hx hb hU uin6 hown hK hP 0 rfl rfl 0 (by decide) (hU _ U299) (fun _ h9 => h9) rfl dX6_chain_37 ?_
        refine lv_iload_n hx hb dX6_chain_40 rfl (lv_at hl 1 rfl) ?_
        obtain ⟨r_16, hg_17, hf⟩ := bd_of hf
        refine kt_VF (As := [.int x1]) (rest := []) (st1 := [.int r_16]) (b := (a 1) 0) (wc' := wC γ a so r0 r1 r2 rw re tn se sv sk sd) C0 (c_X3_isStanding l γ (a 1) hg_17) (cxV (nA := 1) hts goodU U755 U436 U437 U85 U438 (by decide +kernel) ⟨Nat.le_of_ble_eq_true rfl, Nat.le_of_ble_eq_true rfl⟩) hP (hD _ _ _ _ _ _ _ _ _ _ _) hS hl dX6_chain_41 (foc_ro (foc_r0 γ a _ _ _ _ _ _ _ _ _ _ _ (fun _ _ => 0))) 0 3 rfl rfl rfl rfl (Nat.le_of_ble_eq_true rfl) rfl rfl (fun H locs hP hS => ?_)
        refine lv_if_eq (tgt := 58) hx hb dX6_chain_44 (by decide) (fun c_18 => ?_) (fun c_18 => ?_)
        · replace hf := ite_p c_18 hf
          exact J58 so _ _ _ hf hP hS (lv_sub hl [0] rfl)
        · replace hf := ite_n c_18 hf
          refine lv_aload_n hx hb dX6_chain_47 rfl (lv_at hl 0 rfl) ?_
          refine va_get (D := γ.1) (ci := 6) (v := .ref ((a 1) 0)) (C := RX6) (T := TX6) (N := 12) hx hb hU uin6 hown hK hP 0 rfl rfl 0 (by decide) (hU _ U299) (fun _ h9 => h9) rfl dX6_chain_48 ?_
          refine lv_iload_n hx hb dX6_chain_51 rfl (lv_at hl 2 rfl) ?_
          obtain ⟨r_19, hg_20, hf⟩ := bd_of hf
          refine kt_VF (As := [.int x2]) (rest := []) (st1 := [.int r_19]) (b := (a 1) 0) (wc' := wC γ a so r0 r1 r2 rw re tn se sv sk sd) C0 (c_X3_isStanding l γ (a 1) hg_20) (cxV (nA := 1) hts goodU U755 U436 U437 U85 U438 (by decide +kernel) ⟨Nat.le_of_ble_eq_true rfl, Nat.le_of_ble_eq_true rfl⟩) hP (hD _ _ _ _ _ _ _ _ _ _ _) hS hl dX6_chain_52 (foc_ro (foc_r0 γ a _ _ _ _ _ _ _ _ _ _ _ (fun _ _ => 0))) 0 3 rfl rfl rfl rfl (Nat.le_of_ble_eq_true rfl) rfl rfl (fun H locs hP hS => ?_)
          refine lv_if_ne (tgt := 68) hx hb dX6_chain_55 (by decide) (fun c_21 => ?_) (fun c_21 => ?_)
          · replace hf := ite_n c_21 hf
            refine lv_iconst (v := 1) hx hb dX6_chain_68 (by decide) ?_
            refine lv_iload_n hx hb dX6_chain_69 rfl (lv_at hl 1 rfl) ?_
            refine lv_ishl hx hb dX6_chain_70 ?_
            refine lv_topi (fun u_22 e_u_22 => ?_)
            replace hf := nm_y hf e_u_22
            refine lv_istore_n (lv' := [(3, .int u_22), (0, .ref ((a 0) 0)), (1, .int x1), (2, .int x2)]) hx hb dX6_chain_71 rfl hl (by decide) rfl (fun ls hl => ?_)
            refine lv_iconst (v := 0) hx hb dX6_chain_72 (by decide) ?_
            refine lv_istore (lv' := [(4, .int (0 : Int32)), (3, .int u_22), (0, .ref ((a 0) 0)), (1, .int x1), (2, .int x2)]) hx hb dX6_chain_73 hl (by decide) rfl (fun ls hl => ?_)
            exact L75 x2 so FU u_22 (0 : Int32) _ _ _ hf hP hS (lv_sub hl [2, 4, 1, 0] rfl)
          · replace hf := ite_p c_21 hf
            exact J58 so _ _ _ hf hP hS (lv_sub hl [0] rfl)
    · replace hf := ite_p c_10 hf
      exact J22 so _ _ _ hf hP hS (lv_sub hl [0] rfl)
set_option maxHeartbeats 4000000 in
set_option maxRecDepth 100000 in
theorem c_X6_lacks (l : Launch) (γ : Gm) (a : Nat → Nat → Nat) {so : GS} {r0 : GS} {r1 : GS} {r2 : GS} {rw : Nat → GS} {re : Nat → Nat → Int64} {tn : Option Nat} {se : GS} {sv : GS} {sk : GS} {sd : GS} {x1 : Int32} {rv : Int32} {so_z : GS} {sk_z : GS} (hf : f_X6_lacks so r0 sk x1 = some (rv, so_z, sk_z)) : Kt l γ yX6_lacks (Cond.code yX6_lacks cX6_lacks 2 (some .int) :: U) 5 113 [.ref ((a 0) 0), .int x1] (wC γ a so r0 r1 r2 rw re tn se sv sk sd) (some (.int rv)) (wC γ a so_z r0 r1 r2 rw re tn se sv sk_z sd) := by
  refine Kt.of (by decide) rfl (Nat.le_of_ble_eq_true rfl) rfl ?_
  intro p e s m below meth c A ls C0 hP hD0 hS hl
  obtain ⟨hx, hb, hml, hown, hts, hr, hlocks, hK, hE, hA⟩ := id C0
  have hU : ∀ w ∈ U, w.before _ s = true := fun w h => hts w (List.mem_cons_of_mem _ h)
  have hD : ∀ (so : GS) (r0 : GS) (r1 : GS) (r2 : GS) (rw : Nat → GS) (re : Nat → Nat → Int64) (tn : Option Nat) (se : GS) (sv : GS) (sk : GS) (sd : GS), va_D A (wC γ a so r0 r1 r2 rw re tn se sv sk sd) := fun _ _ _ _ _ _ _ _ _ _ _ => hD0.fst rfl
  have hl : lv_has ls 2 [(0, .ref ((a 0) 0)), (1, .int x1)] := hl
  have J83 : ∀ (so_6 : GS) (sk_7 : GS) (H : Heap) (locs : List Loc) (ls : Array Slot), f_X6_lacks_J83 so_6 sk_7 = some (rv, so_z, sk_z) → va_P γ.1 vwCl (wC γ a so_6 r0 r1 r2 rw re tn se sv sk_7 sd) H → va_S A s.heap H locs → lv_has ls 2 [(0, .ref ((a 0) 0))] → W p l e (rmK 5 113) s m ([.ref ((a 0) 0), .int x1] : List Value).toArray below meth c H locs 0 0 (MQ below (KQ γ A (some (.int rv)) (wC γ a so_z r0 r1 r2 rw re tn se sv sk_z sd)) ([.ref ((a 0) 0), .int x1] : List Value).toArray s 0 0 A) (F0 m 83 ls []) := by
    intro so_6 sk_7 H locs ls hf hP hS hl
    unfold f_X6_lacks_J83 at hf
    refine lv_aload_n hx hb dX6_lacks_83 rfl (lv_at hl 0 rfl) ?_
    refine lv_iconst (v := 5) hx hb dX6_lacks_84 (by decide) ?_
    obtain ⟨r_8, so_9, hg_10, hf⟩ := bd2_of hf
    refine kt_V0 (As := [.int (5 : Int32)]) (rest := []) (st1 := [.int r_8]) (b := (a 0) 0) C0 (c_X6_refused l γ a hg_10) (cxV (nA := 1) hts goodU U343 U345 U0 U84 U346 (by decide +kernel) ⟨Nat.le_of_ble_eq_true rfl, Nat.le_of_ble_eq_true rfl⟩) hP (hD _ _ _ _ _ _ _ _ _ _ _) hS hl dX6_lacks_85 0 6 rfl rfl rfl rfl (Nat.le_of_ble_eq_true rfl) rfl rfl (fun H locs hP hS => ?_)
    obtain ⟨rfl, rfl, rfl⟩ := rt3 hf
    exact kt_iret C0 hP hS dX6_lacks_88
  have J41 : ∀ (x1_2 : Int32) (so_3 : GS) (sk_4 : GS) (H : Heap) (locs : List Loc) (ls : Array Slot), f_X6_lacks_J41 r0 x1_2 so_3 sk_4 = some (rv, so_z, sk_z) → va_P γ.1 vwCl (wC γ a so_3 r0 r1 r2 rw re tn se sv sk_4 sd) H → va_S A s.heap H locs → lv_has ls 2 [(0, .ref ((a 0) 0)), (1, .int x1_2)] → W p l e (rmK 5 113) s m ([.ref ((a 0) 0), .int x1] : List Value).toArray below meth c H locs 0 0 (MQ below (KQ γ A (some (.int rv)) (wC γ a so_z r0 r1 r2 rw re tn se sv sk_z sd)) ([.ref ((a 0) 0), .int x1] : List Value).toArray s 0 0 A) (F0 m 41 ls []) := by
    intro x1_2 so_3 sk_4 H locs ls hf hP hS hl
    unfold f_X6_lacks_J41 at hf
    refine lv_iload_n hx hb dX6_lacks_41 rfl (lv_at hl 1 rfl) ?_
    refine lv_iconst (v := 1) hx hb dX6_lacks_42 (by decide) ?_
    refine lv_icmp_ne (tgt := 83) hx hb dX6_lacks_43 (by decide) (fun c_5 => ?_) (fun c_5 => ?_)
    · replace hf := ite_n c_5 hf
      exact J83 so_3 sk_4 _ _ _ hf hP hS (lv_sub hl [0] rfl)
    · replace hf := ite_p c_5 hf
      refine lv_aload_n hx hb dX6_lacks_46 rfl (lv_at hl 0 rfl) ?_
      refine va_get (D := γ.1) (ci := 6) (v := .ref ((a 1) 0)) (C := RX6) (T := TX6) (N := 12) hx hb hU uin6 hown hK hP 0 rfl rfl 0 (by decide) (hU _ U299) (fun _ h9 => h9) rfl dX6_lacks_47 ?_
      refine va_getN (D := γ.1) (ci := 3) (v := .int (r0 0 0)) (C := RX3) (T := TX3) (N := 18) hx hb hU uin3 hown hK hP 4 rfl rfl 0 (by decide) (va_Nw.use rfl (hE.2.2.2.2.2.1 _ NW4)) (fun _ h9 => h9) rfl dX6_lacks_50 ?_
      refine lv_if_le (tgt := 83) hx hb dX6_lacks_53 (by decide) (fun c_11 => ?_) (fun c_11 => ?_)
      · replace hf := ite_p c_11 hf
        exact J83 so_3 sk_4 _ _ _ hf hP hS (lv_sub hl [0] rfl)
      · replace hf := ite_n c_11 hf
        refine lv_aload_n hx hb dX6_lacks_56 rfl (lv_at hl 0 rfl) ?_
        refine va_get (D := γ.1) (ci := 6) (v := .ref ((a 6) 0)) (C := RX6) (T := TX6) (N := 12) hx hb hU uin6 hown hK hP 0 rfl rfl 10 (by decide) (hU _ U309) (fun _ h9 => h9) rfl dX6_lacks_57 ?_
        refine lv_aload_n hx hb dX6_lacks_60 rfl (lv_at hl 0 rfl) ?_
        refine va_get (D := γ.1) (ci := 6) (v := .ref ((a 1) 0)) (C := RX6) (T := TX6) (N := 12) hx hb hU uin6 hown hK hP 0 rfl rfl 0 (by decide) (hU _ U299) (fun _ h9 => h9) rfl dX6_lacks_61 ?_
        refine lv_bipush (v := 100) hx hb dX6_lacks_64 (by decide) ?_
        obtain ⟨sk_12, hg_13, hf⟩ := bd_of hf
        refine kt_VF (As := [.ref ((a 1) 0), .int (100 : Int32)]) (rest := []) (st1 := []) (b := (a 6) 0) (wc' := wC γ a so_3 r0 r1 r2 rw re tn se sv sk_12 sd) C0 (c_X0_look l γ (a 6) (a 1) hg_13) (cxV (nA := 2) hts goodU U741 U742 U743 U88 U744 (by decide +kernel) ⟨Nat.le_of_ble_eq_true rfl, Nat.le_of_ble_eq_true rfl⟩) hP (hD _ _ _ _ _ _ _ _ _ _ _) hS hl dX6_lacks_66 (foc_sk_r0 γ a _ _ _ _ _ _ _ _ _ _ _ _ _) 0 0 rfl rfl rfl rfl (Nat.le_of_ble_eq_true rfl) rfl rfl (fun H locs hP hS => ?_)
        refine lv_aload_n hx hb dX6_lacks_69 rfl (lv_at hl 0 rfl) ?_
        refine va_get (D := γ.1) (ci := 6) (v := .ref ((a 6) 0)) (C := RX6) (T := TX6) (N := 12) hx hb hU uin6 hown hK hP 0 rfl rfl 10 (by decide) (hU _ U309) (fun _ h9 => h9) rfl dX6_lacks_70 ?_
        refine lv_aload_n hx hb dX6_lacks_73 rfl (lv_at hl 0 rfl) ?_
        refine va_get (D := γ.1) (ci := 6) (v := .ref ((a 1) 0)) (C := RX6) (T := TX6) (N := 12) hx hb hU uin6 hown hK hP 0 rfl rfl 0 (by decide) (hU _ U299) (fun _ h9 => h9) rfl dX6_lacks_74 ?_
        refine lv_bipush (v := 100) hx hb dX6_lacks_77 (by decide) ?_
        obtain ⟨r_14, hg_15, hf⟩ := bd_of hf
        refine kt_VF (As := [.ref ((a 1) 0), .int (100 : Int32)]) (rest := []) (st1 := [.int r_14]) (b := (a 6) 0) (wc' := wC γ a so_3 r0 r1 r2 rw re tn se sv sk_12 sd) C0 (c_X0_savingPeak l γ (a 6) (a 1) hg_15) (cxV (nA := 2) hts goodU U855 U856 U857 U88 U858 (by decide +kernel) ⟨Nat.le_of_ble_eq_true rfl, Nat.le_of_ble_eq_true rfl⟩) hP (hD _ _ _ _ _ _ _ _ _ _ _) hS hl dX6_lacks_79 (foc_ro (foc_sk_r0 γ a _ _ _ _ _ _ _ _ _ _ _ (fun _ _ => 0) (fun _ _ => 0))) 0 0 rfl rfl rfl rfl (Nat.le_of_ble_eq_true rfl) rfl rfl (fun H locs hP hS => ?_)
        obtain ⟨rfl, rfl, rfl⟩ := rt3 hf
        exact kt_iret C0 hP hS dX6_lacks_82
  unfold f_X6_lacks at hf
  refine lv_iload_n hx hb dX6_lacks_0 rfl (lv_at hl 1 rfl) ?_
  refine lv_if_ne (tgt := 41) hx hb dX6_lacks_1 (by decide) (fun c_1 => ?_) (fun c_1 => ?_)
  · replace hf := ite_n c_1 hf
    exact J41 x1 so sk _ _ _ hf hP hS (lv_sub hl [0, 1] rfl)
  · replace hf := ite_p c_1 hf
    refine lv_aload_n hx hb dX6_lacks_4 rfl (lv_at hl 0 rfl) ?_
    refine va_get (D := γ.1) (ci := 6) (v := .ref ((a 1) 0)) (C := RX6) (T := TX6) (N := 12) hx hb hU uin6 hown hK hP 0 rfl rfl 0 (by decide) (hU _ U299) (fun _ h9 => h9) rfl dX6_lacks_5 ?_
    refine va_getN (D := γ.1) (ci := 3) (v := .int (r0 0 13)) (C := RX3) (T := TX3) (N := 18) hx hb hU uin3 hown hK hP 4 rfl rfl 13 (by decide) (va_Nw.use rfl (hE.2.2.2.2.2.1 _ NW20)) (fun _ h9 => h9) rfl dX6_lacks_8 ?_
    refine lv_if_le (tgt := 41) hx hb dX6_lacks_11 (by decide) (fun c_16 => ?_) (fun c_16 => ?_)
    · replace hf := ite_p c_16 hf
      exact J41 x1 so sk _ _ _ hf hP hS (lv_sub hl [0, 1] rfl)
    · replace hf := ite_n c_16 hf
      refine lv_aload_n hx hb dX6_lacks_14 rfl (lv_at hl 0 rfl) ?_
      refine va_get (D := γ.1) (ci := 6) (v := .ref ((a 6) 0)) (C := RX6) (T := TX6) (N := 12) hx hb hU uin6 hown hK hP 0 rfl rfl 10 (by decide) (hU _ U309) (fun _ h9 => h9) rfl dX6_lacks_15 ?_
      refine lv_aload_n hx hb dX6_lacks_18 rfl (lv_at hl 0 rfl) ?_
      refine va_get (D := γ.1) (ci := 6) (v := .ref ((a 1) 0)) (C := RX6) (T := TX6) (N := 12) hx hb hU uin6 hown hK hP 0 rfl rfl 0 (by decide) (hU _ U299) (fun _ h9 => h9) rfl dX6_lacks_19 ?_
      refine lv_bipush (v := 100) hx hb dX6_lacks_22 (by decide) ?_
      obtain ⟨sk_17, hg_18, hf⟩ := bd_of hf
      refine kt_VF (As := [.ref ((a 1) 0), .int (100 : Int32)]) (rest := []) (st1 := []) (b := (a 6) 0) (wc' := wC γ a so r0 r1 r2 rw re tn se sv sk_17 sd) C0 (c_X0_look l γ (a 6) (a 1) hg_18) (cxV (nA := 2) hts goodU U741 U742 U743 U88 U744 (by decide +kernel) ⟨Nat.le_of_ble_eq_true rfl, Nat.le_of_ble_eq_true rfl⟩) hP (hD _ _ _ _ _ _ _ _ _ _ _) hS hl dX6_lacks_24 (foc_sk_r0 γ a _ _ _ _ _ _ _ _ _ _ _ _ _) 0 0 rfl rfl rfl rfl (Nat.le_of_ble_eq_true rfl) rfl rfl (fun H locs hP hS => ?_)
      refine lv_aload_n hx hb dX6_lacks_27 rfl (lv_at hl 0 rfl) ?_
      refine va_get (D := γ.1) (ci := 6) (v := .ref ((a 6) 0)) (C := RX6) (T := TX6) (N := 12) hx hb hU uin6 hown hK hP 0 rfl rfl 10 (by decide) (hU _ U309) (fun _ h9 => h9) rfl dX6_lacks_28 ?_
      refine lv_aload_n hx hb dX6_lacks_31 rfl (lv_at hl 0 rfl) ?_
      refine va_get (D := γ.1) (ci := 6) (v := .ref ((a 1) 0)) (C := RX6) (T := TX6) (N := 12) hx hb hU uin6 hown hK hP 0 rfl rfl 0 (by decide) (hU _ U299) (fun _ h9 => h9) rfl dX6_lacks_32 ?_
      refine lv_bipush (v := 100) hx hb dX6_lacks_35 (by decide) ?_
      obtain ⟨r_19, hg_20, hf⟩ := bd_of hf
      refine kt_VF (As := [.ref ((a 1) 0), .int (100 : Int32)]) (rest := []) (st1 := [.int r_19]) (b := (a 6) 0) (wc' := wC γ a so r0 r1 r2 rw re tn se sv sk_17 sd) C0 (c_X0_poorestValley l γ (a 6) (a 1) hg_20) (cxV (nA := 2) hts goodU U846 U847 U848 U88 U849 (by decide +kernel) ⟨Nat.le_of_ble_eq_true rfl, Nat.le_of_ble_eq_true rfl⟩) hP (hD _ _ _ _ _ _ _ _ _ _ _) hS hl dX6_lacks_37 (foc_ro (foc_sk_r0 γ a _ _ _ _ _ _ _ _ _ _ _ (fun _ _ => 0) (fun _ _ => 0))) 0 0 rfl rfl rfl rfl (Nat.le_of_ble_eq_true rfl) rfl rfl (fun H locs hP hS => ?_)
      obtain ⟨rfl, rfl, rfl⟩ := rt3 hf
      exact kt_iret C0 hP hS dX6_lacks_40
set_option maxHeartbeats 4000000 in
set_option maxRecDepth 100000 in
theorem c_X6_spared (l : Launch) (γ : Gm) (a : Nat → Nat → Nat) {so : GS} {r0 : GS} {r1 : GS} {r2 : GS} {rw : Nat → GS} {re : Nat → Nat → Int64} {tn : Option Nat} {se : GS} {sv : GS} {sk : GS} {sd : GS} {x1 : Int32} {x2 : Int32} {rv : Int32} {so_z : GS} (hf : f_X6_spared so r0 x1 x2 = some (rv, so_z)) : Kt l γ yX6_spared (Cond.code yX6_spared cX6_spared 4 (some .int) :: U) 4 91 [.ref ((a 0) 0), .int x1, .int x2] (wC γ a so r0 r1 r2 rw re tn se sv sk sd) (some (.int rv)) (wC γ a so_z r0 r1 r2 rw re tn se sv sk sd) := by
  refine Kt.of (by decide) rfl (Nat.le_of_ble_eq_true rfl) rfl ?_
  intro p e s m below meth c A ls C0 hP hD0 hS hl
  obtain ⟨hx, hb, hml, hown, hts, hr, hlocks, hK, hE, hA⟩ := id C0
  have hU : ∀ w ∈ U, w.before _ s = true := fun w h => hts w (List.mem_cons_of_mem _ h)
  have hD : ∀ (so : GS) (r0 : GS) (r1 : GS) (r2 : GS) (rw : Nat → GS) (re : Nat → Nat → Int64) (tn : Option Nat) (se : GS) (sv : GS) (sk : GS) (sd : GS), va_D A (wC γ a so r0 r1 r2 rw re tn se sv sk sd) := fun _ _ _ _ _ _ _ _ _ _ _ => hD0.fst rfl
  have hl : lv_has ls 4 [(0, .ref ((a 0) 0)), (1, .int x1), (2, .int x2)] := hl
  have J35 : ∀ (so_5 : GS) (H : Heap) (locs : List Loc) (ls : Array Slot), f_X6_spared_J35 so_5 = some (rv, so_z) → va_P γ.1 vwCl (wC γ a so_5 r0 r1 r2 rw re tn se sv sk sd) H → va_S A s.heap H locs → lv_has ls 4 [(0, .ref ((a 0) 0))] → W p l e (rmK 4 91) s m ([.ref ((a 0) 0), .int x1, .int x2] : List Value).toArray below meth c H locs 0 0 (MQ below (KQ γ A (some (.int rv)) (wC γ a so_z r0 r1 r2 rw re tn se sv sk sd)) ([.ref ((a 0) 0), .int x1, .int x2] : List Value).toArray s 0 0 A) (F0 m 35 ls []) := by
    intro so_5 H locs ls hf hP hS hl
    unfold f_X6_spared_J35 at hf
    refine lv_aload_n hx hb dX6_spared_35 rfl (lv_at hl 0 rfl) ?_
    refine lv_bipush (v := 6) hx hb dX6_spared_36 (by decide) ?_
    obtain ⟨r_6, so_7, hg_8, hf⟩ := bd2_of hf
    refine kt_V0 (As := [.int (6 : Int32)]) (rest := []) (st1 := [.int r_6]) (b := (a 0) 0) C0 (c_X6_refused l γ a hg_8) (cxV (nA := 1) hts goodU U343 U345 U0 U84 U346 (by decide +kernel) ⟨Nat.le_of_ble_eq_true rfl, Nat.le_of_ble_eq_true rfl⟩) hP (hD _ _ _ _ _ _ _ _ _ _ _) hS hl dX6_spared_38 0 6 rfl rfl rfl rfl (Nat.le_of_ble_eq_true rfl) rfl rfl (fun H locs hP hS => ?_)
    refine lv_bipush (v := 10) hx hb dX6_spared_41 (by decide) ?_
    refine lv_isub hx hb dX6_spared_43 ?_
    obtain ⟨rfl, rfl⟩ := rt2 hf
    exact kt_iret C0 hP hS dX6_spared_44
  have L47 : ∀ (x1_12 : Int32) (x2_13 : Int32) (so_15 : GS) (n : Nat) (x3_14 : Int32) (H : Heap) (locs : List Loc) (ls : Array Slot), f_X6_spared_L47 r0 x1_12 x2_13 so_15 n x3_14 = some (rv, so_z) → va_P γ.1 vwCl (wC γ a so_15 r0 r1 r2 rw re tn se sv sk sd) H → va_S A s.heap H locs → lv_has ls 4 [(0, .ref ((a 0) 0)), (1, .int x1_12), (2, .int x2_13), (3, .int x3_14)] → W p l e (rmK 4 91) s m ([.ref ((a 0) 0), .int x1, .int x2] : List Value).toArray below meth c H locs 0 0 (MQ below (KQ γ A (some (.int rv)) (wC γ a so_z r0 r1 r2 rw re tn se sv sk sd)) ([.ref ((a 0) 0), .int x1, .int x2] : List Value).toArray s 0 0 A) (F0 m 47 ls []) := by
    intro x1_12 x2_13 so_15
    intro n
    induction n with
    | zero =>
      intro x3_14 H locs ls hf
      have hf : none = some _ := hf
      cases hf
    | succ n ih =>
      intro x3_14 H locs ls hf hP hS hl
      rw [f_X6_spared_L47.eq_2] at hf
      refine lv_iload_n hx hb dX6_spared_47 rfl (lv_at hl 3 rfl) ?_
      refine lv_bipush (v := 100) hx hb dX6_spared_48 (by decide) ?_
      refine lv_icmp_ge (tgt := 82) hx hb dX6_spared_50 (by decide) (fun c_16 => ?_) (fun c_16 => ?_)
      · replace hf := ite_p c_16 hf
        refine lv_iconst (v := -1) hx hb dX6_spared_82 (by decide) ?_
        obtain ⟨rfl, rfl⟩ := rt2 hf
        exact kt_iret C0 hP hS dX6_spared_83
      · replace hf := ite_n c_16 hf
        refine lv_aload_n hx hb dX6_spared_53 rfl (lv_at hl 0 rfl) ?_
        refine va_get (D := γ.1) (ci := 6) (v := .ref ((a 1) 0)) (C := RX6) (T := TX6) (N := 12) hx hb hU uin6 hown hK hP 0 rfl rfl 0 (by decide) (hU _ U299) (fun _ h9 => h9) rfl dX6_spared_54 ?_
        refine lv_iload_n hx hb dX6_spared_57 rfl (lv_at hl 1 rfl) ?_
        refine lv_aload_n hx hb dX6_spared_58 rfl (lv_at hl 0 rfl) ?_
        refine va_get (D := γ.1) (ci := 6) (v := .ref ((a 1) 0)) (C := RX6) (T := TX6) (N := 12) hx hb hU uin6 hown hK hP 0 rfl rfl 0 (by decide) (hU _ U299) (fun _ h9 => h9) rfl dX6_spared_59 ?_
        refine va_getN (D := γ.1) (ci := 3) (v := .int (r0 0 16)) (C := RX3) (T := TX3) (N := 18) hx hb hU uin3 hown hK hP 4 rfl rfl 16 (by decide) (va_Nw.use rfl (hE.2.2.2.2.2.1 _ NW25)) (fun _ h9 => h9) rfl dX6_spared_62 ?_
        refine lv_iload_n hx hb dX6_spared_65 rfl (lv_at hl 3 rfl) ?_
        refine lv_iadd hx hb dX6_spared_66 ?_
        obtain ⟨r_17, hg_18, hf⟩ := bd_of hf
        refine kt_VF (As := [.int x1_12, .int ((r0 0 16) + x3_14)]) (rest := []) (st1 := [.int r_17]) (b := (a 1) 0) (wc' := wC γ a so_15 r0 r1 r2 rw re tn se sv sk sd) C0 (c_X3_griefOf l γ (a 1) hg_18) (cxV (nA := 2) hts goodU U756 U681 U682 U85 U683 (by decide +kernel) ⟨Nat.le_of_ble_eq_true rfl, Nat.le_of_ble_eq_true rfl⟩) hP (hD _ _ _ _ _ _ _ _ _ _ _) hS hl dX6_spared_67 (foc_ro (foc_r0 γ a _ _ _ _ _ _ _ _ _ _ _ (fun _ _ => 0))) 0 3 rfl rfl rfl rfl (Nat.le_of_ble_eq_true rfl) rfl rfl (fun H locs hP hS => ?_)
        refine lv_iload_n hx hb dX6_spared_70 rfl (lv_at hl 2 rfl) ?_
        refine lv_icmp_gt (tgt := 76) hx hb dX6_spared_71 (by decide) (fun c_19 => ?_) (fun c_19 => ?_)
        · replace hf := ite_p c_19 hf
          obtain ⟨x3_20, e_x3_20⟩ : ∃ y : Int32, y = x3_14 + (1 : Int32) := ⟨_, rfl⟩
          replace hf := nm_y hf e_x3_20
          refine lv_iinc (v := x3_20) (lv' := [(3, .int x3_20), (0, .ref ((a 0) 0)), (1, .int x1_12), (2, .int x2_13)]) hx hb dX6_spared_76 hl (k := 3) rfl (by rw [e_x3_20]; rfl) (by decide) rfl (fun ls hl => ?_)
          refine lv_goto (tgt := 47) hx hb dX6_spared_79 (by decide) ?_
          exact ih x3_20 _ _ _ hf hP hS (lv_sub hl [1, 2, 3, 0] rfl)
        · replace hf := ite_n c_19 hf
          refine lv_iload_n hx hb dX6_spared_74 rfl (lv_at hl 3 rfl) ?_
          obtain ⟨rfl, rfl⟩ := rt2 hf
          exact kt_iret C0 hP hS dX6_spared_75
  unfold f_X6_spared at hf
  refine lv_aload_n hx hb dX6_spared_0 rfl (lv_at hl 0 rfl) ?_
  refine va_get (D := γ.1) (ci := 6) (v := .ref ((a 1) 0)) (C := RX6) (T := TX6) (N := 12) hx hb hU uin6 hown hK hP 0 rfl rfl 0 (by decide) (hU _ U299) (fun _ h9 => h9) rfl dX6_spared_1 ?_
  refine lv_iload_n hx hb dX6_spared_4 rfl (lv_at hl 1 rfl) ?_
  obtain ⟨r_1, hg_2, hf⟩ := bd_of hf
  refine kt_VF (As := [.int x1]) (rest := []) (st1 := [.int r_1]) (b := (a 1) 0) (wc' := wC γ a so r0 r1 r2 rw re tn se sv sk sd) C0 (c_X3_isPeak l γ (a 1) hg_2) (cxV (nA := 1) hts goodU U403 U404 U405 U85 U406 (by decide +kernel) ⟨Nat.le_of_ble_eq_true rfl, Nat.le_of_ble_eq_true rfl⟩) hP (hD _ _ _ _ _ _ _ _ _ _ _) hS hl dX6_spared_5 (foc_ro (foc_r0 γ a _ _ _ _ _ _ _ _ _ _ _ (fun _ _ => 0))) 0 3 rfl rfl rfl rfl (Nat.le_of_ble_eq_true rfl) rfl rfl (fun H locs hP hS => ?_)
  refine lv_if_ne (tgt := 20) hx hb dX6_spared_8 (by decide) (fun c_3 => ?_) (fun c_3 => ?_)
  · replace hf := ite_n c_3 hf
    refine lv_iload_n hx hb dX6_spared_20 rfl (lv_at hl 2 rfl) ?_
    refine lv_if_lt (tgt := 35) hx hb dX6_spared_21 (by decide) (fun c_4 => ?_) (fun c_4 => ?_)
    · replace hf := ite_p c_4 hf
      exact J35 so _ _ _ hf hP hS (lv_sub hl [0] rfl)
    · replace hf := ite_n c_4 hf
      refine lv_aload_n hx hb dX6_spared_24 rfl (lv_at hl 0 rfl) ?_
      refine va_get (D := γ.1) (ci := 6) (v := .ref ((a 1) 0)) (C := RX6) (T := TX6) (N := 12) hx hb hU uin6 hown hK hP 0 rfl rfl 0 (by decide) (hU _ U299) (fun _ h9 => h9) rfl dX6_spared_25 ?_
      refine lv_iload_n hx hb dX6_spared_28 rfl (lv_at hl 1 rfl) ?_
      obtain ⟨r_9, hg_10, hf⟩ := bd_of hf
      refine kt_VF (As := [.int x1]) (rest := []) (st1 := [.int r_9]) (b := (a 1) 0) (wc' := wC γ a so r0 r1 r2 rw re tn se sv sk sd) C0 (c_X3_isStanding l γ (a 1) hg_10) (cxV (nA := 1) hts goodU U755 U436 U437 U85 U438 (by decide +kernel) ⟨Nat.le_of_ble_eq_true rfl, Nat.le_of_ble_eq_true rfl⟩) hP (hD _ _ _ _ _ _ _ _ _ _ _) hS hl dX6_spared_29 (foc_ro (foc_r0 γ a _ _ _ _ _ _ _ _ _ _ _ (fun _ _ => 0))) 0 3 rfl rfl rfl rfl (Nat.le_of_ble_eq_true rfl) rfl rfl (fun H locs hP hS => ?_)
      refine lv_if_ne (tgt := 45) hx hb dX6_spared_32 (by decide) (fun c_11 => ?_) (fun c_11 => ?_)
      · replace hf := ite_n c_11 hf
        refine lv_iconst (v := 0) hx hb dX6_spared_45 (by decide) ?_
        refine lv_istore_n (lv' := [(3, .int (0 : Int32)), (0, .ref ((a 0) 0)), (1, .int x1), (2, .int x2)]) hx hb dX6_spared_46 rfl hl (by decide) rfl (fun ls hl => ?_)
        exact L47 x1 x2 so FU (0 : Int32) _ _ _ hf hP hS (lv_sub hl [1, 2, 3, 0] rfl)
      · replace hf := ite_p c_11 hf
        exact J35 so _ _ _ hf hP hS (lv_sub hl [0] rfl)
  · replace hf := ite_p c_3 hf
    refine lv_aload_n hx hb dX6_spared_11 rfl (lv_at hl 0 rfl) ?_
    refine lv_iconst (v := 1) hx hb dX6_spared_12 (by decide) ?_
    obtain ⟨r_21, so_22, hg_23, hf⟩ := bd2_of hf
    refine kt_V0 (As := [.int (1 : Int32)]) (rest := []) (st1 := [.int r_21]) (b := (a 0) 0) C0 (c_X6_refused l γ a hg_23) (cxV (nA := 1) hts goodU U343 U345 U0 U84 U346 (by decide +kernel) ⟨Nat.le_of_ble_eq_true rfl, Nat.le_of_ble_eq_true rfl⟩) hP (hD _ _ _ _ _ _ _ _ _ _ _) hS hl dX6_spared_13 0 6 rfl rfl rfl rfl (Nat.le_of_ble_eq_true rfl) rfl rfl (fun H locs hP hS => ?_)
    refine lv_bipush (v := 10) hx hb dX6_spared_16 (by decide) ?_
    refine lv_isub hx hb dX6_spared_18 ?_
    obtain ⟨rfl, rfl⟩ := rt2 hf
    exact kt_iret C0 hP hS dX6_spared_19
set_option maxHeartbeats 4000000 in
set_option maxRecDepth 100000 in
theorem c_X6_takingsRefusal (l : Launch) (γ : Gm) (a : Nat → Nat → Nat) {so : GS} {r0 : GS} {r1 : GS} {r2 : GS} {rw : Nat → GS} {re : Nat → Nat → Int64} {tn : Option Nat} {se : GS} {sv : GS} {sk : GS} {sd : GS} {x1 : Int32} {x2 : Int32} {x3 : Int32} {rv : Int32} (hf : f_X6_takingsRefusal so rw x1 x2 x3 = some rv) : Kt l γ yX6_takingsRefusal (Cond.code yX6_takingsRefusal cX6_takingsRefusal 5 (some .int) :: U) 2 41 [.ref ((a 0) 0), .int x1, .int x2, .int x3] (wC γ a so r0 r1 r2 rw re tn se sv sk sd) (some (.int rv)) (wC γ a so r0 r1 r2 rw re tn se sv sk sd) := by
  refine Kt.of (by decide) rfl (Nat.le_of_ble_eq_true rfl) rfl ?_
  intro p e s m below meth c A ls C0 hP hD0 hS hl
  obtain ⟨hx, hb, hml, hown, hts, hr, hlocks, hK, hE, hA⟩ := id C0
  have hU : ∀ w ∈ U, w.before _ s = true := fun w h => hts w (List.mem_cons_of_mem _ h)
  have hD : ∀ (so : GS) (r0 : GS) (r1 : GS) (r2 : GS) (rw : Nat → GS) (re : Nat → Nat → Int64) (tn : Option Nat) (se : GS) (sv : GS) (sk : GS) (sd : GS), va_D A (wC γ a so r0 r1 r2 rw re tn se sv sk sd) := fun _ _ _ _ _ _ _ _ _ _ _ => hD0.fst rfl
  have hl : lv_has ls 5 [(0, .ref ((a 0) 0)), (1, .int x1), (2, .int x2), (3, .int x3)] := hl
  unfold f_X6_takingsRefusal at hf
  refine lv_aload_n hx hb dX6_takingsRefusal_0 rfl (lv_at hl 0 rfl) ?_
  refine lv_iload_n hx hb dX6_takingsRefusal_1 rfl (lv_at hl 1 rfl) ?_
  obtain ⟨r_1, hg_2, hf⟩ := bd_of hf
  refine kt_V0 (As := [.int x1]) (rest := []) (st1 := [.int r_1]) (b := (a 0) 0) C0 (c_X6_rowRefusal l γ a hg_2) (cxV (nA := 1) hts goodU U355 U357 U1 U84 U358 (by decide +kernel) ⟨Nat.le_of_ble_eq_true rfl, Nat.le_of_ble_eq_true rfl⟩) hP (hD _ _ _ _ _ _ _ _ _ _ _) hS hl dX6_takingsRefusal_2 0 6 rfl rfl rfl rfl (Nat.le_of_ble_eq_true rfl) rfl rfl (fun H locs hP hS => ?_)
  refine lv_istore (lv' := [(4, .int r_1), (0, .ref ((a 0) 0)), (1, .int x1), (2, .int x2), (3, .int x3)]) hx hb dX6_takingsRefusal_5 hl (by decide) rfl (fun ls hl => ?_)
  refine lv_iload hx hb dX6_takingsRefusal_7 (lv_at hl 0 rfl) ?_
  refine lv_if_eq (tgt := 15) hx hb dX6_takingsRefusal_9 (by decide) (fun c_3 => ?_) (fun c_3 => ?_)
  · replace hf := ite_p c_3 hf
    refine lv_iload_n hx hb dX6_takingsRefusal_15 rfl (lv_at hl 3 rfl) ?_
    refine lv_if_ge (tgt := 21) hx hb dX6_takingsRefusal_16 (by decide) (fun c_4 => ?_) (fun c_4 => ?_)
    · replace hf := ite_p c_4 hf
      refine lv_iload_n hx hb dX6_takingsRefusal_21 rfl (lv_at hl 3 rfl) ?_
      refine lv_aload_n hx hb dX6_takingsRefusal_22 rfl (lv_at hl 1 rfl) ?_
      refine va_get (D := γ.1) (ci := 6) (v := .ref (a 0 5)) (C := RX6) (T := TX6) (N := 12) hx hb hU uin6 hown hK hP 0 rfl rfl 4 (by decide) (hU _ U303) (fun _ h9 => h9) rfl dX6_takingsRefusal_23 ?_
      refine lv_iload_n hx hb dX6_takingsRefusal_26 rfl (lv_at hl 2 rfl) ?_
      obtain ⟨g_5, hf⟩ := gd_of hf
      refine va_aldq (C := RX5) hx hb hK hP 1 2 rfl rfl (inB_vp g_5) dX6_takingsRefusal_27 ?_
      rw [rowF_at a (inB_lt g_5)]
      refine va_getN (D := γ.1) (ci := 5) (v := .int ((rw x1.toNatClampNeg) 0 2)) (C := RX5) (T := TX5) (N := 3) hx hb hU uin5 hown hK hP (57 + 2 * x1.toNatClampNeg) (row_at γ a _ _ _ _ _ _ _ _ _ _ _ (inB_lt g_5)) rfl 2 (by decide) (va_Nw.use rfl (hE.2.2.2.2.2.1 _ NW39)) (fun _ h9 => h9) rfl dX6_takingsRefusal_28 ?_
      refine lv_icmp_gt (tgt := 38) hx hb dX6_takingsRefusal_31 (by decide) (fun c_6 => ?_) (fun c_6 => ?_)
      · replace hf := ite_p c_6 hf
        refine lv_iconst (v := 5) hx hb dX6_takingsRefusal_38 (by decide) ?_
        obtain rfl := Option.some.inj hf
        exact kt_iret C0 hP hS dX6_takingsRefusal_39
      · replace hf := ite_n c_6 hf
        refine lv_iload_n hx hb dX6_takingsRefusal_34 rfl (lv_at hl 4 rfl) ?_
        refine lv_if_ne (tgt := 40) hx hb dX6_takingsRefusal_35 (by decide) (fun c_7 => ?_) (fun c_7 => ?_)
        · replace hf := ite_n c_7 hf
          refine lv_iload_n hx hb dX6_takingsRefusal_40 rfl (lv_at hl 3 rfl) ?_
          refine lv_bipush (v := 20) hx hb dX6_takingsRefusal_41 (by decide) ?_
          refine lv_icmp_le (tgt := 51) hx hb dX6_takingsRefusal_43 (by decide) (fun c_8 => ?_) (fun c_8 => ?_)
          · replace hf := ite_p c_8 hf
            refine lv_iconst (v := 0) hx hb dX6_takingsRefusal_51 (by decide) ?_
            obtain rfl := Option.some.inj hf
            exact kt_iret C0 hP hS dX6_takingsRefusal_52
          · replace hf := ite_n c_8 hf
            refine lv_bipush (v := 6) hx hb dX6_takingsRefusal_46 (by decide) ?_
            refine lv_goto (tgt := 52) hx hb dX6_takingsRefusal_48 (by decide) ?_
            obtain rfl := Option.some.inj hf
            exact kt_iret C0 hP hS dX6_takingsRefusal_52
        · replace hf := ite_p c_7 hf
          refine lv_iconst (v := 5) hx hb dX6_takingsRefusal_38 (by decide) ?_
          obtain rfl := Option.some.inj hf
          exact kt_iret C0 hP hS dX6_takingsRefusal_39
    · replace hf := ite_n c_4 hf
      refine lv_iconst (v := 4) hx hb dX6_takingsRefusal_19 (by decide) ?_
      obtain rfl := Option.some.inj hf
      exact kt_iret C0 hP hS dX6_takingsRefusal_20
  · replace hf := ite_n c_3 hf
    refine lv_iload hx hb dX6_takingsRefusal_12 (lv_at hl 0 rfl) ?_
    obtain rfl := Option.some.inj hf
    exact kt_iret C0 hP hS dX6_takingsRefusal_14
set_option maxHeartbeats 4000000 in
set_option maxRecDepth 100000 in
theorem c_X6_firstWrong (l : Launch) (γ : Gm) (a : Nat → Nat → Nat) {so : GS} {r0 : GS} {r1 : GS} {r2 : GS} {rw : Nat → GS} {re : Nat → Nat → Int64} {tn : Option Nat} {se : GS} {sv : GS} {sk : GS} {sd : GS} {nr : Nat} {x2 : Int32} {rv : Int32} (hn : nr < 8) (hf : f_X6_firstWrong r0 rw re nr x2 = some rv) : Kt l γ yX6_firstWrong (Cond.code yX6_firstWrong cX6_firstWrong 6 (some .int) :: U) 2 42 [.ref ((a 0) 0), .ref ((a (8 + nr)) 0), .int x2] (wC γ a so r0 r1 r2 rw re tn se sv sk sd) (some (.int rv)) (wC γ a so r0 r1 r2 rw re tn se sv sk sd) := by
  refine Kt.of (by decide) rfl (Nat.le_of_ble_eq_true rfl) rfl ?_
  intro p e s m below meth c A ls C0 hP hD0 hS hl
  obtain ⟨hx, hb, hml, hown, hts, hr, hlocks, hK, hE, hA⟩ := id C0
  have hU : ∀ w ∈ U, w.before _ s = true := fun w h => hts w (List.mem_cons_of_mem _ h)
  have hD : ∀ (so : GS) (r0 : GS) (r1 : GS) (r2 : GS) (rw : Nat → GS) (re : Nat → Nat → Int64) (tn : Option Nat) (se : GS) (sv : GS) (sk : GS) (sd : GS), va_D A (wC γ a so r0 r1 r2 rw re tn se sv sk sd) := fun _ _ _ _ _ _ _ _ _ _ _ => hD0.fst rfl
  have hl : lv_has ls 6 [(0, .ref ((a 0) 0)), (1, .ref ((a (8 + nr)) 0)), (2, .int x2)] := hl
  have J59 : ∀ (x2_11 : Int32) (x3_12 : Int32) (x4_13 : Int32) (x5_14 : Int32) (K11 : Int32 → Int32 → Option (Int32)) (HK11 : ∀ (z3 : Int32) (z4 : Int32) (H : Heap) (locs : List Loc) (ls : Array Slot), K11 z3 z4 = some rv → va_P γ.1 vwCl (wC γ a so r0 r1 r2 rw re tn se sv sk sd) H → va_S A s.heap H locs → lv_has ls 6 [(0, .ref ((a 0) 0)), (1, .ref ((a (8 + nr)) 0)), (2, .int x2_11), (3, .int z3), (4, .int z4)] → W p l e (rmK 2 42) s m ([.ref ((a 0) 0), .ref ((a (8 + nr)) 0), .int x2] : List Value).toArray below meth c H locs 0 0 (MQ below (KQ γ A (some (.int rv)) (wC γ a so r0 r1 r2 rw re tn se sv sk sd)) ([.ref ((a 0) 0), .ref ((a (8 + nr)) 0), .int x2] : List Value).toArray s 0 0 A) (F0 m 11 ls [])) (H : Heap) (locs : List Loc) (ls : Array Slot), f_X6_firstWrong_J59 x3_12 x4_13 x5_14 K11 = some rv → va_P γ.1 vwCl (wC γ a so r0 r1 r2 rw re tn se sv sk sd) H → va_S A s.heap H locs → lv_has ls 6 [(0, .ref ((a 0) 0)), (1, .ref ((a (8 + nr)) 0)), (2, .int x2_11), (3, .int x3_12), (4, .int x4_13), (5, .int x5_14)] → W p l e (rmK 2 42) s m ([.ref ((a 0) 0), .ref ((a (8 + nr)) 0), .int x2] : List Value).toArray below meth c H locs 0 0 (MQ below (KQ γ A (some (.int rv)) (wC γ a so r0 r1 r2 rw re tn se sv sk sd)) ([.ref ((a 0) 0), .ref ((a (8 + nr)) 0), .int x2] : List Value).toArray s 0 0 A) (F0 m 59 ls []) := by
    intro x2_11 x3_12 x4_13 x5_14 K11 HK11 H locs ls hf hP hS hl
    unfold f_X6_firstWrong_J59 at hf
    refine lv_iload hx hb dX6_firstWrong_59 (lv_at hl 5 rfl) ?_
    refine lv_bipush (v := 100) hx hb dX6_firstWrong_61 (by decide) ?_
    refine lv_icmp_le (tgt := 74) hx hb dX6_firstWrong_63 (by decide) (fun c_15 => ?_) (fun c_15 => ?_)
    · replace hf := ite_p c_15 hf
      refine lv_iload hx hb dX6_firstWrong_74 (lv_at hl 4 rfl) ?_
      obtain rfl := Option.some.inj hf
      exact kt_iret C0 hP hS dX6_firstWrong_76
    · replace hf := ite_n c_15 hf
      refine lv_iload hx hb dX6_firstWrong_66 (lv_at hl 5 rfl) ?_
      refine lv_sipush (v := 199) hx hb dX6_firstWrong_68 (by decide) ?_
      refine lv_icmp_le (tgt := 77) hx hb dX6_firstWrong_71 (by decide) (fun c_16 => ?_) (fun c_16 => ?_)
      · replace hf := ite_p c_16 hf
        obtain ⟨x4_17, e_x4_17⟩ : ∃ y : Int32, y = x4_13 + (1 : Int32) := ⟨_, rfl⟩
        replace hf := nm_y hf e_x4_17
        refine lv_iinc (v := x4_17) (lv' := [(4, .int x4_17), (0, .ref ((a 0) 0)), (1, .ref ((a (8 + nr)) 0)), (2, .int x2_11), (3, .int x3_12), (5, .int x5_14)]) hx hb dX6_firstWrong_77 hl (k := 4) rfl (by rw [e_x4_17]; rfl) (by decide) rfl (fun ls hl => ?_)
        refine lv_goto (tgt := 11) hx hb dX6_firstWrong_80 (by decide) ?_
        exact HK11 x3_12 x4_17 _ _ _ hf hP hS (lv_sub hl [1, 2, 3, 4, 0] rfl)
      · replace hf := ite_n c_16 hf
        refine lv_iload hx hb dX6_firstWrong_74 (lv_at hl 4 rfl) ?_
        obtain rfl := Option.some.inj hf
        exact kt_iret C0 hP hS dX6_firstWrong_76
  have L11 : ∀ (x2_2 : Int32) (n : Nat) (x3_3 : Int32) (x4_4 : Int32) (H : Heap) (locs : List Loc) (ls : Array Slot), f_X6_firstWrong_L11 r0 rw re nr x2_2 n x3_3 x4_4 = some rv → va_P γ.1 vwCl (wC γ a so r0 r1 r2 rw re tn se sv sk sd) H → va_S A s.heap H locs → lv_has ls 6 [(0, .ref ((a 0) 0)), (1, .ref ((a (8 + nr)) 0)), (2, .int x2_2), (3, .int x3_3), (4, .int x4_4)] → W p l e (rmK 2 42) s m ([.ref ((a 0) 0), .ref ((a (8 + nr)) 0), .int x2] : List Value).toArray below meth c H locs 0 0 (MQ below (KQ γ A (some (.int rv)) (wC γ a so r0 r1 r2 rw re tn se sv sk sd)) ([.ref ((a 0) 0), .ref ((a (8 + nr)) 0), .int x2] : List Value).toArray s 0 0 A) (F0 m 11 ls []) := by
    intro x2_2
    intro n
    induction n with
    | zero =>
      intro x3_3 x4_4 H locs ls hf
      have hf : none = some _ := hf
      cases hf
    | succ n ih =>
      intro x3_3 x4_4 H locs ls hf hP hS hl
      rw [f_X6_firstWrong_L11.eq_2] at hf
      refine lv_iload hx hb dX6_firstWrong_11 (lv_at hl 4 rfl) ?_
      refine lv_iload_n hx hb dX6_firstWrong_13 rfl (lv_at hl 2 rfl) ?_
      refine lv_icmp_ge (tgt := 83) hx hb dX6_firstWrong_14 (by decide) (fun c_5 => ?_) (fun c_5 => ?_)
      · replace hf := ite_p c_5 hf
        refine lv_iconst (v := -1) hx hb dX6_firstWrong_83 (by decide) ?_
        obtain rfl := Option.some.inj hf
        exact kt_iret C0 hP hS dX6_firstWrong_84
      · replace hf := ite_n c_5 hf
        refine lv_aload_n hx hb dX6_firstWrong_17 rfl (lv_at hl 1 rfl) ?_
        refine lv_iload hx hb dX6_firstWrong_18 (lv_at hl 4 rfl) ?_
        obtain ⟨r_6, hg_7, hf⟩ := bd_of hf
        refine kt_VF (As := [.int x4_4]) (rest := []) (st1 := [.int r_6]) (b := (a (8 + nr)) 0) (wc' := wC γ a so r0 r1 r2 rw re tn se sv sk sd) C0 (c_X5_intAt l γ (a (8 + nr)) hg_7) (cxV (nA := 1) hts goodU U820 U571 U572 U90 U573 (by decide +kernel) ⟨Nat.le_of_ble_eq_true rfl, Nat.le_of_ble_eq_true rfl⟩) hP (hD _ _ _ _ _ _ _ _ _ _ _) hS hl dX6_firstWrong_20 (foc_ro (foc_rw γ a _ _ _ _ _ _ _ _ _ _ _ hn (fun _ _ => 0) (fun _ => 0))) 0 5 rfl rfl rfl rfl (Nat.le_of_ble_eq_true rfl) rfl rfl (fun H locs hP hS => ?_)
        refine lv_istore (lv' := [(5, .int r_6), (0, .ref ((a 0) 0)), (1, .ref ((a (8 + nr)) 0)), (2, .int x2_2), (3, .int x3_3), (4, .int x4_4)]) hx hb dX6_firstWrong_23 hl (by decide) rfl (fun ls hl => ?_)
        refine lv_aload_n hx hb dX6_firstWrong_25 rfl (lv_at hl 1 rfl) ?_
        refine va_get (D := γ.1) (ci := 6) (v := .ref ((a 1) 0)) (C := RX6) (T := TX6) (N := 12) hx hb hU uin6 hown hK hP 0 rfl rfl 0 (by decide) (hU _ U299) (fun _ h9 => h9) rfl dX6_firstWrong_26 ?_
        refine lv_iload hx hb dX6_firstWrong_29 (lv_at hl 0 rfl) ?_
        obtain ⟨r_8, hg_9, hf⟩ := bd_of hf
        refine kt_VF (As := [.int r_6]) (rest := []) (st1 := [.int r_8]) (b := (a 1) 0) (wc' := wC γ a so r0 r1 r2 rw re tn se sv sk sd) C0 (c_X3_isPeak l γ (a 1) hg_9) (cxV (nA := 1) hts goodU U403 U404 U405 U85 U406 (by decide +kernel) ⟨Nat.le_of_ble_eq_true rfl, Nat.le_of_ble_eq_true rfl⟩) hP (hD _ _ _ _ _ _ _ _ _ _ _) hS hl dX6_firstWrong_31 (foc_ro (foc_r0 γ a _ _ _ _ _ _ _ _ _ _ _ (fun _ _ => 0))) 0 3 rfl rfl rfl rfl (Nat.le_of_ble_eq_true rfl) rfl rfl (fun H locs hP hS => ?_)
        refine lv_if_eq (tgt := 59) hx hb dX6_firstWrong_34 (by decide) (fun c_10 => ?_) (fun c_10 => ?_)
        · replace hf := ite_p c_10 hf
          exact J59 x2_2 x3_3 x4_4 r_6 _ ih _ _ _ hf hP hS (lv_sub hl [1, 2, 3, 4, 5, 0] rfl)
        · replace hf := ite_n c_10 hf
          refine lv_iload_n hx hb dX6_firstWrong_37 rfl (lv_at hl 4 rfl) ?_
          refine lv_iload hx hb dX6_firstWrong_38 (lv_at hl 0 rfl) ?_
          obtain ⟨r_18, hg_19, hf⟩ := bd_of hf
          refine kt_SF (As := [.int x3_3, .int r_6]) (rest := []) (st1 := [.int r_18]) (wc' := wC γ a so r0 r1 r2 rw re tn se sv sk sd) C0 (c_X6_bit l γ hg_19) (cxS (nA := 2) hts goodU U448 U441 U84 U442 (by decide +kernel) ⟨Nat.le_of_ble_eq_true rfl, Nat.le_of_ble_eq_true rfl⟩) hP (hD _ _ _ _ _ _ _ _ _ _ _) hS hl dX6_firstWrong_40 foc_nil rfl (Nat.le_of_ble_eq_true rfl) rfl rfl (fun H locs hP hS => ?_)
          refine lv_iconst (v := 1) hx hb dX6_firstWrong_43 (by decide) ?_
          refine lv_icmp_ne (tgt := 59) hx hb dX6_firstWrong_44 (by decide) (fun c_20 => ?_) (fun c_20 => ?_)
          · replace hf := ite_n c_20 hf
            exact J59 x2_2 x3_3 x4_4 r_6 _ ih _ _ _ hf hP hS (lv_sub hl [1, 2, 3, 4, 5, 0] rfl)
          · replace hf := ite_p c_20 hf
            refine lv_iload_n hx hb dX6_firstWrong_47 rfl (lv_at hl 4 rfl) ?_
            refine lv_iconst (v := 1) hx hb dX6_firstWrong_48 (by decide) ?_
            refine lv_iload hx hb dX6_firstWrong_49 (lv_at hl 0 rfl) ?_
            refine lv_ishl hx hb dX6_firstWrong_51 ?_
            refine lv_iconst (v := -1) hx hb dX6_firstWrong_52 (by decide) ?_
            refine lv_ixor hx hb dX6_firstWrong_53 ?_
            refine lv_iand hx hb dX6_firstWrong_54 ?_
            refine lv_topi (fun u_21 e_u_21 => ?_)
            replace hf := nm_y hf e_u_21
            refine lv_istore_n (lv' := [(3, .int u_21), (5, .int r_6), (0, .ref ((a 0) 0)), (1, .ref ((a (8 + nr)) 0)), (2, .int x2_2), (4, .int x4_4)]) hx hb dX6_firstWrong_55 rfl hl (by decide) rfl (fun ls hl => ?_)
            refine lv_goto (tgt := 77) hx hb dX6_firstWrong_56 (by decide) ?_
            obtain ⟨x4_22, e_x4_22⟩ : ∃ y : Int32, y = x4_4 + (1 : Int32) := ⟨_, rfl⟩
            replace hf := nm_y hf e_x4_22
            refine lv_iinc (v := x4_22) (lv' := [(4, .int x4_22), (3, .int u_21), (5, .int r_6), (0, .ref ((a 0) 0)), (1, .ref ((a (8 + nr)) 0)), (2, .int x2_2)]) hx hb dX6_firstWrong_77 hl (k := 5) rfl (by rw [e_x4_22]; rfl) (by decide) rfl (fun ls hl => ?_)
            refine lv_goto (tgt := 11) hx hb dX6_firstWrong_80 (by decide) ?_
            exact ih u_21 x4_22 _ _ _ hf hP hS (lv_sub hl [3, 4, 5, 1, 0] rfl)
  unfold f_X6_firstWrong at hf
  refine lv_aload_n hx hb dX6_firstWrong_0 rfl (lv_at hl 0 rfl) ?_
  refine va_get (D := γ.1) (ci := 6) (v := .ref ((a 1) 0)) (C := RX6) (T := TX6) (N := 12) hx hb hU uin6 hown hK hP 0 rfl rfl 0 (by decide) (hU _ U299) (fun _ h9 => h9) rfl dX6_firstWrong_1 ?_
  refine va_getN (D := γ.1) (ci := 3) (v := .int (r0 0 1)) (C := RX3) (T := TX3) (N := 18) hx hb hU uin3 hown hK hP 4 rfl rfl 1 (by decide) (va_Nw.use rfl (hE.2.2.2.2.2.1 _ NW6)) (fun _ h9 => h9) rfl dX6_firstWrong_4 ?_
  refine lv_topi (fun u_1 e_u_1 => ?_)
  replace hf := nm_y hf e_u_1
  refine lv_istore_n (lv' := [(3, .int u_1), (0, .ref ((a 0) 0)), (1, .ref ((a (8 + nr)) 0)), (2, .int x2)]) hx hb dX6_firstWrong_7 rfl hl (by decide) rfl (fun ls hl => ?_)
  refine lv_iconst (v := 0) hx hb dX6_firstWrong_8 (by decide) ?_
  refine lv_istore (lv' := [(4, .int (0 : Int32)), (3, .int u_1), (0, .ref ((a 0) 0)), (1, .ref ((a (8 + nr)) 0)), (2, .int x2)]) hx hb dX6_firstWrong_9 hl (by decide) rfl (fun ls hl => ?_)
  exact L11 x2 FU u_1 (0 : Int32) _ _ _ hf hP hS (lv_sub hl [2, 3, 4, 1, 0] rfl)
set_option maxHeartbeats 4000000 in
set_option maxRecDepth 100000 in
theorem c_X6_judge (l : Launch) (γ : Gm) (a : Nat → Nat → Nat) {so : GS} {r0 : GS} {r1 : GS} {r2 : GS} {rw : Nat → GS} {re : Nat → Nat → Int64} {tn : Option Nat} {se : GS} {sv : GS} {sk : GS} {sd : GS} {x1 : Int32} {x2 : Int32} {rv : Int32} {so_z : GS} (hf : f_X6_judge so r0 rw re x1 x2 = some (rv, so_z)) : Kt l γ yX6_judge (Cond.code yX6_judge cX6_judge 4 (some .int) :: U) 3 67 [.ref ((a 0) 0), .int x1, .int x2] (wC γ a so r0 r1 r2 rw re tn se sv sk sd) (some (.int rv)) (wC γ a so_z r0 r1 r2 rw re tn se sv sk sd) := by
  refine Kt.of (by decide) rfl (Nat.le_of_ble_eq_true rfl) rfl ?_
  intro p e s m below meth c A ls C0 hP hD0 hS hl
  obtain ⟨hx, hb, hml, hown, hts, hr, hlocks, hK, hE, hA⟩ := id C0
  have hU : ∀ w ∈ U, w.before _ s = true := fun w h => hts w (List.mem_cons_of_mem _ h)
  have hD : ∀ (so : GS) (r0 : GS) (r1 : GS) (r2 : GS) (rw : Nat → GS) (re : Nat → Nat → Int64) (tn : Option Nat) (se : GS) (sv : GS) (sk : GS) (sd : GS), va_D A (wC γ a so r0 r1 r2 rw re tn se sv sk sd) := fun _ _ _ _ _ _ _ _ _ _ _ => hD0.fst rfl
  have hl : lv_has ls 4 [(0, .ref ((a 0) 0)), (1, .int x1), (2, .int x2)] := hl
  unfold f_X6_judge at hf
  refine lv_aload_n hx hb dX6_judge_0 rfl (lv_at hl 0 rfl) ?_
  refine lv_iload_n hx hb dX6_judge_1 rfl (lv_at hl 1 rfl) ?_
  refine lv_iload_n hx hb dX6_judge_2 rfl (lv_at hl 2 rfl) ?_
  refine lv_iconst (v := 1) hx hb dX6_judge_3 (by decide) ?_
  obtain ⟨r_1, hg_2, hf⟩ := bd_of hf
  refine kt_V0 (As := [.int x1, .int x2, .int (1 : Int32)]) (rest := []) (st1 := [.int r_1]) (b := (a 0) 0) C0 (c_X6_takingsRefusal l γ a hg_2) (cxV (nA := 3) hts goodU U868 U870 U24 U84 U871 (by decide +kernel) ⟨Nat.le_of_ble_eq_true rfl, Nat.le_of_ble_eq_true rfl⟩) hP (hD _ _ _ _ _ _ _ _ _ _ _) hS hl dX6_judge_4 0 6 rfl rfl rfl rfl (Nat.le_of_ble_eq_true rfl) rfl rfl (fun H locs hP hS => ?_)
  refine lv_istore_n (lv' := [(3, .int r_1), (0, .ref ((a 0) 0)), (1, .int x1), (2, .int x2)]) hx hb dX6_judge_7 rfl hl (by decide) rfl (fun ls hl => ?_)
  refine lv_iload_n hx hb dX6_judge_8 rfl (lv_at hl 0 rfl) ?_
  refine lv_if_eq (tgt := 21) hx hb dX6_judge_9 (by decide) (fun c_3 => ?_) (fun c_3 => ?_)
  · replace hf := ite_p c_3 hf
    refine lv_aload_n hx hb dX6_judge_21 rfl (lv_at hl 1 rfl) ?_
    refine lv_aload_n hx hb dX6_judge_22 rfl (lv_at hl 1 rfl) ?_
    refine va_get (D := γ.1) (ci := 6) (v := .ref (a 0 5)) (C := RX6) (T := TX6) (N := 12) hx hb hU uin6 hown hK hP 0 rfl rfl 4 (by decide) (hU _ U303) (fun _ h9 => h9) rfl dX6_judge_23 ?_
    refine lv_iload_n hx hb dX6_judge_26 rfl (lv_at hl 2 rfl) ?_
    obtain ⟨g_4, hf⟩ := gd_of hf
    refine va_aldq (C := RX5) hx hb hK hP 1 2 rfl rfl (inB_vp g_4) dX6_judge_27 ?_
    rw [rowF_at a (inB_lt g_4)]
    refine lv_iload_n hx hb dX6_judge_28 rfl (lv_at hl 3 rfl) ?_
    obtain ⟨r_5, hg_6, hf⟩ := bd_of hf
    refine kt_V0 (As := [.ref ((a (8 + x1.toNatClampNeg)) 0), .int x2]) (rest := []) (st1 := [.int r_5]) (b := (a 0) 0) C0 (c_X6_firstWrong l γ a (inB_lt g_4) hg_6) (cxV (nA := 2) hts goodU U872 U874 U25 U84 U875 (by decide +kernel) ⟨Nat.le_of_ble_eq_true rfl, Nat.le_of_ble_eq_true rfl⟩) hP (hD _ _ _ _ _ _ _ _ _ _ _) hS hl dX6_judge_29 0 6 rfl rfl rfl rfl (Nat.le_of_ble_eq_true rfl) rfl rfl (fun H locs hP hS => ?_)
    obtain ⟨rfl, rfl⟩ := rt2 hf
    exact kt_iret C0 hP hS dX6_judge_32
  · replace hf := ite_n c_3 hf
    refine lv_aload_n hx hb dX6_judge_12 rfl (lv_at hl 1 rfl) ?_
    refine lv_iload_n hx hb dX6_judge_13 rfl (lv_at hl 0 rfl) ?_
    obtain ⟨r_7, so_8, hg_9, hf⟩ := bd2_of hf
    refine kt_V0 (As := [.int r_1]) (rest := []) (st1 := [.int r_7]) (b := (a 0) 0) C0 (c_X6_refused l γ a hg_9) (cxV (nA := 1) hts goodU U343 U345 U0 U84 U346 (by decide +kernel) ⟨Nat.le_of_ble_eq_true rfl, Nat.le_of_ble_eq_true rfl⟩) hP (hD _ _ _ _ _ _ _ _ _ _ _) hS hl dX6_judge_14 0 6 rfl rfl rfl rfl (Nat.le_of_ble_eq_true rfl) rfl rfl (fun H locs hP hS => ?_)
    refine lv_bipush (v := 10) hx hb dX6_judge_17 (by decide) ?_
    refine lv_isub hx hb dX6_judge_19 ?_
    obtain ⟨rfl, rfl⟩ := rt2 hf
    exact kt_iret C0 hP hS dX6_judge_20
set_option maxHeartbeats 4000000 in
set_option maxRecDepth 100000 in
theorem c_X6_told (l : Launch) (γ : Gm) (a : Nat → Nat → Nat) {so : GS} {r0 : GS} {r1 : GS} {r2 : GS} {rw : Nat → GS} {re : Nat → Nat → Int64} {tn : Option Nat} {se : GS} {sv : GS} {sk : GS} {sd : GS} {x1 : Int32} {x2 : Int32} {x3 : Int32} {rv : Int32} {so_z : GS} {r2_z : GS} (hf : f_X6_told so r0 r2 rw re x1 x2 x3 = some (rv, so_z, r2_z)) : Kt l γ yX6_told (Cond.code yX6_told cX6_told 6 (some .int) :: U) 6 140 [.ref ((a 0) 0), .int x1, .int x2, .int x3] (wC γ a so r0 r1 r2 rw re tn se sv sk sd) (some (.int rv)) (wC γ a so_z r0 r1 r2_z rw re tn se sv sk sd) := by
  refine Kt.of (by decide) rfl (Nat.le_of_ble_eq_true rfl) rfl ?_
  intro p e s m below meth c A ls C0 hP hD0 hS hl
  obtain ⟨hx, hb, hml, hown, hts, hr, hlocks, hK, hE, hA⟩ := id C0
  have hU : ∀ w ∈ U, w.before _ s = true := fun w h => hts w (List.mem_cons_of_mem _ h)
  have hD : ∀ (so : GS) (r0 : GS) (r1 : GS) (r2 : GS) (rw : Nat → GS) (re : Nat → Nat → Int64) (tn : Option Nat) (se : GS) (sv : GS) (sk : GS) (sd : GS), va_D A (wC γ a so r0 r1 r2 rw re tn se sv sk sd) := fun _ _ _ _ _ _ _ _ _ _ _ => hD0.fst rfl
  have hl : lv_has ls 6 [(0, .ref ((a 0) 0)), (1, .int x1), (2, .int x2), (3, .int x3)] := hl
  have J17 : ∀ (x1_9 : Int32) (x2_10 : Int32) (x3_11 : Int32) (so_12 : GS) (r2_13 : GS) (t1_14 : Int32) (t2_15 : Int32) (t3_16 : Int32) (H : Heap) (locs : List Loc) (ls : Array Slot), f_X6_told_J17 r0 rw re x1_9 x2_10 x3_11 so_12 r2_13 t1_14 t2_15 t3_16 = some (rv, so_z, r2_z) → va_P γ.1 vwCl (wC γ a so_12 r0 r1 r2_13 rw re tn se sv sk sd) H → va_S A s.heap H locs → lv_has ls 6 [(0, .ref ((a 0) 0)), (1, .int x1_9), (2, .int x2_10), (3, .int x3_11)] → W p l e (rmK 6 140) s m ([.ref ((a 0) 0), .int x1, .int x2, .int x3] : List Value).toArray below meth c H locs 0 0 (MQ below (KQ γ A (some (.int rv)) (wC γ a so_z r0 r1 r2_z rw re tn se sv sk sd)) ([.ref ((a 0) 0), .int x1, .int x2, .int x3] : List Value).toArray s 0 0 A) (F0 m 17 ls [.int t3_16, .int t2_15, .int t1_14, .ref ((a 0) 0)]) := by
    intro x1_9 x2_10 x3_11 so_12 r2_13 t1_14 t2_15 t3_16 H locs ls hf hP hS hl
    unfold f_X6_told_J17 at hf
    obtain ⟨r_17, hg_18, hf⟩ := bd_of hf
    refine kt_V0 (As := [.int t1_14, .int t2_15, .int t3_16]) (rest := []) (st1 := [.int r_17]) (b := (a 0) 0) C0 (c_X6_takingsRefusal l γ a hg_18) (cxV (nA := 3) hts goodU U868 U870 U24 U84 U871 (by decide +kernel) ⟨Nat.le_of_ble_eq_true rfl, Nat.le_of_ble_eq_true rfl⟩) hP (hD _ _ _ _ _ _ _ _ _ _ _) hS hl dX6_told_17 0 6 rfl rfl rfl rfl (Nat.le_of_ble_eq_true rfl) rfl rfl (fun H locs hP hS => ?_)
    refine lv_istore (lv' := [(4, .int r_17), (0, .ref ((a 0) 0)), (1, .int x1_9), (2, .int x2_10), (3, .int x3_11)]) hx hb dX6_told_20 hl (by decide) rfl (fun ls hl => ?_)
    refine lv_iload hx hb dX6_told_22 (lv_at hl 0 rfl) ?_
    refine lv_if_eq (tgt := 34) hx hb dX6_told_24 (by decide) (fun c_19 => ?_) (fun c_19 => ?_)
    · replace hf := ite_p c_19 hf
      refine lv_aload_n hx hb dX6_told_34 rfl (lv_at hl 1 rfl) ?_
      refine lv_aload_n hx hb dX6_told_35 rfl (lv_at hl 1 rfl) ?_
      refine va_get (D := γ.1) (ci := 6) (v := .ref (a 0 5)) (C := RX6) (T := TX6) (N := 12) hx hb hU uin6 hown hK hP 0 rfl rfl 4 (by decide) (hU _ U303) (fun _ h9 => h9) rfl dX6_told_36 ?_
      refine lv_iload_n hx hb dX6_told_39 rfl (lv_at hl 2 rfl) ?_
      obtain ⟨g_20, hf⟩ := gd_of hf
      refine va_aldq (C := RX5) hx hb hK hP 1 2 rfl rfl (inB_vp g_20) dX6_told_40 ?_
      rw [rowF_at a (inB_lt g_20)]
      refine lv_iload_n hx hb dX6_told_41 rfl (lv_at hl 3 rfl) ?_
      obtain ⟨r_21, hg_22, hf⟩ := bd_of hf
      refine kt_V0 (As := [.ref ((a (8 + x1_9.toNatClampNeg)) 0), .int x2_10]) (rest := []) (st1 := [.int r_21]) (b := (a 0) 0) C0 (c_X6_firstWrong l γ a (inB_lt g_20) hg_22) (cxV (nA := 2) hts goodU U872 U874 U25 U84 U875 (by decide +kernel) ⟨Nat.le_of_ble_eq_true rfl, Nat.le_of_ble_eq_true rfl⟩) hP (hD _ _ _ _ _ _ _ _ _ _ _) hS hl dX6_told_42 0 6 rfl rfl rfl rfl (Nat.le_of_ble_eq_true rfl) rfl rfl (fun H locs hP hS => ?_)
      refine lv_iconst (v := -1) hx hb dX6_told_45 (by decide) ?_
      refine lv_icmp_eq (tgt := 56) hx hb dX6_told_46 (by decide) (fun c_23 => ?_) (fun c_23 => ?_)
      · replace hf := ite_p c_23 hf
        refine lv_aload_n hx hb dX6_told_56 rfl (lv_at hl 1 rfl) ?_
        refine va_get (D := γ.1) (ci := 6) (v := .ref ((a 3) 0)) (C := RX6) (T := TX6) (N := 12) hx hb hU uin6 hown hK hP 0 rfl rfl 2 (by decide) (hU _ U301) (fun _ h9 => h9) rfl dX6_told_57 ?_
        refine lv_aload_n hx hb dX6_told_60 rfl (lv_at hl 1 rfl) ?_
        refine va_get (D := γ.1) (ci := 6) (v := .ref ((a 1) 0)) (C := RX6) (T := TX6) (N := 12) hx hb hU uin6 hown hK hP 0 rfl rfl 0 (by decide) (hU _ U299) (fun _ h9 => h9) rfl dX6_told_61 ?_
        obtain ⟨r2_24, hg_25, hf⟩ := bd_of hf
        refine kt_VF (As := [.ref ((a 1) 0)]) (rest := []) (st1 := []) (b := (a 3) 0) (wc' := wC γ a so_12 r0 r1 r2_24 rw re tn se sv sk sd) C0 (c_X3_become l γ (a 3) (a 1) hg_25) (cxV (nA := 1) hts goodU U549 U550 U551 U85 U552 (by decide +kernel) ⟨Nat.le_of_ble_eq_true rfl, Nat.le_of_ble_eq_true rfl⟩) hP (hD _ _ _ _ _ _ _ _ _ _ _) hS hl dX6_told_64 (foc_r2_r0 γ a _ _ _ _ _ _ _ _ _ _ _ _ _) 0 3 rfl rfl rfl rfl (Nat.le_of_ble_eq_true rfl) rfl rfl (fun H locs hP hS => ?_)
        refine lv_aload_n hx hb dX6_told_67 rfl (lv_at hl 1 rfl) ?_
        refine va_get (D := γ.1) (ci := 6) (v := .ref ((a 3) 0)) (C := RX6) (T := TX6) (N := 12) hx hb hU uin6 hown hK hP 0 rfl rfl 2 (by decide) (hU _ U301) (fun _ h9 => h9) rfl dX6_told_68 ?_
        refine lv_aload_n hx hb dX6_told_71 rfl (lv_at hl 1 rfl) ?_
        refine va_get (D := γ.1) (ci := 6) (v := .ref (a 0 5)) (C := RX6) (T := TX6) (N := 12) hx hb hU uin6 hown hK hP 0 rfl rfl 4 (by decide) (hU _ U303) (fun _ h9 => h9) rfl dX6_told_72 ?_
        refine lv_iload_n hx hb dX6_told_75 rfl (lv_at hl 2 rfl) ?_
        obtain ⟨g_26, hf⟩ := gd_of hf
        refine va_aldq (C := RX5) hx hb hK hP 1 2 rfl rfl (inB_vp g_26) dX6_told_76 ?_
        rw [rowF_at a (inB_lt g_26)]
        refine lv_iload_n hx hb dX6_told_77 rfl (lv_at hl 3 rfl) ?_
        obtain ⟨r_27, r2_28, hg_29, hf⟩ := bd2_of hf
        refine kt_VF (As := [.ref ((a (8 + x1_9.toNatClampNeg)) 0), .int x2_10]) (rest := []) (st1 := [.int r_27]) (b := (a 3) 0) (wc' := wC γ a so_12 r0 r1 r2_28 (va_up rw (x1_9.toNatClampNeg) (rw (x1_9.toNatClampNeg))) (va_up re (x1_9.toNatClampNeg) (re (x1_9.toNatClampNeg))) tn se sv sk sd) C0 (c_X3_comeToPass l γ (a 3) (a (8 + x1_9.toNatClampNeg)) hg_29) (cxV (nA := 2) hts goodU U880 U881 U882 U85 U883 (by decide +kernel) ⟨Nat.le_of_ble_eq_true rfl, Nat.le_of_ble_eq_true rfl⟩) hP (hD _ _ _ _ _ _ _ _ _ _ _) hS hl dX6_told_78 (foc_r2_rw γ a _ _ _ _ _ _ _ _ _ _ _ _ (inB_lt g_26) _ _) 0 3 rfl rfl rfl rfl (Nat.le_of_ble_eq_true rfl) rfl rfl (fun H locs hP hS => ?_)
        rw [up_id, up_id] at hP
        refine lv_istore (lv' := [(5, .int r_27), (4, .int r_17), (0, .ref ((a 0) 0)), (1, .int x1_9), (2, .int x2_10), (3, .int x3_11)]) hx hb dX6_told_81 hl (by decide) rfl (fun ls hl => ?_)
        refine lv_iload_n hx hb dX6_told_83 rfl (lv_at hl 5 rfl) ?_
        refine lv_if_ne (tgt := 90) hx hb dX6_told_84 (by decide) (fun c_30 => ?_) (fun c_30 => ?_)
        · replace hf := ite_n c_30 hf
          refine lv_iload_n hx hb dX6_told_90 rfl (lv_at hl 5 rfl) ?_
          refine lv_iconst (v := 1) hx hb dX6_told_91 (by decide) ?_
          refine lv_icmp_ne (tgt := 112) hx hb dX6_told_92 (by decide) (fun c_31 => ?_) (fun c_31 => ?_)
          · replace hf := ite_n c_31 hf
            refine lv_aload_n hx hb dX6_told_112 rfl (lv_at hl 2 rfl) ?_
            refine va_get (D := γ.1) (ci := 6) (v := .ref ((a 3) 0)) (C := RX6) (T := TX6) (N := 12) hx hb hU uin6 hown hK hP 0 rfl rfl 2 (by decide) (hU _ U301) (fun _ h9 => h9) rfl dX6_told_113 ?_
            refine va_getN (D := γ.1) (ci := 3) (v := .int (r2_28 0 16)) (C := RX3) (T := TX3) (N := 18) hx hb hU uin3 hown hK hP 30 rfl rfl 16 (by decide) (va_Nw.use rfl (hE.2.2.2.2.2.1 _ NW25)) (fun _ h9 => h9) rfl dX6_told_116 ?_
            obtain ⟨rfl, rfl, rfl⟩ := rt3 hf
            exact kt_iret C0 hP hS dX6_told_119
          · replace hf := ite_p c_31 hf
            refine lv_aload_n hx hb dX6_told_95 rfl (lv_at hl 2 rfl) ?_
            refine va_get (D := γ.1) (ci := 6) (v := .ref ((a 3) 0)) (C := RX6) (T := TX6) (N := 12) hx hb hU uin6 hown hK hP 0 rfl rfl 2 (by decide) (hU _ U301) (fun _ h9 => h9) rfl dX6_told_96 ?_
            refine lv_aload_n hx hb dX6_told_99 rfl (lv_at hl 2 rfl) ?_
            refine va_get (D := γ.1) (ci := 6) (v := .ref ((a 3) 0)) (C := RX6) (T := TX6) (N := 12) hx hb hU uin6 hown hK hP 0 rfl rfl 2 (by decide) (hU _ U301) (fun _ h9 => h9) rfl dX6_told_100 ?_
            refine va_getN (D := γ.1) (ci := 3) (v := .int (r2_28 0 16)) (C := RX3) (T := TX3) (N := 18) hx hb hU uin3 hown hK hP 30 rfl rfl 16 (by decide) (va_Nw.use rfl (hE.2.2.2.2.2.1 _ NW25)) (fun _ h9 => h9) rfl dX6_told_103 ?_
            obtain ⟨r_32, hg_33, hf⟩ := bd_of hf
            refine kt_VF (As := [.int (r2_28 0 16)]) (rest := []) (st1 := [.int r_32]) (b := (a 3) 0) (wc' := wC γ a so_12 r0 r1 r2_28 rw re tn se sv sk sd) C0 (c_X3_blackIn l γ (a 3) hg_33) (cxV (nA := 1) hts goodU U427 U428 U429 U85 U430 (by decide +kernel) ⟨Nat.le_of_ble_eq_true rfl, Nat.le_of_ble_eq_true rfl⟩) hP (hD _ _ _ _ _ _ _ _ _ _ _) hS hl dX6_told_106 (foc_ro (foc_r2 γ a _ _ _ _ _ _ _ _ _ _ _ (fun _ _ => 0))) 0 3 rfl rfl rfl rfl (Nat.le_of_ble_eq_true rfl) rfl rfl (fun H locs hP hS => ?_)
            refine lv_goto (tgt := 119) hx hb dX6_told_109 (by decide) ?_
            obtain ⟨rfl, rfl, rfl⟩ := rt3 hf
            exact kt_iret C0 hP hS dX6_told_119
        · replace hf := ite_p c_30 hf
          refine lv_iload hx hb dX6_told_87 (lv_at hl 0 rfl) ?_
          obtain ⟨rfl, rfl, rfl⟩ := rt3 hf
          exact kt_iret C0 hP hS dX6_told_89
      · replace hf := ite_n c_23 hf
        refine lv_aload_n hx hb dX6_told_49 rfl (lv_at hl 1 rfl) ?_
        refine lv_bipush (v := 6) hx hb dX6_told_50 (by decide) ?_
        obtain ⟨r_34, so_35, hg_36, hf⟩ := bd2_of hf
        refine kt_V0 (As := [.int (6 : Int32)]) (rest := []) (st1 := [.int r_34]) (b := (a 0) 0) C0 (c_X6_refused l γ a hg_36) (cxV (nA := 1) hts goodU U343 U345 U0 U84 U346 (by decide +kernel) ⟨Nat.le_of_ble_eq_true rfl, Nat.le_of_ble_eq_true rfl⟩) hP (hD _ _ _ _ _ _ _ _ _ _ _) hS hl dX6_told_52 0 6 rfl rfl rfl rfl (Nat.le_of_ble_eq_true rfl) rfl rfl (fun H locs hP hS => ?_)
        obtain ⟨rfl, rfl, rfl⟩ := rt3 hf
        exact kt_iret C0 hP hS dX6_told_55
    · replace hf := ite_n c_19 hf
      refine lv_aload_n hx hb dX6_told_27 rfl (lv_at hl 1 rfl) ?_
      refine lv_iload hx hb dX6_told_28 (lv_at hl 0 rfl) ?_
      obtain ⟨r_37, so_38, hg_39, hf⟩ := bd2_of hf
      refine kt_V0 (As := [.int r_17]) (rest := []) (st1 := [.int r_37]) (b := (a 0) 0) C0 (c_X6_refused l γ a hg_39) (cxV (nA := 1) hts goodU U343 U345 U0 U84 U346 (by decide +kernel) ⟨Nat.le_of_ble_eq_true rfl, Nat.le_of_ble_eq_true rfl⟩) hP (hD _ _ _ _ _ _ _ _ _ _ _) hS hl dX6_told_30 0 6 rfl rfl rfl rfl (Nat.le_of_ble_eq_true rfl) rfl rfl (fun H locs hP hS => ?_)
      obtain ⟨rfl, rfl, rfl⟩ := rt3 hf
      exact kt_iret C0 hP hS dX6_told_33
  have J16 : ∀ (x1_2 : Int32) (x2_3 : Int32) (x3_4 : Int32) (so_5 : GS) (r2_6 : GS) (t1_7 : Int32) (t2_8 : Int32) (H : Heap) (locs : List Loc) (ls : Array Slot), f_X6_told_J16 r0 rw re x1_2 x2_3 x3_4 so_5 r2_6 t1_7 t2_8 = some (rv, so_z, r2_z) → va_P γ.1 vwCl (wC γ a so_5 r0 r1 r2_6 rw re tn se sv sk sd) H → va_S A s.heap H locs → lv_has ls 6 [(0, .ref ((a 0) 0)), (1, .int x1_2), (2, .int x2_3), (3, .int x3_4)] → W p l e (rmK 6 140) s m ([.ref ((a 0) 0), .int x1, .int x2, .int x3] : List Value).toArray below meth c H locs 0 0 (MQ below (KQ γ A (some (.int rv)) (wC γ a so_z r0 r1 r2_z rw re tn se sv sk sd)) ([.ref ((a 0) 0), .int x1, .int x2, .int x3] : List Value).toArray s 0 0 A) (F0 m 16 ls [.int t2_8, .int t1_7, .ref ((a 0) 0)]) := by
    intro x1_2 x2_3 x3_4 so_5 r2_6 t1_7 t2_8 H locs ls hf hP hS hl
    unfold f_X6_told_J16 at hf
    refine lv_iconst (v := 0) hx hb dX6_told_16 (by decide) ?_
    exact J17 x1_2 x2_3 x3_4 so_5 r2_6 t1_7 t2_8 (0 : Int32) _ _ _ hf hP hS (lv_sub hl [0, 1, 2, 3] rfl)
  unfold f_X6_told at hf
  refine lv_aload_n hx hb dX6_told_0 rfl (lv_at hl 0 rfl) ?_
  refine lv_iload_n hx hb dX6_told_1 rfl (lv_at hl 1 rfl) ?_
  refine lv_iload_n hx hb dX6_told_2 rfl (lv_at hl 2 rfl) ?_
  refine lv_iload_n hx hb dX6_told_3 rfl (lv_at hl 3 rfl) ?_
  refine lv_if_lt (tgt := 16) hx hb dX6_told_4 (by decide) (fun c_1 => ?_) (fun c_1 => ?_)
  · replace hf := ite_p c_1 hf
    exact J16 x1 x2 x3 so r2 x1 x2 _ _ _ hf hP hS (lv_sub hl [0, 1, 2, 3] rfl)
  · replace hf := ite_n c_1 hf
    refine lv_iload_n hx hb dX6_told_7 rfl (lv_at hl 3 rfl) ?_
    refine lv_iconst (v := 2) hx hb dX6_told_8 (by decide) ?_
    refine lv_icmp_gt (tgt := 16) hx hb dX6_told_9 (by decide) (fun c_40 => ?_) (fun c_40 => ?_)
    · replace hf := ite_p c_40 hf
      exact J16 x1 x2 x3 so r2 x1 x2 _ _ _ hf hP hS (lv_sub hl [0, 1, 2, 3] rfl)
    · replace hf := ite_n c_40 hf
      refine lv_iconst (v := 1) hx hb dX6_told_12 (by decide) ?_
      refine lv_goto (tgt := 17) hx hb dX6_told_13 (by decide) ?_
      exact J17 x1 x2 x3 so r2 x1 x2 (1 : Int32) _ _ _ hf hP hS (lv_sub hl [0, 1, 2, 3] rfl)
set_option maxHeartbeats 4000000 in
set_option maxRecDepth 100000 in
theorem c_X6_done (l : Launch) (γ : Gm) (a : Nat → Nat → Nat) {so : GS} {r0 : GS} {r1 : GS} {r2 : GS} {rw : Nat → GS} {re : Nat → Nat → Int64} {tn : Option Nat} {se : GS} {sv : GS} {sk : GS} {sd : GS} {x1 : Int32} {x2 : Int32} {rv : Int32} {so_z : GS} {r0_z : GS} (hf : f_X6_done so r0 rw re x1 x2 = some (rv, so_z, r0_z)) : Kt l γ yX6_done (Cond.code yX6_done cX6_done 4 (some .int) :: U) 6 140 [.ref ((a 0) 0), .int x1, .int x2] (wC γ a so r0 r1 r2 rw re tn se sv sk sd) (some (.int rv)) (wC γ a so_z r0_z r1 r2 rw re tn se sv sk sd) := by
  refine Kt.of (by decide) rfl (Nat.le_of_ble_eq_true rfl) rfl ?_
  intro p e s m below meth c A ls C0 hP hD0 hS hl
  obtain ⟨hx, hb, hml, hown, hts, hr, hlocks, hK, hE, hA⟩ := id C0
  have hU : ∀ w ∈ U, w.before _ s = true := fun w h => hts w (List.mem_cons_of_mem _ h)
  have hD : ∀ (so : GS) (r0 : GS) (r1 : GS) (r2 : GS) (rw : Nat → GS) (re : Nat → Nat → Int64) (tn : Option Nat) (se : GS) (sv : GS) (sk : GS) (sd : GS), va_D A (wC γ a so r0 r1 r2 rw re tn se sv sk sd) := fun _ _ _ _ _ _ _ _ _ _ _ => hD0.fst rfl
  have hl : lv_has ls 4 [(0, .ref ((a 0) 0)), (1, .int x1), (2, .int x2)] := hl
  unfold f_X6_done at hf
  refine lv_aload_n hx hb dX6_done_0 rfl (lv_at hl 0 rfl) ?_
  refine lv_iload_n hx hb dX6_done_1 rfl (lv_at hl 1 rfl) ?_
  refine lv_iload_n hx hb dX6_done_2 rfl (lv_at hl 2 rfl) ?_
  refine lv_iconst (v := 1) hx hb dX6_done_3 (by decide) ?_
  obtain ⟨r_1, hg_2, hf⟩ := bd_of hf
  refine kt_V0 (As := [.int x1, .int x2, .int (1 : Int32)]) (rest := []) (st1 := [.int r_1]) (b := (a 0) 0) C0 (c_X6_takingsRefusal l γ a hg_2) (cxV (nA := 3) hts goodU U868 U870 U24 U84 U871 (by decide +kernel) ⟨Nat.le_of_ble_eq_true rfl, Nat.le_of_ble_eq_true rfl⟩) hP (hD _ _ _ _ _ _ _ _ _ _ _) hS hl dX6_done_4 0 6 rfl rfl rfl rfl (Nat.le_of_ble_eq_true rfl) rfl rfl (fun H locs hP hS => ?_)
  refine lv_istore_n (lv' := [(3, .int r_1), (0, .ref ((a 0) 0)), (1, .int x1), (2, .int x2)]) hx hb dX6_done_7 rfl hl (by decide) rfl (fun ls hl => ?_)
  refine lv_iload_n hx hb dX6_done_8 rfl (lv_at hl 0 rfl) ?_
  refine lv_if_eq (tgt := 18) hx hb dX6_done_9 (by decide) (fun c_3 => ?_) (fun c_3 => ?_)
  · replace hf := ite_p c_3 hf
    refine lv_aload_n hx hb dX6_done_18 rfl (lv_at hl 1 rfl) ?_
    refine lv_aload_n hx hb dX6_done_19 rfl (lv_at hl 1 rfl) ?_
    refine va_get (D := γ.1) (ci := 6) (v := .ref (a 0 5)) (C := RX6) (T := TX6) (N := 12) hx hb hU uin6 hown hK hP 0 rfl rfl 4 (by decide) (hU _ U303) (fun _ h9 => h9) rfl dX6_done_20 ?_
    refine lv_iload_n hx hb dX6_done_23 rfl (lv_at hl 2 rfl) ?_
    obtain ⟨g_4, hf⟩ := gd_of hf
    refine va_aldq (C := RX5) hx hb hK hP 1 2 rfl rfl (inB_vp g_4) dX6_done_24 ?_
    rw [rowF_at a (inB_lt g_4)]
    refine lv_iload_n hx hb dX6_done_25 rfl (lv_at hl 3 rfl) ?_
    obtain ⟨r_5, hg_6, hf⟩ := bd_of hf
    refine kt_V0 (As := [.ref ((a (8 + x1.toNatClampNeg)) 0), .int x2]) (rest := []) (st1 := [.int r_5]) (b := (a 0) 0) C0 (c_X6_firstWrong l γ a (inB_lt g_4) hg_6) (cxV (nA := 2) hts goodU U872 U874 U25 U84 U875 (by decide +kernel) ⟨Nat.le_of_ble_eq_true rfl, Nat.le_of_ble_eq_true rfl⟩) hP (hD _ _ _ _ _ _ _ _ _ _ _) hS hl dX6_done_26 0 6 rfl rfl rfl rfl (Nat.le_of_ble_eq_true rfl) rfl rfl (fun H locs hP hS => ?_)
    refine lv_iconst (v := -1) hx hb dX6_done_29 (by decide) ?_
    refine lv_icmp_eq (tgt := 40) hx hb dX6_done_30 (by decide) (fun c_7 => ?_) (fun c_7 => ?_)
    · replace hf := ite_p c_7 hf
      refine lv_aload_n hx hb dX6_done_40 rfl (lv_at hl 1 rfl) ?_
      refine va_get (D := γ.1) (ci := 6) (v := .ref ((a 1) 0)) (C := RX6) (T := TX6) (N := 12) hx hb hU uin6 hown hK hP 0 rfl rfl 0 (by decide) (hU _ U299) (fun _ h9 => h9) rfl dX6_done_41 ?_
      refine lv_aload_n hx hb dX6_done_44 rfl (lv_at hl 1 rfl) ?_
      refine va_get (D := γ.1) (ci := 6) (v := .ref (a 0 5)) (C := RX6) (T := TX6) (N := 12) hx hb hU uin6 hown hK hP 0 rfl rfl 4 (by decide) (hU _ U303) (fun _ h9 => h9) rfl dX6_done_45 ?_
      refine lv_iload_n hx hb dX6_done_48 rfl (lv_at hl 2 rfl) ?_
      obtain ⟨g_8, hf⟩ := gd_of hf
      refine va_aldq (C := RX5) hx hb hK hP 1 2 rfl rfl (inB_vp g_8) dX6_done_49 ?_
      rw [rowF_at a (inB_lt g_8)]
      refine lv_iload_n hx hb dX6_done_50 rfl (lv_at hl 3 rfl) ?_
      obtain ⟨r_9, r0_10, hg_11, hf⟩ := bd2_of hf
      refine kt_VF (As := [.ref ((a (8 + x1.toNatClampNeg)) 0), .int x2]) (rest := []) (st1 := [.int r_9]) (b := (a 1) 0) (wc' := wC γ a so r0_10 r1 r2 (va_up rw (x1.toNatClampNeg) (rw (x1.toNatClampNeg))) (va_up re (x1.toNatClampNeg) (re (x1.toNatClampNeg))) tn se sv sk sd) C0 (c_X3_comeToPass l γ (a 1) (a (8 + x1.toNatClampNeg)) hg_11) (cxV (nA := 2) hts goodU U880 U881 U882 U85 U883 (by decide +kernel) ⟨Nat.le_of_ble_eq_true rfl, Nat.le_of_ble_eq_true rfl⟩) hP (hD _ _ _ _ _ _ _ _ _ _ _) hS hl dX6_done_51 (foc_r0_rw γ a _ _ _ _ _ _ _ _ _ _ _ _ (inB_lt g_8) _ _) 0 3 rfl rfl rfl rfl (Nat.le_of_ble_eq_true rfl) rfl rfl (fun H locs hP hS => ?_)
      rw [up_id, up_id] at hP
      refine lv_pop hx hb dX6_done_54 rfl ?_
      refine lv_aload_n hx hb dX6_done_55 rfl (lv_at hl 1 rfl) ?_
      refine va_get (D := γ.1) (ci := 6) (v := .ref ((a 1) 0)) (C := RX6) (T := TX6) (N := 12) hx hb hU uin6 hown hK hP 0 rfl rfl 0 (by decide) (hU _ U299) (fun _ h9 => h9) rfl dX6_done_56 ?_
      refine va_getN (D := γ.1) (ci := 3) (v := .int (r0_10 0 16)) (C := RX3) (T := TX3) (N := 18) hx hb hU uin3 hown hK hP 4 rfl rfl 16 (by decide) (va_Nw.use rfl (hE.2.2.2.2.2.1 _ NW25)) (fun _ h9 => h9) rfl dX6_done_59 ?_
      obtain ⟨rfl, rfl, rfl⟩ := rt3 hf
      exact kt_iret C0 hP hS dX6_done_62
    · replace hf := ite_n c_7 hf
      refine lv_aload_n hx hb dX6_done_33 rfl (lv_at hl 1 rfl) ?_
      refine lv_bipush (v := 6) hx hb dX6_done_34 (by decide) ?_
      obtain ⟨r_12, so_13, hg_14, hf⟩ := bd2_of hf
      refine kt_V0 (As := [.int (6 : Int32)]) (rest := []) (st1 := [.int r_12]) (b := (a 0) 0) C0 (c_X6_refused l γ a hg_14) (cxV (nA := 1) hts goodU U343 U345 U0 U84 U346 (by decide +kernel) ⟨Nat.le_of_ble_eq_true rfl, Nat.le_of_ble_eq_true rfl⟩) hP (hD _ _ _ _ _ _ _ _ _ _ _) hS hl dX6_done_36 0 6 rfl rfl rfl rfl (Nat.le_of_ble_eq_true rfl) rfl rfl (fun H locs hP hS => ?_)
      obtain ⟨rfl, rfl, rfl⟩ := rt3 hf
      exact kt_iret C0 hP hS dX6_done_39
  · replace hf := ite_n c_3 hf
    refine lv_aload_n hx hb dX6_done_12 rfl (lv_at hl 1 rfl) ?_
    refine lv_iload_n hx hb dX6_done_13 rfl (lv_at hl 0 rfl) ?_
    obtain ⟨r_15, so_16, hg_17, hf⟩ := bd2_of hf
    refine kt_V0 (As := [.int r_1]) (rest := []) (st1 := [.int r_15]) (b := (a 0) 0) C0 (c_X6_refused l γ a hg_17) (cxV (nA := 1) hts goodU U343 U345 U0 U84 U346 (by decide +kernel) ⟨Nat.le_of_ble_eq_true rfl, Nat.le_of_ble_eq_true rfl⟩) hP (hD _ _ _ _ _ _ _ _ _ _ _) hS hl dX6_done_14 0 6 rfl rfl rfl rfl (Nat.le_of_ble_eq_true rfl) rfl rfl (fun H locs hP hS => ?_)
    obtain ⟨rfl, rfl, rfl⟩ := rt3 hf
    exact kt_iret C0 hP hS dX6_done_17
set_option maxHeartbeats 4000000 in
set_option maxRecDepth 100000 in
theorem c_X6_take (l : Launch) (γ : Gm) (a : Nat → Nat → Nat) {so : GS} {r0 : GS} {r1 : GS} {r2 : GS} {rw : Nat → GS} {re : Nat → Nat → Int64} {tn : Option Nat} {se : GS} {sv : GS} {sk : GS} {sd : GS} {x1 : Int32} {rv : Int32} {so_z : GS} {r0_z : GS} (hf : f_X6_take so r0 x1 = some (rv, so_z, r0_z)) : Kt l γ yX6_take (Cond.code yX6_take cX6_take 2 (some .int) :: U) 5 115 [.ref ((a 0) 0), .int x1] (wC γ a so r0 r1 r2 rw re tn se sv sk sd) (some (.int rv)) (wC γ a so_z r0_z r1 r2 rw re tn se sv sk sd) := by
  refine Kt.of (by decide) rfl (Nat.le_of_ble_eq_true rfl) rfl ?_
  intro p e s m below meth c A ls C0 hP hD0 hS hl
  obtain ⟨hx, hb, hml, hown, hts, hr, hlocks, hK, hE, hA⟩ := id C0
  have hU : ∀ w ∈ U, w.before _ s = true := fun w h => hts w (List.mem_cons_of_mem _ h)
  have hD : ∀ (so : GS) (r0 : GS) (r1 : GS) (r2 : GS) (rw : Nat → GS) (re : Nat → Nat → Int64) (tn : Option Nat) (se : GS) (sv : GS) (sk : GS) (sd : GS), va_D A (wC γ a so r0 r1 r2 rw re tn se sv sk sd) := fun _ _ _ _ _ _ _ _ _ _ _ => hD0.fst rfl
  have hl : lv_has ls 2 [(0, .ref ((a 0) 0)), (1, .int x1)] := hl
  unfold f_X6_take at hf
  refine lv_aload_n hx hb dX6_take_0 rfl (lv_at hl 0 rfl) ?_
  refine va_get (D := γ.1) (ci := 6) (v := .ref ((a 1) 0)) (C := RX6) (T := TX6) (N := 12) hx hb hU uin6 hown hK hP 0 rfl rfl 0 (by decide) (hU _ U299) (fun _ h9 => h9) rfl dX6_take_1 ?_
  refine lv_iload_n hx hb dX6_take_4 rfl (lv_at hl 1 rfl) ?_
  obtain ⟨r_1, hg_2, hf⟩ := bd_of hf
  refine kt_VF (As := [.int x1]) (rest := []) (st1 := [.int r_1]) (b := (a 1) 0) (wc' := wC γ a so r0 r1 r2 rw re tn se sv sk sd) C0 (c_X3_isPeak l γ (a 1) hg_2) (cxV (nA := 1) hts goodU U403 U404 U405 U85 U406 (by decide +kernel) ⟨Nat.le_of_ble_eq_true rfl, Nat.le_of_ble_eq_true rfl⟩) hP (hD _ _ _ _ _ _ _ _ _ _ _) hS hl dX6_take_5 (foc_ro (foc_r0 γ a _ _ _ _ _ _ _ _ _ _ _ (fun _ _ => 0))) 0 3 rfl rfl rfl rfl (Nat.le_of_ble_eq_true rfl) rfl rfl (fun H locs hP hS => ?_)
  refine lv_if_ne (tgt := 17) hx hb dX6_take_8 (by decide) (fun c_3 => ?_) (fun c_3 => ?_)
  · replace hf := ite_n c_3 hf
    refine lv_aload_n hx hb dX6_take_17 rfl (lv_at hl 0 rfl) ?_
    refine va_get (D := γ.1) (ci := 6) (v := .ref ((a 1) 0)) (C := RX6) (T := TX6) (N := 12) hx hb hU uin6 hown hK hP 0 rfl rfl 0 (by decide) (hU _ U299) (fun _ h9 => h9) rfl dX6_take_18 ?_
    refine lv_iload_n hx hb dX6_take_21 rfl (lv_at hl 1 rfl) ?_
    obtain ⟨r_4, hg_5, hf⟩ := bd_of hf
    refine kt_VF (As := [.int x1]) (rest := []) (st1 := [.int r_4]) (b := (a 1) 0) (wc' := wC γ a so r0 r1 r2 rw re tn se sv sk sd) C0 (c_X3_isStanding l γ (a 1) hg_5) (cxV (nA := 1) hts goodU U755 U436 U437 U85 U438 (by decide +kernel) ⟨Nat.le_of_ble_eq_true rfl, Nat.le_of_ble_eq_true rfl⟩) hP (hD _ _ _ _ _ _ _ _ _ _ _) hS hl dX6_take_22 (foc_ro (foc_r0 γ a _ _ _ _ _ _ _ _ _ _ _ (fun _ _ => 0))) 0 3 rfl rfl rfl rfl (Nat.le_of_ble_eq_true rfl) rfl rfl (fun H locs hP hS => ?_)
    refine lv_if_ne (tgt := 35) hx hb dX6_take_25 (by decide) (fun c_6 => ?_) (fun c_6 => ?_)
    · replace hf := ite_n c_6 hf
      refine lv_aload_n hx hb dX6_take_35 rfl (lv_at hl 0 rfl) ?_
      refine va_get (D := γ.1) (ci := 6) (v := .ref ((a 1) 0)) (C := RX6) (T := TX6) (N := 12) hx hb hU uin6 hown hK hP 0 rfl rfl 0 (by decide) (hU _ U299) (fun _ h9 => h9) rfl dX6_take_36 ?_
      refine lv_iload_n hx hb dX6_take_39 rfl (lv_at hl 1 rfl) ?_
      obtain ⟨r_7, r0_8, hg_9, hf⟩ := bd2_of hf
      refine kt_VF (As := [.int x1]) (rest := []) (st1 := [.int r_7]) (b := (a 1) 0) (wc' := wC γ a so r0_8 r1 r2 rw re tn se sv sk sd) C0 (c_X3_lose l γ (a 1) hg_9) (cxV (nA := 1) hts goodU U795 U677 U678 U85 U679 (by decide +kernel) ⟨Nat.le_of_ble_eq_true rfl, Nat.le_of_ble_eq_true rfl⟩) hP (hD _ _ _ _ _ _ _ _ _ _ _) hS hl dX6_take_40 (foc_r0 γ a _ _ _ _ _ _ _ _ _ _ _ _) 0 3 rfl rfl rfl rfl (Nat.le_of_ble_eq_true rfl) rfl rfl (fun H locs hP hS => ?_)
      obtain ⟨rfl, rfl, rfl⟩ := rt3 hf
      exact kt_iret C0 hP hS dX6_take_43
    · replace hf := ite_p c_6 hf
      refine lv_aload_n hx hb dX6_take_28 rfl (lv_at hl 0 rfl) ?_
      refine lv_bipush (v := 6) hx hb dX6_take_29 (by decide) ?_
      obtain ⟨r_10, so_11, hg_12, hf⟩ := bd2_of hf
      refine kt_V0 (As := [.int (6 : Int32)]) (rest := []) (st1 := [.int r_10]) (b := (a 0) 0) C0 (c_X6_refused l γ a hg_12) (cxV (nA := 1) hts goodU U343 U345 U0 U84 U346 (by decide +kernel) ⟨Nat.le_of_ble_eq_true rfl, Nat.le_of_ble_eq_true rfl⟩) hP (hD _ _ _ _ _ _ _ _ _ _ _) hS hl dX6_take_31 0 6 rfl rfl rfl rfl (Nat.le_of_ble_eq_true rfl) rfl rfl (fun H locs hP hS => ?_)
      obtain ⟨rfl, rfl, rfl⟩ := rt3 hf
      exact kt_iret C0 hP hS dX6_take_34
  · replace hf := ite_p c_3 hf
    refine lv_aload_n hx hb dX6_take_11 rfl (lv_at hl 0 rfl) ?_
    refine lv_iconst (v := 1) hx hb dX6_take_12 (by decide) ?_
    obtain ⟨r_13, so_14, hg_15, hf⟩ := bd2_of hf
    refine kt_V0 (As := [.int (1 : Int32)]) (rest := []) (st1 := [.int r_13]) (b := (a 0) 0) C0 (c_X6_refused l γ a hg_15) (cxV (nA := 1) hts goodU U343 U345 U0 U84 U346 (by decide +kernel) ⟨Nat.le_of_ble_eq_true rfl, Nat.le_of_ble_eq_true rfl⟩) hP (hD _ _ _ _ _ _ _ _ _ _ _) hS hl dX6_take_13 0 6 rfl rfl rfl rfl (Nat.le_of_ble_eq_true rfl) rfl rfl (fun H locs hP hS => ?_)
    obtain ⟨rfl, rfl, rfl⟩ := rt3 hf
    exact kt_iret C0 hP hS dX6_take_16
set_option maxHeartbeats 4000000 in
set_option maxRecDepth 100000 in
theorem c_X6_years (l : Launch) (γ : Gm) (a : Nat → Nat → Nat) {so : GS} {r0 : GS} {r1 : GS} {r2 : GS} {rw : Nat → GS} {re : Nat → Nat → Int64} {tn : Option Nat} {se : GS} {sv : GS} {sk : GS} {sd : GS} {x1 : Int32} {rv : Int32} {so_z : GS} {r0_z : GS} (hf : f_X6_years so r0 x1 = some (rv, so_z, r0_z)) : Kt l γ yX6_years (Cond.code yX6_years cX6_years 2 (some .int) :: U) 1 21 [.ref ((a 0) 0), .int x1] (wC γ a so r0 r1 r2 rw re tn se sv sk sd) (some (.int rv)) (wC γ a so_z r0_z r1 r2 rw re tn se sv sk sd) := by
  refine Kt.of (by decide) rfl (Nat.le_of_ble_eq_true rfl) rfl ?_
  intro p e s m below meth c A ls C0 hP hD0 hS hl
  obtain ⟨hx, hb, hml, hown, hts, hr, hlocks, hK, hE, hA⟩ := id C0
  have hU : ∀ w ∈ U, w.before _ s = true := fun w h => hts w (List.mem_cons_of_mem _ h)
  have hD : ∀ (so : GS) (r0 : GS) (r1 : GS) (r2 : GS) (rw : Nat → GS) (re : Nat → Nat → Int64) (tn : Option Nat) (se : GS) (sv : GS) (sk : GS) (sd : GS), va_D A (wC γ a so r0 r1 r2 rw re tn se sv sk sd) := fun _ _ _ _ _ _ _ _ _ _ _ => hD0.fst rfl
  have hl : lv_has ls 2 [(0, .ref ((a 0) 0)), (1, .int x1)] := hl
  have J12 : ∀ (so_2 : GS) (r0_3 : GS) (H : Heap) (locs : List Loc) (ls : Array Slot), f_X6_years_J12 so_2 r0_3 = some (rv, so_z, r0_z) → va_P γ.1 vwCl (wC γ a so_2 r0_3 r1 r2 rw re tn se sv sk sd) H → va_S A s.heap H locs → lv_has ls 2 [(0, .ref ((a 0) 0))] → W p l e (rmK 1 21) s m ([.ref ((a 0) 0), .int x1] : List Value).toArray below meth c H locs 0 0 (MQ below (KQ γ A (some (.int rv)) (wC γ a so_z r0_z r1 r2 rw re tn se sv sk sd)) ([.ref ((a 0) 0), .int x1] : List Value).toArray s 0 0 A) (F0 m 12 ls []) := by
    intro so_2 r0_3 H locs ls hf hP hS hl
    unfold f_X6_years_J12 at hf
    refine lv_aload_n hx hb dX6_years_12 rfl (lv_at hl 0 rfl) ?_
    refine lv_bipush (v := 6) hx hb dX6_years_13 (by decide) ?_
    obtain ⟨r_4, so_5, hg_6, hf⟩ := bd2_of hf
    refine kt_V0 (As := [.int (6 : Int32)]) (rest := []) (st1 := [.int r_4]) (b := (a 0) 0) C0 (c_X6_refused l γ a hg_6) (cxV (nA := 1) hts goodU U343 U345 U0 U84 U346 (by decide +kernel) ⟨Nat.le_of_ble_eq_true rfl, Nat.le_of_ble_eq_true rfl⟩) hP (hD _ _ _ _ _ _ _ _ _ _ _) hS hl dX6_years_15 0 6 rfl rfl rfl rfl (Nat.le_of_ble_eq_true rfl) rfl rfl (fun H locs hP hS => ?_)
    obtain ⟨rfl, rfl, rfl⟩ := rt3 hf
    exact kt_iret C0 hP hS dX6_years_18
  unfold f_X6_years at hf
  refine lv_iload_n hx hb dX6_years_0 rfl (lv_at hl 1 rfl) ?_
  refine lv_iconst (v := 1) hx hb dX6_years_1 (by decide) ?_
  refine lv_icmp_lt (tgt := 12) hx hb dX6_years_2 (by decide) (fun c_1 => ?_) (fun c_1 => ?_)
  · replace hf := ite_p c_1 hf
    exact J12 so r0 _ _ _ hf hP hS (lv_sub hl [0] rfl)
  · replace hf := ite_n c_1 hf
    refine lv_iload_n hx hb dX6_years_5 rfl (lv_at hl 1 rfl) ?_
    refine lv_sipush (v := 999) hx hb dX6_years_6 (by decide) ?_
    refine lv_icmp_le (tgt := 19) hx hb dX6_years_9 (by decide) (fun c_7 => ?_) (fun c_7 => ?_)
    · replace hf := ite_p c_7 hf
      refine lv_aload_n hx hb dX6_years_19 rfl (lv_at hl 0 rfl) ?_
      refine va_get (D := γ.1) (ci := 6) (v := .ref ((a 1) 0)) (C := RX6) (T := TX6) (N := 12) hx hb hU uin6 hown hK hP 0 rfl rfl 0 (by decide) (hU _ U299) (fun _ h9 => h9) rfl dX6_years_20 ?_
      refine lv_dup hx hb dX6_years_23 rfl ?_
      refine va_getN (D := γ.1) (ci := 3) (v := .int (r0 0 16)) (C := RX3) (T := TX3) (N := 18) hx hb hU uin3 hown hK hP 4 rfl rfl 16 (by decide) (va_Nw.use rfl (hE.2.2.2.2.2.1 _ NW25)) (fun _ h9 => h9) rfl dX6_years_24 ?_
      refine lv_iload_n hx hb dX6_years_27 rfl (lv_at hl 1 rfl) ?_
      refine lv_iadd hx hb dX6_years_28 ?_
      refine lv_topi (fun u_8 e_u_8 => ?_)
      replace hf := nm_y hf e_u_8
      refine va_putN (D := γ.1) (ci := 3) (v := .int u_8) (ty := .int) (C := RX3) (T := TX3) (N := 18) hx hb hU uin3 tyX3 tyX3_ok nmX3 hown hK hP (hD _ _ _ _ _ _ _ _ _ _ _) hS 4 rfl rfl 16 (by decide) (va_Nw.use rfl (hE.2.2.2.2.2.1 _ NW25)) (fun _ h9 => h9) rfl (by decide +kernel) rfl rfl (Nat.le_of_ble_eq_true rfl) dX6_years_29 (fun H locs hP _ hS => ?_)
      obtain ⟨r0_9, e_r0_9, hf⟩ := nm_of hf
      replace hP : va_P γ.1 vwCl (wC γ a so r0_9 r1 r2 rw re tn se sv sk sd) H := by rw [e_r0_9]; exact hP
      refine lv_aload_n hx hb dX6_years_32 rfl (lv_at hl 0 rfl) ?_
      refine va_get (D := γ.1) (ci := 6) (v := .ref ((a 1) 0)) (C := RX6) (T := TX6) (N := 12) hx hb hU uin6 hown hK hP 0 rfl rfl 0 (by decide) (hU _ U299) (fun _ h9 => h9) rfl dX6_years_33 ?_
      refine va_getN (D := γ.1) (ci := 3) (v := .int (r0_9 0 16)) (C := RX3) (T := TX3) (N := 18) hx hb hU uin3 hown hK hP 4 rfl rfl 16 (by decide) (va_Nw.use rfl (hE.2.2.2.2.2.1 _ NW25)) (fun _ h9 => h9) rfl dX6_years_36 ?_
      obtain ⟨rfl, rfl, rfl⟩ := rt3 hf
      exact kt_iret C0 hP hS dX6_years_39
    · replace hf := ite_n c_7 hf
      exact J12 so r0 _ _ _ hf hP hS (lv_sub hl [0] rfl)
set_option maxHeartbeats 4000000 in
set_option maxRecDepth 100000 in
theorem c_X6_ages (l : Launch) (γ : Gm) (a : Nat → Nat → Nat) {so : GS} {r0 : GS} {r1 : GS} {r2 : GS} {rw : Nat → GS} {re : Nat → Nat → Int64} {tn : Option Nat} {se : GS} {sv : GS} {sk : GS} {sd : GS} {x1 : Int32} {rv : Int32} {so_z : GS} {r0_z : GS} (hf : f_X6_ages so r0 x1 = some (rv, so_z, r0_z)) : Kt l γ yX6_ages (Cond.code yX6_ages cX6_ages 4 (some .int) :: U) 5 115 [.ref ((a 0) 0), .int x1] (wC γ a so r0 r1 r2 rw re tn se sv sk sd) (some (.int rv)) (wC γ a so_z r0_z r1 r2 rw re tn se sv sk sd) := by
  refine Kt.of (by decide) rfl (Nat.le_of_ble_eq_true rfl) rfl ?_
  intro p e s m below meth c A ls C0 hP hD0 hS hl
  obtain ⟨hx, hb, hml, hown, hts, hr, hlocks, hK, hE, hA⟩ := id C0
  have hU : ∀ w ∈ U, w.before _ s = true := fun w h => hts w (List.mem_cons_of_mem _ h)
  have hD : ∀ (so : GS) (r0 : GS) (r1 : GS) (r2 : GS) (rw : Nat → GS) (re : Nat → Nat → Int64) (tn : Option Nat) (se : GS) (sv : GS) (sk : GS) (sd : GS), va_D A (wC γ a so r0 r1 r2 rw re tn se sv sk sd) := fun _ _ _ _ _ _ _ _ _ _ _ => hD0.fst rfl
  have hl : lv_has ls 4 [(0, .ref ((a 0) 0)), (1, .int x1)] := hl
  have J12 : ∀ (so_2 : GS) (r0_3 : GS) (H : Heap) (locs : List Loc) (ls : Array Slot), f_X6_ages_J12 so_2 r0_3 = some (rv, so_z, r0_z) → va_P γ.1 vwCl (wC γ a so_2 r0_3 r1 r2 rw re tn se sv sk sd) H → va_S A s.heap H locs → lv_has ls 4 [(0, .ref ((a 0) 0))] → W p l e (rmK 5 115) s m ([.ref ((a 0) 0), .int x1] : List Value).toArray below meth c H locs 0 0 (MQ below (KQ γ A (some (.int rv)) (wC γ a so_z r0_z r1 r2 rw re tn se sv sk sd)) ([.ref ((a 0) 0), .int x1] : List Value).toArray s 0 0 A) (F0 m 12 ls []) := by
    intro so_2 r0_3 H locs ls hf hP hS hl
    unfold f_X6_ages_J12 at hf
    refine lv_aload_n hx hb dX6_ages_12 rfl (lv_at hl 0 rfl) ?_
    refine lv_bipush (v := 6) hx hb dX6_ages_13 (by decide) ?_
    obtain ⟨r_4, so_5, hg_6, hf⟩ := bd2_of hf
    refine kt_V0 (As := [.int (6 : Int32)]) (rest := []) (st1 := [.int r_4]) (b := (a 0) 0) C0 (c_X6_refused l γ a hg_6) (cxV (nA := 1) hts goodU U343 U345 U0 U84 U346 (by decide +kernel) ⟨Nat.le_of_ble_eq_true rfl, Nat.le_of_ble_eq_true rfl⟩) hP (hD _ _ _ _ _ _ _ _ _ _ _) hS hl dX6_ages_15 0 6 rfl rfl rfl rfl (Nat.le_of_ble_eq_true rfl) rfl rfl (fun H locs hP hS => ?_)
    obtain ⟨rfl, rfl, rfl⟩ := rt3 hf
    exact kt_iret C0 hP hS dX6_ages_18
  have J85 : ∀ (x1_18 : Int32) (x2_19 : Int32) (x3_20 : Int32) (so_21 : GS) (r0_22 : GS) (K23 : Int32 → Int32 → GS → Option (Int32 × GS × GS)) (HK23 : ∀ (z2 : Int32) (z3 : Int32) (zr0 : GS) (H : Heap) (locs : List Loc) (ls : Array Slot), K23 z2 z3 zr0 = some (rv, so_z, r0_z) → va_P γ.1 vwCl (wC γ a so_21 zr0 r1 r2 rw re tn se sv sk sd) H → va_S A s.heap H locs → lv_has ls 4 [(0, .ref ((a 0) 0)), (1, .int x1_18), (2, .int z2), (3, .int z3)] → W p l e (rmK 5 115) s m ([.ref ((a 0) 0), .int x1] : List Value).toArray below meth c H locs 0 0 (MQ below (KQ γ A (some (.int rv)) (wC γ a so_z r0_z r1 r2 rw re tn se sv sk sd)) ([.ref ((a 0) 0), .int x1] : List Value).toArray s 0 0 A) (F0 m 23 ls [])) (H : Heap) (locs : List Loc) (ls : Array Slot), f_X6_ages_J85 x2_19 x3_20 r0_22 K23 = some (rv, so_z, r0_z) → va_P γ.1 vwCl (wC γ a so_21 r0_22 r1 r2 rw re tn se sv sk sd) H → va_S A s.heap H locs → lv_has ls 4 [(0, .ref ((a 0) 0)), (1, .int x1_18), (2, .int x2_19), (3, .int x3_20)] → W p l e (rmK 5 115) s m ([.ref ((a 0) 0), .int x1] : List Value).toArray below meth c H locs 0 0 (MQ below (KQ γ A (some (.int rv)) (wC γ a so_z r0_z r1 r2 rw re tn se sv sk sd)) ([.ref ((a 0) 0), .int x1] : List Value).toArray s 0 0 A) (F0 m 85 ls []) := by
    intro x1_18 x2_19 x3_20 so_21 r0_22 K23 HK23 H locs ls hf hP hS hl
    unfold f_X6_ages_J85 at hf
    refine lv_aload_n hx hb dX6_ages_85 rfl (lv_at hl 0 rfl) ?_
    refine va_get (D := γ.1) (ci := 6) (v := .ref ((a 1) 0)) (C := RX6) (T := TX6) (N := 12) hx hb hU uin6 hown hK hP 0 rfl rfl 0 (by decide) (hU _ U299) (fun _ h9 => h9) rfl dX6_ages_86 ?_
    refine lv_dup hx hb dX6_ages_89 rfl ?_
    refine va_getN (D := γ.1) (ci := 3) (v := .int (r0_22 0 16)) (C := RX3) (T := TX3) (N := 18) hx hb hU uin3 hown hK hP 4 rfl rfl 16 (by decide) (va_Nw.use rfl (hE.2.2.2.2.2.1 _ NW25)) (fun _ h9 => h9) rfl dX6_ages_90 ?_
    refine lv_iconst (v := 1) hx hb dX6_ages_93 (by decide) ?_
    refine lv_iadd hx hb dX6_ages_94 ?_
    refine lv_topi (fun u_23 e_u_23 => ?_)
    replace hf := nm_y hf e_u_23
    refine va_putN (D := γ.1) (ci := 3) (v := .int u_23) (ty := .int) (C := RX3) (T := TX3) (N := 18) hx hb hU uin3 tyX3 tyX3_ok nmX3 hown hK hP (hD _ _ _ _ _ _ _ _ _ _ _) hS 4 rfl rfl 16 (by decide) (va_Nw.use rfl (hE.2.2.2.2.2.1 _ NW25)) (fun _ h9 => h9) rfl (by decide +kernel) rfl rfl (Nat.le_of_ble_eq_true rfl) dX6_ages_95 (fun H locs hP _ hS => ?_)
    obtain ⟨r0_24, e_r0_24, hf⟩ := nm_of hf
    replace hP : va_P γ.1 vwCl (wC γ a so_21 r0_24 r1 r2 rw re tn se sv sk sd) H := by rw [e_r0_24]; exact hP
    obtain ⟨x3_25, e_x3_25⟩ : ∃ y : Int32, y = x3_20 + (1 : Int32) := ⟨_, rfl⟩
    replace hf := nm_y hf e_x3_25
    refine lv_iinc (v := x3_25) (lv' := [(3, .int x3_25), (0, .ref ((a 0) 0)), (1, .int x1_18), (2, .int x2_19)]) hx hb dX6_ages_98 hl (k := 3) rfl (by rw [e_x3_25]; rfl) (by decide) rfl (fun ls hl => ?_)
    refine lv_goto (tgt := 23) hx hb dX6_ages_101 (by decide) ?_
    exact HK23 x2_19 x3_25 r0_24 _ _ _ hf hP hS (lv_sub hl [1, 2, 3, 0] rfl)
  have L23 : ∀ (x1_8 : Int32) (so_11 : GS) (n : Nat) (x2_9 : Int32) (x3_10 : Int32) (r0_12 : GS) (H : Heap) (locs : List Loc) (ls : Array Slot), f_X6_ages_L23 x1_8 so_11 n x2_9 x3_10 r0_12 = some (rv, so_z, r0_z) → va_P γ.1 vwCl (wC γ a so_11 r0_12 r1 r2 rw re tn se sv sk sd) H → va_S A s.heap H locs → lv_has ls 4 [(0, .ref ((a 0) 0)), (1, .int x1_8), (2, .int x2_9), (3, .int x3_10)] → W p l e (rmK 5 115) s m ([.ref ((a 0) 0), .int x1] : List Value).toArray below meth c H locs 0 0 (MQ below (KQ γ A (some (.int rv)) (wC γ a so_z r0_z r1 r2 rw re tn se sv sk sd)) ([.ref ((a 0) 0), .int x1] : List Value).toArray s 0 0 A) (F0 m 23 ls []) := by
    intro x1_8 so_11
    intro n
    induction n with
    | zero =>
      intro x2_9 x3_10 r0_12 H locs ls hf
      have hf : none = some _ := hf
      cases hf
    | succ n ih =>
      intro x2_9 x3_10 r0_12 H locs ls hf hP hS hl
      rw [f_X6_ages_L23.eq_2] at hf
      refine lv_iload_n hx hb dX6_ages_23 rfl (lv_at hl 3 rfl) ?_
      refine lv_iload_n hx hb dX6_ages_24 rfl (lv_at hl 1 rfl) ?_
      refine lv_icmp_ge (tgt := 104) hx hb dX6_ages_25 (by decide) (fun c_13 => ?_) (fun c_13 => ?_)
      · replace hf := ite_p c_13 hf
        refine lv_iload_n hx hb dX6_ages_104 rfl (lv_at hl 2 rfl) ?_
        obtain ⟨rfl, rfl, rfl⟩ := rt3 hf
        exact kt_iret C0 hP hS dX6_ages_105
      · replace hf := ite_n c_13 hf
        refine lv_aload_n hx hb dX6_ages_28 rfl (lv_at hl 0 rfl) ?_
        refine va_get (D := γ.1) (ci := 6) (v := .ref ((a 1) 0)) (C := RX6) (T := TX6) (N := 12) hx hb hU uin6 hown hK hP 0 rfl rfl 0 (by decide) (hU _ U299) (fun _ h9 => h9) rfl dX6_ages_29 ?_
        refine lv_bipush (v := 20) hx hb dX6_ages_32 (by decide) ?_
        obtain ⟨r_14, r0_15, hg_16, hf⟩ := bd2_of hf
        refine kt_VF (As := [.int (20 : Int32)]) (rest := []) (st1 := [.int r_14]) (b := (a 1) 0) (wc' := wC γ a so_11 r0_15 r1 r2 rw re tn se sv sk sd) C0 (c_X3_draw l γ (a 1) hg_16) (cxV (nA := 1) hts goodU U902 U903 U904 U85 U905 (by decide +kernel) ⟨Nat.le_of_ble_eq_true rfl, Nat.le_of_ble_eq_true rfl⟩) hP (hD _ _ _ _ _ _ _ _ _ _ _) hS hl dX6_ages_34 (foc_r0 γ a _ _ _ _ _ _ _ _ _ _ _ _) 0 3 rfl rfl rfl rfl (Nat.le_of_ble_eq_true rfl) rfl rfl (fun H locs hP hS => ?_)
        refine lv_if_ne (tgt := 85) hx hb dX6_ages_37 (by decide) (fun c_17 => ?_) (fun c_17 => ?_)
        · replace hf := ite_n c_17 hf
          exact J85 x1_8 x2_9 x3_10 so_11 r0_15 _ ih _ _ _ hf hP hS (lv_sub hl [0, 1, 2, 3] rfl)
        · replace hf := ite_p c_17 hf
          refine lv_aload_n hx hb dX6_ages_40 rfl (lv_at hl 0 rfl) ?_
          refine va_get (D := γ.1) (ci := 6) (v := .ref ((a 1) 0)) (C := RX6) (T := TX6) (N := 12) hx hb hU uin6 hown hK hP 0 rfl rfl 0 (by decide) (hU _ U299) (fun _ h9 => h9) rfl dX6_ages_41 ?_
          refine va_getN (D := γ.1) (ci := 3) (v := .int (r0_15 0 1)) (C := RX3) (T := TX3) (N := 18) hx hb hU uin3 hown hK hP 4 rfl rfl 1 (by decide) (va_Nw.use rfl (hE.2.2.2.2.2.1 _ NW6)) (fun _ h9 => h9) rfl dX6_ages_44 ?_
          refine lv_if_eq (tgt := 85) hx hb dX6_ages_47 (by decide) (fun c_26 => ?_) (fun c_26 => ?_)
          · replace hf := ite_p c_26 hf
            exact J85 x1_8 x2_9 x3_10 so_11 r0_15 _ ih _ _ _ hf hP hS (lv_sub hl [0, 1, 2, 3] rfl)
          · replace hf := ite_n c_26 hf
            refine lv_aload_n hx hb dX6_ages_50 rfl (lv_at hl 0 rfl) ?_
            refine va_get (D := γ.1) (ci := 6) (v := .ref ((a 1) 0)) (C := RX6) (T := TX6) (N := 12) hx hb hU uin6 hown hK hP 0 rfl rfl 0 (by decide) (hU _ U299) (fun _ h9 => h9) rfl dX6_ages_51 ?_
            refine lv_aload_n hx hb dX6_ages_54 rfl (lv_at hl 0 rfl) ?_
            refine va_get (D := γ.1) (ci := 6) (v := .ref ((a 1) 0)) (C := RX6) (T := TX6) (N := 12) hx hb hU uin6 hown hK hP 0 rfl rfl 0 (by decide) (hU _ U299) (fun _ h9 => h9) rfl dX6_ages_55 ?_
            refine lv_aload_n hx hb dX6_ages_58 rfl (lv_at hl 0 rfl) ?_
            refine va_get (D := γ.1) (ci := 6) (v := .ref ((a 1) 0)) (C := RX6) (T := TX6) (N := 12) hx hb hU uin6 hown hK hP 0 rfl rfl 0 (by decide) (hU _ U299) (fun _ h9 => h9) rfl dX6_ages_59 ?_
            refine lv_aload_n hx hb dX6_ages_62 rfl (lv_at hl 0 rfl) ?_
            refine va_get (D := γ.1) (ci := 6) (v := .ref ((a 1) 0)) (C := RX6) (T := TX6) (N := 12) hx hb hU uin6 hown hK hP 0 rfl rfl 0 (by decide) (hU _ U299) (fun _ h9 => h9) rfl dX6_ages_63 ?_
            refine va_getN (D := γ.1) (ci := 3) (v := .int (r0_15 0 1)) (C := RX3) (T := TX3) (N := 18) hx hb hU uin3 hown hK hP 4 rfl rfl 1 (by decide) (va_Nw.use rfl (hE.2.2.2.2.2.1 _ NW6)) (fun _ h9 => h9) rfl dX6_ages_66 ?_
            obtain ⟨r_27, hg_28, hf⟩ := bd_of hf
            refine kt_SF (As := [.int (r0_15 0 1)]) (rest := [.ref ((a 1) 0), .ref ((a 1) 0), .ref ((a 1) 0)]) (st1 := [.int r_27, .ref ((a 1) 0), .ref ((a 1) 0), .ref ((a 1) 0)]) (wc' := wC γ a so_11 r0_15 r1 r2 rw re tn se sv sk sd) C0 (c_J6_bitCount_0f7a4 l γ hg_28) (cxS (nA := 1) hts goodU U765 U766 U98 U767 (by decide +kernel) ⟨Nat.le_of_ble_eq_true rfl, Nat.le_of_ble_eq_true rfl⟩) hP (hD _ _ _ _ _ _ _ _ _ _ _) hS hl dX6_ages_69 foc_nil rfl (Nat.le_of_ble_eq_true rfl) rfl rfl (fun H locs hP hS => ?_)
            obtain ⟨r_29, r0_30, hg_31, hf⟩ := bd2_of hf
            refine kt_VF (As := [.int r_27]) (rest := [.ref ((a 1) 0), .ref ((a 1) 0)]) (st1 := [.int r_29, .ref ((a 1) 0), .ref ((a 1) 0)]) (b := (a 1) 0) (wc' := wC γ a so_11 r0_30 r1 r2 rw re tn se sv sk sd) C0 (c_X3_draw l γ (a 1) hg_31) (cxV (nA := 1) hts goodU U902 U903 U904 U85 U905 (by decide +kernel) ⟨Nat.le_of_ble_eq_true rfl, Nat.le_of_ble_eq_true rfl⟩) hP (hD _ _ _ _ _ _ _ _ _ _ _) hS hl dX6_ages_72 (foc_r0 γ a _ _ _ _ _ _ _ _ _ _ _ _) 0 3 rfl rfl rfl rfl (Nat.le_of_ble_eq_true rfl) rfl rfl (fun H locs hP hS => ?_)
            obtain ⟨r_32, hg_33, hf⟩ := bd_of hf
            refine kt_VF (As := [.int r_29]) (rest := [.ref ((a 1) 0)]) (st1 := [.int r_32, .ref ((a 1) 0)]) (b := (a 1) 0) (wc' := wC γ a so_11 r0_30 r1 r2 rw re tn se sv sk sd) C0 (c_X3_standingAt l γ (a 1) hg_33) (cxV (nA := 1) hts goodU U907 U908 U909 U85 U910 (by decide +kernel) ⟨Nat.le_of_ble_eq_true rfl, Nat.le_of_ble_eq_true rfl⟩) hP (hD _ _ _ _ _ _ _ _ _ _ _) hS hl dX6_ages_75 (foc_ro (foc_r0 γ a _ _ _ _ _ _ _ _ _ _ _ (fun _ _ => 0))) 0 3 rfl rfl rfl rfl (Nat.le_of_ble_eq_true rfl) rfl rfl (fun H locs hP hS => ?_)
            obtain ⟨r_34, r0_35, hg_36, hf⟩ := bd2_of hf
            refine kt_VF (As := [.int r_32]) (rest := []) (st1 := [.int r_34]) (b := (a 1) 0) (wc' := wC γ a so_11 r0_35 r1 r2 rw re tn se sv sk sd) C0 (c_X3_lose l γ (a 1) hg_36) (cxV (nA := 1) hts goodU U795 U677 U678 U85 U679 (by decide +kernel) ⟨Nat.le_of_ble_eq_true rfl, Nat.le_of_ble_eq_true rfl⟩) hP (hD _ _ _ _ _ _ _ _ _ _ _) hS hl dX6_ages_78 (foc_r0 γ a _ _ _ _ _ _ _ _ _ _ _ _) 0 3 rfl rfl rfl rfl (Nat.le_of_ble_eq_true rfl) rfl rfl (fun H locs hP hS => ?_)
            refine lv_pop hx hb dX6_ages_81 rfl ?_
            obtain ⟨x2_37, e_x2_37⟩ : ∃ y : Int32, y = x2_9 + (1 : Int32) := ⟨_, rfl⟩
            replace hf := nm_y hf e_x2_37
            refine lv_iinc (v := x2_37) (lv' := [(2, .int x2_37), (0, .ref ((a 0) 0)), (1, .int x1_8), (3, .int x3_10)]) hx hb dX6_ages_82 hl (k := 2) rfl (by rw [e_x2_37]; rfl) (by decide) rfl (fun ls hl => ?_)
            exact J85 x1_8 x2_37 x3_10 so_11 r0_35 _ ih _ _ _ hf hP hS (lv_sub hl [1, 2, 0, 3] rfl)
  unfold f_X6_ages at hf
  refine lv_iload_n hx hb dX6_ages_0 rfl (lv_at hl 1 rfl) ?_
  refine lv_iconst (v := 1) hx hb dX6_ages_1 (by decide) ?_
  refine lv_icmp_lt (tgt := 12) hx hb dX6_ages_2 (by decide) (fun c_1 => ?_) (fun c_1 => ?_)
  · replace hf := ite_p c_1 hf
    exact J12 so r0 _ _ _ hf hP hS (lv_sub hl [0] rfl)
  · replace hf := ite_n c_1 hf
    refine lv_iload_n hx hb dX6_ages_5 rfl (lv_at hl 1 rfl) ?_
    refine lv_sipush (v := 200) hx hb dX6_ages_6 (by decide) ?_
    refine lv_icmp_le (tgt := 19) hx hb dX6_ages_9 (by decide) (fun c_7 => ?_) (fun c_7 => ?_)
    · replace hf := ite_p c_7 hf
      refine lv_iconst (v := 0) hx hb dX6_ages_19 (by decide) ?_
      refine lv_istore_n (lv' := [(2, .int (0 : Int32)), (0, .ref ((a 0) 0)), (1, .int x1)]) hx hb dX6_ages_20 rfl hl (by decide) rfl (fun ls hl => ?_)
      refine lv_iconst (v := 0) hx hb dX6_ages_21 (by decide) ?_
      refine lv_istore_n (lv' := [(3, .int (0 : Int32)), (2, .int (0 : Int32)), (0, .ref ((a 0) 0)), (1, .int x1)]) hx hb dX6_ages_22 rfl hl (by decide) rfl (fun ls hl => ?_)
      exact L23 x1 so FU (0 : Int32) (0 : Int32) r0 _ _ _ hf hP hS (lv_sub hl [2, 3, 1, 0] rfl)
    · replace hf := ite_n c_7 hf
      exact J12 so r0 _ _ _ hf hP hS (lv_sub hl [0] rfl)
set_option maxHeartbeats 4000000 in
set_option maxRecDepth 100000 in
theorem c_X6_seed (l : Launch) (γ : Gm) (a : Nat → Nat → Nat) {so : GS} {r0 : GS} {r1 : GS} {r2 : GS} {rw : Nat → GS} {re : Nat → Nat → Int64} {tn : Option Nat} {se : GS} {sv : GS} {sk : GS} {sd : GS} {x1 : Int32} {rv : Int32} {r0_z : GS} (hf : f_X6_seed r0 x1 = some (rv, r0_z)) : Kt l γ yX6_seed (Cond.code yX6_seed cX6_seed 3 (some .int) :: U) 0 0 [.ref ((a 0) 0), .int x1] (wC γ a so r0 r1 r2 rw re tn se sv sk sd) (some (.int rv)) (wC γ a so r0_z r1 r2 rw re tn se sv sk sd) := by
  refine Kt.of (by decide) rfl (Nat.le_of_ble_eq_true rfl) rfl ?_
  intro p e s m below meth c A ls C0 hP hD0 hS hl
  obtain ⟨hx, hb, hml, hown, hts, hr, hlocks, hK, hE, hA⟩ := id C0
  have hU : ∀ w ∈ U, w.before _ s = true := fun w h => hts w (List.mem_cons_of_mem _ h)
  have hD : ∀ (so : GS) (r0 : GS) (r1 : GS) (r2 : GS) (rw : Nat → GS) (re : Nat → Nat → Int64) (tn : Option Nat) (se : GS) (sv : GS) (sk : GS) (sd : GS), va_D A (wC γ a so r0 r1 r2 rw re tn se sv sk sd) := fun _ _ _ _ _ _ _ _ _ _ _ => hD0.fst rfl
  have hl : lv_has ls 3 [(0, .ref ((a 0) 0)), (1, .int x1)] := hl
  unfold f_X6_seed at hf
  refine lv_aload_n hx hb dX6_seed_0 rfl (lv_at hl 0 rfl) ?_
  refine va_get (D := γ.1) (ci := 6) (v := .ref ((a 1) 0)) (C := RX6) (T := TX6) (N := 12) hx hb hU uin6 hown hK hP 0 rfl rfl 0 (by decide) (hU _ U299) (fun _ h9 => h9) rfl dX6_seed_1 ?_
  refine va_getN (D := γ.1) (ci := 3) (v := .int (r0 0 17)) (C := RX3) (T := TX3) (N := 18) hx hb hU uin3 hown hK hP 4 rfl rfl 17 (by decide) (va_Nw.use rfl (hE.2.2.2.2.2.1 _ NW27)) (fun _ h9 => h9) rfl dX6_seed_4 ?_
  refine lv_topi (fun u_1 e_u_1 => ?_)
  replace hf := nm_y hf e_u_1
  refine lv_istore_n (lv' := [(2, .int u_1), (0, .ref ((a 0) 0)), (1, .int x1)]) hx hb dX6_seed_7 rfl hl (by decide) rfl (fun ls hl => ?_)
  refine lv_aload_n hx hb dX6_seed_8 rfl (lv_at hl 1 rfl) ?_
  refine va_get (D := γ.1) (ci := 6) (v := .ref ((a 1) 0)) (C := RX6) (T := TX6) (N := 12) hx hb hU uin6 hown hK hP 0 rfl rfl 0 (by decide) (hU _ U299) (fun _ h9 => h9) rfl dX6_seed_9 ?_
  refine lv_iload_n hx hb dX6_seed_12 rfl (lv_at hl 2 rfl) ?_
  refine va_putN (D := γ.1) (ci := 3) (v := .int x1) (ty := .int) (C := RX3) (T := TX3) (N := 18) hx hb hU uin3 tyX3 tyX3_ok nmX3 hown hK hP (hD _ _ _ _ _ _ _ _ _ _ _) hS 4 rfl rfl 17 (by decide) (va_Nw.use rfl (hE.2.2.2.2.2.1 _ NW27)) (fun _ h9 => h9) rfl (by decide +kernel) rfl rfl (Nat.le_of_ble_eq_true rfl) dX6_seed_13 (fun H locs hP _ hS => ?_)
  obtain ⟨r0_2, e_r0_2, hf⟩ := nm_of hf
  replace hP : va_P γ.1 vwCl (wC γ a so r0_2 r1 r2 rw re tn se sv sk sd) H := by rw [e_r0_2]; exact hP
  refine lv_iload_n hx hb dX6_seed_16 rfl (lv_at hl 0 rfl) ?_
  obtain ⟨rfl, rfl⟩ := rt2 hf
  exact kt_iret C0 hP hS dX6_seed_17
set_option maxHeartbeats 4000000 in
set_option maxRecDepth 100000 in
theorem c_X6_act (l : Launch) (γ : Gm) (a : Nat → Nat → Nat) {so : GS} {r0 : GS} {r1 : GS} {r2 : GS} {rw : Nat → GS} {re : Nat → Nat → Int64} {tn : Option Nat} {se : GS} {sv : GS} {sk : GS} {sd : GS} {x1 : Int32} {x2 : Int32} {x3 : Int32} {rv : Int32} {sv_z : GS} (hf : f_X6_act r0 sv x1 x2 x3 = some (rv, sv_z)) : Kt l γ yX6_act (Cond.code yX6_act cX6_act 4 (some .int) :: U) 93 2774 [.ref ((a 0) 0), .int x1, .int x2, .int x3] (wC γ a so r0 r1 r2 rw re tn se sv sk sd) (some (.int rv)) (wC γ a so r0 r1 r2 rw re tn se sv_z sk sd) := by
  refine Kt.of (by decide) rfl (Nat.le_of_ble_eq_true rfl) rfl ?_
  intro p e s m below meth c A ls C0 hP hD0 hS hl
  obtain ⟨hx, hb, hml, hown, hts, hr, hlocks, hK, hE, hA⟩ := id C0
  have hU : ∀ w ∈ U, w.before _ s = true := fun w h => hts w (List.mem_cons_of_mem _ h)
  have hD : ∀ (so : GS) (r0 : GS) (r1 : GS) (r2 : GS) (rw : Nat → GS) (re : Nat → Nat → Int64) (tn : Option Nat) (se : GS) (sv : GS) (sk : GS) (sd : GS), va_D A (wC γ a so r0 r1 r2 rw re tn se sv sk sd) := fun _ _ _ _ _ _ _ _ _ _ _ => hD0.fst rfl
  have hl : lv_has ls 4 [(0, .ref ((a 0) 0)), (1, .int x1), (2, .int x2), (3, .int x3)] := hl
  unfold f_X6_act at hf
  refine lv_aload_n hx hb dX6_act_0 rfl (lv_at hl 0 rfl) ?_
  refine va_get (D := γ.1) (ci := 6) (v := .ref ((a 5) 0)) (C := RX6) (T := TX6) (N := 12) hx hb hU uin6 hown hK hP 0 rfl rfl 9 (by decide) (hU _ U308) (fun _ h9 => h9) rfl dX6_act_1 ?_
  obtain ⟨sv_1, hg_2, hf⟩ := bd_of hf
  refine kt_VF (As := []) (rest := []) (st1 := []) (b := (a 5) 0) (wc' := wC γ a so r0 r1 r2 rw re tn se sv_1 sk sd) C0 (c_X1_forget l γ (a 5) hg_2) (cxV (nA := 0) hts goodU U919 U920 U921 U87 U922 (by decide +kernel) ⟨Nat.le_of_ble_eq_true rfl, Nat.le_of_ble_eq_true rfl⟩) hP (hD _ _ _ _ _ _ _ _ _ _ _) hS hl dX6_act_4 (foc_sv γ a _ _ _ _ _ _ _ _ _ _ _ _) 0 1 rfl rfl rfl rfl (Nat.le_of_ble_eq_true rfl) rfl rfl (fun H locs hP hS => ?_)
  refine lv_aload_n hx hb dX6_act_7 rfl (lv_at hl 0 rfl) ?_
  refine va_get (D := γ.1) (ci := 6) (v := .ref ((a 1) 0)) (C := RX6) (T := TX6) (N := 12) hx hb hU uin6 hown hK hP 0 rfl rfl 0 (by decide) (hU _ U299) (fun _ h9 => h9) rfl dX6_act_8 ?_
  refine lv_iload_n hx hb dX6_act_11 rfl (lv_at hl 1 rfl) ?_
  obtain ⟨r_3, hg_4, hf⟩ := bd_of hf
  refine kt_VF (As := [.int x1]) (rest := []) (st1 := [.int r_3]) (b := (a 1) 0) (wc' := wC γ a so r0 r1 r2 rw re tn se sv_1 sk sd) C0 (c_X3_isPeak l γ (a 1) hg_4) (cxV (nA := 1) hts goodU U403 U404 U405 U85 U406 (by decide +kernel) ⟨Nat.le_of_ble_eq_true rfl, Nat.le_of_ble_eq_true rfl⟩) hP (hD _ _ _ _ _ _ _ _ _ _ _) hS hl dX6_act_12 (foc_ro (foc_r0 γ a _ _ _ _ _ _ _ _ _ _ _ (fun _ _ => 0))) 0 3 rfl rfl rfl rfl (Nat.le_of_ble_eq_true rfl) rfl rfl (fun H locs hP hS => ?_)
  refine lv_if_eq (tgt := 27) hx hb dX6_act_15 (by decide) (fun c_5 => ?_) (fun c_5 => ?_)
  · replace hf := ite_p c_5 hf
    refine lv_iconst (v := 0) hx hb dX6_act_27 (by decide) ?_
    obtain ⟨rfl, rfl⟩ := rt2 hf
    exact kt_iret C0 hP hS dX6_act_28
  · replace hf := ite_n c_5 hf
    refine lv_iload_n hx hb dX6_act_18 rfl (lv_at hl 2 rfl) ?_
    refine lv_if_lt (tgt := 27) hx hb dX6_act_19 (by decide) (fun c_6 => ?_) (fun c_6 => ?_)
    · replace hf := ite_p c_6 hf
      refine lv_iconst (v := 0) hx hb dX6_act_27 (by decide) ?_
      obtain ⟨rfl, rfl⟩ := rt2 hf
      exact kt_iret C0 hP hS dX6_act_28
    · replace hf := ite_n c_6 hf
      refine lv_iload_n hx hb dX6_act_22 rfl (lv_at hl 2 rfl) ?_
      refine lv_iconst (v := 3) hx hb dX6_act_23 (by decide) ?_
      refine lv_icmp_lt (tgt := 29) hx hb dX6_act_24 (by decide) (fun c_7 => ?_) (fun c_7 => ?_)
      · replace hf := ite_p c_7 hf
        refine lv_aload_n hx hb dX6_act_29 rfl (lv_at hl 0 rfl) ?_
        refine va_get (D := γ.1) (ci := 6) (v := .ref ((a 5) 0)) (C := RX6) (T := TX6) (N := 12) hx hb hU uin6 hown hK hP 0 rfl rfl 9 (by decide) (hU _ U308) (fun _ h9 => h9) rfl dX6_act_30 ?_
        refine lv_aload_n hx hb dX6_act_33 rfl (lv_at hl 0 rfl) ?_
        refine va_get (D := γ.1) (ci := 6) (v := .ref ((a 1) 0)) (C := RX6) (T := TX6) (N := 12) hx hb hU uin6 hown hK hP 0 rfl rfl 0 (by decide) (hU _ U299) (fun _ h9 => h9) rfl dX6_act_34 ?_
        refine lv_iload_n hx hb dX6_act_37 rfl (lv_at hl 1 rfl) ?_
        refine lv_iload_n hx hb dX6_act_38 rfl (lv_at hl 2 rfl) ?_
        refine lv_iload_n hx hb dX6_act_39 rfl (lv_at hl 3 rfl) ?_
        obtain ⟨r_8, sv_9, hg_10, hf⟩ := bd2_of hf
        refine kt_VF (As := [.ref ((a 1) 0), .int x1, .int x2, .int x3]) (rest := []) (st1 := [.int r_8]) (b := (a 5) 0) (wc' := wC γ a so r0 r1 r2 rw re tn se sv_9 sk sd) C0 (c_X1_begin l γ (a 5) (a 1) hg_10) (cxV (nA := 4) hts goodU U923 U924 U925 U87 U926 (by decide +kernel) ⟨Nat.le_of_ble_eq_true rfl, Nat.le_of_ble_eq_true rfl⟩) hP (hD _ _ _ _ _ _ _ _ _ _ _) hS hl dX6_act_40 (foc_sv_r0 γ a _ _ _ _ _ _ _ _ _ _ _ _ _) 0 1 rfl rfl rfl rfl (Nat.le_of_ble_eq_true rfl) rfl rfl (fun H locs hP hS => ?_)
        obtain ⟨rfl, rfl⟩ := rt2 hf
        exact kt_iret C0 hP hS dX6_act_43
      · replace hf := ite_n c_7 hf
        refine lv_iconst (v := 0) hx hb dX6_act_27 (by decide) ?_
        obtain ⟨rfl, rfl⟩ := rt2 hf
        exact kt_iret C0 hP hS dX6_act_28
set_option maxHeartbeats 4000000 in
set_option maxRecDepth 100000 in
theorem c_X6_trace (l : Launch) (γ : Gm) (a : Nat → Nat → Nat) {so : GS} {r0 : GS} {r1 : GS} {r2 : GS} {rw : Nat → GS} {re : Nat → Nat → Int64} {tn : Option Nat} {se : GS} {sv : GS} {sk : GS} {sd : GS} {x1 : Int32} {rv : Int32} (hf : f_X6_trace sv x1 = some rv) : Kt l γ yX6_trace (Cond.code yX6_trace cX6_trace 2 (some .int) :: U) 0 0 [.ref ((a 0) 0), .int x1] (wC γ a so r0 r1 r2 rw re tn se sv sk sd) (some (.int rv)) (wC γ a so r0 r1 r2 rw re tn se sv sk sd) := by
  refine Kt.of (by decide) rfl (Nat.le_of_ble_eq_true rfl) rfl ?_
  intro p e s m below meth c A ls C0 hP hD0 hS hl
  obtain ⟨hx, hb, hml, hown, hts, hr, hlocks, hK, hE, hA⟩ := id C0
  have hU : ∀ w ∈ U, w.before _ s = true := fun w h => hts w (List.mem_cons_of_mem _ h)
  have hD : ∀ (so : GS) (r0 : GS) (r1 : GS) (r2 : GS) (rw : Nat → GS) (re : Nat → Nat → Int64) (tn : Option Nat) (se : GS) (sv : GS) (sk : GS) (sd : GS), va_D A (wC γ a so r0 r1 r2 rw re tn se sv sk sd) := fun _ _ _ _ _ _ _ _ _ _ _ => hD0.fst rfl
  have hl : lv_has ls 2 [(0, .ref ((a 0) 0)), (1, .int x1)] := hl
  unfold f_X6_trace at hf
  refine lv_iload_n hx hb dX6_trace_0 rfl (lv_at hl 1 rfl) ?_
  refine lv_if_lt (tgt := 33) hx hb dX6_trace_1 (by decide) (fun c_1 => ?_) (fun c_1 => ?_)
  · replace hf := ite_p c_1 hf
    refine lv_iconst (v := -1) hx hb dX6_trace_33 (by decide) ?_
    obtain rfl := Option.some.inj hf
    exact kt_iret C0 hP hS dX6_trace_34
  · replace hf := ite_n c_1 hf
    refine lv_iload_n hx hb dX6_trace_4 rfl (lv_at hl 1 rfl) ?_
    refine lv_aload_n hx hb dX6_trace_5 rfl (lv_at hl 0 rfl) ?_
    refine va_get (D := γ.1) (ci := 6) (v := .ref ((a 5) 0)) (C := RX6) (T := TX6) (N := 12) hx hb hU uin6 hown hK hP 0 rfl rfl 9 (by decide) (hU _ U308) (fun _ h9 => h9) rfl dX6_trace_6 ?_
    refine va_getN (D := γ.1) (ci := 1) (v := .int (sv 0 0)) (C := RX1) (T := TX1) (N := 5) hx hb hU uin1 hown hK hP 45 rfl rfl 0 (by decide) (va_Nw.use rfl (hE.2.2.2.2.2.1 _ NW31)) (fun _ h9 => h9) rfl dX6_trace_9 ?_
    refine lv_icmp_ge (tgt := 33) hx hb dX6_trace_12 (by decide) (fun c_2 => ?_) (fun c_2 => ?_)
    · replace hf := ite_p c_2 hf
      refine lv_iconst (v := -1) hx hb dX6_trace_33 (by decide) ?_
      obtain rfl := Option.some.inj hf
      exact kt_iret C0 hP hS dX6_trace_34
    · replace hf := ite_n c_2 hf
      refine lv_iload_n hx hb dX6_trace_15 rfl (lv_at hl 1 rfl) ?_
      refine lv_bipush (v := 20) hx hb dX6_trace_16 (by decide) ?_
      refine lv_icmp_ge (tgt := 33) hx hb dX6_trace_18 (by decide) (fun c_3 => ?_) (fun c_3 => ?_)
      · replace hf := ite_p c_3 hf
        refine lv_iconst (v := -1) hx hb dX6_trace_33 (by decide) ?_
        obtain rfl := Option.some.inj hf
        exact kt_iret C0 hP hS dX6_trace_34
      · replace hf := ite_n c_3 hf
        refine lv_aload_n hx hb dX6_trace_21 rfl (lv_at hl 0 rfl) ?_
        refine va_get (D := γ.1) (ci := 6) (v := .ref ((a 5) 0)) (C := RX6) (T := TX6) (N := 12) hx hb hU uin6 hown hK hP 0 rfl rfl 9 (by decide) (hU _ U308) (fun _ h9 => h9) rfl dX6_trace_22 ?_
        refine va_getN (D := γ.1) (ci := 1) (v := .ref ((a 5) 2)) (C := RX1) (T := TX1) (N := 5) hx hb hU uin1 hown hK hP 45 rfl rfl 1 (by decide) (va_Nw.use rfl (hE.2.2.2.2.2.1 _ NW32)) (fun _ h9 => h9) rfl dX6_trace_25 ?_
        refine lv_iload_n hx hb dX6_trace_28 rfl (lv_at hl 1 rfl) ?_
        obtain ⟨g_4, hf⟩ := gd_of hf
        refine va_iald hx hb hK hP 46 0 rfl rfl (inB_vp g_4) dX6_trace_29 ?_
        refine lv_goto (tgt := 34) hx hb dX6_trace_30 (by decide) ?_
        obtain rfl := Option.some.inj hf
        exact kt_iret C0 hP hS dX6_trace_34
set_option maxHeartbeats 4000000 in
set_option maxRecDepth 100000 in
theorem c_X6_image (l : Launch) (γ : Gm) (a : Nat → Nat → Nat) {so : GS} {r0 : GS} {r1 : GS} {r2 : GS} {rw : Nat → GS} {re : Nat → Nat → Int64} {tn : Option Nat} {se : GS} {sv : GS} {sk : GS} {sd : GS} {rv : Int32} {so_z : GS} {r1_z : GS} (hf : f_X6_image so r0 r1 = some (rv, so_z, r1_z)) : Kt l γ yX6_image (Cond.code yX6_image cX6_image 1 (some .int) :: U) 2 81 [.ref ((a 0) 0)] (wC γ a so r0 r1 r2 rw re tn se sv sk sd) (some (.int rv)) (wC γ a so_z r0 r1_z r2 rw re tn se sv sk sd) := by
  refine Kt.of (by decide) rfl (Nat.le_of_ble_eq_true rfl) rfl ?_
  intro p e s m below meth c A ls C0 hP hD0 hS hl
  obtain ⟨hx, hb, hml, hown, hts, hr, hlocks, hK, hE, hA⟩ := id C0
  have hU : ∀ w ∈ U, w.before _ s = true := fun w h => hts w (List.mem_cons_of_mem _ h)
  have hD : ∀ (so : GS) (r0 : GS) (r1 : GS) (r2 : GS) (rw : Nat → GS) (re : Nat → Nat → Int64) (tn : Option Nat) (se : GS) (sv : GS) (sk : GS) (sd : GS), va_D A (wC γ a so r0 r1 r2 rw re tn se sv sk sd) := fun _ _ _ _ _ _ _ _ _ _ _ => hD0.fst rfl
  have hl : lv_has ls 1 [(0, .ref ((a 0) 0))] := hl
  unfold f_X6_image at hf
  refine lv_aload_n hx hb dX6_image_0 rfl (lv_at hl 0 rfl) ?_
  refine va_get (D := γ.1) (ci := 6) (v := .ref ((a 2) 0)) (C := RX6) (T := TX6) (N := 12) hx hb hU uin6 hown hK hP 0 rfl rfl 1 (by decide) (hU _ U300) (fun _ h9 => h9) rfl dX6_image_1 ?_
  refine lv_aload_n hx hb dX6_image_4 rfl (lv_at hl 0 rfl) ?_
  refine va_get (D := γ.1) (ci := 6) (v := .ref ((a 1) 0)) (C := RX6) (T := TX6) (N := 12) hx hb hU uin6 hown hK hP 0 rfl rfl 0 (by decide) (hU _ U299) (fun _ h9 => h9) rfl dX6_image_5 ?_
  obtain ⟨r1_1, hg_2, hf⟩ := bd_of hf
  refine kt_VF (As := [.ref ((a 1) 0)]) (rest := []) (st1 := []) (b := (a 2) 0) (wc' := wC γ a so r0 r1_1 r2 rw re tn se sv sk sd) C0 (c_X3_become l γ (a 2) (a 1) hg_2) (cxV (nA := 1) hts goodU U549 U550 U551 U85 U552 (by decide +kernel) ⟨Nat.le_of_ble_eq_true rfl, Nat.le_of_ble_eq_true rfl⟩) hP (hD _ _ _ _ _ _ _ _ _ _ _) hS hl dX6_image_8 (foc_r1_r0 γ a _ _ _ _ _ _ _ _ _ _ _ _ _) 0 3 rfl rfl rfl rfl (Nat.le_of_ble_eq_true rfl) rfl rfl (fun H locs hP hS => ?_)
  refine lv_aload_n hx hb dX6_image_11 rfl (lv_at hl 0 rfl) ?_
  refine lv_iconst (v := 1) hx hb dX6_image_12 (by decide) ?_
  refine va_put (D := γ.1) (ci := 6) (v := .int (1 : Int32)) (ty := .boolean) (C := RX6) (T := TX6) (N := 12) hx hb hU uin6 tyX6 tyX6_ok nmX6 hown hK hP (hD _ _ _ _ _ _ _ _ _ _ _) hS 0 rfl rfl 3 (by decide) (hU _ U302) (fun _ h9 => h9) rfl (by decide +kernel) rfl rfl (Nat.le_of_ble_eq_true rfl) dX6_image_13 (fun H locs hP _ hS => ?_)
  obtain ⟨so_3, e_so_3, hf⟩ := nm_of hf
  replace hP : va_P γ.1 vwCl (wC γ a so_3 r0 r1_1 r2 rw re tn se sv sk sd) H := by rw [e_so_3]; exact hP
  refine lv_aload_n hx hb dX6_image_16 rfl (lv_at hl 0 rfl) ?_
  refine va_get (D := γ.1) (ci := 6) (v := .ref ((a 1) 0)) (C := RX6) (T := TX6) (N := 12) hx hb hU uin6 hown hK hP 0 rfl rfl 0 (by decide) (hU _ U299) (fun _ h9 => h9) rfl dX6_image_17 ?_
  refine va_getN (D := γ.1) (ci := 3) (v := .int (r0 0 0)) (C := RX3) (T := TX3) (N := 18) hx hb hU uin3 hown hK hP 4 rfl rfl 0 (by decide) (va_Nw.use rfl (hE.2.2.2.2.2.1 _ NW4)) (fun _ h9 => h9) rfl dX6_image_20 ?_
  obtain ⟨rfl, rfl, rfl⟩ := rt3 hf
  exact kt_iret C0 hP hS dX6_image_23
set_option maxHeartbeats 4000000 in
set_option maxRecDepth 100000 in
theorem c_X6_restore (l : Launch) (γ : Gm) (a : Nat → Nat → Nat) {so : GS} {r0 : GS} {r1 : GS} {r2 : GS} {rw : Nat → GS} {re : Nat → Nat → Int64} {tn : Option Nat} {se : GS} {sv : GS} {sk : GS} {sd : GS} {rv : Int32} {so_z : GS} {r0_z : GS} (hf : f_X6_restore so r0 r1 = some (rv, so_z, r0_z)) : Kt l γ yX6_restore (Cond.code yX6_restore cX6_restore 2 (some .int) :: U) 2 81 [.ref ((a 0) 0)] (wC γ a so r0 r1 r2 rw re tn se sv sk sd) (some (.int rv)) (wC γ a so_z r0_z r1 r2 rw re tn se sv sk sd) := by
  refine Kt.of (by decide) rfl (Nat.le_of_ble_eq_true rfl) rfl ?_
  intro p e s m below meth c A ls C0 hP hD0 hS hl
  obtain ⟨hx, hb, hml, hown, hts, hr, hlocks, hK, hE, hA⟩ := id C0
  have hU : ∀ w ∈ U, w.before _ s = true := fun w h => hts w (List.mem_cons_of_mem _ h)
  have hD : ∀ (so : GS) (r0 : GS) (r1 : GS) (r2 : GS) (rw : Nat → GS) (re : Nat → Nat → Int64) (tn : Option Nat) (se : GS) (sv : GS) (sk : GS) (sd : GS), va_D A (wC γ a so r0 r1 r2 rw re tn se sv sk sd) := fun _ _ _ _ _ _ _ _ _ _ _ => hD0.fst rfl
  have hl : lv_has ls 2 [(0, .ref ((a 0) 0))] := hl
  have L27 : ∀ (r0_6 : GS) (n : Nat) (x1_4 : Int32) (so_5 : GS) (H : Heap) (locs : List Loc) (ls : Array Slot), f_X6_restore_L27 r0_6 n x1_4 so_5 = some (rv, so_z, r0_z) → va_P γ.1 vwCl (wC γ a so_5 r0_6 r1 r2 rw re tn se sv sk sd) H → va_S A s.heap H locs → lv_has ls 2 [(0, .ref ((a 0) 0)), (1, .int x1_4)] → W p l e (rmK 2 81) s m ([.ref ((a 0) 0)] : List Value).toArray below meth c H locs 0 0 (MQ below (KQ γ A (some (.int rv)) (wC γ a so_z r0_z r1 r2 rw re tn se sv sk sd)) ([.ref ((a 0) 0)] : List Value).toArray s 0 0 A) (F0 m 27 ls []) := by
    intro r0_6
    intro n
    induction n with
    | zero =>
      intro x1_4 so_5 H locs ls hf
      have hf : none = some _ := hf
      cases hf
    | succ n ih =>
      intro x1_4 so_5 H locs ls hf hP hS hl
      rw [f_X6_restore_L27.eq_2] at hf
      refine lv_iload_n hx hb dX6_restore_27 rfl (lv_at hl 1 rfl) ?_
      refine lv_bipush (v := 8) hx hb dX6_restore_28 (by decide) ?_
      refine lv_icmp_ge (tgt := 73) hx hb dX6_restore_30 (by decide) (fun c_7 => ?_) (fun c_7 => ?_)
      · replace hf := ite_p c_7 hf
        refine lv_aload_n hx hb dX6_restore_73 rfl (lv_at hl 0 rfl) ?_
        refine va_get (D := γ.1) (ci := 6) (v := .ref ((a 1) 0)) (C := RX6) (T := TX6) (N := 12) hx hb hU uin6 hown hK hP 0 rfl rfl 0 (by decide) (hU _ U299) (fun _ h9 => h9) rfl dX6_restore_74 ?_
        refine va_getN (D := γ.1) (ci := 3) (v := .int (r0_6 0 0)) (C := RX3) (T := TX3) (N := 18) hx hb hU uin3 hown hK hP 4 rfl rfl 0 (by decide) (va_Nw.use rfl (hE.2.2.2.2.2.1 _ NW4)) (fun _ h9 => h9) rfl dX6_restore_77 ?_
        obtain ⟨rfl, rfl, rfl⟩ := rt3 hf
        exact kt_iret C0 hP hS dX6_restore_80
      · replace hf := ite_n c_7 hf
        refine lv_aload_n hx hb dX6_restore_33 rfl (lv_at hl 0 rfl) ?_
        refine va_get (D := γ.1) (ci := 6) (v := .ref ((a 0) 6)) (C := RX6) (T := TX6) (N := 12) hx hb hU uin6 hown hK hP 0 rfl rfl 5 (by decide) (hU _ U304) (fun _ h9 => h9) rfl dX6_restore_34 ?_
        refine lv_iload_n hx hb dX6_restore_37 rfl (lv_at hl 1 rfl) ?_
        obtain ⟨g_8, hf⟩ := gd_of hf
        refine va_iald hx hb hK hP 2 0 rfl rfl (inB_vp g_8) dX6_restore_38 ?_
        refine lv_bipush (v := 100) hx hb dX6_restore_39 (by decide) ?_
        refine lv_icmp_ge (tgt := 67) hx hb dX6_restore_41 (by decide) (fun c_9 => ?_) (fun c_9 => ?_)
        · replace hf := ite_p c_9 hf
          obtain ⟨x1_10, e_x1_10⟩ : ∃ y : Int32, y = x1_4 + (1 : Int32) := ⟨_, rfl⟩
          replace hf := nm_y hf e_x1_10
          refine lv_iinc (v := x1_10) (lv' := [(1, .int x1_10), (0, .ref ((a 0) 0))]) hx hb dX6_restore_67 hl (k := 1) rfl (by rw [e_x1_10]; rfl) (by decide) rfl (fun ls hl => ?_)
          refine lv_goto (tgt := 27) hx hb dX6_restore_70 (by decide) ?_
          exact ih x1_10 so_5 _ _ _ hf hP hS (lv_sub hl [1, 0] rfl)
        · replace hf := ite_n c_9 hf
          refine lv_aload_n hx hb dX6_restore_44 rfl (lv_at hl 0 rfl) ?_
          refine va_get (D := γ.1) (ci := 6) (v := .ref ((a 0) 6)) (C := RX6) (T := TX6) (N := 12) hx hb hU uin6 hown hK hP 0 rfl rfl 5 (by decide) (hU _ U304) (fun _ h9 => h9) rfl dX6_restore_45 ?_
          refine lv_iload_n hx hb dX6_restore_48 rfl (lv_at hl 1 rfl) ?_
          obtain ⟨g_11, hf⟩ := gd_of hf
          refine va_iald hx hb hK hP 2 0 rfl rfl (inB_vp g_11) dX6_restore_49 ?_
          refine lv_aload_n hx hb dX6_restore_50 rfl (lv_at hl 0 rfl) ?_
          refine va_get (D := γ.1) (ci := 6) (v := .ref ((a 1) 0)) (C := RX6) (T := TX6) (N := 12) hx hb hU uin6 hown hK hP 0 rfl rfl 0 (by decide) (hU _ U299) (fun _ h9 => h9) rfl dX6_restore_51 ?_
          refine va_getN (D := γ.1) (ci := 3) (v := .int (r0_6 0 0)) (C := RX3) (T := TX3) (N := 18) hx hb hU uin3 hown hK hP 4 rfl rfl 0 (by decide) (va_Nw.use rfl (hE.2.2.2.2.2.1 _ NW4)) (fun _ h9 => h9) rfl dX6_restore_54 ?_
          refine lv_icmp_lt (tgt := 67) hx hb dX6_restore_57 (by decide) (fun c_12 => ?_) (fun c_12 => ?_)
          · replace hf := ite_p c_12 hf
            obtain ⟨x1_13, e_x1_13⟩ : ∃ y : Int32, y = x1_4 + (1 : Int32) := ⟨_, rfl⟩
            replace hf := nm_y hf e_x1_13
            refine lv_iinc (v := x1_13) (lv' := [(1, .int x1_13), (0, .ref ((a 0) 0))]) hx hb dX6_restore_67 hl (k := 1) rfl (by rw [e_x1_13]; rfl) (by decide) rfl (fun ls hl => ?_)
            refine lv_goto (tgt := 27) hx hb dX6_restore_70 (by decide) ?_
            exact ih x1_13 so_5 _ _ _ hf hP hS (lv_sub hl [1, 0] rfl)
          · replace hf := ite_n c_12 hf
            refine lv_aload_n hx hb dX6_restore_60 rfl (lv_at hl 0 rfl) ?_
            refine va_get (D := γ.1) (ci := 6) (v := .ref ((a 0) 6)) (C := RX6) (T := TX6) (N := 12) hx hb hU uin6 hown hK hP 0 rfl rfl 5 (by decide) (hU _ U304) (fun _ h9 => h9) rfl dX6_restore_61 ?_
            refine lv_iload_n hx hb dX6_restore_64 rfl (lv_at hl 1 rfl) ?_
            refine lv_iconst (v := -1) hx hb dX6_restore_65 (by decide) ?_
            obtain ⟨g_14, hf⟩ := gd_of hf
            refine va_iast hx hb hK hP (hD _ _ _ _ _ _ _ _ _ _ _) hS 2 0 rfl rfl (inB_vp g_14) dX6_restore_66 (fun H locs hP _ hS => ?_)
            obtain ⟨so_15, e_so_15, hf⟩ := nm_of hf
            replace hP : va_P γ.1 vwCl (wC γ a so_15 r0_6 r1 r2 rw re tn se sv sk sd) H := by rw [e_so_15]; exact hP
            obtain ⟨x1_16, e_x1_16⟩ : ∃ y : Int32, y = x1_4 + (1 : Int32) := ⟨_, rfl⟩
            replace hf := nm_y hf e_x1_16
            refine lv_iinc (v := x1_16) (lv' := [(1, .int x1_16), (0, .ref ((a 0) 0))]) hx hb dX6_restore_67 hl (k := 1) rfl (by rw [e_x1_16]; rfl) (by decide) rfl (fun ls hl => ?_)
            refine lv_goto (tgt := 27) hx hb dX6_restore_70 (by decide) ?_
            exact ih x1_16 so_15 _ _ _ hf hP hS (lv_sub hl [1, 0] rfl)
  unfold f_X6_restore at hf
  refine lv_aload_n hx hb dX6_restore_0 rfl (lv_at hl 0 rfl) ?_
  refine va_get (D := γ.1) (ci := 6) (v := .int (so 0 3)) (C := RX6) (T := TX6) (N := 12) hx hb hU uin6 hown hK hP 0 rfl rfl 3 (by decide) (hU _ U302) (fun _ h9 => h9) rfl dX6_restore_1 ?_
  refine lv_if_ne (tgt := 14) hx hb dX6_restore_4 (by decide) (fun c_1 => ?_) (fun c_1 => ?_)
  · replace hf := ite_n c_1 hf
    refine lv_aload_n hx hb dX6_restore_14 rfl (lv_at hl 0 rfl) ?_
    refine va_get (D := γ.1) (ci := 6) (v := .ref ((a 1) 0)) (C := RX6) (T := TX6) (N := 12) hx hb hU uin6 hown hK hP 0 rfl rfl 0 (by decide) (hU _ U299) (fun _ h9 => h9) rfl dX6_restore_15 ?_
    refine lv_aload_n hx hb dX6_restore_18 rfl (lv_at hl 0 rfl) ?_
    refine va_get (D := γ.1) (ci := 6) (v := .ref ((a 2) 0)) (C := RX6) (T := TX6) (N := 12) hx hb hU uin6 hown hK hP 0 rfl rfl 1 (by decide) (hU _ U300) (fun _ h9 => h9) rfl dX6_restore_19 ?_
    obtain ⟨r0_2, hg_3, hf⟩ := bd_of hf
    refine kt_VF (As := [.ref ((a 2) 0)]) (rest := []) (st1 := []) (b := (a 1) 0) (wc' := wC γ a so r0_2 r1 r2 rw re tn se sv sk sd) C0 (c_X3_become l γ (a 1) (a 2) hg_3) (cxV (nA := 1) hts goodU U549 U550 U551 U85 U552 (by decide +kernel) ⟨Nat.le_of_ble_eq_true rfl, Nat.le_of_ble_eq_true rfl⟩) hP (hD _ _ _ _ _ _ _ _ _ _ _) hS hl dX6_restore_22 (foc_r0_r1 γ a _ _ _ _ _ _ _ _ _ _ _ _ _) 0 3 rfl rfl rfl rfl (Nat.le_of_ble_eq_true rfl) rfl rfl (fun H locs hP hS => ?_)
    refine lv_iconst (v := 0) hx hb dX6_restore_25 (by decide) ?_
    refine lv_istore_n (lv' := [(1, .int (0 : Int32)), (0, .ref ((a 0) 0))]) hx hb dX6_restore_26 rfl hl (by decide) rfl (fun ls hl => ?_)
    exact L27 r0_2 FU (0 : Int32) so _ _ _ hf hP hS (lv_sub hl [1, 0] rfl)
  · replace hf := ite_p c_1 hf
    refine lv_aload_n hx hb dX6_restore_7 rfl (lv_at hl 0 rfl) ?_
    refine lv_bipush (v := 6) hx hb dX6_restore_8 (by decide) ?_
    obtain ⟨r_17, so_18, hg_19, hf⟩ := bd2_of hf
    refine kt_V0 (As := [.int (6 : Int32)]) (rest := []) (st1 := [.int r_17]) (b := (a 0) 0) C0 (c_X6_refused l γ a hg_19) (cxV (nA := 1) hts goodU U343 U345 U0 U84 U346 (by decide +kernel) ⟨Nat.le_of_ble_eq_true rfl, Nat.le_of_ble_eq_true rfl⟩) hP (hD _ _ _ _ _ _ _ _ _ _ _) hS hl dX6_restore_10 0 6 rfl rfl rfl rfl (Nat.le_of_ble_eq_true rfl) rfl rfl (fun H locs hP hS => ?_)
    obtain ⟨rfl, rfl, rfl⟩ := rt3 hf
    exact kt_iret C0 hP hS dX6_restore_13
