set_option maxHeartbeats 4000000 in
set_option maxRecDepth 100000 in
theorem c_X6_isShelf (l : Launch) (γ : Gm) {x1 : Int32} {rv : Int32} (hf : f_X6_isShelf x1 = some rv) : Kt l γ yX6_isShelf (Cond.code yX6_isShelf cX6_isShelf 1 (some .boolean) :: U) 0 0 [.int x1] ([]) (some (.int rv)) ([]) := by
  refine Kt.of (by decide) rfl (Nat.le_of_ble_eq_true rfl) rfl ?_
  intro p e s m below meth c A ls C0 hP hD0 hS hl
  obtain ⟨hx, hb, hml, hown, hts, hr, hlocks, hK, hE, hA⟩ := id C0
  have hU : ∀ w ∈ U, w.before _ s = true := fun w h => hts w (List.mem_cons_of_mem _ h)
  have hD := hD0
  have hl : lv_has ls 1 [(0, .int x1)] := hl
  unfold f_X6_isShelf at hf
  refine lv_iload_n hx hb dX6_isShelf_0 rfl (lv_at hl 0 rfl) ?_
  refine lv_if_lt (tgt := 14) hx hb dX6_isShelf_1 (by decide) (fun c_1 => ?_) (fun c_1 => ?_)
  · replace hf := ite_p c_1 hf
    refine lv_iconst (v := 0) hx hb dX6_isShelf_14 (by decide) ?_
    obtain rfl := Option.some.inj hf
    exact kt_zret C0 (by decide) hP hS dX6_isShelf_15
  · replace hf := ite_n c_1 hf
    refine lv_iload_n hx hb dX6_isShelf_4 rfl (lv_at hl 0 rfl) ?_
    refine lv_bipush (v := 8) hx hb dX6_isShelf_5 (by decide) ?_
    refine lv_icmp_ge (tgt := 14) hx hb dX6_isShelf_7 (by decide) (fun c_2 => ?_) (fun c_2 => ?_)
    · replace hf := ite_p c_2 hf
      refine lv_iconst (v := 0) hx hb dX6_isShelf_14 (by decide) ?_
      obtain rfl := Option.some.inj hf
      exact kt_zret C0 (by decide) hP hS dX6_isShelf_15
    · replace hf := ite_n c_2 hf
      refine lv_iconst (v := 1) hx hb dX6_isShelf_10 (by decide) ?_
      refine lv_goto (tgt := 15) hx hb dX6_isShelf_11 (by decide) ?_
      obtain rfl := Option.some.inj hf
      exact kt_zret C0 (by decide) hP hS dX6_isShelf_15
set_option maxHeartbeats 4000000 in
set_option maxRecDepth 100000 in
theorem c_X6_refused (l : Launch) (γ : Gm) (a : Nat → Nat → Nat) {so : GS} {r0 : GS} {r1 : GS} {r2 : GS} {rw : Nat → GS} {re : Nat → Nat → Int64} {tn : Option Nat} {se : GS} {sv : GS} {sk : GS} {sd : GS} {x1 : Int32} {rv : Int32} {so_z : GS} (hf : f_X6_refused so x1 = some (rv, so_z)) : Kt l γ yX6_refused (Cond.code yX6_refused cX6_refused 2 (some .int) :: U) 0 0 [.ref ((a 0) 0), .int x1] (wC γ a so r0 r1 r2 rw re tn se sv sk sd) (some (.int rv)) (wC γ a so_z r0 r1 r2 rw re tn se sv sk sd) := by
  refine Kt.of (by decide) rfl (Nat.le_of_ble_eq_true rfl) rfl ?_
  intro p e s m below meth c A ls C0 hP hD0 hS hl
  obtain ⟨hx, hb, hml, hown, hts, hr, hlocks, hK, hE, hA⟩ := id C0
  have hU : ∀ w ∈ U, w.before _ s = true := fun w h => hts w (List.mem_cons_of_mem _ h)
  have hD : ∀ (so : GS) (r0 : GS) (r1 : GS) (r2 : GS) (rw : Nat → GS) (re : Nat → Nat → Int64) (tn : Option Nat) (se : GS) (sv : GS) (sk : GS) (sd : GS), va_D A (wC γ a so r0 r1 r2 rw re tn se sv sk sd) := fun _ _ _ _ _ _ _ _ _ _ _ => hD0.fst rfl
  have hl : lv_has ls 2 [(0, .ref ((a 0) 0)), (1, .int x1)] := hl
  unfold f_X6_refused at hf
  refine lv_aload_n hx hb dX6_refused_0 rfl (lv_at hl 0 rfl) ?_
  refine va_get (D := γ.1) (ci := 6) (v := .ref ((a 0) 7)) (C := RX6) (T := TX6) (N := 12) hx hb hU uin6 hown hK hP 0 rfl rfl 6 (by decide) (hU _ U305) (fun _ h9 => h9) rfl dX6_refused_1 ?_
  refine lv_iload_n hx hb dX6_refused_4 rfl (lv_at hl 1 rfl) ?_
  refine lv_dup2_11 hx hb dX6_refused_5 rfl rfl ?_
  obtain ⟨g_1, hf⟩ := gd_of hf
  refine va_iald hx hb hK hP 3 0 rfl rfl (inB_vp g_1) dX6_refused_6 ?_
  refine lv_iconst (v := 1) hx hb dX6_refused_7 (by decide) ?_
  refine lv_iadd hx hb dX6_refused_8 ?_
  refine lv_topi (fun u_2 e_u_2 => ?_)
  replace hf := nm_y hf e_u_2
  obtain ⟨g_3, hf⟩ := gd_of hf
  refine va_iast hx hb hK hP (hD _ _ _ _ _ _ _ _ _ _ _) hS 3 0 rfl rfl (inB_vp g_3) dX6_refused_9 (fun H locs hP _ hS => ?_)
  obtain ⟨so_4, e_so_4, hf⟩ := nm_of hf
  replace hP : va_P γ.1 vwCl (wC γ a so_4 r0 r1 r2 rw re tn se sv sk sd) H := by rw [e_so_4]; exact hP
  refine lv_iload_n hx hb dX6_refused_10 rfl (lv_at hl 1 rfl) ?_
  refine lv_ineg hx hb dX6_refused_11 ?_
  obtain ⟨rfl, rfl⟩ := rt2 hf
  exact kt_iret C0 hP hS dX6_refused_12
set_option maxHeartbeats 4000000 in
set_option maxRecDepth 100000 in
theorem c_X6_row (l : Launch) (γ : Gm) (a : Nat → Nat → Nat) {so : GS} {r0 : GS} {r1 : GS} {r2 : GS} {rw : Nat → GS} {re : Nat → Nat → Int64} {tn : Option Nat} {se : GS} {sv : GS} {sk : GS} {sd : GS} {x1 : Int32} {x2 : Int32} {x3 : Int32} {rv : Int32} {so_z : GS} {rw_z : Nat → GS} {re_z : Nat → Nat → Int64} (hf : f_X6_row so rw re x1 x2 x3 = some (rv, so_z, rw_z, re_z)) : Kt l γ yX6_row (Cond.code yX6_row cX6_row 4 (some .int) :: U) 1 23 [.ref ((a 0) 0), .int x1, .int x2, .int x3] (wC γ a so r0 r1 r2 rw re tn se sv sk sd) (some (.int rv)) (wC γ a so_z r0 r1 r2 rw_z re_z tn se sv sk sd) := by
  refine Kt.of (by decide) rfl (Nat.le_of_ble_eq_true rfl) rfl ?_
  intro p e s m below meth c A ls C0 hP hD0 hS hl
  obtain ⟨hx, hb, hml, hown, hts, hr, hlocks, hK, hE, hA⟩ := id C0
  have hU : ∀ w ∈ U, w.before _ s = true := fun w h => hts w (List.mem_cons_of_mem _ h)
  have hD : ∀ (so : GS) (r0 : GS) (r1 : GS) (r2 : GS) (rw : Nat → GS) (re : Nat → Nat → Int64) (tn : Option Nat) (se : GS) (sv : GS) (sk : GS) (sd : GS), va_D A (wC γ a so r0 r1 r2 rw re tn se sv sk sd) := fun _ _ _ _ _ _ _ _ _ _ _ => hD0.fst rfl
  have hl : lv_has ls 4 [(0, .ref ((a 0) 0)), (1, .int x1), (2, .int x2), (3, .int x3)] := hl
  have J32 : ∀ (so_6 : GS) (rw_7 : Nat → GS) (re_8 : Nat → Nat → Int64) (H : Heap) (locs : List Loc) (ls : Array Slot), f_X6_row_J32 so_6 rw_7 re_8 = some (rv, so_z, rw_z, re_z) → va_P γ.1 vwCl (wC γ a so_6 r0 r1 r2 rw_7 re_8 tn se sv sk sd) H → va_S A s.heap H locs → lv_has ls 4 [(0, .ref ((a 0) 0))] → W p l e (rmK 1 23) s m ([.ref ((a 0) 0), .int x1, .int x2, .int x3] : List Value).toArray below meth c H locs 0 0 (MQ below (KQ γ A (some (.int rv)) (wC γ a so_z r0 r1 r2 rw_z re_z tn se sv sk sd)) ([.ref ((a 0) 0), .int x1, .int x2, .int x3] : List Value).toArray s 0 0 A) (F0 m 32 ls []) := by
    intro so_6 rw_7 re_8 H locs ls hf hP hS hl
    unfold f_X6_row_J32 at hf
    refine lv_aload_n hx hb dX6_row_32 rfl (lv_at hl 0 rfl) ?_
    refine lv_bipush (v := 6) hx hb dX6_row_33 (by decide) ?_
    obtain ⟨r_9, so_10, hg_11, hf⟩ := bd2_of hf
    refine kt_V0 (As := [.int (6 : Int32)]) (rest := []) (st1 := [.int r_9]) (b := (a 0) 0) C0 (c_X6_refused l γ a hg_11) (cxV (nA := 1) hts goodU U343 U345 U0 U84 U346 (by decide +kernel) ⟨Nat.le_of_ble_eq_true rfl, Nat.le_of_ble_eq_true rfl⟩) hP (hD _ _ _ _ _ _ _ _ _ _ _) hS hl dX6_row_35 0 6 rfl rfl rfl rfl (Nat.le_of_ble_eq_true rfl) rfl rfl (fun H locs hP hS => ?_)
    obtain ⟨rfl, rfl, rfl, rfl⟩ := rt4 hf
    exact kt_iret C0 hP hS dX6_row_38
  unfold f_X6_row at hf
  refine lv_iload_n hx hb dX6_row_0 rfl (lv_at hl 1 rfl) ?_
  obtain ⟨r_1, hg_2, hf⟩ := bd_of hf
  refine kt_SF (As := [.int x1]) (rest := []) (st1 := [.int r_1]) (wc' := wC γ a so r0 r1 r2 rw re tn se sv sk sd) C0 (c_X6_isShelf l γ hg_2) (cxS (nA := 1) hts goodU U340 U341 U84 U342 (by decide +kernel) ⟨Nat.le_of_ble_eq_true rfl, Nat.le_of_ble_eq_true rfl⟩) hP (hD _ _ _ _ _ _ _ _ _ _ _) hS hl dX6_row_1 foc_nil rfl (Nat.le_of_ble_eq_true rfl) rfl rfl (fun H locs hP hS => ?_)
  refine lv_if_ne (tgt := 13) hx hb dX6_row_4 (by decide) (fun c_3 => ?_) (fun c_3 => ?_)
  · replace hf := ite_n c_3 hf
    refine lv_iload_n hx hb dX6_row_13 rfl (lv_at hl 3 rfl) ?_
    refine lv_if_ge (tgt := 23) hx hb dX6_row_14 (by decide) (fun c_4 => ?_) (fun c_4 => ?_)
    · replace hf := ite_p c_4 hf
      refine lv_iload_n hx hb dX6_row_23 rfl (lv_at hl 2 rfl) ?_
      refine lv_if_lt (tgt := 32) hx hb dX6_row_24 (by decide) (fun c_5 => ?_) (fun c_5 => ?_)
      · replace hf := ite_p c_5 hf
        exact J32 so rw re _ _ _ hf hP hS (lv_sub hl [0] rfl)
      · replace hf := ite_n c_5 hf
        refine lv_iload_n hx hb dX6_row_27 rfl (lv_at hl 2 rfl) ?_
        refine lv_iconst (v := 4) hx hb dX6_row_28 (by decide) ?_
        refine lv_icmp_lt (tgt := 39) hx hb dX6_row_29 (by decide) (fun c_12 => ?_) (fun c_12 => ?_)
        · replace hf := ite_p c_12 hf
          refine lv_iload_n hx hb dX6_row_39 rfl (lv_at hl 3 rfl) ?_
          refine lv_sipush (v := 160) hx hb dX6_row_40 (by decide) ?_
          refine lv_icmp_le (tgt := 53) hx hb dX6_row_43 (by decide) (fun c_13 => ?_) (fun c_13 => ?_)
          · replace hf := ite_p c_13 hf
            refine lv_aload_n hx hb dX6_row_53 rfl (lv_at hl 0 rfl) ?_
            refine va_get (D := γ.1) (ci := 6) (v := .ref (a 0 5)) (C := RX6) (T := TX6) (N := 12) hx hb hU uin6 hown hK hP 0 rfl rfl 4 (by decide) (hU _ U303) (fun _ h9 => h9) rfl dX6_row_54 ?_
            refine lv_iload_n hx hb dX6_row_57 rfl (lv_at hl 1 rfl) ?_
            obtain ⟨g_14, hf⟩ := gd_of hf
            refine va_aldq (C := RX5) hx hb hK hP 1 2 rfl rfl (inB_vp g_14) dX6_row_58 ?_
            rw [rowF_at a (inB_lt g_14)]
            refine lv_iload_n hx hb dX6_row_59 rfl (lv_at hl 2 rfl) ?_
            refine lv_iload_n hx hb dX6_row_60 rfl (lv_at hl 3 rfl) ?_
            obtain ⟨sw_15, sl_16, hg_17, hf⟩ := bd2_of hf
            obtain ⟨rw_18, e_rw_18, hf⟩ := nm_of hf
            obtain ⟨re_19, e_re_19, hf⟩ := nm_of hf
            refine kt_VF (As := [.int x2, .int x3]) (rest := []) (st1 := []) (b := (a (8 + x1.toNatClampNeg)) 0) (wc' := wC γ a so r0 r1 r2 (va_up rw (x1.toNatClampNeg) sw_15) (va_up re (x1.toNatClampNeg) sl_16) tn se sv sk sd) C0 (c_X5_begin l γ (a (8 + x1.toNatClampNeg)) hg_17) (cxV (nA := 2) hts goodU U347 U348 U349 U90 U350 (by decide +kernel) ⟨Nat.le_of_ble_eq_true rfl, Nat.le_of_ble_eq_true rfl⟩) hP (hD _ _ _ _ _ _ _ _ _ _ _) hS hl dX6_row_61 (foc_rw γ a _ _ _ _ _ _ _ _ _ _ _ (inB_lt g_14) _ _) 0 5 rfl rfl rfl rfl (Nat.le_of_ble_eq_true rfl) rfl rfl (fun H locs hP hS => ?_)
            replace hP : va_P γ.1 vwCl (wC γ a so r0 r1 r2 rw_18 re_19 tn se sv sk sd) H := by rw [e_rw_18, e_re_19]; exact hP
            refine lv_aload_n hx hb dX6_row_64 rfl (lv_at hl 0 rfl) ?_
            refine va_get (D := γ.1) (ci := 6) (v := .ref ((a 0) 6)) (C := RX6) (T := TX6) (N := 12) hx hb hU uin6 hown hK hP 0 rfl rfl 5 (by decide) (hU _ U304) (fun _ h9 => h9) rfl dX6_row_65 ?_
            refine lv_iload_n hx hb dX6_row_68 rfl (lv_at hl 1 rfl) ?_
            refine lv_bipush (v := 100) hx hb dX6_row_69 (by decide) ?_
            refine lv_iload_n hx hb dX6_row_71 rfl (lv_at hl 2 rfl) ?_
            refine lv_iadd hx hb dX6_row_72 ?_
            refine lv_topi (fun u_20 e_u_20 => ?_)
            replace hf := nm_y hf e_u_20
            obtain ⟨g_21, hf⟩ := gd_of hf
            refine va_iast hx hb hK hP (hD _ _ _ _ _ _ _ _ _ _ _) hS 2 0 rfl rfl (inB_vp g_21) dX6_row_73 (fun H locs hP _ hS => ?_)
            obtain ⟨so_22, e_so_22, hf⟩ := nm_of hf
            replace hP : va_P γ.1 vwCl (wC γ a so_22 r0 r1 r2 rw_18 re_19 tn se sv sk sd) H := by rw [e_so_22]; exact hP
            refine lv_iconst (v := 1) hx hb dX6_row_74 (by decide) ?_
            obtain ⟨rfl, rfl, rfl, rfl⟩ := rt4 hf
            exact kt_iret C0 hP hS dX6_row_75
          · replace hf := ite_n c_13 hf
            refine lv_aload_n hx hb dX6_row_46 rfl (lv_at hl 0 rfl) ?_
            refine lv_bipush (v := 7) hx hb dX6_row_47 (by decide) ?_
            obtain ⟨r_23, so_24, hg_25, hf⟩ := bd2_of hf
            refine kt_V0 (As := [.int (7 : Int32)]) (rest := []) (st1 := [.int r_23]) (b := (a 0) 0) C0 (c_X6_refused l γ a hg_25) (cxV (nA := 1) hts goodU U343 U345 U0 U84 U346 (by decide +kernel) ⟨Nat.le_of_ble_eq_true rfl, Nat.le_of_ble_eq_true rfl⟩) hP (hD _ _ _ _ _ _ _ _ _ _ _) hS hl dX6_row_49 0 6 rfl rfl rfl rfl (Nat.le_of_ble_eq_true rfl) rfl rfl (fun H locs hP hS => ?_)
            obtain ⟨rfl, rfl, rfl, rfl⟩ := rt4 hf
            exact kt_iret C0 hP hS dX6_row_52
        · replace hf := ite_n c_12 hf
          exact J32 so rw re _ _ _ hf hP hS (lv_sub hl [0] rfl)
    · replace hf := ite_n c_4 hf
      refine lv_aload_n hx hb dX6_row_17 rfl (lv_at hl 0 rfl) ?_
      refine lv_iconst (v := 4) hx hb dX6_row_18 (by decide) ?_
      obtain ⟨r_26, so_27, hg_28, hf⟩ := bd2_of hf
      refine kt_V0 (As := [.int (4 : Int32)]) (rest := []) (st1 := [.int r_26]) (b := (a 0) 0) C0 (c_X6_refused l γ a hg_28) (cxV (nA := 1) hts goodU U343 U345 U0 U84 U346 (by decide +kernel) ⟨Nat.le_of_ble_eq_true rfl, Nat.le_of_ble_eq_true rfl⟩) hP (hD _ _ _ _ _ _ _ _ _ _ _) hS hl dX6_row_19 0 6 rfl rfl rfl rfl (Nat.le_of_ble_eq_true rfl) rfl rfl (fun H locs hP hS => ?_)
      obtain ⟨rfl, rfl, rfl, rfl⟩ := rt4 hf
      exact kt_iret C0 hP hS dX6_row_22
  · replace hf := ite_p c_3 hf
    refine lv_aload_n hx hb dX6_row_7 rfl (lv_at hl 0 rfl) ?_
    refine lv_iconst (v := 1) hx hb dX6_row_8 (by decide) ?_
    obtain ⟨r_29, so_30, hg_31, hf⟩ := bd2_of hf
    refine kt_V0 (As := [.int (1 : Int32)]) (rest := []) (st1 := [.int r_29]) (b := (a 0) 0) C0 (c_X6_refused l γ a hg_31) (cxV (nA := 1) hts goodU U343 U345 U0 U84 U346 (by decide +kernel) ⟨Nat.le_of_ble_eq_true rfl, Nat.le_of_ble_eq_true rfl⟩) hP (hD _ _ _ _ _ _ _ _ _ _ _) hS hl dX6_row_9 0 6 rfl rfl rfl rfl (Nat.le_of_ble_eq_true rfl) rfl rfl (fun H locs hP hS => ?_)
    obtain ⟨rfl, rfl, rfl, rfl⟩ := rt4 hf
    exact kt_iret C0 hP hS dX6_row_12
set_option maxHeartbeats 4000000 in
set_option maxRecDepth 100000 in
theorem c_X6_rowRefusal (l : Launch) (γ : Gm) (a : Nat → Nat → Nat) {so : GS} {r0 : GS} {r1 : GS} {r2 : GS} {rw : Nat → GS} {re : Nat → Nat → Int64} {tn : Option Nat} {se : GS} {sv : GS} {sk : GS} {sd : GS} {x1 : Int32} {rv : Int32} (hf : f_X6_rowRefusal so x1 = some rv) : Kt l γ yX6_rowRefusal (Cond.code yX6_rowRefusal cX6_rowRefusal 2 (some .int) :: U) 1 20 [.ref ((a 0) 0), .int x1] (wC γ a so r0 r1 r2 rw re tn se sv sk sd) (some (.int rv)) (wC γ a so r0 r1 r2 rw re tn se sv sk sd) := by
  refine Kt.of (by decide) rfl (Nat.le_of_ble_eq_true rfl) rfl ?_
  intro p e s m below meth c A ls C0 hP hD0 hS hl
  obtain ⟨hx, hb, hml, hown, hts, hr, hlocks, hK, hE, hA⟩ := id C0
  have hU : ∀ w ∈ U, w.before _ s = true := fun w h => hts w (List.mem_cons_of_mem _ h)
  have hD : ∀ (so : GS) (r0 : GS) (r1 : GS) (r2 : GS) (rw : Nat → GS) (re : Nat → Nat → Int64) (tn : Option Nat) (se : GS) (sv : GS) (sk : GS) (sd : GS), va_D A (wC γ a so r0 r1 r2 rw re tn se sv sk sd) := fun _ _ _ _ _ _ _ _ _ _ _ => hD0.fst rfl
  have hl : lv_has ls 2 [(0, .ref ((a 0) 0)), (1, .int x1)] := hl
  unfold f_X6_rowRefusal at hf
  refine lv_iload_n hx hb dX6_rowRefusal_0 rfl (lv_at hl 1 rfl) ?_
  obtain ⟨r_1, hg_2, hf⟩ := bd_of hf
  refine kt_SF (As := [.int x1]) (rest := []) (st1 := [.int r_1]) (wc' := wC γ a so r0 r1 r2 rw re tn se sv sk sd) C0 (c_X6_isShelf l γ hg_2) (cxS (nA := 1) hts goodU U340 U341 U84 U342 (by decide +kernel) ⟨Nat.le_of_ble_eq_true rfl, Nat.le_of_ble_eq_true rfl⟩) hP (hD _ _ _ _ _ _ _ _ _ _ _) hS hl dX6_rowRefusal_1 foc_nil rfl (Nat.le_of_ble_eq_true rfl) rfl rfl (fun H locs hP hS => ?_)
  refine lv_if_ne (tgt := 9) hx hb dX6_rowRefusal_4 (by decide) (fun c_3 => ?_) (fun c_3 => ?_)
  · replace hf := ite_n c_3 hf
    refine lv_aload_n hx hb dX6_rowRefusal_9 rfl (lv_at hl 0 rfl) ?_
    refine va_get (D := γ.1) (ci := 6) (v := .ref ((a 0) 6)) (C := RX6) (T := TX6) (N := 12) hx hb hU uin6 hown hK hP 0 rfl rfl 5 (by decide) (hU _ U304) (fun _ h9 => h9) rfl dX6_rowRefusal_10 ?_
    refine lv_iload_n hx hb dX6_rowRefusal_13 rfl (lv_at hl 1 rfl) ?_
    obtain ⟨g_4, hf⟩ := gd_of hf
    refine va_iald hx hb hK hP 2 0 rfl rfl (inB_vp g_4) dX6_rowRefusal_14 ?_
    refine lv_iconst (v := -1) hx hb dX6_rowRefusal_15 (by decide) ?_
    refine lv_icmp_ne (tgt := 21) hx hb dX6_rowRefusal_16 (by decide) (fun c_5 => ?_) (fun c_5 => ?_)
    · replace hf := ite_n c_5 hf
      refine lv_aload_n hx hb dX6_rowRefusal_21 rfl (lv_at hl 0 rfl) ?_
      refine va_get (D := γ.1) (ci := 6) (v := .ref ((a 0) 6)) (C := RX6) (T := TX6) (N := 12) hx hb hU uin6 hown hK hP 0 rfl rfl 5 (by decide) (hU _ U304) (fun _ h9 => h9) rfl dX6_rowRefusal_22 ?_
      refine lv_iload_n hx hb dX6_rowRefusal_25 rfl (lv_at hl 1 rfl) ?_
      obtain ⟨g_6, hf⟩ := gd_of hf
      refine va_iald hx hb hK hP 2 0 rfl rfl (inB_vp g_6) dX6_rowRefusal_26 ?_
      refine lv_bipush (v := 100) hx hb dX6_rowRefusal_27 (by decide) ?_
      refine lv_icmp_ge (tgt := 36) hx hb dX6_rowRefusal_29 (by decide) (fun c_7 => ?_) (fun c_7 => ?_)
      · replace hf := ite_p c_7 hf
        refine lv_iconst (v := 0) hx hb dX6_rowRefusal_36 (by decide) ?_
        obtain rfl := Option.some.inj hf
        exact kt_iret C0 hP hS dX6_rowRefusal_37
      · replace hf := ite_n c_7 hf
        refine lv_iconst (v := 2) hx hb dX6_rowRefusal_32 (by decide) ?_
        refine lv_goto (tgt := 37) hx hb dX6_rowRefusal_33 (by decide) ?_
        obtain rfl := Option.some.inj hf
        exact kt_iret C0 hP hS dX6_rowRefusal_37
    · replace hf := ite_p c_5 hf
      refine lv_iconst (v := 3) hx hb dX6_rowRefusal_19 (by decide) ?_
      obtain rfl := Option.some.inj hf
      exact kt_iret C0 hP hS dX6_rowRefusal_20
  · replace hf := ite_p c_3 hf
    refine lv_iconst (v := 1) hx hb dX6_rowRefusal_7 (by decide) ?_
    obtain rfl := Option.some.inj hf
    exact kt_iret C0 hP hS dX6_rowRefusal_8
set_option maxHeartbeats 4000000 in
set_option maxRecDepth 100000 in
theorem c_X6_set (l : Launch) (γ : Gm) (a : Nat → Nat → Nat) {so : GS} {r0 : GS} {r1 : GS} {r2 : GS} {rw : Nat → GS} {re : Nat → Nat → Int64} {tn : Option Nat} {se : GS} {sv : GS} {sk : GS} {sd : GS} {x1 : Int32} {x2 : Int32} {x3 : Int64} {rv : Int32} {so_z : GS} {re_z : Nat → Nat → Int64} (hf : f_X6_set so rw re x1 x2 x3 = some (rv, so_z, re_z)) : Kt l γ yX6_set (Cond.code yX6_set cX6_set 6 (some .int) :: U) 2 45 [.ref ((a 0) 0), .int x1, .int x2, .long x3] (wC γ a so r0 r1 r2 rw re tn se sv sk sd) (some (.int rv)) (wC γ a so_z r0 r1 r2 rw re_z tn se sv sk sd) := by
  refine Kt.of (by decide) rfl (Nat.le_of_ble_eq_true rfl) rfl ?_
  intro p e s m below meth c A ls C0 hP hD0 hS hl
  obtain ⟨hx, hb, hml, hown, hts, hr, hlocks, hK, hE, hA⟩ := id C0
  have hU : ∀ w ∈ U, w.before _ s = true := fun w h => hts w (List.mem_cons_of_mem _ h)
  have hD : ∀ (so : GS) (r0 : GS) (r1 : GS) (r2 : GS) (rw : Nat → GS) (re : Nat → Nat → Int64) (tn : Option Nat) (se : GS) (sv : GS) (sk : GS) (sd : GS), va_D A (wC γ a so r0 r1 r2 rw re tn se sv sk sd) := fun _ _ _ _ _ _ _ _ _ _ _ => hD0.fst rfl
  have hl : lv_has ls 6 [(0, .ref ((a 0) 0)), (1, .int x1), (2, .int x2), (3, .long x3)] := hl
  unfold f_X6_set at hf
  refine lv_aload_n hx hb dX6_set_0 rfl (lv_at hl 0 rfl) ?_
  refine lv_iload_n hx hb dX6_set_1 rfl (lv_at hl 1 rfl) ?_
  obtain ⟨r_1, hg_2, hf⟩ := bd_of hf
  refine kt_V0 (As := [.int x1]) (rest := []) (st1 := [.int r_1]) (b := (a 0) 0) C0 (c_X6_rowRefusal l γ a hg_2) (cxV (nA := 1) hts goodU U355 U357 U1 U84 U358 (by decide +kernel) ⟨Nat.le_of_ble_eq_true rfl, Nat.le_of_ble_eq_true rfl⟩) hP (hD _ _ _ _ _ _ _ _ _ _ _) hS hl dX6_set_2 0 6 rfl rfl rfl rfl (Nat.le_of_ble_eq_true rfl) rfl rfl (fun H locs hP hS => ?_)
  refine lv_istore (lv' := [(5, .int r_1), (0, .ref ((a 0) 0)), (1, .int x1), (2, .int x2), (3, .long x3)]) hx hb dX6_set_5 hl (by decide) rfl (fun ls hl => ?_)
  refine lv_iload hx hb dX6_set_7 (lv_at hl 0 rfl) ?_
  refine lv_if_eq (tgt := 19) hx hb dX6_set_9 (by decide) (fun c_3 => ?_) (fun c_3 => ?_)
  · replace hf := ite_p c_3 hf
    refine lv_aload_n hx hb dX6_set_19 rfl (lv_at hl 1 rfl) ?_
    refine va_get (D := γ.1) (ci := 6) (v := .ref (a 0 5)) (C := RX6) (T := TX6) (N := 12) hx hb hU uin6 hown hK hP 0 rfl rfl 4 (by decide) (hU _ U303) (fun _ h9 => h9) rfl dX6_set_20 ?_
    refine lv_iload_n hx hb dX6_set_23 rfl (lv_at hl 2 rfl) ?_
    obtain ⟨g_4, hf⟩ := gd_of hf
    refine va_aldq (C := RX5) hx hb hK hP 1 2 rfl rfl (inB_vp g_4) dX6_set_24 ?_
    rw [rowF_at a (inB_lt g_4)]
    refine lv_iload_n hx hb dX6_set_25 rfl (lv_at hl 3 rfl) ?_
    obtain ⟨r_5, hg_6, hf⟩ := bd_of hf
    refine kt_VF (As := [.int x2]) (rest := []) (st1 := [.int r_5]) (b := (a (8 + x1.toNatClampNeg)) 0) (wc' := wC γ a so r0 r1 r2 rw re tn se sv sk sd) C0 (c_X5_has l γ (a (8 + x1.toNatClampNeg)) hg_6) (cxV (nA := 1) hts goodU U359 U360 U361 U90 U362 (by decide +kernel) ⟨Nat.le_of_ble_eq_true rfl, Nat.le_of_ble_eq_true rfl⟩) hP (hD _ _ _ _ _ _ _ _ _ _ _) hS hl dX6_set_26 (foc_ro (foc_rw γ a _ _ _ _ _ _ _ _ _ _ _ (inB_lt g_4) (fun _ _ => 0) (fun _ => 0))) 0 5 rfl rfl rfl rfl (Nat.le_of_ble_eq_true rfl) rfl rfl (fun H locs hP hS => ?_)
    refine lv_if_ne (tgt := 38) hx hb dX6_set_29 (by decide) (fun c_7 => ?_) (fun c_7 => ?_)
    · replace hf := ite_n c_7 hf
      refine lv_aload_n hx hb dX6_set_38 rfl (lv_at hl 1 rfl) ?_
      refine va_get (D := γ.1) (ci := 6) (v := .ref (a 0 5)) (C := RX6) (T := TX6) (N := 12) hx hb hU uin6 hown hK hP 0 rfl rfl 4 (by decide) (hU _ U303) (fun _ h9 => h9) rfl dX6_set_39 ?_
      refine lv_iload_n hx hb dX6_set_42 rfl (lv_at hl 2 rfl) ?_
      obtain ⟨g_8, hf⟩ := gd_of hf
      refine va_aldq (C := RX5) hx hb hK hP 1 2 rfl rfl (inB_vp g_8) dX6_set_43 ?_
      rw [rowF_at a (inB_lt g_8)]
      refine lv_iload_n hx hb dX6_set_44 rfl (lv_at hl 3 rfl) ?_
      refine lv_lload_n hx hb dX6_set_45 rfl (lv_at hl 4 rfl) ?_
      obtain ⟨sl_9, hg_10, hf⟩ := bd_of hf
      obtain ⟨re_11, e_re_11, hf⟩ := nm_of hf
      refine kt_VF (As := [.int x2, .long x3]) (rest := []) (st1 := []) (b := (a (8 + x1.toNatClampNeg)) 0) (wc' := wC γ a so r0 r1 r2 (va_up rw (x1.toNatClampNeg) (rw (x1.toNatClampNeg))) (va_up re (x1.toNatClampNeg) sl_9) tn se sv sk sd) C0 (c_X5_put l γ (a (8 + x1.toNatClampNeg)) hg_10) (cxV (nA := 2) hts goodU U363 U364 U365 U90 U366 (by decide +kernel) ⟨Nat.le_of_ble_eq_true rfl, Nat.le_of_ble_eq_true rfl⟩) hP (hD _ _ _ _ _ _ _ _ _ _ _) hS hl dX6_set_46 (foc_rw γ a _ _ _ _ _ _ _ _ _ _ _ (inB_lt g_8) _ _) 0 5 rfl rfl rfl rfl (Nat.le_of_ble_eq_true rfl) rfl rfl (fun H locs hP hS => ?_)
      rw [up_id] at hP
      replace hP : va_P γ.1 vwCl (wC γ a so r0 r1 r2 rw re_11 tn se sv sk sd) H := by rw [e_re_11]; exact hP
      refine lv_iconst (v := 1) hx hb dX6_set_49 (by decide) ?_
      obtain ⟨rfl, rfl, rfl⟩ := rt3 hf
      exact kt_iret C0 hP hS dX6_set_50
    · replace hf := ite_p c_7 hf
      refine lv_aload_n hx hb dX6_set_32 rfl (lv_at hl 1 rfl) ?_
      refine lv_iconst (v := 5) hx hb dX6_set_33 (by decide) ?_
      obtain ⟨r_12, so_13, hg_14, hf⟩ := bd2_of hf
      refine kt_V0 (As := [.int (5 : Int32)]) (rest := []) (st1 := [.int r_12]) (b := (a 0) 0) C0 (c_X6_refused l γ a hg_14) (cxV (nA := 1) hts goodU U343 U345 U0 U84 U346 (by decide +kernel) ⟨Nat.le_of_ble_eq_true rfl, Nat.le_of_ble_eq_true rfl⟩) hP (hD _ _ _ _ _ _ _ _ _ _ _) hS hl dX6_set_34 0 6 rfl rfl rfl rfl (Nat.le_of_ble_eq_true rfl) rfl rfl (fun H locs hP hS => ?_)
      obtain ⟨rfl, rfl, rfl⟩ := rt3 hf
      exact kt_iret C0 hP hS dX6_set_37
  · replace hf := ite_n c_3 hf
    refine lv_aload_n hx hb dX6_set_12 rfl (lv_at hl 1 rfl) ?_
    refine lv_iload hx hb dX6_set_13 (lv_at hl 0 rfl) ?_
    obtain ⟨r_15, so_16, hg_17, hf⟩ := bd2_of hf
    refine kt_V0 (As := [.int r_1]) (rest := []) (st1 := [.int r_15]) (b := (a 0) 0) C0 (c_X6_refused l γ a hg_17) (cxV (nA := 1) hts goodU U343 U345 U0 U84 U346 (by decide +kernel) ⟨Nat.le_of_ble_eq_true rfl, Nat.le_of_ble_eq_true rfl⟩) hP (hD _ _ _ _ _ _ _ _ _ _ _) hS hl dX6_set_15 0 6 rfl rfl rfl rfl (Nat.le_of_ble_eq_true rfl) rfl rfl (fun H locs hP hS => ?_)
    obtain ⟨rfl, rfl, rfl⟩ := rt3 hf
    exact kt_iret C0 hP hS dX6_set_18
set_option maxHeartbeats 4000000 in
set_option maxRecDepth 100000 in
theorem c_X6_copyRefusal (l : Launch) (γ : Gm) (a : Nat → Nat → Nat) {so : GS} {r0 : GS} {r1 : GS} {r2 : GS} {rw : Nat → GS} {re : Nat → Nat → Int64} {tn : Option Nat} {se : GS} {sv : GS} {sk : GS} {sd : GS} {x1 : Int32} {x2 : Int32} {rv : Int32} (hf : f_X6_copyRefusal so x1 x2 = some rv) : Kt l γ yX6_copyRefusal (Cond.code yX6_copyRefusal cX6_copyRefusal 5 (some .int) :: U) 2 41 [.ref ((a 0) 0), .int x1, .int x2] (wC γ a so r0 r1 r2 rw re tn se sv sk sd) (some (.int rv)) (wC γ a so r0 r1 r2 rw re tn se sv sk sd) := by
  refine Kt.of (by decide) rfl (Nat.le_of_ble_eq_true rfl) rfl ?_
  intro p e s m below meth c A ls C0 hP hD0 hS hl
  obtain ⟨hx, hb, hml, hown, hts, hr, hlocks, hK, hE, hA⟩ := id C0
  have hU : ∀ w ∈ U, w.before _ s = true := fun w h => hts w (List.mem_cons_of_mem _ h)
  have hD : ∀ (so : GS) (r0 : GS) (r1 : GS) (r2 : GS) (rw : Nat → GS) (re : Nat → Nat → Int64) (tn : Option Nat) (se : GS) (sv : GS) (sk : GS) (sd : GS), va_D A (wC γ a so r0 r1 r2 rw re tn se sv sk sd) := fun _ _ _ _ _ _ _ _ _ _ _ => hD0.fst rfl
  have hl : lv_has ls 5 [(0, .ref ((a 0) 0)), (1, .int x1), (2, .int x2)] := hl
  unfold f_X6_copyRefusal at hf
  refine lv_aload_n hx hb dX6_copyRefusal_0 rfl (lv_at hl 0 rfl) ?_
  refine lv_iload_n hx hb dX6_copyRefusal_1 rfl (lv_at hl 1 rfl) ?_
  obtain ⟨r_1, hg_2, hf⟩ := bd_of hf
  refine kt_V0 (As := [.int x1]) (rest := []) (st1 := [.int r_1]) (b := (a 0) 0) C0 (c_X6_rowRefusal l γ a hg_2) (cxV (nA := 1) hts goodU U355 U357 U1 U84 U358 (by decide +kernel) ⟨Nat.le_of_ble_eq_true rfl, Nat.le_of_ble_eq_true rfl⟩) hP (hD _ _ _ _ _ _ _ _ _ _ _) hS hl dX6_copyRefusal_2 0 6 rfl rfl rfl rfl (Nat.le_of_ble_eq_true rfl) rfl rfl (fun H locs hP hS => ?_)
  refine lv_istore_n (lv' := [(3, .int r_1), (0, .ref ((a 0) 0)), (1, .int x1), (2, .int x2)]) hx hb dX6_copyRefusal_5 rfl hl (by decide) rfl (fun ls hl => ?_)
  refine lv_aload_n hx hb dX6_copyRefusal_6 rfl (lv_at hl 1 rfl) ?_
  refine lv_iload_n hx hb dX6_copyRefusal_7 rfl (lv_at hl 3 rfl) ?_
  obtain ⟨r_3, hg_4, hf⟩ := bd_of hf
  refine kt_V0 (As := [.int x2]) (rest := []) (st1 := [.int r_3]) (b := (a 0) 0) C0 (c_X6_rowRefusal l γ a hg_4) (cxV (nA := 1) hts goodU U355 U357 U1 U84 U358 (by decide +kernel) ⟨Nat.le_of_ble_eq_true rfl, Nat.le_of_ble_eq_true rfl⟩) hP (hD _ _ _ _ _ _ _ _ _ _ _) hS hl dX6_copyRefusal_8 0 6 rfl rfl rfl rfl (Nat.le_of_ble_eq_true rfl) rfl rfl (fun H locs hP hS => ?_)
  refine lv_istore (lv' := [(4, .int r_3), (3, .int r_1), (0, .ref ((a 0) 0)), (1, .int x1), (2, .int x2)]) hx hb dX6_copyRefusal_11 hl (by decide) rfl (fun ls hl => ?_)
  refine lv_iload_n hx hb dX6_copyRefusal_13 rfl (lv_at hl 1 rfl) ?_
  refine lv_iconst (v := 1) hx hb dX6_copyRefusal_14 (by decide) ?_
  refine lv_icmp_eq (tgt := 24) hx hb dX6_copyRefusal_15 (by decide) (fun c_5 => ?_) (fun c_5 => ?_)
  · replace hf := ite_p c_5 hf
    refine lv_iconst (v := 1) hx hb dX6_copyRefusal_24 (by decide) ?_
    obtain rfl := Option.some.inj hf
    exact kt_iret C0 hP hS dX6_copyRefusal_25
  · replace hf := ite_n c_5 hf
    refine lv_iload hx hb dX6_copyRefusal_18 (lv_at hl 0 rfl) ?_
    refine lv_iconst (v := 1) hx hb dX6_copyRefusal_20 (by decide) ?_
    refine lv_icmp_ne (tgt := 26) hx hb dX6_copyRefusal_21 (by decide) (fun c_6 => ?_) (fun c_6 => ?_)
    · replace hf := ite_n c_6 hf
      refine lv_iload_n hx hb dX6_copyRefusal_26 rfl (lv_at hl 1 rfl) ?_
      refine lv_iconst (v := 2) hx hb dX6_copyRefusal_27 (by decide) ?_
      refine lv_icmp_eq (tgt := 37) hx hb dX6_copyRefusal_28 (by decide) (fun c_7 => ?_) (fun c_7 => ?_)
      · replace hf := ite_p c_7 hf
        refine lv_iconst (v := 2) hx hb dX6_copyRefusal_37 (by decide) ?_
        obtain rfl := Option.some.inj hf
        exact kt_iret C0 hP hS dX6_copyRefusal_38
      · replace hf := ite_n c_7 hf
        refine lv_iload hx hb dX6_copyRefusal_31 (lv_at hl 0 rfl) ?_
        refine lv_iconst (v := 2) hx hb dX6_copyRefusal_33 (by decide) ?_
        refine lv_icmp_ne (tgt := 39) hx hb dX6_copyRefusal_34 (by decide) (fun c_8 => ?_) (fun c_8 => ?_)
        · replace hf := ite_n c_8 hf
          refine lv_iload_n hx hb dX6_copyRefusal_39 rfl (lv_at hl 1 rfl) ?_
          refine lv_iconst (v := 3) hx hb dX6_copyRefusal_40 (by decide) ?_
          refine lv_icmp_eq (tgt := 50) hx hb dX6_copyRefusal_41 (by decide) (fun c_9 => ?_) (fun c_9 => ?_)
          · replace hf := ite_p c_9 hf
            refine lv_iconst (v := 3) hx hb dX6_copyRefusal_50 (by decide) ?_
            obtain rfl := Option.some.inj hf
            exact kt_iret C0 hP hS dX6_copyRefusal_51
          · replace hf := ite_n c_9 hf
            refine lv_iload hx hb dX6_copyRefusal_44 (lv_at hl 0 rfl) ?_
            refine lv_iconst (v := 3) hx hb dX6_copyRefusal_46 (by decide) ?_
            refine lv_icmp_ne (tgt := 52) hx hb dX6_copyRefusal_47 (by decide) (fun c_10 => ?_) (fun c_10 => ?_)
            · replace hf := ite_n c_10 hf
              refine lv_aload_n hx hb dX6_copyRefusal_52 rfl (lv_at hl 2 rfl) ?_
              refine va_get (D := γ.1) (ci := 6) (v := .ref ((a 0) 6)) (C := RX6) (T := TX6) (N := 12) hx hb hU uin6 hown hK hP 0 rfl rfl 5 (by decide) (hU _ U304) (fun _ h9 => h9) rfl dX6_copyRefusal_53 ?_
              refine lv_iload_n hx hb dX6_copyRefusal_56 rfl (lv_at hl 3 rfl) ?_
              obtain ⟨g_11, hf⟩ := gd_of hf
              refine va_iald hx hb hK hP 2 0 rfl rfl (inB_vp g_11) dX6_copyRefusal_57 ?_
              refine lv_aload_n hx hb dX6_copyRefusal_58 rfl (lv_at hl 2 rfl) ?_
              refine va_get (D := γ.1) (ci := 6) (v := .ref ((a 0) 6)) (C := RX6) (T := TX6) (N := 12) hx hb hU uin6 hown hK hP 0 rfl rfl 5 (by decide) (hU _ U304) (fun _ h9 => h9) rfl dX6_copyRefusal_59 ?_
              refine lv_iload_n hx hb dX6_copyRefusal_62 rfl (lv_at hl 4 rfl) ?_
              obtain ⟨g_12, hf⟩ := gd_of hf
              refine va_iald hx hb hK hP 2 0 rfl rfl (inB_vp g_12) dX6_copyRefusal_63 ?_
              refine lv_icmp_ne (tgt := 71) hx hb dX6_copyRefusal_64 (by decide) (fun c_13 => ?_) (fun c_13 => ?_)
              · replace hf := ite_n c_13 hf
                refine lv_iconst (v := 2) hx hb dX6_copyRefusal_71 (by decide) ?_
                obtain rfl := Option.some.inj hf
                exact kt_iret C0 hP hS dX6_copyRefusal_72
              · replace hf := ite_p c_13 hf
                refine lv_iconst (v := 0) hx hb dX6_copyRefusal_67 (by decide) ?_
                refine lv_goto (tgt := 72) hx hb dX6_copyRefusal_68 (by decide) ?_
                obtain rfl := Option.some.inj hf
                exact kt_iret C0 hP hS dX6_copyRefusal_72
            · replace hf := ite_p c_10 hf
              refine lv_iconst (v := 3) hx hb dX6_copyRefusal_50 (by decide) ?_
              obtain rfl := Option.some.inj hf
              exact kt_iret C0 hP hS dX6_copyRefusal_51
        · replace hf := ite_p c_8 hf
          refine lv_iconst (v := 2) hx hb dX6_copyRefusal_37 (by decide) ?_
          obtain rfl := Option.some.inj hf
          exact kt_iret C0 hP hS dX6_copyRefusal_38
    · replace hf := ite_p c_6 hf
      refine lv_iconst (v := 1) hx hb dX6_copyRefusal_24 (by decide) ?_
      obtain rfl := Option.some.inj hf
      exact kt_iret C0 hP hS dX6_copyRefusal_25
set_option maxHeartbeats 4000000 in
set_option maxRecDepth 100000 in
theorem c_X6_copy (l : Launch) (γ : Gm) (a : Nat → Nat → Nat) {so : GS} {r0 : GS} {r1 : GS} {r2 : GS} {rw : Nat → GS} {re : Nat → Nat → Int64} {tn : Option Nat} {se : GS} {sv : GS} {sk : GS} {sd : GS} {x1 : Int32} {x2 : Int32} {x3 : Int32} {x4 : Int32} {x5 : Int32} {rv : Int32} {so_z : GS} {re_z : Nat → Nat → Int64} (hf : f_X6_copy so rw re x1 x2 x3 x4 x5 = some (rv, so_z, re_z)) : Kt l γ yX6_copy (Cond.code yX6_copy cX6_copy 7 (some .int) :: U) 3 84 [.ref ((a 0) 0), .int x1, .int x2, .int x3, .int x4, .int x5] (wC γ a so r0 r1 r2 rw re tn se sv sk sd) (some (.int rv)) (wC γ a so_z r0 r1 r2 rw re_z tn se sv sk sd) := by
  refine Kt.of (by decide) rfl (Nat.le_of_ble_eq_true rfl) rfl ?_
  intro p e s m below meth c A ls C0 hP hD0 hS hl
  obtain ⟨hx, hb, hml, hown, hts, hr, hlocks, hK, hE, hA⟩ := id C0
  have hU : ∀ w ∈ U, w.before _ s = true := fun w h => hts w (List.mem_cons_of_mem _ h)
  have hD : ∀ (so : GS) (r0 : GS) (r1 : GS) (r2 : GS) (rw : Nat → GS) (re : Nat → Nat → Int64) (tn : Option Nat) (se : GS) (sv : GS) (sk : GS) (sd : GS), va_D A (wC γ a so r0 r1 r2 rw re tn se sv sk sd) := fun _ _ _ _ _ _ _ _ _ _ _ => hD0.fst rfl
  have hl : lv_has ls 7 [(0, .ref ((a 0) 0)), (1, .int x1), (2, .int x2), (3, .int x3), (4, .int x4), (5, .int x5)] := hl
  have J62 : ∀ (so_9 : GS) (re_10 : Nat → Nat → Int64) (H : Heap) (locs : List Loc) (ls : Array Slot), f_X6_copy_J62 so_9 re_10 = some (rv, so_z, re_z) → va_P γ.1 vwCl (wC γ a so_9 r0 r1 r2 rw re_10 tn se sv sk sd) H → va_S A s.heap H locs → lv_has ls 7 [(0, .ref ((a 0) 0))] → W p l e (rmK 3 84) s m ([.ref ((a 0) 0), .int x1, .int x2, .int x3, .int x4, .int x5] : List Value).toArray below meth c H locs 0 0 (MQ below (KQ γ A (some (.int rv)) (wC γ a so_z r0 r1 r2 rw re_z tn se sv sk sd)) ([.ref ((a 0) 0), .int x1, .int x2, .int x3, .int x4, .int x5] : List Value).toArray s 0 0 A) (F0 m 62 ls []) := by
    intro so_9 re_10 H locs ls hf hP hS hl
    unfold f_X6_copy_J62 at hf
    refine lv_aload_n hx hb dX6_copy_62 rfl (lv_at hl 0 rfl) ?_
    refine lv_iconst (v := 5) hx hb dX6_copy_63 (by decide) ?_
    obtain ⟨r_11, so_12, hg_13, hf⟩ := bd2_of hf
    refine kt_V0 (As := [.int (5 : Int32)]) (rest := []) (st1 := [.int r_11]) (b := (a 0) 0) C0 (c_X6_refused l γ a hg_13) (cxV (nA := 1) hts goodU U343 U345 U0 U84 U346 (by decide +kernel) ⟨Nat.le_of_ble_eq_true rfl, Nat.le_of_ble_eq_true rfl⟩) hP (hD _ _ _ _ _ _ _ _ _ _ _) hS hl dX6_copy_64 0 6 rfl rfl rfl rfl (Nat.le_of_ble_eq_true rfl) rfl rfl (fun H locs hP hS => ?_)
    obtain ⟨rfl, rfl, rfl⟩ := rt3 hf
    exact kt_iret C0 hP hS dX6_copy_67
  unfold f_X6_copy at hf
  refine lv_aload_n hx hb dX6_copy_0 rfl (lv_at hl 0 rfl) ?_
  refine lv_iload_n hx hb dX6_copy_1 rfl (lv_at hl 1 rfl) ?_
  refine lv_iload_n hx hb dX6_copy_2 rfl (lv_at hl 2 rfl) ?_
  obtain ⟨r_1, hg_2, hf⟩ := bd_of hf
  refine kt_V0 (As := [.int x1, .int x2]) (rest := []) (st1 := [.int r_1]) (b := (a 0) 0) C0 (c_X6_copyRefusal l γ a hg_2) (cxV (nA := 2) hts goodU U376 U378 U3 U84 U379 (by decide +kernel) ⟨Nat.le_of_ble_eq_true rfl, Nat.le_of_ble_eq_true rfl⟩) hP (hD _ _ _ _ _ _ _ _ _ _ _) hS hl dX6_copy_3 0 6 rfl rfl rfl rfl (Nat.le_of_ble_eq_true rfl) rfl rfl (fun H locs hP hS => ?_)
  refine lv_istore (lv' := [(6, .int r_1), (0, .ref ((a 0) 0)), (1, .int x1), (2, .int x2), (3, .int x3), (4, .int x4), (5, .int x5)]) hx hb dX6_copy_6 hl (by decide) rfl (fun ls hl => ?_)
  refine lv_iload hx hb dX6_copy_8 (lv_at hl 0 rfl) ?_
  refine lv_if_eq (tgt := 20) hx hb dX6_copy_10 (by decide) (fun c_3 => ?_) (fun c_3 => ?_)
  · replace hf := ite_p c_3 hf
    refine lv_iload hx hb dX6_copy_20 (lv_at hl 6 rfl) ?_
    refine lv_if_ge (tgt := 31) hx hb dX6_copy_22 (by decide) (fun c_4 => ?_) (fun c_4 => ?_)
    · replace hf := ite_p c_4 hf
      refine lv_aload_n hx hb dX6_copy_31 rfl (lv_at hl 1 rfl) ?_
      refine va_get (D := γ.1) (ci := 6) (v := .ref (a 0 5)) (C := RX6) (T := TX6) (N := 12) hx hb hU uin6 hown hK hP 0 rfl rfl 4 (by decide) (hU _ U303) (fun _ h9 => h9) rfl dX6_copy_32 ?_
      refine lv_iload_n hx hb dX6_copy_35 rfl (lv_at hl 2 rfl) ?_
      obtain ⟨g_5, hf⟩ := gd_of hf
      refine va_aldq (C := RX5) hx hb hK hP 1 2 rfl rfl (inB_vp g_5) dX6_copy_36 ?_
      rw [rowF_at a (inB_lt g_5)]
      refine lv_iload_n hx hb dX6_copy_37 rfl (lv_at hl 4 rfl) ?_
      refine lv_iload hx hb dX6_copy_38 (lv_at hl 6 rfl) ?_
      obtain ⟨r_6, hg_7, hf⟩ := bd_of hf
      refine kt_VF (As := [.int x3, .int x5]) (rest := []) (st1 := [.int r_6]) (b := (a (8 + x1.toNatClampNeg)) 0) (wc' := wC γ a so r0 r1 r2 rw re tn se sv sk sd) C0 (c_X5_hasRun l γ (a (8 + x1.toNatClampNeg)) hg_7) (cxV (nA := 2) hts goodU U380 U381 U382 U90 U383 (by decide +kernel) ⟨Nat.le_of_ble_eq_true rfl, Nat.le_of_ble_eq_true rfl⟩) hP (hD _ _ _ _ _ _ _ _ _ _ _) hS hl dX6_copy_40 (foc_ro (foc_rw γ a _ _ _ _ _ _ _ _ _ _ _ (inB_lt g_5) (fun _ _ => 0) (fun _ => 0))) 0 5 rfl rfl rfl rfl (Nat.le_of_ble_eq_true rfl) rfl rfl (fun H locs hP hS => ?_)
      refine lv_if_eq (tgt := 62) hx hb dX6_copy_43 (by decide) (fun c_8 => ?_) (fun c_8 => ?_)
      · replace hf := ite_p c_8 hf
        exact J62 so re _ _ _ hf hP hS (lv_sub hl [1] rfl)
      · replace hf := ite_n c_8 hf
        refine lv_aload_n hx hb dX6_copy_46 rfl (lv_at hl 1 rfl) ?_
        refine va_get (D := γ.1) (ci := 6) (v := .ref (a 0 5)) (C := RX6) (T := TX6) (N := 12) hx hb hU uin6 hown hK hP 0 rfl rfl 4 (by decide) (hU _ U303) (fun _ h9 => h9) rfl dX6_copy_47 ?_
        refine lv_iload_n hx hb dX6_copy_50 rfl (lv_at hl 3 rfl) ?_
        obtain ⟨g_14, hf⟩ := gd_of hf
        refine va_aldq (C := RX5) hx hb hK hP 1 2 rfl rfl (inB_vp g_14) dX6_copy_51 ?_
        rw [rowF_at a (inB_lt g_14)]
        refine lv_iload hx hb dX6_copy_52 (lv_at hl 5 rfl) ?_
        refine lv_iload hx hb dX6_copy_54 (lv_at hl 6 rfl) ?_
        obtain ⟨r_15, hg_16, hf⟩ := bd_of hf
        refine kt_VF (As := [.int x4, .int x5]) (rest := []) (st1 := [.int r_15]) (b := (a (8 + x2.toNatClampNeg)) 0) (wc' := wC γ a so r0 r1 r2 rw re tn se sv sk sd) C0 (c_X5_hasRun l γ (a (8 + x2.toNatClampNeg)) hg_16) (cxV (nA := 2) hts goodU U380 U381 U382 U90 U383 (by decide +kernel) ⟨Nat.le_of_ble_eq_true rfl, Nat.le_of_ble_eq_true rfl⟩) hP (hD _ _ _ _ _ _ _ _ _ _ _) hS hl dX6_copy_56 (foc_ro (foc_rw γ a _ _ _ _ _ _ _ _ _ _ _ (inB_lt g_14) (fun _ _ => 0) (fun _ => 0))) 0 5 rfl rfl rfl rfl (Nat.le_of_ble_eq_true rfl) rfl rfl (fun H locs hP hS => ?_)
        refine lv_if_ne (tgt := 68) hx hb dX6_copy_59 (by decide) (fun c_17 => ?_) (fun c_17 => ?_)
        · replace hf := ite_n c_17 hf
          refine lv_aload_n hx hb dX6_copy_68 rfl (lv_at hl 1 rfl) ?_
          refine va_get (D := γ.1) (ci := 6) (v := .ref (a 0 5)) (C := RX6) (T := TX6) (N := 12) hx hb hU uin6 hown hK hP 0 rfl rfl 4 (by decide) (hU _ U303) (fun _ h9 => h9) rfl dX6_copy_69 ?_
          refine lv_iload_n hx hb dX6_copy_72 rfl (lv_at hl 3 rfl) ?_
          obtain ⟨g_18, hf⟩ := gd_of hf
          refine va_aldq (C := RX5) hx hb hK hP 1 2 rfl rfl (inB_vp g_18) dX6_copy_73 ?_
          rw [rowF_at a (inB_lt g_18)]
          refine lv_aload_n hx hb dX6_copy_74 rfl (lv_at hl 1 rfl) ?_
          refine va_get (D := γ.1) (ci := 6) (v := .ref (a 0 5)) (C := RX6) (T := TX6) (N := 12) hx hb hU uin6 hown hK hP 0 rfl rfl 4 (by decide) (hU _ U303) (fun _ h9 => h9) rfl dX6_copy_75 ?_
          refine lv_iload_n hx hb dX6_copy_78 rfl (lv_at hl 2 rfl) ?_
          obtain ⟨g_19, hf⟩ := gd_of hf
          refine va_aldq (C := RX5) hx hb hK hP 1 2 rfl rfl (inB_vp g_19) dX6_copy_79 ?_
          rw [rowF_at a (inB_lt g_19)]
          refine lv_iload_n hx hb dX6_copy_80 rfl (lv_at hl 4 rfl) ?_
          refine lv_iload hx hb dX6_copy_81 (lv_at hl 5 rfl) ?_
          refine lv_iload hx hb dX6_copy_83 (lv_at hl 6 rfl) ?_
          obtain ⟨re_20, hg_21, hf⟩ := bd_of hf
          refine kt_fill γ a (rest := []) C0 (inB_lt g_18) (inB_lt g_19) hg_21 (cxV (nA := 4) hts goodU U384 U385 U386 U90 U387 (by decide +kernel) ⟨Nat.le_of_ble_eq_true rfl, Nat.le_of_ble_eq_true rfl⟩) hP (hD _ _ _ _ _ _ _ _ _ _ _) hS hl dX6_copy_85 (Nat.le_of_ble_eq_true rfl) (fun H locs hP hS => ?_)
          refine lv_iconst (v := 1) hx hb dX6_copy_88 (by decide) ?_
          obtain ⟨rfl, rfl, rfl⟩ := rt3 hf
          exact kt_iret C0 hP hS dX6_copy_89
        · replace hf := ite_p c_17 hf
          exact J62 so re _ _ _ hf hP hS (lv_sub hl [1] rfl)
    · replace hf := ite_n c_4 hf
      refine lv_aload_n hx hb dX6_copy_25 rfl (lv_at hl 1 rfl) ?_
      refine lv_iconst (v := 4) hx hb dX6_copy_26 (by decide) ?_
      obtain ⟨r_22, so_23, hg_24, hf⟩ := bd2_of hf
      refine kt_V0 (As := [.int (4 : Int32)]) (rest := []) (st1 := [.int r_22]) (b := (a 0) 0) C0 (c_X6_refused l γ a hg_24) (cxV (nA := 1) hts goodU U343 U345 U0 U84 U346 (by decide +kernel) ⟨Nat.le_of_ble_eq_true rfl, Nat.le_of_ble_eq_true rfl⟩) hP (hD _ _ _ _ _ _ _ _ _ _ _) hS hl dX6_copy_27 0 6 rfl rfl rfl rfl (Nat.le_of_ble_eq_true rfl) rfl rfl (fun H locs hP hS => ?_)
      obtain ⟨rfl, rfl, rfl⟩ := rt3 hf
      exact kt_iret C0 hP hS dX6_copy_30
  · replace hf := ite_n c_3 hf
    refine lv_aload_n hx hb dX6_copy_13 rfl (lv_at hl 1 rfl) ?_
    refine lv_iload hx hb dX6_copy_14 (lv_at hl 0 rfl) ?_
    obtain ⟨r_25, so_26, hg_27, hf⟩ := bd2_of hf
    refine kt_V0 (As := [.int r_1]) (rest := []) (st1 := [.int r_25]) (b := (a 0) 0) C0 (c_X6_refused l γ a hg_27) (cxV (nA := 1) hts goodU U343 U345 U0 U84 U346 (by decide +kernel) ⟨Nat.le_of_ble_eq_true rfl, Nat.le_of_ble_eq_true rfl⟩) hP (hD _ _ _ _ _ _ _ _ _ _ _) hS hl dX6_copy_16 0 6 rfl rfl rfl rfl (Nat.le_of_ble_eq_true rfl) rfl rfl (fun H locs hP hS => ?_)
    obtain ⟨rfl, rfl, rfl⟩ := rt3 hf
    exact kt_iret C0 hP hS dX6_copy_19
set_option maxHeartbeats 4000000 in
set_option maxRecDepth 100000 in
theorem c_X6_element (l : Launch) (γ : Gm) (a : Nat → Nat → Nat) {so : GS} {r0 : GS} {r1 : GS} {r2 : GS} {rw : Nat → GS} {re : Nat → Nat → Int64} {tn : Option Nat} {se : GS} {sv : GS} {sk : GS} {sd : GS} {x1 : Int32} {x2 : Int32} {rv : Int64} (hf : f_X6_element so rw re x1 x2 = some rv) : Kt l γ yX6_element (Cond.code yX6_element cX6_element 3 (some .long) :: U) 2 42 [.ref ((a 0) 0), .int x1, .int x2] (wC γ a so r0 r1 r2 rw re tn se sv sk sd) (some (.long rv)) (wC γ a so r0 r1 r2 rw re tn se sv sk sd) := by
  refine Kt.of (by decide) rfl (Nat.le_of_ble_eq_true rfl) rfl ?_
  intro p e s m below meth c A ls C0 hP hD0 hS hl
  obtain ⟨hx, hb, hml, hown, hts, hr, hlocks, hK, hE, hA⟩ := id C0
  have hU : ∀ w ∈ U, w.before _ s = true := fun w h => hts w (List.mem_cons_of_mem _ h)
  have hD : ∀ (so : GS) (r0 : GS) (r1 : GS) (r2 : GS) (rw : Nat → GS) (re : Nat → Nat → Int64) (tn : Option Nat) (se : GS) (sv : GS) (sk : GS) (sd : GS), va_D A (wC γ a so r0 r1 r2 rw re tn se sv sk sd) := fun _ _ _ _ _ _ _ _ _ _ _ => hD0.fst rfl
  have hl : lv_has ls 3 [(0, .ref ((a 0) 0)), (1, .int x1), (2, .int x2)] := hl
  unfold f_X6_element at hf
  refine lv_iload_n hx hb dX6_element_0 rfl (lv_at hl 1 rfl) ?_
  obtain ⟨r_1, hg_2, hf⟩ := bd_of hf
  refine kt_SF (As := [.int x1]) (rest := []) (st1 := [.int r_1]) (wc' := wC γ a so r0 r1 r2 rw re tn se sv sk sd) C0 (c_X6_isShelf l γ hg_2) (cxS (nA := 1) hts goodU U340 U341 U84 U342 (by decide +kernel) ⟨Nat.le_of_ble_eq_true rfl, Nat.le_of_ble_eq_true rfl⟩) hP (hD _ _ _ _ _ _ _ _ _ _ _) hS hl dX6_element_1 foc_nil rfl (Nat.le_of_ble_eq_true rfl) rfl rfl (fun H locs hP hS => ?_)
  refine lv_if_eq (tgt := 31) hx hb dX6_element_4 (by decide) (fun c_3 => ?_) (fun c_3 => ?_)
  · replace hf := ite_p c_3 hf
    refine lv_lconst (v := 0) hx hb dX6_element_31 (by decide) ?_
    obtain rfl := Option.some.inj hf
    exact kt_lret C0 hP hS dX6_element_32
  · replace hf := ite_n c_3 hf
    refine lv_aload_n hx hb dX6_element_7 rfl (lv_at hl 0 rfl) ?_
    refine va_get (D := γ.1) (ci := 6) (v := .ref ((a 0) 6)) (C := RX6) (T := TX6) (N := 12) hx hb hU uin6 hown hK hP 0 rfl rfl 5 (by decide) (hU _ U304) (fun _ h9 => h9) rfl dX6_element_8 ?_
    refine lv_iload_n hx hb dX6_element_11 rfl (lv_at hl 1 rfl) ?_
    obtain ⟨g_4, hf⟩ := gd_of hf
    refine va_iald hx hb hK hP 2 0 rfl rfl (inB_vp g_4) dX6_element_12 ?_
    refine lv_bipush (v := 100) hx hb dX6_element_13 (by decide) ?_
    refine lv_icmp_lt (tgt := 31) hx hb dX6_element_15 (by decide) (fun c_5 => ?_) (fun c_5 => ?_)
    · replace hf := ite_p c_5 hf
      refine lv_lconst (v := 0) hx hb dX6_element_31 (by decide) ?_
      obtain rfl := Option.some.inj hf
      exact kt_lret C0 hP hS dX6_element_32
    · replace hf := ite_n c_5 hf
      refine lv_aload_n hx hb dX6_element_18 rfl (lv_at hl 0 rfl) ?_
      refine va_get (D := γ.1) (ci := 6) (v := .ref (a 0 5)) (C := RX6) (T := TX6) (N := 12) hx hb hU uin6 hown hK hP 0 rfl rfl 4 (by decide) (hU _ U303) (fun _ h9 => h9) rfl dX6_element_19 ?_
      refine lv_iload_n hx hb dX6_element_22 rfl (lv_at hl 1 rfl) ?_
      obtain ⟨g_6, hf⟩ := gd_of hf
      refine va_aldq (C := RX5) hx hb hK hP 1 2 rfl rfl (inB_vp g_6) dX6_element_23 ?_
      rw [rowF_at a (inB_lt g_6)]
      refine lv_iload_n hx hb dX6_element_24 rfl (lv_at hl 2 rfl) ?_
      obtain ⟨r_7, hg_8, hf⟩ := bd_of hf
      refine kt_VF (As := [.int x2]) (rest := []) (st1 := [.long r_7]) (b := (a (8 + x1.toNatClampNeg)) 0) (wc' := wC γ a so r0 r1 r2 rw re tn se sv sk sd) C0 (c_X5_get l γ (a (8 + x1.toNatClampNeg)) hg_8) (cxV (nA := 1) hts goodU U395 U396 U397 U90 U398 (by decide +kernel) ⟨Nat.le_of_ble_eq_true rfl, Nat.le_of_ble_eq_true rfl⟩) hP (hD _ _ _ _ _ _ _ _ _ _ _) hS hl dX6_element_25 (foc_ro (foc_rw γ a _ _ _ _ _ _ _ _ _ _ _ (inB_lt g_6) (fun _ _ => 0) (fun _ => 0))) 0 5 rfl rfl rfl rfl (Nat.le_of_ble_eq_true rfl) rfl rfl (fun H locs hP hS => ?_)
      refine lv_goto (tgt := 32) hx hb dX6_element_28 (by decide) ?_
      obtain rfl := Option.some.inj hf
      exact kt_lret C0 hP hS dX6_element_32
set_option maxHeartbeats 4000000 in
set_option maxRecDepth 100000 in
theorem c_X6_show (l : Launch) (γ : Gm) (a : Nat → Nat → Nat) {so : GS} {r0 : GS} {r1 : GS} {r2 : GS} {rw : Nat → GS} {re : Nat → Nat → Int64} {tn : Option Nat} {se : GS} {sv : GS} {sk : GS} {sd : GS} {x1 : Int32} {x2 : Int32} {rv : Int32} {so_z : GS} (hf : f_X6_show so r0 x1 x2 = some (rv, so_z)) : Kt l γ yX6_show (Cond.code yX6_show cX6_show 3 (some .int) :: U) 1 21 [.ref ((a 0) 0), .int x1, .int x2] (wC γ a so r0 r1 r2 rw re tn se sv sk sd) (some (.int rv)) (wC γ a so_z r0 r1 r2 rw re tn se sv sk sd) := by
  refine Kt.of (by decide) rfl (Nat.le_of_ble_eq_true rfl) rfl ?_
  intro p e s m below meth c A ls C0 hP hD0 hS hl
  obtain ⟨hx, hb, hml, hown, hts, hr, hlocks, hK, hE, hA⟩ := id C0
  have hU : ∀ w ∈ U, w.before _ s = true := fun w h => hts w (List.mem_cons_of_mem _ h)
  have hD : ∀ (so : GS) (r0 : GS) (r1 : GS) (r2 : GS) (rw : Nat → GS) (re : Nat → Nat → Int64) (tn : Option Nat) (se : GS) (sv : GS) (sk : GS) (sd : GS), va_D A (wC γ a so r0 r1 r2 rw re tn se sv sk sd) := fun _ _ _ _ _ _ _ _ _ _ _ => hD0.fst rfl
  have hl : lv_has ls 3 [(0, .ref ((a 0) 0)), (1, .int x1), (2, .int x2)] := hl
  have J23 : ∀ (so_4 : GS) (H : Heap) (locs : List Loc) (ls : Array Slot), f_X6_show_J23 so_4 = some (rv, so_z) → va_P γ.1 vwCl (wC γ a so_4 r0 r1 r2 rw re tn se sv sk sd) H → va_S A s.heap H locs → lv_has ls 3 [(0, .ref ((a 0) 0))] → W p l e (rmK 1 21) s m ([.ref ((a 0) 0), .int x1, .int x2] : List Value).toArray below meth c H locs 0 0 (MQ below (KQ γ A (some (.int rv)) (wC γ a so_z r0 r1 r2 rw re tn se sv sk sd)) ([.ref ((a 0) 0), .int x1, .int x2] : List Value).toArray s 0 0 A) (F0 m 23 ls []) := by
    intro so_4 H locs ls hf hP hS hl
    unfold f_X6_show_J23 at hf
    refine lv_aload_n hx hb dX6_show_23 rfl (lv_at hl 0 rfl) ?_
    refine lv_iconst (v := 1) hx hb dX6_show_24 (by decide) ?_
    obtain ⟨r_5, so_6, hg_7, hf⟩ := bd2_of hf
    refine kt_V0 (As := [.int (1 : Int32)]) (rest := []) (st1 := [.int r_5]) (b := (a 0) 0) C0 (c_X6_refused l γ a hg_7) (cxV (nA := 1) hts goodU U343 U345 U0 U84 U346 (by decide +kernel) ⟨Nat.le_of_ble_eq_true rfl, Nat.le_of_ble_eq_true rfl⟩) hP (hD _ _ _ _ _ _ _ _ _ _ _) hS hl dX6_show_25 0 6 rfl rfl rfl rfl (Nat.le_of_ble_eq_true rfl) rfl rfl (fun H locs hP hS => ?_)
    obtain ⟨rfl, rfl⟩ := rt2 hf
    exact kt_iret C0 hP hS dX6_show_28
  have J29 : ∀ (x1_9 : Int32) (x2_10 : Int32) (so_11 : GS) (H : Heap) (locs : List Loc) (ls : Array Slot), f_X6_show_J29 x1_9 x2_10 so_11 = some (rv, so_z) → va_P γ.1 vwCl (wC γ a so_11 r0 r1 r2 rw re tn se sv sk sd) H → va_S A s.heap H locs → lv_has ls 3 [(0, .ref ((a 0) 0)), (1, .int x1_9), (2, .int x2_10)] → W p l e (rmK 1 21) s m ([.ref ((a 0) 0), .int x1, .int x2] : List Value).toArray below meth c H locs 0 0 (MQ below (KQ γ A (some (.int rv)) (wC γ a so_z r0 r1 r2 rw re tn se sv sk sd)) ([.ref ((a 0) 0), .int x1, .int x2] : List Value).toArray s 0 0 A) (F0 m 29 ls []) := by
    intro x1_9 x2_10 so_11 H locs ls hf hP hS hl
    unfold f_X6_show_J29 at hf
    refine lv_aload_n hx hb dX6_show_29 rfl (lv_at hl 0 rfl) ?_
    refine va_get (D := γ.1) (ci := 6) (v := .ref ((a 0) 6)) (C := RX6) (T := TX6) (N := 12) hx hb hU uin6 hown hK hP 0 rfl rfl 5 (by decide) (hU _ U304) (fun _ h9 => h9) rfl dX6_show_30 ?_
    refine lv_iload_n hx hb dX6_show_33 rfl (lv_at hl 1 rfl) ?_
    refine lv_iload_n hx hb dX6_show_34 rfl (lv_at hl 2 rfl) ?_
    obtain ⟨g_12, hf⟩ := gd_of hf
    refine va_iast hx hb hK hP (hD _ _ _ _ _ _ _ _ _ _ _) hS 2 0 rfl rfl (inB_vp g_12) dX6_show_35 (fun H locs hP _ hS => ?_)
    obtain ⟨so_13, e_so_13, hf⟩ := nm_of hf
    replace hP : va_P γ.1 vwCl (wC γ a so_13 r0 r1 r2 rw re tn se sv sk sd) H := by rw [e_so_13]; exact hP
    refine lv_iload_n hx hb dX6_show_36 rfl (lv_at hl 2 rfl) ?_
    refine lv_iconst (v := -1) hx hb dX6_show_37 (by decide) ?_
    refine lv_icmp_ne (tgt := 45) hx hb dX6_show_38 (by decide) (fun c_14 => ?_) (fun c_14 => ?_)
    · replace hf := ite_n c_14 hf
      refine lv_iconst (v := 1) hx hb dX6_show_45 (by decide) ?_
      obtain ⟨rfl, rfl⟩ := rt2 hf
      exact kt_iret C0 hP hS dX6_show_46
    · replace hf := ite_p c_14 hf
      refine lv_iconst (v := 0) hx hb dX6_show_41 (by decide) ?_
      refine lv_goto (tgt := 46) hx hb dX6_show_42 (by decide) ?_
      obtain ⟨rfl, rfl⟩ := rt2 hf
      exact kt_iret C0 hP hS dX6_show_46
  unfold f_X6_show at hf
  refine lv_iload_n hx hb dX6_show_0 rfl (lv_at hl 1 rfl) ?_
  obtain ⟨r_1, hg_2, hf⟩ := bd_of hf
  refine kt_SF (As := [.int x1]) (rest := []) (st1 := [.int r_1]) (wc' := wC γ a so r0 r1 r2 rw re tn se sv sk sd) C0 (c_X6_isShelf l γ hg_2) (cxS (nA := 1) hts goodU U340 U341 U84 U342 (by decide +kernel) ⟨Nat.le_of_ble_eq_true rfl, Nat.le_of_ble_eq_true rfl⟩) hP (hD _ _ _ _ _ _ _ _ _ _ _) hS hl dX6_show_1 foc_nil rfl (Nat.le_of_ble_eq_true rfl) rfl rfl (fun H locs hP hS => ?_)
  refine lv_if_eq (tgt := 23) hx hb dX6_show_4 (by decide) (fun c_3 => ?_) (fun c_3 => ?_)
  · replace hf := ite_p c_3 hf
    exact J23 so _ _ _ hf hP hS (lv_sub hl [0] rfl)
  · replace hf := ite_n c_3 hf
    refine lv_iload_n hx hb dX6_show_7 rfl (lv_at hl 2 rfl) ?_
    refine lv_iconst (v := -1) hx hb dX6_show_8 (by decide) ?_
    refine lv_icmp_eq (tgt := 29) hx hb dX6_show_9 (by decide) (fun c_8 => ?_) (fun c_8 => ?_)
    · replace hf := ite_p c_8 hf
      exact J29 x1 x2 so _ _ _ hf hP hS (lv_sub hl [0, 1, 2] rfl)
    · replace hf := ite_n c_8 hf
      refine lv_aload_n hx hb dX6_show_12 rfl (lv_at hl 0 rfl) ?_
      refine va_get (D := γ.1) (ci := 6) (v := .ref ((a 1) 0)) (C := RX6) (T := TX6) (N := 12) hx hb hU uin6 hown hK hP 0 rfl rfl 0 (by decide) (hU _ U299) (fun _ h9 => h9) rfl dX6_show_13 ?_
      refine lv_iload_n hx hb dX6_show_16 rfl (lv_at hl 2 rfl) ?_
      obtain ⟨r_15, hg_16, hf⟩ := bd_of hf
      refine kt_VF (As := [.int x2]) (rest := []) (st1 := [.int r_15]) (b := (a 1) 0) (wc' := wC γ a so r0 r1 r2 rw re tn se sv sk sd) C0 (c_X3_isPeak l γ (a 1) hg_16) (cxV (nA := 1) hts goodU U403 U404 U405 U85 U406 (by decide +kernel) ⟨Nat.le_of_ble_eq_true rfl, Nat.le_of_ble_eq_true rfl⟩) hP (hD _ _ _ _ _ _ _ _ _ _ _) hS hl dX6_show_17 (foc_ro (foc_r0 γ a _ _ _ _ _ _ _ _ _ _ _ (fun _ _ => 0))) 0 3 rfl rfl rfl rfl (Nat.le_of_ble_eq_true rfl) rfl rfl (fun H locs hP hS => ?_)
      refine lv_if_ne (tgt := 29) hx hb dX6_show_20 (by decide) (fun c_17 => ?_) (fun c_17 => ?_)
      · replace hf := ite_n c_17 hf
        exact J29 x1 x2 so _ _ _ hf hP hS (lv_sub hl [0, 1, 2] rfl)
      · replace hf := ite_p c_17 hf
        exact J23 so _ _ _ hf hP hS (lv_sub hl [0] rfl)
set_option maxHeartbeats 4000000 in
set_option maxRecDepth 100000 in
theorem c_X6_holds (l : Launch) (γ : Gm) (a : Nat → Nat → Nat) {so : GS} {r0 : GS} {r1 : GS} {r2 : GS} {rw : Nat → GS} {re : Nat → Nat → Int64} {tn : Option Nat} {se : GS} {sv : GS} {sk : GS} {sd : GS} {x1 : Int32} {rv : Int32} (hf : f_X6_holds so x1 = some rv) : Kt l γ yX6_holds (Cond.code yX6_holds cX6_holds 2 (some .int) :: U) 1 20 [.ref ((a 0) 0), .int x1] (wC γ a so r0 r1 r2 rw re tn se sv sk sd) (some (.int rv)) (wC γ a so r0 r1 r2 rw re tn se sv sk sd) := by
  refine Kt.of (by decide) rfl (Nat.le_of_ble_eq_true rfl) rfl ?_
  intro p e s m below meth c A ls C0 hP hD0 hS hl
  obtain ⟨hx, hb, hml, hown, hts, hr, hlocks, hK, hE, hA⟩ := id C0
  have hU : ∀ w ∈ U, w.before _ s = true := fun w h => hts w (List.mem_cons_of_mem _ h)
  have hD : ∀ (so : GS) (r0 : GS) (r1 : GS) (r2 : GS) (rw : Nat → GS) (re : Nat → Nat → Int64) (tn : Option Nat) (se : GS) (sv : GS) (sk : GS) (sd : GS), va_D A (wC γ a so r0 r1 r2 rw re tn se sv sk sd) := fun _ _ _ _ _ _ _ _ _ _ _ => hD0.fst rfl
  have hl : lv_has ls 2 [(0, .ref ((a 0) 0)), (1, .int x1)] := hl
  unfold f_X6_holds at hf
  refine lv_iload_n hx hb dX6_holds_0 rfl (lv_at hl 1 rfl) ?_
  obtain ⟨r_1, hg_2, hf⟩ := bd_of hf
  refine kt_SF (As := [.int x1]) (rest := []) (st1 := [.int r_1]) (wc' := wC γ a so r0 r1 r2 rw re tn se sv sk sd) C0 (c_X6_isShelf l γ hg_2) (cxS (nA := 1) hts goodU U340 U341 U84 U342 (by decide +kernel) ⟨Nat.le_of_ble_eq_true rfl, Nat.le_of_ble_eq_true rfl⟩) hP (hD _ _ _ _ _ _ _ _ _ _ _) hS hl dX6_holds_1 foc_nil rfl (Nat.le_of_ble_eq_true rfl) rfl rfl (fun H locs hP hS => ?_)
  refine lv_if_eq (tgt := 16) hx hb dX6_holds_4 (by decide) (fun c_3 => ?_) (fun c_3 => ?_)
  · replace hf := ite_p c_3 hf
    refine lv_iconst (v := -1) hx hb dX6_holds_16 (by decide) ?_
    obtain rfl := Option.some.inj hf
    exact kt_iret C0 hP hS dX6_holds_17
  · replace hf := ite_n c_3 hf
    refine lv_aload_n hx hb dX6_holds_7 rfl (lv_at hl 0 rfl) ?_
    refine va_get (D := γ.1) (ci := 6) (v := .ref ((a 0) 6)) (C := RX6) (T := TX6) (N := 12) hx hb hU uin6 hown hK hP 0 rfl rfl 5 (by decide) (hU _ U304) (fun _ h9 => h9) rfl dX6_holds_8 ?_
    refine lv_iload_n hx hb dX6_holds_11 rfl (lv_at hl 1 rfl) ?_
    obtain ⟨g_4, hf⟩ := gd_of hf
    refine va_iald hx hb hK hP 2 0 rfl rfl (inB_vp g_4) dX6_holds_12 ?_
    refine lv_goto (tgt := 17) hx hb dX6_holds_13 (by decide) ?_
    obtain rfl := Option.some.inj hf
    exact kt_iret C0 hP hS dX6_holds_17
set_option maxHeartbeats 4000000 in
set_option maxRecDepth 100000 in
theorem c_X6_said (l : Launch) (γ : Gm) (a : Nat → Nat → Nat) {so : GS} {r0 : GS} {r1 : GS} {r2 : GS} {rw : Nat → GS} {re : Nat → Nat → Int64} {tn : Option Nat} {se : GS} {sv : GS} {sk : GS} {sd : GS} {x1 : Int32} {x2 : Int32} {rv : Int32} (hf : f_X6_said r0 x1 x2 = some rv) : Kt l γ yX6_said (Cond.code yX6_said cX6_said 3 (some .int) :: U) 4 90 [.ref ((a 0) 0), .int x1, .int x2] (wC γ a so r0 r1 r2 rw re tn se sv sk sd) (some (.int rv)) (wC γ a so r0 r1 r2 rw re tn se sv sk sd) := by
  refine Kt.of (by decide) rfl (Nat.le_of_ble_eq_true rfl) rfl ?_
  intro p e s m below meth c A ls C0 hP hD0 hS hl
  obtain ⟨hx, hb, hml, hown, hts, hr, hlocks, hK, hE, hA⟩ := id C0
  have hU : ∀ w ∈ U, w.before _ s = true := fun w h => hts w (List.mem_cons_of_mem _ h)
  have hD : ∀ (so : GS) (r0 : GS) (r1 : GS) (r2 : GS) (rw : Nat → GS) (re : Nat → Nat → Int64) (tn : Option Nat) (se : GS) (sv : GS) (sk : GS) (sd : GS), va_D A (wC γ a so r0 r1 r2 rw re tn se sv sk sd) := fun _ _ _ _ _ _ _ _ _ _ _ => hD0.fst rfl
  have hl : lv_has ls 3 [(0, .ref ((a 0) 0)), (1, .int x1), (2, .int x2)] := hl
  have J44 : ∀ (x1_4 : Int32) (H : Heap) (locs : List Loc) (ls : Array Slot), f_X6_said_J44 r0 x1_4 = some rv → va_P γ.1 vwCl (wC γ a so r0 r1 r2 rw re tn se sv sk sd) H → va_S A s.heap H locs → lv_has ls 3 [(0, .ref ((a 0) 0)), (1, .int x1_4)] → W p l e (rmK 4 90) s m ([.ref ((a 0) 0), .int x1, .int x2] : List Value).toArray below meth c H locs 0 0 (MQ below (KQ γ A (some (.int rv)) (wC γ a so r0 r1 r2 rw re tn se sv sk sd)) ([.ref ((a 0) 0), .int x1, .int x2] : List Value).toArray s 0 0 A) (F0 m 44 ls []) := by
    intro x1_4 H locs ls hf hP hS hl
    unfold f_X6_said_J44 at hf
    refine lv_aload_n hx hb dX6_said_44 rfl (lv_at hl 0 rfl) ?_
    refine va_get (D := γ.1) (ci := 6) (v := .ref ((a 1) 0)) (C := RX6) (T := TX6) (N := 12) hx hb hU uin6 hown hK hP 0 rfl rfl 0 (by decide) (hU _ U299) (fun _ h9 => h9) rfl dX6_said_45 ?_
    refine lv_aload_n hx hb dX6_said_48 rfl (lv_at hl 0 rfl) ?_
    refine va_get (D := γ.1) (ci := 6) (v := .ref ((a 1) 0)) (C := RX6) (T := TX6) (N := 12) hx hb hU uin6 hown hK hP 0 rfl rfl 0 (by decide) (hU _ U299) (fun _ h9 => h9) rfl dX6_said_49 ?_
    refine va_getN (D := γ.1) (ci := 3) (v := .int (r0 0 16)) (C := RX3) (T := TX3) (N := 18) hx hb hU uin3 hown hK hP 4 rfl rfl 16 (by decide) (va_Nw.use rfl (hE.2.2.2.2.2.1 _ NW25)) (fun _ h9 => h9) rfl dX6_said_52 ?_
    obtain ⟨r_5, hg_6, hf⟩ := bd_of hf
    refine kt_VF (As := [.int (r0 0 16)]) (rest := []) (st1 := [.int r_5]) (b := (a 1) 0) (wc' := wC γ a so r0 r1 r2 rw re tn se sv sk sd) C0 (c_X3_blackIn l γ (a 1) hg_6) (cxV (nA := 1) hts goodU U427 U428 U429 U85 U430 (by decide +kernel) ⟨Nat.le_of_ble_eq_true rfl, Nat.le_of_ble_eq_true rfl⟩) hP (hD _ _ _ _ _ _ _ _ _ _ _) hS hl dX6_said_55 (foc_ro (foc_r0 γ a _ _ _ _ _ _ _ _ _ _ _ (fun _ _ => 0))) 0 3 rfl rfl rfl rfl (Nat.le_of_ble_eq_true rfl) rfl rfl (fun H locs hP hS => ?_)
    refine lv_iload_n hx hb dX6_said_58 rfl (lv_at hl 1 rfl) ?_
    obtain ⟨r_7, hg_8, hf⟩ := bd_of hf
    refine kt_SF (As := [.int r_5, .int x1_4]) (rest := []) (st1 := [.int r_7]) (wc' := wC γ a so r0 r1 r2 rw re tn se sv sk sd) C0 (c_X6_bit l γ hg_8) (cxS (nA := 2) hts goodU U448 U441 U84 U442 (by decide +kernel) ⟨Nat.le_of_ble_eq_true rfl, Nat.le_of_ble_eq_true rfl⟩) hP (hD _ _ _ _ _ _ _ _ _ _ _) hS hl dX6_said_59 foc_nil rfl (Nat.le_of_ble_eq_true rfl) rfl rfl (fun H locs hP hS => ?_)
    obtain rfl := Option.some.inj hf
    exact kt_iret C0 hP hS dX6_said_62
  have J63 : ∀ (x1_10 : Int32) (H : Heap) (locs : List Loc) (ls : Array Slot), f_X6_said_J63 r0 x1_10 = some rv → va_P γ.1 vwCl (wC γ a so r0 r1 r2 rw re tn se sv sk sd) H → va_S A s.heap H locs → lv_has ls 3 [(0, .ref ((a 0) 0)), (1, .int x1_10)] → W p l e (rmK 4 90) s m ([.ref ((a 0) 0), .int x1, .int x2] : List Value).toArray below meth c H locs 0 0 (MQ below (KQ γ A (some (.int rv)) (wC γ a so r0 r1 r2 rw re tn se sv sk sd)) ([.ref ((a 0) 0), .int x1, .int x2] : List Value).toArray s 0 0 A) (F0 m 63 ls []) := by
    intro x1_10 H locs ls hf hP hS hl
    unfold f_X6_said_J63 at hf
    refine lv_aload_n hx hb dX6_said_63 rfl (lv_at hl 0 rfl) ?_
    refine va_get (D := γ.1) (ci := 6) (v := .ref ((a 1) 0)) (C := RX6) (T := TX6) (N := 12) hx hb hU uin6 hown hK hP 0 rfl rfl 0 (by decide) (hU _ U299) (fun _ h9 => h9) rfl dX6_said_64 ?_
    refine lv_iload_n hx hb dX6_said_67 rfl (lv_at hl 1 rfl) ?_
    refine lv_bipush (v := 100) hx hb dX6_said_68 (by decide) ?_
    obtain ⟨r_11, hg_12, hf⟩ := bd_of hf
    refine kt_VF (As := [.int x1_10, .int (100 : Int32)]) (rest := []) (st1 := [.int r_11]) (b := (a 1) 0) (wc' := wC γ a so r0 r1 r2 rw re tn se sv sk sd) C0 (c_X3_mournedYears l γ (a 1) hg_12) (cxV (nA := 2) hts goodU U449 U450 U451 U85 U452 (by decide +kernel) ⟨Nat.le_of_ble_eq_true rfl, Nat.le_of_ble_eq_true rfl⟩) hP (hD _ _ _ _ _ _ _ _ _ _ _) hS hl dX6_said_70 (foc_ro (foc_r0 γ a _ _ _ _ _ _ _ _ _ _ _ (fun _ _ => 0))) 0 3 rfl rfl rfl rfl (Nat.le_of_ble_eq_true rfl) rfl rfl (fun H locs hP hS => ?_)
    obtain rfl := Option.some.inj hf
    exact kt_iret C0 hP hS dX6_said_73
  unfold f_X6_said at hf
  refine lv_iload_n hx hb dX6_said_0 rfl (lv_at hl 2 rfl) ?_
  by_cases c_1 : x2 = (0 : Int32)
  · replace hf := ite_p c_1 hf
    refine lv_tableIn (off := 82) (tgt := 83) hx hb dX6_said_1 (by rw [c_1]; decide) (by rw [c_1]; decide) (by rw [c_1]; rfl) (by decide) ?_
    refine lv_aload_n hx hb dX6_said_83 rfl (lv_at hl 0 rfl) ?_
    refine va_get (D := γ.1) (ci := 6) (v := .ref ((a 1) 0)) (C := RX6) (T := TX6) (N := 12) hx hb hU uin6 hown hK hP 0 rfl rfl 0 (by decide) (hU _ U299) (fun _ h9 => h9) rfl dX6_said_84 ?_
    refine va_getN (D := γ.1) (ci := 3) (v := .ref ((a 1) 6)) (C := RX3) (T := TX3) (N := 18) hx hb hU uin3 hown hK hP 4 rfl rfl 5 (by decide) (va_Nw.use rfl (hE.2.2.2.2.2.1 _ NW12)) (fun _ h9 => h9) rfl dX6_said_87 ?_
    refine lv_iload_n hx hb dX6_said_90 rfl (lv_at hl 1 rfl) ?_
    obtain ⟨g_2, hf⟩ := gd_of hf
    refine va_iald hx hb hK hP 8 0 rfl rfl (inB_vp g_2) dX6_said_91 ?_
    obtain rfl := Option.some.inj hf
    exact kt_iret C0 hP hS dX6_said_92
  · replace hf := ite_n c_1 hf
    by_cases c_3 : x2 = (1 : Int32)
    · replace hf := ite_p c_3 hf
      refine lv_tableIn (off := 43) (tgt := 44) hx hb dX6_said_1 (by rw [c_3]; decide) (by rw [c_3]; decide) (by rw [c_3]; rfl) (by decide) ?_
      exact J44 x1 _ _ _ hf hP hS (lv_sub hl [0, 1] rfl)
    · replace hf := ite_n c_3 hf
      by_cases c_9 : x2 = (2 : Int32)
      · replace hf := ite_p c_9 hf
        refine lv_tableIn (off := 62) (tgt := 63) hx hb dX6_said_1 (by rw [c_9]; decide) (by rw [c_9]; decide) (by rw [c_9]; rfl) (by decide) ?_
        exact J63 x1 _ _ _ hf hP hS (lv_sub hl [0, 1] rfl)
      · replace hf := ite_n c_9 hf
        by_cases c_13 : x2 = (3 : Int32)
        · replace hf := ite_p c_13 hf
          refine lv_tableIn (off := 43) (tgt := 44) hx hb dX6_said_1 (by rw [c_13]; decide) (by rw [c_13]; decide) (by rw [c_13]; rfl) (by decide) ?_
          exact J44 x1 _ _ _ hf hP hS (lv_sub hl [0, 1] rfl)
        · replace hf := ite_n c_13 hf
          by_cases c_14 : x2 = (4 : Int32)
          · replace hf := ite_p c_14 hf
            refine lv_tableIn (off := 73) (tgt := 74) hx hb dX6_said_1 (by rw [c_14]; decide) (by rw [c_14]; decide) (by rw [c_14]; rfl) (by decide) ?_
            refine lv_aload_n hx hb dX6_said_74 rfl (lv_at hl 0 rfl) ?_
            refine va_get (D := γ.1) (ci := 6) (v := .ref ((a 1) 0)) (C := RX6) (T := TX6) (N := 12) hx hb hU uin6 hown hK hP 0 rfl rfl 0 (by decide) (hU _ U299) (fun _ h9 => h9) rfl dX6_said_75 ?_
            refine lv_iload_n hx hb dX6_said_78 rfl (lv_at hl 1 rfl) ?_
            obtain ⟨r_15, hg_16, hf⟩ := bd_of hf
            refine kt_VF (As := [.int x1]) (rest := []) (st1 := [.int r_15]) (b := (a 1) 0) (wc' := wC γ a so r0 r1 r2 rw re tn se sv sk sd) C0 (c_X3_sightOf l γ (a 1) hg_16) (cxV (nA := 1) hts goodU U456 U457 U458 U85 U459 (by decide +kernel) ⟨Nat.le_of_ble_eq_true rfl, Nat.le_of_ble_eq_true rfl⟩) hP (hD _ _ _ _ _ _ _ _ _ _ _) hS hl dX6_said_79 (foc_ro (foc_r0 γ a _ _ _ _ _ _ _ _ _ _ _ (fun _ _ => 0))) 0 3 rfl rfl rfl rfl (Nat.le_of_ble_eq_true rfl) rfl rfl (fun H locs hP hS => ?_)
            obtain rfl := Option.some.inj hf
            exact kt_iret C0 hP hS dX6_said_82
          · replace hf := ite_n c_14 hf
            by_cases c_17 : x2 = (5 : Int32)
            · replace hf := ite_p c_17 hf
              refine lv_tableIn (off := 62) (tgt := 63) hx hb dX6_said_1 (by rw [c_17]; decide) (by rw [c_17]; decide) (by rw [c_17]; rfl) (by decide) ?_
              exact J63 x1 _ _ _ hf hP hS (lv_sub hl [0, 1] rfl)
            · replace hf := ite_n c_17 hf
              by_cases c_18 : x2 = (6 : Int32)
              · replace hf := ite_p c_18 hf
                refine lv_tableIn (off := 62) (tgt := 63) hx hb dX6_said_1 (by rw [c_18]; decide) (by rw [c_18]; decide) (by rw [c_18]; rfl) (by decide) ?_
                exact J63 x1 _ _ _ hf hP hS (lv_sub hl [0, 1] rfl)
              · replace hf := ite_n c_18 hf
                refine lv_tableOut (tgt := 83) hx hb dX6_said_1 (by have := lv_neT c_1 (a := 0) (by decide); have := lv_neT c_3 (a := 1) (by decide); have := lv_neT c_9 (a := 2) (by decide); have := lv_neT c_13 (a := 3) (by decide); have := lv_neT c_14 (a := 4) (by decide); have := lv_neT c_17 (a := 5) (by decide); have := lv_neT c_18 (a := 6) (by decide); omega) (by decide) ?_
                refine lv_aload_n hx hb dX6_said_83 rfl (lv_at hl 0 rfl) ?_
                refine va_get (D := γ.1) (ci := 6) (v := .ref ((a 1) 0)) (C := RX6) (T := TX6) (N := 12) hx hb hU uin6 hown hK hP 0 rfl rfl 0 (by decide) (hU _ U299) (fun _ h9 => h9) rfl dX6_said_84 ?_
                refine va_getN (D := γ.1) (ci := 3) (v := .ref ((a 1) 6)) (C := RX3) (T := TX3) (N := 18) hx hb hU uin3 hown hK hP 4 rfl rfl 5 (by decide) (va_Nw.use rfl (hE.2.2.2.2.2.1 _ NW12)) (fun _ h9 => h9) rfl dX6_said_87 ?_
                refine lv_iload_n hx hb dX6_said_90 rfl (lv_at hl 1 rfl) ?_
                obtain ⟨g_19, hf⟩ := gd_of hf
                refine va_iald hx hb hK hP 8 0 rfl rfl (inB_vp g_19) dX6_said_91 ?_
                obtain rfl := Option.some.inj hf
                exact kt_iret C0 hP hS dX6_said_92
set_option maxHeartbeats 4000000 in
set_option maxRecDepth 100000 in
theorem c_X6_says (l : Launch) (γ : Gm) (a : Nat → Nat → Nat) {so : GS} {r0 : GS} {r1 : GS} {r2 : GS} {rw : Nat → GS} {re : Nat → Nat → Int64} {tn : Option Nat} {se : GS} {sv : GS} {sk : GS} {sd : GS} {x1 : Int32} {x2 : Int32} {rv : Int32} {so_z : GS} (hf : f_X6_says so r0 x1 x2 = some (rv, so_z)) : Kt l γ yX6_says (Cond.code yX6_says cX6_says 4 (some .int) :: U) 5 112 [.ref ((a 0) 0), .int x1, .int x2] (wC γ a so r0 r1 r2 rw re tn se sv sk sd) (some (.int rv)) (wC γ a so_z r0 r1 r2 rw re tn se sv sk sd) := by
  refine Kt.of (by decide) rfl (Nat.le_of_ble_eq_true rfl) rfl ?_
  intro p e s m below meth c A ls C0 hP hD0 hS hl
  obtain ⟨hx, hb, hml, hown, hts, hr, hlocks, hK, hE, hA⟩ := id C0
  have hU : ∀ w ∈ U, w.before _ s = true := fun w h => hts w (List.mem_cons_of_mem _ h)
  have hD : ∀ (so : GS) (r0 : GS) (r1 : GS) (r2 : GS) (rw : Nat → GS) (re : Nat → Nat → Int64) (tn : Option Nat) (se : GS) (sv : GS) (sk : GS) (sd : GS), va_D A (wC γ a so r0 r1 r2 rw re tn se sv sk sd) := fun _ _ _ _ _ _ _ _ _ _ _ => hD0.fst rfl
  have hl : lv_has ls 4 [(0, .ref ((a 0) 0)), (1, .int x1), (2, .int x2)] := hl
  have J14 : ∀ (so_4 : GS) (H : Heap) (locs : List Loc) (ls : Array Slot), f_X6_says_J14 so_4 = some (rv, so_z) → va_P γ.1 vwCl (wC γ a so_4 r0 r1 r2 rw re tn se sv sk sd) H → va_S A s.heap H locs → lv_has ls 4 [(0, .ref ((a 0) 0))] → W p l e (rmK 5 112) s m ([.ref ((a 0) 0), .int x1, .int x2] : List Value).toArray below meth c H locs 0 0 (MQ below (KQ γ A (some (.int rv)) (wC γ a so_z r0 r1 r2 rw re tn se sv sk sd)) ([.ref ((a 0) 0), .int x1, .int x2] : List Value).toArray s 0 0 A) (F0 m 14 ls []) := by
    intro so_4 H locs ls hf hP hS hl
    unfold f_X6_says_J14 at hf
    refine lv_aload_n hx hb dX6_says_14 rfl (lv_at hl 0 rfl) ?_
    refine lv_iconst (v := 1) hx hb dX6_says_15 (by decide) ?_
    obtain ⟨r_5, so_6, hg_7, hf⟩ := bd2_of hf
    refine kt_V0 (As := [.int (1 : Int32)]) (rest := []) (st1 := [.int r_5]) (b := (a 0) 0) C0 (c_X6_refused l γ a hg_7) (cxV (nA := 1) hts goodU U343 U345 U0 U84 U346 (by decide +kernel) ⟨Nat.le_of_ble_eq_true rfl, Nat.le_of_ble_eq_true rfl⟩) hP (hD _ _ _ _ _ _ _ _ _ _ _) hS hl dX6_says_16 0 6 rfl rfl rfl rfl (Nat.le_of_ble_eq_true rfl) rfl rfl (fun H locs hP hS => ?_)
    obtain ⟨rfl, rfl⟩ := rt2 hf
    exact kt_iret C0 hP hS dX6_says_19
  have J65 : ∀ (so_17 : GS) (H : Heap) (locs : List Loc) (ls : Array Slot), f_X6_says_J65 so_17 = some (rv, so_z) → va_P γ.1 vwCl (wC γ a so_17 r0 r1 r2 rw re tn se sv sk sd) H → va_S A s.heap H locs → lv_has ls 4 [(0, .ref ((a 0) 0))] → W p l e (rmK 5 112) s m ([.ref ((a 0) 0), .int x1, .int x2] : List Value).toArray below meth c H locs 0 0 (MQ below (KQ γ A (some (.int rv)) (wC γ a so_z r0 r1 r2 rw re tn se sv sk sd)) ([.ref ((a 0) 0), .int x1, .int x2] : List Value).toArray s 0 0 A) (F0 m 65 ls []) := by
    intro so_17 H locs ls hf hP hS hl
    unfold f_X6_says_J65 at hf
    refine lv_aload_n hx hb dX6_says_65 rfl (lv_at hl 0 rfl) ?_
    refine lv_iconst (v := 2) hx hb dX6_says_66 (by decide) ?_
    obtain ⟨r_18, so_19, hg_20, hf⟩ := bd2_of hf
    refine kt_V0 (As := [.int (2 : Int32)]) (rest := []) (st1 := [.int r_18]) (b := (a 0) 0) C0 (c_X6_refused l γ a hg_20) (cxV (nA := 1) hts goodU U343 U345 U0 U84 U346 (by decide +kernel) ⟨Nat.le_of_ble_eq_true rfl, Nat.le_of_ble_eq_true rfl⟩) hP (hD _ _ _ _ _ _ _ _ _ _ _) hS hl dX6_says_67 0 6 rfl rfl rfl rfl (Nat.le_of_ble_eq_true rfl) rfl rfl (fun H locs hP hS => ?_)
    obtain ⟨rfl, rfl⟩ := rt2 hf
    exact kt_iret C0 hP hS dX6_says_70
  unfold f_X6_says at hf
  refine lv_iload_n hx hb dX6_says_0 rfl (lv_at hl 1 rfl) ?_
  obtain ⟨r_1, hg_2, hf⟩ := bd_of hf
  refine kt_SF (As := [.int x1]) (rest := []) (st1 := [.int r_1]) (wc' := wC γ a so r0 r1 r2 rw re tn se sv sk sd) C0 (c_X6_isShelf l γ hg_2) (cxS (nA := 1) hts goodU U340 U341 U84 U342 (by decide +kernel) ⟨Nat.le_of_ble_eq_true rfl, Nat.le_of_ble_eq_true rfl⟩) hP (hD _ _ _ _ _ _ _ _ _ _ _) hS hl dX6_says_1 foc_nil rfl (Nat.le_of_ble_eq_true rfl) rfl rfl (fun H locs hP hS => ?_)
  refine lv_if_eq (tgt := 14) hx hb dX6_says_4 (by decide) (fun c_3 => ?_) (fun c_3 => ?_)
  · replace hf := ite_p c_3 hf
    exact J14 so _ _ _ hf hP hS (lv_sub hl [0] rfl)
  · replace hf := ite_n c_3 hf
    refine lv_iload_n hx hb dX6_says_7 rfl (lv_at hl 2 rfl) ?_
    obtain ⟨r_8, hg_9, hf⟩ := bd_of hf
    refine kt_SF (As := [.int x2]) (rest := []) (st1 := [.int r_8]) (wc' := wC γ a so r0 r1 r2 rw re tn se sv sk sd) C0 (c_X6_isKind l γ hg_9) (cxS (nA := 1) hts goodU U415 U416 U84 U417 (by decide +kernel) ⟨Nat.le_of_ble_eq_true rfl, Nat.le_of_ble_eq_true rfl⟩) hP (hD _ _ _ _ _ _ _ _ _ _ _) hS hl dX6_says_8 foc_nil rfl (Nat.le_of_ble_eq_true rfl) rfl rfl (fun H locs hP hS => ?_)
    refine lv_if_ne (tgt := 20) hx hb dX6_says_11 (by decide) (fun c_10 => ?_) (fun c_10 => ?_)
    · replace hf := ite_n c_10 hf
      refine lv_aload_n hx hb dX6_says_20 rfl (lv_at hl 0 rfl) ?_
      refine va_get (D := γ.1) (ci := 6) (v := .ref ((a 0) 6)) (C := RX6) (T := TX6) (N := 12) hx hb hU uin6 hown hK hP 0 rfl rfl 5 (by decide) (hU _ U304) (fun _ h9 => h9) rfl dX6_says_21 ?_
      refine lv_iload_n hx hb dX6_says_24 rfl (lv_at hl 1 rfl) ?_
      obtain ⟨g_11, hf⟩ := gd_of hf
      refine va_iald hx hb hK hP 2 0 rfl rfl (inB_vp g_11) dX6_says_25 ?_
      refine lv_topi (fun u_12 e_u_12 => ?_)
      replace hf := nm_y hf e_u_12
      refine lv_istore_n (lv' := [(3, .int u_12), (0, .ref ((a 0) 0)), (1, .int x1), (2, .int x2)]) hx hb dX6_says_26 rfl hl (by decide) rfl (fun ls hl => ?_)
      refine lv_iload_n hx hb dX6_says_27 rfl (lv_at hl 0 rfl) ?_
      refine lv_iconst (v := -1) hx hb dX6_says_28 (by decide) ?_
      refine lv_icmp_ne (tgt := 38) hx hb dX6_says_29 (by decide) (fun c_13 => ?_) (fun c_13 => ?_)
      · replace hf := ite_n c_13 hf
        refine lv_aload_n hx hb dX6_says_38 rfl (lv_at hl 1 rfl) ?_
        refine va_get (D := γ.1) (ci := 6) (v := .ref ((a 1) 0)) (C := RX6) (T := TX6) (N := 12) hx hb hU uin6 hown hK hP 0 rfl rfl 0 (by decide) (hU _ U299) (fun _ h9 => h9) rfl dX6_says_39 ?_
        refine lv_iload_n hx hb dX6_says_42 rfl (lv_at hl 0 rfl) ?_
        obtain ⟨r_14, hg_15, hf⟩ := bd_of hf
        refine kt_VF (As := [.int u_12]) (rest := []) (st1 := [.int r_14]) (b := (a 1) 0) (wc' := wC γ a so r0 r1 r2 rw re tn se sv sk sd) C0 (c_X3_isPeak l γ (a 1) hg_15) (cxV (nA := 1) hts goodU U403 U404 U405 U85 U406 (by decide +kernel) ⟨Nat.le_of_ble_eq_true rfl, Nat.le_of_ble_eq_true rfl⟩) hP (hD _ _ _ _ _ _ _ _ _ _ _) hS hl dX6_says_43 (foc_ro (foc_r0 γ a _ _ _ _ _ _ _ _ _ _ _ (fun _ _ => 0))) 0 3 rfl rfl rfl rfl (Nat.le_of_ble_eq_true rfl) rfl rfl (fun H locs hP hS => ?_)
        refine lv_if_eq (tgt := 65) hx hb dX6_says_46 (by decide) (fun c_16 => ?_) (fun c_16 => ?_)
        · replace hf := ite_p c_16 hf
          exact J65 so _ _ _ hf hP hS (lv_sub hl [1] rfl)
        · replace hf := ite_n c_16 hf
          refine lv_aload_n hx hb dX6_says_49 rfl (lv_at hl 1 rfl) ?_
          refine va_get (D := γ.1) (ci := 6) (v := .ref ((a 1) 0)) (C := RX6) (T := TX6) (N := 12) hx hb hU uin6 hown hK hP 0 rfl rfl 0 (by decide) (hU _ U299) (fun _ h9 => h9) rfl dX6_says_50 ?_
          refine va_getN (D := γ.1) (ci := 3) (v := .ref ((a 1) 3)) (C := RX3) (T := TX3) (N := 18) hx hb hU uin3 hown hK hP 4 rfl rfl 2 (by decide) (va_Nw.use rfl (hE.2.2.2.2.2.1 _ NW8)) (fun _ h9 => h9) rfl dX6_says_53 ?_
          refine lv_iload_n hx hb dX6_says_56 rfl (lv_at hl 0 rfl) ?_
          obtain ⟨g_21, hf⟩ := gd_of hf
          refine va_iald hx hb hK hP 5 0 rfl rfl (inB_vp g_21) dX6_says_57 ?_
          refine lv_iload_n hx hb dX6_says_58 rfl (lv_at hl 3 rfl) ?_
          obtain ⟨r_22, hg_23, hf⟩ := bd_of hf
          refine kt_SF (As := [.int (r0 3 u_12.toNatClampNeg), .int x2]) (rest := []) (st1 := [.int r_22]) (wc' := wC γ a so r0 r1 r2 rw re tn se sv sk sd) C0 (c_X6_isUnder l γ hg_23) (cxS (nA := 2) hts goodU U418 U419 U84 U420 (by decide +kernel) ⟨Nat.le_of_ble_eq_true rfl, Nat.le_of_ble_eq_true rfl⟩) hP (hD _ _ _ _ _ _ _ _ _ _ _) hS hl dX6_says_59 foc_nil rfl (Nat.le_of_ble_eq_true rfl) rfl rfl (fun H locs hP hS => ?_)
          refine lv_if_ne (tgt := 71) hx hb dX6_says_62 (by decide) (fun c_24 => ?_) (fun c_24 => ?_)
          · replace hf := ite_n c_24 hf
            refine lv_aload_n hx hb dX6_says_71 rfl (lv_at hl 1 rfl) ?_
            refine lv_iload_n hx hb dX6_says_72 rfl (lv_at hl 0 rfl) ?_
            refine lv_iload_n hx hb dX6_says_73 rfl (lv_at hl 3 rfl) ?_
            obtain ⟨r_25, hg_26, hf⟩ := bd_of hf
            refine kt_V0 (As := [.int u_12, .int x2]) (rest := []) (st1 := [.int r_25]) (b := (a 0) 0) C0 (c_X6_said l γ a hg_26) (cxV (nA := 2) hts goodU U423 U425 U4 U84 U426 (by decide +kernel) ⟨Nat.le_of_ble_eq_true rfl, Nat.le_of_ble_eq_true rfl⟩) hP (hD _ _ _ _ _ _ _ _ _ _ _) hS hl dX6_says_74 0 6 rfl rfl rfl rfl (Nat.le_of_ble_eq_true rfl) rfl rfl (fun H locs hP hS => ?_)
            obtain ⟨rfl, rfl⟩ := rt2 hf
            exact kt_iret C0 hP hS dX6_says_77
          · replace hf := ite_p c_24 hf
            exact J65 so _ _ _ hf hP hS (lv_sub hl [1] rfl)
      · replace hf := ite_p c_13 hf
        refine lv_aload_n hx hb dX6_says_32 rfl (lv_at hl 1 rfl) ?_
        refine lv_iconst (v := 3) hx hb dX6_says_33 (by decide) ?_
        obtain ⟨r_27, so_28, hg_29, hf⟩ := bd2_of hf
        refine kt_V0 (As := [.int (3 : Int32)]) (rest := []) (st1 := [.int r_27]) (b := (a 0) 0) C0 (c_X6_refused l γ a hg_29) (cxV (nA := 1) hts goodU U343 U345 U0 U84 U346 (by decide +kernel) ⟨Nat.le_of_ble_eq_true rfl, Nat.le_of_ble_eq_true rfl⟩) hP (hD _ _ _ _ _ _ _ _ _ _ _) hS hl dX6_says_34 0 6 rfl rfl rfl rfl (Nat.le_of_ble_eq_true rfl) rfl rfl (fun H locs hP hS => ?_)
        obtain ⟨rfl, rfl⟩ := rt2 hf
        exact kt_iret C0 hP hS dX6_says_37
    · replace hf := ite_p c_10 hf
      exact J14 so _ _ _ hf hP hS (lv_sub hl [0] rfl)
set_option maxHeartbeats 4000000 in
set_option maxRecDepth 100000 in
theorem c_X6_peak (l : Launch) (γ : Gm) (a : Nat → Nat → Nat) {so : GS} {r0 : GS} {r1 : GS} {r2 : GS} {rw : Nat → GS} {re : Nat → Nat → Int64} {tn : Option Nat} {se : GS} {sv : GS} {sk : GS} {sd : GS} {x1 : Int32} {x2 : Int32} {x3 : Int32} {x4 : Int32} {rv : Int32} {so_z : GS} {r0_z : GS} (hf : f_X6_peak so r0 x1 x2 x3 x4 = some (rv, so_z, r0_z)) : Kt l γ yX6_peak (Cond.code yX6_peak cX6_peak 5 (some .int) :: U) 5 117 [.ref ((a 0) 0), .int x1, .int x2, .int x3, .int x4] (wC γ a so r0 r1 r2 rw re tn se sv sk sd) (some (.int rv)) (wC γ a so_z r0_z r1 r2 rw re tn se sv sk sd) := by
  refine Kt.of (by decide) rfl (Nat.le_of_ble_eq_true rfl) rfl ?_
  intro p e s m below meth c A ls C0 hP hD0 hS hl
  obtain ⟨hx, hb, hml, hown, hts, hr, hlocks, hK, hE, hA⟩ := id C0
  have hU : ∀ w ∈ U, w.before _ s = true := fun w h => hts w (List.mem_cons_of_mem _ h)
  have hD : ∀ (so : GS) (r0 : GS) (r1 : GS) (r2 : GS) (rw : Nat → GS) (re : Nat → Nat → Int64) (tn : Option Nat) (se : GS) (sv : GS) (sk : GS) (sd : GS), va_D A (wC γ a so r0 r1 r2 rw re tn se sv sk sd) := fun _ _ _ _ _ _ _ _ _ _ _ => hD0.fst rfl
  have hl : lv_has ls 5 [(0, .ref ((a 0) 0)), (1, .int x1), (2, .int x2), (3, .int x3), (4, .int x4)] := hl
  have J46 : ∀ (so_7 : GS) (r0_8 : GS) (H : Heap) (locs : List Loc) (ls : Array Slot), f_X6_peak_J46 so_7 r0_8 = some (rv, so_z, r0_z) → va_P γ.1 vwCl (wC γ a so_7 r0_8 r1 r2 rw re tn se sv sk sd) H → va_S A s.heap H locs → lv_has ls 5 [(0, .ref ((a 0) 0))] → W p l e (rmK 5 117) s m ([.ref ((a 0) 0), .int x1, .int x2, .int x3, .int x4] : List Value).toArray below meth c H locs 0 0 (MQ below (KQ γ A (some (.int rv)) (wC γ a so_z r0_z r1 r2 rw re tn se sv sk sd)) ([.ref ((a 0) 0), .int x1, .int x2, .int x3, .int x4] : List Value).toArray s 0 0 A) (F0 m 46 ls []) := by
    intro so_7 r0_8 H locs ls hf hP hS hl
    unfold f_X6_peak_J46 at hf
    refine lv_aload_n hx hb dX6_peak_46 rfl (lv_at hl 0 rfl) ?_
    refine lv_bipush (v := 6) hx hb dX6_peak_47 (by decide) ?_
    obtain ⟨r_9, so_10, hg_11, hf⟩ := bd2_of hf
    refine kt_V0 (As := [.int (6 : Int32)]) (rest := []) (st1 := [.int r_9]) (b := (a 0) 0) C0 (c_X6_refused l γ a hg_11) (cxV (nA := 1) hts goodU U343 U345 U0 U84 U346 (by decide +kernel) ⟨Nat.le_of_ble_eq_true rfl, Nat.le_of_ble_eq_true rfl⟩) hP (hD _ _ _ _ _ _ _ _ _ _ _) hS hl dX6_peak_49 0 6 rfl rfl rfl rfl (Nat.le_of_ble_eq_true rfl) rfl rfl (fun H locs hP hS => ?_)
    obtain ⟨rfl, rfl, rfl⟩ := rt3 hf
    exact kt_iret C0 hP hS dX6_peak_52
  unfold f_X6_peak at hf
  refine lv_iload_n hx hb dX6_peak_0 rfl (lv_at hl 1 rfl) ?_
  obtain ⟨r_1, hg_2, hf⟩ := bd_of hf
  refine kt_SF (As := [.int x1]) (rest := []) (st1 := [.int r_1]) (wc' := wC γ a so r0 r1 r2 rw re tn se sv sk sd) C0 (c_X6_isKind l γ hg_2) (cxS (nA := 1) hts goodU U415 U416 U84 U417 (by decide +kernel) ⟨Nat.le_of_ble_eq_true rfl, Nat.le_of_ble_eq_true rfl⟩) hP (hD _ _ _ _ _ _ _ _ _ _ _) hS hl dX6_peak_1 foc_nil rfl (Nat.le_of_ble_eq_true rfl) rfl rfl (fun H locs hP hS => ?_)
  refine lv_if_ne (tgt := 13) hx hb dX6_peak_4 (by decide) (fun c_3 => ?_) (fun c_3 => ?_)
  · replace hf := ite_n c_3 hf
    refine lv_iload_n hx hb dX6_peak_13 rfl (lv_at hl 2 rfl) ?_
    obtain ⟨r_4, hg_5, hf⟩ := bd_of hf
    refine kt_SF (As := [.int x2]) (rest := []) (st1 := [.int r_4]) (wc' := wC γ a so r0 r1 r2 rw re tn se sv sk sd) C0 (c_X6_isA l γ hg_5) (cxS (nA := 1) hts goodU U464 U465 U84 U466 (by decide +kernel) ⟨Nat.le_of_ble_eq_true rfl, Nat.le_of_ble_eq_true rfl⟩) hP (hD _ _ _ _ _ _ _ _ _ _ _) hS hl dX6_peak_14 foc_nil rfl (Nat.le_of_ble_eq_true rfl) rfl rfl (fun H locs hP hS => ?_)
    refine lv_if_eq (tgt := 46) hx hb dX6_peak_17 (by decide) (fun c_6 => ?_) (fun c_6 => ?_)
    · replace hf := ite_p c_6 hf
      exact J46 so r0 _ _ _ hf hP hS (lv_sub hl [0] rfl)
    · replace hf := ite_n c_6 hf
      refine lv_iload_n hx hb dX6_peak_20 rfl (lv_at hl 3 rfl) ?_
      obtain ⟨r_12, hg_13, hf⟩ := bd_of hf
      refine kt_SF (As := [.int x3]) (rest := []) (st1 := [.int r_12]) (wc' := wC γ a so r0 r1 r2 rw re tn se sv sk sd) C0 (c_X6_isPlace l γ hg_13) (cxS (nA := 1) hts goodU U467 U468 U84 U469 (by decide +kernel) ⟨Nat.le_of_ble_eq_true rfl, Nat.le_of_ble_eq_true rfl⟩) hP (hD _ _ _ _ _ _ _ _ _ _ _) hS hl dX6_peak_21 foc_nil rfl (Nat.le_of_ble_eq_true rfl) rfl rfl (fun H locs hP hS => ?_)
      refine lv_if_eq (tgt := 46) hx hb dX6_peak_24 (by decide) (fun c_14 => ?_) (fun c_14 => ?_)
      · replace hf := ite_p c_14 hf
        exact J46 so r0 _ _ _ hf hP hS (lv_sub hl [0] rfl)
      · replace hf := ite_n c_14 hf
        refine lv_iload hx hb dX6_peak_27 (lv_at hl 4 rfl) ?_
        obtain ⟨r_15, hg_16, hf⟩ := bd_of hf
        refine kt_SF (As := [.int x4]) (rest := []) (st1 := [.int r_15]) (wc' := wC γ a so r0 r1 r2 rw re tn se sv sk sd) C0 (c_X6_isHeight l γ hg_16) (cxS (nA := 1) hts goodU U470 U471 U84 U472 (by decide +kernel) ⟨Nat.le_of_ble_eq_true rfl, Nat.le_of_ble_eq_true rfl⟩) hP (hD _ _ _ _ _ _ _ _ _ _ _) hS hl dX6_peak_29 foc_nil rfl (Nat.le_of_ble_eq_true rfl) rfl rfl (fun H locs hP hS => ?_)
        refine lv_if_eq (tgt := 46) hx hb dX6_peak_32 (by decide) (fun c_17 => ?_) (fun c_17 => ?_)
        · replace hf := ite_p c_17 hf
          exact J46 so r0 _ _ _ hf hP hS (lv_sub hl [0] rfl)
        · replace hf := ite_n c_17 hf
          refine lv_aload_n hx hb dX6_peak_35 rfl (lv_at hl 0 rfl) ?_
          refine va_get (D := γ.1) (ci := 6) (v := .ref ((a 1) 0)) (C := RX6) (T := TX6) (N := 12) hx hb hU uin6 hown hK hP 0 rfl rfl 0 (by decide) (hU _ U299) (fun _ h9 => h9) rfl dX6_peak_36 ?_
          refine lv_iload_n hx hb dX6_peak_39 rfl (lv_at hl 3 rfl) ?_
          obtain ⟨r_18, hg_19, hf⟩ := bd_of hf
          refine kt_VF (As := [.int x3]) (rest := []) (st1 := [.int r_18]) (b := (a 1) 0) (wc' := wC γ a so r0 r1 r2 rw re tn se sv sk sd) C0 (c_X3_hasPeakAt l γ (a 1) hg_19) (cxV (nA := 1) hts goodU U473 U474 U475 U85 U476 (by decide +kernel) ⟨Nat.le_of_ble_eq_true rfl, Nat.le_of_ble_eq_true rfl⟩) hP (hD _ _ _ _ _ _ _ _ _ _ _) hS hl dX6_peak_40 (foc_ro (foc_r0 γ a _ _ _ _ _ _ _ _ _ _ _ (fun _ _ => 0))) 0 3 rfl rfl rfl rfl (Nat.le_of_ble_eq_true rfl) rfl rfl (fun H locs hP hS => ?_)
          refine lv_if_eq (tgt := 53) hx hb dX6_peak_43 (by decide) (fun c_20 => ?_) (fun c_20 => ?_)
          · replace hf := ite_p c_20 hf
            refine lv_aload_n hx hb dX6_peak_53 rfl (lv_at hl 0 rfl) ?_
            refine va_get (D := γ.1) (ci := 6) (v := .ref ((a 1) 0)) (C := RX6) (T := TX6) (N := 12) hx hb hU uin6 hown hK hP 0 rfl rfl 0 (by decide) (hU _ U299) (fun _ h9 => h9) rfl dX6_peak_54 ?_
            refine va_getN (D := γ.1) (ci := 3) (v := .int (r0 0 0)) (C := RX3) (T := TX3) (N := 18) hx hb hU uin3 hown hK hP 4 rfl rfl 0 (by decide) (va_Nw.use rfl (hE.2.2.2.2.2.1 _ NW4)) (fun _ h9 => h9) rfl dX6_peak_57 ?_
            refine lv_bipush (v := 10) hx hb dX6_peak_60 (by decide) ?_
            refine lv_icmp_lt (tgt := 72) hx hb dX6_peak_62 (by decide) (fun c_21 => ?_) (fun c_21 => ?_)
            · replace hf := ite_p c_21 hf
              refine lv_aload_n hx hb dX6_peak_72 rfl (lv_at hl 0 rfl) ?_
              refine va_get (D := γ.1) (ci := 6) (v := .ref ((a 1) 0)) (C := RX6) (T := TX6) (N := 12) hx hb hU uin6 hown hK hP 0 rfl rfl 0 (by decide) (hU _ U299) (fun _ h9 => h9) rfl dX6_peak_73 ?_
              refine lv_iload_n hx hb dX6_peak_76 rfl (lv_at hl 1 rfl) ?_
              refine lv_iload_n hx hb dX6_peak_77 rfl (lv_at hl 2 rfl) ?_
              refine lv_iload_n hx hb dX6_peak_78 rfl (lv_at hl 3 rfl) ?_
              refine lv_iload hx hb dX6_peak_79 (lv_at hl 4 rfl) ?_
              obtain ⟨r_22, r0_23, hg_24, hf⟩ := bd2_of hf
              refine kt_VF (As := [.int x1, .int x2, .int x3, .int x4]) (rest := []) (st1 := [.int r_22]) (b := (a 1) 0) (wc' := wC γ a so r0_23 r1 r2 rw re tn se sv sk sd) C0 (c_X3_addPeak l γ (a 1) hg_24) (cxV (nA := 4) hts goodU U477 U478 U479 U85 U480 (by decide +kernel) ⟨Nat.le_of_ble_eq_true rfl, Nat.le_of_ble_eq_true rfl⟩) hP (hD _ _ _ _ _ _ _ _ _ _ _) hS hl dX6_peak_81 (foc_r0 γ a _ _ _ _ _ _ _ _ _ _ _ _) 0 3 rfl rfl rfl rfl (Nat.le_of_ble_eq_true rfl) rfl rfl (fun H locs hP hS => ?_)
              obtain ⟨rfl, rfl, rfl⟩ := rt3 hf
              exact kt_iret C0 hP hS dX6_peak_84
            · replace hf := ite_n c_21 hf
              refine lv_aload_n hx hb dX6_peak_65 rfl (lv_at hl 0 rfl) ?_
              refine lv_bipush (v := 7) hx hb dX6_peak_66 (by decide) ?_
              obtain ⟨r_25, so_26, hg_27, hf⟩ := bd2_of hf
              refine kt_V0 (As := [.int (7 : Int32)]) (rest := []) (st1 := [.int r_25]) (b := (a 0) 0) C0 (c_X6_refused l γ a hg_27) (cxV (nA := 1) hts goodU U343 U345 U0 U84 U346 (by decide +kernel) ⟨Nat.le_of_ble_eq_true rfl, Nat.le_of_ble_eq_true rfl⟩) hP (hD _ _ _ _ _ _ _ _ _ _ _) hS hl dX6_peak_68 0 6 rfl rfl rfl rfl (Nat.le_of_ble_eq_true rfl) rfl rfl (fun H locs hP hS => ?_)
              obtain ⟨rfl, rfl, rfl⟩ := rt3 hf
              exact kt_iret C0 hP hS dX6_peak_71
          · replace hf := ite_n c_20 hf
            exact J46 so r0 _ _ _ hf hP hS (lv_sub hl [0] rfl)
  · replace hf := ite_p c_3 hf
    refine lv_aload_n hx hb dX6_peak_7 rfl (lv_at hl 0 rfl) ?_
    refine lv_iconst (v := 1) hx hb dX6_peak_8 (by decide) ?_
    obtain ⟨r_28, so_29, hg_30, hf⟩ := bd2_of hf
    refine kt_V0 (As := [.int (1 : Int32)]) (rest := []) (st1 := [.int r_28]) (b := (a 0) 0) C0 (c_X6_refused l γ a hg_30) (cxV (nA := 1) hts goodU U343 U345 U0 U84 U346 (by decide +kernel) ⟨Nat.le_of_ble_eq_true rfl, Nat.le_of_ble_eq_true rfl⟩) hP (hD _ _ _ _ _ _ _ _ _ _ _) hS hl dX6_peak_9 0 6 rfl rfl rfl rfl (Nat.le_of_ble_eq_true rfl) rfl rfl (fun H locs hP hS => ?_)
    obtain ⟨rfl, rfl, rfl⟩ := rt3 hf
    exact kt_iret C0 hP hS dX6_peak_12
set_option maxHeartbeats 4000000 in
set_option maxRecDepth 100000 in
theorem c_X6_screen (l : Launch) (γ : Gm) (a : Nat → Nat → Nat) {so : GS} {r0 : GS} {r1 : GS} {r2 : GS} {rw : Nat → GS} {re : Nat → Nat → Int64} {tn : Option Nat} {se : GS} {sv : GS} {sk : GS} {sd : GS} {x1 : Int32} {x2 : Int32} {rv : Int32} {so_z : GS} {r0_z : GS} (hf : f_X6_screen so r0 x1 x2 = some (rv, so_z, r0_z)) : Kt l γ yX6_screen (Cond.code yX6_screen cX6_screen 3 (some .int) :: U) 5 114 [.ref ((a 0) 0), .int x1, .int x2] (wC γ a so r0 r1 r2 rw re tn se sv sk sd) (some (.int rv)) (wC γ a so_z r0_z r1 r2 rw re tn se sv sk sd) := by
  refine Kt.of (by decide) rfl (Nat.le_of_ble_eq_true rfl) rfl ?_
  intro p e s m below meth c A ls C0 hP hD0 hS hl
  obtain ⟨hx, hb, hml, hown, hts, hr, hlocks, hK, hE, hA⟩ := id C0
  have hU : ∀ w ∈ U, w.before _ s = true := fun w h => hts w (List.mem_cons_of_mem _ h)
  have hD : ∀ (so : GS) (r0 : GS) (r1 : GS) (r2 : GS) (rw : Nat → GS) (re : Nat → Nat → Int64) (tn : Option Nat) (se : GS) (sv : GS) (sk : GS) (sd : GS), va_D A (wC γ a so r0 r1 r2 rw re tn se sv sk sd) := fun _ _ _ _ _ _ _ _ _ _ _ => hD0.fst rfl
  have hl : lv_has ls 3 [(0, .ref ((a 0) 0)), (1, .int x1), (2, .int x2)] := hl
  have J14 : ∀ (so_4 : GS) (r0_5 : GS) (H : Heap) (locs : List Loc) (ls : Array Slot), f_X6_screen_J14 so_4 r0_5 = some (rv, so_z, r0_z) → va_P γ.1 vwCl (wC γ a so_4 r0_5 r1 r2 rw re tn se sv sk sd) H → va_S A s.heap H locs → lv_has ls 3 [(0, .ref ((a 0) 0))] → W p l e (rmK 5 114) s m ([.ref ((a 0) 0), .int x1, .int x2] : List Value).toArray below meth c H locs 0 0 (MQ below (KQ γ A (some (.int rv)) (wC γ a so_z r0_z r1 r2 rw re tn se sv sk sd)) ([.ref ((a 0) 0), .int x1, .int x2] : List Value).toArray s 0 0 A) (F0 m 14 ls []) := by
    intro so_4 r0_5 H locs ls hf hP hS hl
    unfold f_X6_screen_J14 at hf
    refine lv_aload_n hx hb dX6_screen_14 rfl (lv_at hl 0 rfl) ?_
    refine lv_bipush (v := 6) hx hb dX6_screen_15 (by decide) ?_
    obtain ⟨r_6, so_7, hg_8, hf⟩ := bd2_of hf
    refine kt_V0 (As := [.int (6 : Int32)]) (rest := []) (st1 := [.int r_6]) (b := (a 0) 0) C0 (c_X6_refused l γ a hg_8) (cxV (nA := 1) hts goodU U343 U345 U0 U84 U346 (by decide +kernel) ⟨Nat.le_of_ble_eq_true rfl, Nat.le_of_ble_eq_true rfl⟩) hP (hD _ _ _ _ _ _ _ _ _ _ _) hS hl dX6_screen_17 0 6 rfl rfl rfl rfl (Nat.le_of_ble_eq_true rfl) rfl rfl (fun H locs hP hS => ?_)
    obtain ⟨rfl, rfl, rfl⟩ := rt3 hf
    exact kt_iret C0 hP hS dX6_screen_20
  unfold f_X6_screen at hf
  refine lv_iload_n hx hb dX6_screen_0 rfl (lv_at hl 1 rfl) ?_
  obtain ⟨r_1, hg_2, hf⟩ := bd_of hf
  refine kt_SF (As := [.int x1]) (rest := []) (st1 := [.int r_1]) (wc' := wC γ a so r0 r1 r2 rw re tn se sv sk sd) C0 (c_X6_isPlace l γ hg_2) (cxS (nA := 1) hts goodU U467 U468 U84 U469 (by decide +kernel) ⟨Nat.le_of_ble_eq_true rfl, Nat.le_of_ble_eq_true rfl⟩) hP (hD _ _ _ _ _ _ _ _ _ _ _) hS hl dX6_screen_1 foc_nil rfl (Nat.le_of_ble_eq_true rfl) rfl rfl (fun H locs hP hS => ?_)
  refine lv_if_eq (tgt := 14) hx hb dX6_screen_4 (by decide) (fun c_3 => ?_) (fun c_3 => ?_)
  · replace hf := ite_p c_3 hf
    exact J14 so r0 _ _ _ hf hP hS (lv_sub hl [0] rfl)
  · replace hf := ite_n c_3 hf
    refine lv_iload_n hx hb dX6_screen_7 rfl (lv_at hl 2 rfl) ?_
    obtain ⟨r_9, hg_10, hf⟩ := bd_of hf
    refine kt_SF (As := [.int x2]) (rest := []) (st1 := [.int r_9]) (wc' := wC γ a so r0 r1 r2 rw re tn se sv sk sd) C0 (c_X6_isHeight l γ hg_10) (cxS (nA := 1) hts goodU U470 U471 U84 U472 (by decide +kernel) ⟨Nat.le_of_ble_eq_true rfl, Nat.le_of_ble_eq_true rfl⟩) hP (hD _ _ _ _ _ _ _ _ _ _ _) hS hl dX6_screen_8 foc_nil rfl (Nat.le_of_ble_eq_true rfl) rfl rfl (fun H locs hP hS => ?_)
    refine lv_if_ne (tgt := 21) hx hb dX6_screen_11 (by decide) (fun c_11 => ?_) (fun c_11 => ?_)
    · replace hf := ite_n c_11 hf
      refine lv_aload_n hx hb dX6_screen_21 rfl (lv_at hl 0 rfl) ?_
      refine va_get (D := γ.1) (ci := 6) (v := .ref ((a 1) 0)) (C := RX6) (T := TX6) (N := 12) hx hb hU uin6 hown hK hP 0 rfl rfl 0 (by decide) (hU _ U299) (fun _ h9 => h9) rfl dX6_screen_22 ?_
      refine va_getN (D := γ.1) (ci := 3) (v := .int (r0 0 10)) (C := RX3) (T := TX3) (N := 18) hx hb hU uin3 hown hK hP 4 rfl rfl 10 (by decide) (va_Nw.use rfl (hE.2.2.2.2.2.1 _ NW17)) (fun _ h9 => h9) rfl dX6_screen_25 ?_
      refine lv_bipush (v := 6) hx hb dX6_screen_28 (by decide) ?_
      refine lv_icmp_lt (tgt := 40) hx hb dX6_screen_30 (by decide) (fun c_12 => ?_) (fun c_12 => ?_)
      · replace hf := ite_p c_12 hf
        refine lv_aload_n hx hb dX6_screen_40 rfl (lv_at hl 0 rfl) ?_
        refine va_get (D := γ.1) (ci := 6) (v := .ref ((a 1) 0)) (C := RX6) (T := TX6) (N := 12) hx hb hU uin6 hown hK hP 0 rfl rfl 0 (by decide) (hU _ U299) (fun _ h9 => h9) rfl dX6_screen_41 ?_
        refine lv_iload_n hx hb dX6_screen_44 rfl (lv_at hl 1 rfl) ?_
        refine lv_iload_n hx hb dX6_screen_45 rfl (lv_at hl 2 rfl) ?_
        obtain ⟨r_13, r0_14, hg_15, hf⟩ := bd2_of hf
        refine kt_VF (As := [.int x1, .int x2]) (rest := []) (st1 := [.int r_13]) (b := (a 1) 0) (wc' := wC γ a so r0_14 r1 r2 rw re tn se sv sk sd) C0 (c_X3_addScreen l γ (a 1) hg_15) (cxV (nA := 2) hts goodU U509 U510 U511 U85 U512 (by decide +kernel) ⟨Nat.le_of_ble_eq_true rfl, Nat.le_of_ble_eq_true rfl⟩) hP (hD _ _ _ _ _ _ _ _ _ _ _) hS hl dX6_screen_46 (foc_r0 γ a _ _ _ _ _ _ _ _ _ _ _ _) 0 3 rfl rfl rfl rfl (Nat.le_of_ble_eq_true rfl) rfl rfl (fun H locs hP hS => ?_)
        obtain ⟨rfl, rfl, rfl⟩ := rt3 hf
        exact kt_iret C0 hP hS dX6_screen_49
      · replace hf := ite_n c_12 hf
        refine lv_aload_n hx hb dX6_screen_33 rfl (lv_at hl 0 rfl) ?_
        refine lv_bipush (v := 7) hx hb dX6_screen_34 (by decide) ?_
        obtain ⟨r_16, so_17, hg_18, hf⟩ := bd2_of hf
        refine kt_V0 (As := [.int (7 : Int32)]) (rest := []) (st1 := [.int r_16]) (b := (a 0) 0) C0 (c_X6_refused l γ a hg_18) (cxV (nA := 1) hts goodU U343 U345 U0 U84 U346 (by decide +kernel) ⟨Nat.le_of_ble_eq_true rfl, Nat.le_of_ble_eq_true rfl⟩) hP (hD _ _ _ _ _ _ _ _ _ _ _) hS hl dX6_screen_36 0 6 rfl rfl rfl rfl (Nat.le_of_ble_eq_true rfl) rfl rfl (fun H locs hP hS => ?_)
        obtain ⟨rfl, rfl, rfl⟩ := rt3 hf
        exact kt_iret C0 hP hS dX6_screen_39
    · replace hf := ite_p c_11 hf
      exact J14 so r0 _ _ _ hf hP hS (lv_sub hl [0] rfl)
set_option maxHeartbeats 4000000 in
set_option maxRecDepth 100000 in
theorem c_X6_valley (l : Launch) (γ : Gm) (a : Nat → Nat → Nat) {so : GS} {r0 : GS} {r1 : GS} {r2 : GS} {rw : Nat → GS} {re : Nat → Nat → Int64} {tn : Option Nat} {se : GS} {sv : GS} {sk : GS} {sd : GS} {x1 : Int32} {rv : Int32} {so_z : GS} {r0_z : GS} (hf : f_X6_valley so r0 x1 = some (rv, so_z, r0_z)) : Kt l γ yX6_valley (Cond.code yX6_valley cX6_valley 2 (some .int) :: U) 1 21 [.ref ((a 0) 0), .int x1] (wC γ a so r0 r1 r2 rw re tn se sv sk sd) (some (.int rv)) (wC γ a so_z r0_z r1 r2 rw re tn se sv sk sd) := by
  refine Kt.of (by decide) rfl (Nat.le_of_ble_eq_true rfl) rfl ?_
  intro p e s m below meth c A ls C0 hP hD0 hS hl
  obtain ⟨hx, hb, hml, hown, hts, hr, hlocks, hK, hE, hA⟩ := id C0
  have hU : ∀ w ∈ U, w.before _ s = true := fun w h => hts w (List.mem_cons_of_mem _ h)
  have hD : ∀ (so : GS) (r0 : GS) (r1 : GS) (r2 : GS) (rw : Nat → GS) (re : Nat → Nat → Int64) (tn : Option Nat) (se : GS) (sv : GS) (sk : GS) (sd : GS), va_D A (wC γ a so r0 r1 r2 rw re tn se sv sk sd) := fun _ _ _ _ _ _ _ _ _ _ _ => hD0.fst rfl
  have hl : lv_has ls 2 [(0, .ref ((a 0) 0)), (1, .int x1)] := hl
  have J11 : ∀ (so_2 : GS) (r0_3 : GS) (H : Heap) (locs : List Loc) (ls : Array Slot), f_X6_valley_J11 so_2 r0_3 = some (rv, so_z, r0_z) → va_P γ.1 vwCl (wC γ a so_2 r0_3 r1 r2 rw re tn se sv sk sd) H → va_S A s.heap H locs → lv_has ls 2 [(0, .ref ((a 0) 0))] → W p l e (rmK 1 21) s m ([.ref ((a 0) 0), .int x1] : List Value).toArray below meth c H locs 0 0 (MQ below (KQ γ A (some (.int rv)) (wC γ a so_z r0_z r1 r2 rw re tn se sv sk sd)) ([.ref ((a 0) 0), .int x1] : List Value).toArray s 0 0 A) (F0 m 11 ls []) := by
    intro so_2 r0_3 H locs ls hf hP hS hl
    unfold f_X6_valley_J11 at hf
    refine lv_aload_n hx hb dX6_valley_11 rfl (lv_at hl 0 rfl) ?_
    refine lv_bipush (v := 6) hx hb dX6_valley_12 (by decide) ?_
    obtain ⟨r_4, so_5, hg_6, hf⟩ := bd2_of hf
    refine kt_V0 (As := [.int (6 : Int32)]) (rest := []) (st1 := [.int r_4]) (b := (a 0) 0) C0 (c_X6_refused l γ a hg_6) (cxV (nA := 1) hts goodU U343 U345 U0 U84 U346 (by decide +kernel) ⟨Nat.le_of_ble_eq_true rfl, Nat.le_of_ble_eq_true rfl⟩) hP (hD _ _ _ _ _ _ _ _ _ _ _) hS hl dX6_valley_14 0 6 rfl rfl rfl rfl (Nat.le_of_ble_eq_true rfl) rfl rfl (fun H locs hP hS => ?_)
    obtain ⟨rfl, rfl, rfl⟩ := rt3 hf
    exact kt_iret C0 hP hS dX6_valley_17
  unfold f_X6_valley at hf
  refine lv_iload_n hx hb dX6_valley_0 rfl (lv_at hl 1 rfl) ?_
  refine lv_if_lt (tgt := 11) hx hb dX6_valley_1 (by decide) (fun c_1 => ?_) (fun c_1 => ?_)
  · replace hf := ite_p c_1 hf
    exact J11 so r0 _ _ _ hf hP hS (lv_sub hl [0] rfl)
  · replace hf := ite_n c_1 hf
    refine lv_iload_n hx hb dX6_valley_4 rfl (lv_at hl 1 rfl) ?_
    refine lv_sipush (v := 999) hx hb dX6_valley_5 (by decide) ?_
    refine lv_icmp_le (tgt := 18) hx hb dX6_valley_8 (by decide) (fun c_7 => ?_) (fun c_7 => ?_)
    · replace hf := ite_p c_7 hf
      refine lv_aload_n hx hb dX6_valley_18 rfl (lv_at hl 0 rfl) ?_
      refine va_get (D := γ.1) (ci := 6) (v := .ref ((a 1) 0)) (C := RX6) (T := TX6) (N := 12) hx hb hU uin6 hown hK hP 0 rfl rfl 0 (by decide) (hU _ U299) (fun _ h9 => h9) rfl dX6_valley_19 ?_
      refine va_getN (D := γ.1) (ci := 3) (v := .int (r0 0 13)) (C := RX3) (T := TX3) (N := 18) hx hb hU uin3 hown hK hP 4 rfl rfl 13 (by decide) (va_Nw.use rfl (hE.2.2.2.2.2.1 _ NW20)) (fun _ h9 => h9) rfl dX6_valley_22 ?_
      refine lv_bipush (v := 8) hx hb dX6_valley_25 (by decide) ?_
      refine lv_icmp_lt (tgt := 37) hx hb dX6_valley_27 (by decide) (fun c_8 => ?_) (fun c_8 => ?_)
      · replace hf := ite_p c_8 hf
        refine lv_aload_n hx hb dX6_valley_37 rfl (lv_at hl 0 rfl) ?_
        refine va_get (D := γ.1) (ci := 6) (v := .ref ((a 1) 0)) (C := RX6) (T := TX6) (N := 12) hx hb hU uin6 hown hK hP 0 rfl rfl 0 (by decide) (hU _ U299) (fun _ h9 => h9) rfl dX6_valley_38 ?_
        refine lv_iload_n hx hb dX6_valley_41 rfl (lv_at hl 1 rfl) ?_
        obtain ⟨r_9, r0_10, hg_11, hf⟩ := bd2_of hf
        refine kt_VF (As := [.int x1]) (rest := []) (st1 := [.int r_9]) (b := (a 1) 0) (wc' := wC γ a so r0_10 r1 r2 rw re tn se sv sk sd) C0 (c_X3_addValley l γ (a 1) hg_11) (cxV (nA := 1) hts goodU U517 U518 U519 U85 U520 (by decide +kernel) ⟨Nat.le_of_ble_eq_true rfl, Nat.le_of_ble_eq_true rfl⟩) hP (hD _ _ _ _ _ _ _ _ _ _ _) hS hl dX6_valley_42 (foc_r0 γ a _ _ _ _ _ _ _ _ _ _ _ _) 0 3 rfl rfl rfl rfl (Nat.le_of_ble_eq_true rfl) rfl rfl (fun H locs hP hS => ?_)
        obtain ⟨rfl, rfl, rfl⟩ := rt3 hf
        exact kt_iret C0 hP hS dX6_valley_45
      · replace hf := ite_n c_8 hf
        refine lv_aload_n hx hb dX6_valley_30 rfl (lv_at hl 0 rfl) ?_
        refine lv_bipush (v := 7) hx hb dX6_valley_31 (by decide) ?_
        obtain ⟨r_12, so_13, hg_14, hf⟩ := bd2_of hf
        refine kt_V0 (As := [.int (7 : Int32)]) (rest := []) (st1 := [.int r_12]) (b := (a 0) 0) C0 (c_X6_refused l γ a hg_14) (cxV (nA := 1) hts goodU U343 U345 U0 U84 U346 (by decide +kernel) ⟨Nat.le_of_ble_eq_true rfl, Nat.le_of_ble_eq_true rfl⟩) hP (hD _ _ _ _ _ _ _ _ _ _ _) hS hl dX6_valley_33 0 6 rfl rfl rfl rfl (Nat.le_of_ble_eq_true rfl) rfl rfl (fun H locs hP hS => ?_)
        obtain ⟨rfl, rfl, rfl⟩ := rt3 hf
        exact kt_iret C0 hP hS dX6_valley_36
    · replace hf := ite_n c_7 hf
      exact J11 so r0 _ _ _ hf hP hS (lv_sub hl [0] rfl)
set_option maxHeartbeats 4000000 in
set_option maxRecDepth 100000 in
theorem c_X6_under (l : Launch) (γ : Gm) (a : Nat → Nat → Nat) {so : GS} {r0 : GS} {r1 : GS} {r2 : GS} {rw : Nat → GS} {re : Nat → Nat → Int64} {tn : Option Nat} {se : GS} {sv : GS} {sk : GS} {sd : GS} {x1 : Int32} {x2 : Int32} {x3 : Int32} {rv : Int32} {so_z : GS} {r0_z : GS} (hf : f_X6_under so r0 x1 x2 x3 = some (rv, so_z, r0_z)) : Kt l γ yX6_under (Cond.code yX6_under cX6_under 5 (some .int) :: U) 1 23 [.ref ((a 0) 0), .int x1, .int x2, .int x3] (wC γ a so r0 r1 r2 rw re tn se sv sk sd) (some (.int rv)) (wC γ a so_z r0_z r1 r2 rw re tn se sv sk sd) := by
  refine Kt.of (by decide) rfl (Nat.le_of_ble_eq_true rfl) rfl ?_
  intro p e s m below meth c A ls C0 hP hD0 hS hl
  obtain ⟨hx, hb, hml, hown, hts, hr, hlocks, hK, hE, hA⟩ := id C0
  have hU : ∀ w ∈ U, w.before _ s = true := fun w h => hts w (List.mem_cons_of_mem _ h)
  have hD : ∀ (so : GS) (r0 : GS) (r1 : GS) (r2 : GS) (rw : Nat → GS) (re : Nat → Nat → Int64) (tn : Option Nat) (se : GS) (sv : GS) (sk : GS) (sd : GS), va_D A (wC γ a so r0 r1 r2 rw re tn se sv sk sd) := fun _ _ _ _ _ _ _ _ _ _ _ => hD0.fst rfl
  have hl : lv_has ls 5 [(0, .ref ((a 0) 0)), (1, .int x1), (2, .int x2), (3, .int x3)] := hl
  have J22 : ∀ (so_4 : GS) (r0_5 : GS) (H : Heap) (locs : List Loc) (ls : Array Slot), f_X6_under_J22 so_4 r0_5 = some (rv, so_z, r0_z) → va_P γ.1 vwCl (wC γ a so_4 r0_5 r1 r2 rw re tn se sv sk sd) H → va_S A s.heap H locs → lv_has ls 5 [(0, .ref ((a 0) 0))] → W p l e (rmK 1 23) s m ([.ref ((a 0) 0), .int x1, .int x2, .int x3] : List Value).toArray below meth c H locs 0 0 (MQ below (KQ γ A (some (.int rv)) (wC γ a so_z r0_z r1 r2 rw re tn se sv sk sd)) ([.ref ((a 0) 0), .int x1, .int x2, .int x3] : List Value).toArray s 0 0 A) (F0 m 22 ls []) := by
    intro so_4 r0_5 H locs ls hf hP hS hl
    unfold f_X6_under_J22 at hf
    refine lv_aload_n hx hb dX6_under_22 rfl (lv_at hl 0 rfl) ?_
    refine lv_iconst (v := 1) hx hb dX6_under_23 (by decide) ?_
    obtain ⟨r_6, so_7, hg_8, hf⟩ := bd2_of hf
    refine kt_V0 (As := [.int (1 : Int32)]) (rest := []) (st1 := [.int r_6]) (b := (a 0) 0) C0 (c_X6_refused l γ a hg_8) (cxV (nA := 1) hts goodU U343 U345 U0 U84 U346 (by decide +kernel) ⟨Nat.le_of_ble_eq_true rfl, Nat.le_of_ble_eq_true rfl⟩) hP (hD _ _ _ _ _ _ _ _ _ _ _) hS hl dX6_under_24 0 6 rfl rfl rfl rfl (Nat.le_of_ble_eq_true rfl) rfl rfl (fun H locs hP hS => ?_)
    obtain ⟨rfl, rfl, rfl⟩ := rt3 hf
    exact kt_iret C0 hP hS dX6_under_27
  unfold f_X6_under at hf
  refine lv_aload_n hx hb dX6_under_0 rfl (lv_at hl 0 rfl) ?_
  refine va_get (D := γ.1) (ci := 6) (v := .ref ((a 1) 0)) (C := RX6) (T := TX6) (N := 12) hx hb hU uin6 hown hK hP 0 rfl rfl 0 (by decide) (hU _ U299) (fun _ h9 => h9) rfl dX6_under_1 ?_
  refine lv_iload_n hx hb dX6_under_4 rfl (lv_at hl 1 rfl) ?_
  obtain ⟨r_1, hg_2, hf⟩ := bd_of hf
  refine kt_VF (As := [.int x1]) (rest := []) (st1 := [.int r_1]) (b := (a 1) 0) (wc' := wC γ a so r0 r1 r2 rw re tn se sv sk sd) C0 (c_X3_isValley l γ (a 1) hg_2) (cxV (nA := 1) hts goodU U525 U526 U527 U85 U528 (by decide +kernel) ⟨Nat.le_of_ble_eq_true rfl, Nat.le_of_ble_eq_true rfl⟩) hP (hD _ _ _ _ _ _ _ _ _ _ _) hS hl dX6_under_5 (foc_ro (foc_r0 γ a _ _ _ _ _ _ _ _ _ _ _ (fun _ _ => 0))) 0 3 rfl rfl rfl rfl (Nat.le_of_ble_eq_true rfl) rfl rfl (fun H locs hP hS => ?_)
  refine lv_if_eq (tgt := 22) hx hb dX6_under_8 (by decide) (fun c_3 => ?_) (fun c_3 => ?_)
  · replace hf := ite_p c_3 hf
    exact J22 so r0 _ _ _ hf hP hS (lv_sub hl [0] rfl)
  · replace hf := ite_n c_3 hf
    refine lv_aload_n hx hb dX6_under_11 rfl (lv_at hl 0 rfl) ?_
    refine va_get (D := γ.1) (ci := 6) (v := .ref ((a 1) 0)) (C := RX6) (T := TX6) (N := 12) hx hb hU uin6 hown hK hP 0 rfl rfl 0 (by decide) (hU _ U299) (fun _ h9 => h9) rfl dX6_under_12 ?_
    refine lv_iload_n hx hb dX6_under_15 rfl (lv_at hl 2 rfl) ?_
    obtain ⟨r_9, hg_10, hf⟩ := bd_of hf
    refine kt_VF (As := [.int x2]) (rest := []) (st1 := [.int r_9]) (b := (a 1) 0) (wc' := wC γ a so r0 r1 r2 rw re tn se sv sk sd) C0 (c_X3_isPeak l γ (a 1) hg_10) (cxV (nA := 1) hts goodU U403 U404 U405 U85 U406 (by decide +kernel) ⟨Nat.le_of_ble_eq_true rfl, Nat.le_of_ble_eq_true rfl⟩) hP (hD _ _ _ _ _ _ _ _ _ _ _) hS hl dX6_under_16 (foc_ro (foc_r0 γ a _ _ _ _ _ _ _ _ _ _ _ (fun _ _ => 0))) 0 3 rfl rfl rfl rfl (Nat.le_of_ble_eq_true rfl) rfl rfl (fun H locs hP hS => ?_)
    refine lv_if_ne (tgt := 28) hx hb dX6_under_19 (by decide) (fun c_11 => ?_) (fun c_11 => ?_)
    · replace hf := ite_n c_11 hf
      refine lv_aload_n hx hb dX6_under_28 rfl (lv_at hl 0 rfl) ?_
      refine va_get (D := γ.1) (ci := 6) (v := .ref ((a 1) 0)) (C := RX6) (T := TX6) (N := 12) hx hb hU uin6 hown hK hP 0 rfl rfl 0 (by decide) (hU _ U299) (fun _ h9 => h9) rfl dX6_under_29 ?_
      refine va_getN (D := γ.1) (ci := 3) (v := .ref ((a 1) 16)) (C := RX3) (T := TX3) (N := 18) hx hb hU uin3 hown hK hP 4 rfl rfl 15 (by decide) (va_Nw.use rfl (hE.2.2.2.2.2.1 _ NW22)) (fun _ h9 => h9) rfl dX6_under_32 ?_
      refine lv_iload_n hx hb dX6_under_35 rfl (lv_at hl 1 rfl) ?_
      obtain ⟨g_12, hf⟩ := gd_of hf
      refine va_iald hx hb hK hP 16 0 rfl rfl (inB_vp g_12) dX6_under_36 ?_
      refine lv_iload_n hx hb dX6_under_37 rfl (lv_at hl 2 rfl) ?_
      obtain ⟨r_13, hg_14, hf⟩ := bd_of hf
      refine kt_SF (As := [.int (r0 16 x1.toNatClampNeg), .int x2]) (rest := []) (st1 := [.int r_13]) (wc' := wC γ a so r0 r1 r2 rw re tn se sv sk sd) C0 (c_X6_bit l γ hg_14) (cxS (nA := 2) hts goodU U448 U441 U84 U442 (by decide +kernel) ⟨Nat.le_of_ble_eq_true rfl, Nat.le_of_ble_eq_true rfl⟩) hP (hD _ _ _ _ _ _ _ _ _ _ _) hS hl dX6_under_38 foc_nil rfl (Nat.le_of_ble_eq_true rfl) rfl rfl (fun H locs hP hS => ?_)
      refine lv_istore (lv' := [(4, .int r_13), (0, .ref ((a 0) 0)), (1, .int x1), (2, .int x2), (3, .int x3)]) hx hb dX6_under_41 hl (by decide) rfl (fun ls hl => ?_)
      refine lv_aload_n hx hb dX6_under_43 rfl (lv_at hl 1 rfl) ?_
      refine va_get (D := γ.1) (ci := 6) (v := .ref ((a 1) 0)) (C := RX6) (T := TX6) (N := 12) hx hb hU uin6 hown hK hP 0 rfl rfl 0 (by decide) (hU _ U299) (fun _ h9 => h9) rfl dX6_under_44 ?_
      refine lv_iload_n hx hb dX6_under_47 rfl (lv_at hl 2 rfl) ?_
      refine lv_iload_n hx hb dX6_under_48 rfl (lv_at hl 3 rfl) ?_
      refine lv_iload_n hx hb dX6_under_49 rfl (lv_at hl 4 rfl) ?_
      obtain ⟨r0_15, hg_16, hf⟩ := bd_of hf
      refine kt_VF (As := [.int x1, .int x2, .int x3]) (rest := []) (st1 := []) (b := (a 1) 0) (wc' := wC γ a so r0_15 r1 r2 rw re tn se sv sk sd) C0 (c_X3_putUnder l γ (a 1) hg_16) (cxV (nA := 3) hts goodU U529 U530 U531 U85 U532 (by decide +kernel) ⟨Nat.le_of_ble_eq_true rfl, Nat.le_of_ble_eq_true rfl⟩) hP (hD _ _ _ _ _ _ _ _ _ _ _) hS hl dX6_under_50 (foc_r0 γ a _ _ _ _ _ _ _ _ _ _ _ _) 0 3 rfl rfl rfl rfl (Nat.le_of_ble_eq_true rfl) rfl rfl (fun H locs hP hS => ?_)
      refine lv_iload hx hb dX6_under_53 (lv_at hl 0 rfl) ?_
      obtain ⟨rfl, rfl, rfl⟩ := rt3 hf
      exact kt_iret C0 hP hS dX6_under_55
    · replace hf := ite_p c_11 hf
      exact J22 so r0 _ _ _ hf hP hS (lv_sub hl [0] rfl)
set_option maxHeartbeats 4000000 in
set_option maxRecDepth 100000 in
theorem c_X6_peakOf (l : Launch) (γ : Gm) (a : Nat → Nat → Nat) {so : GS} {r0 : GS} {r1 : GS} {r2 : GS} {rw : Nat → GS} {re : Nat → Nat → Int64} {tn : Option Nat} {se : GS} {sv : GS} {sk : GS} {sd : GS} {x1 : Int32} {x2 : Int32} {rv : Int32} {so_z : GS} (hf : f_X6_peakOf so r0 x1 x2 = some (rv, so_z)) : Kt l γ yX6_peakOf (Cond.code yX6_peakOf cX6_peakOf 3 (some .int) :: U) 1 21 [.ref ((a 0) 0), .int x1, .int x2] (wC γ a so r0 r1 r2 rw re tn se sv sk sd) (some (.int rv)) (wC γ a so_z r0 r1 r2 rw re tn se sv sk sd) := by
  refine Kt.of (by decide) rfl (Nat.le_of_ble_eq_true rfl) rfl ?_
  intro p e s m below meth c A ls C0 hP hD0 hS hl
  obtain ⟨hx, hb, hml, hown, hts, hr, hlocks, hK, hE, hA⟩ := id C0
  have hU : ∀ w ∈ U, w.before _ s = true := fun w h => hts w (List.mem_cons_of_mem _ h)
  have hD : ∀ (so : GS) (r0 : GS) (r1 : GS) (r2 : GS) (rw : Nat → GS) (re : Nat → Nat → Int64) (tn : Option Nat) (se : GS) (sv : GS) (sk : GS) (sd : GS), va_D A (wC γ a so r0 r1 r2 rw re tn se sv sk sd) := fun _ _ _ _ _ _ _ _ _ _ _ => hD0.fst rfl
  have hl : lv_has ls 3 [(0, .ref ((a 0) 0)), (1, .int x1), (2, .int x2)] := hl
  unfold f_X6_peakOf at hf
  refine lv_aload_n hx hb dX6_peakOf_0 rfl (lv_at hl 0 rfl) ?_
  refine va_get (D := γ.1) (ci := 6) (v := .ref ((a 1) 0)) (C := RX6) (T := TX6) (N := 12) hx hb hU uin6 hown hK hP 0 rfl rfl 0 (by decide) (hU _ U299) (fun _ h9 => h9) rfl dX6_peakOf_1 ?_
  refine lv_iload_n hx hb dX6_peakOf_4 rfl (lv_at hl 1 rfl) ?_
  obtain ⟨r_1, hg_2, hf⟩ := bd_of hf
  refine kt_VF (As := [.int x1]) (rest := []) (st1 := [.int r_1]) (b := (a 1) 0) (wc' := wC γ a so r0 r1 r2 rw re tn se sv sk sd) C0 (c_X3_isPeak l γ (a 1) hg_2) (cxV (nA := 1) hts goodU U403 U404 U405 U85 U406 (by decide +kernel) ⟨Nat.le_of_ble_eq_true rfl, Nat.le_of_ble_eq_true rfl⟩) hP (hD _ _ _ _ _ _ _ _ _ _ _) hS hl dX6_peakOf_5 (foc_ro (foc_r0 γ a _ _ _ _ _ _ _ _ _ _ _ (fun _ _ => 0))) 0 3 rfl rfl rfl rfl (Nat.le_of_ble_eq_true rfl) rfl rfl (fun H locs hP hS => ?_)
  refine lv_if_ne (tgt := 17) hx hb dX6_peakOf_8 (by decide) (fun c_3 => ?_) (fun c_3 => ?_)
  · replace hf := ite_n c_3 hf
    refine lv_iload_n hx hb dX6_peakOf_17 rfl (lv_at hl 2 rfl) ?_
    by_cases c_4 : x2 = (0 : Int32)
    · replace hf := ite_p c_4 hf
      refine lv_tableIn (off := 42) (tgt := 60) hx hb dX6_peakOf_18 (by rw [c_4]; decide) (by rw [c_4]; decide) (by rw [c_4]; rfl) (by decide) ?_
      refine lv_aload_n hx hb dX6_peakOf_60 rfl (lv_at hl 0 rfl) ?_
      refine va_get (D := γ.1) (ci := 6) (v := .ref ((a 1) 0)) (C := RX6) (T := TX6) (N := 12) hx hb hU uin6 hown hK hP 0 rfl rfl 0 (by decide) (hU _ U299) (fun _ h9 => h9) rfl dX6_peakOf_61 ?_
      refine va_getN (D := γ.1) (ci := 3) (v := .ref ((a 1) 3)) (C := RX3) (T := TX3) (N := 18) hx hb hU uin3 hown hK hP 4 rfl rfl 2 (by decide) (va_Nw.use rfl (hE.2.2.2.2.2.1 _ NW8)) (fun _ h9 => h9) rfl dX6_peakOf_64 ?_
      refine lv_iload_n hx hb dX6_peakOf_67 rfl (lv_at hl 1 rfl) ?_
      obtain ⟨g_5, hf⟩ := gd_of hf
      refine va_iald hx hb hK hP 5 0 rfl rfl (inB_vp g_5) dX6_peakOf_68 ?_
      obtain ⟨rfl, rfl⟩ := rt2 hf
      exact kt_iret C0 hP hS dX6_peakOf_69
    · replace hf := ite_n c_4 hf
      by_cases c_6 : x2 = (1 : Int32)
      · replace hf := ite_p c_6 hf
        refine lv_tableIn (off := 52) (tgt := 70) hx hb dX6_peakOf_18 (by rw [c_6]; decide) (by rw [c_6]; decide) (by rw [c_6]; rfl) (by decide) ?_
        refine lv_aload_n hx hb dX6_peakOf_70 rfl (lv_at hl 0 rfl) ?_
        refine va_get (D := γ.1) (ci := 6) (v := .ref ((a 1) 0)) (C := RX6) (T := TX6) (N := 12) hx hb hU uin6 hown hK hP 0 rfl rfl 0 (by decide) (hU _ U299) (fun _ h9 => h9) rfl dX6_peakOf_71 ?_
        refine va_getN (D := γ.1) (ci := 3) (v := .ref ((a 1) 4)) (C := RX3) (T := TX3) (N := 18) hx hb hU uin3 hown hK hP 4 rfl rfl 3 (by decide) (va_Nw.use rfl (hE.2.2.2.2.2.1 _ NW10)) (fun _ h9 => h9) rfl dX6_peakOf_74 ?_
        refine lv_iload_n hx hb dX6_peakOf_77 rfl (lv_at hl 1 rfl) ?_
        obtain ⟨g_7, hf⟩ := gd_of hf
        refine va_iald hx hb hK hP 6 0 rfl rfl (inB_vp g_7) dX6_peakOf_78 ?_
        obtain ⟨rfl, rfl⟩ := rt2 hf
        exact kt_iret C0 hP hS dX6_peakOf_79
      · replace hf := ite_n c_6 hf
        by_cases c_8 : x2 = (2 : Int32)
        · replace hf := ite_p c_8 hf
          refine lv_tableIn (off := 62) (tgt := 80) hx hb dX6_peakOf_18 (by rw [c_8]; decide) (by rw [c_8]; decide) (by rw [c_8]; rfl) (by decide) ?_
          refine lv_aload_n hx hb dX6_peakOf_80 rfl (lv_at hl 0 rfl) ?_
          refine va_get (D := γ.1) (ci := 6) (v := .ref ((a 1) 0)) (C := RX6) (T := TX6) (N := 12) hx hb hU uin6 hown hK hP 0 rfl rfl 0 (by decide) (hU _ U299) (fun _ h9 => h9) rfl dX6_peakOf_81 ?_
          refine va_getN (D := γ.1) (ci := 3) (v := .ref ((a 1) 5)) (C := RX3) (T := TX3) (N := 18) hx hb hU uin3 hown hK hP 4 rfl rfl 4 (by decide) (va_Nw.use rfl (hE.2.2.2.2.2.1 _ NW11)) (fun _ h9 => h9) rfl dX6_peakOf_84 ?_
          refine lv_iload_n hx hb dX6_peakOf_87 rfl (lv_at hl 1 rfl) ?_
          obtain ⟨g_9, hf⟩ := gd_of hf
          refine va_iald hx hb hK hP 7 0 rfl rfl (inB_vp g_9) dX6_peakOf_88 ?_
          obtain ⟨rfl, rfl⟩ := rt2 hf
          exact kt_iret C0 hP hS dX6_peakOf_89
        · replace hf := ite_n c_8 hf
          by_cases c_10 : x2 = (3 : Int32)
          · replace hf := ite_p c_10 hf
            refine lv_tableIn (off := 72) (tgt := 90) hx hb dX6_peakOf_18 (by rw [c_10]; decide) (by rw [c_10]; decide) (by rw [c_10]; rfl) (by decide) ?_
            refine lv_aload_n hx hb dX6_peakOf_90 rfl (lv_at hl 0 rfl) ?_
            refine va_get (D := γ.1) (ci := 6) (v := .ref ((a 1) 0)) (C := RX6) (T := TX6) (N := 12) hx hb hU uin6 hown hK hP 0 rfl rfl 0 (by decide) (hU _ U299) (fun _ h9 => h9) rfl dX6_peakOf_91 ?_
            refine va_getN (D := γ.1) (ci := 3) (v := .ref ((a 1) 6)) (C := RX3) (T := TX3) (N := 18) hx hb hU uin3 hown hK hP 4 rfl rfl 5 (by decide) (va_Nw.use rfl (hE.2.2.2.2.2.1 _ NW12)) (fun _ h9 => h9) rfl dX6_peakOf_94 ?_
            refine lv_iload_n hx hb dX6_peakOf_97 rfl (lv_at hl 1 rfl) ?_
            obtain ⟨g_11, hf⟩ := gd_of hf
            refine va_iald hx hb hK hP 8 0 rfl rfl (inB_vp g_11) dX6_peakOf_98 ?_
            obtain ⟨rfl, rfl⟩ := rt2 hf
            exact kt_iret C0 hP hS dX6_peakOf_99
          · replace hf := ite_n c_10 hf
            by_cases c_12 : x2 = (4 : Int32)
            · replace hf := ite_p c_12 hf
              refine lv_tableIn (off := 82) (tgt := 100) hx hb dX6_peakOf_18 (by rw [c_12]; decide) (by rw [c_12]; decide) (by rw [c_12]; rfl) (by decide) ?_
              refine lv_aload_n hx hb dX6_peakOf_100 rfl (lv_at hl 0 rfl) ?_
              refine va_get (D := γ.1) (ci := 6) (v := .ref ((a 1) 0)) (C := RX6) (T := TX6) (N := 12) hx hb hU uin6 hown hK hP 0 rfl rfl 0 (by decide) (hU _ U299) (fun _ h9 => h9) rfl dX6_peakOf_101 ?_
              refine va_getN (D := γ.1) (ci := 3) (v := .int (r0 0 1)) (C := RX3) (T := TX3) (N := 18) hx hb hU uin3 hown hK hP 4 rfl rfl 1 (by decide) (va_Nw.use rfl (hE.2.2.2.2.2.1 _ NW6)) (fun _ h9 => h9) rfl dX6_peakOf_104 ?_
              refine lv_iload_n hx hb dX6_peakOf_107 rfl (lv_at hl 1 rfl) ?_
              obtain ⟨r_13, hg_14, hf⟩ := bd_of hf
              refine kt_SF (As := [.int (r0 0 1), .int x1]) (rest := []) (st1 := [.int r_13]) (wc' := wC γ a so r0 r1 r2 rw re tn se sv sk sd) C0 (c_X6_bit l γ hg_14) (cxS (nA := 2) hts goodU U448 U441 U84 U442 (by decide +kernel) ⟨Nat.le_of_ble_eq_true rfl, Nat.le_of_ble_eq_true rfl⟩) hP (hD _ _ _ _ _ _ _ _ _ _ _) hS hl dX6_peakOf_108 foc_nil rfl (Nat.le_of_ble_eq_true rfl) rfl rfl (fun H locs hP hS => ?_)
              obtain ⟨rfl, rfl⟩ := rt2 hf
              exact kt_iret C0 hP hS dX6_peakOf_111
            · replace hf := ite_n c_12 hf
              by_cases c_15 : x2 = (5 : Int32)
              · replace hf := ite_p c_15 hf
                refine lv_tableIn (off := 94) (tgt := 112) hx hb dX6_peakOf_18 (by rw [c_15]; decide) (by rw [c_15]; decide) (by rw [c_15]; rfl) (by decide) ?_
                refine lv_aload_n hx hb dX6_peakOf_112 rfl (lv_at hl 0 rfl) ?_
                refine va_get (D := γ.1) (ci := 6) (v := .ref ((a 1) 0)) (C := RX6) (T := TX6) (N := 12) hx hb hU uin6 hown hK hP 0 rfl rfl 0 (by decide) (hU _ U299) (fun _ h9 => h9) rfl dX6_peakOf_113 ?_
                refine va_getN (D := γ.1) (ci := 3) (v := .ref ((a 1) 7)) (C := RX3) (T := TX3) (N := 18) hx hb hU uin3 hown hK hP 4 rfl rfl 6 (by decide) (va_Nw.use rfl (hE.2.2.2.2.2.1 _ NW14)) (fun _ h9 => h9) rfl dX6_peakOf_116 ?_
                refine lv_iload_n hx hb dX6_peakOf_119 rfl (lv_at hl 1 rfl) ?_
                obtain ⟨g_16, hf⟩ := gd_of hf
                refine va_iald hx hb hK hP 9 0 rfl rfl (inB_vp g_16) dX6_peakOf_120 ?_
                obtain ⟨rfl, rfl⟩ := rt2 hf
                exact kt_iret C0 hP hS dX6_peakOf_121
              · replace hf := ite_n c_15 hf
                by_cases c_17 : x2 = (6 : Int32)
                · replace hf := ite_p c_17 hf
                  refine lv_tableIn (off := 104) (tgt := 122) hx hb dX6_peakOf_18 (by rw [c_17]; decide) (by rw [c_17]; decide) (by rw [c_17]; rfl) (by decide) ?_
                  refine lv_aload_n hx hb dX6_peakOf_122 rfl (lv_at hl 0 rfl) ?_
                  refine va_get (D := γ.1) (ci := 6) (v := .ref ((a 1) 0)) (C := RX6) (T := TX6) (N := 12) hx hb hU uin6 hown hK hP 0 rfl rfl 0 (by decide) (hU _ U299) (fun _ h9 => h9) rfl dX6_peakOf_123 ?_
                  refine va_getN (D := γ.1) (ci := 3) (v := .ref ((a 1) 8)) (C := RX3) (T := TX3) (N := 18) hx hb hU uin3 hown hK hP 4 rfl rfl 7 (by decide) (va_Nw.use rfl (hE.2.2.2.2.2.1 _ NW15)) (fun _ h9 => h9) rfl dX6_peakOf_126 ?_
                  refine lv_iload_n hx hb dX6_peakOf_129 rfl (lv_at hl 1 rfl) ?_
                  obtain ⟨g_18, hf⟩ := gd_of hf
                  refine va_iald hx hb hK hP 10 0 rfl rfl (inB_vp g_18) dX6_peakOf_130 ?_
                  obtain ⟨rfl, rfl⟩ := rt2 hf
                  exact kt_iret C0 hP hS dX6_peakOf_131
                · replace hf := ite_n c_17 hf
                  refine lv_tableOut (tgt := 132) hx hb dX6_peakOf_18 (by have := lv_neT c_4 (a := 0) (by decide); have := lv_neT c_6 (a := 1) (by decide); have := lv_neT c_8 (a := 2) (by decide); have := lv_neT c_10 (a := 3) (by decide); have := lv_neT c_12 (a := 4) (by decide); have := lv_neT c_15 (a := 5) (by decide); have := lv_neT c_17 (a := 6) (by decide); omega) (by decide) ?_
                  refine lv_aload_n hx hb dX6_peakOf_132 rfl (lv_at hl 0 rfl) ?_
                  refine lv_iconst (v := 5) hx hb dX6_peakOf_133 (by decide) ?_
                  obtain ⟨r_19, so_20, hg_21, hf⟩ := bd2_of hf
                  refine kt_V0 (As := [.int (5 : Int32)]) (rest := []) (st1 := [.int r_19]) (b := (a 0) 0) C0 (c_X6_refused l γ a hg_21) (cxV (nA := 1) hts goodU U343 U345 U0 U84 U346 (by decide +kernel) ⟨Nat.le_of_ble_eq_true rfl, Nat.le_of_ble_eq_true rfl⟩) hP (hD _ _ _ _ _ _ _ _ _ _ _) hS hl dX6_peakOf_134 0 6 rfl rfl rfl rfl (Nat.le_of_ble_eq_true rfl) rfl rfl (fun H locs hP hS => ?_)
                  obtain ⟨rfl, rfl⟩ := rt2 hf
                  exact kt_iret C0 hP hS dX6_peakOf_137
  · replace hf := ite_p c_3 hf
    refine lv_aload_n hx hb dX6_peakOf_11 rfl (lv_at hl 0 rfl) ?_
    refine lv_iconst (v := 5) hx hb dX6_peakOf_12 (by decide) ?_
    obtain ⟨r_22, so_23, hg_24, hf⟩ := bd2_of hf
    refine kt_V0 (As := [.int (5 : Int32)]) (rest := []) (st1 := [.int r_22]) (b := (a 0) 0) C0 (c_X6_refused l γ a hg_24) (cxV (nA := 1) hts goodU U343 U345 U0 U84 U346 (by decide +kernel) ⟨Nat.le_of_ble_eq_true rfl, Nat.le_of_ble_eq_true rfl⟩) hP (hD _ _ _ _ _ _ _ _ _ _ _) hS hl dX6_peakOf_13 0 6 rfl rfl rfl rfl (Nat.le_of_ble_eq_true rfl) rfl rfl (fun H locs hP hS => ?_)
    obtain ⟨rfl, rfl⟩ := rt2 hf
    exact kt_iret C0 hP hS dX6_peakOf_16
set_option maxHeartbeats 4000000 in
set_option maxRecDepth 100000 in
theorem c_X6_valleyOf (l : Launch) (γ : Gm) (a : Nat → Nat → Nat) {so : GS} {r0 : GS} {r1 : GS} {r2 : GS} {rw : Nat → GS} {re : Nat → Nat → Int64} {tn : Option Nat} {se : GS} {sv : GS} {sk : GS} {sd : GS} {x1 : Int32} {x2 : Int32} {rv : Int32} {so_z : GS} (hf : f_X6_valleyOf so r0 x1 x2 = some (rv, so_z)) : Kt l γ yX6_valleyOf (Cond.code yX6_valleyOf cX6_valleyOf 3 (some .int) :: U) 4 90 [.ref ((a 0) 0), .int x1, .int x2] (wC γ a so r0 r1 r2 rw re tn se sv sk sd) (some (.int rv)) (wC γ a so_z r0 r1 r2 rw re tn se sv sk sd) := by
  refine Kt.of (by decide) rfl (Nat.le_of_ble_eq_true rfl) rfl ?_
  intro p e s m below meth c A ls C0 hP hD0 hS hl
  obtain ⟨hx, hb, hml, hown, hts, hr, hlocks, hK, hE, hA⟩ := id C0
  have hU : ∀ w ∈ U, w.before _ s = true := fun w h => hts w (List.mem_cons_of_mem _ h)
  have hD : ∀ (so : GS) (r0 : GS) (r1 : GS) (r2 : GS) (rw : Nat → GS) (re : Nat → Nat → Int64) (tn : Option Nat) (se : GS) (sv : GS) (sk : GS) (sd : GS), va_D A (wC γ a so r0 r1 r2 rw re tn se sv sk sd) := fun _ _ _ _ _ _ _ _ _ _ _ => hD0.fst rfl
  have hl : lv_has ls 3 [(0, .ref ((a 0) 0)), (1, .int x1), (2, .int x2)] := hl
  unfold f_X6_valleyOf at hf
  refine lv_aload_n hx hb dX6_valleyOf_0 rfl (lv_at hl 0 rfl) ?_
  refine va_get (D := γ.1) (ci := 6) (v := .ref ((a 1) 0)) (C := RX6) (T := TX6) (N := 12) hx hb hU uin6 hown hK hP 0 rfl rfl 0 (by decide) (hU _ U299) (fun _ h9 => h9) rfl dX6_valleyOf_1 ?_
  refine lv_iload_n hx hb dX6_valleyOf_4 rfl (lv_at hl 1 rfl) ?_
  obtain ⟨r_1, hg_2, hf⟩ := bd_of hf
  refine kt_VF (As := [.int x1]) (rest := []) (st1 := [.int r_1]) (b := (a 1) 0) (wc' := wC γ a so r0 r1 r2 rw re tn se sv sk sd) C0 (c_X3_isValley l γ (a 1) hg_2) (cxV (nA := 1) hts goodU U525 U526 U527 U85 U528 (by decide +kernel) ⟨Nat.le_of_ble_eq_true rfl, Nat.le_of_ble_eq_true rfl⟩) hP (hD _ _ _ _ _ _ _ _ _ _ _) hS hl dX6_valleyOf_5 (foc_ro (foc_r0 γ a _ _ _ _ _ _ _ _ _ _ _ (fun _ _ => 0))) 0 3 rfl rfl rfl rfl (Nat.le_of_ble_eq_true rfl) rfl rfl (fun H locs hP hS => ?_)
  refine lv_if_ne (tgt := 17) hx hb dX6_valleyOf_8 (by decide) (fun c_3 => ?_) (fun c_3 => ?_)
  · replace hf := ite_n c_3 hf
    refine lv_iload_n hx hb dX6_valleyOf_17 rfl (lv_at hl 2 rfl) ?_
    by_cases c_4 : x2 = (0 : Int32)
    · replace hf := ite_p c_4 hf
      refine lv_tableIn (off := 26) (tgt := 44) hx hb dX6_valleyOf_18 (by rw [c_4]; decide) (by rw [c_4]; decide) (by rw [c_4]; rfl) (by decide) ?_
      refine lv_aload_n hx hb dX6_valleyOf_44 rfl (lv_at hl 0 rfl) ?_
      refine va_get (D := γ.1) (ci := 6) (v := .ref ((a 1) 0)) (C := RX6) (T := TX6) (N := 12) hx hb hU uin6 hown hK hP 0 rfl rfl 0 (by decide) (hU _ U299) (fun _ h9 => h9) rfl dX6_valleyOf_45 ?_
      refine va_getN (D := γ.1) (ci := 3) (v := .ref ((a 1) 15)) (C := RX3) (T := TX3) (N := 18) hx hb hU uin3 hown hK hP 4 rfl rfl 14 (by decide) (va_Nw.use rfl (hE.2.2.2.2.2.1 _ NW21)) (fun _ h9 => h9) rfl dX6_valleyOf_48 ?_
      refine lv_iload_n hx hb dX6_valleyOf_51 rfl (lv_at hl 1 rfl) ?_
      obtain ⟨g_5, hf⟩ := gd_of hf
      refine va_iald hx hb hK hP 15 0 rfl rfl (inB_vp g_5) dX6_valleyOf_52 ?_
      obtain ⟨rfl, rfl⟩ := rt2 hf
      exact kt_iret C0 hP hS dX6_valleyOf_53
    · replace hf := ite_n c_4 hf
      by_cases c_6 : x2 = (1 : Int32)
      · replace hf := ite_p c_6 hf
        refine lv_tableIn (off := 36) (tgt := 54) hx hb dX6_valleyOf_18 (by rw [c_6]; decide) (by rw [c_6]; decide) (by rw [c_6]; rfl) (by decide) ?_
        refine lv_aload_n hx hb dX6_valleyOf_54 rfl (lv_at hl 0 rfl) ?_
        refine va_get (D := γ.1) (ci := 6) (v := .ref ((a 1) 0)) (C := RX6) (T := TX6) (N := 12) hx hb hU uin6 hown hK hP 0 rfl rfl 0 (by decide) (hU _ U299) (fun _ h9 => h9) rfl dX6_valleyOf_55 ?_
        refine va_getN (D := γ.1) (ci := 3) (v := .ref ((a 1) 16)) (C := RX3) (T := TX3) (N := 18) hx hb hU uin3 hown hK hP 4 rfl rfl 15 (by decide) (va_Nw.use rfl (hE.2.2.2.2.2.1 _ NW22)) (fun _ h9 => h9) rfl dX6_valleyOf_58 ?_
        refine lv_iload_n hx hb dX6_valleyOf_61 rfl (lv_at hl 1 rfl) ?_
        obtain ⟨g_7, hf⟩ := gd_of hf
        refine va_iald hx hb hK hP 16 0 rfl rfl (inB_vp g_7) dX6_valleyOf_62 ?_
        obtain ⟨rfl, rfl⟩ := rt2 hf
        exact kt_iret C0 hP hS dX6_valleyOf_63
      · replace hf := ite_n c_6 hf
        by_cases c_8 : x2 = (2 : Int32)
        · replace hf := ite_p c_8 hf
          refine lv_tableIn (off := 46) (tgt := 64) hx hb dX6_valleyOf_18 (by rw [c_8]; decide) (by rw [c_8]; decide) (by rw [c_8]; rfl) (by decide) ?_
          refine lv_aload_n hx hb dX6_valleyOf_64 rfl (lv_at hl 0 rfl) ?_
          refine va_get (D := γ.1) (ci := 6) (v := .ref ((a 1) 0)) (C := RX6) (T := TX6) (N := 12) hx hb hU uin6 hown hK hP 0 rfl rfl 0 (by decide) (hU _ U299) (fun _ h9 => h9) rfl dX6_valleyOf_65 ?_
          refine lv_iload_n hx hb dX6_valleyOf_68 rfl (lv_at hl 1 rfl) ?_
          refine lv_aload_n hx hb dX6_valleyOf_69 rfl (lv_at hl 0 rfl) ?_
          refine va_get (D := γ.1) (ci := 6) (v := .ref ((a 1) 0)) (C := RX6) (T := TX6) (N := 12) hx hb hU uin6 hown hK hP 0 rfl rfl 0 (by decide) (hU _ U299) (fun _ h9 => h9) rfl dX6_valleyOf_70 ?_
          refine lv_aload_n hx hb dX6_valleyOf_73 rfl (lv_at hl 0 rfl) ?_
          refine va_get (D := γ.1) (ci := 6) (v := .ref ((a 1) 0)) (C := RX6) (T := TX6) (N := 12) hx hb hU uin6 hown hK hP 0 rfl rfl 0 (by decide) (hU _ U299) (fun _ h9 => h9) rfl dX6_valleyOf_74 ?_
          refine va_getN (D := γ.1) (ci := 3) (v := .int (r0 0 16)) (C := RX3) (T := TX3) (N := 18) hx hb hU uin3 hown hK hP 4 rfl rfl 16 (by decide) (va_Nw.use rfl (hE.2.2.2.2.2.1 _ NW25)) (fun _ h9 => h9) rfl dX6_valleyOf_77 ?_
          obtain ⟨r_9, hg_10, hf⟩ := bd_of hf
          refine kt_VF (As := [.int (r0 0 16)]) (rest := [.int x1, .ref ((a 1) 0)]) (st1 := [.int r_9, .int x1, .ref ((a 1) 0)]) (b := (a 1) 0) (wc' := wC γ a so r0 r1 r2 rw re tn se sv sk sd) C0 (c_X3_blackIn l γ (a 1) hg_10) (cxV (nA := 1) hts goodU U427 U428 U429 U85 U430 (by decide +kernel) ⟨Nat.le_of_ble_eq_true rfl, Nat.le_of_ble_eq_true rfl⟩) hP (hD _ _ _ _ _ _ _ _ _ _ _) hS hl dX6_valleyOf_80 (foc_ro (foc_r0 γ a _ _ _ _ _ _ _ _ _ _ _ (fun _ _ => 0))) 0 3 rfl rfl rfl rfl (Nat.le_of_ble_eq_true rfl) rfl rfl (fun H locs hP hS => ?_)
          obtain ⟨r_11, hg_12, hf⟩ := bd_of hf
          refine kt_VF (As := [.int x1, .int r_9]) (rest := []) (st1 := [.int r_11]) (b := (a 1) 0) (wc' := wC γ a so r0 r1 r2 rw re tn se sv sk sd) C0 (c_X3_milkOf l γ (a 1) hg_12) (cxV (nA := 2) hts goodU U541 U542 U543 U85 U544 (by decide +kernel) ⟨Nat.le_of_ble_eq_true rfl, Nat.le_of_ble_eq_true rfl⟩) hP (hD _ _ _ _ _ _ _ _ _ _ _) hS hl dX6_valleyOf_83 (foc_ro (foc_r0 γ a _ _ _ _ _ _ _ _ _ _ _ (fun _ _ => 0))) 0 3 rfl rfl rfl rfl (Nat.le_of_ble_eq_true rfl) rfl rfl (fun H locs hP hS => ?_)
          obtain ⟨rfl, rfl⟩ := rt2 hf
          exact kt_iret C0 hP hS dX6_valleyOf_86
        · replace hf := ite_n c_8 hf
          refine lv_tableOut (tgt := 87) hx hb dX6_valleyOf_18 (by have := lv_neT c_4 (a := 0) (by decide); have := lv_neT c_6 (a := 1) (by decide); have := lv_neT c_8 (a := 2) (by decide); omega) (by decide) ?_
          refine lv_aload_n hx hb dX6_valleyOf_87 rfl (lv_at hl 0 rfl) ?_
          refine lv_iconst (v := 5) hx hb dX6_valleyOf_88 (by decide) ?_
          obtain ⟨r_13, so_14, hg_15, hf⟩ := bd2_of hf
          refine kt_V0 (As := [.int (5 : Int32)]) (rest := []) (st1 := [.int r_13]) (b := (a 0) 0) C0 (c_X6_refused l γ a hg_15) (cxV (nA := 1) hts goodU U343 U345 U0 U84 U346 (by decide +kernel) ⟨Nat.le_of_ble_eq_true rfl, Nat.le_of_ble_eq_true rfl⟩) hP (hD _ _ _ _ _ _ _ _ _ _ _) hS hl dX6_valleyOf_89 0 6 rfl rfl rfl rfl (Nat.le_of_ble_eq_true rfl) rfl rfl (fun H locs hP hS => ?_)
          obtain ⟨rfl, rfl⟩ := rt2 hf
          exact kt_iret C0 hP hS dX6_valleyOf_92
  · replace hf := ite_p c_3 hf
    refine lv_aload_n hx hb dX6_valleyOf_11 rfl (lv_at hl 0 rfl) ?_
    refine lv_iconst (v := 5) hx hb dX6_valleyOf_12 (by decide) ?_
    obtain ⟨r_16, so_17, hg_18, hf⟩ := bd2_of hf
    refine kt_V0 (As := [.int (5 : Int32)]) (rest := []) (st1 := [.int r_16]) (b := (a 0) 0) C0 (c_X6_refused l γ a hg_18) (cxV (nA := 1) hts goodU U343 U345 U0 U84 U346 (by decide +kernel) ⟨Nat.le_of_ble_eq_true rfl, Nat.le_of_ble_eq_true rfl⟩) hP (hD _ _ _ _ _ _ _ _ _ _ _) hS hl dX6_valleyOf_13 0 6 rfl rfl rfl rfl (Nat.le_of_ble_eq_true rfl) rfl rfl (fun H locs hP hS => ?_)
    obtain ⟨rfl, rfl⟩ := rt2 hf
    exact kt_iret C0 hP hS dX6_valleyOf_16
set_option maxHeartbeats 4000000 in
set_option maxRecDepth 100000 in
theorem c_X6_range (l : Launch) (γ : Gm) (a : Nat → Nat → Nat) {so : GS} {r0 : GS} {r1 : GS} {r2 : GS} {rw : Nat → GS} {re : Nat → Nat → Int64} {tn : Option Nat} {se : GS} {sv : GS} {sk : GS} {sd : GS} {x1 : Int32} {rv : Int32} {so_z : GS} {r0_z : GS} {r2_z : GS} {tn_z : Option Nat} {se_z : GS} (hf : f_X6_range so r0 r2 rw re tn se x1 = some (rv, so_z, r0_z, r2_z, tn_z, se_z)) : Kt l γ yX6_range (Cond.code yX6_range cX6_range 4 (some .int) :: U) 7 166 [.ref ((a 0) 0), .int x1] (wC γ a so r0 r1 r2 rw re tn se sv sk sd) (some (.int rv)) (wC γ a so_z r0_z r1 r2_z rw re tn_z se_z sv sk sd) := by
  refine Kt.of (by decide) rfl (Nat.le_of_ble_eq_true rfl) rfl ?_
  intro p e s m below meth c A ls C0 hP hD0 hS hl
  obtain ⟨hx, hb, hml, hown, hts, hr, hlocks, hK, hE, hA⟩ := id C0
  have hU : ∀ w ∈ U, w.before _ s = true := fun w h => hts w (List.mem_cons_of_mem _ h)
  have hD : ∀ (so : GS) (r0 : GS) (r1 : GS) (r2 : GS) (rw : Nat → GS) (re : Nat → Nat → Int64) (tn : Option Nat) (se : GS) (sv : GS) (sk : GS) (sd : GS), va_D A (wC γ a so r0 r1 r2 rw re tn se sv sk sd) := fun _ _ _ _ _ _ _ _ _ _ _ => hD0.fst rfl
  have hl : lv_has ls 4 [(0, .ref ((a 0) 0)), (1, .int x1)] := hl
  have L42 : ∀ (so_10 : GS) (r0_11 : GS) (K90 : Int32 → GS → GS → Option (Int32 × GS × GS × GS × Option Nat × GS)) (K87 : Int32 → GS → GS → Option (Int32 × GS × GS × GS × Option Nat × GS)) (hrw : inB x1 8 = true) (HK90 : ∀ (z3 : Int32) (zr2 : GS) (zse : GS) (H : Heap) (locs : List Loc) (ls : Array Slot), K90 z3 zr2 zse = some (rv, so_z, r0_z, r2_z, tn_z, se_z) → va_P γ.1 vwCl (wC γ a so_10 r0_11 r1 zr2 rw re (some (x1.toNatClampNeg)) zse sv sk sd) H → va_S A s.heap H locs → lv_has ls 4 [(0, .ref ((a 0) 0)), (3, .int z3)] → W p l e (rmK 7 166) s m ([.ref ((a 0) 0), .int x1] : List Value).toArray below meth c H locs 0 0 (MQ below (KQ γ A (some (.int rv)) (wC γ a so_z r0_z r1 r2_z rw re tn_z se_z sv sk sd)) ([.ref ((a 0) 0), .int x1] : List Value).toArray s 0 0 A) (F0 m 90 ls [])) (HK87 : ∀ (z3 : Int32) (zr2 : GS) (zse : GS) (H : Heap) (locs : List Loc) (ls : Array Slot), K87 z3 zr2 zse = some (rv, so_z, r0_z, r2_z, tn_z, se_z) → va_P γ.1 vwCl (wC γ a so_10 r0_11 r1 zr2 rw re (some (x1.toNatClampNeg)) zse sv sk sd) H → va_S A s.heap H locs → lv_has ls 4 [(0, .ref ((a 0) 0)), (3, .int z3)] → W p l e (rmK 7 166) s m ([.ref ((a 0) 0), .int x1] : List Value).toArray below meth c H locs 0 0 (MQ below (KQ γ A (some (.int rv)) (wC γ a so_z r0_z r1 r2_z rw re tn_z se_z sv sk sd)) ([.ref ((a 0) 0), .int x1] : List Value).toArray s 0 0 A) (F0 m 87 ls [])) (n : Nat) (x3_9 : Int32) (r2_12 : GS) (se_13 : GS) (H : Heap) (locs : List Loc) (ls : Array Slot), f_X6_range_L42 rw re x1 K90 K87 n x3_9 r2_12 se_13 = some (rv, so_z, r0_z, r2_z, tn_z, se_z) → va_P γ.1 vwCl (wC γ a so_10 r0_11 r1 r2_12 rw re (some (x1.toNatClampNeg)) se_13 sv sk sd) H → va_S A s.heap H locs → lv_has ls 4 [(0, .ref ((a 0) 0)), (3, .int x3_9)] → W p l e (rmK 7 166) s m ([.ref ((a 0) 0), .int x1] : List Value).toArray below meth c H locs 0 0 (MQ below (KQ γ A (some (.int rv)) (wC γ a so_z r0_z r1 r2_z rw re tn_z se_z sv sk sd)) ([.ref ((a 0) 0), .int x1] : List Value).toArray s 0 0 A) (F0 m 42 ls []) := by
    intro so_10 r0_11 K90 K87 hrw HK90 HK87
    intro n
    induction n with
    | zero =>
      intro x3_9 r2_12 se_13 H locs ls hf
      have hf : none = some _ := hf
      cases hf
    | succ n ih =>
      intro x3_9 r2_12 se_13 H locs ls hf hP hS hl
      rw [f_X6_range_L42.eq_2] at hf
      refine lv_iload_n hx hb dX6_range_42 rfl (lv_at hl 1 rfl) ?_
      refine lv_sipush (v := 160) hx hb dX6_range_43 (by decide) ?_
      refine lv_icmp_ge (tgt := 90) hx hb dX6_range_46 (by decide) (fun c_14 => ?_) (fun c_14 => ?_)
      · replace hf := ite_p c_14 hf
        exact HK90 x3_9 r2_12 se_13 _ _ _ hf hP hS (lv_sub hl [0, 1] rfl)
      · replace hf := ite_n c_14 hf
        refine lv_aload_n hx hb dX6_range_49 rfl (lv_at hl 0 rfl) ?_
        refine va_get (D := γ.1) (ci := 6) (v := .ref ((a 4) 0)) (C := RX6) (T := TX6) (N := 12) hx hb hU uin6 hown hK hP 0 rfl rfl 8 (by decide) (hU _ U307) (fun _ h9 => h9) rfl dX6_range_50 ?_
        refine lv_aload_n hx hb dX6_range_53 rfl (lv_at hl 0 rfl) ?_
        refine va_get (D := γ.1) (ci := 6) (v := .ref ((a 3) 0)) (C := RX6) (T := TX6) (N := 12) hx hb hU uin6 hown hK hP 0 rfl rfl 2 (by decide) (hU _ U301) (fun _ h9 => h9) rfl dX6_range_54 ?_
        obtain ⟨r_15, se_16, hg_17, hf⟩ := bd2_of hf
        refine kt_VF (As := [.ref ((a 3) 0)]) (rest := []) (st1 := [.int r_15]) (b := (a 4) 0) (wc' := wC γ a so_10 r0_11 r1 r2_12 (va_up rw (x1.toNatClampNeg) (rw (x1.toNatClampNeg))) (va_up re (x1.toNatClampNeg) (re (x1.toNatClampNeg))) (some (x1.toNatClampNeg)) se_16 sv sk sd) C0 (c_X4_readItem l γ (a 4) (a (8 + x1.toNatClampNeg)) (a 3) hg_17) (cxV (nA := 1) hts goodU U558 U559 U560 U86 U561 (by decide +kernel) ⟨Nat.le_of_ble_eq_true rfl, Nat.le_of_ble_eq_true rfl⟩) hP (hD _ _ _ _ _ _ _ _ _ _ _) hS hl dX6_range_57 (foc_se_rw_r2 γ a _ _ _ _ _ _ _ _ _ _ _ _ (inB_lt hrw) _ _) 0 4 rfl rfl rfl rfl (Nat.le_of_ble_eq_true rfl) rfl rfl (fun H locs hP hS => ?_)
        rw [up_id, up_id] at hP
        refine lv_if_eq (tgt := 90) hx hb dX6_range_60 (by decide) (fun c_18 => ?_) (fun c_18 => ?_)
        · replace hf := ite_p c_18 hf
          exact HK90 x3_9 r2_12 se_16 _ _ _ hf hP hS (lv_sub hl [0, 1] rfl)
        · replace hf := ite_n c_18 hf
          refine lv_aload_n hx hb dX6_range_63 rfl (lv_at hl 0 rfl) ?_
          refine va_get (D := γ.1) (ci := 6) (v := .ref ((a 4) 0)) (C := RX6) (T := TX6) (N := 12) hx hb hU uin6 hown hK hP 0 rfl rfl 8 (by decide) (hU _ U307) (fun _ h9 => h9) rfl dX6_range_64 ?_
          refine lv_aload_n hx hb dX6_range_67 rfl (lv_at hl 0 rfl) ?_
          refine va_get (D := γ.1) (ci := 6) (v := .ref ((a 3) 0)) (C := RX6) (T := TX6) (N := 12) hx hb hU uin6 hown hK hP 0 rfl rfl 2 (by decide) (hU _ U301) (fun _ h9 => h9) rfl dX6_range_68 ?_
          obtain ⟨r2_19, hg_20, hf⟩ := bd_of hf
          refine kt_VF (As := [.ref ((a 3) 0)]) (rest := []) (st1 := []) (b := (a 4) 0) (wc' := wC γ a so_10 r0_11 r1 r2_19 rw re (some (x1.toNatClampNeg)) se_16 sv sk sd) C0 (c_X4_comeTrue l γ (a 4) (a 3) (txV a (some (x1.toNatClampNeg))) hg_20) (cxV (nA := 1) hts goodU U668 U669 U670 U86 U671 (by decide +kernel) ⟨Nat.le_of_ble_eq_true rfl, Nat.le_of_ble_eq_true rfl⟩) hP (hD _ _ _ _ _ _ _ _ _ _ _) hS hl dX6_range_71 (foc_se_r2 γ a _ _ _ _ _ _ _ _ _ _ _ _ _) 0 4 rfl rfl rfl rfl (Nat.le_of_ble_eq_true rfl) rfl rfl (fun H locs hP hS => ?_)
          obtain ⟨x3_21, e_x3_21⟩ : ∃ y : Int32, y = x3_9 + (1 : Int32) := ⟨_, rfl⟩
          replace hf := nm_y hf e_x3_21
          refine lv_iinc (v := x3_21) (lv' := [(3, .int x3_21), (0, .ref ((a 0) 0))]) hx hb dX6_range_74 hl (k := 1) rfl (by rw [e_x3_21]; rfl) (by decide) rfl (fun ls hl => ?_)
          refine lv_aload_n hx hb dX6_range_77 rfl (lv_at hl 1 rfl) ?_
          refine va_get (D := γ.1) (ci := 6) (v := .ref ((a 4) 0)) (C := RX6) (T := TX6) (N := 12) hx hb hU uin6 hown hK hP 0 rfl rfl 8 (by decide) (hU _ U307) (fun _ h9 => h9) rfl dX6_range_78 ?_
          obtain ⟨r_22, se_23, hg_24, hf⟩ := bd2_of hf
          refine kt_VF (As := []) (rest := []) (st1 := [.int r_22]) (b := (a 4) 0) (wc' := wC γ a so_10 r0_11 r1 r2_19 (va_up rw (x1.toNatClampNeg) (rw (x1.toNatClampNeg))) (va_up re (x1.toNatClampNeg) (re (x1.toNatClampNeg))) (some (x1.toNatClampNeg)) se_23 sv sk sd) C0 (c_X4_goesOn l γ (a 4) (a (8 + x1.toNatClampNeg)) hg_24) (cxV (nA := 0) hts goodU U700 U701 U702 U86 U703 (by decide +kernel) ⟨Nat.le_of_ble_eq_true rfl, Nat.le_of_ble_eq_true rfl⟩) hP (hD _ _ _ _ _ _ _ _ _ _ _) hS hl dX6_range_81 (foc_se_rw γ a _ _ _ _ _ _ _ _ _ _ _ (inB_lt hrw) _ _) 0 4 rfl rfl rfl rfl (Nat.le_of_ble_eq_true rfl) rfl rfl (fun H locs hP hS => ?_)
          rw [up_id, up_id] at hP
          refine lv_if_ne (tgt := 42) hx hb dX6_range_84 (by decide) (fun c_25 => ?_) (fun c_25 => ?_)
          · replace hf := ite_n c_25 hf
            exact ih x3_21 r2_19 se_23 _ _ _ hf hP hS (lv_sub hl [1, 0] rfl)
          · replace hf := ite_p c_25 hf
            exact HK87 x3_21 r2_19 se_23 _ _ _ hf hP hS (lv_sub hl [1, 0] rfl)
  have J90 : ∀ (x3_29 : Int32) (so_30 : GS) (r0_31 : GS) (r2_32 : GS) (se_33 : GS) (hrw : inB x1 8 = true) (H : Heap) (locs : List Loc) (ls : Array Slot), f_X6_range_J90 x1 x3_29 so_30 r0_31 r2_32 se_33 = some (rv, so_z, r0_z, r2_z, tn_z, se_z) → va_P γ.1 vwCl (wC γ a so_30 r0_31 r1 r2_32 rw re (some (x1.toNatClampNeg)) se_33 sv sk sd) H → va_S A s.heap H locs → lv_has ls 4 [(0, .ref ((a 0) 0)), (3, .int x3_29)] → W p l e (rmK 7 166) s m ([.ref ((a 0) 0), .int x1] : List Value).toArray below meth c H locs 0 0 (MQ below (KQ γ A (some (.int rv)) (wC γ a so_z r0_z r1 r2_z rw re tn_z se_z sv sk sd)) ([.ref ((a 0) 0), .int x1] : List Value).toArray s 0 0 A) (F0 m 90 ls []) := by
    intro x3_29 so_30 r0_31 r2_32 se_33 hrw H locs ls hf hP hS hl
    unfold f_X6_range_J90 at hf
    refine lv_aload_n hx hb dX6_range_90 rfl (lv_at hl 0 rfl) ?_
    refine lv_aload_n hx hb dX6_range_91 rfl (lv_at hl 0 rfl) ?_
    refine va_get (D := γ.1) (ci := 6) (v := .ref ((a 4) 0)) (C := RX6) (T := TX6) (N := 12) hx hb hU uin6 hown hK hP 0 rfl rfl 8 (by decide) (hU _ U307) (fun _ h9 => h9) rfl dX6_range_92 ?_
    refine va_getN (D := γ.1) (ci := 4) (v := .int (se_33 0 2)) (C := RX4) (T := TX4) (N := 5) hx hb hU uin4 hown hK hP 43 rfl rfl 2 (by decide) (va_Nw.use rfl (hE.2.2.2.2.2.1 _ NW29)) (fun _ h9 => h9) rfl dX6_range_95 ?_
    refine lv_topi (fun u_34 e_u_34 => ?_)
    replace hf := nm_y hf e_u_34
    refine va_put (D := γ.1) (ci := 6) (v := .int u_34) (ty := .int) (C := RX6) (T := TX6) (N := 12) hx hb hU uin6 tyX6 tyX6_ok nmX6 hown hK hP (hD _ _ _ _ _ _ _ _ _ _ _) hS 0 rfl rfl 7 (by decide) (hU _ U306) (fun _ h9 => h9) rfl (by decide +kernel) rfl rfl (Nat.le_of_ble_eq_true rfl) dX6_range_98 (fun H locs hP _ hS => ?_)
    obtain ⟨so_35, e_so_35, hf⟩ := nm_of hf
    replace hP : va_P γ.1 vwCl (wC γ a so_35 r0_31 r1 r2_32 rw re (some (x1.toNatClampNeg)) se_33 sv sk sd) H := by rw [e_so_35]; exact hP
    refine lv_aload_n hx hb dX6_range_101 rfl (lv_at hl 0 rfl) ?_
    refine va_get (D := γ.1) (ci := 6) (v := .int (so_35 0 7)) (C := RX6) (T := TX6) (N := 12) hx hb hU uin6 hown hK hP 0 rfl rfl 7 (by decide) (hU _ U306) (fun _ h9 => h9) rfl dX6_range_102 ?_
    refine lv_iconst (v := -1) hx hb dX6_range_105 (by decide) ?_
    refine lv_icmp_eq (tgt := 116) hx hb dX6_range_106 (by decide) (fun c_36 => ?_) (fun c_36 => ?_)
    · replace hf := ite_p c_36 hf
      refine lv_aload_n hx hb dX6_range_116 rfl (lv_at hl 0 rfl) ?_
      refine va_get (D := γ.1) (ci := 6) (v := .ref ((a 1) 0)) (C := RX6) (T := TX6) (N := 12) hx hb hU uin6 hown hK hP 0 rfl rfl 0 (by decide) (hU _ U299) (fun _ h9 => h9) rfl dX6_range_117 ?_
      refine lv_aload_n hx hb dX6_range_120 rfl (lv_at hl 0 rfl) ?_
      refine va_get (D := γ.1) (ci := 6) (v := .ref ((a 3) 0)) (C := RX6) (T := TX6) (N := 12) hx hb hU uin6 hown hK hP 0 rfl rfl 2 (by decide) (hU _ U301) (fun _ h9 => h9) rfl dX6_range_121 ?_
      obtain ⟨r0_37, hg_38, hf⟩ := bd_of hf
      refine kt_VF (As := [.ref ((a 3) 0)]) (rest := []) (st1 := []) (b := (a 1) 0) (wc' := wC γ a so_35 r0_37 r1 r2_32 rw re (some (x1.toNatClampNeg)) se_33 sv sk sd) C0 (c_X3_become l γ (a 1) (a 3) hg_38) (cxV (nA := 1) hts goodU U549 U550 U551 U85 U552 (by decide +kernel) ⟨Nat.le_of_ble_eq_true rfl, Nat.le_of_ble_eq_true rfl⟩) hP (hD _ _ _ _ _ _ _ _ _ _ _) hS hl dX6_range_124 (foc_r0_r2 γ a _ _ _ _ _ _ _ _ _ _ _ _ _) 0 3 rfl rfl rfl rfl (Nat.le_of_ble_eq_true rfl) rfl rfl (fun H locs hP hS => ?_)
      refine lv_iload_n hx hb dX6_range_127 rfl (lv_at hl 1 rfl) ?_
      obtain ⟨rfl, rfl, rfl, rfl, rfl, rfl⟩ := rt6 hf
      exact kt_iret C0 hP hS dX6_range_128
    · replace hf := ite_n c_36 hf
      refine lv_aload_n hx hb dX6_range_109 rfl (lv_at hl 0 rfl) ?_
      refine lv_bipush (v := 6) hx hb dX6_range_110 (by decide) ?_
      obtain ⟨r_39, so_40, hg_41, hf⟩ := bd2_of hf
      refine kt_V0 (As := [.int (6 : Int32)]) (rest := []) (st1 := [.int r_39]) (b := (a 0) 0) C0 (c_X6_refused l γ a hg_41) (cxV (nA := 1) hts goodU U343 U345 U0 U84 U346 (by decide +kernel) ⟨Nat.le_of_ble_eq_true rfl, Nat.le_of_ble_eq_true rfl⟩) hP (hD _ _ _ _ _ _ _ _ _ _ _) hS hl dX6_range_112 0 6 rfl rfl rfl rfl (Nat.le_of_ble_eq_true rfl) rfl rfl (fun H locs hP hS => ?_)
      obtain ⟨rfl, rfl, rfl, rfl, rfl, rfl⟩ := rt6 hf
      exact kt_iret C0 hP hS dX6_range_115
  unfold f_X6_range at hf
  refine lv_aload_n hx hb dX6_range_0 rfl (lv_at hl 0 rfl) ?_
  refine lv_iload_n hx hb dX6_range_1 rfl (lv_at hl 1 rfl) ?_
  obtain ⟨r_1, hg_2, hf⟩ := bd_of hf
  refine kt_V0 (As := [.int x1]) (rest := []) (st1 := [.int r_1]) (b := (a 0) 0) C0 (c_X6_rowRefusal l γ a hg_2) (cxV (nA := 1) hts goodU U355 U357 U1 U84 U358 (by decide +kernel) ⟨Nat.le_of_ble_eq_true rfl, Nat.le_of_ble_eq_true rfl⟩) hP (hD _ _ _ _ _ _ _ _ _ _ _) hS hl dX6_range_2 0 6 rfl rfl rfl rfl (Nat.le_of_ble_eq_true rfl) rfl rfl (fun H locs hP hS => ?_)
  refine lv_istore_n (lv' := [(2, .int r_1), (0, .ref ((a 0) 0)), (1, .int x1)]) hx hb dX6_range_5 rfl hl (by decide) rfl (fun ls hl => ?_)
  refine lv_iload_n hx hb dX6_range_6 rfl (lv_at hl 0 rfl) ?_
  refine lv_if_eq (tgt := 16) hx hb dX6_range_7 (by decide) (fun c_3 => ?_) (fun c_3 => ?_)
  · replace hf := ite_p c_3 hf
    refine lv_aload_n hx hb dX6_range_16 rfl (lv_at hl 1 rfl) ?_
    refine va_get (D := γ.1) (ci := 6) (v := .ref ((a 3) 0)) (C := RX6) (T := TX6) (N := 12) hx hb hU uin6 hown hK hP 0 rfl rfl 2 (by decide) (hU _ U301) (fun _ h9 => h9) rfl dX6_range_17 ?_
    refine lv_aload_n hx hb dX6_range_20 rfl (lv_at hl 1 rfl) ?_
    refine va_get (D := γ.1) (ci := 6) (v := .ref ((a 1) 0)) (C := RX6) (T := TX6) (N := 12) hx hb hU uin6 hown hK hP 0 rfl rfl 0 (by decide) (hU _ U299) (fun _ h9 => h9) rfl dX6_range_21 ?_
    obtain ⟨r2_4, hg_5, hf⟩ := bd_of hf
    refine kt_VF (As := [.ref ((a 1) 0)]) (rest := []) (st1 := []) (b := (a 3) 0) (wc' := wC γ a so r0 r1 r2_4 rw re tn se sv sk sd) C0 (c_X3_become l γ (a 3) (a 1) hg_5) (cxV (nA := 1) hts goodU U549 U550 U551 U85 U552 (by decide +kernel) ⟨Nat.le_of_ble_eq_true rfl, Nat.le_of_ble_eq_true rfl⟩) hP (hD _ _ _ _ _ _ _ _ _ _ _) hS hl dX6_range_24 (foc_r2_r0 γ a _ _ _ _ _ _ _ _ _ _ _ _ _) 0 3 rfl rfl rfl rfl (Nat.le_of_ble_eq_true rfl) rfl rfl (fun H locs hP hS => ?_)
    refine lv_aload_n hx hb dX6_range_27 rfl (lv_at hl 1 rfl) ?_
    refine va_get (D := γ.1) (ci := 6) (v := .ref ((a 4) 0)) (C := RX6) (T := TX6) (N := 12) hx hb hU uin6 hown hK hP 0 rfl rfl 8 (by decide) (hU _ U307) (fun _ h9 => h9) rfl dX6_range_28 ?_
    refine lv_aload_n hx hb dX6_range_31 rfl (lv_at hl 1 rfl) ?_
    refine va_get (D := γ.1) (ci := 6) (v := .ref (a 0 5)) (C := RX6) (T := TX6) (N := 12) hx hb hU uin6 hown hK hP 0 rfl rfl 4 (by decide) (hU _ U303) (fun _ h9 => h9) rfl dX6_range_32 ?_
    refine lv_iload_n hx hb dX6_range_35 rfl (lv_at hl 2 rfl) ?_
    obtain ⟨g_6, hf⟩ := gd_of hf
    refine va_aldq (C := RX5) hx hb hK hP 1 2 rfl rfl (inB_vp g_6) dX6_range_36 ?_
    rw [rowF_at a (inB_lt g_6)]
    obtain ⟨se_7, hg_8, hf⟩ := bd_of hf
    refine kt_VF (As := [.ref ((a (8 + x1.toNatClampNeg)) 0)]) (rest := []) (st1 := []) (b := (a 4) 0) (wc' := wC γ a so r0 r1 r2_4 rw re (some (x1.toNatClampNeg)) se_7 sv sk sd) C0 (c_X4_begin l γ (a 4) (txV a tn) (a (8 + x1.toNatClampNeg) 0) hg_8) (cxV (nA := 1) hts goodU U554 U555 U556 U86 U557 (by decide +kernel) ⟨Nat.le_of_ble_eq_true rfl, Nat.le_of_ble_eq_true rfl⟩) hP (hD _ _ _ _ _ _ _ _ _ _ _) hS hl dX6_range_37 (foc_beg γ a _ _ _ _ _ _ _ _ _ _ _ _ _) 0 4 rfl rfl rfl rfl (Nat.le_of_ble_eq_true rfl) rfl rfl (fun H locs hP hS => ?_)
    refine lv_iconst (v := 0) hx hb dX6_range_40 (by decide) ?_
    refine lv_istore_n (lv' := [(3, .int (0 : Int32)), (2, .int r_1), (0, .ref ((a 0) 0)), (1, .int x1)]) hx hb dX6_range_41 rfl hl (by decide) rfl (fun ls hl => ?_)
    refine L42 so r0 _ _ g_6 (fun x3_26 r2_27 se_28 H locs ls hf hP hS hl => ?_) (fun x3_42 r2_43 se_44 H locs ls hf hP hS hl => ?_) FU (0 : Int32) r2_4 se_7 _ _ _ hf hP hS (lv_sub hl [2, 0] rfl)
    · exact J90 x3_26 so r0 r2_27 se_28 g_6 _ _ _ hf hP hS (lv_sub hl [0, 1] rfl)
    · refine lv_goto (tgt := 90) hx hb dX6_range_87 (by decide) ?_
      exact J90 x3_42 so r0 r2_43 se_44 g_6 _ _ _ hf hP hS (lv_sub hl [0, 1] rfl)
  · replace hf := ite_n c_3 hf
    refine lv_aload_n hx hb dX6_range_10 rfl (lv_at hl 1 rfl) ?_
    refine lv_iload_n hx hb dX6_range_11 rfl (lv_at hl 0 rfl) ?_
    obtain ⟨r_45, so_46, hg_47, hf⟩ := bd2_of hf
    refine kt_V0 (As := [.int r_1]) (rest := []) (st1 := [.int r_45]) (b := (a 0) 0) C0 (c_X6_refused l γ a hg_47) (cxV (nA := 1) hts goodU U343 U345 U0 U84 U346 (by decide +kernel) ⟨Nat.le_of_ble_eq_true rfl, Nat.le_of_ble_eq_true rfl⟩) hP (hD _ _ _ _ _ _ _ _ _ _ _) hS hl dX6_range_12 0 6 rfl rfl rfl rfl (Nat.le_of_ble_eq_true rfl) rfl rfl (fun H locs hP hS => ?_)
    obtain ⟨rfl, rfl, rfl, rfl, rfl, rfl⟩ := rt6 hf
    exact kt_iret C0 hP hS dX6_range_15
set_option maxHeartbeats 4000000 in
set_option maxRecDepth 100000 in
theorem c_X6_fault (l : Launch) (γ : Gm) (a : Nat → Nat → Nat) {so : GS} {r0 : GS} {r1 : GS} {r2 : GS} {rw : Nat → GS} {re : Nat → Nat → Int64} {tn : Option Nat} {se : GS} {sv : GS} {sk : GS} {sd : GS} {rv : Int32} (hf : f_X6_fault so = some rv) : Kt l γ yX6_fault (Cond.code yX6_fault cX6_fault 1 (some .int) :: U) 0 0 [.ref ((a 0) 0)] (wC γ a so r0 r1 r2 rw re tn se sv sk sd) (some (.int rv)) (wC γ a so r0 r1 r2 rw re tn se sv sk sd) := by
  refine Kt.of (by decide) rfl (Nat.le_of_ble_eq_true rfl) rfl ?_
  intro p e s m below meth c A ls C0 hP hD0 hS hl
  obtain ⟨hx, hb, hml, hown, hts, hr, hlocks, hK, hE, hA⟩ := id C0
  have hU : ∀ w ∈ U, w.before _ s = true := fun w h => hts w (List.mem_cons_of_mem _ h)
  have hD : ∀ (so : GS) (r0 : GS) (r1 : GS) (r2 : GS) (rw : Nat → GS) (re : Nat → Nat → Int64) (tn : Option Nat) (se : GS) (sv : GS) (sk : GS) (sd : GS), va_D A (wC γ a so r0 r1 r2 rw re tn se sv sk sd) := fun _ _ _ _ _ _ _ _ _ _ _ => hD0.fst rfl
  have hl : lv_has ls 1 [(0, .ref ((a 0) 0))] := hl
  unfold f_X6_fault at hf
  refine lv_aload_n hx hb dX6_fault_0 rfl (lv_at hl 0 rfl) ?_
  refine va_get (D := γ.1) (ci := 6) (v := .int (so 0 7)) (C := RX6) (T := TX6) (N := 12) hx hb hU uin6 hown hK hP 0 rfl rfl 7 (by decide) (hU _ U306) (fun _ h9 => h9) rfl dX6_fault_1 ?_
  obtain rfl := Option.some.inj hf
  exact kt_iret C0 hP hS dX6_fault_4
set_option maxHeartbeats 4000000 in
set_option maxRecDepth 100000 in
theorem c_X6_since (l : Launch) (γ : Gm) (a : Nat → Nat → Nat) {so : GS} {r0 : GS} {r1 : GS} {r2 : GS} {rw : Nat → GS} {re : Nat → Nat → Int64} {tn : Option Nat} {se : GS} {sv : GS} {sk : GS} {sd : GS} {x1 : Int32} {x2 : Int32} {rv : Int32} {so_z : GS} (hf : f_X6_since so r0 x1 x2 = some (rv, so_z)) : Kt l γ yX6_since (Cond.code yX6_since cX6_since 3 (some .int) :: U) 2 43 [.ref ((a 0) 0), .int x1, .int x2] (wC γ a so r0 r1 r2 rw re tn se sv sk sd) (some (.int rv)) (wC γ a so_z r0 r1 r2 rw re tn se sv sk sd) := by
  refine Kt.of (by decide) rfl (Nat.le_of_ble_eq_true rfl) rfl ?_
  intro p e s m below meth c A ls C0 hP hD0 hS hl
  obtain ⟨hx, hb, hml, hown, hts, hr, hlocks, hK, hE, hA⟩ := id C0
  have hU : ∀ w ∈ U, w.before _ s = true := fun w h => hts w (List.mem_cons_of_mem _ h)
  have hD : ∀ (so : GS) (r0 : GS) (r1 : GS) (r2 : GS) (rw : Nat → GS) (re : Nat → Nat → Int64) (tn : Option Nat) (se : GS) (sv : GS) (sk : GS) (sd : GS), va_D A (wC γ a so r0 r1 r2 rw re tn se sv sk sd) := fun _ _ _ _ _ _ _ _ _ _ _ => hD0.fst rfl
  have hl : lv_has ls 3 [(0, .ref ((a 0) 0)), (1, .int x1), (2, .int x2)] := hl
  have J22 : ∀ (so_4 : GS) (H : Heap) (locs : List Loc) (ls : Array Slot), f_X6_since_J22 so_4 = some (rv, so_z) → va_P γ.1 vwCl (wC γ a so_4 r0 r1 r2 rw re tn se sv sk sd) H → va_S A s.heap H locs → lv_has ls 3 [(0, .ref ((a 0) 0))] → W p l e (rmK 2 43) s m ([.ref ((a 0) 0), .int x1, .int x2] : List Value).toArray below meth c H locs 0 0 (MQ below (KQ γ A (some (.int rv)) (wC γ a so_z r0 r1 r2 rw re tn se sv sk sd)) ([.ref ((a 0) 0), .int x1, .int x2] : List Value).toArray s 0 0 A) (F0 m 22 ls []) := by
    intro so_4 H locs ls hf hP hS hl
    unfold f_X6_since_J22 at hf
    refine lv_aload_n hx hb dX6_since_22 rfl (lv_at hl 0 rfl) ?_
    refine lv_iconst (v := 1) hx hb dX6_since_23 (by decide) ?_
    obtain ⟨r_5, so_6, hg_7, hf⟩ := bd2_of hf
    refine kt_V0 (As := [.int (1 : Int32)]) (rest := []) (st1 := [.int r_5]) (b := (a 0) 0) C0 (c_X6_refused l γ a hg_7) (cxV (nA := 1) hts goodU U343 U345 U0 U84 U346 (by decide +kernel) ⟨Nat.le_of_ble_eq_true rfl, Nat.le_of_ble_eq_true rfl⟩) hP (hD _ _ _ _ _ _ _ _ _ _ _) hS hl dX6_since_24 0 6 rfl rfl rfl rfl (Nat.le_of_ble_eq_true rfl) rfl rfl (fun H locs hP hS => ?_)
    refine lv_bipush (v := 10) hx hb dX6_since_27 (by decide) ?_
    refine lv_isub hx hb dX6_since_29 ?_
    obtain ⟨rfl, rfl⟩ := rt2 hf
    exact kt_iret C0 hP hS dX6_since_30
  unfold f_X6_since at hf
  refine lv_aload_n hx hb dX6_since_0 rfl (lv_at hl 0 rfl) ?_
  refine va_get (D := γ.1) (ci := 6) (v := .ref ((a 1) 0)) (C := RX6) (T := TX6) (N := 12) hx hb hU uin6 hown hK hP 0 rfl rfl 0 (by decide) (hU _ U299) (fun _ h9 => h9) rfl dX6_since_1 ?_
  refine lv_iload_n hx hb dX6_since_4 rfl (lv_at hl 1 rfl) ?_
  obtain ⟨r_1, hg_2, hf⟩ := bd_of hf
  refine kt_VF (As := [.int x1]) (rest := []) (st1 := [.int r_1]) (b := (a 1) 0) (wc' := wC γ a so r0 r1 r2 rw re tn se sv sk sd) C0 (c_X3_isPeak l γ (a 1) hg_2) (cxV (nA := 1) hts goodU U403 U404 U405 U85 U406 (by decide +kernel) ⟨Nat.le_of_ble_eq_true rfl, Nat.le_of_ble_eq_true rfl⟩) hP (hD _ _ _ _ _ _ _ _ _ _ _) hS hl dX6_since_5 (foc_ro (foc_r0 γ a _ _ _ _ _ _ _ _ _ _ _ (fun _ _ => 0))) 0 3 rfl rfl rfl rfl (Nat.le_of_ble_eq_true rfl) rfl rfl (fun H locs hP hS => ?_)
  refine lv_if_eq (tgt := 22) hx hb dX6_since_8 (by decide) (fun c_3 => ?_) (fun c_3 => ?_)
  · replace hf := ite_p c_3 hf
    exact J22 so _ _ _ hf hP hS (lv_sub hl [0] rfl)
  · replace hf := ite_n c_3 hf
    refine lv_aload_n hx hb dX6_since_11 rfl (lv_at hl 0 rfl) ?_
    refine va_get (D := γ.1) (ci := 6) (v := .ref ((a 1) 0)) (C := RX6) (T := TX6) (N := 12) hx hb hU uin6 hown hK hP 0 rfl rfl 0 (by decide) (hU _ U299) (fun _ h9 => h9) rfl dX6_since_12 ?_
    refine lv_iload_n hx hb dX6_since_15 rfl (lv_at hl 2 rfl) ?_
    obtain ⟨r_8, hg_9, hf⟩ := bd_of hf
    refine kt_VF (As := [.int x2]) (rest := []) (st1 := [.int r_8]) (b := (a 1) 0) (wc' := wC γ a so r0 r1 r2 rw re tn se sv sk sd) C0 (c_X3_isPeak l γ (a 1) hg_9) (cxV (nA := 1) hts goodU U403 U404 U405 U85 U406 (by decide +kernel) ⟨Nat.le_of_ble_eq_true rfl, Nat.le_of_ble_eq_true rfl⟩) hP (hD _ _ _ _ _ _ _ _ _ _ _) hS hl dX6_since_16 (foc_ro (foc_r0 γ a _ _ _ _ _ _ _ _ _ _ _ (fun _ _ => 0))) 0 3 rfl rfl rfl rfl (Nat.le_of_ble_eq_true rfl) rfl rfl (fun H locs hP hS => ?_)
    refine lv_if_ne (tgt := 31) hx hb dX6_since_19 (by decide) (fun c_10 => ?_) (fun c_10 => ?_)
    · replace hf := ite_n c_10 hf
      refine lv_aload_n hx hb dX6_since_31 rfl (lv_at hl 0 rfl) ?_
      refine va_get (D := γ.1) (ci := 6) (v := .ref ((a 1) 0)) (C := RX6) (T := TX6) (N := 12) hx hb hU uin6 hown hK hP 0 rfl rfl 0 (by decide) (hU _ U299) (fun _ h9 => h9) rfl dX6_since_32 ?_
      refine lv_iload_n hx hb dX6_since_35 rfl (lv_at hl 1 rfl) ?_
      refine lv_iload_n hx hb dX6_since_36 rfl (lv_at hl 2 rfl) ?_
      obtain ⟨r_11, hg_12, hf⟩ := bd_of hf
      refine kt_VF (As := [.int x1, .int x2]) (rest := []) (st1 := [.int r_11]) (b := (a 1) 0) (wc' := wC γ a so r0 r1 r2 rw re tn se sv sk sd) C0 (c_X3_seesPeak l γ (a 1) hg_12) (cxV (nA := 2) hts goodU U713 U689 U690 U85 U691 (by decide +kernel) ⟨Nat.le_of_ble_eq_true rfl, Nat.le_of_ble_eq_true rfl⟩) hP (hD _ _ _ _ _ _ _ _ _ _ _) hS hl dX6_since_37 (foc_ro (foc_r0 γ a _ _ _ _ _ _ _ _ _ _ _ (fun _ _ => 0))) 0 3 rfl rfl rfl rfl (Nat.le_of_ble_eq_true rfl) rfl rfl (fun H locs hP hS => ?_)
      refine lv_if_eq (tgt := 55) hx hb dX6_since_40 (by decide) (fun c_13 => ?_) (fun c_13 => ?_)
      · replace hf := ite_p c_13 hf
        refine lv_iconst (v := -1) hx hb dX6_since_55 (by decide) ?_
        obtain ⟨rfl, rfl⟩ := rt2 hf
        exact kt_iret C0 hP hS dX6_since_56
      · replace hf := ite_n c_13 hf
        refine lv_aload_n hx hb dX6_since_43 rfl (lv_at hl 0 rfl) ?_
        refine va_get (D := γ.1) (ci := 6) (v := .ref ((a 1) 0)) (C := RX6) (T := TX6) (N := 12) hx hb hU uin6 hown hK hP 0 rfl rfl 0 (by decide) (hU _ U299) (fun _ h9 => h9) rfl dX6_since_44 ?_
        refine lv_iload_n hx hb dX6_since_47 rfl (lv_at hl 1 rfl) ?_
        refine lv_iload_n hx hb dX6_since_48 rfl (lv_at hl 2 rfl) ?_
        obtain ⟨r_14, hg_15, hf⟩ := bd_of hf
        refine kt_VF (As := [.int x1, .int x2]) (rest := []) (st1 := [.int r_14]) (b := (a 1) 0) (wc' := wC γ a so r0 r1 r2 rw re tn se sv sk sd) C0 (c_X3_sinceOf l γ (a 1) hg_15) (cxV (nA := 2) hts goodU U714 U693 U694 U85 U695 (by decide +kernel) ⟨Nat.le_of_ble_eq_true rfl, Nat.le_of_ble_eq_true rfl⟩) hP (hD _ _ _ _ _ _ _ _ _ _ _) hS hl dX6_since_49 (foc_ro (foc_r0 γ a _ _ _ _ _ _ _ _ _ _ _ (fun _ _ => 0))) 0 3 rfl rfl rfl rfl (Nat.le_of_ble_eq_true rfl) rfl rfl (fun H locs hP hS => ?_)
        refine lv_goto (tgt := 56) hx hb dX6_since_52 (by decide) ?_
        obtain ⟨rfl, rfl⟩ := rt2 hf
        exact kt_iret C0 hP hS dX6_since_56
    · replace hf := ite_p c_10 hf
      exact J22 so _ _ _ hf hP hS (lv_sub hl [0] rfl)
set_option maxHeartbeats 4000000 in
set_option maxRecDepth 100000 in
theorem c_X6_black (l : Launch) (γ : Gm) (a : Nat → Nat → Nat) {so : GS} {r0 : GS} {r1 : GS} {r2 : GS} {rw : Nat → GS} {re : Nat → Nat → Int64} {tn : Option Nat} {se : GS} {sv : GS} {sk : GS} {sd : GS} {x1 : Int32} {x2 : Int32} {rv : Int32} {so_z : GS} (hf : f_X6_black so r0 x1 x2 = some (rv, so_z)) : Kt l γ yX6_black (Cond.code yX6_black cX6_black 3 (some .int) :: U) 4 90 [.ref ((a 0) 0), .int x1, .int x2] (wC γ a so r0 r1 r2 rw re tn se sv sk sd) (some (.int rv)) (wC γ a so_z r0 r1 r2 rw re tn se sv sk sd) := by
  refine Kt.of (by decide) rfl (Nat.le_of_ble_eq_true rfl) rfl ?_
  intro p e s m below meth c A ls C0 hP hD0 hS hl
  obtain ⟨hx, hb, hml, hown, hts, hr, hlocks, hK, hE, hA⟩ := id C0
  have hU : ∀ w ∈ U, w.before _ s = true := fun w h => hts w (List.mem_cons_of_mem _ h)
  have hD : ∀ (so : GS) (r0 : GS) (r1 : GS) (r2 : GS) (rw : Nat → GS) (re : Nat → Nat → Int64) (tn : Option Nat) (se : GS) (sv : GS) (sk : GS) (sd : GS), va_D A (wC γ a so r0 r1 r2 rw re tn se sv sk sd) := fun _ _ _ _ _ _ _ _ _ _ _ => hD0.fst rfl
  have hl : lv_has ls 3 [(0, .ref ((a 0) 0)), (1, .int x1), (2, .int x2)] := hl
  have J28 : ∀ (so_5 : GS) (H : Heap) (locs : List Loc) (ls : Array Slot), f_X6_black_J28 so_5 = some (rv, so_z) → va_P γ.1 vwCl (wC γ a so_5 r0 r1 r2 rw re tn se sv sk sd) H → va_S A s.heap H locs → lv_has ls 3 [(0, .ref ((a 0) 0))] → W p l e (rmK 4 90) s m ([.ref ((a 0) 0), .int x1, .int x2] : List Value).toArray below meth c H locs 0 0 (MQ below (KQ γ A (some (.int rv)) (wC γ a so_z r0 r1 r2 rw re tn se sv sk sd)) ([.ref ((a 0) 0), .int x1, .int x2] : List Value).toArray s 0 0 A) (F0 m 28 ls []) := by
    intro so_5 H locs ls hf hP hS hl
    unfold f_X6_black_J28 at hf
    refine lv_aload_n hx hb dX6_black_28 rfl (lv_at hl 0 rfl) ?_
    refine lv_bipush (v := 6) hx hb dX6_black_29 (by decide) ?_
    obtain ⟨r_6, so_7, hg_8, hf⟩ := bd2_of hf
    refine kt_V0 (As := [.int (6 : Int32)]) (rest := []) (st1 := [.int r_6]) (b := (a 0) 0) C0 (c_X6_refused l γ a hg_8) (cxV (nA := 1) hts goodU U343 U345 U0 U84 U346 (by decide +kernel) ⟨Nat.le_of_ble_eq_true rfl, Nat.le_of_ble_eq_true rfl⟩) hP (hD _ _ _ _ _ _ _ _ _ _ _) hS hl dX6_black_31 0 6 rfl rfl rfl rfl (Nat.le_of_ble_eq_true rfl) rfl rfl (fun H locs hP hS => ?_)
    obtain ⟨rfl, rfl⟩ := rt2 hf
    exact kt_iret C0 hP hS dX6_black_34
  unfold f_X6_black at hf
  refine lv_aload_n hx hb dX6_black_0 rfl (lv_at hl 0 rfl) ?_
  refine va_get (D := γ.1) (ci := 6) (v := .ref ((a 1) 0)) (C := RX6) (T := TX6) (N := 12) hx hb hU uin6 hown hK hP 0 rfl rfl 0 (by decide) (hU _ U299) (fun _ h9 => h9) rfl dX6_black_1 ?_
  refine lv_iload_n hx hb dX6_black_4 rfl (lv_at hl 1 rfl) ?_
  obtain ⟨r_1, hg_2, hf⟩ := bd_of hf
  refine kt_VF (As := [.int x1]) (rest := []) (st1 := [.int r_1]) (b := (a 1) 0) (wc' := wC γ a so r0 r1 r2 rw re tn se sv sk sd) C0 (c_X3_isPeak l γ (a 1) hg_2) (cxV (nA := 1) hts goodU U403 U404 U405 U85 U406 (by decide +kernel) ⟨Nat.le_of_ble_eq_true rfl, Nat.le_of_ble_eq_true rfl⟩) hP (hD _ _ _ _ _ _ _ _ _ _ _) hS hl dX6_black_5 (foc_ro (foc_r0 γ a _ _ _ _ _ _ _ _ _ _ _ (fun _ _ => 0))) 0 3 rfl rfl rfl rfl (Nat.le_of_ble_eq_true rfl) rfl rfl (fun H locs hP hS => ?_)
  refine lv_if_ne (tgt := 17) hx hb dX6_black_8 (by decide) (fun c_3 => ?_) (fun c_3 => ?_)
  · replace hf := ite_n c_3 hf
    refine lv_iload_n hx hb dX6_black_17 rfl (lv_at hl 2 rfl) ?_
    refine lv_if_lt (tgt := 28) hx hb dX6_black_18 (by decide) (fun c_4 => ?_) (fun c_4 => ?_)
    · replace hf := ite_p c_4 hf
      exact J28 so _ _ _ hf hP hS (lv_sub hl [0] rfl)
    · replace hf := ite_n c_4 hf
      refine lv_iload_n hx hb dX6_black_21 rfl (lv_at hl 2 rfl) ?_
      refine lv_sipush (v := 999) hx hb dX6_black_22 (by decide) ?_
      refine lv_icmp_le (tgt := 35) hx hb dX6_black_25 (by decide) (fun c_9 => ?_) (fun c_9 => ?_)
      · replace hf := ite_p c_9 hf
        refine lv_aload_n hx hb dX6_black_35 rfl (lv_at hl 0 rfl) ?_
        refine va_get (D := γ.1) (ci := 6) (v := .ref ((a 1) 0)) (C := RX6) (T := TX6) (N := 12) hx hb hU uin6 hown hK hP 0 rfl rfl 0 (by decide) (hU _ U299) (fun _ h9 => h9) rfl dX6_black_36 ?_
        refine lv_aload_n hx hb dX6_black_39 rfl (lv_at hl 0 rfl) ?_
        refine va_get (D := γ.1) (ci := 6) (v := .ref ((a 1) 0)) (C := RX6) (T := TX6) (N := 12) hx hb hU uin6 hown hK hP 0 rfl rfl 0 (by decide) (hU _ U299) (fun _ h9 => h9) rfl dX6_black_40 ?_
        refine va_getN (D := γ.1) (ci := 3) (v := .int (r0 0 16)) (C := RX3) (T := TX3) (N := 18) hx hb hU uin3 hown hK hP 4 rfl rfl 16 (by decide) (va_Nw.use rfl (hE.2.2.2.2.2.1 _ NW25)) (fun _ h9 => h9) rfl dX6_black_43 ?_
        refine lv_iload_n hx hb dX6_black_46 rfl (lv_at hl 2 rfl) ?_
        refine lv_iadd hx hb dX6_black_47 ?_
        obtain ⟨r_10, hg_11, hf⟩ := bd_of hf
        refine kt_VF (As := [.int ((r0 0 16) + x2)]) (rest := []) (st1 := [.int r_10]) (b := (a 1) 0) (wc' := wC γ a so r0 r1 r2 rw re tn se sv sk sd) C0 (c_X3_blackIn l γ (a 1) hg_11) (cxV (nA := 1) hts goodU U427 U428 U429 U85 U430 (by decide +kernel) ⟨Nat.le_of_ble_eq_true rfl, Nat.le_of_ble_eq_true rfl⟩) hP (hD _ _ _ _ _ _ _ _ _ _ _) hS hl dX6_black_48 (foc_ro (foc_r0 γ a _ _ _ _ _ _ _ _ _ _ _ (fun _ _ => 0))) 0 3 rfl rfl rfl rfl (Nat.le_of_ble_eq_true rfl) rfl rfl (fun H locs hP hS => ?_)
        refine lv_iload_n hx hb dX6_black_51 rfl (lv_at hl 1 rfl) ?_
        obtain ⟨r_12, hg_13, hf⟩ := bd_of hf
        refine kt_SF (As := [.int r_10, .int x1]) (rest := []) (st1 := [.int r_12]) (wc' := wC γ a so r0 r1 r2 rw re tn se sv sk sd) C0 (c_X6_bit l γ hg_13) (cxS (nA := 2) hts goodU U448 U441 U84 U442 (by decide +kernel) ⟨Nat.le_of_ble_eq_true rfl, Nat.le_of_ble_eq_true rfl⟩) hP (hD _ _ _ _ _ _ _ _ _ _ _) hS hl dX6_black_52 foc_nil rfl (Nat.le_of_ble_eq_true rfl) rfl rfl (fun H locs hP hS => ?_)
        obtain ⟨rfl, rfl⟩ := rt2 hf
        exact kt_iret C0 hP hS dX6_black_55
      · replace hf := ite_n c_9 hf
        exact J28 so _ _ _ hf hP hS (lv_sub hl [0] rfl)
  · replace hf := ite_p c_3 hf
    refine lv_aload_n hx hb dX6_black_11 rfl (lv_at hl 0 rfl) ?_
    refine lv_iconst (v := 1) hx hb dX6_black_12 (by decide) ?_
    obtain ⟨r_14, so_15, hg_16, hf⟩ := bd2_of hf
    refine kt_V0 (As := [.int (1 : Int32)]) (rest := []) (st1 := [.int r_14]) (b := (a 0) 0) C0 (c_X6_refused l γ a hg_16) (cxV (nA := 1) hts goodU U343 U345 U0 U84 U346 (by decide +kernel) ⟨Nat.le_of_ble_eq_true rfl, Nat.le_of_ble_eq_true rfl⟩) hP (hD _ _ _ _ _ _ _ _ _ _ _) hS hl dX6_black_13 0 6 rfl rfl rfl rfl (Nat.le_of_ble_eq_true rfl) rfl rfl (fun H locs hP hS => ?_)
    obtain ⟨rfl, rfl⟩ := rt2 hf
    exact kt_iret C0 hP hS dX6_black_16
set_option maxHeartbeats 4000000 in
set_option maxRecDepth 100000 in
theorem c_X6_behind (l : Launch) (γ : Gm) (a : Nat → Nat → Nat) {so : GS} {r0 : GS} {r1 : GS} {r2 : GS} {rw : Nat → GS} {re : Nat → Nat → Int64} {tn : Option Nat} {se : GS} {sv : GS} {sk : GS} {sd : GS} {x1 : Int32} {x2 : Int32} {rv : Int32} {so_z : GS} (hf : f_X6_behind so r0 x1 x2 = some (rv, so_z)) : Kt l γ yX6_behind (Cond.code yX6_behind cX6_behind 4 (some .int) :: U) 4 90 [.ref ((a 0) 0), .int x1, .int x2] (wC γ a so r0 r1 r2 rw re tn se sv sk sd) (some (.int rv)) (wC γ a so_z r0 r1 r2 rw re tn se sv sk sd) := by
  refine Kt.of (by decide) rfl (Nat.le_of_ble_eq_true rfl) rfl ?_
  intro p e s m below meth c A ls C0 hP hD0 hS hl
  obtain ⟨hx, hb, hml, hown, hts, hr, hlocks, hK, hE, hA⟩ := id C0
  have hU : ∀ w ∈ U, w.before _ s = true := fun w h => hts w (List.mem_cons_of_mem _ h)
  have hD : ∀ (so : GS) (r0 : GS) (r1 : GS) (r2 : GS) (rw : Nat → GS) (re : Nat → Nat → Int64) (tn : Option Nat) (se : GS) (sv : GS) (sk : GS) (sd : GS), va_D A (wC γ a so r0 r1 r2 rw re tn se sv sk sd) := fun _ _ _ _ _ _ _ _ _ _ _ => hD0.fst rfl
  have hl : lv_has ls 4 [(0, .ref ((a 0) 0)), (1, .int x1), (2, .int x2)] := hl
  have J26 : ∀ (so_6 : GS) (H : Heap) (locs : List Loc) (ls : Array Slot), f_X6_behind_J26 so_6 = some (rv, so_z) → va_P γ.1 vwCl (wC γ a so_6 r0 r1 r2 rw re tn se sv sk sd) H → va_S A s.heap H locs → lv_has ls 4 [(0, .ref ((a 0) 0))] → W p l e (rmK 4 90) s m ([.ref ((a 0) 0), .int x1, .int x2] : List Value).toArray below meth c H locs 0 0 (MQ below (KQ γ A (some (.int rv)) (wC γ a so_z r0 r1 r2 rw re tn se sv sk sd)) ([.ref ((a 0) 0), .int x1, .int x2] : List Value).toArray s 0 0 A) (F0 m 26 ls []) := by
    intro so_6 H locs ls hf hP hS hl
    unfold f_X6_behind_J26 at hf
    refine lv_aload_n hx hb dX6_behind_26 rfl (lv_at hl 0 rfl) ?_
    refine lv_bipush (v := 6) hx hb dX6_behind_27 (by decide) ?_
    obtain ⟨r_7, so_8, hg_9, hf⟩ := bd2_of hf
    refine kt_V0 (As := [.int (6 : Int32)]) (rest := []) (st1 := [.int r_7]) (b := (a 0) 0) C0 (c_X6_refused l γ a hg_9) (cxV (nA := 1) hts goodU U343 U345 U0 U84 U346 (by decide +kernel) ⟨Nat.le_of_ble_eq_true rfl, Nat.le_of_ble_eq_true rfl⟩) hP (hD _ _ _ _ _ _ _ _ _ _ _) hS hl dX6_behind_29 0 6 rfl rfl rfl rfl (Nat.le_of_ble_eq_true rfl) rfl rfl (fun H locs hP hS => ?_)
    obtain ⟨rfl, rfl⟩ := rt2 hf
    exact kt_iret C0 hP hS dX6_behind_32
  have J15 : ∀ (x1_2 : Int32) (x2_3 : Int32) (so_4 : GS) (H : Heap) (locs : List Loc) (ls : Array Slot), f_X6_behind_J15 r0 x1_2 x2_3 so_4 = some (rv, so_z) → va_P γ.1 vwCl (wC γ a so_4 r0 r1 r2 rw re tn se sv sk sd) H → va_S A s.heap H locs → lv_has ls 4 [(0, .ref ((a 0) 0)), (1, .int x1_2), (2, .int x2_3)] → W p l e (rmK 4 90) s m ([.ref ((a 0) 0), .int x1, .int x2] : List Value).toArray below meth c H locs 0 0 (MQ below (KQ γ A (some (.int rv)) (wC γ a so_z r0 r1 r2 rw re tn se sv sk sd)) ([.ref ((a 0) 0), .int x1, .int x2] : List Value).toArray s 0 0 A) (F0 m 15 ls []) := by
    intro x1_2 x2_3 so_4 H locs ls hf hP hS hl
    unfold f_X6_behind_J15 at hf
    refine lv_iload_n hx hb dX6_behind_15 rfl (lv_at hl 1 rfl) ?_
    refine lv_if_lt (tgt := 26) hx hb dX6_behind_16 (by decide) (fun c_5 => ?_) (fun c_5 => ?_)
    · replace hf := ite_p c_5 hf
      exact J26 so_4 _ _ _ hf hP hS (lv_sub hl [0] rfl)
    · replace hf := ite_n c_5 hf
      refine lv_iload_n hx hb dX6_behind_19 rfl (lv_at hl 1 rfl) ?_
      refine lv_sipush (v := 999) hx hb dX6_behind_20 (by decide) ?_
      refine lv_icmp_le (tgt := 33) hx hb dX6_behind_23 (by decide) (fun c_10 => ?_) (fun c_10 => ?_)
      · replace hf := ite_p c_10 hf
        refine lv_aload_n hx hb dX6_behind_33 rfl (lv_at hl 0 rfl) ?_
        refine va_get (D := γ.1) (ci := 6) (v := .ref ((a 1) 0)) (C := RX6) (T := TX6) (N := 12) hx hb hU uin6 hown hK hP 0 rfl rfl 0 (by decide) (hU _ U299) (fun _ h9 => h9) rfl dX6_behind_34 ?_
        refine lv_aload_n hx hb dX6_behind_37 rfl (lv_at hl 0 rfl) ?_
        refine va_get (D := γ.1) (ci := 6) (v := .ref ((a 1) 0)) (C := RX6) (T := TX6) (N := 12) hx hb hU uin6 hown hK hP 0 rfl rfl 0 (by decide) (hU _ U299) (fun _ h9 => h9) rfl dX6_behind_38 ?_
        refine va_getN (D := γ.1) (ci := 3) (v := .int (r0 0 16)) (C := RX3) (T := TX3) (N := 18) hx hb hU uin3 hown hK hP 4 rfl rfl 16 (by decide) (va_Nw.use rfl (hE.2.2.2.2.2.1 _ NW25)) (fun _ h9 => h9) rfl dX6_behind_41 ?_
        refine lv_iload_n hx hb dX6_behind_44 rfl (lv_at hl 1 rfl) ?_
        refine lv_iadd hx hb dX6_behind_45 ?_
        obtain ⟨r_11, hg_12, hf⟩ := bd_of hf
        refine kt_VF (As := [.int ((r0 0 16) + x1_2)]) (rest := []) (st1 := [.int r_11]) (b := (a 1) 0) (wc' := wC γ a so_4 r0 r1 r2 rw re tn se sv sk sd) C0 (c_X3_blackIn l γ (a 1) hg_12) (cxV (nA := 1) hts goodU U427 U428 U429 U85 U430 (by decide +kernel) ⟨Nat.le_of_ble_eq_true rfl, Nat.le_of_ble_eq_true rfl⟩) hP (hD _ _ _ _ _ _ _ _ _ _ _) hS hl dX6_behind_46 (foc_ro (foc_r0 γ a _ _ _ _ _ _ _ _ _ _ _ (fun _ _ => 0))) 0 3 rfl rfl rfl rfl (Nat.le_of_ble_eq_true rfl) rfl rfl (fun H locs hP hS => ?_)
        refine lv_istore_n (lv' := [(3, .int r_11), (0, .ref ((a 0) 0)), (1, .int x1_2), (2, .int x2_3)]) hx hb dX6_behind_49 rfl hl (by decide) rfl (fun ls hl => ?_)
        refine lv_iload_n hx hb dX6_behind_50 rfl (lv_at hl 3 rfl) ?_
        refine lv_if_ne (tgt := 58) hx hb dX6_behind_51 (by decide) (fun c_13 => ?_) (fun c_13 => ?_)
        · replace hf := ite_n c_13 hf
          refine lv_aload_n hx hb dX6_behind_58 rfl (lv_at hl 1 rfl) ?_
          refine va_get (D := γ.1) (ci := 6) (v := .ref ((a 1) 0)) (C := RX6) (T := TX6) (N := 12) hx hb hU uin6 hown hK hP 0 rfl rfl 0 (by decide) (hU _ U299) (fun _ h9 => h9) rfl dX6_behind_59 ?_
          refine lv_iload_n hx hb dX6_behind_62 rfl (lv_at hl 0 rfl) ?_
          obtain ⟨r_14, hg_15, hf⟩ := bd_of hf
          refine kt_VF (As := [.int r_11]) (rest := []) (st1 := [.int r_14]) (b := (a 1) 0) (wc' := wC γ a so_4 r0 r1 r2 rw re tn se sv sk sd) C0 (c_X3_milkOfAll l γ (a 1) hg_15) (cxV (nA := 1) hts goodU U723 U724 U725 U85 U726 (by decide +kernel) ⟨Nat.le_of_ble_eq_true rfl, Nat.le_of_ble_eq_true rfl⟩) hP (hD _ _ _ _ _ _ _ _ _ _ _) hS hl dX6_behind_63 (foc_ro (foc_r0 γ a _ _ _ _ _ _ _ _ _ _ _ (fun _ _ => 0))) 0 3 rfl rfl rfl rfl (Nat.le_of_ble_eq_true rfl) rfl rfl (fun H locs hP hS => ?_)
          obtain ⟨rfl, rfl⟩ := rt2 hf
          exact kt_iret C0 hP hS dX6_behind_66
        · replace hf := ite_p c_13 hf
          refine lv_iload_n hx hb dX6_behind_54 rfl (lv_at hl 0 rfl) ?_
          refine lv_goto (tgt := 66) hx hb dX6_behind_55 (by decide) ?_
          obtain ⟨rfl, rfl⟩ := rt2 hf
          exact kt_iret C0 hP hS dX6_behind_66
      · replace hf := ite_n c_10 hf
        exact J26 so_4 _ _ _ hf hP hS (lv_sub hl [0] rfl)
  unfold f_X6_behind at hf
  refine lv_iload_n hx hb dX6_behind_0 rfl (lv_at hl 2 rfl) ?_
  refine lv_if_eq (tgt := 15) hx hb dX6_behind_1 (by decide) (fun c_1 => ?_) (fun c_1 => ?_)
  · replace hf := ite_p c_1 hf
    exact J15 x1 x2 so _ _ _ hf hP hS (lv_sub hl [0, 1, 2] rfl)
  · replace hf := ite_n c_1 hf
    refine lv_iload_n hx hb dX6_behind_4 rfl (lv_at hl 2 rfl) ?_
    refine lv_iconst (v := 1) hx hb dX6_behind_5 (by decide) ?_
    refine lv_icmp_eq (tgt := 15) hx hb dX6_behind_6 (by decide) (fun c_16 => ?_) (fun c_16 => ?_)
    · replace hf := ite_p c_16 hf
      exact J15 x1 x2 so _ _ _ hf hP hS (lv_sub hl [0, 1, 2] rfl)
    · replace hf := ite_n c_16 hf
      refine lv_aload_n hx hb dX6_behind_9 rfl (lv_at hl 0 rfl) ?_
      refine lv_iconst (v := 5) hx hb dX6_behind_10 (by decide) ?_
      obtain ⟨r_17, so_18, hg_19, hf⟩ := bd2_of hf
      refine kt_V0 (As := [.int (5 : Int32)]) (rest := []) (st1 := [.int r_17]) (b := (a 0) 0) C0 (c_X6_refused l γ a hg_19) (cxV (nA := 1) hts goodU U343 U345 U0 U84 U346 (by decide +kernel) ⟨Nat.le_of_ble_eq_true rfl, Nat.le_of_ble_eq_true rfl⟩) hP (hD _ _ _ _ _ _ _ _ _ _ _) hS hl dX6_behind_11 0 6 rfl rfl rfl rfl (Nat.le_of_ble_eq_true rfl) rfl rfl (fun H locs hP hS => ?_)
      obtain ⟨rfl, rfl⟩ := rt2 hf
      exact kt_iret C0 hP hS dX6_behind_14
set_option maxHeartbeats 4000000 in
set_option maxRecDepth 100000 in
theorem c_X6_white (l : Launch) (γ : Gm) (a : Nat → Nat → Nat) {so : GS} {r0 : GS} {r1 : GS} {r2 : GS} {rw : Nat → GS} {re : Nat → Nat → Int64} {tn : Option Nat} {se : GS} {sv : GS} {sk : GS} {sd : GS} {rv : Int32} (hf : f_X6_white r0 = some rv) : Kt l γ yX6_white (Cond.code yX6_white cX6_white 2 (some .int) :: U) 3 64 [.ref ((a 0) 0)] (wC γ a so r0 r1 r2 rw re tn se sv sk sd) (some (.int rv)) (wC γ a so r0 r1 r2 rw re tn se sv sk sd) := by
  refine Kt.of (by decide) rfl (Nat.le_of_ble_eq_true rfl) rfl ?_
  intro p e s m below meth c A ls C0 hP hD0 hS hl
  obtain ⟨hx, hb, hml, hown, hts, hr, hlocks, hK, hE, hA⟩ := id C0
  have hU : ∀ w ∈ U, w.before _ s = true := fun w h => hts w (List.mem_cons_of_mem _ h)
  have hD : ∀ (so : GS) (r0 : GS) (r1 : GS) (r2 : GS) (rw : Nat → GS) (re : Nat → Nat → Int64) (tn : Option Nat) (se : GS) (sv : GS) (sk : GS) (sd : GS), va_D A (wC γ a so r0 r1 r2 rw re tn se sv sk sd) := fun _ _ _ _ _ _ _ _ _ _ _ => hD0.fst rfl
  have hl : lv_has ls 2 [(0, .ref ((a 0) 0))] := hl
  unfold f_X6_white at hf
  refine lv_aload_n hx hb dX6_white_0 rfl (lv_at hl 0 rfl) ?_
  refine va_get (D := γ.1) (ci := 6) (v := .ref ((a 1) 0)) (C := RX6) (T := TX6) (N := 12) hx hb hU uin6 hown hK hP 0 rfl rfl 0 (by decide) (hU _ U299) (fun _ h9 => h9) rfl dX6_white_1 ?_
  obtain ⟨r_1, hg_2, hf⟩ := bd_of hf
  refine kt_VF (As := []) (rest := []) (st1 := [.int r_1]) (b := (a 1) 0) (wc' := wC γ a so r0 r1 r2 rw re tn se sv sk sd) C0 (c_X3_latestUntil l γ (a 1) hg_2) (cxV (nA := 0) hts goodU U732 U733 U734 U85 U735 (by decide +kernel) ⟨Nat.le_of_ble_eq_true rfl, Nat.le_of_ble_eq_true rfl⟩) hP (hD _ _ _ _ _ _ _ _ _ _ _) hS hl dX6_white_4 (foc_ro (foc_r0 γ a _ _ _ _ _ _ _ _ _ _ _ (fun _ _ => 0))) 0 3 rfl rfl rfl rfl (Nat.le_of_ble_eq_true rfl) rfl rfl (fun H locs hP hS => ?_)
  refine lv_aload_n hx hb dX6_white_7 rfl (lv_at hl 0 rfl) ?_
  refine va_get (D := γ.1) (ci := 6) (v := .ref ((a 1) 0)) (C := RX6) (T := TX6) (N := 12) hx hb hU uin6 hown hK hP 0 rfl rfl 0 (by decide) (hU _ U299) (fun _ h9 => h9) rfl dX6_white_8 ?_
  refine va_getN (D := γ.1) (ci := 3) (v := .int (r0 0 16)) (C := RX3) (T := TX3) (N := 18) hx hb hU uin3 hown hK hP 4 rfl rfl 16 (by decide) (va_Nw.use rfl (hE.2.2.2.2.2.1 _ NW25)) (fun _ h9 => h9) rfl dX6_white_11 ?_
  refine lv_isub hx hb dX6_white_14 ?_
  refine lv_iconst (v := 0) hx hb dX6_white_15 (by decide) ?_
  refine va_mmax (rest := []) (x := (r_1 - (r0 0 16))) (y := (0 : Int32)) hx hb (hml.trans hl.1.symm) hown (hU _ U736) (hU _ U698) (hU _ U93) (hU _ U699) (Nat.le_of_ble_eq_true rfl) (Nat.le_of_ble_eq_true rfl) (Nat.zero_le _) (Nat.zero_le _) dX6_white_16 ?_
  refine lv_topi (fun u_3 e_u_3 => ?_)
  replace hf := nm_y hf e_u_3
  refine lv_istore_n (lv' := [(1, .int u_3), (0, .ref ((a 0) 0))]) hx hb dX6_white_19 rfl hl (by decide) rfl (fun ls hl => ?_)
  refine lv_iload_n hx hb dX6_white_20 rfl (lv_at hl 0 rfl) ?_
  refine lv_sipush (v := 999) hx hb dX6_white_21 (by decide) ?_
  refine lv_icmp_le (tgt := 31) hx hb dX6_white_24 (by decide) (fun c_4 => ?_) (fun c_4 => ?_)
  · replace hf := ite_p c_4 hf
    refine lv_iload_n hx hb dX6_white_31 rfl (lv_at hl 0 rfl) ?_
    obtain rfl := Option.some.inj hf
    exact kt_iret C0 hP hS dX6_white_32
  · replace hf := ite_n c_4 hf
    refine lv_iconst (v := -1) hx hb dX6_white_27 (by decide) ?_
    refine lv_goto (tgt := 32) hx hb dX6_white_28 (by decide) ?_
    obtain rfl := Option.some.inj hf
    exact kt_iret C0 hP hS dX6_white_32
set_option maxHeartbeats 4000000 in
set_option maxRecDepth 100000 in
theorem c_X6_yields (l : Launch) (γ : Gm) (a : Nat → Nat → Nat) {so : GS} {r0 : GS} {r1 : GS} {r2 : GS} {rw : Nat → GS} {re : Nat → Nat → Int64} {tn : Option Nat} {se : GS} {sv : GS} {sk : GS} {sd : GS} {x1 : Int32} {rv : Int32} {so_z : GS} {sk_z : GS} (hf : f_X6_yields so r0 sk x1 = some (rv, so_z, sk_z)) : Kt l γ yX6_yields (Cond.code yX6_yields cX6_yields 2 (some .int) :: U) 5 113 [.ref ((a 0) 0), .int x1] (wC γ a so r0 r1 r2 rw re tn se sv sk sd) (some (.int rv)) (wC γ a so_z r0 r1 r2 rw re tn se sv sk_z sd) := by
  refine Kt.of (by decide) rfl (Nat.le_of_ble_eq_true rfl) rfl ?_
  intro p e s m below meth c A ls C0 hP hD0 hS hl
  obtain ⟨hx, hb, hml, hown, hts, hr, hlocks, hK, hE, hA⟩ := id C0
  have hU : ∀ w ∈ U, w.before _ s = true := fun w h => hts w (List.mem_cons_of_mem _ h)
  have hD : ∀ (so : GS) (r0 : GS) (r1 : GS) (r2 : GS) (rw : Nat → GS) (re : Nat → Nat → Int64) (tn : Option Nat) (se : GS) (sv : GS) (sk : GS) (sd : GS), va_D A (wC γ a so r0 r1 r2 rw re tn se sv sk sd) := fun _ _ _ _ _ _ _ _ _ _ _ => hD0.fst rfl
  have hl : lv_has ls 2 [(0, .ref ((a 0) 0)), (1, .int x1)] := hl
  have J11 : ∀ (so_2 : GS) (sk_3 : GS) (H : Heap) (locs : List Loc) (ls : Array Slot), f_X6_yields_J11 so_2 sk_3 = some (rv, so_z, sk_z) → va_P γ.1 vwCl (wC γ a so_2 r0 r1 r2 rw re tn se sv sk_3 sd) H → va_S A s.heap H locs → lv_has ls 2 [(0, .ref ((a 0) 0))] → W p l e (rmK 5 113) s m ([.ref ((a 0) 0), .int x1] : List Value).toArray below meth c H locs 0 0 (MQ below (KQ γ A (some (.int rv)) (wC γ a so_z r0 r1 r2 rw re tn se sv sk_z sd)) ([.ref ((a 0) 0), .int x1] : List Value).toArray s 0 0 A) (F0 m 11 ls []) := by
    intro so_2 sk_3 H locs ls hf hP hS hl
    unfold f_X6_yields_J11 at hf
    refine lv_aload_n hx hb dX6_yields_11 rfl (lv_at hl 0 rfl) ?_
    refine lv_bipush (v := 6) hx hb dX6_yields_12 (by decide) ?_
    obtain ⟨r_4, so_5, hg_6, hf⟩ := bd2_of hf
    refine kt_V0 (As := [.int (6 : Int32)]) (rest := []) (st1 := [.int r_4]) (b := (a 0) 0) C0 (c_X6_refused l γ a hg_6) (cxV (nA := 1) hts goodU U343 U345 U0 U84 U346 (by decide +kernel) ⟨Nat.le_of_ble_eq_true rfl, Nat.le_of_ble_eq_true rfl⟩) hP (hD _ _ _ _ _ _ _ _ _ _ _) hS hl dX6_yields_14 0 6 rfl rfl rfl rfl (Nat.le_of_ble_eq_true rfl) rfl rfl (fun H locs hP hS => ?_)
    obtain ⟨rfl, rfl, rfl⟩ := rt3 hf
    exact kt_iret C0 hP hS dX6_yields_17
  unfold f_X6_yields at hf
  refine lv_iload_n hx hb dX6_yields_0 rfl (lv_at hl 1 rfl) ?_
  refine lv_if_lt (tgt := 11) hx hb dX6_yields_1 (by decide) (fun c_1 => ?_) (fun c_1 => ?_)
  · replace hf := ite_p c_1 hf
    exact J11 so sk _ _ _ hf hP hS (lv_sub hl [0] rfl)
  · replace hf := ite_n c_1 hf
    refine lv_iload_n hx hb dX6_yields_4 rfl (lv_at hl 1 rfl) ?_
    refine lv_sipush (v := 200) hx hb dX6_yields_5 (by decide) ?_
    refine lv_icmp_le (tgt := 18) hx hb dX6_yields_8 (by decide) (fun c_7 => ?_) (fun c_7 => ?_)
    · replace hf := ite_p c_7 hf
      refine lv_aload_n hx hb dX6_yields_18 rfl (lv_at hl 0 rfl) ?_
      refine va_get (D := γ.1) (ci := 6) (v := .ref ((a 6) 0)) (C := RX6) (T := TX6) (N := 12) hx hb hU uin6 hown hK hP 0 rfl rfl 10 (by decide) (hU _ U309) (fun _ h9 => h9) rfl dX6_yields_19 ?_
      refine lv_aload_n hx hb dX6_yields_22 rfl (lv_at hl 0 rfl) ?_
      refine va_get (D := γ.1) (ci := 6) (v := .ref ((a 1) 0)) (C := RX6) (T := TX6) (N := 12) hx hb hU uin6 hown hK hP 0 rfl rfl 0 (by decide) (hU _ U299) (fun _ h9 => h9) rfl dX6_yields_23 ?_
      refine lv_iload_n hx hb dX6_yields_26 rfl (lv_at hl 1 rfl) ?_
      obtain ⟨sk_8, hg_9, hf⟩ := bd_of hf
      refine kt_VF (As := [.ref ((a 1) 0), .int x1]) (rest := []) (st1 := []) (b := (a 6) 0) (wc' := wC γ a so r0 r1 r2 rw re tn se sv sk_8 sd) C0 (c_X0_look l γ (a 6) (a 1) hg_9) (cxV (nA := 2) hts goodU U741 U742 U743 U88 U744 (by decide +kernel) ⟨Nat.le_of_ble_eq_true rfl, Nat.le_of_ble_eq_true rfl⟩) hP (hD _ _ _ _ _ _ _ _ _ _ _) hS hl dX6_yields_27 (foc_sk_r0 γ a _ _ _ _ _ _ _ _ _ _ _ _ _) 0 0 rfl rfl rfl rfl (Nat.le_of_ble_eq_true rfl) rfl rfl (fun H locs hP hS => ?_)
      refine lv_aload_n hx hb dX6_yields_30 rfl (lv_at hl 0 rfl) ?_
      refine va_get (D := γ.1) (ci := 6) (v := .ref ((a 6) 0)) (C := RX6) (T := TX6) (N := 12) hx hb hU uin6 hown hK hP 0 rfl rfl 10 (by decide) (hU _ U309) (fun _ h9 => h9) rfl dX6_yields_31 ?_
      refine lv_aload_n hx hb dX6_yields_34 rfl (lv_at hl 0 rfl) ?_
      refine va_get (D := γ.1) (ci := 6) (v := .ref ((a 1) 0)) (C := RX6) (T := TX6) (N := 12) hx hb hU uin6 hown hK hP 0 rfl rfl 0 (by decide) (hU _ U299) (fun _ h9 => h9) rfl dX6_yields_35 ?_
      refine lv_iload_n hx hb dX6_yields_38 rfl (lv_at hl 1 rfl) ?_
      refine lv_iconst (v := 0) hx hb dX6_yields_39 (by decide) ?_
      obtain ⟨r_10, hg_11, hf⟩ := bd_of hf
      refine kt_VF (As := [.ref ((a 1) 0), .int x1, .int (0 : Int32)]) (rest := []) (st1 := [.int r_10]) (b := (a 6) 0) (wc' := wC γ a so r0 r1 r2 rw re tn se sv sk_8 sd) C0 (c_X0_yieldWithout l γ (a 6) (a 1) hg_11) (cxV (nA := 3) hts goodU U746 U747 U748 U88 U749 (by decide +kernel) ⟨Nat.le_of_ble_eq_true rfl, Nat.le_of_ble_eq_true rfl⟩) hP (hD _ _ _ _ _ _ _ _ _ _ _) hS hl dX6_yields_40 (foc_ro (foc_sk_r0 γ a _ _ _ _ _ _ _ _ _ _ _ (fun _ _ => 0) (fun _ _ => 0))) 0 0 rfl rfl rfl rfl (Nat.le_of_ble_eq_true rfl) rfl rfl (fun H locs hP hS => ?_)
      obtain ⟨rfl, rfl, rfl⟩ := rt3 hf
      exact kt_iret C0 hP hS dX6_yields_43
    · replace hf := ite_n c_7 hf
      exact J11 so sk _ _ _ hf hP hS (lv_sub hl [0] rfl)
set_option maxHeartbeats 4000000 in
set_option maxRecDepth 100000 in
theorem c_X6_grief (l : Launch) (γ : Gm) (a : Nat → Nat → Nat) {so : GS} {r0 : GS} {r1 : GS} {r2 : GS} {rw : Nat → GS} {re : Nat → Nat → Int64} {tn : Option Nat} {se : GS} {sv : GS} {sk : GS} {sd : GS} {x1 : Int32} {rv : Int32} {so_z : GS} (hf : f_X6_grief so r0 x1 = some (rv, so_z)) : Kt l γ yX6_grief (Cond.code yX6_grief cX6_grief 2 (some .int) :: U) 4 91 [.ref ((a 0) 0), .int x1] (wC γ a so r0 r1 r2 rw re tn se sv sk sd) (some (.int rv)) (wC γ a so_z r0 r1 r2 rw re tn se sv sk sd) := by
  refine Kt.of (by decide) rfl (Nat.le_of_ble_eq_true rfl) rfl ?_
  intro p e s m below meth c A ls C0 hP hD0 hS hl
  obtain ⟨hx, hb, hml, hown, hts, hr, hlocks, hK, hE, hA⟩ := id C0
  have hU : ∀ w ∈ U, w.before _ s = true := fun w h => hts w (List.mem_cons_of_mem _ h)
  have hD : ∀ (so : GS) (r0 : GS) (r1 : GS) (r2 : GS) (rw : Nat → GS) (re : Nat → Nat → Int64) (tn : Option Nat) (se : GS) (sv : GS) (sk : GS) (sd : GS), va_D A (wC γ a so r0 r1 r2 rw re tn se sv sk sd) := fun _ _ _ _ _ _ _ _ _ _ _ => hD0.fst rfl
  have hl : lv_has ls 2 [(0, .ref ((a 0) 0)), (1, .int x1)] := hl
  unfold f_X6_grief at hf
  refine lv_aload_n hx hb dX6_grief_0 rfl (lv_at hl 0 rfl) ?_
  refine va_get (D := γ.1) (ci := 6) (v := .ref ((a 1) 0)) (C := RX6) (T := TX6) (N := 12) hx hb hU uin6 hown hK hP 0 rfl rfl 0 (by decide) (hU _ U299) (fun _ h9 => h9) rfl dX6_grief_1 ?_
  refine lv_iload_n hx hb dX6_grief_4 rfl (lv_at hl 1 rfl) ?_
  obtain ⟨r_1, hg_2, hf⟩ := bd_of hf
  refine kt_VF (As := [.int x1]) (rest := []) (st1 := [.int r_1]) (b := (a 1) 0) (wc' := wC γ a so r0 r1 r2 rw re tn se sv sk sd) C0 (c_X3_isPeak l γ (a 1) hg_2) (cxV (nA := 1) hts goodU U403 U404 U405 U85 U406 (by decide +kernel) ⟨Nat.le_of_ble_eq_true rfl, Nat.le_of_ble_eq_true rfl⟩) hP (hD _ _ _ _ _ _ _ _ _ _ _) hS hl dX6_grief_5 (foc_ro (foc_r0 γ a _ _ _ _ _ _ _ _ _ _ _ (fun _ _ => 0))) 0 3 rfl rfl rfl rfl (Nat.le_of_ble_eq_true rfl) rfl rfl (fun H locs hP hS => ?_)
  refine lv_if_ne (tgt := 17) hx hb dX6_grief_8 (by decide) (fun c_3 => ?_) (fun c_3 => ?_)
  · replace hf := ite_n c_3 hf
    refine lv_aload_n hx hb dX6_grief_17 rfl (lv_at hl 0 rfl) ?_
    refine va_get (D := γ.1) (ci := 6) (v := .ref ((a 1) 0)) (C := RX6) (T := TX6) (N := 12) hx hb hU uin6 hown hK hP 0 rfl rfl 0 (by decide) (hU _ U299) (fun _ h9 => h9) rfl dX6_grief_18 ?_
    refine lv_iload_n hx hb dX6_grief_21 rfl (lv_at hl 1 rfl) ?_
    obtain ⟨r_4, hg_5, hf⟩ := bd_of hf
    refine kt_VF (As := [.int x1]) (rest := []) (st1 := [.int r_4]) (b := (a 1) 0) (wc' := wC γ a so r0 r1 r2 rw re tn se sv sk sd) C0 (c_X3_isStanding l γ (a 1) hg_5) (cxV (nA := 1) hts goodU U755 U436 U437 U85 U438 (by decide +kernel) ⟨Nat.le_of_ble_eq_true rfl, Nat.le_of_ble_eq_true rfl⟩) hP (hD _ _ _ _ _ _ _ _ _ _ _) hS hl dX6_grief_22 (foc_ro (foc_r0 γ a _ _ _ _ _ _ _ _ _ _ _ (fun _ _ => 0))) 0 3 rfl rfl rfl rfl (Nat.le_of_ble_eq_true rfl) rfl rfl (fun H locs hP hS => ?_)
    refine lv_if_ne (tgt := 35) hx hb dX6_grief_25 (by decide) (fun c_6 => ?_) (fun c_6 => ?_)
    · replace hf := ite_n c_6 hf
      refine lv_aload_n hx hb dX6_grief_35 rfl (lv_at hl 0 rfl) ?_
      refine va_get (D := γ.1) (ci := 6) (v := .ref ((a 1) 0)) (C := RX6) (T := TX6) (N := 12) hx hb hU uin6 hown hK hP 0 rfl rfl 0 (by decide) (hU _ U299) (fun _ h9 => h9) rfl dX6_grief_36 ?_
      refine lv_iload_n hx hb dX6_grief_39 rfl (lv_at hl 1 rfl) ?_
      refine lv_aload_n hx hb dX6_grief_40 rfl (lv_at hl 0 rfl) ?_
      refine va_get (D := γ.1) (ci := 6) (v := .ref ((a 1) 0)) (C := RX6) (T := TX6) (N := 12) hx hb hU uin6 hown hK hP 0 rfl rfl 0 (by decide) (hU _ U299) (fun _ h9 => h9) rfl dX6_grief_41 ?_
      refine va_getN (D := γ.1) (ci := 3) (v := .int (r0 0 16)) (C := RX3) (T := TX3) (N := 18) hx hb hU uin3 hown hK hP 4 rfl rfl 16 (by decide) (va_Nw.use rfl (hE.2.2.2.2.2.1 _ NW25)) (fun _ h9 => h9) rfl dX6_grief_44 ?_
      obtain ⟨r_7, hg_8, hf⟩ := bd_of hf
      refine kt_VF (As := [.int x1, .int (r0 0 16)]) (rest := []) (st1 := [.int r_7]) (b := (a 1) 0) (wc' := wC γ a so r0 r1 r2 rw re tn se sv sk sd) C0 (c_X3_griefOf l γ (a 1) hg_8) (cxV (nA := 2) hts goodU U756 U681 U682 U85 U683 (by decide +kernel) ⟨Nat.le_of_ble_eq_true rfl, Nat.le_of_ble_eq_true rfl⟩) hP (hD _ _ _ _ _ _ _ _ _ _ _) hS hl dX6_grief_47 (foc_ro (foc_r0 γ a _ _ _ _ _ _ _ _ _ _ _ (fun _ _ => 0))) 0 3 rfl rfl rfl rfl (Nat.le_of_ble_eq_true rfl) rfl rfl (fun H locs hP hS => ?_)
      obtain ⟨rfl, rfl⟩ := rt2 hf
      exact kt_iret C0 hP hS dX6_grief_50
    · replace hf := ite_p c_6 hf
      refine lv_aload_n hx hb dX6_grief_28 rfl (lv_at hl 0 rfl) ?_
      refine lv_bipush (v := 6) hx hb dX6_grief_29 (by decide) ?_
      obtain ⟨r_9, so_10, hg_11, hf⟩ := bd2_of hf
      refine kt_V0 (As := [.int (6 : Int32)]) (rest := []) (st1 := [.int r_9]) (b := (a 0) 0) C0 (c_X6_refused l γ a hg_11) (cxV (nA := 1) hts goodU U343 U345 U0 U84 U346 (by decide +kernel) ⟨Nat.le_of_ble_eq_true rfl, Nat.le_of_ble_eq_true rfl⟩) hP (hD _ _ _ _ _ _ _ _ _ _ _) hS hl dX6_grief_31 0 6 rfl rfl rfl rfl (Nat.le_of_ble_eq_true rfl) rfl rfl (fun H locs hP hS => ?_)
      obtain ⟨rfl, rfl⟩ := rt2 hf
      exact kt_iret C0 hP hS dX6_grief_34
  · replace hf := ite_p c_3 hf
    refine lv_aload_n hx hb dX6_grief_11 rfl (lv_at hl 0 rfl) ?_
    refine lv_iconst (v := 1) hx hb dX6_grief_12 (by decide) ?_
    obtain ⟨r_12, so_13, hg_14, hf⟩ := bd2_of hf
    refine kt_V0 (As := [.int (1 : Int32)]) (rest := []) (st1 := [.int r_12]) (b := (a 0) 0) C0 (c_X6_refused l γ a hg_14) (cxV (nA := 1) hts goodU U343 U345 U0 U84 U346 (by decide +kernel) ⟨Nat.le_of_ble_eq_true rfl, Nat.le_of_ble_eq_true rfl⟩) hP (hD _ _ _ _ _ _ _ _ _ _ _) hS hl dX6_grief_13 0 6 rfl rfl rfl rfl (Nat.le_of_ble_eq_true rfl) rfl rfl (fun H locs hP hS => ?_)
    obtain ⟨rfl, rfl⟩ := rt2 hf
    exact kt_iret C0 hP hS dX6_grief_16
set_option maxHeartbeats 4000000 in
set_option maxRecDepth 100000 in
theorem c_X6_least (l : Launch) (γ : Gm) (a : Nat → Nat → Nat) {so : GS} {r0 : GS} {r1 : GS} {r2 : GS} {rw : Nat → GS} {re : Nat → Nat → Int64} {tn : Option Nat} {se : GS} {sv : GS} {sk : GS} {sd : GS} {rv : Int32} (hf : f_X6_least r0 = some rv) : Kt l γ yX6_least (Cond.code yX6_least cX6_least 5 (some .int) :: U) 4 91 [.ref ((a 0) 0)] (wC γ a so r0 r1 r2 rw re tn se sv sk sd) (some (.int rv)) (wC γ a so r0 r1 r2 rw re tn se sv sk sd) := by
  refine Kt.of (by decide) rfl (Nat.le_of_ble_eq_true rfl) rfl ?_
  intro p e s m below meth c A ls C0 hP hD0 hS hl
  obtain ⟨hx, hb, hml, hown, hts, hr, hlocks, hK, hE, hA⟩ := id C0
  have hU : ∀ w ∈ U, w.before _ s = true := fun w h => hts w (List.mem_cons_of_mem _ h)
  have hD : ∀ (so : GS) (r0 : GS) (r1 : GS) (r2 : GS) (rw : Nat → GS) (re : Nat → Nat → Int64) (tn : Option Nat) (se : GS) (sv : GS) (sk : GS) (sd : GS), va_D A (wC γ a so r0 r1 r2 rw re tn se sv sk sd) := fun _ _ _ _ _ _ _ _ _ _ _ => hD0.fst rfl
  have hl : lv_has ls 5 [(0, .ref ((a 0) 0))] := hl
  have J56 : ∀ (x3_12 : Int32) (x4_13 : Int32) (K6 : Int32 → Int32 → Int32 → Option (Int32)) (HK6 : ∀ (z1 : Int32) (z2 : Int32) (z3 : Int32) (H : Heap) (locs : List Loc) (ls : Array Slot), K6 z1 z2 z3 = some rv → va_P γ.1 vwCl (wC γ a so r0 r1 r2 rw re tn se sv sk sd) H → va_S A s.heap H locs → lv_has ls 5 [(0, .ref ((a 0) 0)), (1, .int z1), (2, .int z2), (3, .int z3)] → W p l e (rmK 4 91) s m ([.ref ((a 0) 0)] : List Value).toArray below meth c H locs 0 0 (MQ below (KQ γ A (some (.int rv)) (wC γ a so r0 r1 r2 rw re tn se sv sk sd)) ([.ref ((a 0) 0)] : List Value).toArray s 0 0 A) (F0 m 6 ls [])) (H : Heap) (locs : List Loc) (ls : Array Slot), f_X6_least_J56 x3_12 x4_13 K6 = some rv → va_P γ.1 vwCl (wC γ a so r0 r1 r2 rw re tn se sv sk sd) H → va_S A s.heap H locs → lv_has ls 5 [(0, .ref ((a 0) 0)), (3, .int x3_12), (4, .int x4_13)] → W p l e (rmK 4 91) s m ([.ref ((a 0) 0)] : List Value).toArray below meth c H locs 0 0 (MQ below (KQ γ A (some (.int rv)) (wC γ a so r0 r1 r2 rw re tn se sv sk sd)) ([.ref ((a 0) 0)] : List Value).toArray s 0 0 A) (F0 m 56 ls []) := by
    intro x3_12 x4_13 K6 HK6 H locs ls hf hP hS hl
    unfold f_X6_least_J56 at hf
    refine lv_iload_n hx hb dX6_least_56 rfl (lv_at hl 1 rfl) ?_
    refine lv_istore_n (lv' := [(1, .int x3_12), (0, .ref ((a 0) 0)), (3, .int x3_12), (4, .int x4_13)]) hx hb dX6_least_57 rfl hl (by decide) rfl (fun ls hl => ?_)
    refine lv_iload hx hb dX6_least_58 (lv_at hl 3 rfl) ?_
    refine lv_istore_n (lv' := [(2, .int x4_13), (1, .int x3_12), (0, .ref ((a 0) 0)), (3, .int x3_12), (4, .int x4_13)]) hx hb dX6_least_60 rfl hl (by decide) rfl (fun ls hl => ?_)
    obtain ⟨x3_14, e_x3_14⟩ : ∃ y : Int32, y = x3_12 + (1 : Int32) := ⟨_, rfl⟩
    replace hf := nm_y hf e_x3_14
    refine lv_iinc (v := x3_14) (lv' := [(3, .int x3_14), (2, .int x4_13), (1, .int x3_12), (0, .ref ((a 0) 0)), (4, .int x4_13)]) hx hb dX6_least_61 hl (k := 3) rfl (by rw [e_x3_14]; rfl) (by decide) rfl (fun ls hl => ?_)
    refine lv_goto (tgt := 6) hx hb dX6_least_64 (by decide) ?_
    exact HK6 x3_12 x4_13 x3_14 _ _ _ hf hP hS (lv_sub hl [3, 2, 1, 0] rfl)
  have L6 : ∀ (n : Nat) (x1_1 : Int32) (x2_2 : Int32) (x3_3 : Int32) (H : Heap) (locs : List Loc) (ls : Array Slot), f_X6_least_L6 r0 n x1_1 x2_2 x3_3 = some rv → va_P γ.1 vwCl (wC γ a so r0 r1 r2 rw re tn se sv sk sd) H → va_S A s.heap H locs → lv_has ls 5 [(0, .ref ((a 0) 0)), (1, .int x1_1), (2, .int x2_2), (3, .int x3_3)] → W p l e (rmK 4 91) s m ([.ref ((a 0) 0)] : List Value).toArray below meth c H locs 0 0 (MQ below (KQ γ A (some (.int rv)) (wC γ a so r0 r1 r2 rw re tn se sv sk sd)) ([.ref ((a 0) 0)] : List Value).toArray s 0 0 A) (F0 m 6 ls []) := by
    intro n
    induction n with
    | zero =>
      intro x1_1 x2_2 x3_3 H locs ls hf
      have hf : none = some _ := hf
      cases hf
    | succ n ih =>
      intro x1_1 x2_2 x3_3 H locs ls hf hP hS hl
      rw [f_X6_least_L6.eq_2] at hf
      refine lv_iload_n hx hb dX6_least_6 rfl (lv_at hl 3 rfl) ?_
      refine lv_aload_n hx hb dX6_least_7 rfl (lv_at hl 0 rfl) ?_
      refine va_get (D := γ.1) (ci := 6) (v := .ref ((a 1) 0)) (C := RX6) (T := TX6) (N := 12) hx hb hU uin6 hown hK hP 0 rfl rfl 0 (by decide) (hU _ U299) (fun _ h9 => h9) rfl dX6_least_8 ?_
      refine va_getN (D := γ.1) (ci := 3) (v := .int (r0 0 0)) (C := RX3) (T := TX3) (N := 18) hx hb hU uin3 hown hK hP 4 rfl rfl 0 (by decide) (va_Nw.use rfl (hE.2.2.2.2.2.1 _ NW4)) (fun _ h9 => h9) rfl dX6_least_11 ?_
      refine lv_icmp_ge (tgt := 67) hx hb dX6_least_14 (by decide) (fun c_4 => ?_) (fun c_4 => ?_)
      · replace hf := ite_p c_4 hf
        refine lv_iload_n hx hb dX6_least_67 rfl (lv_at hl 1 rfl) ?_
        obtain rfl := Option.some.inj hf
        exact kt_iret C0 hP hS dX6_least_68
      · replace hf := ite_n c_4 hf
        refine lv_aload_n hx hb dX6_least_17 rfl (lv_at hl 0 rfl) ?_
        refine va_get (D := γ.1) (ci := 6) (v := .ref ((a 1) 0)) (C := RX6) (T := TX6) (N := 12) hx hb hU uin6 hown hK hP 0 rfl rfl 0 (by decide) (hU _ U299) (fun _ h9 => h9) rfl dX6_least_18 ?_
        refine lv_iload_n hx hb dX6_least_21 rfl (lv_at hl 3 rfl) ?_
        obtain ⟨r_5, hg_6, hf⟩ := bd_of hf
        refine kt_VF (As := [.int x3_3]) (rest := []) (st1 := [.int r_5]) (b := (a 1) 0) (wc' := wC γ a so r0 r1 r2 rw re tn se sv sk sd) C0 (c_X3_isStanding l γ (a 1) hg_6) (cxV (nA := 1) hts goodU U755 U436 U437 U85 U438 (by decide +kernel) ⟨Nat.le_of_ble_eq_true rfl, Nat.le_of_ble_eq_true rfl⟩) hP (hD _ _ _ _ _ _ _ _ _ _ _) hS hl dX6_least_22 (foc_ro (foc_r0 γ a _ _ _ _ _ _ _ _ _ _ _ (fun _ _ => 0))) 0 3 rfl rfl rfl rfl (Nat.le_of_ble_eq_true rfl) rfl rfl (fun H locs hP hS => ?_)
        refine lv_if_eq (tgt := 61) hx hb dX6_least_25 (by decide) (fun c_7 => ?_) (fun c_7 => ?_)
        · replace hf := ite_p c_7 hf
          obtain ⟨x3_8, e_x3_8⟩ : ∃ y : Int32, y = x3_3 + (1 : Int32) := ⟨_, rfl⟩
          replace hf := nm_y hf e_x3_8
          refine lv_iinc (v := x3_8) (lv' := [(3, .int x3_8), (0, .ref ((a 0) 0)), (1, .int x1_1), (2, .int x2_2)]) hx hb dX6_least_61 hl (k := 3) rfl (by rw [e_x3_8]; rfl) (by decide) rfl (fun ls hl => ?_)
          refine lv_goto (tgt := 6) hx hb dX6_least_64 (by decide) ?_
          exact ih x1_1 x2_2 x3_8 _ _ _ hf hP hS (lv_sub hl [1, 2, 3, 0] rfl)
        · replace hf := ite_n c_7 hf
          refine lv_aload_n hx hb dX6_least_28 rfl (lv_at hl 0 rfl) ?_
          refine va_get (D := γ.1) (ci := 6) (v := .ref ((a 1) 0)) (C := RX6) (T := TX6) (N := 12) hx hb hU uin6 hown hK hP 0 rfl rfl 0 (by decide) (hU _ U299) (fun _ h9 => h9) rfl dX6_least_29 ?_
          refine lv_iload_n hx hb dX6_least_32 rfl (lv_at hl 3 rfl) ?_
          refine lv_aload_n hx hb dX6_least_33 rfl (lv_at hl 0 rfl) ?_
          refine va_get (D := γ.1) (ci := 6) (v := .ref ((a 1) 0)) (C := RX6) (T := TX6) (N := 12) hx hb hU uin6 hown hK hP 0 rfl rfl 0 (by decide) (hU _ U299) (fun _ h9 => h9) rfl dX6_least_34 ?_
          refine va_getN (D := γ.1) (ci := 3) (v := .int (r0 0 16)) (C := RX3) (T := TX3) (N := 18) hx hb hU uin3 hown hK hP 4 rfl rfl 16 (by decide) (va_Nw.use rfl (hE.2.2.2.2.2.1 _ NW25)) (fun _ h9 => h9) rfl dX6_least_37 ?_
          obtain ⟨r_9, hg_10, hf⟩ := bd_of hf
          refine kt_VF (As := [.int x3_3, .int (r0 0 16)]) (rest := []) (st1 := [.int r_9]) (b := (a 1) 0) (wc' := wC γ a so r0 r1 r2 rw re tn se sv sk sd) C0 (c_X3_griefOf l γ (a 1) hg_10) (cxV (nA := 2) hts goodU U756 U681 U682 U85 U683 (by decide +kernel) ⟨Nat.le_of_ble_eq_true rfl, Nat.le_of_ble_eq_true rfl⟩) hP (hD _ _ _ _ _ _ _ _ _ _ _) hS hl dX6_least_40 (foc_ro (foc_r0 γ a _ _ _ _ _ _ _ _ _ _ _ (fun _ _ => 0))) 0 3 rfl rfl rfl rfl (Nat.le_of_ble_eq_true rfl) rfl rfl (fun H locs hP hS => ?_)
          refine lv_istore (lv' := [(4, .int r_9), (0, .ref ((a 0) 0)), (1, .int x1_1), (2, .int x2_2), (3, .int x3_3)]) hx hb dX6_least_43 hl (by decide) rfl (fun ls hl => ?_)
          refine lv_iload_n hx hb dX6_least_45 rfl (lv_at hl 2 rfl) ?_
          refine lv_iconst (v := -1) hx hb dX6_least_46 (by decide) ?_
          refine lv_icmp_eq (tgt := 56) hx hb dX6_least_47 (by decide) (fun c_11 => ?_) (fun c_11 => ?_)
          · replace hf := ite_p c_11 hf
            exact J56 x3_3 r_9 _ ih _ _ _ hf hP hS (lv_sub hl [1, 4, 0] rfl)
          · replace hf := ite_n c_11 hf
            refine lv_iload hx hb dX6_least_50 (lv_at hl 0 rfl) ?_
            refine lv_iload_n hx hb dX6_least_52 rfl (lv_at hl 3 rfl) ?_
            refine lv_icmp_ge (tgt := 61) hx hb dX6_least_53 (by decide) (fun c_15 => ?_) (fun c_15 => ?_)
            · replace hf := ite_p c_15 hf
              obtain ⟨x3_16, e_x3_16⟩ : ∃ y : Int32, y = x3_3 + (1 : Int32) := ⟨_, rfl⟩
              replace hf := nm_y hf e_x3_16
              refine lv_iinc (v := x3_16) (lv' := [(3, .int x3_16), (4, .int r_9), (0, .ref ((a 0) 0)), (1, .int x1_1), (2, .int x2_2)]) hx hb dX6_least_61 hl (k := 4) rfl (by rw [e_x3_16]; rfl) (by decide) rfl (fun ls hl => ?_)
              refine lv_goto (tgt := 6) hx hb dX6_least_64 (by decide) ?_
              exact ih x1_1 x2_2 x3_16 _ _ _ hf hP hS (lv_sub hl [2, 3, 4, 0] rfl)
            · replace hf := ite_n c_15 hf
              exact J56 x3_3 r_9 _ ih _ _ _ hf hP hS (lv_sub hl [1, 4, 0] rfl)
  unfold f_X6_least at hf
  refine lv_iconst (v := -1) hx hb dX6_least_0 (by decide) ?_
  refine lv_istore_n (lv' := [(1, .int (-1 : Int32)), (0, .ref ((a 0) 0))]) hx hb dX6_least_1 rfl hl (by decide) rfl (fun ls hl => ?_)
  refine lv_iconst (v := 0) hx hb dX6_least_2 (by decide) ?_
  refine lv_istore_n (lv' := [(2, .int (0 : Int32)), (1, .int (-1 : Int32)), (0, .ref ((a 0) 0))]) hx hb dX6_least_3 rfl hl (by decide) rfl (fun ls hl => ?_)
  refine lv_iconst (v := 0) hx hb dX6_least_4 (by decide) ?_
  refine lv_istore_n (lv' := [(3, .int (0 : Int32)), (2, .int (0 : Int32)), (1, .int (-1 : Int32)), (0, .ref ((a 0) 0))]) hx hb dX6_least_5 rfl hl (by decide) rfl (fun ls hl => ?_)
  exact L6 FU (-1 : Int32) (0 : Int32) (0 : Int32) _ _ _ hf hP hS (lv_sub hl [3, 2, 1, 0] rfl)
set_option maxHeartbeats 4000000 in
set_option maxRecDepth 100000 in
theorem c_J6_bitCount_0f7a4 (l : Launch) (γ : Gm) {x1 : Int32} {rv : Int32} (hf : f_J6_bitCount_0f7a4 x1 = some rv) : Kt l γ yJ6_bitCount_0f7a4 (Cond.code yJ6_bitCount_0f7a4 cJ6_bitCount_0f7a4 1 (some .int) :: U) 0 0 [.int x1] ([]) (some (.int rv)) ([]) := by
  refine Kt.of (by decide) rfl (Nat.le_of_ble_eq_true rfl) rfl ?_
  intro p e s m below meth c A ls C0 hP hD0 hS hl
  obtain ⟨hx, hb, hml, hown, hts, hr, hlocks, hK, hE, hA⟩ := id C0
  have hU : ∀ w ∈ U, w.before _ s = true := fun w h => hts w (List.mem_cons_of_mem _ h)
  have hD := hD0
  have hl : lv_has ls 1 [(0, .int x1)] := hl
  unfold f_J6_bitCount_0f7a4 at hf
  refine lv_iload_n hx hb dJ6_bitCount_0f7a4_0 rfl (lv_at hl 0 rfl) ?_
  refine lv_iload_n hx hb dJ6_bitCount_0f7a4_1 rfl (lv_at hl 0 rfl) ?_
  refine lv_iconst (v := 1) hx hb dJ6_bitCount_0f7a4_2 (by decide) ?_
  refine lv_iushr hx hb dJ6_bitCount_0f7a4_3 rfl ?_
  refine lv_ldcw hx hb hown (hU _ U768) dJ6_bitCount_0f7a4_4 ?_
  refine lv_iand hx hb dJ6_bitCount_0f7a4_7 ?_
  refine lv_isub hx hb dJ6_bitCount_0f7a4_8 ?_
  refine lv_topi (fun u_1 e_u_1 => ?_)
  replace hf := nm_y hf e_u_1
  refine lv_istore_n (lv' := [(0, .int u_1)]) hx hb dJ6_bitCount_0f7a4_9 rfl hl (by decide) rfl (fun ls hl => ?_)
  refine lv_iload_n hx hb dJ6_bitCount_0f7a4_10 rfl (lv_at hl 0 rfl) ?_
  refine lv_ldcw hx hb hown (hU _ U769) dJ6_bitCount_0f7a4_11 ?_
  refine lv_iand hx hb dJ6_bitCount_0f7a4_14 ?_
  refine lv_iload_n hx hb dJ6_bitCount_0f7a4_15 rfl (lv_at hl 0 rfl) ?_
  refine lv_iconst (v := 2) hx hb dJ6_bitCount_0f7a4_16 (by decide) ?_
  refine lv_iushr hx hb dJ6_bitCount_0f7a4_17 rfl ?_
  refine lv_ldcw hx hb hown (hU _ U769) dJ6_bitCount_0f7a4_18 ?_
  refine lv_iand hx hb dJ6_bitCount_0f7a4_21 ?_
  refine lv_iadd hx hb dJ6_bitCount_0f7a4_22 ?_
  refine lv_topi (fun u_2 e_u_2 => ?_)
  replace hf := nm_y hf e_u_2
  refine lv_istore_n (lv' := [(0, .int u_2)]) hx hb dJ6_bitCount_0f7a4_23 rfl hl (by decide) rfl (fun ls hl => ?_)
  refine lv_iload_n hx hb dJ6_bitCount_0f7a4_24 rfl (lv_at hl 0 rfl) ?_
  refine lv_iload_n hx hb dJ6_bitCount_0f7a4_25 rfl (lv_at hl 0 rfl) ?_
  refine lv_iconst (v := 4) hx hb dJ6_bitCount_0f7a4_26 (by decide) ?_
  refine lv_iushr hx hb dJ6_bitCount_0f7a4_27 rfl ?_
  refine lv_iadd hx hb dJ6_bitCount_0f7a4_28 ?_
  refine lv_ldcw hx hb hown (hU _ U770) dJ6_bitCount_0f7a4_29 ?_
  refine lv_iand hx hb dJ6_bitCount_0f7a4_32 ?_
  refine lv_topi (fun u_3 e_u_3 => ?_)
  replace hf := nm_y hf e_u_3
  refine lv_istore_n (lv' := [(0, .int u_3)]) hx hb dJ6_bitCount_0f7a4_33 rfl hl (by decide) rfl (fun ls hl => ?_)
  refine lv_iload_n hx hb dJ6_bitCount_0f7a4_34 rfl (lv_at hl 0 rfl) ?_
  refine lv_iload_n hx hb dJ6_bitCount_0f7a4_35 rfl (lv_at hl 0 rfl) ?_
  refine lv_bipush (v := 8) hx hb dJ6_bitCount_0f7a4_36 (by decide) ?_
  refine lv_iushr hx hb dJ6_bitCount_0f7a4_38 rfl ?_
  refine lv_iadd hx hb dJ6_bitCount_0f7a4_39 ?_
  refine lv_topi (fun u_4 e_u_4 => ?_)
  replace hf := nm_y hf e_u_4
  refine lv_istore_n (lv' := [(0, .int u_4)]) hx hb dJ6_bitCount_0f7a4_40 rfl hl (by decide) rfl (fun ls hl => ?_)
  refine lv_iload_n hx hb dJ6_bitCount_0f7a4_41 rfl (lv_at hl 0 rfl) ?_
  refine lv_iload_n hx hb dJ6_bitCount_0f7a4_42 rfl (lv_at hl 0 rfl) ?_
  refine lv_bipush (v := 16) hx hb dJ6_bitCount_0f7a4_43 (by decide) ?_
  refine lv_iushr hx hb dJ6_bitCount_0f7a4_45 rfl ?_
  refine lv_iadd hx hb dJ6_bitCount_0f7a4_46 ?_
  refine lv_topi (fun u_5 e_u_5 => ?_)
  replace hf := nm_y hf e_u_5
  refine lv_istore_n (lv' := [(0, .int u_5)]) hx hb dJ6_bitCount_0f7a4_47 rfl hl (by decide) rfl (fun ls hl => ?_)
  refine lv_iload_n hx hb dJ6_bitCount_0f7a4_48 rfl (lv_at hl 0 rfl) ?_
  refine lv_bipush (v := 63) hx hb dJ6_bitCount_0f7a4_49 (by decide) ?_
  refine lv_iand hx hb dJ6_bitCount_0f7a4_51 ?_
  obtain rfl := Option.some.inj hf
  exact kt_iret C0 hP hS dJ6_bitCount_0f7a4_52
set_option maxHeartbeats 4000000 in
set_option maxRecDepth 100000 in
theorem c_X6_order (l : Launch) (γ : Gm) (a : Nat → Nat → Nat) {so : GS} {r0 : GS} {r1 : GS} {r2 : GS} {rw : Nat → GS} {re : Nat → Nat → Int64} {tn : Option Nat} {se : GS} {sv : GS} {sk : GS} {sd : GS} {x1 : Int32} {x2 : Int32} {rv : Int32} {so_z : GS} {sd_z : GS} (hf : f_X6_order so r0 sd x1 x2 = some (rv, so_z, sd_z)) : Kt l γ yX6_order (Cond.code yX6_order cX6_order 3 (some .int) :: U) 50 2450 [.ref ((a 0) 0), .int x1, .int x2] (wC γ a so r0 r1 r2 rw re tn se sv sk sd) (some (.int rv)) (wC γ a so_z r0 r1 r2 rw re tn se sv sk sd_z) := by
  refine Kt.of (by decide) rfl (Nat.le_of_ble_eq_true rfl) rfl ?_
  intro p e s m below meth c A ls C0 hP hD0 hS hl
  obtain ⟨hx, hb, hml, hown, hts, hr, hlocks, hK, hE, hA⟩ := id C0
  have hU : ∀ w ∈ U, w.before _ s = true := fun w h => hts w (List.mem_cons_of_mem _ h)
  have hD : ∀ (so : GS) (r0 : GS) (r1 : GS) (r2 : GS) (rw : Nat → GS) (re : Nat → Nat → Int64) (tn : Option Nat) (se : GS) (sv : GS) (sk : GS) (sd : GS), va_D A (wC γ a so r0 r1 r2 rw re tn se sv sk sd) := fun _ _ _ _ _ _ _ _ _ _ _ => hD0.fst rfl
  have hl : lv_has ls 3 [(0, .ref ((a 0) 0)), (1, .int x1), (2, .int x2)] := hl
  have J24 : ∀ (so_2 : GS) (sd_3 : GS) (H : Heap) (locs : List Loc) (ls : Array Slot), f_X6_order_J24 so_2 sd_3 = some (rv, so_z, sd_z) → va_P γ.1 vwCl (wC γ a so_2 r0 r1 r2 rw re tn se sv sk sd_3) H → va_S A s.heap H locs → lv_has ls 3 [(0, .ref ((a 0) 0))] → W p l e (rmK 50 2450) s m ([.ref ((a 0) 0), .int x1, .int x2] : List Value).toArray below meth c H locs 0 0 (MQ below (KQ γ A (some (.int rv)) (wC γ a so_z r0 r1 r2 rw re tn se sv sk sd_z)) ([.ref ((a 0) 0), .int x1, .int x2] : List Value).toArray s 0 0 A) (F0 m 24 ls []) := by
    intro so_2 sd_3 H locs ls hf hP hS hl
    unfold f_X6_order_J24 at hf
    refine lv_aload_n hx hb dX6_order_24 rfl (lv_at hl 0 rfl) ?_
    refine lv_bipush (v := 6) hx hb dX6_order_25 (by decide) ?_
    obtain ⟨r_4, so_5, hg_6, hf⟩ := bd2_of hf
    refine kt_V0 (As := [.int (6 : Int32)]) (rest := []) (st1 := [.int r_4]) (b := (a 0) 0) C0 (c_X6_refused l γ a hg_6) (cxV (nA := 1) hts goodU U343 U345 U0 U84 U346 (by decide +kernel) ⟨Nat.le_of_ble_eq_true rfl, Nat.le_of_ble_eq_true rfl⟩) hP (hD _ _ _ _ _ _ _ _ _ _ _) hS hl dX6_order_27 0 6 rfl rfl rfl rfl (Nat.le_of_ble_eq_true rfl) rfl rfl (fun H locs hP hS => ?_)
    obtain ⟨rfl, rfl, rfl⟩ := rt3 hf
    exact kt_iret C0 hP hS dX6_order_30
  have J41 : ∀ (so_12 : GS) (sd_13 : GS) (H : Heap) (locs : List Loc) (ls : Array Slot), f_X6_order_J41 so_12 sd_13 = some (rv, so_z, sd_z) → va_P γ.1 vwCl (wC γ a so_12 r0 r1 r2 rw re tn se sv sk sd_13) H → va_S A s.heap H locs → lv_has ls 3 [(0, .ref ((a 0) 0))] → W p l e (rmK 50 2450) s m ([.ref ((a 0) 0), .int x1, .int x2] : List Value).toArray below meth c H locs 0 0 (MQ below (KQ γ A (some (.int rv)) (wC γ a so_z r0 r1 r2 rw re tn se sv sk sd_z)) ([.ref ((a 0) 0), .int x1, .int x2] : List Value).toArray s 0 0 A) (F0 m 41 ls []) := by
    intro so_12 sd_13 H locs ls hf hP hS hl
    unfold f_X6_order_J41 at hf
    refine lv_aload_n hx hb dX6_order_41 rfl (lv_at hl 0 rfl) ?_
    refine lv_iconst (v := 5) hx hb dX6_order_42 (by decide) ?_
    obtain ⟨r_14, so_15, hg_16, hf⟩ := bd2_of hf
    refine kt_V0 (As := [.int (5 : Int32)]) (rest := []) (st1 := [.int r_14]) (b := (a 0) 0) C0 (c_X6_refused l γ a hg_16) (cxV (nA := 1) hts goodU U343 U345 U0 U84 U346 (by decide +kernel) ⟨Nat.le_of_ble_eq_true rfl, Nat.le_of_ble_eq_true rfl⟩) hP (hD _ _ _ _ _ _ _ _ _ _ _) hS hl dX6_order_43 0 6 rfl rfl rfl rfl (Nat.le_of_ble_eq_true rfl) rfl rfl (fun H locs hP hS => ?_)
    obtain ⟨rfl, rfl, rfl⟩ := rt3 hf
    exact kt_iret C0 hP hS dX6_order_46
  unfold f_X6_order at hf
  refine lv_iload_n hx hb dX6_order_0 rfl (lv_at hl 1 rfl) ?_
  refine lv_iconst (v := 1) hx hb dX6_order_1 (by decide) ?_
  refine lv_icmp_lt (tgt := 24) hx hb dX6_order_2 (by decide) (fun c_1 => ?_) (fun c_1 => ?_)
  · replace hf := ite_p c_1 hf
    exact J24 so sd _ _ _ hf hP hS (lv_sub hl [0] rfl)
  · replace hf := ite_n c_1 hf
    refine lv_iload_n hx hb dX6_order_5 rfl (lv_at hl 1 rfl) ?_
    refine lv_iconst (v := 3) hx hb dX6_order_6 (by decide) ?_
    refine lv_icmp_gt (tgt := 24) hx hb dX6_order_7 (by decide) (fun c_7 => ?_) (fun c_7 => ?_)
    · replace hf := ite_p c_7 hf
      exact J24 so sd _ _ _ hf hP hS (lv_sub hl [0] rfl)
    · replace hf := ite_n c_7 hf
      refine lv_aload_n hx hb dX6_order_10 rfl (lv_at hl 0 rfl) ?_
      refine va_get (D := γ.1) (ci := 6) (v := .ref ((a 1) 0)) (C := RX6) (T := TX6) (N := 12) hx hb hU uin6 hown hK hP 0 rfl rfl 0 (by decide) (hU _ U299) (fun _ h9 => h9) rfl dX6_order_11 ?_
      refine va_getN (D := γ.1) (ci := 3) (v := .int (r0 0 1)) (C := RX3) (T := TX3) (N := 18) hx hb hU uin3 hown hK hP 4 rfl rfl 1 (by decide) (va_Nw.use rfl (hE.2.2.2.2.2.1 _ NW6)) (fun _ h9 => h9) rfl dX6_order_14 ?_
      obtain ⟨r_8, hg_9, hf⟩ := bd_of hf
      refine kt_SF (As := [.int (r0 0 1)]) (rest := []) (st1 := [.int r_8]) (wc' := wC γ a so r0 r1 r2 rw re tn se sv sk sd) C0 (c_J6_bitCount_0f7a4 l γ hg_9) (cxS (nA := 1) hts goodU U765 U766 U98 U767 (by decide +kernel) ⟨Nat.le_of_ble_eq_true rfl, Nat.le_of_ble_eq_true rfl⟩) hP (hD _ _ _ _ _ _ _ _ _ _ _) hS hl dX6_order_17 foc_nil rfl (Nat.le_of_ble_eq_true rfl) rfl rfl (fun H locs hP hS => ?_)
      refine lv_iload_n hx hb dX6_order_20 rfl (lv_at hl 1 rfl) ?_
      refine lv_icmp_ge (tgt := 31) hx hb dX6_order_21 (by decide) (fun c_10 => ?_) (fun c_10 => ?_)
      · replace hf := ite_p c_10 hf
        refine lv_iload_n hx hb dX6_order_31 rfl (lv_at hl 2 rfl) ?_
        refine lv_iconst (v := -1) hx hb dX6_order_32 (by decide) ?_
        refine lv_icmp_lt (tgt := 41) hx hb dX6_order_33 (by decide) (fun c_11 => ?_) (fun c_11 => ?_)
        · replace hf := ite_p c_11 hf
          exact J41 so sd _ _ _ hf hP hS (lv_sub hl [0] rfl)
        · replace hf := ite_n c_11 hf
          refine lv_iload_n hx hb dX6_order_36 rfl (lv_at hl 2 rfl) ?_
          refine lv_iload_n hx hb dX6_order_37 rfl (lv_at hl 1 rfl) ?_
          refine lv_icmp_lt (tgt := 47) hx hb dX6_order_38 (by decide) (fun c_17 => ?_) (fun c_17 => ?_)
          · replace hf := ite_p c_17 hf
            refine lv_aload_n hx hb dX6_order_47 rfl (lv_at hl 0 rfl) ?_
            refine va_get (D := γ.1) (ci := 6) (v := .ref ((a 7) 0)) (C := RX6) (T := TX6) (N := 12) hx hb hU uin6 hown hK hP 0 rfl rfl 11 (by decide) (hU _ U310) (fun _ h9 => h9) rfl dX6_order_48 ?_
            refine lv_aload_n hx hb dX6_order_51 rfl (lv_at hl 0 rfl) ?_
            refine va_get (D := γ.1) (ci := 6) (v := .ref ((a 1) 0)) (C := RX6) (T := TX6) (N := 12) hx hb hU uin6 hown hK hP 0 rfl rfl 0 (by decide) (hU _ U299) (fun _ h9 => h9) rfl dX6_order_52 ?_
            refine lv_iload_n hx hb dX6_order_55 rfl (lv_at hl 1 rfl) ?_
            obtain ⟨sd_18, hg_19, hf⟩ := bd_of hf
            refine kt_VF (As := [.ref ((a 1) 0), .int x1]) (rest := []) (st1 := []) (b := (a 7) 0) (wc' := wC γ a so r0 r1 r2 rw re tn se sv sk sd_18) C0 (c_X2_find l γ (a 7) (a 1) hg_19) (cxV (nA := 2) hts goodU U771 U772 U773 U89 U774 (by decide +kernel) ⟨Nat.le_of_ble_eq_true rfl, Nat.le_of_ble_eq_true rfl⟩) hP (hD _ _ _ _ _ _ _ _ _ _ _) hS hl dX6_order_56 (foc_sd_r0 γ a _ _ _ _ _ _ _ _ _ _ _ _ _) 0 2 rfl rfl rfl rfl (Nat.le_of_ble_eq_true rfl) rfl rfl (fun H locs hP hS => ?_)
            refine lv_iload_n hx hb dX6_order_59 rfl (lv_at hl 2 rfl) ?_
            refine lv_iconst (v := -1) hx hb dX6_order_60 (by decide) ?_
            refine lv_icmp_ne (tgt := 74) hx hb dX6_order_61 (by decide) (fun c_20 => ?_) (fun c_20 => ?_)
            · replace hf := ite_n c_20 hf
              refine lv_aload_n hx hb dX6_order_74 rfl (lv_at hl 0 rfl) ?_
              refine va_get (D := γ.1) (ci := 6) (v := .ref ((a 7) 0)) (C := RX6) (T := TX6) (N := 12) hx hb hU uin6 hown hK hP 0 rfl rfl 11 (by decide) (hU _ U310) (fun _ h9 => h9) rfl dX6_order_75 ?_
              refine va_getN (D := γ.1) (ci := 2) (v := .ref ((a 7) 2)) (C := RX2) (T := TX2) (N := 5) hx hb hU uin2 hown hK hP 49 rfl rfl 1 (by decide) (va_Nw.use rfl (hE.2.2.2.2.2.1 _ NW36)) (fun _ h9 => h9) rfl dX6_order_78 ?_
              refine lv_iload_n hx hb dX6_order_81 rfl (lv_at hl 2 rfl) ?_
              obtain ⟨g_21, hf⟩ := gd_of hf
              refine va_iald hx hb hK hP 50 0 rfl rfl (inB_vp g_21) dX6_order_82 ?_
              obtain ⟨rfl, rfl, rfl⟩ := rt3 hf
              exact kt_iret C0 hP hS dX6_order_83
            · replace hf := ite_p c_20 hf
              refine lv_aload_n hx hb dX6_order_64 rfl (lv_at hl 0 rfl) ?_
              refine va_get (D := γ.1) (ci := 6) (v := .ref ((a 7) 0)) (C := RX6) (T := TX6) (N := 12) hx hb hU uin6 hown hK hP 0 rfl rfl 11 (by decide) (hU _ U310) (fun _ h9 => h9) rfl dX6_order_65 ?_
              refine va_getN (D := γ.1) (ci := 2) (v := .int (sd_18 0 0)) (C := RX2) (T := TX2) (N := 5) hx hb hU uin2 hown hK hP 49 rfl rfl 0 (by decide) (va_Nw.use rfl (hE.2.2.2.2.2.1 _ NW35)) (fun _ h9 => h9) rfl dX6_order_68 ?_
              refine lv_goto (tgt := 83) hx hb dX6_order_71 (by decide) ?_
              obtain ⟨rfl, rfl, rfl⟩ := rt3 hf
              exact kt_iret C0 hP hS dX6_order_83
          · replace hf := ite_n c_17 hf
            exact J41 so sd _ _ _ hf hP hS (lv_sub hl [0] rfl)
      · replace hf := ite_n c_10 hf
        exact J24 so sd _ _ _ hf hP hS (lv_sub hl [0] rfl)
