set_option maxHeartbeats 4000000 in
set_option maxRecDepth 100000 in
theorem c_X3_comeToPass (l : Launch) (γ : Gm) (ar : Nat → Nat) (aw : Nat → Nat) {sr : GS} {sw : GS} {sl : Nat → Int64} {x2 : Int32} {rv : Int32} {sr_z : GS} (hf : f_X3_comeToPass sr sw sl x2 = some (rv, sr_z)) : Kt l γ yX3_comeToPass (Cond.code yX3_comeToPass cX3_comeToPass 6 (some .int) :: U) 5 115 [.ref (ar 0), .ref (aw 0), .int x2] (wR γ ar sr ++ wW γ aw sw sl) (some (.int rv)) (wR γ ar sr_z ++ wW γ aw sw sl) := by
  refine Kt.of (by decide) rfl (Nat.le_of_ble_eq_true rfl) rfl ?_
  intro p e s m below meth c A ls C0 hP hD0 hS hl
  obtain ⟨hx, hb, hml, hown, hts, hr, hlocks, hK, hE, hA⟩ := id C0
  have hU : ∀ w ∈ U, w.before _ s = true := fun w h => hts w (List.mem_cons_of_mem _ h)
  have hD : ∀ (sr : GS) (sw : GS) (sl : Nat → Int64), va_D A (wR γ ar sr ++ wW γ aw sw sl) := fun _ _ _ => hD0.fst rfl
  have hl : lv_has ls 6 [(0, .ref (ar 0)), (1, .ref (aw 0)), (2, .int x2)] := hl
  have L5 : ∀ (x2_1 : Int32) (n : Nat) (x3_2 : Int32) (x4_3 : Int32) (sr_4 : GS) (H : Heap) (locs : List Loc) (ls : Array Slot), f_X3_comeToPass_L5 sw sl x2_1 n x3_2 x4_3 sr_4 = some (rv, sr_z) → va_P γ.1 vwCl (wR γ ar sr_4 ++ wW γ aw sw sl) H → va_S A s.heap H locs → lv_has ls 6 [(0, .ref (ar 0)), (1, .ref (aw 0)), (2, .int x2_1), (3, .int x3_2), (4, .int x4_3)] → W p l e (rmK 5 115) s m ([.ref (ar 0), .ref (aw 0), .int x2] : List Value).toArray below meth c H locs 0 0 (MQ below (KQ γ A (some (.int rv)) (wR γ ar sr_z ++ wW γ aw sw sl)) ([.ref (ar 0), .ref (aw 0), .int x2] : List Value).toArray s 0 0 A) (F0 m 5 ls []) := by
    intro x2_1
    intro n
    induction n with
    | zero =>
      intro x3_2 x4_3 sr_4 H locs ls hf
      have hf : none = some _ := hf
      cases hf
    | succ n ih =>
      intro x3_2 x4_3 sr_4 H locs ls hf hP hS hl
      rw [f_X3_comeToPass_L5.eq_2] at hf
      refine lv_iload hx hb dX3_comeToPass_5 (lv_at hl 4 rfl) ?_
      refine lv_iload_n hx hb dX3_comeToPass_7 rfl (lv_at hl 2 rfl) ?_
      refine lv_icmp_ge (tgt := 67) hx hb dX3_comeToPass_8 (by decide) (fun c_5 => ?_) (fun c_5 => ?_)
      · replace hf := ite_p c_5 hf
        refine lv_iload_n hx hb dX3_comeToPass_67 rfl (lv_at hl 3 rfl) ?_
        obtain ⟨rfl, rfl⟩ := rt2 hf
        exact kt_iret C0 hP hS dX3_comeToPass_68
      · replace hf := ite_n c_5 hf
        refine lv_aload_n hx hb dX3_comeToPass_11 rfl (lv_at hl 1 rfl) ?_
        refine lv_iload hx hb dX3_comeToPass_12 (lv_at hl 4 rfl) ?_
        obtain ⟨r_6, hg_7, hf⟩ := bd_of hf
        refine kt_VF (As := [.int x4_3]) (rest := []) (st1 := [.int r_6]) (b := aw 0) (wc' := wR γ ar sr_4 ++ wW γ aw sw sl) C0 (c_X5_intAt l γ aw hg_7) (cxV (nA := 1) hts goodU U884 U571 U572 U90 U573 (by decide +kernel) ⟨Nat.le_of_ble_eq_true rfl, Nat.le_of_ble_eq_true rfl⟩) hP (hD _ _ _) hS hl dX3_comeToPass_14 focA2 0 5 rfl rfl rfl rfl (Nat.le_of_ble_eq_true rfl) rfl rfl (fun H locs hP hS => ?_)
        refine lv_istore (lv' := [(5, .int r_6), (0, .ref (ar 0)), (1, .ref (aw 0)), (2, .int x2_1), (3, .int x3_2), (4, .int x4_3)]) hx hb dX3_comeToPass_17 hl (by decide) rfl (fun ls hl => ?_)
        refine lv_iload hx hb dX3_comeToPass_19 (lv_at hl 0 rfl) ?_
        refine lv_bipush (v := 100) hx hb dX3_comeToPass_21 (by decide) ?_
        refine lv_icmp_le (tgt := 43) hx hb dX3_comeToPass_23 (by decide) (fun c_8 => ?_) (fun c_8 => ?_)
        · replace hf := ite_p c_8 hf
          refine lv_aload_n hx hb dX3_comeToPass_43 rfl (lv_at hl 1 rfl) ?_
          refine lv_iload hx hb dX3_comeToPass_44 (lv_at hl 0 rfl) ?_
          obtain ⟨r_9, hg_10, hf⟩ := bd_of hf
          refine kt_VF (As := [.int r_6]) (rest := []) (st1 := [.int r_9]) (b := ar 0) (wc' := wR γ ar sr_4 ++ wW γ aw sw sl) C0 (c_X3_isStanding l γ ar hg_10) (cxV (nA := 1) hts goodU U435 U436 U437 U85 U438 (by decide +kernel) ⟨Nat.le_of_ble_eq_true rfl, Nat.le_of_ble_eq_true rfl⟩) hP (hD _ _ _) hS hl dX3_comeToPass_46 focA1 0 3 rfl rfl rfl rfl (Nat.le_of_ble_eq_true rfl) rfl rfl (fun H locs hP hS => ?_)
          refine lv_if_eq (tgt := 61) hx hb dX3_comeToPass_49 (by decide) (fun c_11 => ?_) (fun c_11 => ?_)
          · replace hf := ite_p c_11 hf
            obtain ⟨x4_12, e_x4_12⟩ : ∃ y : Int32, y = x4_3 + (1 : Int32) := ⟨_, rfl⟩
            replace hf := nm_y hf e_x4_12
            refine lv_iinc (v := x4_12) (lv' := [(4, .int x4_12), (5, .int r_6), (0, .ref (ar 0)), (1, .ref (aw 0)), (2, .int x2_1), (3, .int x3_2)]) hx hb dX3_comeToPass_61 hl (k := 5) rfl (by rw [e_x4_12]; rfl) (by decide) rfl (fun ls hl => ?_)
            refine lv_goto (tgt := 5) hx hb dX3_comeToPass_64 (by decide) ?_
            exact ih x3_2 x4_12 sr_4 _ _ _ hf hP hS (lv_sub hl [2, 3, 4, 5, 0] rfl)
          · replace hf := ite_n c_11 hf
            refine lv_iload_n hx hb dX3_comeToPass_52 rfl (lv_at hl 4 rfl) ?_
            refine lv_aload_n hx hb dX3_comeToPass_53 rfl (lv_at hl 1 rfl) ?_
            refine lv_iload hx hb dX3_comeToPass_54 (lv_at hl 0 rfl) ?_
            obtain ⟨r_13, sr_14, hg_15, hf⟩ := bd2_of hf
            refine kt_VF (As := [.int r_6]) (rest := [.int x3_2]) (st1 := [.int r_13, .int x3_2]) (b := ar 0) (wc' := wR γ ar sr_14 ++ wW γ aw sw sl) C0 (c_X3_lose l γ ar hg_15) (cxV (nA := 1) hts goodU U885 U677 U678 U85 U679 (by decide +kernel) ⟨Nat.le_of_ble_eq_true rfl, Nat.le_of_ble_eq_true rfl⟩) hP (hD _ _ _) hS hl dX3_comeToPass_56 focA1 0 3 rfl rfl rfl rfl (Nat.le_of_ble_eq_true rfl) rfl rfl (fun H locs hP hS => ?_)
            refine lv_iadd hx hb dX3_comeToPass_59 ?_
            refine lv_topi (fun u_16 e_u_16 => ?_)
            replace hf := nm_y hf e_u_16
            refine lv_istore_n (lv' := [(3, .int u_16), (5, .int r_6), (0, .ref (ar 0)), (1, .ref (aw 0)), (2, .int x2_1), (4, .int x4_3)]) hx hb dX3_comeToPass_60 rfl hl (by decide) rfl (fun ls hl => ?_)
            obtain ⟨x4_17, e_x4_17⟩ : ∃ y : Int32, y = x4_3 + (1 : Int32) := ⟨_, rfl⟩
            replace hf := nm_y hf e_x4_17
            refine lv_iinc (v := x4_17) (lv' := [(4, .int x4_17), (3, .int u_16), (5, .int r_6), (0, .ref (ar 0)), (1, .ref (aw 0)), (2, .int x2_1)]) hx hb dX3_comeToPass_61 hl (k := 5) rfl (by rw [e_x4_17]; rfl) (by decide) rfl (fun ls hl => ?_)
            refine lv_goto (tgt := 5) hx hb dX3_comeToPass_64 (by decide) ?_
            exact ih u_16 x4_17 sr_14 _ _ _ hf hP hS (lv_sub hl [3, 4, 5, 1, 0] rfl)
        · replace hf := ite_n c_8 hf
          refine lv_aload_n hx hb dX3_comeToPass_26 rfl (lv_at hl 1 rfl) ?_
          refine lv_dup hx hb dX3_comeToPass_27 rfl ?_
          refine va_get (D := γ.1) (ci := 3) (v := .int (sr_4 0 16)) (C := RX3) (T := TX3) (N := 18) hx hb hU uin3 hown hK hP 0 rfl rfl 16 (by decide) (hU _ U152) (fun _ h9 => h9) rfl dX3_comeToPass_28 ?_
          refine lv_iload hx hb dX3_comeToPass_31 (lv_at hl 0 rfl) ?_
          refine lv_bipush (v := 100) hx hb dX3_comeToPass_33 (by decide) ?_
          refine lv_isub hx hb dX3_comeToPass_35 ?_
          refine lv_iadd hx hb dX3_comeToPass_36 ?_
          refine lv_topi (fun u_18 e_u_18 => ?_)
          replace hf := nm_y hf e_u_18
          refine va_put (D := γ.1) (ci := 3) (v := .int u_18) (ty := .int) (C := RX3) (T := TX3) (N := 18) hx hb hU uin3 tyX3 tyX3_ok nmX3 hown hK hP (hD _ _ _) hS 0 rfl rfl 16 (by decide) (hU _ U152) (fun _ h9 => h9) rfl (by decide +kernel) rfl rfl (Nat.le_of_ble_eq_true rfl) dX3_comeToPass_37 (fun H locs hP _ hS => ?_)
          obtain ⟨sr_19, e_sr_19, hf⟩ := nm_of hf
          replace hP : va_P γ.1 vwCl (wR γ ar sr_19 ++ wW γ aw sw sl) H := by rw [e_sr_19]; exact hP
          refine lv_goto (tgt := 61) hx hb dX3_comeToPass_40 (by decide) ?_
          obtain ⟨x4_20, e_x4_20⟩ : ∃ y : Int32, y = x4_3 + (1 : Int32) := ⟨_, rfl⟩
          replace hf := nm_y hf e_x4_20
          refine lv_iinc (v := x4_20) (lv' := [(4, .int x4_20), (5, .int r_6), (0, .ref (ar 0)), (1, .ref (aw 0)), (2, .int x2_1), (3, .int x3_2)]) hx hb dX3_comeToPass_61 hl (k := 5) rfl (by rw [e_x4_20]; rfl) (by decide) rfl (fun ls hl => ?_)
          refine lv_goto (tgt := 5) hx hb dX3_comeToPass_64 (by decide) ?_
          exact ih x3_2 x4_20 sr_19 _ _ _ hf hP hS (lv_sub hl [2, 3, 4, 5, 0] rfl)
  unfold f_X3_comeToPass at hf
  refine lv_iconst (v := 0) hx hb dX3_comeToPass_0 (by decide) ?_
  refine lv_istore_n (lv' := [(3, .int (0 : Int32)), (0, .ref (ar 0)), (1, .ref (aw 0)), (2, .int x2)]) hx hb dX3_comeToPass_1 rfl hl (by decide) rfl (fun ls hl => ?_)
  refine lv_iconst (v := 0) hx hb dX3_comeToPass_2 (by decide) ?_
  refine lv_istore (lv' := [(4, .int (0 : Int32)), (3, .int (0 : Int32)), (0, .ref (ar 0)), (1, .ref (aw 0)), (2, .int x2)]) hx hb dX3_comeToPass_3 hl (by decide) rfl (fun ls hl => ?_)
  exact L5 x2 FU (0 : Int32) (0 : Int32) sr _ _ _ hf hP hS (lv_sub hl [2, 3, 4, 1, 0] rfl)
set_option maxHeartbeats 4000000 in
set_option maxRecDepth 100000 in
theorem c_X3_latestUntil (l : Launch) (γ : Gm) (ar : Nat → Nat) {sr : GS} {rv : Int32} (hf : f_X3_latestUntil sr = some rv) : Kt l γ yX3_latestUntil (Cond.code yX3_latestUntil cX3_latestUntil 3 (some .int) :: U) 2 42 [.ref (ar 0)] (wR γ ar sr) (some (.int rv)) (wR γ ar sr) := by
  refine Kt.of (by decide) rfl (Nat.le_of_ble_eq_true rfl) rfl ?_
  intro p e s m below meth c A ls C0 hP hD0 hS hl
  obtain ⟨hx, hb, hml, hown, hts, hr, hlocks, hK, hE, hA⟩ := id C0
  have hU : ∀ w ∈ U, w.before _ s = true := fun w h => hts w (List.mem_cons_of_mem _ h)
  have hD : ∀ (sr : GS), va_D A (wR γ ar sr) := fun _ => hD0.fst rfl
  have hl : lv_has ls 3 [(0, .ref (ar 0))] := hl
  have L4 : ∀ (n : Nat) (x1_1 : Int32) (x2_2 : Int32) (H : Heap) (locs : List Loc) (ls : Array Slot), f_X3_latestUntil_L4 sr n x1_1 x2_2 = some rv → va_P γ.1 vwCl (wR γ ar sr) H → va_S A s.heap H locs → lv_has ls 3 [(0, .ref (ar 0)), (1, .int x1_1), (2, .int x2_2)] → W p l e (rmK 2 42) s m ([.ref (ar 0)] : List Value).toArray below meth c H locs 0 0 (MQ below (KQ γ A (some (.int rv)) (wR γ ar sr)) ([.ref (ar 0)] : List Value).toArray s 0 0 A) (F0 m 4 ls []) := by
    intro n
    induction n with
    | zero =>
      intro x1_1 x2_2 H locs ls hf
      have hf : none = some _ := hf
      cases hf
    | succ n ih =>
      intro x1_1 x2_2 H locs ls hf hP hS hl
      rw [f_X3_latestUntil_L4.eq_2] at hf
      refine lv_iload_n hx hb dX3_latestUntil_4 rfl (lv_at hl 2 rfl) ?_
      refine lv_aload_n hx hb dX3_latestUntil_5 rfl (lv_at hl 0 rfl) ?_
      refine va_get (D := γ.1) (ci := 3) (v := .int (sr 0 0)) (C := RX3) (T := TX3) (N := 18) hx hb hU uin3 hown hK hP 0 rfl rfl 0 (by decide) (hU _ U113) (fun _ h9 => h9) rfl dX3_latestUntil_6 ?_
      refine lv_icmp_ge (tgt := 37) hx hb dX3_latestUntil_9 (by decide) (fun c_3 => ?_) (fun c_3 => ?_)
      · replace hf := ite_p c_3 hf
        refine lv_iload_n hx hb dX3_latestUntil_37 rfl (lv_at hl 1 rfl) ?_
        obtain rfl := Option.some.inj hf
        exact kt_iret C0 hP hS dX3_latestUntil_38
      · replace hf := ite_n c_3 hf
        refine lv_aload_n hx hb dX3_latestUntil_12 rfl (lv_at hl 0 rfl) ?_
        refine lv_iload_n hx hb dX3_latestUntil_13 rfl (lv_at hl 2 rfl) ?_
        obtain ⟨r_4, hg_5, hf⟩ := bd_of hf
        refine kt_V0 (As := [.int x2_2]) (rest := []) (st1 := [.int r_4]) (b := ar 0) C0 (c_X3_isStanding l γ ar hg_5) (cxV (nA := 1) hts goodU U435 U436 U437 U85 U438 (by decide +kernel) ⟨Nat.le_of_ble_eq_true rfl, Nat.le_of_ble_eq_true rfl⟩) hP (hD _) hS hl dX3_latestUntil_14 0 3 rfl rfl rfl rfl (Nat.le_of_ble_eq_true rfl) rfl rfl (fun H locs hP hS => ?_)
        refine lv_if_eq (tgt := 31) hx hb dX3_latestUntil_17 (by decide) (fun c_6 => ?_) (fun c_6 => ?_)
        · replace hf := ite_p c_6 hf
          obtain ⟨x2_7, e_x2_7⟩ : ∃ y : Int32, y = x2_2 + (1 : Int32) := ⟨_, rfl⟩
          replace hf := nm_y hf e_x2_7
          refine lv_iinc (v := x2_7) (lv' := [(2, .int x2_7), (0, .ref (ar 0)), (1, .int x1_1)]) hx hb dX3_latestUntil_31 hl (k := 2) rfl (by rw [e_x2_7]; rfl) (by decide) rfl (fun ls hl => ?_)
          refine lv_goto (tgt := 4) hx hb dX3_latestUntil_34 (by decide) ?_
          exact ih x1_1 x2_7 _ _ _ hf hP hS (lv_sub hl [1, 2, 0] rfl)
        · replace hf := ite_n c_6 hf
          refine lv_iload_n hx hb dX3_latestUntil_20 rfl (lv_at hl 1 rfl) ?_
          refine lv_aload_n hx hb dX3_latestUntil_21 rfl (lv_at hl 0 rfl) ?_
          refine va_get (D := γ.1) (ci := 3) (v := .ref (ar 7)) (C := RX3) (T := TX3) (N := 18) hx hb hU uin3 hown hK hP 0 rfl rfl 6 (by decide) (hU _ U131) (fun _ h9 => h9) rfl dX3_latestUntil_22 ?_
          refine lv_iload_n hx hb dX3_latestUntil_25 rfl (lv_at hl 2 rfl) ?_
          obtain ⟨g_8, hf⟩ := gd_of hf
          refine va_iald hx hb hK hP 5 0 rfl rfl (inB_vp g_8) dX3_latestUntil_26 ?_
          refine va_mmax (rest := []) (x := x1_1) (y := (sr 7 x2_2.toNatClampNeg)) hx hb (hml.trans hl.1.symm) hown (hU _ U697) (hU _ U698) (hU _ U93) (hU _ U699) (Nat.le_of_ble_eq_true rfl) (Nat.le_of_ble_eq_true rfl) (Nat.zero_le _) (Nat.zero_le _) dX3_latestUntil_27 ?_
          refine lv_topi (fun u_9 e_u_9 => ?_)
          replace hf := nm_y hf e_u_9
          refine lv_istore_n (lv' := [(1, .int u_9), (0, .ref (ar 0)), (2, .int x2_2)]) hx hb dX3_latestUntil_30 rfl hl (by decide) rfl (fun ls hl => ?_)
          obtain ⟨x2_10, e_x2_10⟩ : ∃ y : Int32, y = x2_2 + (1 : Int32) := ⟨_, rfl⟩
          replace hf := nm_y hf e_x2_10
          refine lv_iinc (v := x2_10) (lv' := [(2, .int x2_10), (1, .int u_9), (0, .ref (ar 0))]) hx hb dX3_latestUntil_31 hl (k := 2) rfl (by rw [e_x2_10]; rfl) (by decide) rfl (fun ls hl => ?_)
          refine lv_goto (tgt := 4) hx hb dX3_latestUntil_34 (by decide) ?_
          exact ih u_9 x2_10 _ _ _ hf hP hS (lv_sub hl [2, 1, 0] rfl)
  unfold f_X3_latestUntil at hf
  refine lv_iconst (v := 0) hx hb dX3_latestUntil_0 (by decide) ?_
  refine lv_istore_n (lv' := [(1, .int (0 : Int32)), (0, .ref (ar 0))]) hx hb dX3_latestUntil_1 rfl hl (by decide) rfl (fun ls hl => ?_)
  refine lv_iconst (v := 0) hx hb dX3_latestUntil_2 (by decide) ?_
  refine lv_istore_n (lv' := [(2, .int (0 : Int32)), (1, .int (0 : Int32)), (0, .ref (ar 0))]) hx hb dX3_latestUntil_3 rfl hl (by decide) rfl (fun ls hl => ?_)
  exact L4 FU (0 : Int32) (0 : Int32) _ _ _ hf hP hS (lv_sub hl [2, 1, 0] rfl)
set_option maxHeartbeats 4000000 in
set_option maxRecDepth 100000 in
theorem c_X3_mourningIn (l : Launch) (γ : Gm) (ar : Nat → Nat) {sr : GS} {x1 : Int32} {rv : Int32} (hf : f_X3_mourningIn sr x1 = some rv) : Kt l γ yX3_mourningIn (Cond.code yX3_mourningIn cX3_mourningIn 4 (some .int) :: U) 2 42 [.ref (ar 0), .int x1] (wR γ ar sr) (some (.int rv)) (wR γ ar sr) := by
  refine Kt.of (by decide) rfl (Nat.le_of_ble_eq_true rfl) rfl ?_
  intro p e s m below meth c A ls C0 hP hD0 hS hl
  obtain ⟨hx, hb, hml, hown, hts, hr, hlocks, hK, hE, hA⟩ := id C0
  have hU : ∀ w ∈ U, w.before _ s = true := fun w h => hts w (List.mem_cons_of_mem _ h)
  have hD : ∀ (sr : GS), va_D A (wR γ ar sr) := fun _ => hD0.fst rfl
  have hl : lv_has ls 4 [(0, .ref (ar 0)), (1, .int x1)] := hl
  have L4 : ∀ (x1_1 : Int32) (n : Nat) (x2_2 : Int32) (x3_3 : Int32) (H : Heap) (locs : List Loc) (ls : Array Slot), f_X3_mourningIn_L4 sr x1_1 n x2_2 x3_3 = some rv → va_P γ.1 vwCl (wR γ ar sr) H → va_S A s.heap H locs → lv_has ls 4 [(0, .ref (ar 0)), (1, .int x1_1), (2, .int x2_2), (3, .int x3_3)] → W p l e (rmK 2 42) s m ([.ref (ar 0), .int x1] : List Value).toArray below meth c H locs 0 0 (MQ below (KQ γ A (some (.int rv)) (wR γ ar sr)) ([.ref (ar 0), .int x1] : List Value).toArray s 0 0 A) (F0 m 4 ls []) := by
    intro x1_1
    intro n
    induction n with
    | zero =>
      intro x2_2 x3_3 H locs ls hf
      have hf : none = some _ := hf
      cases hf
    | succ n ih =>
      intro x2_2 x3_3 H locs ls hf hP hS hl
      rw [f_X3_mourningIn_L4.eq_2] at hf
      refine lv_iload_n hx hb dX3_mourningIn_4 rfl (lv_at hl 3 rfl) ?_
      refine lv_aload_n hx hb dX3_mourningIn_5 rfl (lv_at hl 0 rfl) ?_
      refine va_get (D := γ.1) (ci := 3) (v := .int (sr 0 0)) (C := RX3) (T := TX3) (N := 18) hx hb hU uin3 hown hK hP 0 rfl rfl 0 (by decide) (hU _ U113) (fun _ h9 => h9) rfl dX3_mourningIn_6 ?_
      refine lv_icmp_ge (tgt := 42) hx hb dX3_mourningIn_9 (by decide) (fun c_4 => ?_) (fun c_4 => ?_)
      · replace hf := ite_p c_4 hf
        refine lv_iload_n hx hb dX3_mourningIn_42 rfl (lv_at hl 2 rfl) ?_
        obtain rfl := Option.some.inj hf
        exact kt_iret C0 hP hS dX3_mourningIn_43
      · replace hf := ite_n c_4 hf
        refine lv_aload_n hx hb dX3_mourningIn_12 rfl (lv_at hl 0 rfl) ?_
        refine lv_iload_n hx hb dX3_mourningIn_13 rfl (lv_at hl 3 rfl) ?_
        obtain ⟨r_5, hg_6, hf⟩ := bd_of hf
        refine kt_V0 (As := [.int x3_3]) (rest := []) (st1 := [.int r_5]) (b := ar 0) C0 (c_X3_isStanding l γ ar hg_6) (cxV (nA := 1) hts goodU U435 U436 U437 U85 U438 (by decide +kernel) ⟨Nat.le_of_ble_eq_true rfl, Nat.le_of_ble_eq_true rfl⟩) hP (hD _) hS hl dX3_mourningIn_14 0 3 rfl rfl rfl rfl (Nat.le_of_ble_eq_true rfl) rfl rfl (fun H locs hP hS => ?_)
        refine lv_if_eq (tgt := 36) hx hb dX3_mourningIn_17 (by decide) (fun c_7 => ?_) (fun c_7 => ?_)
        · replace hf := ite_p c_7 hf
          obtain ⟨x3_8, e_x3_8⟩ : ∃ y : Int32, y = x3_3 + (1 : Int32) := ⟨_, rfl⟩
          replace hf := nm_y hf e_x3_8
          refine lv_iinc (v := x3_8) (lv' := [(3, .int x3_8), (0, .ref (ar 0)), (1, .int x1_1), (2, .int x2_2)]) hx hb dX3_mourningIn_36 hl (k := 3) rfl (by rw [e_x3_8]; rfl) (by decide) rfl (fun ls hl => ?_)
          refine lv_goto (tgt := 4) hx hb dX3_mourningIn_39 (by decide) ?_
          exact ih x2_2 x3_8 _ _ _ hf hP hS (lv_sub hl [1, 2, 3, 0] rfl)
        · replace hf := ite_n c_7 hf
          refine lv_iload_n hx hb dX3_mourningIn_20 rfl (lv_at hl 1 rfl) ?_
          refine lv_aload_n hx hb dX3_mourningIn_21 rfl (lv_at hl 0 rfl) ?_
          refine va_get (D := γ.1) (ci := 3) (v := .ref (ar 7)) (C := RX3) (T := TX3) (N := 18) hx hb hU uin3 hown hK hP 0 rfl rfl 6 (by decide) (hU _ U131) (fun _ h9 => h9) rfl dX3_mourningIn_22 ?_
          refine lv_iload_n hx hb dX3_mourningIn_25 rfl (lv_at hl 3 rfl) ?_
          obtain ⟨g_9, hf⟩ := gd_of hf
          refine va_iald hx hb hK hP 5 0 rfl rfl (inB_vp g_9) dX3_mourningIn_26 ?_
          refine lv_icmp_ge (tgt := 36) hx hb dX3_mourningIn_27 (by decide) (fun c_10 => ?_) (fun c_10 => ?_)
          · replace hf := ite_p c_10 hf
            obtain ⟨x3_11, e_x3_11⟩ : ∃ y : Int32, y = x3_3 + (1 : Int32) := ⟨_, rfl⟩
            replace hf := nm_y hf e_x3_11
            refine lv_iinc (v := x3_11) (lv' := [(3, .int x3_11), (0, .ref (ar 0)), (1, .int x1_1), (2, .int x2_2)]) hx hb dX3_mourningIn_36 hl (k := 3) rfl (by rw [e_x3_11]; rfl) (by decide) rfl (fun ls hl => ?_)
            refine lv_goto (tgt := 4) hx hb dX3_mourningIn_39 (by decide) ?_
            exact ih x2_2 x3_11 _ _ _ hf hP hS (lv_sub hl [1, 2, 3, 0] rfl)
          · replace hf := ite_n c_10 hf
            refine lv_iload_n hx hb dX3_mourningIn_30 rfl (lv_at hl 2 rfl) ?_
            refine lv_iconst (v := 1) hx hb dX3_mourningIn_31 (by decide) ?_
            refine lv_iload_n hx hb dX3_mourningIn_32 rfl (lv_at hl 3 rfl) ?_
            refine lv_ishl hx hb dX3_mourningIn_33 ?_
            refine lv_ior hx hb dX3_mourningIn_34 ?_
            refine lv_topi (fun u_12 e_u_12 => ?_)
            replace hf := nm_y hf e_u_12
            refine lv_istore_n (lv' := [(2, .int u_12), (0, .ref (ar 0)), (1, .int x1_1), (3, .int x3_3)]) hx hb dX3_mourningIn_35 rfl hl (by decide) rfl (fun ls hl => ?_)
            obtain ⟨x3_13, e_x3_13⟩ : ∃ y : Int32, y = x3_3 + (1 : Int32) := ⟨_, rfl⟩
            replace hf := nm_y hf e_x3_13
            refine lv_iinc (v := x3_13) (lv' := [(3, .int x3_13), (2, .int u_12), (0, .ref (ar 0)), (1, .int x1_1)]) hx hb dX3_mourningIn_36 hl (k := 3) rfl (by rw [e_x3_13]; rfl) (by decide) rfl (fun ls hl => ?_)
            refine lv_goto (tgt := 4) hx hb dX3_mourningIn_39 (by decide) ?_
            exact ih u_12 x3_13 _ _ _ hf hP hS (lv_sub hl [2, 3, 1, 0] rfl)
  unfold f_X3_mourningIn at hf
  refine lv_iconst (v := 0) hx hb dX3_mourningIn_0 (by decide) ?_
  refine lv_istore_n (lv' := [(2, .int (0 : Int32)), (0, .ref (ar 0)), (1, .int x1)]) hx hb dX3_mourningIn_1 rfl hl (by decide) rfl (fun ls hl => ?_)
  refine lv_iconst (v := 0) hx hb dX3_mourningIn_2 (by decide) ?_
  refine lv_istore_n (lv' := [(3, .int (0 : Int32)), (2, .int (0 : Int32)), (0, .ref (ar 0)), (1, .int x1)]) hx hb dX3_mourningIn_3 rfl hl (by decide) rfl (fun ls hl => ?_)
  exact L4 x1 FU (0 : Int32) (0 : Int32) _ _ _ hf hP hS (lv_sub hl [2, 3, 1, 0] rfl)
set_option maxHeartbeats 4000000 in
set_option maxRecDepth 100000 in
theorem c_X3_blackenCourtly (l : Launch) (γ : Gm) (ar : Nat → Nat) {sr : GS} {x1 : Int32} {rv : Int32} (hf : f_X3_blackenCourtly sr x1 = some rv) : Kt l γ yX3_blackenCourtly (Cond.code yX3_blackenCourtly cX3_blackenCourtly 4 (some .int) :: U) 0 0 [.ref (ar 0), .int x1] (wR γ ar sr) (some (.int rv)) (wR γ ar sr) := by
  refine Kt.of (by decide) rfl (Nat.le_of_ble_eq_true rfl) rfl ?_
  intro p e s m below meth c A ls C0 hP hD0 hS hl
  obtain ⟨hx, hb, hml, hown, hts, hr, hlocks, hK, hE, hA⟩ := id C0
  have hU : ∀ w ∈ U, w.before _ s = true := fun w h => hts w (List.mem_cons_of_mem _ h)
  have hD : ∀ (sr : GS), va_D A (wR γ ar sr) := fun _ => hD0.fst rfl
  have hl : lv_has ls 4 [(0, .ref (ar 0)), (1, .int x1)] := hl
  have L4 : ∀ (n : Nat) (x2_1 : Int32) (x3_2 : Int32) (H : Heap) (locs : List Loc) (ls : Array Slot), f_X3_blackenCourtly_L4 sr n x2_1 x3_2 = some rv → va_P γ.1 vwCl (wR γ ar sr) H → va_S A s.heap H locs → lv_has ls 4 [(0, .ref (ar 0)), (2, .int x2_1), (3, .int x3_2)] → W p l e (rmK 0 0) s m ([.ref (ar 0), .int x1] : List Value).toArray below meth c H locs 0 0 (MQ below (KQ γ A (some (.int rv)) (wR γ ar sr)) ([.ref (ar 0), .int x1] : List Value).toArray s 0 0 A) (F0 m 4 ls []) := by
    intro n
    induction n with
    | zero =>
      intro x2_1 x3_2 H locs ls hf
      have hf : none = some _ := hf
      cases hf
    | succ n ih =>
      intro x2_1 x3_2 H locs ls hf hP hS hl
      rw [f_X3_blackenCourtly_L4.eq_2] at hf
      refine lv_iload_n hx hb dX3_blackenCourtly_4 rfl (lv_at hl 2 rfl) ?_
      refine lv_aload_n hx hb dX3_blackenCourtly_5 rfl (lv_at hl 0 rfl) ?_
      refine va_get (D := γ.1) (ci := 3) (v := .int (sr 0 0)) (C := RX3) (T := TX3) (N := 18) hx hb hU uin3 hown hK hP 0 rfl rfl 0 (by decide) (hU _ U113) (fun _ h9 => h9) rfl dX3_blackenCourtly_6 ?_
      refine lv_icmp_ge (tgt := 45) hx hb dX3_blackenCourtly_9 (by decide) (fun c_3 => ?_) (fun c_3 => ?_)
      · replace hf := ite_p c_3 hf
        refine lv_iload_n hx hb dX3_blackenCourtly_45 rfl (lv_at hl 1 rfl) ?_
        obtain rfl := Option.some.inj hf
        exact kt_iret C0 hP hS dX3_blackenCourtly_46
      · replace hf := ite_n c_3 hf
        refine lv_aload_n hx hb dX3_blackenCourtly_12 rfl (lv_at hl 0 rfl) ?_
        refine va_get (D := γ.1) (ci := 3) (v := .ref (ar 3)) (C := RX3) (T := TX3) (N := 18) hx hb hU uin3 hown hK hP 0 rfl rfl 2 (by decide) (hU _ U121) (fun _ h9 => h9) rfl dX3_blackenCourtly_13 ?_
        refine lv_iload_n hx hb dX3_blackenCourtly_16 rfl (lv_at hl 2 rfl) ?_
        obtain ⟨g_4, hf⟩ := gd_of hf
        refine va_iald hx hb hK hP 1 0 rfl rfl (inB_vp g_4) dX3_blackenCourtly_17 ?_
        refine lv_iconst (v := 3) hx hb dX3_blackenCourtly_18 (by decide) ?_
        refine lv_icmp_ne (tgt := 39) hx hb dX3_blackenCourtly_19 (by decide) (fun c_5 => ?_) (fun c_5 => ?_)
        · replace hf := ite_n c_5 hf
          obtain ⟨x3_6, e_x3_6⟩ : ∃ y : Int32, y = x3_2 + (1 : Int32) := ⟨_, rfl⟩
          replace hf := nm_y hf e_x3_6
          refine lv_iinc (v := x3_6) (lv' := [(3, .int x3_6), (0, .ref (ar 0)), (2, .int x2_1)]) hx hb dX3_blackenCourtly_39 hl (k := 2) rfl (by rw [e_x3_6]; rfl) (by decide) rfl (fun ls hl => ?_)
          refine lv_goto (tgt := 4) hx hb dX3_blackenCourtly_42 (by decide) ?_
          exact ih x2_1 x3_6 _ _ _ hf hP hS (lv_sub hl [1, 2, 0] rfl)
        · replace hf := ite_p c_5 hf
          refine lv_aload_n hx hb dX3_blackenCourtly_22 rfl (lv_at hl 0 rfl) ?_
          refine va_get (D := γ.1) (ci := 3) (v := .ref (ar 8)) (C := RX3) (T := TX3) (N := 18) hx hb hU uin3 hown hK hP 0 rfl rfl 7 (by decide) (hU _ U134) (fun _ h9 => h9) rfl dX3_blackenCourtly_23 ?_
          refine lv_iload_n hx hb dX3_blackenCourtly_26 rfl (lv_at hl 2 rfl) ?_
          obtain ⟨g_7, hf⟩ := gd_of hf
          refine va_iald hx hb hK hP 6 0 rfl rfl (inB_vp g_7) dX3_blackenCourtly_27 ?_
          refine lv_iload_n hx hb dX3_blackenCourtly_28 rfl (lv_at hl 1 rfl) ?_
          refine lv_iand hx hb dX3_blackenCourtly_29 ?_
          refine lv_if_eq (tgt := 39) hx hb dX3_blackenCourtly_30 (by decide) (fun c_8 => ?_) (fun c_8 => ?_)
          · replace hf := ite_p c_8 hf
            obtain ⟨x3_9, e_x3_9⟩ : ∃ y : Int32, y = x3_2 + (1 : Int32) := ⟨_, rfl⟩
            replace hf := nm_y hf e_x3_9
            refine lv_iinc (v := x3_9) (lv' := [(3, .int x3_9), (0, .ref (ar 0)), (2, .int x2_1)]) hx hb dX3_blackenCourtly_39 hl (k := 2) rfl (by rw [e_x3_9]; rfl) (by decide) rfl (fun ls hl => ?_)
            refine lv_goto (tgt := 4) hx hb dX3_blackenCourtly_42 (by decide) ?_
            exact ih x2_1 x3_9 _ _ _ hf hP hS (lv_sub hl [1, 2, 0] rfl)
          · replace hf := ite_n c_8 hf
            refine lv_iload_n hx hb dX3_blackenCourtly_33 rfl (lv_at hl 1 rfl) ?_
            refine lv_iconst (v := 1) hx hb dX3_blackenCourtly_34 (by decide) ?_
            refine lv_iload_n hx hb dX3_blackenCourtly_35 rfl (lv_at hl 2 rfl) ?_
            refine lv_ishl hx hb dX3_blackenCourtly_36 ?_
            refine lv_ior hx hb dX3_blackenCourtly_37 ?_
            refine lv_topi (fun u_10 e_u_10 => ?_)
            replace hf := nm_y hf e_u_10
            refine lv_istore_n (lv' := [(2, .int u_10), (0, .ref (ar 0)), (3, .int x3_2)]) hx hb dX3_blackenCourtly_38 rfl hl (by decide) rfl (fun ls hl => ?_)
            obtain ⟨x3_11, e_x3_11⟩ : ∃ y : Int32, y = x3_2 + (1 : Int32) := ⟨_, rfl⟩
            replace hf := nm_y hf e_x3_11
            refine lv_iinc (v := x3_11) (lv' := [(3, .int x3_11), (2, .int u_10), (0, .ref (ar 0))]) hx hb dX3_blackenCourtly_39 hl (k := 2) rfl (by rw [e_x3_11]; rfl) (by decide) rfl (fun ls hl => ?_)
            refine lv_goto (tgt := 4) hx hb dX3_blackenCourtly_42 (by decide) ?_
            exact ih u_10 x3_11 _ _ _ hf hP hS (lv_sub hl [2, 1, 0] rfl)
  unfold f_X3_blackenCourtly at hf
  refine lv_iload_n hx hb dX3_blackenCourtly_0 rfl (lv_at hl 1 rfl) ?_
  refine lv_istore_n (lv' := [(2, .int x1), (0, .ref (ar 0)), (1, .int x1)]) hx hb dX3_blackenCourtly_1 rfl hl (by decide) rfl (fun ls hl => ?_)
  refine lv_iconst (v := 0) hx hb dX3_blackenCourtly_2 (by decide) ?_
  refine lv_istore_n (lv' := [(3, .int (0 : Int32)), (2, .int x1), (0, .ref (ar 0)), (1, .int x1)]) hx hb dX3_blackenCourtly_3 rfl hl (by decide) rfl (fun ls hl => ?_)
  exact L4 FU x1 (0 : Int32) _ _ _ hf hP hS (lv_sub hl [2, 1, 0] rfl)
set_option maxHeartbeats 4000000 in
set_option maxRecDepth 100000 in
theorem c_X3_blackIn (l : Launch) (γ : Gm) (ar : Nat → Nat) {sr : GS} {x1 : Int32} {rv : Int32} (hf : f_X3_blackIn sr x1 = some rv) : Kt l γ yX3_blackIn (Cond.code yX3_blackIn cX3_blackIn 6 (some .int) :: U) 3 65 [.ref (ar 0), .int x1] (wR γ ar sr) (some (.int rv)) (wR γ ar sr) := by
  refine Kt.of (by decide) rfl (Nat.le_of_ble_eq_true rfl) rfl ?_
  intro p e s m below meth c A ls C0 hP hD0 hS hl
  obtain ⟨hx, hb, hml, hown, hts, hr, hlocks, hK, hE, hA⟩ := id C0
  have hU : ∀ w ∈ U, w.before _ s = true := fun w h => hts w (List.mem_cons_of_mem _ h)
  have hD : ∀ (sr : GS), va_D A (wR γ ar sr) := fun _ => hD0.fst rfl
  have hl : lv_has ls 6 [(0, .ref (ar 0)), (1, .int x1)] := hl
  have L11 : ∀ (x2_3 : Int32) (K59 : Int32 → Option (Int32)) (HK59 : ∀ (z3 : Int32) (H : Heap) (locs : List Loc) (ls : Array Slot), K59 z3 = some rv → va_P γ.1 vwCl (wR γ ar sr) H → va_S A s.heap H locs → lv_has ls 6 [(0, .ref (ar 0)), (3, .int z3)] → W p l e (rmK 3 65) s m ([.ref (ar 0), .int x1] : List Value).toArray below meth c H locs 0 0 (MQ below (KQ γ A (some (.int rv)) (wR γ ar sr)) ([.ref (ar 0), .int x1] : List Value).toArray s 0 0 A) (F0 m 59 ls [])) (n : Nat) (x3_4 : Int32) (x4_5 : Int32) (H : Heap) (locs : List Loc) (ls : Array Slot), f_X3_blackIn_L11 sr x2_3 K59 n x3_4 x4_5 = some rv → va_P γ.1 vwCl (wR γ ar sr) H → va_S A s.heap H locs → lv_has ls 6 [(0, .ref (ar 0)), (2, .int x2_3), (3, .int x3_4), (4, .int x4_5)] → W p l e (rmK 3 65) s m ([.ref (ar 0), .int x1] : List Value).toArray below meth c H locs 0 0 (MQ below (KQ γ A (some (.int rv)) (wR γ ar sr)) ([.ref (ar 0), .int x1] : List Value).toArray s 0 0 A) (F0 m 11 ls []) := by
    intro x2_3 K59 HK59
    intro n
    induction n with
    | zero =>
      intro x3_4 x4_5 H locs ls hf
      have hf : none = some _ := hf
      cases hf
    | succ n ih =>
      intro x3_4 x4_5 H locs ls hf hP hS hl
      rw [f_X3_blackIn_L11.eq_2] at hf
      refine lv_iload hx hb dX3_blackIn_11 (lv_at hl 3 rfl) ?_
      refine lv_aload_n hx hb dX3_blackIn_13 rfl (lv_at hl 0 rfl) ?_
      refine va_get (D := γ.1) (ci := 3) (v := .int (sr 0 0)) (C := RX3) (T := TX3) (N := 18) hx hb hU uin3 hown hK hP 0 rfl rfl 0 (by decide) (hU _ U113) (fun _ h9 => h9) rfl dX3_blackIn_14 ?_
      refine lv_icmp_ge (tgt := 59) hx hb dX3_blackIn_17 (by decide) (fun c_6 => ?_) (fun c_6 => ?_)
      · replace hf := ite_p c_6 hf
        exact HK59 x3_4 _ _ _ hf hP hS (lv_sub hl [0, 2] rfl)
      · replace hf := ite_n c_6 hf
        refine lv_aload_n hx hb dX3_blackIn_20 rfl (lv_at hl 0 rfl) ?_
        refine va_get (D := γ.1) (ci := 3) (v := .ref (ar 3)) (C := RX3) (T := TX3) (N := 18) hx hb hU uin3 hown hK hP 0 rfl rfl 2 (by decide) (hU _ U121) (fun _ h9 => h9) rfl dX3_blackIn_21 ?_
        refine lv_iload hx hb dX3_blackIn_24 (lv_at hl 3 rfl) ?_
        obtain ⟨g_7, hf⟩ := gd_of hf
        refine va_iald hx hb hK hP 1 0 rfl rfl (inB_vp g_7) dX3_blackIn_26 ?_
        refine lv_iconst (v := 1) hx hb dX3_blackIn_27 (by decide) ?_
        obtain ⟨r_8, hg_9, hf⟩ := bd_of hf
        refine kt_SN (As := [.int (sr 3 x4_5.toNatClampNeg), .int (1 : Int32)]) (rest := []) (st1 := [.int r_8]) C0 (c_X6_isUnder l γ hg_9) (cxN (nA := 2) hts goodU hE NW41 U419 U84 U420 (by decide +kernel) ⟨Nat.le_of_ble_eq_true rfl, Nat.le_of_ble_eq_true rfl⟩) hP (hD _) hS hl dX3_blackIn_28 rfl (Nat.le_of_ble_eq_true rfl) rfl rfl (fun H locs hP hS => ?_)
        refine lv_if_eq (tgt := 53) hx hb dX3_blackIn_31 (by decide) (fun c_10 => ?_) (fun c_10 => ?_)
        · replace hf := ite_p c_10 hf
          obtain ⟨x4_11, e_x4_11⟩ : ∃ y : Int32, y = x4_5 + (1 : Int32) := ⟨_, rfl⟩
          replace hf := nm_y hf e_x4_11
          refine lv_iinc (v := x4_11) (lv' := [(4, .int x4_11), (0, .ref (ar 0)), (2, .int x2_3), (3, .int x3_4)]) hx hb dX3_blackIn_53 hl (k := 3) rfl (by rw [e_x4_11]; rfl) (by decide) rfl (fun ls hl => ?_)
          refine lv_goto (tgt := 11) hx hb dX3_blackIn_56 (by decide) ?_
          exact ih x3_4 x4_11 _ _ _ hf hP hS (lv_sub hl [1, 2, 3, 0] rfl)
        · replace hf := ite_n c_10 hf
          refine lv_aload_n hx hb dX3_blackIn_34 rfl (lv_at hl 0 rfl) ?_
          refine va_get (D := γ.1) (ci := 3) (v := .ref (ar 8)) (C := RX3) (T := TX3) (N := 18) hx hb hU uin3 hown hK hP 0 rfl rfl 7 (by decide) (hU _ U134) (fun _ h9 => h9) rfl dX3_blackIn_35 ?_
          refine lv_iload hx hb dX3_blackIn_38 (lv_at hl 3 rfl) ?_
          obtain ⟨g_12, hf⟩ := gd_of hf
          refine va_iald hx hb hK hP 6 0 rfl rfl (inB_vp g_12) dX3_blackIn_40 ?_
          refine lv_iload_n hx hb dX3_blackIn_41 rfl (lv_at hl 1 rfl) ?_
          refine lv_iand hx hb dX3_blackIn_42 ?_
          refine lv_if_eq (tgt := 53) hx hb dX3_blackIn_43 (by decide) (fun c_13 => ?_) (fun c_13 => ?_)
          · replace hf := ite_p c_13 hf
            obtain ⟨x4_14, e_x4_14⟩ : ∃ y : Int32, y = x4_5 + (1 : Int32) := ⟨_, rfl⟩
            replace hf := nm_y hf e_x4_14
            refine lv_iinc (v := x4_14) (lv' := [(4, .int x4_14), (0, .ref (ar 0)), (2, .int x2_3), (3, .int x3_4)]) hx hb dX3_blackIn_53 hl (k := 3) rfl (by rw [e_x4_14]; rfl) (by decide) rfl (fun ls hl => ?_)
            refine lv_goto (tgt := 11) hx hb dX3_blackIn_56 (by decide) ?_
            exact ih x3_4 x4_14 _ _ _ hf hP hS (lv_sub hl [1, 2, 3, 0] rfl)
          · replace hf := ite_n c_13 hf
            refine lv_iload_n hx hb dX3_blackIn_46 rfl (lv_at hl 2 rfl) ?_
            refine lv_iconst (v := 1) hx hb dX3_blackIn_47 (by decide) ?_
            refine lv_iload hx hb dX3_blackIn_48 (lv_at hl 3 rfl) ?_
            refine lv_ishl hx hb dX3_blackIn_50 ?_
            refine lv_ior hx hb dX3_blackIn_51 ?_
            refine lv_topi (fun u_15 e_u_15 => ?_)
            replace hf := nm_y hf e_u_15
            refine lv_istore_n (lv' := [(3, .int u_15), (0, .ref (ar 0)), (2, .int x2_3), (4, .int x4_5)]) hx hb dX3_blackIn_52 rfl hl (by decide) rfl (fun ls hl => ?_)
            obtain ⟨x4_16, e_x4_16⟩ : ∃ y : Int32, y = x4_5 + (1 : Int32) := ⟨_, rfl⟩
            replace hf := nm_y hf e_x4_16
            refine lv_iinc (v := x4_16) (lv' := [(4, .int x4_16), (3, .int u_15), (0, .ref (ar 0)), (2, .int x2_3)]) hx hb dX3_blackIn_53 hl (k := 3) rfl (by rw [e_x4_16]; rfl) (by decide) rfl (fun ls hl => ?_)
            refine lv_goto (tgt := 11) hx hb dX3_blackIn_56 (by decide) ?_
            exact ih u_15 x4_16 _ _ _ hf hP hS (lv_sub hl [2, 3, 1, 0] rfl)
  have L62 : ∀ (n : Nat) (x3_18 : Int32) (x4_19 : Int32) (H : Heap) (locs : List Loc) (ls : Array Slot), f_X3_blackIn_L62 sr n x3_18 x4_19 = some rv → va_P γ.1 vwCl (wR γ ar sr) H → va_S A s.heap H locs → lv_has ls 6 [(0, .ref (ar 0)), (3, .int x3_18), (4, .int x4_19)] → W p l e (rmK 3 65) s m ([.ref (ar 0), .int x1] : List Value).toArray below meth c H locs 0 0 (MQ below (KQ γ A (some (.int rv)) (wR γ ar sr)) ([.ref (ar 0), .int x1] : List Value).toArray s 0 0 A) (F0 m 62 ls []) := by
    intro n
    induction n with
    | zero =>
      intro x3_18 x4_19 H locs ls hf
      have hf : none = some _ := hf
      cases hf
    | succ n ih =>
      intro x3_18 x4_19 H locs ls hf hP hS hl
      rw [f_X3_blackIn_L62.eq_2] at hf
      refine lv_iload hx hb dX3_blackIn_62 (lv_at hl 2 rfl) ?_
      refine lv_aload_n hx hb dX3_blackIn_64 rfl (lv_at hl 0 rfl) ?_
      refine va_get (D := γ.1) (ci := 3) (v := .int (sr 0 0)) (C := RX3) (T := TX3) (N := 18) hx hb hU uin3 hown hK hP 0 rfl rfl 0 (by decide) (hU _ U113) (fun _ h9 => h9) rfl dX3_blackIn_65 ?_
      refine lv_icmp_ge (tgt := 96) hx hb dX3_blackIn_68 (by decide) (fun c_20 => ?_) (fun c_20 => ?_)
      · replace hf := ite_p c_20 hf
        refine lv_iload_n hx hb dX3_blackIn_96 rfl (lv_at hl 1 rfl) ?_
        obtain rfl := Option.some.inj hf
        exact kt_iret C0 hP hS dX3_blackIn_97
      · replace hf := ite_n c_20 hf
        refine lv_aload_n hx hb dX3_blackIn_71 rfl (lv_at hl 0 rfl) ?_
        refine lv_iload_n hx hb dX3_blackIn_72 rfl (lv_at hl 1 rfl) ?_
        obtain ⟨r_21, hg_22, hf⟩ := bd_of hf
        refine kt_V0 (As := [.int x3_18]) (rest := []) (st1 := [.int r_21]) (b := ar 0) C0 (c_X3_blackenCourtly l γ ar hg_22) (cxV (nA := 1) hts goodU U444 U446 U6 U85 U447 (by decide +kernel) ⟨Nat.le_of_ble_eq_true rfl, Nat.le_of_ble_eq_true rfl⟩) hP (hD _) hS hl dX3_blackIn_73 0 3 rfl rfl rfl rfl (Nat.le_of_ble_eq_true rfl) rfl rfl (fun H locs hP hS => ?_)
        refine lv_istore (lv' := [(5, .int r_21), (0, .ref (ar 0)), (3, .int x3_18), (4, .int x4_19)]) hx hb dX3_blackIn_76 hl (by decide) rfl (fun ls hl => ?_)
        refine lv_iload hx hb dX3_blackIn_78 (lv_at hl 0 rfl) ?_
        refine lv_iload_n hx hb dX3_blackIn_80 rfl (lv_at hl 2 rfl) ?_
        refine lv_icmp_ne (tgt := 87) hx hb dX3_blackIn_81 (by decide) (fun c_23 => ?_) (fun c_23 => ?_)
        · replace hf := ite_n c_23 hf
          refine lv_iload hx hb dX3_blackIn_87 (lv_at hl 0 rfl) ?_
          refine lv_istore_n (lv' := [(3, .int r_21), (5, .int r_21), (0, .ref (ar 0)), (4, .int x4_19)]) hx hb dX3_blackIn_89 rfl hl (by decide) rfl (fun ls hl => ?_)
          obtain ⟨x4_24, e_x4_24⟩ : ∃ y : Int32, y = x4_19 + (1 : Int32) := ⟨_, rfl⟩
          replace hf := nm_y hf e_x4_24
          refine lv_iinc (v := x4_24) (lv' := [(4, .int x4_24), (3, .int r_21), (5, .int r_21), (0, .ref (ar 0))]) hx hb dX3_blackIn_90 hl (k := 3) rfl (by rw [e_x4_24]; rfl) (by decide) rfl (fun ls hl => ?_)
          refine lv_goto (tgt := 62) hx hb dX3_blackIn_93 (by decide) ?_
          exact ih r_21 x4_24 _ _ _ hf hP hS (lv_sub hl [3, 1, 0] rfl)
        · replace hf := ite_p c_23 hf
          refine lv_goto (tgt := 96) hx hb dX3_blackIn_84 (by decide) ?_
          refine lv_iload_n hx hb dX3_blackIn_96 rfl (lv_at hl 2 rfl) ?_
          obtain rfl := Option.some.inj hf
          exact kt_iret C0 hP hS dX3_blackIn_97
  unfold f_X3_blackIn at hf
  refine lv_aload_n hx hb dX3_blackIn_0 rfl (lv_at hl 0 rfl) ?_
  refine lv_iload_n hx hb dX3_blackIn_1 rfl (lv_at hl 1 rfl) ?_
  obtain ⟨r_1, hg_2, hf⟩ := bd_of hf
  refine kt_V0 (As := [.int x1]) (rest := []) (st1 := [.int r_1]) (b := ar 0) C0 (c_X3_mourningIn l γ ar hg_2) (cxV (nA := 1) hts goodU U431 U433 U5 U85 U434 (by decide +kernel) ⟨Nat.le_of_ble_eq_true rfl, Nat.le_of_ble_eq_true rfl⟩) hP (hD _) hS hl dX3_blackIn_2 0 3 rfl rfl rfl rfl (Nat.le_of_ble_eq_true rfl) rfl rfl (fun H locs hP hS => ?_)
  refine lv_istore_n (lv' := [(2, .int r_1), (0, .ref (ar 0)), (1, .int x1)]) hx hb dX3_blackIn_5 rfl hl (by decide) rfl (fun ls hl => ?_)
  refine lv_iload_n hx hb dX3_blackIn_6 rfl (lv_at hl 0 rfl) ?_
  refine lv_istore_n (lv' := [(3, .int r_1), (2, .int r_1), (0, .ref (ar 0)), (1, .int x1)]) hx hb dX3_blackIn_7 rfl hl (by decide) rfl (fun ls hl => ?_)
  refine lv_iconst (v := 0) hx hb dX3_blackIn_8 (by decide) ?_
  refine lv_istore (lv' := [(4, .int (0 : Int32)), (3, .int r_1), (2, .int r_1), (0, .ref (ar 0)), (1, .int x1)]) hx hb dX3_blackIn_9 hl (by decide) rfl (fun ls hl => ?_)
  refine L11 r_1 _ (fun x3_17 H locs ls hf hP hS hl => ?_) FU r_1 (0 : Int32) _ _ _ hf hP hS (lv_sub hl [3, 2, 1, 0] rfl)
  refine lv_iconst (v := 0) hx hb dX3_blackIn_59 (by decide) ?_
  refine lv_istore (lv' := [(4, .int (0 : Int32)), (0, .ref (ar 0)), (3, .int x3_17)]) hx hb dX3_blackIn_60 hl (by decide) rfl (fun ls hl => ?_)
  exact L62 FU x3_17 (0 : Int32) _ _ _ hf hP hS (lv_sub hl [1, 2, 0] rfl)
set_option maxHeartbeats 4000000 in
set_option maxRecDepth 100000 in
theorem c_X3_milkOf (l : Launch) (γ : Gm) (ar : Nat → Nat) {sr : GS} {x1 : Int32} {x2 : Int32} {rv : Int32} (hf : f_X3_milkOf sr x1 x2 = some rv) : Kt l γ yX3_milkOf (Cond.code yX3_milkOf cX3_milkOf 3 (some .int) :: U) 0 0 [.ref (ar 0), .int x1, .int x2] (wR γ ar sr) (some (.int rv)) (wR γ ar sr) := by
  refine Kt.of (by decide) rfl (Nat.le_of_ble_eq_true rfl) rfl ?_
  intro p e s m below meth c A ls C0 hP hD0 hS hl
  obtain ⟨hx, hb, hml, hown, hts, hr, hlocks, hK, hE, hA⟩ := id C0
  have hU : ∀ w ∈ U, w.before _ s = true := fun w h => hts w (List.mem_cons_of_mem _ h)
  have hD : ∀ (sr : GS), va_D A (wR γ ar sr) := fun _ => hD0.fst rfl
  have hl : lv_has ls 3 [(0, .ref (ar 0)), (1, .int x1), (2, .int x2)] := hl
  unfold f_X3_milkOf at hf
  refine lv_aload_n hx hb dX3_milkOf_0 rfl (lv_at hl 0 rfl) ?_
  refine va_get (D := γ.1) (ci := 3) (v := .ref (ar 16)) (C := RX3) (T := TX3) (N := 18) hx hb hU uin3 hown hK hP 0 rfl rfl 15 (by decide) (hU _ U149) (fun _ h9 => h9) rfl dX3_milkOf_1 ?_
  refine lv_iload_n hx hb dX3_milkOf_4 rfl (lv_at hl 1 rfl) ?_
  obtain ⟨g_1, hf⟩ := gd_of hf
  refine va_iald hx hb hK hP 12 0 rfl rfl (inB_vp g_1) dX3_milkOf_5 ?_
  refine lv_iload_n hx hb dX3_milkOf_6 rfl (lv_at hl 2 rfl) ?_
  refine lv_iand hx hb dX3_milkOf_7 ?_
  refine lv_if_ne (tgt := 20) hx hb dX3_milkOf_8 (by decide) (fun c_2 => ?_) (fun c_2 => ?_)
  · replace hf := ite_n c_2 hf
    refine lv_iconst (v := 0) hx hb dX3_milkOf_20 (by decide) ?_
    obtain rfl := Option.some.inj hf
    exact kt_iret C0 hP hS dX3_milkOf_21
  · replace hf := ite_p c_2 hf
    refine lv_aload_n hx hb dX3_milkOf_11 rfl (lv_at hl 0 rfl) ?_
    refine va_get (D := γ.1) (ci := 3) (v := .ref (ar 15)) (C := RX3) (T := TX3) (N := 18) hx hb hU uin3 hown hK hP 0 rfl rfl 14 (by decide) (hU _ U147) (fun _ h9 => h9) rfl dX3_milkOf_12 ?_
    refine lv_iload_n hx hb dX3_milkOf_15 rfl (lv_at hl 1 rfl) ?_
    obtain ⟨g_3, hf⟩ := gd_of hf
    refine va_iald hx hb hK hP 11 0 rfl rfl (inB_vp g_3) dX3_milkOf_16 ?_
    refine lv_goto (tgt := 21) hx hb dX3_milkOf_17 (by decide) ?_
    obtain rfl := Option.some.inj hf
    exact kt_iret C0 hP hS dX3_milkOf_21
set_option maxHeartbeats 4000000 in
set_option maxRecDepth 100000 in
theorem c_X3_milkOfAll (l : Launch) (γ : Gm) (ar : Nat → Nat) {sr : GS} {x1 : Int32} {rv : Int32} (hf : f_X3_milkOfAll sr x1 = some rv) : Kt l γ yX3_milkOfAll (Cond.code yX3_milkOfAll cX3_milkOfAll 4 (some .int) :: U) 1 22 [.ref (ar 0), .int x1] (wR γ ar sr) (some (.int rv)) (wR γ ar sr) := by
  refine Kt.of (by decide) rfl (Nat.le_of_ble_eq_true rfl) rfl ?_
  intro p e s m below meth c A ls C0 hP hD0 hS hl
  obtain ⟨hx, hb, hml, hown, hts, hr, hlocks, hK, hE, hA⟩ := id C0
  have hU : ∀ w ∈ U, w.before _ s = true := fun w h => hts w (List.mem_cons_of_mem _ h)
  have hD : ∀ (sr : GS), va_D A (wR γ ar sr) := fun _ => hD0.fst rfl
  have hl : lv_has ls 4 [(0, .ref (ar 0)), (1, .int x1)] := hl
  have L4 : ∀ (x1_1 : Int32) (n : Nat) (x2_2 : Int32) (x3_3 : Int32) (H : Heap) (locs : List Loc) (ls : Array Slot), f_X3_milkOfAll_L4 sr x1_1 n x2_2 x3_3 = some rv → va_P γ.1 vwCl (wR γ ar sr) H → va_S A s.heap H locs → lv_has ls 4 [(0, .ref (ar 0)), (1, .int x1_1), (2, .int x2_2), (3, .int x3_3)] → W p l e (rmK 1 22) s m ([.ref (ar 0), .int x1] : List Value).toArray below meth c H locs 0 0 (MQ below (KQ γ A (some (.int rv)) (wR γ ar sr)) ([.ref (ar 0), .int x1] : List Value).toArray s 0 0 A) (F0 m 4 ls []) := by
    intro x1_1
    intro n
    induction n with
    | zero =>
      intro x2_2 x3_3 H locs ls hf
      have hf : none = some _ := hf
      cases hf
    | succ n ih =>
      intro x2_2 x3_3 H locs ls hf hP hS hl
      rw [f_X3_milkOfAll_L4.eq_2] at hf
      refine lv_iload_n hx hb dX3_milkOfAll_4 rfl (lv_at hl 3 rfl) ?_
      refine lv_aload_n hx hb dX3_milkOfAll_5 rfl (lv_at hl 0 rfl) ?_
      refine va_get (D := γ.1) (ci := 3) (v := .int (sr 0 13)) (C := RX3) (T := TX3) (N := 18) hx hb hU uin3 hown hK hP 0 rfl rfl 13 (by decide) (hU _ U143) (fun _ h9 => h9) rfl dX3_milkOfAll_6 ?_
      refine lv_icmp_ge (tgt := 27) hx hb dX3_milkOfAll_9 (by decide) (fun c_4 => ?_) (fun c_4 => ?_)
      · replace hf := ite_p c_4 hf
        refine lv_iload_n hx hb dX3_milkOfAll_27 rfl (lv_at hl 2 rfl) ?_
        obtain rfl := Option.some.inj hf
        exact kt_iret C0 hP hS dX3_milkOfAll_28
      · replace hf := ite_n c_4 hf
        refine lv_iload_n hx hb dX3_milkOfAll_12 rfl (lv_at hl 2 rfl) ?_
        refine lv_aload_n hx hb dX3_milkOfAll_13 rfl (lv_at hl 0 rfl) ?_
        refine lv_iload_n hx hb dX3_milkOfAll_14 rfl (lv_at hl 3 rfl) ?_
        refine lv_iload_n hx hb dX3_milkOfAll_15 rfl (lv_at hl 1 rfl) ?_
        obtain ⟨r_5, hg_6, hf⟩ := bd_of hf
        refine kt_V0 (As := [.int x3_3, .int x1_1]) (rest := [.int x2_2]) (st1 := [.int r_5, .int x2_2]) (b := ar 0) C0 (c_X3_milkOf l γ ar hg_6) (cxV (nA := 2) hts goodU U727 U542 U543 U85 U544 (by decide +kernel) ⟨Nat.le_of_ble_eq_true rfl, Nat.le_of_ble_eq_true rfl⟩) hP (hD _) hS hl dX3_milkOfAll_16 0 3 rfl rfl rfl rfl (Nat.le_of_ble_eq_true rfl) rfl rfl (fun H locs hP hS => ?_)
        refine lv_iadd hx hb dX3_milkOfAll_19 ?_
        refine lv_topi (fun u_7 e_u_7 => ?_)
        replace hf := nm_y hf e_u_7
        refine lv_istore_n (lv' := [(2, .int u_7), (0, .ref (ar 0)), (1, .int x1_1), (3, .int x3_3)]) hx hb dX3_milkOfAll_20 rfl hl (by decide) rfl (fun ls hl => ?_)
        obtain ⟨x3_8, e_x3_8⟩ : ∃ y : Int32, y = x3_3 + (1 : Int32) := ⟨_, rfl⟩
        replace hf := nm_y hf e_x3_8
        refine lv_iinc (v := x3_8) (lv' := [(3, .int x3_8), (2, .int u_7), (0, .ref (ar 0)), (1, .int x1_1)]) hx hb dX3_milkOfAll_21 hl (k := 3) rfl (by rw [e_x3_8]; rfl) (by decide) rfl (fun ls hl => ?_)
        refine lv_goto (tgt := 4) hx hb dX3_milkOfAll_24 (by decide) ?_
        exact ih u_7 x3_8 _ _ _ hf hP hS (lv_sub hl [2, 3, 1, 0] rfl)
  unfold f_X3_milkOfAll at hf
  refine lv_iconst (v := 0) hx hb dX3_milkOfAll_0 (by decide) ?_
  refine lv_istore_n (lv' := [(2, .int (0 : Int32)), (0, .ref (ar 0)), (1, .int x1)]) hx hb dX3_milkOfAll_1 rfl hl (by decide) rfl (fun ls hl => ?_)
  refine lv_iconst (v := 0) hx hb dX3_milkOfAll_2 (by decide) ?_
  refine lv_istore_n (lv' := [(3, .int (0 : Int32)), (2, .int (0 : Int32)), (0, .ref (ar 0)), (1, .int x1)]) hx hb dX3_milkOfAll_3 rfl hl (by decide) rfl (fun ls hl => ?_)
  exact L4 x1 FU (0 : Int32) (0 : Int32) _ _ _ hf hP hS (lv_sub hl [2, 3, 1, 0] rfl)
set_option maxHeartbeats 4000000 in
set_option maxRecDepth 100000 in
theorem c_X3_draw (l : Launch) (γ : Gm) (ar : Nat → Nat) {sr : GS} {x1 : Int32} {rv : Int32} {sr_z : GS} (hf : f_X3_draw sr x1 = some (rv, sr_z)) : Kt l γ yX3_draw (Cond.code yX3_draw cX3_draw 2 (some .int) :: U) 0 0 [.ref (ar 0), .int x1] (wR γ ar sr) (some (.int rv)) (wR γ ar sr_z) := by
  refine Kt.of (by decide) rfl (Nat.le_of_ble_eq_true rfl) rfl ?_
  intro p e s m below meth c A ls C0 hP hD0 hS hl
  obtain ⟨hx, hb, hml, hown, hts, hr, hlocks, hK, hE, hA⟩ := id C0
  have hU : ∀ w ∈ U, w.before _ s = true := fun w h => hts w (List.mem_cons_of_mem _ h)
  have hD : ∀ (sr : GS), va_D A (wR γ ar sr) := fun _ => hD0.fst rfl
  have hl : lv_has ls 2 [(0, .ref (ar 0)), (1, .int x1)] := hl
  unfold f_X3_draw at hf
  refine lv_aload_n hx hb dX3_draw_0 rfl (lv_at hl 0 rfl) ?_
  refine lv_aload_n hx hb dX3_draw_1 rfl (lv_at hl 0 rfl) ?_
  refine va_get (D := γ.1) (ci := 3) (v := .int (sr 0 17)) (C := RX3) (T := TX3) (N := 18) hx hb hU uin3 hown hK hP 0 rfl rfl 17 (by decide) (hU _ U156) (fun _ h9 => h9) rfl dX3_draw_2 ?_
  refine lv_ldc hx hb hown (hU _ U906) dX3_draw_5 ?_
  refine lv_imul hx hb dX3_draw_7 ?_
  refine lv_sipush (v := 12345) hx hb dX3_draw_8 (by decide) ?_
  refine lv_iadd hx hb dX3_draw_11 ?_
  refine lv_topi (fun u_1 e_u_1 => ?_)
  replace hf := nm_y hf e_u_1
  refine va_put (D := γ.1) (ci := 3) (v := .int u_1) (ty := .int) (C := RX3) (T := TX3) (N := 18) hx hb hU uin3 tyX3 tyX3_ok nmX3 hown hK hP (hD _) hS 0 rfl rfl 17 (by decide) (hU _ U156) (fun _ h9 => h9) rfl (by decide +kernel) rfl rfl (Nat.le_of_ble_eq_true rfl) dX3_draw_12 (fun H locs hP _ hS => ?_)
  obtain ⟨sr_2, e_sr_2, hf⟩ := nm_of hf
  replace hP : va_P γ.1 vwCl (wR γ ar sr_2) H := by rw [e_sr_2]; exact hP
  refine lv_iload_n hx hb dX3_draw_15 rfl (lv_at hl 1 rfl) ?_
  refine lv_if_le (tgt := 31) hx hb dX3_draw_16 (by decide) (fun c_3 => ?_) (fun c_3 => ?_)
  · replace hf := ite_p c_3 hf
    refine lv_iconst (v := 0) hx hb dX3_draw_31 (by decide) ?_
    obtain ⟨rfl, rfl⟩ := rt2 hf
    exact kt_iret C0 hP hS dX3_draw_32
  · replace hf := ite_n c_3 hf
    refine lv_aload_n hx hb dX3_draw_19 rfl (lv_at hl 0 rfl) ?_
    refine va_get (D := γ.1) (ci := 3) (v := .int (sr_2 0 17)) (C := RX3) (T := TX3) (N := 18) hx hb hU uin3 hown hK hP 0 rfl rfl 17 (by decide) (hU _ U156) (fun _ h9 => h9) rfl dX3_draw_20 ?_
    refine lv_bipush (v := 16) hx hb dX3_draw_23 (by decide) ?_
    refine lv_iushr hx hb dX3_draw_25 rfl ?_
    refine lv_iload_n hx hb dX3_draw_26 rfl (lv_at hl 1 rfl) ?_
    obtain ⟨g_4, hf⟩ := gd_of hf
    refine lv_irem hx hb dX3_draw_27 (neB_of g_4) ?_
    refine lv_goto (tgt := 32) hx hb dX3_draw_28 (by decide) ?_
    obtain ⟨rfl, rfl⟩ := rt2 hf
    exact kt_iret C0 hP hS dX3_draw_32
set_option maxHeartbeats 4000000 in
set_option maxRecDepth 100000 in
theorem c_X3_standingAt (l : Launch) (γ : Gm) (ar : Nat → Nat) {sr : GS} {x1 : Int32} {rv : Int32} (hf : f_X3_standingAt sr x1 = some rv) : Kt l γ yX3_standingAt (Cond.code yX3_standingAt cX3_standingAt 4 (some .int) :: U) 2 42 [.ref (ar 0), .int x1] (wR γ ar sr) (some (.int rv)) (wR γ ar sr) := by
  refine Kt.of (by decide) rfl (Nat.le_of_ble_eq_true rfl) rfl ?_
  intro p e s m below meth c A ls C0 hP hD0 hS hl
  obtain ⟨hx, hb, hml, hown, hts, hr, hlocks, hK, hE, hA⟩ := id C0
  have hU : ∀ w ∈ U, w.before _ s = true := fun w h => hts w (List.mem_cons_of_mem _ h)
  have hD : ∀ (sr : GS), va_D A (wR γ ar sr) := fun _ => hD0.fst rfl
  have hl : lv_has ls 4 [(0, .ref (ar 0)), (1, .int x1)] := hl
  have L4 : ∀ (x1_1 : Int32) (n : Nat) (x2_2 : Int32) (x3_3 : Int32) (H : Heap) (locs : List Loc) (ls : Array Slot), f_X3_standingAt_L4 sr x1_1 n x2_2 x3_3 = some rv → va_P γ.1 vwCl (wR γ ar sr) H → va_S A s.heap H locs → lv_has ls 4 [(0, .ref (ar 0)), (1, .int x1_1), (2, .int x2_2), (3, .int x3_3)] → W p l e (rmK 2 42) s m ([.ref (ar 0), .int x1] : List Value).toArray below meth c H locs 0 0 (MQ below (KQ γ A (some (.int rv)) (wR γ ar sr)) ([.ref (ar 0), .int x1] : List Value).toArray s 0 0 A) (F0 m 4 ls []) := by
    intro x1_1
    intro n
    induction n with
    | zero =>
      intro x2_2 x3_3 H locs ls hf
      have hf : none = some _ := hf
      cases hf
    | succ n ih =>
      intro x2_2 x3_3 H locs ls hf hP hS hl
      rw [f_X3_standingAt_L4.eq_2] at hf
      refine lv_iload_n hx hb dX3_standingAt_4 rfl (lv_at hl 3 rfl) ?_
      refine lv_aload_n hx hb dX3_standingAt_5 rfl (lv_at hl 0 rfl) ?_
      refine va_get (D := γ.1) (ci := 3) (v := .int (sr 0 0)) (C := RX3) (T := TX3) (N := 18) hx hb hU uin3 hown hK hP 0 rfl rfl 0 (by decide) (hU _ U113) (fun _ h9 => h9) rfl dX3_standingAt_6 ?_
      refine lv_icmp_ge (tgt := 36) hx hb dX3_standingAt_9 (by decide) (fun c_4 => ?_) (fun c_4 => ?_)
      · replace hf := ite_p c_4 hf
        refine lv_iconst (v := -1) hx hb dX3_standingAt_36 (by decide) ?_
        obtain rfl := Option.some.inj hf
        exact kt_iret C0 hP hS dX3_standingAt_37
      · replace hf := ite_n c_4 hf
        refine lv_aload_n hx hb dX3_standingAt_12 rfl (lv_at hl 0 rfl) ?_
        refine lv_iload_n hx hb dX3_standingAt_13 rfl (lv_at hl 3 rfl) ?_
        obtain ⟨r_5, hg_6, hf⟩ := bd_of hf
        refine kt_V0 (As := [.int x3_3]) (rest := []) (st1 := [.int r_5]) (b := ar 0) C0 (c_X3_isStanding l γ ar hg_6) (cxV (nA := 1) hts goodU U435 U436 U437 U85 U438 (by decide +kernel) ⟨Nat.le_of_ble_eq_true rfl, Nat.le_of_ble_eq_true rfl⟩) hP (hD _) hS hl dX3_standingAt_14 0 3 rfl rfl rfl rfl (Nat.le_of_ble_eq_true rfl) rfl rfl (fun H locs hP hS => ?_)
        refine lv_if_eq (tgt := 30) hx hb dX3_standingAt_17 (by decide) (fun c_7 => ?_) (fun c_7 => ?_)
        · replace hf := ite_p c_7 hf
          obtain ⟨x3_8, e_x3_8⟩ : ∃ y : Int32, y = x3_3 + (1 : Int32) := ⟨_, rfl⟩
          replace hf := nm_y hf e_x3_8
          refine lv_iinc (v := x3_8) (lv' := [(3, .int x3_8), (0, .ref (ar 0)), (1, .int x1_1), (2, .int x2_2)]) hx hb dX3_standingAt_30 hl (k := 3) rfl (by rw [e_x3_8]; rfl) (by decide) rfl (fun ls hl => ?_)
          refine lv_goto (tgt := 4) hx hb dX3_standingAt_33 (by decide) ?_
          exact ih x2_2 x3_8 _ _ _ hf hP hS (lv_sub hl [1, 2, 3, 0] rfl)
        · replace hf := ite_n c_7 hf
          refine lv_iload_n hx hb dX3_standingAt_20 rfl (lv_at hl 2 rfl) ?_
          refine lv_iload_n hx hb dX3_standingAt_21 rfl (lv_at hl 1 rfl) ?_
          refine lv_icmp_ne (tgt := 27) hx hb dX3_standingAt_22 (by decide) (fun c_9 => ?_) (fun c_9 => ?_)
          · replace hf := ite_n c_9 hf
            obtain ⟨x2_10, e_x2_10⟩ : ∃ y : Int32, y = x2_2 + (1 : Int32) := ⟨_, rfl⟩
            replace hf := nm_y hf e_x2_10
            refine lv_iinc (v := x2_10) (lv' := [(2, .int x2_10), (0, .ref (ar 0)), (1, .int x1_1), (3, .int x3_3)]) hx hb dX3_standingAt_27 hl (k := 2) rfl (by rw [e_x2_10]; rfl) (by decide) rfl (fun ls hl => ?_)
            obtain ⟨x3_11, e_x3_11⟩ : ∃ y : Int32, y = x3_3 + (1 : Int32) := ⟨_, rfl⟩
            replace hf := nm_y hf e_x3_11
            refine lv_iinc (v := x3_11) (lv' := [(3, .int x3_11), (2, .int x2_10), (0, .ref (ar 0)), (1, .int x1_1)]) hx hb dX3_standingAt_30 hl (k := 3) rfl (by rw [e_x3_11]; rfl) (by decide) rfl (fun ls hl => ?_)
            refine lv_goto (tgt := 4) hx hb dX3_standingAt_33 (by decide) ?_
            exact ih x2_10 x3_11 _ _ _ hf hP hS (lv_sub hl [2, 3, 1, 0] rfl)
          · replace hf := ite_p c_9 hf
            refine lv_iload_n hx hb dX3_standingAt_25 rfl (lv_at hl 3 rfl) ?_
            obtain rfl := Option.some.inj hf
            exact kt_iret C0 hP hS dX3_standingAt_26
  unfold f_X3_standingAt at hf
  refine lv_iconst (v := 0) hx hb dX3_standingAt_0 (by decide) ?_
  refine lv_istore_n (lv' := [(2, .int (0 : Int32)), (0, .ref (ar 0)), (1, .int x1)]) hx hb dX3_standingAt_1 rfl hl (by decide) rfl (fun ls hl => ?_)
  refine lv_iconst (v := 0) hx hb dX3_standingAt_2 (by decide) ?_
  refine lv_istore_n (lv' := [(3, .int (0 : Int32)), (2, .int (0 : Int32)), (0, .ref (ar 0)), (1, .int x1)]) hx hb dX3_standingAt_3 rfl hl (by decide) rfl (fun ls hl => ?_)
  exact L4 x1 FU (0 : Int32) (0 : Int32) _ _ _ hf hP hS (lv_sub hl [2, 3, 1, 0] rfl)
