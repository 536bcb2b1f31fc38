set_option maxHeartbeats 4000000 in
set_option maxRecDepth 100000 in
theorem c_X6_status (l : Launch) (γ : Gm) (a : Nat → Nat → Nat) {so : GS} {r0 : GS} {r1 : GS} {r2 : GS} {rw : Nat → GS} {re : Nat → Nat → Int64} {tn : Option Nat} {se : GS} {sv : GS} {sk : GS} {sd : GS} {x1 : Int32} {rv : Int32} (hf : f_X6_status so r0 sv x1 = some rv) : Kt l γ yX6_status (Cond.code yX6_status cX6_status 2 (some .int) :: U) 4 90 [.ref ((a 0) 0), .int x1] (wC γ a so r0 r1 r2 rw re tn se sv sk sd) (some (.int rv)) (wC γ a so r0 r1 r2 rw re tn se sv sk sd) := by
  refine Kt.of (by decide) rfl (Nat.le_of_ble_eq_true rfl) rfl ?_
  intro p e s m below meth c A ls C0 hP hD0 hS hl
  obtain ⟨hx, hb, hml, hown, hts, hr, hlocks, hK, hE, hA⟩ := id C0
  have hU : ∀ w ∈ U, w.before _ s = true := fun w h => hts w (List.mem_cons_of_mem _ h)
  have hD : ∀ (so : GS) (r0 : GS) (r1 : GS) (r2 : GS) (rw : Nat → GS) (re : Nat → Nat → Int64) (tn : Option Nat) (se : GS) (sv : GS) (sk : GS) (sd : GS), va_D A (wC γ a so r0 r1 r2 rw re tn se sv sk sd) := fun _ _ _ _ _ _ _ _ _ _ _ => hD0.fst rfl
  have hl : lv_has ls 2 [(0, .ref ((a 0) 0)), (1, .int x1)] := hl
  have J22 : ∀ (x1_2 : Int32) (H : Heap) (locs : List Loc) (ls : Array Slot), f_X6_status_J22 r0 sv x1_2 = some rv → va_P γ.1 vwCl (wC γ a so r0 r1 r2 rw re tn se sv sk sd) H → va_S A s.heap H locs → lv_has ls 2 [(0, .ref ((a 0) 0)), (1, .int x1_2)] → W p l e (rmK 4 90) s m ([.ref ((a 0) 0), .int x1] : List Value).toArray below meth c H locs 0 0 (MQ below (KQ γ A (some (.int rv)) (wC γ a so r0 r1 r2 rw re tn se sv sk sd)) ([.ref ((a 0) 0), .int x1] : List Value).toArray s 0 0 A) (F0 m 22 ls []) := by
    intro x1_2 H locs ls hf hP hS hl
    unfold f_X6_status_J22 at hf
    refine lv_iload_n hx hb dX6_status_22 rfl (lv_at hl 1 rfl) ?_
    by_cases c_3 : x1_2 = (0 : Int32)
    · replace hf := ite_p c_3 hf
      refine lv_tableIn (off := 45) (tgt := 68) hx hb dX6_status_23 (by rw [c_3]; decide) (by rw [c_3]; decide) (by rw [c_3]; rfl) (by decide) ?_
      refine lv_aload_n hx hb dX6_status_68 rfl (lv_at hl 0 rfl) ?_
      refine va_get (D := γ.1) (ci := 6) (v := .ref ((a 1) 0)) (C := RX6) (T := TX6) (N := 12) hx hb hU uin6 hown hK hP 0 rfl rfl 0 (by decide) (hU _ U299) (fun _ h9 => h9) rfl dX6_status_69 ?_
      refine va_getN (D := γ.1) (ci := 3) (v := .int (r0 0 0)) (C := RX3) (T := TX3) (N := 18) hx hb hU uin3 hown hK hP 4 rfl rfl 0 (by decide) (va_Nw.use rfl (hE.2.2.2.2.2.1 _ NW4)) (fun _ h9 => h9) rfl dX6_status_72 ?_
      obtain rfl := Option.some.inj hf
      exact kt_iret C0 hP hS dX6_status_75
    · replace hf := ite_n c_3 hf
      by_cases c_4 : x1_2 = (1 : Int32)
      · replace hf := ite_p c_4 hf
        refine lv_tableIn (off := 53) (tgt := 76) hx hb dX6_status_23 (by rw [c_4]; decide) (by rw [c_4]; decide) (by rw [c_4]; rfl) (by decide) ?_
        refine lv_aload_n hx hb dX6_status_76 rfl (lv_at hl 0 rfl) ?_
        refine va_get (D := γ.1) (ci := 6) (v := .ref ((a 1) 0)) (C := RX6) (T := TX6) (N := 12) hx hb hU uin6 hown hK hP 0 rfl rfl 0 (by decide) (hU _ U299) (fun _ h9 => h9) rfl dX6_status_77 ?_
        refine va_getN (D := γ.1) (ci := 3) (v := .int (r0 0 1)) (C := RX3) (T := TX3) (N := 18) hx hb hU uin3 hown hK hP 4 rfl rfl 1 (by decide) (va_Nw.use rfl (hE.2.2.2.2.2.1 _ NW6)) (fun _ h9 => h9) rfl dX6_status_80 ?_
        obtain ⟨r_5, hg_6, hf⟩ := bd_of hf
        refine kt_SF (As := [.int (r0 0 1)]) (rest := []) (st1 := [.int r_5]) (wc' := wC γ a so r0 r1 r2 rw re tn se sv sk sd) C0 (c_J6_bitCount_0f7a4 l γ hg_6) (cxS (nA := 1) hts goodU U765 U766 U98 U767 (by decide +kernel) ⟨Nat.le_of_ble_eq_true rfl, Nat.le_of_ble_eq_true rfl⟩) hP (hD _ _ _ _ _ _ _ _ _ _ _) hS hl dX6_status_83 foc_nil rfl (Nat.le_of_ble_eq_true rfl) rfl rfl (fun H locs hP hS => ?_)
        obtain rfl := Option.some.inj hf
        exact kt_iret C0 hP hS dX6_status_86
      · replace hf := ite_n c_4 hf
        by_cases c_7 : x1_2 = (2 : Int32)
        · replace hf := ite_p c_7 hf
          refine lv_tableIn (off := 64) (tgt := 87) hx hb dX6_status_23 (by rw [c_7]; decide) (by rw [c_7]; decide) (by rw [c_7]; rfl) (by decide) ?_
          refine lv_aload_n hx hb dX6_status_87 rfl (lv_at hl 0 rfl) ?_
          refine va_get (D := γ.1) (ci := 6) (v := .ref ((a 1) 0)) (C := RX6) (T := TX6) (N := 12) hx hb hU uin6 hown hK hP 0 rfl rfl 0 (by decide) (hU _ U299) (fun _ h9 => h9) rfl dX6_status_88 ?_
          refine va_getN (D := γ.1) (ci := 3) (v := .int (r0 0 10)) (C := RX3) (T := TX3) (N := 18) hx hb hU uin3 hown hK hP 4 rfl rfl 10 (by decide) (va_Nw.use rfl (hE.2.2.2.2.2.1 _ NW17)) (fun _ h9 => h9) rfl dX6_status_91 ?_
          obtain rfl := Option.some.inj hf
          exact kt_iret C0 hP hS dX6_status_94
        · replace hf := ite_n c_7 hf
          by_cases c_8 : x1_2 = (3 : Int32)
          · replace hf := ite_p c_8 hf
            refine lv_tableIn (off := 72) (tgt := 95) hx hb dX6_status_23 (by rw [c_8]; decide) (by rw [c_8]; decide) (by rw [c_8]; rfl) (by decide) ?_
            refine lv_aload_n hx hb dX6_status_95 rfl (lv_at hl 0 rfl) ?_
            refine va_get (D := γ.1) (ci := 6) (v := .ref ((a 1) 0)) (C := RX6) (T := TX6) (N := 12) hx hb hU uin6 hown hK hP 0 rfl rfl 0 (by decide) (hU _ U299) (fun _ h9 => h9) rfl dX6_status_96 ?_
            refine va_getN (D := γ.1) (ci := 3) (v := .int (r0 0 13)) (C := RX3) (T := TX3) (N := 18) hx hb hU uin3 hown hK hP 4 rfl rfl 13 (by decide) (va_Nw.use rfl (hE.2.2.2.2.2.1 _ NW20)) (fun _ h9 => h9) rfl dX6_status_99 ?_
            obtain rfl := Option.some.inj hf
            exact kt_iret C0 hP hS dX6_status_102
          · replace hf := ite_n c_8 hf
            by_cases c_9 : x1_2 = (4 : Int32)
            · replace hf := ite_p c_9 hf
              refine lv_tableIn (off := 80) (tgt := 103) hx hb dX6_status_23 (by rw [c_9]; decide) (by rw [c_9]; decide) (by rw [c_9]; rfl) (by decide) ?_
              refine lv_aload_n hx hb dX6_status_103 rfl (lv_at hl 0 rfl) ?_
              refine va_get (D := γ.1) (ci := 6) (v := .ref ((a 1) 0)) (C := RX6) (T := TX6) (N := 12) hx hb hU uin6 hown hK hP 0 rfl rfl 0 (by decide) (hU _ U299) (fun _ h9 => h9) rfl dX6_status_104 ?_
              refine va_getN (D := γ.1) (ci := 3) (v := .int (r0 0 16)) (C := RX3) (T := TX3) (N := 18) hx hb hU uin3 hown hK hP 4 rfl rfl 16 (by decide) (va_Nw.use rfl (hE.2.2.2.2.2.1 _ NW25)) (fun _ h9 => h9) rfl dX6_status_107 ?_
              obtain rfl := Option.some.inj hf
              exact kt_iret C0 hP hS dX6_status_110
            · replace hf := ite_n c_9 hf
              by_cases c_10 : x1_2 = (5 : Int32)
              · replace hf := ite_p c_10 hf
                refine lv_tableIn (off := 88) (tgt := 111) hx hb dX6_status_23 (by rw [c_10]; decide) (by rw [c_10]; decide) (by rw [c_10]; rfl) (by decide) ?_
                refine lv_aload_n hx hb dX6_status_111 rfl (lv_at hl 0 rfl) ?_
                refine va_get (D := γ.1) (ci := 6) (v := .ref ((a 1) 0)) (C := RX6) (T := TX6) (N := 12) hx hb hU uin6 hown hK hP 0 rfl rfl 0 (by decide) (hU _ U299) (fun _ h9 => h9) rfl dX6_status_112 ?_
                refine lv_aload_n hx hb dX6_status_115 rfl (lv_at hl 0 rfl) ?_
                refine va_get (D := γ.1) (ci := 6) (v := .ref ((a 1) 0)) (C := RX6) (T := TX6) (N := 12) hx hb hU uin6 hown hK hP 0 rfl rfl 0 (by decide) (hU _ U299) (fun _ h9 => h9) rfl dX6_status_116 ?_
                refine va_getN (D := γ.1) (ci := 3) (v := .int (r0 0 16)) (C := RX3) (T := TX3) (N := 18) hx hb hU uin3 hown hK hP 4 rfl rfl 16 (by decide) (va_Nw.use rfl (hE.2.2.2.2.2.1 _ NW25)) (fun _ h9 => h9) rfl dX6_status_119 ?_
                obtain ⟨r_11, hg_12, hf⟩ := bd_of hf
                refine kt_VF (As := [.int (r0 0 16)]) (rest := []) (st1 := [.int r_11]) (b := (a 1) 0) (wc' := wC γ a so r0 r1 r2 rw re tn se sv sk sd) C0 (c_X3_blackIn l γ (a 1) hg_12) (cxV (nA := 1) hts goodU U427 U428 U429 U85 U430 (by decide +kernel) ⟨Nat.le_of_ble_eq_true rfl, Nat.le_of_ble_eq_true rfl⟩) hP (hD _ _ _ _ _ _ _ _ _ _ _) hS hl dX6_status_122 (foc_ro (foc_r0 γ a _ _ _ _ _ _ _ _ _ _ _ (fun _ _ => 0))) 0 3 rfl rfl rfl rfl (Nat.le_of_ble_eq_true rfl) rfl rfl (fun H locs hP hS => ?_)
                obtain ⟨r_13, hg_14, hf⟩ := bd_of hf
                refine kt_SF (As := [.int r_11]) (rest := []) (st1 := [.int r_13]) (wc' := wC γ a so r0 r1 r2 rw re tn se sv sk sd) C0 (c_J6_bitCount_0f7a4 l γ hg_14) (cxS (nA := 1) hts goodU U765 U766 U98 U767 (by decide +kernel) ⟨Nat.le_of_ble_eq_true rfl, Nat.le_of_ble_eq_true rfl⟩) hP (hD _ _ _ _ _ _ _ _ _ _ _) hS hl dX6_status_125 foc_nil rfl (Nat.le_of_ble_eq_true rfl) rfl rfl (fun H locs hP hS => ?_)
                obtain rfl := Option.some.inj hf
                exact kt_iret C0 hP hS dX6_status_128
              · replace hf := ite_n c_10 hf
                by_cases c_15 : x1_2 = (6 : Int32)
                · replace hf := ite_p c_15 hf
                  refine lv_tableIn (off := 106) (tgt := 129) hx hb dX6_status_23 (by rw [c_15]; decide) (by rw [c_15]; decide) (by rw [c_15]; rfl) (by decide) ?_
                  refine lv_aload_n hx hb dX6_status_129 rfl (lv_at hl 0 rfl) ?_
                  refine va_get (D := γ.1) (ci := 6) (v := .ref ((a 1) 0)) (C := RX6) (T := TX6) (N := 12) hx hb hU uin6 hown hK hP 0 rfl rfl 0 (by decide) (hU _ U299) (fun _ h9 => h9) rfl dX6_status_130 ?_
                  refine va_getN (D := γ.1) (ci := 3) (v := .int (r0 0 17)) (C := RX3) (T := TX3) (N := 18) hx hb hU uin3 hown hK hP 4 rfl rfl 17 (by decide) (va_Nw.use rfl (hE.2.2.2.2.2.1 _ NW27)) (fun _ h9 => h9) rfl dX6_status_133 ?_
                  obtain rfl := Option.some.inj hf
                  exact kt_iret C0 hP hS dX6_status_136
                · replace hf := ite_n c_15 hf
                  by_cases c_16 : x1_2 = (7 : Int32)
                  · replace hf := ite_p c_16 hf
                    refine lv_tableIn (off := 114) (tgt := 137) hx hb dX6_status_23 (by rw [c_16]; decide) (by rw [c_16]; decide) (by rw [c_16]; rfl) (by decide) ?_
                    refine lv_aload_n hx hb dX6_status_137 rfl (lv_at hl 0 rfl) ?_
                    refine va_get (D := γ.1) (ci := 6) (v := .ref ((a 5) 0)) (C := RX6) (T := TX6) (N := 12) hx hb hU uin6 hown hK hP 0 rfl rfl 9 (by decide) (hU _ U308) (fun _ h9 => h9) rfl dX6_status_138 ?_
                    refine va_getN (D := γ.1) (ci := 1) (v := .int (sv 0 0)) (C := RX1) (T := TX1) (N := 5) hx hb hU uin1 hown hK hP 45 rfl rfl 0 (by decide) (va_Nw.use rfl (hE.2.2.2.2.2.1 _ NW31)) (fun _ h9 => h9) rfl dX6_status_141 ?_
                    obtain rfl := Option.some.inj hf
                    exact kt_iret C0 hP hS dX6_status_144
                  · replace hf := ite_n c_16 hf
                    refine lv_tableOut (tgt := 145) hx hb dX6_status_23 (by have := lv_neT c_3 (a := 0) (by decide); have := lv_neT c_4 (a := 1) (by decide); have := lv_neT c_7 (a := 2) (by decide); have := lv_neT c_8 (a := 3) (by decide); have := lv_neT c_9 (a := 4) (by decide); have := lv_neT c_10 (a := 5) (by decide); have := lv_neT c_15 (a := 6) (by decide); have := lv_neT c_16 (a := 7) (by decide); omega) (by decide) ?_
                    refine lv_iconst (v := -1) hx hb dX6_status_145 (by decide) ?_
                    obtain rfl := Option.some.inj hf
                    exact kt_iret C0 hP hS dX6_status_146
  unfold f_X6_status at hf
  refine lv_iload_n hx hb dX6_status_0 rfl (lv_at hl 1 rfl) ?_
  refine lv_bipush (v := 10) hx hb dX6_status_1 (by decide) ?_
  refine lv_icmp_le (tgt := 22) hx hb dX6_status_3 (by decide) (fun c_1 => ?_) (fun c_1 => ?_)
  · replace hf := ite_p c_1 hf
    exact J22 x1 _ _ _ hf hP hS (lv_sub hl [0, 1] rfl)
  · replace hf := ite_n c_1 hf
    refine lv_iload_n hx hb dX6_status_6 rfl (lv_at hl 1 rfl) ?_
    refine lv_bipush (v := 18) hx hb dX6_status_7 (by decide) ?_
    refine lv_icmp_ge (tgt := 22) hx hb dX6_status_9 (by decide) (fun c_17 => ?_) (fun c_17 => ?_)
    · replace hf := ite_p c_17 hf
      exact J22 x1 _ _ _ hf hP hS (lv_sub hl [0, 1] rfl)
    · replace hf := ite_n c_17 hf
      refine lv_aload_n hx hb dX6_status_12 rfl (lv_at hl 0 rfl) ?_
      refine va_get (D := γ.1) (ci := 6) (v := .ref ((a 0) 7)) (C := RX6) (T := TX6) (N := 12) hx hb hU uin6 hown hK hP 0 rfl rfl 6 (by decide) (hU _ U305) (fun _ h9 => h9) rfl dX6_status_13 ?_
      refine lv_iload_n hx hb dX6_status_16 rfl (lv_at hl 1 rfl) ?_
      refine lv_bipush (v := 10) hx hb dX6_status_17 (by decide) ?_
      refine lv_isub hx hb dX6_status_19 ?_
      obtain ⟨g_18, hf⟩ := gd_of hf
      refine va_iald hx hb hK hP 3 0 rfl rfl (inB_vp g_18) dX6_status_20 ?_
      obtain rfl := Option.some.inj hf
      exact kt_iret C0 hP hS dX6_status_21
