set_option maxHeartbeats 4000000 in
set_option maxRecDepth 100000 in
theorem c_X7_item (l : Launch) (γ : Gm) (am : Nat → Nat) {sm : GS} {sq : Nat → Int64} {rv : Int32} {sm_z : GS} (hf : f_X7_item sm sq = some (rv, sm_z)) : Kt l γ yX7_item (Cond.code yX7_item cX7_item 2 (some .boolean) :: U) 7 167 [.ref (am 0)] (wM γ am sm sq) (some (.int rv)) (wM γ am sm_z sq) := by
  refine Kt.of (by decide) rfl (Nat.le_of_ble_eq_true rfl) rfl ?_
  intro p e s m below meth c A ls C0 hP hD0 hS hl
  obtain ⟨hx, hb, hml, hown, hts, hr, hlocks, hK, hE, hA⟩ := id C0
  have hU : ∀ w ∈ U, w.before _ s = true := fun w h => hts w (List.mem_cons_of_mem _ h)
  have hD : ∀ (sm : GS) (sq : Nat → Int64), va_D A (wM γ am sm sq) := fun _ _ => hD0.fst rfl
  have hl : lv_has ls 2 [(0, .ref (am 0))] := hl
  have J145 : ∀ (sm_27 : GS) (t1_28 : Int32) (t2_29 : Int32) (H : Heap) (locs : List Loc) (ls : Array Slot), f_X7_item_J145 sq sm_27 t1_28 t2_29 = some (rv, sm_z) → va_P γ.1 vwCl (wM γ am sm_27 sq) H → va_S A s.heap H locs → lv_has ls 2 [(0, .ref (am 0))] → W p l e (rmK 7 167) s m ([.ref (am 0)] : List Value).toArray below meth c H locs 0 0 (MQ below (KQ γ A (some (.int rv)) (wM γ am sm_z sq)) ([.ref (am 0)] : List Value).toArray s 0 0 A) (F0 m 145 ls [.int t2_29, .int t1_28, .ref (am 0)]) := by
    intro sm_27 t1_28 t2_29 H locs ls hf hP hS hl
    unfold f_X7_item_J145 at hf
    obtain ⟨r_30, sm_31, hg_32, hf⟩ := bd2_of hf
    refine kt_V0 (As := [.int t1_28, .int t2_29]) (rest := []) (st1 := [.int r_30]) (b := am 0) C0 (c_X7_stands l γ am hg_32) (cxV (nA := 2) hts goodU U1259 U1261 U56 U91 U1262 (by decide +kernel) ⟨Nat.le_of_ble_eq_true rfl, Nat.le_of_ble_eq_true rfl⟩) hP (hD _ _) hS hl dX7_item_145 0 7 rfl rfl rfl rfl (Nat.le_of_ble_eq_true rfl) rfl rfl (fun H locs hP hS => ?_)
    refine lv_if_eq (tgt := 163) hx hb dX7_item_148 (by decide) (fun c_33 => ?_) (fun c_33 => ?_)
    · replace hf := ite_p c_33 hf
      refine lv_iconst (v := 0) hx hb dX7_item_163 (by decide) ?_
      obtain ⟨rfl, rfl⟩ := rt2 hf
      exact kt_zret C0 (by decide) hP hS dX7_item_164
    · replace hf := ite_n c_33 hf
      refine lv_aload_n hx hb dX7_item_151 rfl (lv_at hl 0 rfl) ?_
      refine lv_iconst (v := 3) hx hb dX7_item_152 (by decide) ?_
      refine lv_iconst (v := 1) hx hb dX7_item_153 (by decide) ?_
      refine lv_sipush (v := 999) hx hb dX7_item_154 (by decide) ?_
      obtain ⟨r_34, sm_35, hg_36, hf⟩ := bd2_of hf
      refine kt_V0 (As := [.int (3 : Int32), .int (1 : Int32), .int (999 : Int32)]) (rest := []) (st1 := [.int r_34]) (b := am 0) C0 (c_X7_number l γ am hg_36) (cxV (nA := 3) hts goodU U1255 U1257 U55 U91 U1258 (by decide +kernel) ⟨Nat.le_of_ble_eq_true rfl, Nat.le_of_ble_eq_true rfl⟩) hP (hD _ _) hS hl dX7_item_157 0 7 rfl rfl rfl rfl (Nat.le_of_ble_eq_true rfl) rfl rfl (fun H locs hP hS => ?_)
      refine lv_if_ne (tgt := 165) hx hb dX7_item_160 (by decide) (fun c_37 => ?_) (fun c_37 => ?_)
      · replace hf := ite_n c_37 hf
        refine lv_aload_n hx hb dX7_item_165 rfl (lv_at hl 0 rfl) ?_
        refine lv_aload_n hx hb dX7_item_166 rfl (lv_at hl 0 rfl) ?_
        refine va_get (D := γ.1) (ci := 7) (v := .ref (am 34)) (C := RX7) (T := TX7) (N := 35) hx hb hU uin7 hown hK hP 0 rfl rfl 33 (by decide) (hU _ U1002) (fun _ h9 => h9) rfl dX7_item_167 ?_
        refine lv_iconst (v := 0) hx hb dX7_item_170 (by decide) ?_
        refine va_iald hx hb hK hP 24 0 rfl rfl (inB_vp (n := 4) (by decide)) dX7_item_171 ?_
        refine lv_aload_n hx hb dX7_item_172 rfl (lv_at hl 0 rfl) ?_
        refine va_get (D := γ.1) (ci := 7) (v := .ref (am 34)) (C := RX7) (T := TX7) (N := 35) hx hb hU uin7 hown hK hP 0 rfl rfl 33 (by decide) (hU _ U1002) (fun _ h9 => h9) rfl dX7_item_173 ?_
        refine lv_iconst (v := 1) hx hb dX7_item_176 (by decide) ?_
        refine va_iald hx hb hK hP 24 0 rfl rfl (inB_vp (n := 4) (by decide)) dX7_item_177 ?_
        refine lv_aload_n hx hb dX7_item_178 rfl (lv_at hl 0 rfl) ?_
        refine va_get (D := γ.1) (ci := 7) (v := .ref (am 34)) (C := RX7) (T := TX7) (N := 35) hx hb hU uin7 hown hK hP 0 rfl rfl 33 (by decide) (hU _ U1002) (fun _ h9 => h9) rfl dX7_item_179 ?_
        refine lv_iconst (v := 2) hx hb dX7_item_182 (by decide) ?_
        refine va_iald hx hb hK hP 24 0 rfl rfl (inB_vp (n := 4) (by decide)) dX7_item_183 ?_
        refine lv_aload_n hx hb dX7_item_184 rfl (lv_at hl 0 rfl) ?_
        refine va_get (D := γ.1) (ci := 7) (v := .ref (am 34)) (C := RX7) (T := TX7) (N := 35) hx hb hU uin7 hown hK hP 0 rfl rfl 33 (by decide) (hU _ U1002) (fun _ h9 => h9) rfl dX7_item_185 ?_
        refine lv_iconst (v := 3) hx hb dX7_item_188 (by decide) ?_
        refine va_iald hx hb hK hP 24 0 rfl rfl (inB_vp (n := 4) (by decide)) dX7_item_189 ?_
        obtain ⟨r_38, sm_39, hg_40, hf⟩ := bd2_of hf
        refine kt_V0 (As := [.int (sm_35 34 (0 : Int32).toNatClampNeg), .int (sm_35 34 (1 : Int32).toNatClampNeg), .int (sm_35 34 (2 : Int32).toNatClampNeg), .int (sm_35 34 (3 : Int32).toNatClampNeg)]) (rest := []) (st1 := [.int r_38]) (b := am 0) C0 (c_X7_newPeak l γ am hg_40) (cxV (nA := 4) hts goodU U1166 U1168 U40 U91 U1169 (by decide +kernel) ⟨Nat.le_of_ble_eq_true rfl, Nat.le_of_ble_eq_true rfl⟩) hP (hD _ _) hS hl dX7_item_190 0 7 rfl rfl rfl rfl (Nat.le_of_ble_eq_true rfl) rfl rfl (fun H locs hP hS => ?_)
        refine lv_pop hx hb dX7_item_193 rfl ?_
        refine lv_iconst (v := 1) hx hb dX7_item_194 (by decide) ?_
        obtain ⟨rfl, rfl⟩ := rt2 hf
        exact kt_zret C0 (by decide) hP hS dX7_item_195
      · replace hf := ite_p c_37 hf
        refine lv_iconst (v := 0) hx hb dX7_item_163 (by decide) ?_
        obtain ⟨rfl, rfl⟩ := rt2 hf
        exact kt_zret C0 (by decide) hP hS dX7_item_164
  have J77 : ∀ (sm_5 : GS) (t2_6 : Int32) (H : Heap) (locs : List Loc) (ls : Array Slot), f_X7_item_J77 sq sm_5 t2_6 = some (rv, sm_z) → va_P γ.1 vwCl (wM γ am sm_5 sq) H → va_S A s.heap H locs → lv_has ls 2 [(0, .ref (am 0))] → W p l e (rmK 7 167) s m ([.ref (am 0)] : List Value).toArray below meth c H locs 0 0 (MQ below (KQ γ A (some (.int rv)) (wM γ am sm_z sq)) ([.ref (am 0)] : List Value).toArray s 0 0 A) (F0 m 77 ls [.int t2_6, .ref (sad γ 0), .ref (am 0)]) := by
    intro sm_5 t2_6 H locs ls hf hP hS hl
    unfold f_X7_item_J77 at hf
    obtain ⟨r_7, sm_8, hg_9, hf⟩ := bd2_of hf
    refine kt_V0 (As := [.ref (sad γ 0), .int t2_6]) (rest := []) (st1 := [.int r_7]) (b := am 0) C0 (c_X7_word_ l γ am (by decide) hg_9) (cxV (nA := 2) hts goodU U1241 U1243 U52 U91 U1244 (by decide +kernel) ⟨Nat.le_of_ble_eq_true rfl, Nat.le_of_ble_eq_true rfl⟩) hP (hD _ _) hS hl dX7_item_77 0 7 rfl rfl rfl rfl (Nat.le_of_ble_eq_true rfl) rfl rfl (fun H locs hP hS => ?_)
    refine lv_if_eq (tgt := 105) hx hb dX7_item_80 (by decide) (fun c_10 => ?_) (fun c_10 => ?_)
    · replace hf := ite_p c_10 hf
      refine lv_iconst (v := 0) hx hb dX7_item_105 (by decide) ?_
      obtain ⟨rfl, rfl⟩ := rt2 hf
      exact kt_zret C0 (by decide) hP hS dX7_item_106
    · replace hf := ite_n c_10 hf
      refine lv_aload_n hx hb dX7_item_83 rfl (lv_at hl 0 rfl) ?_
      refine lv_iconst (v := 0) hx hb dX7_item_84 (by decide) ?_
      refine lv_iconst (v := 0) hx hb dX7_item_85 (by decide) ?_
      refine lv_bipush (v := 6) hx hb dX7_item_86 (by decide) ?_
      obtain ⟨r_11, sm_12, hg_13, hf⟩ := bd2_of hf
      refine kt_V0 (As := [.int (0 : Int32), .int (0 : Int32), .int (6 : Int32)]) (rest := []) (st1 := [.int r_11]) (b := am 0) C0 (c_X7_number l γ am hg_13) (cxV (nA := 3) hts goodU U1255 U1257 U55 U91 U1258 (by decide +kernel) ⟨Nat.le_of_ble_eq_true rfl, Nat.le_of_ble_eq_true rfl⟩) hP (hD _ _) hS hl dX7_item_88 0 7 rfl rfl rfl rfl (Nat.le_of_ble_eq_true rfl) rfl rfl (fun H locs hP hS => ?_)
      refine lv_if_eq (tgt := 105) hx hb dX7_item_91 (by decide) (fun c_14 => ?_) (fun c_14 => ?_)
      · replace hf := ite_p c_14 hf
        refine lv_iconst (v := 0) hx hb dX7_item_105 (by decide) ?_
        obtain ⟨rfl, rfl⟩ := rt2 hf
        exact kt_zret C0 (by decide) hP hS dX7_item_106
      · replace hf := ite_n c_14 hf
        refine lv_aload_n hx hb dX7_item_94 rfl (lv_at hl 0 rfl) ?_
        refine lv_iconst (v := 1) hx hb dX7_item_95 (by decide) ?_
        refine lv_iconst (v := 0) hx hb dX7_item_96 (by decide) ?_
        refine lv_bipush (v := 9) hx hb dX7_item_97 (by decide) ?_
        obtain ⟨r_15, sm_16, hg_17, hf⟩ := bd2_of hf
        refine kt_V0 (As := [.int (1 : Int32), .int (0 : Int32), .int (9 : Int32)]) (rest := []) (st1 := [.int r_15]) (b := am 0) C0 (c_X7_number l γ am hg_17) (cxV (nA := 3) hts goodU U1255 U1257 U55 U91 U1258 (by decide +kernel) ⟨Nat.le_of_ble_eq_true rfl, Nat.le_of_ble_eq_true rfl⟩) hP (hD _ _) hS hl dX7_item_99 0 7 rfl rfl rfl rfl (Nat.le_of_ble_eq_true rfl) rfl rfl (fun H locs hP hS => ?_)
        refine lv_if_ne (tgt := 107) hx hb dX7_item_102 (by decide) (fun c_18 => ?_) (fun c_18 => ?_)
        · replace hf := ite_n c_18 hf
          refine lv_aload_n hx hb dX7_item_107 rfl (lv_at hl 0 rfl) ?_
          refine va_get (D := γ.1) (ci := 7) (v := .int (sm_16 0 32)) (C := RX7) (T := TX7) (N := 35) hx hb hU uin7 hown hK hP 0 rfl rfl 32 (by decide) (hU _ U1001) (fun _ h9 => h9) rfl dX7_item_108 ?_
          refine lv_iconst (v := 1) hx hb dX7_item_111 (by decide) ?_
          refine lv_iadd hx hb dX7_item_112 ?_
          refine lv_topi (fun u_19 e_u_19 => ?_)
          replace hf := nm_y hf e_u_19
          refine lv_istore_n (lv' := [(1, .int u_19), (0, .ref (am 0))]) hx hb dX7_item_113 rfl hl (by decide) rfl (fun ls hl => ?_)
          refine lv_aload_n hx hb dX7_item_114 rfl (lv_at hl 1 rfl) ?_
          refine lv_iconst (v := 2) hx hb dX7_item_115 (by decide) ?_
          refine lv_iconst (v := 0) hx hb dX7_item_116 (by decide) ?_
          refine lv_bipush (v := 99) hx hb dX7_item_117 (by decide) ?_
          obtain ⟨r_20, sm_21, hg_22, hf⟩ := bd2_of hf
          refine kt_V0 (As := [.int (2 : Int32), .int (0 : Int32), .int (99 : Int32)]) (rest := []) (st1 := [.int r_20]) (b := am 0) C0 (c_X7_number l γ am hg_22) (cxV (nA := 3) hts goodU U1255 U1257 U55 U91 U1258 (by decide +kernel) ⟨Nat.le_of_ble_eq_true rfl, Nat.le_of_ble_eq_true rfl⟩) hP (hD _ _) hS hl dX7_item_119 0 7 rfl rfl rfl rfl (Nat.le_of_ble_eq_true rfl) rfl rfl (fun H locs hP hS => ?_)
          refine lv_if_eq (tgt := 163) hx hb dX7_item_122 (by decide) (fun c_23 => ?_) (fun c_23 => ?_)
          · replace hf := ite_p c_23 hf
            refine lv_iconst (v := 0) hx hb dX7_item_163 (by decide) ?_
            obtain ⟨rfl, rfl⟩ := rt2 hf
            exact kt_zret C0 (by decide) hP hS dX7_item_164
          · replace hf := ite_n c_23 hf
            refine lv_aload_n hx hb dX7_item_125 rfl (lv_at hl 1 rfl) ?_
            refine lv_iload_n hx hb dX7_item_126 rfl (lv_at hl 0 rfl) ?_
            refine lv_aload_n hx hb dX7_item_127 rfl (lv_at hl 1 rfl) ?_
            refine lv_aload_n hx hb dX7_item_128 rfl (lv_at hl 1 rfl) ?_
            refine va_get (D := γ.1) (ci := 7) (v := .ref (am 34)) (C := RX7) (T := TX7) (N := 35) hx hb hU uin7 hown hK hP 0 rfl rfl 33 (by decide) (hU _ U1002) (fun _ h9 => h9) rfl dX7_item_129 ?_
            refine lv_iconst (v := 2) hx hb dX7_item_132 (by decide) ?_
            refine va_iald hx hb hK hP 24 0 rfl rfl (inB_vp (n := 4) (by decide)) dX7_item_133 ?_
            obtain ⟨r_24, hg_25, hf⟩ := bd_of hf
            refine kt_V0 (As := [.int (sm_21 34 (2 : Int32).toNatClampNeg)]) (rest := [.int u_19, .ref (am 0)]) (st1 := [.int r_24, .int u_19, .ref (am 0)]) (b := am 0) C0 (c_X7_isTaken l γ am hg_25) (cxV (nA := 1) hts goodU U1162 U1164 U39 U91 U1165 (by decide +kernel) ⟨Nat.le_of_ble_eq_true rfl, Nat.le_of_ble_eq_true rfl⟩) hP (hD _ _) hS hl dX7_item_134 0 7 rfl rfl rfl rfl (Nat.le_of_ble_eq_true rfl) rfl rfl (fun H locs hP hS => ?_)
            refine lv_if_ne (tgt := 144) hx hb dX7_item_137 (by decide) (fun c_26 => ?_) (fun c_26 => ?_)
            · replace hf := ite_n c_26 hf
              refine lv_iconst (v := 0) hx hb dX7_item_144 (by decide) ?_
              exact J145 sm_21 u_19 (0 : Int32) _ _ _ hf hP hS (lv_sub hl [1] rfl)
            · replace hf := ite_p c_26 hf
              refine lv_iconst (v := 1) hx hb dX7_item_140 (by decide) ?_
              refine lv_goto (tgt := 145) hx hb dX7_item_141 (by decide) ?_
              exact J145 sm_21 u_19 (1 : Int32) _ _ _ hf hP hS (lv_sub hl [1] rfl)
        · replace hf := ite_p c_18 hf
          refine lv_iconst (v := 0) hx hb dX7_item_105 (by decide) ?_
          obtain ⟨rfl, rfl⟩ := rt2 hf
          exact kt_zret C0 (by decide) hP hS dX7_item_106
  have J213 : ∀ (sm_45 : GS) (t2_46 : Int32) (H : Heap) (locs : List Loc) (ls : Array Slot), f_X7_item_J213 sq sm_45 t2_46 = some (rv, sm_z) → va_P γ.1 vwCl (wM γ am sm_45 sq) H → va_S A s.heap H locs → lv_has ls 2 [(0, .ref (am 0))] → W p l e (rmK 7 167) s m ([.ref (am 0)] : List Value).toArray below meth c H locs 0 0 (MQ below (KQ γ A (some (.int rv)) (wM γ am sm_z sq)) ([.ref (am 0)] : List Value).toArray s 0 0 A) (F0 m 213 ls [.int t2_46, .ref (sad γ 1), .ref (am 0)]) := by
    intro sm_45 t2_46 H locs ls hf hP hS hl
    unfold f_X7_item_J213 at hf
    obtain ⟨r_47, sm_48, hg_49, hf⟩ := bd2_of hf
    refine kt_V0 (As := [.ref (sad γ 1), .int t2_46]) (rest := []) (st1 := [.int r_47]) (b := am 0) C0 (c_X7_word_ l γ am (by decide) hg_49) (cxV (nA := 2) hts goodU U1241 U1243 U52 U91 U1244 (by decide +kernel) ⟨Nat.le_of_ble_eq_true rfl, Nat.le_of_ble_eq_true rfl⟩) hP (hD _ _) hS hl dX7_item_213 0 7 rfl rfl rfl rfl (Nat.le_of_ble_eq_true rfl) rfl rfl (fun H locs hP hS => ?_)
    refine lv_if_eq (tgt := 242) hx hb dX7_item_216 (by decide) (fun c_50 => ?_) (fun c_50 => ?_)
    · replace hf := ite_p c_50 hf
      refine lv_iconst (v := 0) hx hb dX7_item_242 (by decide) ?_
      obtain ⟨rfl, rfl⟩ := rt2 hf
      exact kt_zret C0 (by decide) hP hS dX7_item_243
    · replace hf := ite_n c_50 hf
      refine lv_aload_n hx hb dX7_item_219 rfl (lv_at hl 0 rfl) ?_
      refine lv_iconst (v := 0) hx hb dX7_item_220 (by decide) ?_
      refine lv_iconst (v := 0) hx hb dX7_item_221 (by decide) ?_
      refine lv_bipush (v := 99) hx hb dX7_item_222 (by decide) ?_
      obtain ⟨r_51, sm_52, hg_53, hf⟩ := bd2_of hf
      refine kt_V0 (As := [.int (0 : Int32), .int (0 : Int32), .int (99 : Int32)]) (rest := []) (st1 := [.int r_51]) (b := am 0) C0 (c_X7_number l γ am hg_53) (cxV (nA := 3) hts goodU U1255 U1257 U55 U91 U1258 (by decide +kernel) ⟨Nat.le_of_ble_eq_true rfl, Nat.le_of_ble_eq_true rfl⟩) hP (hD _ _) hS hl dX7_item_224 0 7 rfl rfl rfl rfl (Nat.le_of_ble_eq_true rfl) rfl rfl (fun H locs hP hS => ?_)
      refine lv_if_eq (tgt := 242) hx hb dX7_item_227 (by decide) (fun c_54 => ?_) (fun c_54 => ?_)
      · replace hf := ite_p c_54 hf
        refine lv_iconst (v := 0) hx hb dX7_item_242 (by decide) ?_
        obtain ⟨rfl, rfl⟩ := rt2 hf
        exact kt_zret C0 (by decide) hP hS dX7_item_243
      · replace hf := ite_n c_54 hf
        refine lv_aload_n hx hb dX7_item_230 rfl (lv_at hl 0 rfl) ?_
        refine lv_iconst (v := 1) hx hb dX7_item_231 (by decide) ?_
        refine lv_iconst (v := 1) hx hb dX7_item_232 (by decide) ?_
        refine lv_sipush (v := 999) hx hb dX7_item_233 (by decide) ?_
        obtain ⟨r_55, sm_56, hg_57, hf⟩ := bd2_of hf
        refine kt_V0 (As := [.int (1 : Int32), .int (1 : Int32), .int (999 : Int32)]) (rest := []) (st1 := [.int r_55]) (b := am 0) C0 (c_X7_number l γ am hg_57) (cxV (nA := 3) hts goodU U1255 U1257 U55 U91 U1258 (by decide +kernel) ⟨Nat.le_of_ble_eq_true rfl, Nat.le_of_ble_eq_true rfl⟩) hP (hD _ _) hS hl dX7_item_236 0 7 rfl rfl rfl rfl (Nat.le_of_ble_eq_true rfl) rfl rfl (fun H locs hP hS => ?_)
        refine lv_if_ne (tgt := 244) hx hb dX7_item_239 (by decide) (fun c_58 => ?_) (fun c_58 => ?_)
        · replace hf := ite_n c_58 hf
          refine lv_aload_n hx hb dX7_item_244 rfl (lv_at hl 0 rfl) ?_
          refine lv_aload_n hx hb dX7_item_245 rfl (lv_at hl 0 rfl) ?_
          refine va_get (D := γ.1) (ci := 7) (v := .ref (am 34)) (C := RX7) (T := TX7) (N := 35) hx hb hU uin7 hown hK hP 0 rfl rfl 33 (by decide) (hU _ U1002) (fun _ h9 => h9) rfl dX7_item_246 ?_
          refine lv_iconst (v := 0) hx hb dX7_item_249 (by decide) ?_
          refine va_iald hx hb hK hP 24 0 rfl rfl (inB_vp (n := 4) (by decide)) dX7_item_250 ?_
          refine lv_aload_n hx hb dX7_item_251 rfl (lv_at hl 0 rfl) ?_
          refine va_get (D := γ.1) (ci := 7) (v := .ref (am 34)) (C := RX7) (T := TX7) (N := 35) hx hb hU uin7 hown hK hP 0 rfl rfl 33 (by decide) (hU _ U1002) (fun _ h9 => h9) rfl dX7_item_252 ?_
          refine lv_iconst (v := 1) hx hb dX7_item_255 (by decide) ?_
          refine va_iald hx hb hK hP 24 0 rfl rfl (inB_vp (n := 4) (by decide)) dX7_item_256 ?_
          obtain ⟨r_59, sm_60, hg_61, hf⟩ := bd2_of hf
          refine kt_V0 (As := [.int (sm_56 34 (0 : Int32).toNatClampNeg), .int (sm_56 34 (1 : Int32).toNatClampNeg)]) (rest := []) (st1 := [.int r_59]) (b := am 0) C0 (c_X7_newScreen l γ am hg_61) (cxV (nA := 2) hts goodU U1192 U1194 U45 U91 U1195 (by decide +kernel) ⟨Nat.le_of_ble_eq_true rfl, Nat.le_of_ble_eq_true rfl⟩) hP (hD _ _) hS hl dX7_item_257 0 7 rfl rfl rfl rfl (Nat.le_of_ble_eq_true rfl) rfl rfl (fun H locs hP hS => ?_)
          refine lv_pop hx hb dX7_item_260 rfl ?_
          refine lv_iconst (v := 1) hx hb dX7_item_261 (by decide) ?_
          obtain ⟨rfl, rfl⟩ := rt2 hf
          exact kt_zret C0 (by decide) hP hS dX7_item_262
        · replace hf := ite_p c_58 hf
          refine lv_iconst (v := 0) hx hb dX7_item_242 (by decide) ?_
          obtain ⟨rfl, rfl⟩ := rt2 hf
          exact kt_zret C0 (by decide) hP hS dX7_item_243
  have J280 : ∀ (sm_100 : GS) (t2_101 : Int32) (H : Heap) (locs : List Loc) (ls : Array Slot), f_X7_item_J280 sq sm_100 t2_101 = some (rv, sm_z) → va_P γ.1 vwCl (wM γ am sm_100 sq) H → va_S A s.heap H locs → lv_has ls 2 [(0, .ref (am 0))] → W p l e (rmK 7 167) s m ([.ref (am 0)] : List Value).toArray below meth c H locs 0 0 (MQ below (KQ γ A (some (.int rv)) (wM γ am sm_z sq)) ([.ref (am 0)] : List Value).toArray s 0 0 A) (F0 m 280 ls [.int t2_101, .ref (sad γ 2), .ref (am 0)]) := by
    intro sm_100 t2_101 H locs ls hf hP hS hl
    unfold f_X7_item_J280 at hf
    obtain ⟨r_102, sm_103, hg_104, hf⟩ := bd2_of hf
    refine kt_V0 (As := [.ref (sad γ 2), .int t2_101]) (rest := []) (st1 := [.int r_102]) (b := am 0) C0 (c_X7_word_ l γ am (by decide) hg_104) (cxV (nA := 2) hts goodU U1241 U1243 U52 U91 U1244 (by decide +kernel) ⟨Nat.le_of_ble_eq_true rfl, Nat.le_of_ble_eq_true rfl⟩) hP (hD _ _) hS hl dX7_item_280 0 7 rfl rfl rfl rfl (Nat.le_of_ble_eq_true rfl) rfl rfl (fun H locs hP hS => ?_)
    refine lv_if_eq (tgt := 298) hx hb dX7_item_283 (by decide) (fun c_105 => ?_) (fun c_105 => ?_)
    · replace hf := ite_p c_105 hf
      refine lv_iconst (v := 0) hx hb dX7_item_298 (by decide) ?_
      obtain ⟨rfl, rfl⟩ := rt2 hf
      exact kt_zret C0 (by decide) hP hS dX7_item_299
    · replace hf := ite_n c_105 hf
      refine lv_aload_n hx hb dX7_item_286 rfl (lv_at hl 0 rfl) ?_
      refine lv_iconst (v := 0) hx hb dX7_item_287 (by decide) ?_
      refine lv_iconst (v := 0) hx hb dX7_item_288 (by decide) ?_
      refine lv_sipush (v := 999) hx hb dX7_item_289 (by decide) ?_
      obtain ⟨r_106, sm_107, hg_108, hf⟩ := bd2_of hf
      refine kt_V0 (As := [.int (0 : Int32), .int (0 : Int32), .int (999 : Int32)]) (rest := []) (st1 := [.int r_106]) (b := am 0) C0 (c_X7_number l γ am hg_108) (cxV (nA := 3) hts goodU U1255 U1257 U55 U91 U1258 (by decide +kernel) ⟨Nat.le_of_ble_eq_true rfl, Nat.le_of_ble_eq_true rfl⟩) hP (hD _ _) hS hl dX7_item_292 0 7 rfl rfl rfl rfl (Nat.le_of_ble_eq_true rfl) rfl rfl (fun H locs hP hS => ?_)
      refine lv_if_ne (tgt := 300) hx hb dX7_item_295 (by decide) (fun c_109 => ?_) (fun c_109 => ?_)
      · replace hf := ite_n c_109 hf
        refine lv_aload_n hx hb dX7_item_300 rfl (lv_at hl 0 rfl) ?_
        refine lv_aload_n hx hb dX7_item_301 rfl (lv_at hl 0 rfl) ?_
        refine va_get (D := γ.1) (ci := 7) (v := .ref (am 34)) (C := RX7) (T := TX7) (N := 35) hx hb hU uin7 hown hK hP 0 rfl rfl 33 (by decide) (hU _ U1002) (fun _ h9 => h9) rfl dX7_item_302 ?_
        refine lv_iconst (v := 0) hx hb dX7_item_305 (by decide) ?_
        refine va_iald hx hb hK hP 24 0 rfl rfl (inB_vp (n := 4) (by decide)) dX7_item_306 ?_
        obtain ⟨r_110, sm_111, hg_112, hf⟩ := bd2_of hf
        refine kt_V0 (As := [.int (sm_107 34 (0 : Int32).toNatClampNeg)]) (rest := []) (st1 := [.int r_110]) (b := am 0) C0 (c_X7_newValley l γ am hg_112) (cxV (nA := 1) hts goodU U1200 U1202 U46 U91 U1203 (by decide +kernel) ⟨Nat.le_of_ble_eq_true rfl, Nat.le_of_ble_eq_true rfl⟩) hP (hD _ _) hS hl dX7_item_307 0 7 rfl rfl rfl rfl (Nat.le_of_ble_eq_true rfl) rfl rfl (fun H locs hP hS => ?_)
        refine lv_pop hx hb dX7_item_310 rfl ?_
        refine lv_iconst (v := 1) hx hb dX7_item_311 (by decide) ?_
        obtain ⟨rfl, rfl⟩ := rt2 hf
        exact kt_zret C0 (by decide) hP hS dX7_item_312
      · replace hf := ite_p c_109 hf
        refine lv_iconst (v := 0) hx hb dX7_item_298 (by decide) ?_
        obtain ⟨rfl, rfl⟩ := rt2 hf
        exact kt_zret C0 (by decide) hP hS dX7_item_299
  unfold f_X7_item at hf
  refine lv_aload_n hx hb dX7_item_0 rfl (lv_at hl 0 rfl) ?_
  obtain ⟨r_1, hg_2, hf⟩ := bd_of hf
  refine kt_V0 (As := []) (rest := []) (st1 := [.int r_1]) (b := am 0) C0 (c_X7_sign l γ am hg_2) (cxV (nA := 0) hts goodU U1236 U1238 U51 U91 U1239 (by decide +kernel) ⟨Nat.le_of_ble_eq_true rfl, Nat.le_of_ble_eq_true rfl⟩) hP (hD _ _) hS hl dX7_item_1 0 7 rfl rfl rfl rfl (Nat.le_of_ble_eq_true rfl) rfl rfl (fun H locs hP hS => ?_)
  by_cases c_3 : r_1 = (112 : Int32)
  · replace hf := ite_p c_3 hf
    refine lv_tableIn (off := 56) (tgt := 60) hx hb dX7_item_4 (by rw [c_3]; decide) (by rw [c_3]; decide) (by rw [c_3]; rfl) (by decide) ?_
    refine lv_aload_n hx hb dX7_item_60 rfl (lv_at hl 0 rfl) ?_
    refine va_ldcS hx hb hown (hE.2.2.2.2.1 0 (by decide)).2 dX7_item_61 ?_
    refine lv_aload_n hx hb dX7_item_63 rfl (lv_at hl 0 rfl) ?_
    refine va_get (D := γ.1) (ci := 7) (v := .int (sm 0 3)) (C := RX7) (T := TX7) (N := 35) hx hb hU uin7 hown hK hP 0 rfl rfl 3 (by decide) (hU _ U972) (fun _ h9 => h9) rfl dX7_item_64 ?_
    refine lv_bipush (v := 10) hx hb dX7_item_67 (by decide) ?_
    refine lv_icmp_ge (tgt := 76) hx hb dX7_item_69 (by decide) (fun c_4 => ?_) (fun c_4 => ?_)
    · replace hf := ite_p c_4 hf
      refine lv_iconst (v := 0) hx hb dX7_item_76 (by decide) ?_
      exact J77 sm (0 : Int32) _ _ _ hf hP hS (lv_sub hl [0] rfl)
    · replace hf := ite_n c_4 hf
      refine lv_iconst (v := 1) hx hb dX7_item_72 (by decide) ?_
      refine lv_goto (tgt := 77) hx hb dX7_item_73 (by decide) ?_
      exact J77 sm (1 : Int32) _ _ _ hf hP hS (lv_sub hl [0] rfl)
  · replace hf := ite_n c_3 hf
    by_cases c_41 : r_1 = (113 : Int32)
    · replace hf := ite_p c_41 hf
      refine lv_tableIn (off := 480) (tgt := 484) hx hb dX7_item_4 (by rw [c_41]; decide) (by rw [c_41]; decide) (by rw [c_41]; rfl) (by decide) ?_
      refine lv_iconst (v := 0) hx hb dX7_item_484 (by decide) ?_
      obtain ⟨rfl, rfl⟩ := rt2 hf
      exact kt_zret C0 (by decide) hP hS dX7_item_485
    · replace hf := ite_n c_41 hf
      by_cases c_42 : r_1 = (114 : Int32)
      · replace hf := ite_p c_42 hf
        refine lv_tableIn (off := 480) (tgt := 484) hx hb dX7_item_4 (by rw [c_42]; decide) (by rw [c_42]; decide) (by rw [c_42]; rfl) (by decide) ?_
        refine lv_iconst (v := 0) hx hb dX7_item_484 (by decide) ?_
        obtain ⟨rfl, rfl⟩ := rt2 hf
        exact kt_zret C0 (by decide) hP hS dX7_item_485
      · replace hf := ite_n c_42 hf
        by_cases c_43 : r_1 = (115 : Int32)
        · replace hf := ite_p c_43 hf
          refine lv_tableIn (off := 192) (tgt := 196) hx hb dX7_item_4 (by rw [c_43]; decide) (by rw [c_43]; decide) (by rw [c_43]; rfl) (by decide) ?_
          refine lv_aload_n hx hb dX7_item_196 rfl (lv_at hl 0 rfl) ?_
          refine va_ldcS hx hb hown (hE.2.2.2.2.1 1 (by decide)).2 dX7_item_197 ?_
          refine lv_aload_n hx hb dX7_item_199 rfl (lv_at hl 0 rfl) ?_
          refine va_get (D := γ.1) (ci := 7) (v := .int (sm 0 11)) (C := RX7) (T := TX7) (N := 35) hx hb hU uin7 hown hK hP 0 rfl rfl 11 (by decide) (hU _ U980) (fun _ h9 => h9) rfl dX7_item_200 ?_
          refine lv_bipush (v := 6) hx hb dX7_item_203 (by decide) ?_
          refine lv_icmp_ge (tgt := 212) hx hb dX7_item_205 (by decide) (fun c_44 => ?_) (fun c_44 => ?_)
          · replace hf := ite_p c_44 hf
            refine lv_iconst (v := 0) hx hb dX7_item_212 (by decide) ?_
            exact J213 sm (0 : Int32) _ _ _ hf hP hS (lv_sub hl [0] rfl)
          · replace hf := ite_n c_44 hf
            refine lv_iconst (v := 1) hx hb dX7_item_208 (by decide) ?_
            refine lv_goto (tgt := 213) hx hb dX7_item_209 (by decide) ?_
            exact J213 sm (1 : Int32) _ _ _ hf hP hS (lv_sub hl [0] rfl)
        · replace hf := ite_n c_43 hf
          by_cases c_62 : r_1 = (116 : Int32)
          · replace hf := ite_p c_62 hf
            refine lv_tableIn (off := 414) (tgt := 418) hx hb dX7_item_4 (by rw [c_62]; decide) (by rw [c_62]; decide) (by rw [c_62]; rfl) (by decide) ?_
            refine lv_aload_n hx hb dX7_item_418 rfl (lv_at hl 0 rfl) ?_
            refine va_ldcS hx hb hown (hE.2.2.2.2.1 5 (by decide)).2 dX7_item_419 ?_
            obtain ⟨r_63, sm_64, hg_65, hf⟩ := bd2_of hf
            refine kt_V0 (As := [.ref (sad γ 5)]) (rest := []) (st1 := [.int r_63]) (b := am 0) C0 (c_X7_word l γ am (by decide) hg_65) (cxV (nA := 1) hts goodU U1245 U1247 U53 U91 U1248 (by decide +kernel) ⟨Nat.le_of_ble_eq_true rfl, Nat.le_of_ble_eq_true rfl⟩) hP (hD _ _) hS hl dX7_item_421 0 7 rfl rfl rfl rfl (Nat.le_of_ble_eq_true rfl) rfl rfl (fun H locs hP hS => ?_)
            refine lv_if_ne (tgt := 429) hx hb dX7_item_424 (by decide) (fun c_66 => ?_) (fun c_66 => ?_)
            · replace hf := ite_n c_66 hf
              refine lv_aload_n hx hb dX7_item_429 rfl (lv_at hl 0 rfl) ?_
              refine va_get (D := γ.1) (ci := 7) (v := .int (sm_64 0 32)) (C := RX7) (T := TX7) (N := 35) hx hb hU uin7 hown hK hP 0 rfl rfl 32 (by decide) (hU _ U1001) (fun _ h9 => h9) rfl dX7_item_430 ?_
              refine lv_iconst (v := 1) hx hb dX7_item_433 (by decide) ?_
              refine lv_iadd hx hb dX7_item_434 ?_
              refine lv_topi (fun u_67 e_u_67 => ?_)
              replace hf := nm_y hf e_u_67
              refine lv_istore_n (lv' := [(1, .int u_67), (0, .ref (am 0))]) hx hb dX7_item_435 rfl hl (by decide) rfl (fun ls hl => ?_)
              refine lv_aload_n hx hb dX7_item_436 rfl (lv_at hl 1 rfl) ?_
              refine lv_iconst (v := 0) hx hb dX7_item_437 (by decide) ?_
              refine lv_iconst (v := 0) hx hb dX7_item_438 (by decide) ?_
              refine lv_aload_n hx hb dX7_item_439 rfl (lv_at hl 1 rfl) ?_
              refine va_get (D := γ.1) (ci := 7) (v := .int (sm_64 0 3)) (C := RX7) (T := TX7) (N := 35) hx hb hU uin7 hown hK hP 0 rfl rfl 3 (by decide) (hU _ U972) (fun _ h9 => h9) rfl dX7_item_440 ?_
              refine lv_iconst (v := 1) hx hb dX7_item_443 (by decide) ?_
              refine lv_isub hx hb dX7_item_444 ?_
              obtain ⟨r_68, sm_69, hg_70, hf⟩ := bd2_of hf
              refine kt_V0 (As := [.int (0 : Int32), .int (0 : Int32), .int ((sm_64 0 3) - (1 : Int32))]) (rest := []) (st1 := [.int r_68]) (b := am 0) C0 (c_X7_number l γ am hg_70) (cxV (nA := 3) hts goodU U1255 U1257 U55 U91 U1258 (by decide +kernel) ⟨Nat.le_of_ble_eq_true rfl, Nat.le_of_ble_eq_true rfl⟩) hP (hD _ _) hS hl dX7_item_445 0 7 rfl rfl rfl rfl (Nat.le_of_ble_eq_true rfl) rfl rfl (fun H locs hP hS => ?_)
              refine lv_if_eq (tgt := 469) hx hb dX7_item_448 (by decide) (fun c_71 => ?_) (fun c_71 => ?_)
              · replace hf := ite_p c_71 hf
                refine lv_iconst (v := 0) hx hb dX7_item_469 (by decide) ?_
                obtain ⟨rfl, rfl⟩ := rt2 hf
                exact kt_zret C0 (by decide) hP hS dX7_item_470
              · replace hf := ite_n c_71 hf
                refine lv_aload_n hx hb dX7_item_451 rfl (lv_at hl 1 rfl) ?_
                refine lv_iload_n hx hb dX7_item_452 rfl (lv_at hl 0 rfl) ?_
                refine lv_aload_n hx hb dX7_item_453 rfl (lv_at hl 1 rfl) ?_
                refine lv_aload_n hx hb dX7_item_454 rfl (lv_at hl 1 rfl) ?_
                refine va_get (D := γ.1) (ci := 7) (v := .ref (am 34)) (C := RX7) (T := TX7) (N := 35) hx hb hU uin7 hown hK hP 0 rfl rfl 33 (by decide) (hU _ U1002) (fun _ h9 => h9) rfl dX7_item_455 ?_
                refine lv_iconst (v := 0) hx hb dX7_item_458 (by decide) ?_
                refine va_iald hx hb hK hP 24 0 rfl rfl (inB_vp (n := 4) (by decide)) dX7_item_459 ?_
                obtain ⟨r_72, hg_73, hf⟩ := bd_of hf
                refine kt_V0 (As := [.int (sm_69 34 (0 : Int32).toNatClampNeg)]) (rest := [.int u_67, .ref (am 0)]) (st1 := [.int r_72, .int u_67, .ref (am 0)]) (b := am 0) C0 (c_X7_isThere l γ am hg_73) (cxV (nA := 1) hts goodU U1268 U1270 U57 U91 U1271 (by decide +kernel) ⟨Nat.le_of_ble_eq_true rfl, Nat.le_of_ble_eq_true rfl⟩) hP (hD _ _) hS hl dX7_item_460 0 7 rfl rfl rfl rfl (Nat.le_of_ble_eq_true rfl) rfl rfl (fun H locs hP hS => ?_)
                obtain ⟨r_74, sm_75, hg_76, hf⟩ := bd2_of hf
                refine kt_V0 (As := [.int u_67, .int r_72]) (rest := []) (st1 := [.int r_74]) (b := am 0) C0 (c_X7_stands l γ am hg_76) (cxV (nA := 2) hts goodU U1259 U1261 U56 U91 U1262 (by decide +kernel) ⟨Nat.le_of_ble_eq_true rfl, Nat.le_of_ble_eq_true rfl⟩) hP (hD _ _) hS hl dX7_item_463 0 7 rfl rfl rfl rfl (Nat.le_of_ble_eq_true rfl) rfl rfl (fun H locs hP hS => ?_)
                refine lv_if_ne (tgt := 471) hx hb dX7_item_466 (by decide) (fun c_77 => ?_) (fun c_77 => ?_)
                · replace hf := ite_n c_77 hf
                  refine lv_aload_n hx hb dX7_item_471 rfl (lv_at hl 1 rfl) ?_
                  refine lv_aload_n hx hb dX7_item_472 rfl (lv_at hl 1 rfl) ?_
                  refine va_get (D := γ.1) (ci := 7) (v := .ref (am 34)) (C := RX7) (T := TX7) (N := 35) hx hb hU uin7 hown hK hP 0 rfl rfl 33 (by decide) (hU _ U1002) (fun _ h9 => h9) rfl dX7_item_473 ?_
                  refine lv_iconst (v := 0) hx hb dX7_item_476 (by decide) ?_
                  refine va_iald hx hb hK hP 24 0 rfl rfl (inB_vp (n := 4) (by decide)) dX7_item_477 ?_
                  obtain ⟨r_78, sm_79, hg_80, hf⟩ := bd2_of hf
                  refine kt_V0 (As := [.int (sm_75 34 (0 : Int32).toNatClampNeg)]) (rest := []) (st1 := [.int r_78]) (b := am 0) C0 (c_X7_loses l γ am hg_80) (cxV (nA := 1) hts goodU U1272 U1274 U58 U91 U1275 (by decide +kernel) ⟨Nat.le_of_ble_eq_true rfl, Nat.le_of_ble_eq_true rfl⟩) hP (hD _ _) hS hl dX7_item_478 0 7 rfl rfl rfl rfl (Nat.le_of_ble_eq_true rfl) rfl rfl (fun H locs hP hS => ?_)
                  refine lv_pop hx hb dX7_item_481 rfl ?_
                  refine lv_iconst (v := 1) hx hb dX7_item_482 (by decide) ?_
                  obtain ⟨rfl, rfl⟩ := rt2 hf
                  exact kt_zret C0 (by decide) hP hS dX7_item_483
                · replace hf := ite_p c_77 hf
                  refine lv_iconst (v := 0) hx hb dX7_item_469 (by decide) ?_
                  obtain ⟨rfl, rfl⟩ := rt2 hf
                  exact kt_zret C0 (by decide) hP hS dX7_item_470
            · replace hf := ite_p c_66 hf
              refine lv_iconst (v := 0) hx hb dX7_item_427 (by decide) ?_
              obtain ⟨rfl, rfl⟩ := rt2 hf
              exact kt_zret C0 (by decide) hP hS dX7_item_428
          · replace hf := ite_n c_62 hf
            by_cases c_81 : r_1 = (117 : Int32)
            · replace hf := ite_p c_81 hf
              refine lv_tableIn (off := 309) (tgt := 313) hx hb dX7_item_4 (by rw [c_81]; decide) (by rw [c_81]; decide) (by rw [c_81]; rfl) (by decide) ?_
              refine lv_aload_n hx hb dX7_item_313 rfl (lv_at hl 0 rfl) ?_
              refine va_ldcS hx hb hown (hE.2.2.2.2.1 3 (by decide)).2 dX7_item_314 ?_
              obtain ⟨r_82, sm_83, hg_84, hf⟩ := bd2_of hf
              refine kt_V0 (As := [.ref (sad γ 3)]) (rest := []) (st1 := [.int r_82]) (b := am 0) C0 (c_X7_word l γ am (by decide) hg_84) (cxV (nA := 1) hts goodU U1245 U1247 U53 U91 U1248 (by decide +kernel) ⟨Nat.le_of_ble_eq_true rfl, Nat.le_of_ble_eq_true rfl⟩) hP (hD _ _) hS hl dX7_item_316 0 7 rfl rfl rfl rfl (Nat.le_of_ble_eq_true rfl) rfl rfl (fun H locs hP hS => ?_)
              refine lv_if_eq (tgt := 352) hx hb dX7_item_319 (by decide) (fun c_85 => ?_) (fun c_85 => ?_)
              · replace hf := ite_p c_85 hf
                refine lv_iconst (v := 0) hx hb dX7_item_352 (by decide) ?_
                obtain ⟨rfl, rfl⟩ := rt2 hf
                exact kt_zret C0 (by decide) hP hS dX7_item_353
              · replace hf := ite_n c_85 hf
                refine lv_aload_n hx hb dX7_item_322 rfl (lv_at hl 0 rfl) ?_
                refine lv_iconst (v := 0) hx hb dX7_item_323 (by decide) ?_
                refine lv_iconst (v := 0) hx hb dX7_item_324 (by decide) ?_
                refine lv_aload_n hx hb dX7_item_325 rfl (lv_at hl 0 rfl) ?_
                refine va_get (D := γ.1) (ci := 7) (v := .int (sm_83 0 14)) (C := RX7) (T := TX7) (N := 35) hx hb hU uin7 hown hK hP 0 rfl rfl 14 (by decide) (hU _ U983) (fun _ h9 => h9) rfl dX7_item_326 ?_
                refine lv_iconst (v := 1) hx hb dX7_item_329 (by decide) ?_
                refine lv_isub hx hb dX7_item_330 ?_
                obtain ⟨r_86, sm_87, hg_88, hf⟩ := bd2_of hf
                refine kt_V0 (As := [.int (0 : Int32), .int (0 : Int32), .int ((sm_83 0 14) - (1 : Int32))]) (rest := []) (st1 := [.int r_86]) (b := am 0) C0 (c_X7_number l γ am hg_88) (cxV (nA := 3) hts goodU U1255 U1257 U55 U91 U1258 (by decide +kernel) ⟨Nat.le_of_ble_eq_true rfl, Nat.le_of_ble_eq_true rfl⟩) hP (hD _ _) hS hl dX7_item_331 0 7 rfl rfl rfl rfl (Nat.le_of_ble_eq_true rfl) rfl rfl (fun H locs hP hS => ?_)
                refine lv_if_eq (tgt := 352) hx hb dX7_item_334 (by decide) (fun c_89 => ?_) (fun c_89 => ?_)
                · replace hf := ite_p c_89 hf
                  refine lv_iconst (v := 0) hx hb dX7_item_352 (by decide) ?_
                  obtain ⟨rfl, rfl⟩ := rt2 hf
                  exact kt_zret C0 (by decide) hP hS dX7_item_353
                · replace hf := ite_n c_89 hf
                  refine lv_aload_n hx hb dX7_item_337 rfl (lv_at hl 0 rfl) ?_
                  refine lv_iconst (v := 1) hx hb dX7_item_338 (by decide) ?_
                  refine lv_iconst (v := 0) hx hb dX7_item_339 (by decide) ?_
                  refine lv_aload_n hx hb dX7_item_340 rfl (lv_at hl 0 rfl) ?_
                  refine va_get (D := γ.1) (ci := 7) (v := .int (sm_87 0 3)) (C := RX7) (T := TX7) (N := 35) hx hb hU uin7 hown hK hP 0 rfl rfl 3 (by decide) (hU _ U972) (fun _ h9 => h9) rfl dX7_item_341 ?_
                  refine lv_iconst (v := 1) hx hb dX7_item_344 (by decide) ?_
                  refine lv_isub hx hb dX7_item_345 ?_
                  obtain ⟨r_90, sm_91, hg_92, hf⟩ := bd2_of hf
                  refine kt_V0 (As := [.int (1 : Int32), .int (0 : Int32), .int ((sm_87 0 3) - (1 : Int32))]) (rest := []) (st1 := [.int r_90]) (b := am 0) C0 (c_X7_number l γ am hg_92) (cxV (nA := 3) hts goodU U1255 U1257 U55 U91 U1258 (by decide +kernel) ⟨Nat.le_of_ble_eq_true rfl, Nat.le_of_ble_eq_true rfl⟩) hP (hD _ _) hS hl dX7_item_346 0 7 rfl rfl rfl rfl (Nat.le_of_ble_eq_true rfl) rfl rfl (fun H locs hP hS => ?_)
                  refine lv_if_ne (tgt := 354) hx hb dX7_item_349 (by decide) (fun c_93 => ?_) (fun c_93 => ?_)
                  · replace hf := ite_n c_93 hf
                    refine lv_aload_n hx hb dX7_item_354 rfl (lv_at hl 0 rfl) ?_
                    refine va_get (D := γ.1) (ci := 7) (v := .ref (am 17)) (C := RX7) (T := TX7) (N := 35) hx hb hU uin7 hown hK hP 0 rfl rfl 16 (by decide) (hU _ U985) (fun _ h9 => h9) rfl dX7_item_355 ?_
                    refine lv_aload_n hx hb dX7_item_358 rfl (lv_at hl 0 rfl) ?_
                    refine va_get (D := γ.1) (ci := 7) (v := .ref (am 34)) (C := RX7) (T := TX7) (N := 35) hx hb hU uin7 hown hK hP 0 rfl rfl 33 (by decide) (hU _ U1002) (fun _ h9 => h9) rfl dX7_item_359 ?_
                    refine lv_iconst (v := 0) hx hb dX7_item_362 (by decide) ?_
                    refine va_iald hx hb hK hP 24 0 rfl rfl (inB_vp (n := 4) (by decide)) dX7_item_363 ?_
                    refine lv_dup2_11 hx hb dX7_item_364 rfl rfl ?_
                    obtain ⟨g_94, hf⟩ := gd_of hf
                    refine va_iald hx hb hK hP 14 0 rfl rfl (inB_vp g_94) dX7_item_365 ?_
                    refine lv_iconst (v := 1) hx hb dX7_item_366 (by decide) ?_
                    refine lv_aload_n hx hb dX7_item_367 rfl (lv_at hl 0 rfl) ?_
                    refine va_get (D := γ.1) (ci := 7) (v := .ref (am 34)) (C := RX7) (T := TX7) (N := 35) hx hb hU uin7 hown hK hP 0 rfl rfl 33 (by decide) (hU _ U1002) (fun _ h9 => h9) rfl dX7_item_368 ?_
                    refine lv_iconst (v := 1) hx hb dX7_item_371 (by decide) ?_
                    refine va_iald hx hb hK hP 24 0 rfl rfl (inB_vp (n := 4) (by decide)) dX7_item_372 ?_
                    refine lv_ishl hx hb dX7_item_373 ?_
                    refine lv_ior hx hb dX7_item_374 ?_
                    refine lv_topi (fun u_95 e_u_95 => ?_)
                    replace hf := nm_y hf e_u_95
                    obtain ⟨g_96, hf⟩ := gd_of hf
                    refine va_iast hx hb hK hP (hD _ _) hS 14 0 rfl rfl (inB_vp g_96) dX7_item_375 (fun H locs hP _ hS => ?_)
                    obtain ⟨sm_97, e_sm_97, hf⟩ := nm_of hf
                    replace hP : va_P γ.1 vwCl (wM γ am sm_97 sq) H := by rw [e_sm_97]; exact hP
                    refine lv_iconst (v := 1) hx hb dX7_item_376 (by decide) ?_
                    obtain ⟨rfl, rfl⟩ := rt2 hf
                    exact kt_zret C0 (by decide) hP hS dX7_item_377
                  · replace hf := ite_p c_93 hf
                    refine lv_iconst (v := 0) hx hb dX7_item_352 (by decide) ?_
                    obtain ⟨rfl, rfl⟩ := rt2 hf
                    exact kt_zret C0 (by decide) hP hS dX7_item_353
            · replace hf := ite_n c_81 hf
              by_cases c_98 : r_1 = (118 : Int32)
              · replace hf := ite_p c_98 hf
                refine lv_tableIn (off := 259) (tgt := 263) hx hb dX7_item_4 (by rw [c_98]; decide) (by rw [c_98]; decide) (by rw [c_98]; rfl) (by decide) ?_
                refine lv_aload_n hx hb dX7_item_263 rfl (lv_at hl 0 rfl) ?_
                refine va_ldcS hx hb hown (hE.2.2.2.2.1 2 (by decide)).2 dX7_item_264 ?_
                refine lv_aload_n hx hb dX7_item_266 rfl (lv_at hl 0 rfl) ?_
                refine va_get (D := γ.1) (ci := 7) (v := .int (sm 0 14)) (C := RX7) (T := TX7) (N := 35) hx hb hU uin7 hown hK hP 0 rfl rfl 14 (by decide) (hU _ U983) (fun _ h9 => h9) rfl dX7_item_267 ?_
                refine lv_bipush (v := 8) hx hb dX7_item_270 (by decide) ?_
                refine lv_icmp_ge (tgt := 279) hx hb dX7_item_272 (by decide) (fun c_99 => ?_) (fun c_99 => ?_)
                · replace hf := ite_p c_99 hf
                  refine lv_iconst (v := 0) hx hb dX7_item_279 (by decide) ?_
                  exact J280 sm (0 : Int32) _ _ _ hf hP hS (lv_sub hl [0] rfl)
                · replace hf := ite_n c_99 hf
                  refine lv_iconst (v := 1) hx hb dX7_item_275 (by decide) ?_
                  refine lv_goto (tgt := 280) hx hb dX7_item_276 (by decide) ?_
                  exact J280 sm (1 : Int32) _ _ _ hf hP hS (lv_sub hl [0] rfl)
              · replace hf := ite_n c_98 hf
                by_cases c_113 : r_1 = (119 : Int32)
                · replace hf := ite_p c_113 hf
                  refine lv_tableIn (off := 480) (tgt := 484) hx hb dX7_item_4 (by rw [c_113]; decide) (by rw [c_113]; decide) (by rw [c_113]; rfl) (by decide) ?_
                  refine lv_iconst (v := 0) hx hb dX7_item_484 (by decide) ?_
                  obtain ⟨rfl, rfl⟩ := rt2 hf
                  exact kt_zret C0 (by decide) hP hS dX7_item_485
                · replace hf := ite_n c_113 hf
                  by_cases c_114 : r_1 = (120 : Int32)
                  · replace hf := ite_p c_114 hf
                    refine lv_tableIn (off := 480) (tgt := 484) hx hb dX7_item_4 (by rw [c_114]; decide) (by rw [c_114]; decide) (by rw [c_114]; rfl) (by decide) ?_
                    refine lv_iconst (v := 0) hx hb dX7_item_484 (by decide) ?_
                    obtain ⟨rfl, rfl⟩ := rt2 hf
                    exact kt_zret C0 (by decide) hP hS dX7_item_485
                  · replace hf := ite_n c_114 hf
                    by_cases c_115 : r_1 = (121 : Int32)
                    · replace hf := ite_p c_115 hf
                      refine lv_tableIn (off := 374) (tgt := 378) hx hb dX7_item_4 (by rw [c_115]; decide) (by rw [c_115]; decide) (by rw [c_115]; rfl) (by decide) ?_
                      refine lv_aload_n hx hb dX7_item_378 rfl (lv_at hl 0 rfl) ?_
                      refine va_ldcS hx hb hown (hE.2.2.2.2.1 4 (by decide)).2 dX7_item_379 ?_
                      obtain ⟨r_116, sm_117, hg_118, hf⟩ := bd2_of hf
                      refine kt_V0 (As := [.ref (sad γ 4)]) (rest := []) (st1 := [.int r_116]) (b := am 0) C0 (c_X7_word l γ am (by decide) hg_118) (cxV (nA := 1) hts goodU U1245 U1247 U53 U91 U1248 (by decide +kernel) ⟨Nat.le_of_ble_eq_true rfl, Nat.le_of_ble_eq_true rfl⟩) hP (hD _ _) hS hl dX7_item_381 0 7 rfl rfl rfl rfl (Nat.le_of_ble_eq_true rfl) rfl rfl (fun H locs hP hS => ?_)
                      refine lv_if_eq (tgt := 399) hx hb dX7_item_384 (by decide) (fun c_119 => ?_) (fun c_119 => ?_)
                      · replace hf := ite_p c_119 hf
                        refine lv_iconst (v := 0) hx hb dX7_item_399 (by decide) ?_
                        obtain ⟨rfl, rfl⟩ := rt2 hf
                        exact kt_zret C0 (by decide) hP hS dX7_item_400
                      · replace hf := ite_n c_119 hf
                        refine lv_aload_n hx hb dX7_item_387 rfl (lv_at hl 0 rfl) ?_
                        refine lv_iconst (v := 0) hx hb dX7_item_388 (by decide) ?_
                        refine lv_iconst (v := 1) hx hb dX7_item_389 (by decide) ?_
                        refine lv_sipush (v := 999) hx hb dX7_item_390 (by decide) ?_
                        obtain ⟨r_120, sm_121, hg_122, hf⟩ := bd2_of hf
                        refine kt_V0 (As := [.int (0 : Int32), .int (1 : Int32), .int (999 : Int32)]) (rest := []) (st1 := [.int r_120]) (b := am 0) C0 (c_X7_number l γ am hg_122) (cxV (nA := 3) hts goodU U1255 U1257 U55 U91 U1258 (by decide +kernel) ⟨Nat.le_of_ble_eq_true rfl, Nat.le_of_ble_eq_true rfl⟩) hP (hD _ _) hS hl dX7_item_393 0 7 rfl rfl rfl rfl (Nat.le_of_ble_eq_true rfl) rfl rfl (fun H locs hP hS => ?_)
                        refine lv_if_ne (tgt := 401) hx hb dX7_item_396 (by decide) (fun c_123 => ?_) (fun c_123 => ?_)
                        · replace hf := ite_n c_123 hf
                          refine lv_aload_n hx hb dX7_item_401 rfl (lv_at hl 0 rfl) ?_
                          refine lv_dup hx hb dX7_item_402 rfl ?_
                          refine va_get (D := γ.1) (ci := 7) (v := .int (sm_121 0 17)) (C := RX7) (T := TX7) (N := 35) hx hb hU uin7 hown hK hP 0 rfl rfl 17 (by decide) (hU _ U986) (fun _ h9 => h9) rfl dX7_item_403 ?_
                          refine lv_aload_n hx hb dX7_item_406 rfl (lv_at hl 0 rfl) ?_
                          refine va_get (D := γ.1) (ci := 7) (v := .ref (am 34)) (C := RX7) (T := TX7) (N := 35) hx hb hU uin7 hown hK hP 0 rfl rfl 33 (by decide) (hU _ U1002) (fun _ h9 => h9) rfl dX7_item_407 ?_
                          refine lv_iconst (v := 0) hx hb dX7_item_410 (by decide) ?_
                          refine va_iald hx hb hK hP 24 0 rfl rfl (inB_vp (n := 4) (by decide)) dX7_item_411 ?_
                          refine lv_iadd hx hb dX7_item_412 ?_
                          refine lv_topi (fun u_124 e_u_124 => ?_)
                          replace hf := nm_y hf e_u_124
                          refine va_put (D := γ.1) (ci := 7) (v := .int u_124) (ty := .int) (C := RX7) (T := TX7) (N := 35) hx hb hU uin7 tyX7 tyX7_ok nmX7 hown hK hP (hD _ _) hS 0 rfl rfl 17 (by decide) (hU _ U986) (fun _ h9 => h9) rfl (by decide +kernel) rfl rfl (Nat.le_of_ble_eq_true rfl) dX7_item_413 (fun H locs hP _ hS => ?_)
                          obtain ⟨sm_125, e_sm_125, hf⟩ := nm_of hf
                          replace hP : va_P γ.1 vwCl (wM γ am sm_125 sq) H := by rw [e_sm_125]; exact hP
                          refine lv_iconst (v := 1) hx hb dX7_item_416 (by decide) ?_
                          obtain ⟨rfl, rfl⟩ := rt2 hf
                          exact kt_zret C0 (by decide) hP hS dX7_item_417
                        · replace hf := ite_p c_123 hf
                          refine lv_iconst (v := 0) hx hb dX7_item_399 (by decide) ?_
                          obtain ⟨rfl, rfl⟩ := rt2 hf
                          exact kt_zret C0 (by decide) hP hS dX7_item_400
                    · replace hf := ite_n c_115 hf
                      refine lv_tableOut (tgt := 484) hx hb dX7_item_4 (by have := lv_neT c_3 (a := 112) (by decide); have := lv_neT c_41 (a := 113) (by decide); have := lv_neT c_42 (a := 114) (by decide); have := lv_neT c_43 (a := 115) (by decide); have := lv_neT c_62 (a := 116) (by decide); have := lv_neT c_81 (a := 117) (by decide); have := lv_neT c_98 (a := 118) (by decide); have := lv_neT c_113 (a := 119) (by decide); have := lv_neT c_114 (a := 120) (by decide); have := lv_neT c_115 (a := 121) (by decide); omega) (by decide) ?_
                      refine lv_iconst (v := 0) hx hb dX7_item_484 (by decide) ?_
                      obtain ⟨rfl, rfl⟩ := rt2 hf
                      exact kt_zret C0 (by decide) hP hS dX7_item_485
set_option maxHeartbeats 4000000 in
set_option maxRecDepth 100000 in
theorem c_X7_keep_25 (l : Launch) (γ : Gm) (am : Nat → Nat) {sm : GS} {sq : Nat → Int64} {sm_z : GS} (hf : f_X7_keep 25 sm = some sm_z) : Kt l γ yX7_keep (Cond.code yX7_keep cX7_keep 3 none :: U) 0 0 [.ref (am 0), .ref (am (25))] (wM γ am sm sq) none (wM γ am sm_z sq) := by
  refine Kt.of (by decide) rfl (Nat.le_of_ble_eq_true rfl) rfl ?_
  intro p e s m below meth c A ls C0 hP hD0 hS hl
  obtain ⟨hx, hb, hml, hown, hts, hr, hlocks, hK, hE, hA⟩ := id C0
  have hU : ∀ w ∈ U, w.before _ s = true := fun w h => hts w (List.mem_cons_of_mem _ h)
  have hD : ∀ (sm : GS) (sq : Nat → Int64), va_D A (wM γ am sm sq) := fun _ _ => hD0.fst rfl
  have hl : lv_has ls 3 [(0, .ref (am 0)), (1, .ref (am (25)))] := hl
  have L2 : ∀ (K83 : GS → Option (GS)) (HK83 : ∀ (zsm : GS) (H : Heap) (locs : List Loc) (ls : Array Slot), K83 zsm = some sm_z → va_P γ.1 vwCl (wM γ am zsm sq) H → va_S A s.heap H locs → lv_has ls 3 [(0, .ref (am 0)), (1, .ref (am (25)))] → W p l e (rmK 0 0) s m ([.ref (am 0), .ref (am (25))] : List Value).toArray below meth c H locs 0 0 (MQ below (KQ γ A none (wM γ am sm_z sq)) ([.ref (am 0), .ref (am (25))] : List Value).toArray s 0 0 A) (F0 m 83 ls [])) (n : Nat) (x2_1 : Int32) (sm_2 : GS) (H : Heap) (locs : List Loc) (ls : Array Slot), f_X7_keep_L2 25 K83 n x2_1 sm_2 = some sm_z → va_P γ.1 vwCl (wM γ am sm_2 sq) H → va_S A s.heap H locs → lv_has ls 3 [(0, .ref (am 0)), (1, .ref (am (25))), (2, .int x2_1)] → W p l e (rmK 0 0) s m ([.ref (am 0), .ref (am (25))] : List Value).toArray below meth c H locs 0 0 (MQ below (KQ γ A none (wM γ am sm_z sq)) ([.ref (am 0), .ref (am (25))] : List Value).toArray s 0 0 A) (F0 m 2 ls []) := by
    intro K83 HK83
    intro n
    induction n with
    | zero =>
      intro x2_1 sm_2 H locs ls hf
      have hf : none = some _ := hf
      cases hf
    | succ n ih =>
      intro x2_1 sm_2 H locs ls hf hP hS hl
      rw [f_X7_keep_L2.eq_2] at hf
      refine lv_iload_n hx hb dX7_keep_2 rfl (lv_at hl 2 rfl) ?_
      refine lv_bipush (v := 10) hx hb dX7_keep_3 (by decide) ?_
      refine lv_icmp_ge (tgt := 83) hx hb dX7_keep_5 (by decide) (fun c_3 => ?_) (fun c_3 => ?_)
      · replace hf := ite_p c_3 hf
        exact HK83 sm_2 _ _ _ hf hP hS (lv_sub hl [0, 1] rfl)
      · replace hf := ite_n c_3 hf
        refine lv_aload_n hx hb dX7_keep_8 rfl (lv_at hl 1 rfl) ?_
        refine lv_iload_n hx hb dX7_keep_9 rfl (lv_at hl 2 rfl) ?_
        refine lv_aload_n hx hb dX7_keep_10 rfl (lv_at hl 0 rfl) ?_
        refine va_get (D := γ.1) (ci := 7) (v := .ref (am 5)) (C := RX7) (T := TX7) (N := 35) hx hb hU uin7 hown hK hP 0 rfl rfl 4 (by decide) (hU _ U973) (fun _ h9 => h9) rfl dX7_keep_11 ?_
        refine lv_iload_n hx hb dX7_keep_14 rfl (lv_at hl 2 rfl) ?_
        obtain ⟨g_4, hf⟩ := gd_of hf
        refine va_iald hx hb hK hP 4 0 rfl rfl (inB_vp g_4) dX7_keep_15 ?_
        refine lv_topi (fun u_5 e_u_5 => ?_)
        replace hf := nm_y hf e_u_5
        obtain ⟨g_6, hf⟩ := gd_of hf
        refine va_iast hx hb hK hP (hD _ _) hS 17 0 rfl rfl (inB_vp g_6) dX7_keep_16 (fun H locs hP _ hS => ?_)
        obtain ⟨sm_7, e_sm_7, hf⟩ := nm_of hf
        replace hP : va_P γ.1 vwCl (wM γ am sm_7 sq) H := by rw [e_sm_7]; exact hP
        refine lv_aload_n hx hb dX7_keep_17 rfl (lv_at hl 1 rfl) ?_
        refine lv_bipush (v := 10) hx hb dX7_keep_18 (by decide) ?_
        refine lv_iload_n hx hb dX7_keep_20 rfl (lv_at hl 2 rfl) ?_
        refine lv_iadd hx hb dX7_keep_21 ?_
        refine lv_aload_n hx hb dX7_keep_22 rfl (lv_at hl 0 rfl) ?_
        refine va_get (D := γ.1) (ci := 7) (v := .ref (am 6)) (C := RX7) (T := TX7) (N := 35) hx hb hU uin7 hown hK hP 0 rfl rfl 5 (by decide) (hU _ U974) (fun _ h9 => h9) rfl dX7_keep_23 ?_
        refine lv_iload_n hx hb dX7_keep_26 rfl (lv_at hl 2 rfl) ?_
        obtain ⟨g_8, hf⟩ := gd_of hf
        refine va_iald hx hb hK hP 5 0 rfl rfl (inB_vp g_8) dX7_keep_27 ?_
        refine lv_topi (fun u_9 e_u_9 => ?_)
        replace hf := nm_y hf e_u_9
        obtain ⟨g_10, hf⟩ := gd_of hf
        refine va_iast hx hb hK hP (hD _ _) hS 17 0 rfl rfl (inB_vp g_10) dX7_keep_28 (fun H locs hP _ hS => ?_)
        obtain ⟨sm_11, e_sm_11, hf⟩ := nm_of hf
        replace hP : va_P γ.1 vwCl (wM γ am sm_11 sq) H := by rw [e_sm_11]; exact hP
        refine lv_aload_n hx hb dX7_keep_29 rfl (lv_at hl 1 rfl) ?_
        refine lv_bipush (v := 20) hx hb dX7_keep_30 (by decide) ?_
        refine lv_iload_n hx hb dX7_keep_32 rfl (lv_at hl 2 rfl) ?_
        refine lv_iadd hx hb dX7_keep_33 ?_
        refine lv_aload_n hx hb dX7_keep_34 rfl (lv_at hl 0 rfl) ?_
        refine va_get (D := γ.1) (ci := 7) (v := .ref (am 7)) (C := RX7) (T := TX7) (N := 35) hx hb hU uin7 hown hK hP 0 rfl rfl 6 (by decide) (hU _ U975) (fun _ h9 => h9) rfl dX7_keep_35 ?_
        refine lv_iload_n hx hb dX7_keep_38 rfl (lv_at hl 2 rfl) ?_
        obtain ⟨g_12, hf⟩ := gd_of hf
        refine va_iald hx hb hK hP 6 0 rfl rfl (inB_vp g_12) dX7_keep_39 ?_
        refine lv_topi (fun u_13 e_u_13 => ?_)
        replace hf := nm_y hf e_u_13
        obtain ⟨g_14, hf⟩ := gd_of hf
        refine va_iast hx hb hK hP (hD _ _) hS 17 0 rfl rfl (inB_vp g_14) dX7_keep_40 (fun H locs hP _ hS => ?_)
        obtain ⟨sm_15, e_sm_15, hf⟩ := nm_of hf
        replace hP : va_P γ.1 vwCl (wM γ am sm_15 sq) H := by rw [e_sm_15]; exact hP
        refine lv_aload_n hx hb dX7_keep_41 rfl (lv_at hl 1 rfl) ?_
        refine lv_bipush (v := 30) hx hb dX7_keep_42 (by decide) ?_
        refine lv_iload_n hx hb dX7_keep_44 rfl (lv_at hl 2 rfl) ?_
        refine lv_iadd hx hb dX7_keep_45 ?_
        refine lv_aload_n hx hb dX7_keep_46 rfl (lv_at hl 0 rfl) ?_
        refine va_get (D := γ.1) (ci := 7) (v := .ref (am 8)) (C := RX7) (T := TX7) (N := 35) hx hb hU uin7 hown hK hP 0 rfl rfl 7 (by decide) (hU _ U976) (fun _ h9 => h9) rfl dX7_keep_47 ?_
        refine lv_iload_n hx hb dX7_keep_50 rfl (lv_at hl 2 rfl) ?_
        obtain ⟨g_16, hf⟩ := gd_of hf
        refine va_iald hx hb hK hP 7 0 rfl rfl (inB_vp g_16) dX7_keep_51 ?_
        refine lv_topi (fun u_17 e_u_17 => ?_)
        replace hf := nm_y hf e_u_17
        obtain ⟨g_18, hf⟩ := gd_of hf
        refine va_iast hx hb hK hP (hD _ _) hS 17 0 rfl rfl (inB_vp g_18) dX7_keep_52 (fun H locs hP _ hS => ?_)
        obtain ⟨sm_19, e_sm_19, hf⟩ := nm_of hf
        replace hP : va_P γ.1 vwCl (wM γ am sm_19 sq) H := by rw [e_sm_19]; exact hP
        refine lv_aload_n hx hb dX7_keep_53 rfl (lv_at hl 1 rfl) ?_
        refine lv_bipush (v := 40) hx hb dX7_keep_54 (by decide) ?_
        refine lv_iload_n hx hb dX7_keep_56 rfl (lv_at hl 2 rfl) ?_
        refine lv_iadd hx hb dX7_keep_57 ?_
        refine lv_aload_n hx hb dX7_keep_58 rfl (lv_at hl 0 rfl) ?_
        refine va_get (D := γ.1) (ci := 7) (v := .ref (am 9)) (C := RX7) (T := TX7) (N := 35) hx hb hU uin7 hown hK hP 0 rfl rfl 8 (by decide) (hU _ U977) (fun _ h9 => h9) rfl dX7_keep_59 ?_
        refine lv_iload_n hx hb dX7_keep_62 rfl (lv_at hl 2 rfl) ?_
        obtain ⟨g_20, hf⟩ := gd_of hf
        refine va_iald hx hb hK hP 8 0 rfl rfl (inB_vp g_20) dX7_keep_63 ?_
        refine lv_topi (fun u_21 e_u_21 => ?_)
        replace hf := nm_y hf e_u_21
        obtain ⟨g_22, hf⟩ := gd_of hf
        refine va_iast hx hb hK hP (hD _ _) hS 17 0 rfl rfl (inB_vp g_22) dX7_keep_64 (fun H locs hP _ hS => ?_)
        obtain ⟨sm_23, e_sm_23, hf⟩ := nm_of hf
        replace hP : va_P γ.1 vwCl (wM γ am sm_23 sq) H := by rw [e_sm_23]; exact hP
        refine lv_aload_n hx hb dX7_keep_65 rfl (lv_at hl 1 rfl) ?_
        refine lv_bipush (v := 50) hx hb dX7_keep_66 (by decide) ?_
        refine lv_iload_n hx hb dX7_keep_68 rfl (lv_at hl 2 rfl) ?_
        refine lv_iadd hx hb dX7_keep_69 ?_
        refine lv_aload_n hx hb dX7_keep_70 rfl (lv_at hl 0 rfl) ?_
        refine va_get (D := γ.1) (ci := 7) (v := .ref (am 10)) (C := RX7) (T := TX7) (N := 35) hx hb hU uin7 hown hK hP 0 rfl rfl 9 (by decide) (hU _ U978) (fun _ h9 => h9) rfl dX7_keep_71 ?_
        refine lv_iload_n hx hb dX7_keep_74 rfl (lv_at hl 2 rfl) ?_
        obtain ⟨g_24, hf⟩ := gd_of hf
        refine va_iald hx hb hK hP 9 0 rfl rfl (inB_vp g_24) dX7_keep_75 ?_
        refine lv_topi (fun u_25 e_u_25 => ?_)
        replace hf := nm_y hf e_u_25
        obtain ⟨g_26, hf⟩ := gd_of hf
        refine va_iast hx hb hK hP (hD _ _) hS 17 0 rfl rfl (inB_vp g_26) dX7_keep_76 (fun H locs hP _ hS => ?_)
        obtain ⟨sm_27, e_sm_27, hf⟩ := nm_of hf
        replace hP : va_P γ.1 vwCl (wM γ am sm_27 sq) H := by rw [e_sm_27]; exact hP
        obtain ⟨x2_28, e_x2_28⟩ : ∃ y : Int32, y = x2_1 + (1 : Int32) := ⟨_, rfl⟩
        replace hf := nm_y hf e_x2_28
        refine lv_iinc (v := x2_28) (lv' := [(2, .int x2_28), (0, .ref (am 0)), (1, .ref (am (25)))]) hx hb dX7_keep_77 hl (k := 2) rfl (by rw [e_x2_28]; rfl) (by decide) rfl (fun ls hl => ?_)
        refine lv_goto (tgt := 2) hx hb dX7_keep_80 (by decide) ?_
        exact ih x2_28 sm_27 _ _ _ hf hP hS (lv_sub hl [1, 2, 0] rfl)
  have L85 : ∀ (K109 : GS → Option (GS)) (HK109 : ∀ (zsm : GS) (H : Heap) (locs : List Loc) (ls : Array Slot), K109 zsm = some sm_z → va_P γ.1 vwCl (wM γ am zsm sq) H → va_S A s.heap H locs → lv_has ls 3 [(0, .ref (am 0)), (1, .ref (am (25)))] → W p l e (rmK 0 0) s m ([.ref (am 0), .ref (am (25))] : List Value).toArray below meth c H locs 0 0 (MQ below (KQ γ A none (wM γ am sm_z sq)) ([.ref (am 0), .ref (am (25))] : List Value).toArray s 0 0 A) (F0 m 109 ls [])) (n : Nat) (x2_30 : Int32) (sm_31 : GS) (H : Heap) (locs : List Loc) (ls : Array Slot), f_X7_keep_L85 25 K109 n x2_30 sm_31 = some sm_z → va_P γ.1 vwCl (wM γ am sm_31 sq) H → va_S A s.heap H locs → lv_has ls 3 [(0, .ref (am 0)), (1, .ref (am (25))), (2, .int x2_30)] → W p l e (rmK 0 0) s m ([.ref (am 0), .ref (am (25))] : List Value).toArray below meth c H locs 0 0 (MQ below (KQ γ A none (wM γ am sm_z sq)) ([.ref (am 0), .ref (am (25))] : List Value).toArray s 0 0 A) (F0 m 85 ls []) := by
    intro K109 HK109
    intro n
    induction n with
    | zero =>
      intro x2_30 sm_31 H locs ls hf
      have hf : none = some _ := hf
      cases hf
    | succ n ih =>
      intro x2_30 sm_31 H locs ls hf hP hS hl
      rw [f_X7_keep_L85.eq_2] at hf
      refine lv_iload_n hx hb dX7_keep_85 rfl (lv_at hl 2 rfl) ?_
      refine lv_bipush (v := 100) hx hb dX7_keep_86 (by decide) ?_
      refine lv_icmp_ge (tgt := 109) hx hb dX7_keep_88 (by decide) (fun c_32 => ?_) (fun c_32 => ?_)
      · replace hf := ite_p c_32 hf
        exact HK109 sm_31 _ _ _ hf hP hS (lv_sub hl [0, 1] rfl)
      · replace hf := ite_n c_32 hf
        refine lv_aload_n hx hb dX7_keep_91 rfl (lv_at hl 1 rfl) ?_
        refine lv_bipush (v := 60) hx hb dX7_keep_92 (by decide) ?_
        refine lv_iload_n hx hb dX7_keep_94 rfl (lv_at hl 2 rfl) ?_
        refine lv_iadd hx hb dX7_keep_95 ?_
        refine lv_aload_n hx hb dX7_keep_96 rfl (lv_at hl 0 rfl) ?_
        refine va_get (D := γ.1) (ci := 7) (v := .ref (am 11)) (C := RX7) (T := TX7) (N := 35) hx hb hU uin7 hown hK hP 0 rfl rfl 10 (by decide) (hU _ U979) (fun _ h9 => h9) rfl dX7_keep_97 ?_
        refine lv_iload_n hx hb dX7_keep_100 rfl (lv_at hl 2 rfl) ?_
        obtain ⟨g_33, hf⟩ := gd_of hf
        refine va_iald hx hb hK hP 10 0 rfl rfl (inB_vp g_33) dX7_keep_101 ?_
        refine lv_topi (fun u_34 e_u_34 => ?_)
        replace hf := nm_y hf e_u_34
        obtain ⟨g_35, hf⟩ := gd_of hf
        refine va_iast hx hb hK hP (hD _ _) hS 17 0 rfl rfl (inB_vp g_35) dX7_keep_102 (fun H locs hP _ hS => ?_)
        obtain ⟨sm_36, e_sm_36, hf⟩ := nm_of hf
        replace hP : va_P γ.1 vwCl (wM γ am sm_36 sq) H := by rw [e_sm_36]; exact hP
        obtain ⟨x2_37, e_x2_37⟩ : ∃ y : Int32, y = x2_30 + (1 : Int32) := ⟨_, rfl⟩
        replace hf := nm_y hf e_x2_37
        refine lv_iinc (v := x2_37) (lv' := [(2, .int x2_37), (0, .ref (am 0)), (1, .ref (am (25)))]) hx hb dX7_keep_103 hl (k := 2) rfl (by rw [e_x2_37]; rfl) (by decide) rfl (fun ls hl => ?_)
        refine lv_goto (tgt := 85) hx hb dX7_keep_106 (by decide) ?_
        exact ih x2_37 sm_36 _ _ _ hf hP hS (lv_sub hl [1, 2, 0] rfl)
  have L111 : ∀ (K149 : GS → Option (GS)) (HK149 : ∀ (zsm : GS) (H : Heap) (locs : List Loc) (ls : Array Slot), K149 zsm = some sm_z → va_P γ.1 vwCl (wM γ am zsm sq) H → va_S A s.heap H locs → lv_has ls 3 [(0, .ref (am 0)), (1, .ref (am (25)))] → W p l e (rmK 0 0) s m ([.ref (am 0), .ref (am (25))] : List Value).toArray below meth c H locs 0 0 (MQ below (KQ γ A none (wM γ am sm_z sq)) ([.ref (am 0), .ref (am (25))] : List Value).toArray s 0 0 A) (F0 m 149 ls [])) (n : Nat) (x2_39 : Int32) (sm_40 : GS) (H : Heap) (locs : List Loc) (ls : Array Slot), f_X7_keep_L111 25 K149 n x2_39 sm_40 = some sm_z → va_P γ.1 vwCl (wM γ am sm_40 sq) H → va_S A s.heap H locs → lv_has ls 3 [(0, .ref (am 0)), (1, .ref (am (25))), (2, .int x2_39)] → W p l e (rmK 0 0) s m ([.ref (am 0), .ref (am (25))] : List Value).toArray below meth c H locs 0 0 (MQ below (KQ γ A none (wM γ am sm_z sq)) ([.ref (am 0), .ref (am (25))] : List Value).toArray s 0 0 A) (F0 m 111 ls []) := by
    intro K149 HK149
    intro n
    induction n with
    | zero =>
      intro x2_39 sm_40 H locs ls hf
      have hf : none = some _ := hf
      cases hf
    | succ n ih =>
      intro x2_39 sm_40 H locs ls hf hP hS hl
      rw [f_X7_keep_L111.eq_2] at hf
      refine lv_iload_n hx hb dX7_keep_111 rfl (lv_at hl 2 rfl) ?_
      refine lv_bipush (v := 6) hx hb dX7_keep_112 (by decide) ?_
      refine lv_icmp_ge (tgt := 149) hx hb dX7_keep_114 (by decide) (fun c_41 => ?_) (fun c_41 => ?_)
      · replace hf := ite_p c_41 hf
        exact HK149 sm_40 _ _ _ hf hP hS (lv_sub hl [0, 1] rfl)
      · replace hf := ite_n c_41 hf
        refine lv_aload_n hx hb dX7_keep_117 rfl (lv_at hl 1 rfl) ?_
        refine lv_sipush (v := 160) hx hb dX7_keep_118 (by decide) ?_
        refine lv_iload_n hx hb dX7_keep_121 rfl (lv_at hl 2 rfl) ?_
        refine lv_iadd hx hb dX7_keep_122 ?_
        refine lv_aload_n hx hb dX7_keep_123 rfl (lv_at hl 0 rfl) ?_
        refine va_get (D := γ.1) (ci := 7) (v := .ref (am 13)) (C := RX7) (T := TX7) (N := 35) hx hb hU uin7 hown hK hP 0 rfl rfl 12 (by decide) (hU _ U981) (fun _ h9 => h9) rfl dX7_keep_124 ?_
        refine lv_iload_n hx hb dX7_keep_127 rfl (lv_at hl 2 rfl) ?_
        obtain ⟨g_42, hf⟩ := gd_of hf
        refine va_iald hx hb hK hP 11 0 rfl rfl (inB_vp g_42) dX7_keep_128 ?_
        refine lv_topi (fun u_43 e_u_43 => ?_)
        replace hf := nm_y hf e_u_43
        obtain ⟨g_44, hf⟩ := gd_of hf
        refine va_iast hx hb hK hP (hD _ _) hS 17 0 rfl rfl (inB_vp g_44) dX7_keep_129 (fun H locs hP _ hS => ?_)
        obtain ⟨sm_45, e_sm_45, hf⟩ := nm_of hf
        replace hP : va_P γ.1 vwCl (wM γ am sm_45 sq) H := by rw [e_sm_45]; exact hP
        refine lv_aload_n hx hb dX7_keep_130 rfl (lv_at hl 1 rfl) ?_
        refine lv_sipush (v := 166) hx hb dX7_keep_131 (by decide) ?_
        refine lv_iload_n hx hb dX7_keep_134 rfl (lv_at hl 2 rfl) ?_
        refine lv_iadd hx hb dX7_keep_135 ?_
        refine lv_aload_n hx hb dX7_keep_136 rfl (lv_at hl 0 rfl) ?_
        refine va_get (D := γ.1) (ci := 7) (v := .ref (am 14)) (C := RX7) (T := TX7) (N := 35) hx hb hU uin7 hown hK hP 0 rfl rfl 13 (by decide) (hU _ U982) (fun _ h9 => h9) rfl dX7_keep_137 ?_
        refine lv_iload_n hx hb dX7_keep_140 rfl (lv_at hl 2 rfl) ?_
        obtain ⟨g_46, hf⟩ := gd_of hf
        refine va_iald hx hb hK hP 12 0 rfl rfl (inB_vp g_46) dX7_keep_141 ?_
        refine lv_topi (fun u_47 e_u_47 => ?_)
        replace hf := nm_y hf e_u_47
        obtain ⟨g_48, hf⟩ := gd_of hf
        refine va_iast hx hb hK hP (hD _ _) hS 17 0 rfl rfl (inB_vp g_48) dX7_keep_142 (fun H locs hP _ hS => ?_)
        obtain ⟨sm_49, e_sm_49, hf⟩ := nm_of hf
        replace hP : va_P γ.1 vwCl (wM γ am sm_49 sq) H := by rw [e_sm_49]; exact hP
        obtain ⟨x2_50, e_x2_50⟩ : ∃ y : Int32, y = x2_39 + (1 : Int32) := ⟨_, rfl⟩
        replace hf := nm_y hf e_x2_50
        refine lv_iinc (v := x2_50) (lv' := [(2, .int x2_50), (0, .ref (am 0)), (1, .ref (am (25)))]) hx hb dX7_keep_143 hl (k := 2) rfl (by rw [e_x2_50]; rfl) (by decide) rfl (fun ls hl => ?_)
        refine lv_goto (tgt := 111) hx hb dX7_keep_146 (by decide) ?_
        exact ih x2_50 sm_49 _ _ _ hf hP hS (lv_sub hl [1, 2, 0] rfl)
  have L151 : ∀ (K189 : GS → Option (GS)) (HK189 : ∀ (zsm : GS) (H : Heap) (locs : List Loc) (ls : Array Slot), K189 zsm = some sm_z → va_P γ.1 vwCl (wM γ am zsm sq) H → va_S A s.heap H locs → lv_has ls 3 [(0, .ref (am 0)), (1, .ref (am (25)))] → W p l e (rmK 0 0) s m ([.ref (am 0), .ref (am (25))] : List Value).toArray below meth c H locs 0 0 (MQ below (KQ γ A none (wM γ am sm_z sq)) ([.ref (am 0), .ref (am (25))] : List Value).toArray s 0 0 A) (F0 m 189 ls [])) (n : Nat) (x2_52 : Int32) (sm_53 : GS) (H : Heap) (locs : List Loc) (ls : Array Slot), f_X7_keep_L151 25 K189 n x2_52 sm_53 = some sm_z → va_P γ.1 vwCl (wM γ am sm_53 sq) H → va_S A s.heap H locs → lv_has ls 3 [(0, .ref (am 0)), (1, .ref (am (25))), (2, .int x2_52)] → W p l e (rmK 0 0) s m ([.ref (am 0), .ref (am (25))] : List Value).toArray below meth c H locs 0 0 (MQ below (KQ γ A none (wM γ am sm_z sq)) ([.ref (am 0), .ref (am (25))] : List Value).toArray s 0 0 A) (F0 m 151 ls []) := by
    intro K189 HK189
    intro n
    induction n with
    | zero =>
      intro x2_52 sm_53 H locs ls hf
      have hf : none = some _ := hf
      cases hf
    | succ n ih =>
      intro x2_52 sm_53 H locs ls hf hP hS hl
      rw [f_X7_keep_L151.eq_2] at hf
      refine lv_iload_n hx hb dX7_keep_151 rfl (lv_at hl 2 rfl) ?_
      refine lv_bipush (v := 8) hx hb dX7_keep_152 (by decide) ?_
      refine lv_icmp_ge (tgt := 189) hx hb dX7_keep_154 (by decide) (fun c_54 => ?_) (fun c_54 => ?_)
      · replace hf := ite_p c_54 hf
        exact HK189 sm_53 _ _ _ hf hP hS (lv_sub hl [0, 1] rfl)
      · replace hf := ite_n c_54 hf
        refine lv_aload_n hx hb dX7_keep_157 rfl (lv_at hl 1 rfl) ?_
        refine lv_sipush (v := 172) hx hb dX7_keep_158 (by decide) ?_
        refine lv_iload_n hx hb dX7_keep_161 rfl (lv_at hl 2 rfl) ?_
        refine lv_iadd hx hb dX7_keep_162 ?_
        refine lv_aload_n hx hb dX7_keep_163 rfl (lv_at hl 0 rfl) ?_
        refine va_get (D := γ.1) (ci := 7) (v := .ref (am 16)) (C := RX7) (T := TX7) (N := 35) hx hb hU uin7 hown hK hP 0 rfl rfl 15 (by decide) (hU _ U984) (fun _ h9 => h9) rfl dX7_keep_164 ?_
        refine lv_iload_n hx hb dX7_keep_167 rfl (lv_at hl 2 rfl) ?_
        obtain ⟨g_55, hf⟩ := gd_of hf
        refine va_iald hx hb hK hP 13 0 rfl rfl (inB_vp g_55) dX7_keep_168 ?_
        refine lv_topi (fun u_56 e_u_56 => ?_)
        replace hf := nm_y hf e_u_56
        obtain ⟨g_57, hf⟩ := gd_of hf
        refine va_iast hx hb hK hP (hD _ _) hS 17 0 rfl rfl (inB_vp g_57) dX7_keep_169 (fun H locs hP _ hS => ?_)
        obtain ⟨sm_58, e_sm_58, hf⟩ := nm_of hf
        replace hP : va_P γ.1 vwCl (wM γ am sm_58 sq) H := by rw [e_sm_58]; exact hP
        refine lv_aload_n hx hb dX7_keep_170 rfl (lv_at hl 1 rfl) ?_
        refine lv_sipush (v := 180) hx hb dX7_keep_171 (by decide) ?_
        refine lv_iload_n hx hb dX7_keep_174 rfl (lv_at hl 2 rfl) ?_
        refine lv_iadd hx hb dX7_keep_175 ?_
        refine lv_aload_n hx hb dX7_keep_176 rfl (lv_at hl 0 rfl) ?_
        refine va_get (D := γ.1) (ci := 7) (v := .ref (am 17)) (C := RX7) (T := TX7) (N := 35) hx hb hU uin7 hown hK hP 0 rfl rfl 16 (by decide) (hU _ U985) (fun _ h9 => h9) rfl dX7_keep_177 ?_
        refine lv_iload_n hx hb dX7_keep_180 rfl (lv_at hl 2 rfl) ?_
        obtain ⟨g_59, hf⟩ := gd_of hf
        refine va_iald hx hb hK hP 14 0 rfl rfl (inB_vp g_59) dX7_keep_181 ?_
        refine lv_topi (fun u_60 e_u_60 => ?_)
        replace hf := nm_y hf e_u_60
        obtain ⟨g_61, hf⟩ := gd_of hf
        refine va_iast hx hb hK hP (hD _ _) hS 17 0 rfl rfl (inB_vp g_61) dX7_keep_182 (fun H locs hP _ hS => ?_)
        obtain ⟨sm_62, e_sm_62, hf⟩ := nm_of hf
        replace hP : va_P γ.1 vwCl (wM γ am sm_62 sq) H := by rw [e_sm_62]; exact hP
        obtain ⟨x2_63, e_x2_63⟩ : ∃ y : Int32, y = x2_52 + (1 : Int32) := ⟨_, rfl⟩
        replace hf := nm_y hf e_x2_63
        refine lv_iinc (v := x2_63) (lv' := [(2, .int x2_63), (0, .ref (am 0)), (1, .ref (am (25)))]) hx hb dX7_keep_183 hl (k := 2) rfl (by rw [e_x2_63]; rfl) (by decide) rfl (fun ls hl => ?_)
        refine lv_goto (tgt := 151) hx hb dX7_keep_186 (by decide) ?_
        exact ih x2_63 sm_62 _ _ _ hf hP hS (lv_sub hl [1, 2, 0] rfl)
  unfold f_X7_keep at hf
  refine lv_iconst (v := 0) hx hb dX7_keep_0 (by decide) ?_
  refine lv_istore_n (lv' := [(2, .int (0 : Int32)), (0, .ref (am 0)), (1, .ref (am (25)))]) hx hb dX7_keep_1 rfl hl (by decide) rfl (fun ls hl => ?_)
  refine L2 _ (fun sm_29 H locs ls hf hP hS hl => ?_) FU (0 : Int32) sm _ _ _ hf hP hS (lv_sub hl [1, 2, 0] rfl)
  refine lv_iconst (v := 0) hx hb dX7_keep_83 (by decide) ?_
  refine lv_istore_n (lv' := [(2, .int (0 : Int32)), (0, .ref (am 0)), (1, .ref (am (25)))]) hx hb dX7_keep_84 rfl hl (by decide) rfl (fun ls hl => ?_)
  refine L85 _ (fun sm_38 H locs ls hf hP hS hl => ?_) FU (0 : Int32) sm_29 _ _ _ hf hP hS (lv_sub hl [1, 2, 0] rfl)
  refine lv_iconst (v := 0) hx hb dX7_keep_109 (by decide) ?_
  refine lv_istore_n (lv' := [(2, .int (0 : Int32)), (0, .ref (am 0)), (1, .ref (am (25)))]) hx hb dX7_keep_110 rfl hl (by decide) rfl (fun ls hl => ?_)
  refine L111 _ (fun sm_51 H locs ls hf hP hS hl => ?_) FU (0 : Int32) sm_38 _ _ _ hf hP hS (lv_sub hl [1, 2, 0] rfl)
  refine lv_iconst (v := 0) hx hb dX7_keep_149 (by decide) ?_
  refine lv_istore_n (lv' := [(2, .int (0 : Int32)), (0, .ref (am 0)), (1, .ref (am (25)))]) hx hb dX7_keep_150 rfl hl (by decide) rfl (fun ls hl => ?_)
  refine L151 _ (fun sm_64 H locs ls hf hP hS hl => ?_) FU (0 : Int32) sm_51 _ _ _ hf hP hS (lv_sub hl [1, 2, 0] rfl)
  refine lv_aload_n hx hb dX7_keep_189 rfl (lv_at hl 1 rfl) ?_
  refine lv_sipush (v := 188) hx hb dX7_keep_190 (by decide) ?_
  refine lv_aload_n hx hb dX7_keep_193 rfl (lv_at hl 0 rfl) ?_
  refine va_get (D := γ.1) (ci := 7) (v := .int (sm_64 0 3)) (C := RX7) (T := TX7) (N := 35) hx hb hU uin7 hown hK hP 0 rfl rfl 3 (by decide) (hU _ U972) (fun _ h9 => h9) rfl dX7_keep_194 ?_
  refine lv_topi (fun u_65 e_u_65 => ?_)
  replace hf := nm_y hf e_u_65
  refine va_iast hx hb hK hP (hD _ _) hS 17 0 rfl rfl (inB_vp (n := 193) (by decide)) dX7_keep_197 (fun H locs hP _ hS => ?_)
  obtain ⟨sm_66, e_sm_66, hf⟩ := nm_of hf
  replace hP : va_P γ.1 vwCl (wM γ am sm_66 sq) H := by rw [e_sm_66]; exact hP
  refine lv_aload_n hx hb dX7_keep_198 rfl (lv_at hl 1 rfl) ?_
  refine lv_sipush (v := 189) hx hb dX7_keep_199 (by decide) ?_
  refine lv_aload_n hx hb dX7_keep_202 rfl (lv_at hl 0 rfl) ?_
  refine va_get (D := γ.1) (ci := 7) (v := .int (sm_66 0 11)) (C := RX7) (T := TX7) (N := 35) hx hb hU uin7 hown hK hP 0 rfl rfl 11 (by decide) (hU _ U980) (fun _ h9 => h9) rfl dX7_keep_203 ?_
  refine lv_topi (fun u_67 e_u_67 => ?_)
  replace hf := nm_y hf e_u_67
  refine va_iast hx hb hK hP (hD _ _) hS 17 0 rfl rfl (inB_vp (n := 193) (by decide)) dX7_keep_206 (fun H locs hP _ hS => ?_)
  obtain ⟨sm_68, e_sm_68, hf⟩ := nm_of hf
  replace hP : va_P γ.1 vwCl (wM γ am sm_68 sq) H := by rw [e_sm_68]; exact hP
  refine lv_aload_n hx hb dX7_keep_207 rfl (lv_at hl 1 rfl) ?_
  refine lv_sipush (v := 190) hx hb dX7_keep_208 (by decide) ?_
  refine lv_aload_n hx hb dX7_keep_211 rfl (lv_at hl 0 rfl) ?_
  refine va_get (D := γ.1) (ci := 7) (v := .int (sm_68 0 14)) (C := RX7) (T := TX7) (N := 35) hx hb hU uin7 hown hK hP 0 rfl rfl 14 (by decide) (hU _ U983) (fun _ h9 => h9) rfl dX7_keep_212 ?_
  refine lv_topi (fun u_69 e_u_69 => ?_)
  replace hf := nm_y hf e_u_69
  refine va_iast hx hb hK hP (hD _ _) hS 17 0 rfl rfl (inB_vp (n := 193) (by decide)) dX7_keep_215 (fun H locs hP _ hS => ?_)
  obtain ⟨sm_70, e_sm_70, hf⟩ := nm_of hf
  replace hP : va_P γ.1 vwCl (wM γ am sm_70 sq) H := by rw [e_sm_70]; exact hP
  refine lv_aload_n hx hb dX7_keep_216 rfl (lv_at hl 1 rfl) ?_
  refine lv_sipush (v := 191) hx hb dX7_keep_217 (by decide) ?_
  refine lv_aload_n hx hb dX7_keep_220 rfl (lv_at hl 0 rfl) ?_
  refine va_get (D := γ.1) (ci := 7) (v := .int (sm_70 0 17)) (C := RX7) (T := TX7) (N := 35) hx hb hU uin7 hown hK hP 0 rfl rfl 17 (by decide) (hU _ U986) (fun _ h9 => h9) rfl dX7_keep_221 ?_
  refine lv_topi (fun u_71 e_u_71 => ?_)
  replace hf := nm_y hf e_u_71
  refine va_iast hx hb hK hP (hD _ _) hS 17 0 rfl rfl (inB_vp (n := 193) (by decide)) dX7_keep_224 (fun H locs hP _ hS => ?_)
  obtain ⟨sm_72, e_sm_72, hf⟩ := nm_of hf
  replace hP : va_P γ.1 vwCl (wM γ am sm_72 sq) H := by rw [e_sm_72]; exact hP
  refine lv_aload_n hx hb dX7_keep_225 rfl (lv_at hl 1 rfl) ?_
  refine lv_sipush (v := 192) hx hb dX7_keep_226 (by decide) ?_
  refine lv_aload_n hx hb dX7_keep_229 rfl (lv_at hl 0 rfl) ?_
  refine va_get (D := γ.1) (ci := 7) (v := .int (sm_72 0 18)) (C := RX7) (T := TX7) (N := 35) hx hb hU uin7 hown hK hP 0 rfl rfl 18 (by decide) (hU _ U987) (fun _ h9 => h9) rfl dX7_keep_230 ?_
  refine lv_topi (fun u_73 e_u_73 => ?_)
  replace hf := nm_y hf e_u_73
  refine va_iast hx hb hK hP (hD _ _) hS 17 0 rfl rfl (inB_vp (n := 193) (by decide)) dX7_keep_233 (fun H locs hP _ hS => ?_)
  obtain ⟨sm_74, e_sm_74, hf⟩ := nm_of hf
  replace hP : va_P γ.1 vwCl (wM γ am sm_74 sq) H := by rw [e_sm_74]; exact hP
  obtain rfl := Option.some.inj hf
  exact kt_vret C0 hP hS dX7_keep_234
set_option maxHeartbeats 4000000 in
set_option maxRecDepth 100000 in
theorem c_X7_keep_26 (l : Launch) (γ : Gm) (am : Nat → Nat) {sm : GS} {sq : Nat → Int64} {sm_z : GS} (hf : f_X7_keep 26 sm = some sm_z) : Kt l γ yX7_keep (Cond.code yX7_keep cX7_keep 3 none :: U) 0 0 [.ref (am 0), .ref (am (26))] (wM γ am sm sq) none (wM γ am sm_z sq) := by
  refine Kt.of (by decide) rfl (Nat.le_of_ble_eq_true rfl) rfl ?_
  intro p e s m below meth c A ls C0 hP hD0 hS hl
  obtain ⟨hx, hb, hml, hown, hts, hr, hlocks, hK, hE, hA⟩ := id C0
  have hU : ∀ w ∈ U, w.before _ s = true := fun w h => hts w (List.mem_cons_of_mem _ h)
  have hD : ∀ (sm : GS) (sq : Nat → Int64), va_D A (wM γ am sm sq) := fun _ _ => hD0.fst rfl
  have hl : lv_has ls 3 [(0, .ref (am 0)), (1, .ref (am (26)))] := hl
  have L2 : ∀ (K83 : GS → Option (GS)) (HK83 : ∀ (zsm : GS) (H : Heap) (locs : List Loc) (ls : Array Slot), K83 zsm = some sm_z → va_P γ.1 vwCl (wM γ am zsm sq) H → va_S A s.heap H locs → lv_has ls 3 [(0, .ref (am 0)), (1, .ref (am (26)))] → W p l e (rmK 0 0) s m ([.ref (am 0), .ref (am (26))] : List Value).toArray below meth c H locs 0 0 (MQ below (KQ γ A none (wM γ am sm_z sq)) ([.ref (am 0), .ref (am (26))] : List Value).toArray s 0 0 A) (F0 m 83 ls [])) (n : Nat) (x2_1 : Int32) (sm_2 : GS) (H : Heap) (locs : List Loc) (ls : Array Slot), f_X7_keep_L2 26 K83 n x2_1 sm_2 = some sm_z → va_P γ.1 vwCl (wM γ am sm_2 sq) H → va_S A s.heap H locs → lv_has ls 3 [(0, .ref (am 0)), (1, .ref (am (26))), (2, .int x2_1)] → W p l e (rmK 0 0) s m ([.ref (am 0), .ref (am (26))] : List Value).toArray below meth c H locs 0 0 (MQ below (KQ γ A none (wM γ am sm_z sq)) ([.ref (am 0), .ref (am (26))] : List Value).toArray s 0 0 A) (F0 m 2 ls []) := by
    intro K83 HK83
    intro n
    induction n with
    | zero =>
      intro x2_1 sm_2 H locs ls hf
      have hf : none = some _ := hf
      cases hf
    | succ n ih =>
      intro x2_1 sm_2 H locs ls hf hP hS hl
      rw [f_X7_keep_L2.eq_2] at hf
      refine lv_iload_n hx hb dX7_keep_2 rfl (lv_at hl 2 rfl) ?_
      refine lv_bipush (v := 10) hx hb dX7_keep_3 (by decide) ?_
      refine lv_icmp_ge (tgt := 83) hx hb dX7_keep_5 (by decide) (fun c_3 => ?_) (fun c_3 => ?_)
      · replace hf := ite_p c_3 hf
        exact HK83 sm_2 _ _ _ hf hP hS (lv_sub hl [0, 1] rfl)
      · replace hf := ite_n c_3 hf
        refine lv_aload_n hx hb dX7_keep_8 rfl (lv_at hl 1 rfl) ?_
        refine lv_iload_n hx hb dX7_keep_9 rfl (lv_at hl 2 rfl) ?_
        refine lv_aload_n hx hb dX7_keep_10 rfl (lv_at hl 0 rfl) ?_
        refine va_get (D := γ.1) (ci := 7) (v := .ref (am 5)) (C := RX7) (T := TX7) (N := 35) hx hb hU uin7 hown hK hP 0 rfl rfl 4 (by decide) (hU _ U973) (fun _ h9 => h9) rfl dX7_keep_11 ?_
        refine lv_iload_n hx hb dX7_keep_14 rfl (lv_at hl 2 rfl) ?_
        obtain ⟨g_4, hf⟩ := gd_of hf
        refine va_iald hx hb hK hP 4 0 rfl rfl (inB_vp g_4) dX7_keep_15 ?_
        refine lv_topi (fun u_5 e_u_5 => ?_)
        replace hf := nm_y hf e_u_5
        obtain ⟨g_6, hf⟩ := gd_of hf
        refine va_iast hx hb hK hP (hD _ _) hS 18 0 rfl rfl (inB_vp g_6) dX7_keep_16 (fun H locs hP _ hS => ?_)
        obtain ⟨sm_7, e_sm_7, hf⟩ := nm_of hf
        replace hP : va_P γ.1 vwCl (wM γ am sm_7 sq) H := by rw [e_sm_7]; exact hP
        refine lv_aload_n hx hb dX7_keep_17 rfl (lv_at hl 1 rfl) ?_
        refine lv_bipush (v := 10) hx hb dX7_keep_18 (by decide) ?_
        refine lv_iload_n hx hb dX7_keep_20 rfl (lv_at hl 2 rfl) ?_
        refine lv_iadd hx hb dX7_keep_21 ?_
        refine lv_aload_n hx hb dX7_keep_22 rfl (lv_at hl 0 rfl) ?_
        refine va_get (D := γ.1) (ci := 7) (v := .ref (am 6)) (C := RX7) (T := TX7) (N := 35) hx hb hU uin7 hown hK hP 0 rfl rfl 5 (by decide) (hU _ U974) (fun _ h9 => h9) rfl dX7_keep_23 ?_
        refine lv_iload_n hx hb dX7_keep_26 rfl (lv_at hl 2 rfl) ?_
        obtain ⟨g_8, hf⟩ := gd_of hf
        refine va_iald hx hb hK hP 5 0 rfl rfl (inB_vp g_8) dX7_keep_27 ?_
        refine lv_topi (fun u_9 e_u_9 => ?_)
        replace hf := nm_y hf e_u_9
        obtain ⟨g_10, hf⟩ := gd_of hf
        refine va_iast hx hb hK hP (hD _ _) hS 18 0 rfl rfl (inB_vp g_10) dX7_keep_28 (fun H locs hP _ hS => ?_)
        obtain ⟨sm_11, e_sm_11, hf⟩ := nm_of hf
        replace hP : va_P γ.1 vwCl (wM γ am sm_11 sq) H := by rw [e_sm_11]; exact hP
        refine lv_aload_n hx hb dX7_keep_29 rfl (lv_at hl 1 rfl) ?_
        refine lv_bipush (v := 20) hx hb dX7_keep_30 (by decide) ?_
        refine lv_iload_n hx hb dX7_keep_32 rfl (lv_at hl 2 rfl) ?_
        refine lv_iadd hx hb dX7_keep_33 ?_
        refine lv_aload_n hx hb dX7_keep_34 rfl (lv_at hl 0 rfl) ?_
        refine va_get (D := γ.1) (ci := 7) (v := .ref (am 7)) (C := RX7) (T := TX7) (N := 35) hx hb hU uin7 hown hK hP 0 rfl rfl 6 (by decide) (hU _ U975) (fun _ h9 => h9) rfl dX7_keep_35 ?_
        refine lv_iload_n hx hb dX7_keep_38 rfl (lv_at hl 2 rfl) ?_
        obtain ⟨g_12, hf⟩ := gd_of hf
        refine va_iald hx hb hK hP 6 0 rfl rfl (inB_vp g_12) dX7_keep_39 ?_
        refine lv_topi (fun u_13 e_u_13 => ?_)
        replace hf := nm_y hf e_u_13
        obtain ⟨g_14, hf⟩ := gd_of hf
        refine va_iast hx hb hK hP (hD _ _) hS 18 0 rfl rfl (inB_vp g_14) dX7_keep_40 (fun H locs hP _ hS => ?_)
        obtain ⟨sm_15, e_sm_15, hf⟩ := nm_of hf
        replace hP : va_P γ.1 vwCl (wM γ am sm_15 sq) H := by rw [e_sm_15]; exact hP
        refine lv_aload_n hx hb dX7_keep_41 rfl (lv_at hl 1 rfl) ?_
        refine lv_bipush (v := 30) hx hb dX7_keep_42 (by decide) ?_
        refine lv_iload_n hx hb dX7_keep_44 rfl (lv_at hl 2 rfl) ?_
        refine lv_iadd hx hb dX7_keep_45 ?_
        refine lv_aload_n hx hb dX7_keep_46 rfl (lv_at hl 0 rfl) ?_
        refine va_get (D := γ.1) (ci := 7) (v := .ref (am 8)) (C := RX7) (T := TX7) (N := 35) hx hb hU uin7 hown hK hP 0 rfl rfl 7 (by decide) (hU _ U976) (fun _ h9 => h9) rfl dX7_keep_47 ?_
        refine lv_iload_n hx hb dX7_keep_50 rfl (lv_at hl 2 rfl) ?_
        obtain ⟨g_16, hf⟩ := gd_of hf
        refine va_iald hx hb hK hP 7 0 rfl rfl (inB_vp g_16) dX7_keep_51 ?_
        refine lv_topi (fun u_17 e_u_17 => ?_)
        replace hf := nm_y hf e_u_17
        obtain ⟨g_18, hf⟩ := gd_of hf
        refine va_iast hx hb hK hP (hD _ _) hS 18 0 rfl rfl (inB_vp g_18) dX7_keep_52 (fun H locs hP _ hS => ?_)
        obtain ⟨sm_19, e_sm_19, hf⟩ := nm_of hf
        replace hP : va_P γ.1 vwCl (wM γ am sm_19 sq) H := by rw [e_sm_19]; exact hP
        refine lv_aload_n hx hb dX7_keep_53 rfl (lv_at hl 1 rfl) ?_
        refine lv_bipush (v := 40) hx hb dX7_keep_54 (by decide) ?_
        refine lv_iload_n hx hb dX7_keep_56 rfl (lv_at hl 2 rfl) ?_
        refine lv_iadd hx hb dX7_keep_57 ?_
        refine lv_aload_n hx hb dX7_keep_58 rfl (lv_at hl 0 rfl) ?_
        refine va_get (D := γ.1) (ci := 7) (v := .ref (am 9)) (C := RX7) (T := TX7) (N := 35) hx hb hU uin7 hown hK hP 0 rfl rfl 8 (by decide) (hU _ U977) (fun _ h9 => h9) rfl dX7_keep_59 ?_
        refine lv_iload_n hx hb dX7_keep_62 rfl (lv_at hl 2 rfl) ?_
        obtain ⟨g_20, hf⟩ := gd_of hf
        refine va_iald hx hb hK hP 8 0 rfl rfl (inB_vp g_20) dX7_keep_63 ?_
        refine lv_topi (fun u_21 e_u_21 => ?_)
        replace hf := nm_y hf e_u_21
        obtain ⟨g_22, hf⟩ := gd_of hf
        refine va_iast hx hb hK hP (hD _ _) hS 18 0 rfl rfl (inB_vp g_22) dX7_keep_64 (fun H locs hP _ hS => ?_)
        obtain ⟨sm_23, e_sm_23, hf⟩ := nm_of hf
        replace hP : va_P γ.1 vwCl (wM γ am sm_23 sq) H := by rw [e_sm_23]; exact hP
        refine lv_aload_n hx hb dX7_keep_65 rfl (lv_at hl 1 rfl) ?_
        refine lv_bipush (v := 50) hx hb dX7_keep_66 (by decide) ?_
        refine lv_iload_n hx hb dX7_keep_68 rfl (lv_at hl 2 rfl) ?_
        refine lv_iadd hx hb dX7_keep_69 ?_
        refine lv_aload_n hx hb dX7_keep_70 rfl (lv_at hl 0 rfl) ?_
        refine va_get (D := γ.1) (ci := 7) (v := .ref (am 10)) (C := RX7) (T := TX7) (N := 35) hx hb hU uin7 hown hK hP 0 rfl rfl 9 (by decide) (hU _ U978) (fun _ h9 => h9) rfl dX7_keep_71 ?_
        refine lv_iload_n hx hb dX7_keep_74 rfl (lv_at hl 2 rfl) ?_
        obtain ⟨g_24, hf⟩ := gd_of hf
        refine va_iald hx hb hK hP 9 0 rfl rfl (inB_vp g_24) dX7_keep_75 ?_
        refine lv_topi (fun u_25 e_u_25 => ?_)
        replace hf := nm_y hf e_u_25
        obtain ⟨g_26, hf⟩ := gd_of hf
        refine va_iast hx hb hK hP (hD _ _) hS 18 0 rfl rfl (inB_vp g_26) dX7_keep_76 (fun H locs hP _ hS => ?_)
        obtain ⟨sm_27, e_sm_27, hf⟩ := nm_of hf
        replace hP : va_P γ.1 vwCl (wM γ am sm_27 sq) H := by rw [e_sm_27]; exact hP
        obtain ⟨x2_28, e_x2_28⟩ : ∃ y : Int32, y = x2_1 + (1 : Int32) := ⟨_, rfl⟩
        replace hf := nm_y hf e_x2_28
        refine lv_iinc (v := x2_28) (lv' := [(2, .int x2_28), (0, .ref (am 0)), (1, .ref (am (26)))]) hx hb dX7_keep_77 hl (k := 2) rfl (by rw [e_x2_28]; rfl) (by decide) rfl (fun ls hl => ?_)
        refine lv_goto (tgt := 2) hx hb dX7_keep_80 (by decide) ?_
        exact ih x2_28 sm_27 _ _ _ hf hP hS (lv_sub hl [1, 2, 0] rfl)
  have L85 : ∀ (K109 : GS → Option (GS)) (HK109 : ∀ (zsm : GS) (H : Heap) (locs : List Loc) (ls : Array Slot), K109 zsm = some sm_z → va_P γ.1 vwCl (wM γ am zsm sq) H → va_S A s.heap H locs → lv_has ls 3 [(0, .ref (am 0)), (1, .ref (am (26)))] → W p l e (rmK 0 0) s m ([.ref (am 0), .ref (am (26))] : List Value).toArray below meth c H locs 0 0 (MQ below (KQ γ A none (wM γ am sm_z sq)) ([.ref (am 0), .ref (am (26))] : List Value).toArray s 0 0 A) (F0 m 109 ls [])) (n : Nat) (x2_30 : Int32) (sm_31 : GS) (H : Heap) (locs : List Loc) (ls : Array Slot), f_X7_keep_L85 26 K109 n x2_30 sm_31 = some sm_z → va_P γ.1 vwCl (wM γ am sm_31 sq) H → va_S A s.heap H locs → lv_has ls 3 [(0, .ref (am 0)), (1, .ref (am (26))), (2, .int x2_30)] → W p l e (rmK 0 0) s m ([.ref (am 0), .ref (am (26))] : List Value).toArray below meth c H locs 0 0 (MQ below (KQ γ A none (wM γ am sm_z sq)) ([.ref (am 0), .ref (am (26))] : List Value).toArray s 0 0 A) (F0 m 85 ls []) := by
    intro K109 HK109
    intro n
    induction n with
    | zero =>
      intro x2_30 sm_31 H locs ls hf
      have hf : none = some _ := hf
      cases hf
    | succ n ih =>
      intro x2_30 sm_31 H locs ls hf hP hS hl
      rw [f_X7_keep_L85.eq_2] at hf
      refine lv_iload_n hx hb dX7_keep_85 rfl (lv_at hl 2 rfl) ?_
      refine lv_bipush (v := 100) hx hb dX7_keep_86 (by decide) ?_
      refine lv_icmp_ge (tgt := 109) hx hb dX7_keep_88 (by decide) (fun c_32 => ?_) (fun c_32 => ?_)
      · replace hf := ite_p c_32 hf
        exact HK109 sm_31 _ _ _ hf hP hS (lv_sub hl [0, 1] rfl)
      · replace hf := ite_n c_32 hf
        refine lv_aload_n hx hb dX7_keep_91 rfl (lv_at hl 1 rfl) ?_
        refine lv_bipush (v := 60) hx hb dX7_keep_92 (by decide) ?_
        refine lv_iload_n hx hb dX7_keep_94 rfl (lv_at hl 2 rfl) ?_
        refine lv_iadd hx hb dX7_keep_95 ?_
        refine lv_aload_n hx hb dX7_keep_96 rfl (lv_at hl 0 rfl) ?_
        refine va_get (D := γ.1) (ci := 7) (v := .ref (am 11)) (C := RX7) (T := TX7) (N := 35) hx hb hU uin7 hown hK hP 0 rfl rfl 10 (by decide) (hU _ U979) (fun _ h9 => h9) rfl dX7_keep_97 ?_
        refine lv_iload_n hx hb dX7_keep_100 rfl (lv_at hl 2 rfl) ?_
        obtain ⟨g_33, hf⟩ := gd_of hf
        refine va_iald hx hb hK hP 10 0 rfl rfl (inB_vp g_33) dX7_keep_101 ?_
        refine lv_topi (fun u_34 e_u_34 => ?_)
        replace hf := nm_y hf e_u_34
        obtain ⟨g_35, hf⟩ := gd_of hf
        refine va_iast hx hb hK hP (hD _ _) hS 18 0 rfl rfl (inB_vp g_35) dX7_keep_102 (fun H locs hP _ hS => ?_)
        obtain ⟨sm_36, e_sm_36, hf⟩ := nm_of hf
        replace hP : va_P γ.1 vwCl (wM γ am sm_36 sq) H := by rw [e_sm_36]; exact hP
        obtain ⟨x2_37, e_x2_37⟩ : ∃ y : Int32, y = x2_30 + (1 : Int32) := ⟨_, rfl⟩
        replace hf := nm_y hf e_x2_37
        refine lv_iinc (v := x2_37) (lv' := [(2, .int x2_37), (0, .ref (am 0)), (1, .ref (am (26)))]) hx hb dX7_keep_103 hl (k := 2) rfl (by rw [e_x2_37]; rfl) (by decide) rfl (fun ls hl => ?_)
        refine lv_goto (tgt := 85) hx hb dX7_keep_106 (by decide) ?_
        exact ih x2_37 sm_36 _ _ _ hf hP hS (lv_sub hl [1, 2, 0] rfl)
  have L111 : ∀ (K149 : GS → Option (GS)) (HK149 : ∀ (zsm : GS) (H : Heap) (locs : List Loc) (ls : Array Slot), K149 zsm = some sm_z → va_P γ.1 vwCl (wM γ am zsm sq) H → va_S A s.heap H locs → lv_has ls 3 [(0, .ref (am 0)), (1, .ref (am (26)))] → W p l e (rmK 0 0) s m ([.ref (am 0), .ref (am (26))] : List Value).toArray below meth c H locs 0 0 (MQ below (KQ γ A none (wM γ am sm_z sq)) ([.ref (am 0), .ref (am (26))] : List Value).toArray s 0 0 A) (F0 m 149 ls [])) (n : Nat) (x2_39 : Int32) (sm_40 : GS) (H : Heap) (locs : List Loc) (ls : Array Slot), f_X7_keep_L111 26 K149 n x2_39 sm_40 = some sm_z → va_P γ.1 vwCl (wM γ am sm_40 sq) H → va_S A s.heap H locs → lv_has ls 3 [(0, .ref (am 0)), (1, .ref (am (26))), (2, .int x2_39)] → W p l e (rmK 0 0) s m ([.ref (am 0), .ref (am (26))] : List Value).toArray below meth c H locs 0 0 (MQ below (KQ γ A none (wM γ am sm_z sq)) ([.ref (am 0), .ref (am (26))] : List Value).toArray s 0 0 A) (F0 m 111 ls []) := by
    intro K149 HK149
    intro n
    induction n with
    | zero =>
      intro x2_39 sm_40 H locs ls hf
      have hf : none = some _ := hf
      cases hf
    | succ n ih =>
      intro x2_39 sm_40 H locs ls hf hP hS hl
      rw [f_X7_keep_L111.eq_2] at hf
      refine lv_iload_n hx hb dX7_keep_111 rfl (lv_at hl 2 rfl) ?_
      refine lv_bipush (v := 6) hx hb dX7_keep_112 (by decide) ?_
      refine lv_icmp_ge (tgt := 149) hx hb dX7_keep_114 (by decide) (fun c_41 => ?_) (fun c_41 => ?_)
      · replace hf := ite_p c_41 hf
        exact HK149 sm_40 _ _ _ hf hP hS (lv_sub hl [0, 1] rfl)
      · replace hf := ite_n c_41 hf
        refine lv_aload_n hx hb dX7_keep_117 rfl (lv_at hl 1 rfl) ?_
        refine lv_sipush (v := 160) hx hb dX7_keep_118 (by decide) ?_
        refine lv_iload_n hx hb dX7_keep_121 rfl (lv_at hl 2 rfl) ?_
        refine lv_iadd hx hb dX7_keep_122 ?_
        refine lv_aload_n hx hb dX7_keep_123 rfl (lv_at hl 0 rfl) ?_
        refine va_get (D := γ.1) (ci := 7) (v := .ref (am 13)) (C := RX7) (T := TX7) (N := 35) hx hb hU uin7 hown hK hP 0 rfl rfl 12 (by decide) (hU _ U981) (fun _ h9 => h9) rfl dX7_keep_124 ?_
        refine lv_iload_n hx hb dX7_keep_127 rfl (lv_at hl 2 rfl) ?_
        obtain ⟨g_42, hf⟩ := gd_of hf
        refine va_iald hx hb hK hP 11 0 rfl rfl (inB_vp g_42) dX7_keep_128 ?_
        refine lv_topi (fun u_43 e_u_43 => ?_)
        replace hf := nm_y hf e_u_43
        obtain ⟨g_44, hf⟩ := gd_of hf
        refine va_iast hx hb hK hP (hD _ _) hS 18 0 rfl rfl (inB_vp g_44) dX7_keep_129 (fun H locs hP _ hS => ?_)
        obtain ⟨sm_45, e_sm_45, hf⟩ := nm_of hf
        replace hP : va_P γ.1 vwCl (wM γ am sm_45 sq) H := by rw [e_sm_45]; exact hP
        refine lv_aload_n hx hb dX7_keep_130 rfl (lv_at hl 1 rfl) ?_
        refine lv_sipush (v := 166) hx hb dX7_keep_131 (by decide) ?_
        refine lv_iload_n hx hb dX7_keep_134 rfl (lv_at hl 2 rfl) ?_
        refine lv_iadd hx hb dX7_keep_135 ?_
        refine lv_aload_n hx hb dX7_keep_136 rfl (lv_at hl 0 rfl) ?_
        refine va_get (D := γ.1) (ci := 7) (v := .ref (am 14)) (C := RX7) (T := TX7) (N := 35) hx hb hU uin7 hown hK hP 0 rfl rfl 13 (by decide) (hU _ U982) (fun _ h9 => h9) rfl dX7_keep_137 ?_
        refine lv_iload_n hx hb dX7_keep_140 rfl (lv_at hl 2 rfl) ?_
        obtain ⟨g_46, hf⟩ := gd_of hf
        refine va_iald hx hb hK hP 12 0 rfl rfl (inB_vp g_46) dX7_keep_141 ?_
        refine lv_topi (fun u_47 e_u_47 => ?_)
        replace hf := nm_y hf e_u_47
        obtain ⟨g_48, hf⟩ := gd_of hf
        refine va_iast hx hb hK hP (hD _ _) hS 18 0 rfl rfl (inB_vp g_48) dX7_keep_142 (fun H locs hP _ hS => ?_)
        obtain ⟨sm_49, e_sm_49, hf⟩ := nm_of hf
        replace hP : va_P γ.1 vwCl (wM γ am sm_49 sq) H := by rw [e_sm_49]; exact hP
        obtain ⟨x2_50, e_x2_50⟩ : ∃ y : Int32, y = x2_39 + (1 : Int32) := ⟨_, rfl⟩
        replace hf := nm_y hf e_x2_50
        refine lv_iinc (v := x2_50) (lv' := [(2, .int x2_50), (0, .ref (am 0)), (1, .ref (am (26)))]) hx hb dX7_keep_143 hl (k := 2) rfl (by rw [e_x2_50]; rfl) (by decide) rfl (fun ls hl => ?_)
        refine lv_goto (tgt := 111) hx hb dX7_keep_146 (by decide) ?_
        exact ih x2_50 sm_49 _ _ _ hf hP hS (lv_sub hl [1, 2, 0] rfl)
  have L151 : ∀ (K189 : GS → Option (GS)) (HK189 : ∀ (zsm : GS) (H : Heap) (locs : List Loc) (ls : Array Slot), K189 zsm = some sm_z → va_P γ.1 vwCl (wM γ am zsm sq) H → va_S A s.heap H locs → lv_has ls 3 [(0, .ref (am 0)), (1, .ref (am (26)))] → W p l e (rmK 0 0) s m ([.ref (am 0), .ref (am (26))] : List Value).toArray below meth c H locs 0 0 (MQ below (KQ γ A none (wM γ am sm_z sq)) ([.ref (am 0), .ref (am (26))] : List Value).toArray s 0 0 A) (F0 m 189 ls [])) (n : Nat) (x2_52 : Int32) (sm_53 : GS) (H : Heap) (locs : List Loc) (ls : Array Slot), f_X7_keep_L151 26 K189 n x2_52 sm_53 = some sm_z → va_P γ.1 vwCl (wM γ am sm_53 sq) H → va_S A s.heap H locs → lv_has ls 3 [(0, .ref (am 0)), (1, .ref (am (26))), (2, .int x2_52)] → W p l e (rmK 0 0) s m ([.ref (am 0), .ref (am (26))] : List Value).toArray below meth c H locs 0 0 (MQ below (KQ γ A none (wM γ am sm_z sq)) ([.ref (am 0), .ref (am (26))] : List Value).toArray s 0 0 A) (F0 m 151 ls []) := by
    intro K189 HK189
    intro n
    induction n with
    | zero =>
      intro x2_52 sm_53 H locs ls hf
      have hf : none = some _ := hf
      cases hf
    | succ n ih =>
      intro x2_52 sm_53 H locs ls hf hP hS hl
      rw [f_X7_keep_L151.eq_2] at hf
      refine lv_iload_n hx hb dX7_keep_151 rfl (lv_at hl 2 rfl) ?_
      refine lv_bipush (v := 8) hx hb dX7_keep_152 (by decide) ?_
      refine lv_icmp_ge (tgt := 189) hx hb dX7_keep_154 (by decide) (fun c_54 => ?_) (fun c_54 => ?_)
      · replace hf := ite_p c_54 hf
        exact HK189 sm_53 _ _ _ hf hP hS (lv_sub hl [0, 1] rfl)
      · replace hf := ite_n c_54 hf
        refine lv_aload_n hx hb dX7_keep_157 rfl (lv_at hl 1 rfl) ?_
        refine lv_sipush (v := 172) hx hb dX7_keep_158 (by decide) ?_
        refine lv_iload_n hx hb dX7_keep_161 rfl (lv_at hl 2 rfl) ?_
        refine lv_iadd hx hb dX7_keep_162 ?_
        refine lv_aload_n hx hb dX7_keep_163 rfl (lv_at hl 0 rfl) ?_
        refine va_get (D := γ.1) (ci := 7) (v := .ref (am 16)) (C := RX7) (T := TX7) (N := 35) hx hb hU uin7 hown hK hP 0 rfl rfl 15 (by decide) (hU _ U984) (fun _ h9 => h9) rfl dX7_keep_164 ?_
        refine lv_iload_n hx hb dX7_keep_167 rfl (lv_at hl 2 rfl) ?_
        obtain ⟨g_55, hf⟩ := gd_of hf
        refine va_iald hx hb hK hP 13 0 rfl rfl (inB_vp g_55) dX7_keep_168 ?_
        refine lv_topi (fun u_56 e_u_56 => ?_)
        replace hf := nm_y hf e_u_56
        obtain ⟨g_57, hf⟩ := gd_of hf
        refine va_iast hx hb hK hP (hD _ _) hS 18 0 rfl rfl (inB_vp g_57) dX7_keep_169 (fun H locs hP _ hS => ?_)
        obtain ⟨sm_58, e_sm_58, hf⟩ := nm_of hf
        replace hP : va_P γ.1 vwCl (wM γ am sm_58 sq) H := by rw [e_sm_58]; exact hP
        refine lv_aload_n hx hb dX7_keep_170 rfl (lv_at hl 1 rfl) ?_
        refine lv_sipush (v := 180) hx hb dX7_keep_171 (by decide) ?_
        refine lv_iload_n hx hb dX7_keep_174 rfl (lv_at hl 2 rfl) ?_
        refine lv_iadd hx hb dX7_keep_175 ?_
        refine lv_aload_n hx hb dX7_keep_176 rfl (lv_at hl 0 rfl) ?_
        refine va_get (D := γ.1) (ci := 7) (v := .ref (am 17)) (C := RX7) (T := TX7) (N := 35) hx hb hU uin7 hown hK hP 0 rfl rfl 16 (by decide) (hU _ U985) (fun _ h9 => h9) rfl dX7_keep_177 ?_
        refine lv_iload_n hx hb dX7_keep_180 rfl (lv_at hl 2 rfl) ?_
        obtain ⟨g_59, hf⟩ := gd_of hf
        refine va_iald hx hb hK hP 14 0 rfl rfl (inB_vp g_59) dX7_keep_181 ?_
        refine lv_topi (fun u_60 e_u_60 => ?_)
        replace hf := nm_y hf e_u_60
        obtain ⟨g_61, hf⟩ := gd_of hf
        refine va_iast hx hb hK hP (hD _ _) hS 18 0 rfl rfl (inB_vp g_61) dX7_keep_182 (fun H locs hP _ hS => ?_)
        obtain ⟨sm_62, e_sm_62, hf⟩ := nm_of hf
        replace hP : va_P γ.1 vwCl (wM γ am sm_62 sq) H := by rw [e_sm_62]; exact hP
        obtain ⟨x2_63, e_x2_63⟩ : ∃ y : Int32, y = x2_52 + (1 : Int32) := ⟨_, rfl⟩
        replace hf := nm_y hf e_x2_63
        refine lv_iinc (v := x2_63) (lv' := [(2, .int x2_63), (0, .ref (am 0)), (1, .ref (am (26)))]) hx hb dX7_keep_183 hl (k := 2) rfl (by rw [e_x2_63]; rfl) (by decide) rfl (fun ls hl => ?_)
        refine lv_goto (tgt := 151) hx hb dX7_keep_186 (by decide) ?_
        exact ih x2_63 sm_62 _ _ _ hf hP hS (lv_sub hl [1, 2, 0] rfl)
  unfold f_X7_keep at hf
  refine lv_iconst (v := 0) hx hb dX7_keep_0 (by decide) ?_
  refine lv_istore_n (lv' := [(2, .int (0 : Int32)), (0, .ref (am 0)), (1, .ref (am (26)))]) hx hb dX7_keep_1 rfl hl (by decide) rfl (fun ls hl => ?_)
  refine L2 _ (fun sm_29 H locs ls hf hP hS hl => ?_) FU (0 : Int32) sm _ _ _ hf hP hS (lv_sub hl [1, 2, 0] rfl)
  refine lv_iconst (v := 0) hx hb dX7_keep_83 (by decide) ?_
  refine lv_istore_n (lv' := [(2, .int (0 : Int32)), (0, .ref (am 0)), (1, .ref (am (26)))]) hx hb dX7_keep_84 rfl hl (by decide) rfl (fun ls hl => ?_)
  refine L85 _ (fun sm_38 H locs ls hf hP hS hl => ?_) FU (0 : Int32) sm_29 _ _ _ hf hP hS (lv_sub hl [1, 2, 0] rfl)
  refine lv_iconst (v := 0) hx hb dX7_keep_109 (by decide) ?_
  refine lv_istore_n (lv' := [(2, .int (0 : Int32)), (0, .ref (am 0)), (1, .ref (am (26)))]) hx hb dX7_keep_110 rfl hl (by decide) rfl (fun ls hl => ?_)
  refine L111 _ (fun sm_51 H locs ls hf hP hS hl => ?_) FU (0 : Int32) sm_38 _ _ _ hf hP hS (lv_sub hl [1, 2, 0] rfl)
  refine lv_iconst (v := 0) hx hb dX7_keep_149 (by decide) ?_
  refine lv_istore_n (lv' := [(2, .int (0 : Int32)), (0, .ref (am 0)), (1, .ref (am (26)))]) hx hb dX7_keep_150 rfl hl (by decide) rfl (fun ls hl => ?_)
  refine L151 _ (fun sm_64 H locs ls hf hP hS hl => ?_) FU (0 : Int32) sm_51 _ _ _ hf hP hS (lv_sub hl [1, 2, 0] rfl)
  refine lv_aload_n hx hb dX7_keep_189 rfl (lv_at hl 1 rfl) ?_
  refine lv_sipush (v := 188) hx hb dX7_keep_190 (by decide) ?_
  refine lv_aload_n hx hb dX7_keep_193 rfl (lv_at hl 0 rfl) ?_
  refine va_get (D := γ.1) (ci := 7) (v := .int (sm_64 0 3)) (C := RX7) (T := TX7) (N := 35) hx hb hU uin7 hown hK hP 0 rfl rfl 3 (by decide) (hU _ U972) (fun _ h9 => h9) rfl dX7_keep_194 ?_
  refine lv_topi (fun u_65 e_u_65 => ?_)
  replace hf := nm_y hf e_u_65
  refine va_iast hx hb hK hP (hD _ _) hS 18 0 rfl rfl (inB_vp (n := 193) (by decide)) dX7_keep_197 (fun H locs hP _ hS => ?_)
  obtain ⟨sm_66, e_sm_66, hf⟩ := nm_of hf
  replace hP : va_P γ.1 vwCl (wM γ am sm_66 sq) H := by rw [e_sm_66]; exact hP
  refine lv_aload_n hx hb dX7_keep_198 rfl (lv_at hl 1 rfl) ?_
  refine lv_sipush (v := 189) hx hb dX7_keep_199 (by decide) ?_
  refine lv_aload_n hx hb dX7_keep_202 rfl (lv_at hl 0 rfl) ?_
  refine va_get (D := γ.1) (ci := 7) (v := .int (sm_66 0 11)) (C := RX7) (T := TX7) (N := 35) hx hb hU uin7 hown hK hP 0 rfl rfl 11 (by decide) (hU _ U980) (fun _ h9 => h9) rfl dX7_keep_203 ?_
  refine lv_topi (fun u_67 e_u_67 => ?_)
  replace hf := nm_y hf e_u_67
  refine va_iast hx hb hK hP (hD _ _) hS 18 0 rfl rfl (inB_vp (n := 193) (by decide)) dX7_keep_206 (fun H locs hP _ hS => ?_)
  obtain ⟨sm_68, e_sm_68, hf⟩ := nm_of hf
  replace hP : va_P γ.1 vwCl (wM γ am sm_68 sq) H := by rw [e_sm_68]; exact hP
  refine lv_aload_n hx hb dX7_keep_207 rfl (lv_at hl 1 rfl) ?_
  refine lv_sipush (v := 190) hx hb dX7_keep_208 (by decide) ?_
  refine lv_aload_n hx hb dX7_keep_211 rfl (lv_at hl 0 rfl) ?_
  refine va_get (D := γ.1) (ci := 7) (v := .int (sm_68 0 14)) (C := RX7) (T := TX7) (N := 35) hx hb hU uin7 hown hK hP 0 rfl rfl 14 (by decide) (hU _ U983) (fun _ h9 => h9) rfl dX7_keep_212 ?_
  refine lv_topi (fun u_69 e_u_69 => ?_)
  replace hf := nm_y hf e_u_69
  refine va_iast hx hb hK hP (hD _ _) hS 18 0 rfl rfl (inB_vp (n := 193) (by decide)) dX7_keep_215 (fun H locs hP _ hS => ?_)
  obtain ⟨sm_70, e_sm_70, hf⟩ := nm_of hf
  replace hP : va_P γ.1 vwCl (wM γ am sm_70 sq) H := by rw [e_sm_70]; exact hP
  refine lv_aload_n hx hb dX7_keep_216 rfl (lv_at hl 1 rfl) ?_
  refine lv_sipush (v := 191) hx hb dX7_keep_217 (by decide) ?_
  refine lv_aload_n hx hb dX7_keep_220 rfl (lv_at hl 0 rfl) ?_
  refine va_get (D := γ.1) (ci := 7) (v := .int (sm_70 0 17)) (C := RX7) (T := TX7) (N := 35) hx hb hU uin7 hown hK hP 0 rfl rfl 17 (by decide) (hU _ U986) (fun _ h9 => h9) rfl dX7_keep_221 ?_
  refine lv_topi (fun u_71 e_u_71 => ?_)
  replace hf := nm_y hf e_u_71
  refine va_iast hx hb hK hP (hD _ _) hS 18 0 rfl rfl (inB_vp (n := 193) (by decide)) dX7_keep_224 (fun H locs hP _ hS => ?_)
  obtain ⟨sm_72, e_sm_72, hf⟩ := nm_of hf
  replace hP : va_P γ.1 vwCl (wM γ am sm_72 sq) H := by rw [e_sm_72]; exact hP
  refine lv_aload_n hx hb dX7_keep_225 rfl (lv_at hl 1 rfl) ?_
  refine lv_sipush (v := 192) hx hb dX7_keep_226 (by decide) ?_
  refine lv_aload_n hx hb dX7_keep_229 rfl (lv_at hl 0 rfl) ?_
  refine va_get (D := γ.1) (ci := 7) (v := .int (sm_72 0 18)) (C := RX7) (T := TX7) (N := 35) hx hb hU uin7 hown hK hP 0 rfl rfl 18 (by decide) (hU _ U987) (fun _ h9 => h9) rfl dX7_keep_230 ?_
  refine lv_topi (fun u_73 e_u_73 => ?_)
  replace hf := nm_y hf e_u_73
  refine va_iast hx hb hK hP (hD _ _) hS 18 0 rfl rfl (inB_vp (n := 193) (by decide)) dX7_keep_233 (fun H locs hP _ hS => ?_)
  obtain ⟨sm_74, e_sm_74, hf⟩ := nm_of hf
  replace hP : va_P γ.1 vwCl (wM γ am sm_74 sq) H := by rw [e_sm_74]; exact hP
  obtain rfl := Option.some.inj hf
  exact kt_vret C0 hP hS dX7_keep_234
set_option maxHeartbeats 4000000 in
set_option maxRecDepth 100000 in
theorem c_X7_keep_27 (l : Launch) (γ : Gm) (am : Nat → Nat) {sm : GS} {sq : Nat → Int64} {sm_z : GS} (hf : f_X7_keep 27 sm = some sm_z) : Kt l γ yX7_keep (Cond.code yX7_keep cX7_keep 3 none :: U) 0 0 [.ref (am 0), .ref (am (27))] (wM γ am sm sq) none (wM γ am sm_z sq) := by
  refine Kt.of (by decide) rfl (Nat.le_of_ble_eq_true rfl) rfl ?_
  intro p e s m below meth c A ls C0 hP hD0 hS hl
  obtain ⟨hx, hb, hml, hown, hts, hr, hlocks, hK, hE, hA⟩ := id C0
  have hU : ∀ w ∈ U, w.before _ s = true := fun w h => hts w (List.mem_cons_of_mem _ h)
  have hD : ∀ (sm : GS) (sq : Nat → Int64), va_D A (wM γ am sm sq) := fun _ _ => hD0.fst rfl
  have hl : lv_has ls 3 [(0, .ref (am 0)), (1, .ref (am (27)))] := hl
  have L2 : ∀ (K83 : GS → Option (GS)) (HK83 : ∀ (zsm : GS) (H : Heap) (locs : List Loc) (ls : Array Slot), K83 zsm = some sm_z → va_P γ.1 vwCl (wM γ am zsm sq) H → va_S A s.heap H locs → lv_has ls 3 [(0, .ref (am 0)), (1, .ref (am (27)))] → W p l e (rmK 0 0) s m ([.ref (am 0), .ref (am (27))] : List Value).toArray below meth c H locs 0 0 (MQ below (KQ γ A none (wM γ am sm_z sq)) ([.ref (am 0), .ref (am (27))] : List Value).toArray s 0 0 A) (F0 m 83 ls [])) (n : Nat) (x2_1 : Int32) (sm_2 : GS) (H : Heap) (locs : List Loc) (ls : Array Slot), f_X7_keep_L2 27 K83 n x2_1 sm_2 = some sm_z → va_P γ.1 vwCl (wM γ am sm_2 sq) H → va_S A s.heap H locs → lv_has ls 3 [(0, .ref (am 0)), (1, .ref (am (27))), (2, .int x2_1)] → W p l e (rmK 0 0) s m ([.ref (am 0), .ref (am (27))] : List Value).toArray below meth c H locs 0 0 (MQ below (KQ γ A none (wM γ am sm_z sq)) ([.ref (am 0), .ref (am (27))] : List Value).toArray s 0 0 A) (F0 m 2 ls []) := by
    intro K83 HK83
    intro n
    induction n with
    | zero =>
      intro x2_1 sm_2 H locs ls hf
      have hf : none = some _ := hf
      cases hf
    | succ n ih =>
      intro x2_1 sm_2 H locs ls hf hP hS hl
      rw [f_X7_keep_L2.eq_2] at hf
      refine lv_iload_n hx hb dX7_keep_2 rfl (lv_at hl 2 rfl) ?_
      refine lv_bipush (v := 10) hx hb dX7_keep_3 (by decide) ?_
      refine lv_icmp_ge (tgt := 83) hx hb dX7_keep_5 (by decide) (fun c_3 => ?_) (fun c_3 => ?_)
      · replace hf := ite_p c_3 hf
        exact HK83 sm_2 _ _ _ hf hP hS (lv_sub hl [0, 1] rfl)
      · replace hf := ite_n c_3 hf
        refine lv_aload_n hx hb dX7_keep_8 rfl (lv_at hl 1 rfl) ?_
        refine lv_iload_n hx hb dX7_keep_9 rfl (lv_at hl 2 rfl) ?_
        refine lv_aload_n hx hb dX7_keep_10 rfl (lv_at hl 0 rfl) ?_
        refine va_get (D := γ.1) (ci := 7) (v := .ref (am 5)) (C := RX7) (T := TX7) (N := 35) hx hb hU uin7 hown hK hP 0 rfl rfl 4 (by decide) (hU _ U973) (fun _ h9 => h9) rfl dX7_keep_11 ?_
        refine lv_iload_n hx hb dX7_keep_14 rfl (lv_at hl 2 rfl) ?_
        obtain ⟨g_4, hf⟩ := gd_of hf
        refine va_iald hx hb hK hP 4 0 rfl rfl (inB_vp g_4) dX7_keep_15 ?_
        refine lv_topi (fun u_5 e_u_5 => ?_)
        replace hf := nm_y hf e_u_5
        obtain ⟨g_6, hf⟩ := gd_of hf
        refine va_iast hx hb hK hP (hD _ _) hS 19 0 rfl rfl (inB_vp g_6) dX7_keep_16 (fun H locs hP _ hS => ?_)
        obtain ⟨sm_7, e_sm_7, hf⟩ := nm_of hf
        replace hP : va_P γ.1 vwCl (wM γ am sm_7 sq) H := by rw [e_sm_7]; exact hP
        refine lv_aload_n hx hb dX7_keep_17 rfl (lv_at hl 1 rfl) ?_
        refine lv_bipush (v := 10) hx hb dX7_keep_18 (by decide) ?_
        refine lv_iload_n hx hb dX7_keep_20 rfl (lv_at hl 2 rfl) ?_
        refine lv_iadd hx hb dX7_keep_21 ?_
        refine lv_aload_n hx hb dX7_keep_22 rfl (lv_at hl 0 rfl) ?_
        refine va_get (D := γ.1) (ci := 7) (v := .ref (am 6)) (C := RX7) (T := TX7) (N := 35) hx hb hU uin7 hown hK hP 0 rfl rfl 5 (by decide) (hU _ U974) (fun _ h9 => h9) rfl dX7_keep_23 ?_
        refine lv_iload_n hx hb dX7_keep_26 rfl (lv_at hl 2 rfl) ?_
        obtain ⟨g_8, hf⟩ := gd_of hf
        refine va_iald hx hb hK hP 5 0 rfl rfl (inB_vp g_8) dX7_keep_27 ?_
        refine lv_topi (fun u_9 e_u_9 => ?_)
        replace hf := nm_y hf e_u_9
        obtain ⟨g_10, hf⟩ := gd_of hf
        refine va_iast hx hb hK hP (hD _ _) hS 19 0 rfl rfl (inB_vp g_10) dX7_keep_28 (fun H locs hP _ hS => ?_)
        obtain ⟨sm_11, e_sm_11, hf⟩ := nm_of hf
        replace hP : va_P γ.1 vwCl (wM γ am sm_11 sq) H := by rw [e_sm_11]; exact hP
        refine lv_aload_n hx hb dX7_keep_29 rfl (lv_at hl 1 rfl) ?_
        refine lv_bipush (v := 20) hx hb dX7_keep_30 (by decide) ?_
        refine lv_iload_n hx hb dX7_keep_32 rfl (lv_at hl 2 rfl) ?_
        refine lv_iadd hx hb dX7_keep_33 ?_
        refine lv_aload_n hx hb dX7_keep_34 rfl (lv_at hl 0 rfl) ?_
        refine va_get (D := γ.1) (ci := 7) (v := .ref (am 7)) (C := RX7) (T := TX7) (N := 35) hx hb hU uin7 hown hK hP 0 rfl rfl 6 (by decide) (hU _ U975) (fun _ h9 => h9) rfl dX7_keep_35 ?_
        refine lv_iload_n hx hb dX7_keep_38 rfl (lv_at hl 2 rfl) ?_
        obtain ⟨g_12, hf⟩ := gd_of hf
        refine va_iald hx hb hK hP 6 0 rfl rfl (inB_vp g_12) dX7_keep_39 ?_
        refine lv_topi (fun u_13 e_u_13 => ?_)
        replace hf := nm_y hf e_u_13
        obtain ⟨g_14, hf⟩ := gd_of hf
        refine va_iast hx hb hK hP (hD _ _) hS 19 0 rfl rfl (inB_vp g_14) dX7_keep_40 (fun H locs hP _ hS => ?_)
        obtain ⟨sm_15, e_sm_15, hf⟩ := nm_of hf
        replace hP : va_P γ.1 vwCl (wM γ am sm_15 sq) H := by rw [e_sm_15]; exact hP
        refine lv_aload_n hx hb dX7_keep_41 rfl (lv_at hl 1 rfl) ?_
        refine lv_bipush (v := 30) hx hb dX7_keep_42 (by decide) ?_
        refine lv_iload_n hx hb dX7_keep_44 rfl (lv_at hl 2 rfl) ?_
        refine lv_iadd hx hb dX7_keep_45 ?_
        refine lv_aload_n hx hb dX7_keep_46 rfl (lv_at hl 0 rfl) ?_
        refine va_get (D := γ.1) (ci := 7) (v := .ref (am 8)) (C := RX7) (T := TX7) (N := 35) hx hb hU uin7 hown hK hP 0 rfl rfl 7 (by decide) (hU _ U976) (fun _ h9 => h9) rfl dX7_keep_47 ?_
        refine lv_iload_n hx hb dX7_keep_50 rfl (lv_at hl 2 rfl) ?_
        obtain ⟨g_16, hf⟩ := gd_of hf
        refine va_iald hx hb hK hP 7 0 rfl rfl (inB_vp g_16) dX7_keep_51 ?_
        refine lv_topi (fun u_17 e_u_17 => ?_)
        replace hf := nm_y hf e_u_17
        obtain ⟨g_18, hf⟩ := gd_of hf
        refine va_iast hx hb hK hP (hD _ _) hS 19 0 rfl rfl (inB_vp g_18) dX7_keep_52 (fun H locs hP _ hS => ?_)
        obtain ⟨sm_19, e_sm_19, hf⟩ := nm_of hf
        replace hP : va_P γ.1 vwCl (wM γ am sm_19 sq) H := by rw [e_sm_19]; exact hP
        refine lv_aload_n hx hb dX7_keep_53 rfl (lv_at hl 1 rfl) ?_
        refine lv_bipush (v := 40) hx hb dX7_keep_54 (by decide) ?_
        refine lv_iload_n hx hb dX7_keep_56 rfl (lv_at hl 2 rfl) ?_
        refine lv_iadd hx hb dX7_keep_57 ?_
        refine lv_aload_n hx hb dX7_keep_58 rfl (lv_at hl 0 rfl) ?_
        refine va_get (D := γ.1) (ci := 7) (v := .ref (am 9)) (C := RX7) (T := TX7) (N := 35) hx hb hU uin7 hown hK hP 0 rfl rfl 8 (by decide) (hU _ U977) (fun _ h9 => h9) rfl dX7_keep_59 ?_
        refine lv_iload_n hx hb dX7_keep_62 rfl (lv_at hl 2 rfl) ?_
        obtain ⟨g_20, hf⟩ := gd_of hf
        refine va_iald hx hb hK hP 8 0 rfl rfl (inB_vp g_20) dX7_keep_63 ?_
        refine lv_topi (fun u_21 e_u_21 => ?_)
        replace hf := nm_y hf e_u_21
        obtain ⟨g_22, hf⟩ := gd_of hf
        refine va_iast hx hb hK hP (hD _ _) hS 19 0 rfl rfl (inB_vp g_22) dX7_keep_64 (fun H locs hP _ hS => ?_)
        obtain ⟨sm_23, e_sm_23, hf⟩ := nm_of hf
        replace hP : va_P γ.1 vwCl (wM γ am sm_23 sq) H := by rw [e_sm_23]; exact hP
        refine lv_aload_n hx hb dX7_keep_65 rfl (lv_at hl 1 rfl) ?_
        refine lv_bipush (v := 50) hx hb dX7_keep_66 (by decide) ?_
        refine lv_iload_n hx hb dX7_keep_68 rfl (lv_at hl 2 rfl) ?_
        refine lv_iadd hx hb dX7_keep_69 ?_
        refine lv_aload_n hx hb dX7_keep_70 rfl (lv_at hl 0 rfl) ?_
        refine va_get (D := γ.1) (ci := 7) (v := .ref (am 10)) (C := RX7) (T := TX7) (N := 35) hx hb hU uin7 hown hK hP 0 rfl rfl 9 (by decide) (hU _ U978) (fun _ h9 => h9) rfl dX7_keep_71 ?_
        refine lv_iload_n hx hb dX7_keep_74 rfl (lv_at hl 2 rfl) ?_
        obtain ⟨g_24, hf⟩ := gd_of hf
        refine va_iald hx hb hK hP 9 0 rfl rfl (inB_vp g_24) dX7_keep_75 ?_
        refine lv_topi (fun u_25 e_u_25 => ?_)
        replace hf := nm_y hf e_u_25
        obtain ⟨g_26, hf⟩ := gd_of hf
        refine va_iast hx hb hK hP (hD _ _) hS 19 0 rfl rfl (inB_vp g_26) dX7_keep_76 (fun H locs hP _ hS => ?_)
        obtain ⟨sm_27, e_sm_27, hf⟩ := nm_of hf
        replace hP : va_P γ.1 vwCl (wM γ am sm_27 sq) H := by rw [e_sm_27]; exact hP
        obtain ⟨x2_28, e_x2_28⟩ : ∃ y : Int32, y = x2_1 + (1 : Int32) := ⟨_, rfl⟩
        replace hf := nm_y hf e_x2_28
        refine lv_iinc (v := x2_28) (lv' := [(2, .int x2_28), (0, .ref (am 0)), (1, .ref (am (27)))]) hx hb dX7_keep_77 hl (k := 2) rfl (by rw [e_x2_28]; rfl) (by decide) rfl (fun ls hl => ?_)
        refine lv_goto (tgt := 2) hx hb dX7_keep_80 (by decide) ?_
        exact ih x2_28 sm_27 _ _ _ hf hP hS (lv_sub hl [1, 2, 0] rfl)
  have L85 : ∀ (K109 : GS → Option (GS)) (HK109 : ∀ (zsm : GS) (H : Heap) (locs : List Loc) (ls : Array Slot), K109 zsm = some sm_z → va_P γ.1 vwCl (wM γ am zsm sq) H → va_S A s.heap H locs → lv_has ls 3 [(0, .ref (am 0)), (1, .ref (am (27)))] → W p l e (rmK 0 0) s m ([.ref (am 0), .ref (am (27))] : List Value).toArray below meth c H locs 0 0 (MQ below (KQ γ A none (wM γ am sm_z sq)) ([.ref (am 0), .ref (am (27))] : List Value).toArray s 0 0 A) (F0 m 109 ls [])) (n : Nat) (x2_30 : Int32) (sm_31 : GS) (H : Heap) (locs : List Loc) (ls : Array Slot), f_X7_keep_L85 27 K109 n x2_30 sm_31 = some sm_z → va_P γ.1 vwCl (wM γ am sm_31 sq) H → va_S A s.heap H locs → lv_has ls 3 [(0, .ref (am 0)), (1, .ref (am (27))), (2, .int x2_30)] → W p l e (rmK 0 0) s m ([.ref (am 0), .ref (am (27))] : List Value).toArray below meth c H locs 0 0 (MQ below (KQ γ A none (wM γ am sm_z sq)) ([.ref (am 0), .ref (am (27))] : List Value).toArray s 0 0 A) (F0 m 85 ls []) := by
    intro K109 HK109
    intro n
    induction n with
    | zero =>
      intro x2_30 sm_31 H locs ls hf
      have hf : none = some _ := hf
      cases hf
    | succ n ih =>
      intro x2_30 sm_31 H locs ls hf hP hS hl
      rw [f_X7_keep_L85.eq_2] at hf
      refine lv_iload_n hx hb dX7_keep_85 rfl (lv_at hl 2 rfl) ?_
      refine lv_bipush (v := 100) hx hb dX7_keep_86 (by decide) ?_
      refine lv_icmp_ge (tgt := 109) hx hb dX7_keep_88 (by decide) (fun c_32 => ?_) (fun c_32 => ?_)
      · replace hf := ite_p c_32 hf
        exact HK109 sm_31 _ _ _ hf hP hS (lv_sub hl [0, 1] rfl)
      · replace hf := ite_n c_32 hf
        refine lv_aload_n hx hb dX7_keep_91 rfl (lv_at hl 1 rfl) ?_
        refine lv_bipush (v := 60) hx hb dX7_keep_92 (by decide) ?_
        refine lv_iload_n hx hb dX7_keep_94 rfl (lv_at hl 2 rfl) ?_
        refine lv_iadd hx hb dX7_keep_95 ?_
        refine lv_aload_n hx hb dX7_keep_96 rfl (lv_at hl 0 rfl) ?_
        refine va_get (D := γ.1) (ci := 7) (v := .ref (am 11)) (C := RX7) (T := TX7) (N := 35) hx hb hU uin7 hown hK hP 0 rfl rfl 10 (by decide) (hU _ U979) (fun _ h9 => h9) rfl dX7_keep_97 ?_
        refine lv_iload_n hx hb dX7_keep_100 rfl (lv_at hl 2 rfl) ?_
        obtain ⟨g_33, hf⟩ := gd_of hf
        refine va_iald hx hb hK hP 10 0 rfl rfl (inB_vp g_33) dX7_keep_101 ?_
        refine lv_topi (fun u_34 e_u_34 => ?_)
        replace hf := nm_y hf e_u_34
        obtain ⟨g_35, hf⟩ := gd_of hf
        refine va_iast hx hb hK hP (hD _ _) hS 19 0 rfl rfl (inB_vp g_35) dX7_keep_102 (fun H locs hP _ hS => ?_)
        obtain ⟨sm_36, e_sm_36, hf⟩ := nm_of hf
        replace hP : va_P γ.1 vwCl (wM γ am sm_36 sq) H := by rw [e_sm_36]; exact hP
        obtain ⟨x2_37, e_x2_37⟩ : ∃ y : Int32, y = x2_30 + (1 : Int32) := ⟨_, rfl⟩
        replace hf := nm_y hf e_x2_37
        refine lv_iinc (v := x2_37) (lv' := [(2, .int x2_37), (0, .ref (am 0)), (1, .ref (am (27)))]) hx hb dX7_keep_103 hl (k := 2) rfl (by rw [e_x2_37]; rfl) (by decide) rfl (fun ls hl => ?_)
        refine lv_goto (tgt := 85) hx hb dX7_keep_106 (by decide) ?_
        exact ih x2_37 sm_36 _ _ _ hf hP hS (lv_sub hl [1, 2, 0] rfl)
  have L111 : ∀ (K149 : GS → Option (GS)) (HK149 : ∀ (zsm : GS) (H : Heap) (locs : List Loc) (ls : Array Slot), K149 zsm = some sm_z → va_P γ.1 vwCl (wM γ am zsm sq) H → va_S A s.heap H locs → lv_has ls 3 [(0, .ref (am 0)), (1, .ref (am (27)))] → W p l e (rmK 0 0) s m ([.ref (am 0), .ref (am (27))] : List Value).toArray below meth c H locs 0 0 (MQ below (KQ γ A none (wM γ am sm_z sq)) ([.ref (am 0), .ref (am (27))] : List Value).toArray s 0 0 A) (F0 m 149 ls [])) (n : Nat) (x2_39 : Int32) (sm_40 : GS) (H : Heap) (locs : List Loc) (ls : Array Slot), f_X7_keep_L111 27 K149 n x2_39 sm_40 = some sm_z → va_P γ.1 vwCl (wM γ am sm_40 sq) H → va_S A s.heap H locs → lv_has ls 3 [(0, .ref (am 0)), (1, .ref (am (27))), (2, .int x2_39)] → W p l e (rmK 0 0) s m ([.ref (am 0), .ref (am (27))] : List Value).toArray below meth c H locs 0 0 (MQ below (KQ γ A none (wM γ am sm_z sq)) ([.ref (am 0), .ref (am (27))] : List Value).toArray s 0 0 A) (F0 m 111 ls []) := by
    intro K149 HK149
    intro n
    induction n with
    | zero =>
      intro x2_39 sm_40 H locs ls hf
      have hf : none = some _ := hf
      cases hf
    | succ n ih =>
      intro x2_39 sm_40 H locs ls hf hP hS hl
      rw [f_X7_keep_L111.eq_2] at hf
      refine lv_iload_n hx hb dX7_keep_111 rfl (lv_at hl 2 rfl) ?_
      refine lv_bipush (v := 6) hx hb dX7_keep_112 (by decide) ?_
      refine lv_icmp_ge (tgt := 149) hx hb dX7_keep_114 (by decide) (fun c_41 => ?_) (fun c_41 => ?_)
      · replace hf := ite_p c_41 hf
        exact HK149 sm_40 _ _ _ hf hP hS (lv_sub hl [0, 1] rfl)
      · replace hf := ite_n c_41 hf
        refine lv_aload_n hx hb dX7_keep_117 rfl (lv_at hl 1 rfl) ?_
        refine lv_sipush (v := 160) hx hb dX7_keep_118 (by decide) ?_
        refine lv_iload_n hx hb dX7_keep_121 rfl (lv_at hl 2 rfl) ?_
        refine lv_iadd hx hb dX7_keep_122 ?_
        refine lv_aload_n hx hb dX7_keep_123 rfl (lv_at hl 0 rfl) ?_
        refine va_get (D := γ.1) (ci := 7) (v := .ref (am 13)) (C := RX7) (T := TX7) (N := 35) hx hb hU uin7 hown hK hP 0 rfl rfl 12 (by decide) (hU _ U981) (fun _ h9 => h9) rfl dX7_keep_124 ?_
        refine lv_iload_n hx hb dX7_keep_127 rfl (lv_at hl 2 rfl) ?_
        obtain ⟨g_42, hf⟩ := gd_of hf
        refine va_iald hx hb hK hP 11 0 rfl rfl (inB_vp g_42) dX7_keep_128 ?_
        refine lv_topi (fun u_43 e_u_43 => ?_)
        replace hf := nm_y hf e_u_43
        obtain ⟨g_44, hf⟩ := gd_of hf
        refine va_iast hx hb hK hP (hD _ _) hS 19 0 rfl rfl (inB_vp g_44) dX7_keep_129 (fun H locs hP _ hS => ?_)
        obtain ⟨sm_45, e_sm_45, hf⟩ := nm_of hf
        replace hP : va_P γ.1 vwCl (wM γ am sm_45 sq) H := by rw [e_sm_45]; exact hP
        refine lv_aload_n hx hb dX7_keep_130 rfl (lv_at hl 1 rfl) ?_
        refine lv_sipush (v := 166) hx hb dX7_keep_131 (by decide) ?_
        refine lv_iload_n hx hb dX7_keep_134 rfl (lv_at hl 2 rfl) ?_
        refine lv_iadd hx hb dX7_keep_135 ?_
        refine lv_aload_n hx hb dX7_keep_136 rfl (lv_at hl 0 rfl) ?_
        refine va_get (D := γ.1) (ci := 7) (v := .ref (am 14)) (C := RX7) (T := TX7) (N := 35) hx hb hU uin7 hown hK hP 0 rfl rfl 13 (by decide) (hU _ U982) (fun _ h9 => h9) rfl dX7_keep_137 ?_
        refine lv_iload_n hx hb dX7_keep_140 rfl (lv_at hl 2 rfl) ?_
        obtain ⟨g_46, hf⟩ := gd_of hf
        refine va_iald hx hb hK hP 12 0 rfl rfl (inB_vp g_46) dX7_keep_141 ?_
        refine lv_topi (fun u_47 e_u_47 => ?_)
        replace hf := nm_y hf e_u_47
        obtain ⟨g_48, hf⟩ := gd_of hf
        refine va_iast hx hb hK hP (hD _ _) hS 19 0 rfl rfl (inB_vp g_48) dX7_keep_142 (fun H locs hP _ hS => ?_)
        obtain ⟨sm_49, e_sm_49, hf⟩ := nm_of hf
        replace hP : va_P γ.1 vwCl (wM γ am sm_49 sq) H := by rw [e_sm_49]; exact hP
        obtain ⟨x2_50, e_x2_50⟩ : ∃ y : Int32, y = x2_39 + (1 : Int32) := ⟨_, rfl⟩
        replace hf := nm_y hf e_x2_50
        refine lv_iinc (v := x2_50) (lv' := [(2, .int x2_50), (0, .ref (am 0)), (1, .ref (am (27)))]) hx hb dX7_keep_143 hl (k := 2) rfl (by rw [e_x2_50]; rfl) (by decide) rfl (fun ls hl => ?_)
        refine lv_goto (tgt := 111) hx hb dX7_keep_146 (by decide) ?_
        exact ih x2_50 sm_49 _ _ _ hf hP hS (lv_sub hl [1, 2, 0] rfl)
  have L151 : ∀ (K189 : GS → Option (GS)) (HK189 : ∀ (zsm : GS) (H : Heap) (locs : List Loc) (ls : Array Slot), K189 zsm = some sm_z → va_P γ.1 vwCl (wM γ am zsm sq) H → va_S A s.heap H locs → lv_has ls 3 [(0, .ref (am 0)), (1, .ref (am (27)))] → W p l e (rmK 0 0) s m ([.ref (am 0), .ref (am (27))] : List Value).toArray below meth c H locs 0 0 (MQ below (KQ γ A none (wM γ am sm_z sq)) ([.ref (am 0), .ref (am (27))] : List Value).toArray s 0 0 A) (F0 m 189 ls [])) (n : Nat) (x2_52 : Int32) (sm_53 : GS) (H : Heap) (locs : List Loc) (ls : Array Slot), f_X7_keep_L151 27 K189 n x2_52 sm_53 = some sm_z → va_P γ.1 vwCl (wM γ am sm_53 sq) H → va_S A s.heap H locs → lv_has ls 3 [(0, .ref (am 0)), (1, .ref (am (27))), (2, .int x2_52)] → W p l e (rmK 0 0) s m ([.ref (am 0), .ref (am (27))] : List Value).toArray below meth c H locs 0 0 (MQ below (KQ γ A none (wM γ am sm_z sq)) ([.ref (am 0), .ref (am (27))] : List Value).toArray s 0 0 A) (F0 m 151 ls []) := by
    intro K189 HK189
    intro n
    induction n with
    | zero =>
      intro x2_52 sm_53 H locs ls hf
      have hf : none = some _ := hf
      cases hf
    | succ n ih =>
      intro x2_52 sm_53 H locs ls hf hP hS hl
      rw [f_X7_keep_L151.eq_2] at hf
      refine lv_iload_n hx hb dX7_keep_151 rfl (lv_at hl 2 rfl) ?_
      refine lv_bipush (v := 8) hx hb dX7_keep_152 (by decide) ?_
      refine lv_icmp_ge (tgt := 189) hx hb dX7_keep_154 (by decide) (fun c_54 => ?_) (fun c_54 => ?_)
      · replace hf := ite_p c_54 hf
        exact HK189 sm_53 _ _ _ hf hP hS (lv_sub hl [0, 1] rfl)
      · replace hf := ite_n c_54 hf
        refine lv_aload_n hx hb dX7_keep_157 rfl (lv_at hl 1 rfl) ?_
        refine lv_sipush (v := 172) hx hb dX7_keep_158 (by decide) ?_
        refine lv_iload_n hx hb dX7_keep_161 rfl (lv_at hl 2 rfl) ?_
        refine lv_iadd hx hb dX7_keep_162 ?_
        refine lv_aload_n hx hb dX7_keep_163 rfl (lv_at hl 0 rfl) ?_
        refine va_get (D := γ.1) (ci := 7) (v := .ref (am 16)) (C := RX7) (T := TX7) (N := 35) hx hb hU uin7 hown hK hP 0 rfl rfl 15 (by decide) (hU _ U984) (fun _ h9 => h9) rfl dX7_keep_164 ?_
        refine lv_iload_n hx hb dX7_keep_167 rfl (lv_at hl 2 rfl) ?_
        obtain ⟨g_55, hf⟩ := gd_of hf
        refine va_iald hx hb hK hP 13 0 rfl rfl (inB_vp g_55) dX7_keep_168 ?_
        refine lv_topi (fun u_56 e_u_56 => ?_)
        replace hf := nm_y hf e_u_56
        obtain ⟨g_57, hf⟩ := gd_of hf
        refine va_iast hx hb hK hP (hD _ _) hS 19 0 rfl rfl (inB_vp g_57) dX7_keep_169 (fun H locs hP _ hS => ?_)
        obtain ⟨sm_58, e_sm_58, hf⟩ := nm_of hf
        replace hP : va_P γ.1 vwCl (wM γ am sm_58 sq) H := by rw [e_sm_58]; exact hP
        refine lv_aload_n hx hb dX7_keep_170 rfl (lv_at hl 1 rfl) ?_
        refine lv_sipush (v := 180) hx hb dX7_keep_171 (by decide) ?_
        refine lv_iload_n hx hb dX7_keep_174 rfl (lv_at hl 2 rfl) ?_
        refine lv_iadd hx hb dX7_keep_175 ?_
        refine lv_aload_n hx hb dX7_keep_176 rfl (lv_at hl 0 rfl) ?_
        refine va_get (D := γ.1) (ci := 7) (v := .ref (am 17)) (C := RX7) (T := TX7) (N := 35) hx hb hU uin7 hown hK hP 0 rfl rfl 16 (by decide) (hU _ U985) (fun _ h9 => h9) rfl dX7_keep_177 ?_
        refine lv_iload_n hx hb dX7_keep_180 rfl (lv_at hl 2 rfl) ?_
        obtain ⟨g_59, hf⟩ := gd_of hf
        refine va_iald hx hb hK hP 14 0 rfl rfl (inB_vp g_59) dX7_keep_181 ?_
        refine lv_topi (fun u_60 e_u_60 => ?_)
        replace hf := nm_y hf e_u_60
        obtain ⟨g_61, hf⟩ := gd_of hf
        refine va_iast hx hb hK hP (hD _ _) hS 19 0 rfl rfl (inB_vp g_61) dX7_keep_182 (fun H locs hP _ hS => ?_)
        obtain ⟨sm_62, e_sm_62, hf⟩ := nm_of hf
        replace hP : va_P γ.1 vwCl (wM γ am sm_62 sq) H := by rw [e_sm_62]; exact hP
        obtain ⟨x2_63, e_x2_63⟩ : ∃ y : Int32, y = x2_52 + (1 : Int32) := ⟨_, rfl⟩
        replace hf := nm_y hf e_x2_63
        refine lv_iinc (v := x2_63) (lv' := [(2, .int x2_63), (0, .ref (am 0)), (1, .ref (am (27)))]) hx hb dX7_keep_183 hl (k := 2) rfl (by rw [e_x2_63]; rfl) (by decide) rfl (fun ls hl => ?_)
        refine lv_goto (tgt := 151) hx hb dX7_keep_186 (by decide) ?_
        exact ih x2_63 sm_62 _ _ _ hf hP hS (lv_sub hl [1, 2, 0] rfl)
  unfold f_X7_keep at hf
  refine lv_iconst (v := 0) hx hb dX7_keep_0 (by decide) ?_
  refine lv_istore_n (lv' := [(2, .int (0 : Int32)), (0, .ref (am 0)), (1, .ref (am (27)))]) hx hb dX7_keep_1 rfl hl (by decide) rfl (fun ls hl => ?_)
  refine L2 _ (fun sm_29 H locs ls hf hP hS hl => ?_) FU (0 : Int32) sm _ _ _ hf hP hS (lv_sub hl [1, 2, 0] rfl)
  refine lv_iconst (v := 0) hx hb dX7_keep_83 (by decide) ?_
  refine lv_istore_n (lv' := [(2, .int (0 : Int32)), (0, .ref (am 0)), (1, .ref (am (27)))]) hx hb dX7_keep_84 rfl hl (by decide) rfl (fun ls hl => ?_)
  refine L85 _ (fun sm_38 H locs ls hf hP hS hl => ?_) FU (0 : Int32) sm_29 _ _ _ hf hP hS (lv_sub hl [1, 2, 0] rfl)
  refine lv_iconst (v := 0) hx hb dX7_keep_109 (by decide) ?_
  refine lv_istore_n (lv' := [(2, .int (0 : Int32)), (0, .ref (am 0)), (1, .ref (am (27)))]) hx hb dX7_keep_110 rfl hl (by decide) rfl (fun ls hl => ?_)
  refine L111 _ (fun sm_51 H locs ls hf hP hS hl => ?_) FU (0 : Int32) sm_38 _ _ _ hf hP hS (lv_sub hl [1, 2, 0] rfl)
  refine lv_iconst (v := 0) hx hb dX7_keep_149 (by decide) ?_
  refine lv_istore_n (lv' := [(2, .int (0 : Int32)), (0, .ref (am 0)), (1, .ref (am (27)))]) hx hb dX7_keep_150 rfl hl (by decide) rfl (fun ls hl => ?_)
  refine L151 _ (fun sm_64 H locs ls hf hP hS hl => ?_) FU (0 : Int32) sm_51 _ _ _ hf hP hS (lv_sub hl [1, 2, 0] rfl)
  refine lv_aload_n hx hb dX7_keep_189 rfl (lv_at hl 1 rfl) ?_
  refine lv_sipush (v := 188) hx hb dX7_keep_190 (by decide) ?_
  refine lv_aload_n hx hb dX7_keep_193 rfl (lv_at hl 0 rfl) ?_
  refine va_get (D := γ.1) (ci := 7) (v := .int (sm_64 0 3)) (C := RX7) (T := TX7) (N := 35) hx hb hU uin7 hown hK hP 0 rfl rfl 3 (by decide) (hU _ U972) (fun _ h9 => h9) rfl dX7_keep_194 ?_
  refine lv_topi (fun u_65 e_u_65 => ?_)
  replace hf := nm_y hf e_u_65
  refine va_iast hx hb hK hP (hD _ _) hS 19 0 rfl rfl (inB_vp (n := 193) (by decide)) dX7_keep_197 (fun H locs hP _ hS => ?_)
  obtain ⟨sm_66, e_sm_66, hf⟩ := nm_of hf
  replace hP : va_P γ.1 vwCl (wM γ am sm_66 sq) H := by rw [e_sm_66]; exact hP
  refine lv_aload_n hx hb dX7_keep_198 rfl (lv_at hl 1 rfl) ?_
  refine lv_sipush (v := 189) hx hb dX7_keep_199 (by decide) ?_
  refine lv_aload_n hx hb dX7_keep_202 rfl (lv_at hl 0 rfl) ?_
  refine va_get (D := γ.1) (ci := 7) (v := .int (sm_66 0 11)) (C := RX7) (T := TX7) (N := 35) hx hb hU uin7 hown hK hP 0 rfl rfl 11 (by decide) (hU _ U980) (fun _ h9 => h9) rfl dX7_keep_203 ?_
  refine lv_topi (fun u_67 e_u_67 => ?_)
  replace hf := nm_y hf e_u_67
  refine va_iast hx hb hK hP (hD _ _) hS 19 0 rfl rfl (inB_vp (n := 193) (by decide)) dX7_keep_206 (fun H locs hP _ hS => ?_)
  obtain ⟨sm_68, e_sm_68, hf⟩ := nm_of hf
  replace hP : va_P γ.1 vwCl (wM γ am sm_68 sq) H := by rw [e_sm_68]; exact hP
  refine lv_aload_n hx hb dX7_keep_207 rfl (lv_at hl 1 rfl) ?_
  refine lv_sipush (v := 190) hx hb dX7_keep_208 (by decide) ?_
  refine lv_aload_n hx hb dX7_keep_211 rfl (lv_at hl 0 rfl) ?_
  refine va_get (D := γ.1) (ci := 7) (v := .int (sm_68 0 14)) (C := RX7) (T := TX7) (N := 35) hx hb hU uin7 hown hK hP 0 rfl rfl 14 (by decide) (hU _ U983) (fun _ h9 => h9) rfl dX7_keep_212 ?_
  refine lv_topi (fun u_69 e_u_69 => ?_)
  replace hf := nm_y hf e_u_69
  refine va_iast hx hb hK hP (hD _ _) hS 19 0 rfl rfl (inB_vp (n := 193) (by decide)) dX7_keep_215 (fun H locs hP _ hS => ?_)
  obtain ⟨sm_70, e_sm_70, hf⟩ := nm_of hf
  replace hP : va_P γ.1 vwCl (wM γ am sm_70 sq) H := by rw [e_sm_70]; exact hP
  refine lv_aload_n hx hb dX7_keep_216 rfl (lv_at hl 1 rfl) ?_
  refine lv_sipush (v := 191) hx hb dX7_keep_217 (by decide) ?_
  refine lv_aload_n hx hb dX7_keep_220 rfl (lv_at hl 0 rfl) ?_
  refine va_get (D := γ.1) (ci := 7) (v := .int (sm_70 0 17)) (C := RX7) (T := TX7) (N := 35) hx hb hU uin7 hown hK hP 0 rfl rfl 17 (by decide) (hU _ U986) (fun _ h9 => h9) rfl dX7_keep_221 ?_
  refine lv_topi (fun u_71 e_u_71 => ?_)
  replace hf := nm_y hf e_u_71
  refine va_iast hx hb hK hP (hD _ _) hS 19 0 rfl rfl (inB_vp (n := 193) (by decide)) dX7_keep_224 (fun H locs hP _ hS => ?_)
  obtain ⟨sm_72, e_sm_72, hf⟩ := nm_of hf
  replace hP : va_P γ.1 vwCl (wM γ am sm_72 sq) H := by rw [e_sm_72]; exact hP
  refine lv_aload_n hx hb dX7_keep_225 rfl (lv_at hl 1 rfl) ?_
  refine lv_sipush (v := 192) hx hb dX7_keep_226 (by decide) ?_
  refine lv_aload_n hx hb dX7_keep_229 rfl (lv_at hl 0 rfl) ?_
  refine va_get (D := γ.1) (ci := 7) (v := .int (sm_72 0 18)) (C := RX7) (T := TX7) (N := 35) hx hb hU uin7 hown hK hP 0 rfl rfl 18 (by decide) (hU _ U987) (fun _ h9 => h9) rfl dX7_keep_230 ?_
  refine lv_topi (fun u_73 e_u_73 => ?_)
  replace hf := nm_y hf e_u_73
  refine va_iast hx hb hK hP (hD _ _) hS 19 0 rfl rfl (inB_vp (n := 193) (by decide)) dX7_keep_233 (fun H locs hP _ hS => ?_)
  obtain ⟨sm_74, e_sm_74, hf⟩ := nm_of hf
  replace hP : va_P γ.1 vwCl (wM γ am sm_74 sq) H := by rw [e_sm_74]; exact hP
  obtain rfl := Option.some.inj hf
  exact kt_vret C0 hP hS dX7_keep_234
set_option maxHeartbeats 4000000 in
set_option maxRecDepth 100000 in
theorem c_X7_keep_28 (l : Launch) (γ : Gm) (am : Nat → Nat) {sm : GS} {sq : Nat → Int64} {sm_z : GS} (hf : f_X7_keep 28 sm = some sm_z) : Kt l γ yX7_keep (Cond.code yX7_keep cX7_keep 3 none :: U) 0 0 [.ref (am 0), .ref (am (28))] (wM γ am sm sq) none (wM γ am sm_z sq) := by
  refine Kt.of (by decide) rfl (Nat.le_of_ble_eq_true rfl) rfl ?_
  intro p e s m below meth c A ls C0 hP hD0 hS hl
  obtain ⟨hx, hb, hml, hown, hts, hr, hlocks, hK, hE, hA⟩ := id C0
  have hU : ∀ w ∈ U, w.before _ s = true := fun w h => hts w (List.mem_cons_of_mem _ h)
  have hD : ∀ (sm : GS) (sq : Nat → Int64), va_D A (wM γ am sm sq) := fun _ _ => hD0.fst rfl
  have hl : lv_has ls 3 [(0, .ref (am 0)), (1, .ref (am (28)))] := hl
  have L2 : ∀ (K83 : GS → Option (GS)) (HK83 : ∀ (zsm : GS) (H : Heap) (locs : List Loc) (ls : Array Slot), K83 zsm = some sm_z → va_P γ.1 vwCl (wM γ am zsm sq) H → va_S A s.heap H locs → lv_has ls 3 [(0, .ref (am 0)), (1, .ref (am (28)))] → W p l e (rmK 0 0) s m ([.ref (am 0), .ref (am (28))] : List Value).toArray below meth c H locs 0 0 (MQ below (KQ γ A none (wM γ am sm_z sq)) ([.ref (am 0), .ref (am (28))] : List Value).toArray s 0 0 A) (F0 m 83 ls [])) (n : Nat) (x2_1 : Int32) (sm_2 : GS) (H : Heap) (locs : List Loc) (ls : Array Slot), f_X7_keep_L2 28 K83 n x2_1 sm_2 = some sm_z → va_P γ.1 vwCl (wM γ am sm_2 sq) H → va_S A s.heap H locs → lv_has ls 3 [(0, .ref (am 0)), (1, .ref (am (28))), (2, .int x2_1)] → W p l e (rmK 0 0) s m ([.ref (am 0), .ref (am (28))] : List Value).toArray below meth c H locs 0 0 (MQ below (KQ γ A none (wM γ am sm_z sq)) ([.ref (am 0), .ref (am (28))] : List Value).toArray s 0 0 A) (F0 m 2 ls []) := by
    intro K83 HK83
    intro n
    induction n with
    | zero =>
      intro x2_1 sm_2 H locs ls hf
      have hf : none = some _ := hf
      cases hf
    | succ n ih =>
      intro x2_1 sm_2 H locs ls hf hP hS hl
      rw [f_X7_keep_L2.eq_2] at hf
      refine lv_iload_n hx hb dX7_keep_2 rfl (lv_at hl 2 rfl) ?_
      refine lv_bipush (v := 10) hx hb dX7_keep_3 (by decide) ?_
      refine lv_icmp_ge (tgt := 83) hx hb dX7_keep_5 (by decide) (fun c_3 => ?_) (fun c_3 => ?_)
      · replace hf := ite_p c_3 hf
        exact HK83 sm_2 _ _ _ hf hP hS (lv_sub hl [0, 1] rfl)
      · replace hf := ite_n c_3 hf
        refine lv_aload_n hx hb dX7_keep_8 rfl (lv_at hl 1 rfl) ?_
        refine lv_iload_n hx hb dX7_keep_9 rfl (lv_at hl 2 rfl) ?_
        refine lv_aload_n hx hb dX7_keep_10 rfl (lv_at hl 0 rfl) ?_
        refine va_get (D := γ.1) (ci := 7) (v := .ref (am 5)) (C := RX7) (T := TX7) (N := 35) hx hb hU uin7 hown hK hP 0 rfl rfl 4 (by decide) (hU _ U973) (fun _ h9 => h9) rfl dX7_keep_11 ?_
        refine lv_iload_n hx hb dX7_keep_14 rfl (lv_at hl 2 rfl) ?_
        obtain ⟨g_4, hf⟩ := gd_of hf
        refine va_iald hx hb hK hP 4 0 rfl rfl (inB_vp g_4) dX7_keep_15 ?_
        refine lv_topi (fun u_5 e_u_5 => ?_)
        replace hf := nm_y hf e_u_5
        obtain ⟨g_6, hf⟩ := gd_of hf
        refine va_iast hx hb hK hP (hD _ _) hS 20 0 rfl rfl (inB_vp g_6) dX7_keep_16 (fun H locs hP _ hS => ?_)
        obtain ⟨sm_7, e_sm_7, hf⟩ := nm_of hf
        replace hP : va_P γ.1 vwCl (wM γ am sm_7 sq) H := by rw [e_sm_7]; exact hP
        refine lv_aload_n hx hb dX7_keep_17 rfl (lv_at hl 1 rfl) ?_
        refine lv_bipush (v := 10) hx hb dX7_keep_18 (by decide) ?_
        refine lv_iload_n hx hb dX7_keep_20 rfl (lv_at hl 2 rfl) ?_
        refine lv_iadd hx hb dX7_keep_21 ?_
        refine lv_aload_n hx hb dX7_keep_22 rfl (lv_at hl 0 rfl) ?_
        refine va_get (D := γ.1) (ci := 7) (v := .ref (am 6)) (C := RX7) (T := TX7) (N := 35) hx hb hU uin7 hown hK hP 0 rfl rfl 5 (by decide) (hU _ U974) (fun _ h9 => h9) rfl dX7_keep_23 ?_
        refine lv_iload_n hx hb dX7_keep_26 rfl (lv_at hl 2 rfl) ?_
        obtain ⟨g_8, hf⟩ := gd_of hf
        refine va_iald hx hb hK hP 5 0 rfl rfl (inB_vp g_8) dX7_keep_27 ?_
        refine lv_topi (fun u_9 e_u_9 => ?_)
        replace hf := nm_y hf e_u_9
        obtain ⟨g_10, hf⟩ := gd_of hf
        refine va_iast hx hb hK hP (hD _ _) hS 20 0 rfl rfl (inB_vp g_10) dX7_keep_28 (fun H locs hP _ hS => ?_)
        obtain ⟨sm_11, e_sm_11, hf⟩ := nm_of hf
        replace hP : va_P γ.1 vwCl (wM γ am sm_11 sq) H := by rw [e_sm_11]; exact hP
        refine lv_aload_n hx hb dX7_keep_29 rfl (lv_at hl 1 rfl) ?_
        refine lv_bipush (v := 20) hx hb dX7_keep_30 (by decide) ?_
        refine lv_iload_n hx hb dX7_keep_32 rfl (lv_at hl 2 rfl) ?_
        refine lv_iadd hx hb dX7_keep_33 ?_
        refine lv_aload_n hx hb dX7_keep_34 rfl (lv_at hl 0 rfl) ?_
        refine va_get (D := γ.1) (ci := 7) (v := .ref (am 7)) (C := RX7) (T := TX7) (N := 35) hx hb hU uin7 hown hK hP 0 rfl rfl 6 (by decide) (hU _ U975) (fun _ h9 => h9) rfl dX7_keep_35 ?_
        refine lv_iload_n hx hb dX7_keep_38 rfl (lv_at hl 2 rfl) ?_
        obtain ⟨g_12, hf⟩ := gd_of hf
        refine va_iald hx hb hK hP 6 0 rfl rfl (inB_vp g_12) dX7_keep_39 ?_
        refine lv_topi (fun u_13 e_u_13 => ?_)
        replace hf := nm_y hf e_u_13
        obtain ⟨g_14, hf⟩ := gd_of hf
        refine va_iast hx hb hK hP (hD _ _) hS 20 0 rfl rfl (inB_vp g_14) dX7_keep_40 (fun H locs hP _ hS => ?_)
        obtain ⟨sm_15, e_sm_15, hf⟩ := nm_of hf
        replace hP : va_P γ.1 vwCl (wM γ am sm_15 sq) H := by rw [e_sm_15]; exact hP
        refine lv_aload_n hx hb dX7_keep_41 rfl (lv_at hl 1 rfl) ?_
        refine lv_bipush (v := 30) hx hb dX7_keep_42 (by decide) ?_
        refine lv_iload_n hx hb dX7_keep_44 rfl (lv_at hl 2 rfl) ?_
        refine lv_iadd hx hb dX7_keep_45 ?_
        refine lv_aload_n hx hb dX7_keep_46 rfl (lv_at hl 0 rfl) ?_
        refine va_get (D := γ.1) (ci := 7) (v := .ref (am 8)) (C := RX7) (T := TX7) (N := 35) hx hb hU uin7 hown hK hP 0 rfl rfl 7 (by decide) (hU _ U976) (fun _ h9 => h9) rfl dX7_keep_47 ?_
        refine lv_iload_n hx hb dX7_keep_50 rfl (lv_at hl 2 rfl) ?_
        obtain ⟨g_16, hf⟩ := gd_of hf
        refine va_iald hx hb hK hP 7 0 rfl rfl (inB_vp g_16) dX7_keep_51 ?_
        refine lv_topi (fun u_17 e_u_17 => ?_)
        replace hf := nm_y hf e_u_17
        obtain ⟨g_18, hf⟩ := gd_of hf
        refine va_iast hx hb hK hP (hD _ _) hS 20 0 rfl rfl (inB_vp g_18) dX7_keep_52 (fun H locs hP _ hS => ?_)
        obtain ⟨sm_19, e_sm_19, hf⟩ := nm_of hf
        replace hP : va_P γ.1 vwCl (wM γ am sm_19 sq) H := by rw [e_sm_19]; exact hP
        refine lv_aload_n hx hb dX7_keep_53 rfl (lv_at hl 1 rfl) ?_
        refine lv_bipush (v := 40) hx hb dX7_keep_54 (by decide) ?_
        refine lv_iload_n hx hb dX7_keep_56 rfl (lv_at hl 2 rfl) ?_
        refine lv_iadd hx hb dX7_keep_57 ?_
        refine lv_aload_n hx hb dX7_keep_58 rfl (lv_at hl 0 rfl) ?_
        refine va_get (D := γ.1) (ci := 7) (v := .ref (am 9)) (C := RX7) (T := TX7) (N := 35) hx hb hU uin7 hown hK hP 0 rfl rfl 8 (by decide) (hU _ U977) (fun _ h9 => h9) rfl dX7_keep_59 ?_
        refine lv_iload_n hx hb dX7_keep_62 rfl (lv_at hl 2 rfl) ?_
        obtain ⟨g_20, hf⟩ := gd_of hf
        refine va_iald hx hb hK hP 8 0 rfl rfl (inB_vp g_20) dX7_keep_63 ?_
        refine lv_topi (fun u_21 e_u_21 => ?_)
        replace hf := nm_y hf e_u_21
        obtain ⟨g_22, hf⟩ := gd_of hf
        refine va_iast hx hb hK hP (hD _ _) hS 20 0 rfl rfl (inB_vp g_22) dX7_keep_64 (fun H locs hP _ hS => ?_)
        obtain ⟨sm_23, e_sm_23, hf⟩ := nm_of hf
        replace hP : va_P γ.1 vwCl (wM γ am sm_23 sq) H := by rw [e_sm_23]; exact hP
        refine lv_aload_n hx hb dX7_keep_65 rfl (lv_at hl 1 rfl) ?_
        refine lv_bipush (v := 50) hx hb dX7_keep_66 (by decide) ?_
        refine lv_iload_n hx hb dX7_keep_68 rfl (lv_at hl 2 rfl) ?_
        refine lv_iadd hx hb dX7_keep_69 ?_
        refine lv_aload_n hx hb dX7_keep_70 rfl (lv_at hl 0 rfl) ?_
        refine va_get (D := γ.1) (ci := 7) (v := .ref (am 10)) (C := RX7) (T := TX7) (N := 35) hx hb hU uin7 hown hK hP 0 rfl rfl 9 (by decide) (hU _ U978) (fun _ h9 => h9) rfl dX7_keep_71 ?_
        refine lv_iload_n hx hb dX7_keep_74 rfl (lv_at hl 2 rfl) ?_
        obtain ⟨g_24, hf⟩ := gd_of hf
        refine va_iald hx hb hK hP 9 0 rfl rfl (inB_vp g_24) dX7_keep_75 ?_
        refine lv_topi (fun u_25 e_u_25 => ?_)
        replace hf := nm_y hf e_u_25
        obtain ⟨g_26, hf⟩ := gd_of hf
        refine va_iast hx hb hK hP (hD _ _) hS 20 0 rfl rfl (inB_vp g_26) dX7_keep_76 (fun H locs hP _ hS => ?_)
        obtain ⟨sm_27, e_sm_27, hf⟩ := nm_of hf
        replace hP : va_P γ.1 vwCl (wM γ am sm_27 sq) H := by rw [e_sm_27]; exact hP
        obtain ⟨x2_28, e_x2_28⟩ : ∃ y : Int32, y = x2_1 + (1 : Int32) := ⟨_, rfl⟩
        replace hf := nm_y hf e_x2_28
        refine lv_iinc (v := x2_28) (lv' := [(2, .int x2_28), (0, .ref (am 0)), (1, .ref (am (28)))]) hx hb dX7_keep_77 hl (k := 2) rfl (by rw [e_x2_28]; rfl) (by decide) rfl (fun ls hl => ?_)
        refine lv_goto (tgt := 2) hx hb dX7_keep_80 (by decide) ?_
        exact ih x2_28 sm_27 _ _ _ hf hP hS (lv_sub hl [1, 2, 0] rfl)
  have L85 : ∀ (K109 : GS → Option (GS)) (HK109 : ∀ (zsm : GS) (H : Heap) (locs : List Loc) (ls : Array Slot), K109 zsm = some sm_z → va_P γ.1 vwCl (wM γ am zsm sq) H → va_S A s.heap H locs → lv_has ls 3 [(0, .ref (am 0)), (1, .ref (am (28)))] → W p l e (rmK 0 0) s m ([.ref (am 0), .ref (am (28))] : List Value).toArray below meth c H locs 0 0 (MQ below (KQ γ A none (wM γ am sm_z sq)) ([.ref (am 0), .ref (am (28))] : List Value).toArray s 0 0 A) (F0 m 109 ls [])) (n : Nat) (x2_30 : Int32) (sm_31 : GS) (H : Heap) (locs : List Loc) (ls : Array Slot), f_X7_keep_L85 28 K109 n x2_30 sm_31 = some sm_z → va_P γ.1 vwCl (wM γ am sm_31 sq) H → va_S A s.heap H locs → lv_has ls 3 [(0, .ref (am 0)), (1, .ref (am (28))), (2, .int x2_30)] → W p l e (rmK 0 0) s m ([.ref (am 0), .ref (am (28))] : List Value).toArray below meth c H locs 0 0 (MQ below (KQ γ A none (wM γ am sm_z sq)) ([.ref (am 0), .ref (am (28))] : List Value).toArray s 0 0 A) (F0 m 85 ls []) := by
    intro K109 HK109
    intro n
    induction n with
    | zero =>
      intro x2_30 sm_31 H locs ls hf
      have hf : none = some _ := hf
      cases hf
    | succ n ih =>
      intro x2_30 sm_31 H locs ls hf hP hS hl
      rw [f_X7_keep_L85.eq_2] at hf
      refine lv_iload_n hx hb dX7_keep_85 rfl (lv_at hl 2 rfl) ?_
      refine lv_bipush (v := 100) hx hb dX7_keep_86 (by decide) ?_
      refine lv_icmp_ge (tgt := 109) hx hb dX7_keep_88 (by decide) (fun c_32 => ?_) (fun c_32 => ?_)
      · replace hf := ite_p c_32 hf
        exact HK109 sm_31 _ _ _ hf hP hS (lv_sub hl [0, 1] rfl)
      · replace hf := ite_n c_32 hf
        refine lv_aload_n hx hb dX7_keep_91 rfl (lv_at hl 1 rfl) ?_
        refine lv_bipush (v := 60) hx hb dX7_keep_92 (by decide) ?_
        refine lv_iload_n hx hb dX7_keep_94 rfl (lv_at hl 2 rfl) ?_
        refine lv_iadd hx hb dX7_keep_95 ?_
        refine lv_aload_n hx hb dX7_keep_96 rfl (lv_at hl 0 rfl) ?_
        refine va_get (D := γ.1) (ci := 7) (v := .ref (am 11)) (C := RX7) (T := TX7) (N := 35) hx hb hU uin7 hown hK hP 0 rfl rfl 10 (by decide) (hU _ U979) (fun _ h9 => h9) rfl dX7_keep_97 ?_
        refine lv_iload_n hx hb dX7_keep_100 rfl (lv_at hl 2 rfl) ?_
        obtain ⟨g_33, hf⟩ := gd_of hf
        refine va_iald hx hb hK hP 10 0 rfl rfl (inB_vp g_33) dX7_keep_101 ?_
        refine lv_topi (fun u_34 e_u_34 => ?_)
        replace hf := nm_y hf e_u_34
        obtain ⟨g_35, hf⟩ := gd_of hf
        refine va_iast hx hb hK hP (hD _ _) hS 20 0 rfl rfl (inB_vp g_35) dX7_keep_102 (fun H locs hP _ hS => ?_)
        obtain ⟨sm_36, e_sm_36, hf⟩ := nm_of hf
        replace hP : va_P γ.1 vwCl (wM γ am sm_36 sq) H := by rw [e_sm_36]; exact hP
        obtain ⟨x2_37, e_x2_37⟩ : ∃ y : Int32, y = x2_30 + (1 : Int32) := ⟨_, rfl⟩
        replace hf := nm_y hf e_x2_37
        refine lv_iinc (v := x2_37) (lv' := [(2, .int x2_37), (0, .ref (am 0)), (1, .ref (am (28)))]) hx hb dX7_keep_103 hl (k := 2) rfl (by rw [e_x2_37]; rfl) (by decide) rfl (fun ls hl => ?_)
        refine lv_goto (tgt := 85) hx hb dX7_keep_106 (by decide) ?_
        exact ih x2_37 sm_36 _ _ _ hf hP hS (lv_sub hl [1, 2, 0] rfl)
  have L111 : ∀ (K149 : GS → Option (GS)) (HK149 : ∀ (zsm : GS) (H : Heap) (locs : List Loc) (ls : Array Slot), K149 zsm = some sm_z → va_P γ.1 vwCl (wM γ am zsm sq) H → va_S A s.heap H locs → lv_has ls 3 [(0, .ref (am 0)), (1, .ref (am (28)))] → W p l e (rmK 0 0) s m ([.ref (am 0), .ref (am (28))] : List Value).toArray below meth c H locs 0 0 (MQ below (KQ γ A none (wM γ am sm_z sq)) ([.ref (am 0), .ref (am (28))] : List Value).toArray s 0 0 A) (F0 m 149 ls [])) (n : Nat) (x2_39 : Int32) (sm_40 : GS) (H : Heap) (locs : List Loc) (ls : Array Slot), f_X7_keep_L111 28 K149 n x2_39 sm_40 = some sm_z → va_P γ.1 vwCl (wM γ am sm_40 sq) H → va_S A s.heap H locs → lv_has ls 3 [(0, .ref (am 0)), (1, .ref (am (28))), (2, .int x2_39)] → W p l e (rmK 0 0) s m ([.ref (am 0), .ref (am (28))] : List Value).toArray below meth c H locs 0 0 (MQ below (KQ γ A none (wM γ am sm_z sq)) ([.ref (am 0), .ref (am (28))] : List Value).toArray s 0 0 A) (F0 m 111 ls []) := by
    intro K149 HK149
    intro n
    induction n with
    | zero =>
      intro x2_39 sm_40 H locs ls hf
      have hf : none = some _ := hf
      cases hf
    | succ n ih =>
      intro x2_39 sm_40 H locs ls hf hP hS hl
      rw [f_X7_keep_L111.eq_2] at hf
      refine lv_iload_n hx hb dX7_keep_111 rfl (lv_at hl 2 rfl) ?_
      refine lv_bipush (v := 6) hx hb dX7_keep_112 (by decide) ?_
      refine lv_icmp_ge (tgt := 149) hx hb dX7_keep_114 (by decide) (fun c_41 => ?_) (fun c_41 => ?_)
      · replace hf := ite_p c_41 hf
        exact HK149 sm_40 _ _ _ hf hP hS (lv_sub hl [0, 1] rfl)
      · replace hf := ite_n c_41 hf
        refine lv_aload_n hx hb dX7_keep_117 rfl (lv_at hl 1 rfl) ?_
        refine lv_sipush (v := 160) hx hb dX7_keep_118 (by decide) ?_
        refine lv_iload_n hx hb dX7_keep_121 rfl (lv_at hl 2 rfl) ?_
        refine lv_iadd hx hb dX7_keep_122 ?_
        refine lv_aload_n hx hb dX7_keep_123 rfl (lv_at hl 0 rfl) ?_
        refine va_get (D := γ.1) (ci := 7) (v := .ref (am 13)) (C := RX7) (T := TX7) (N := 35) hx hb hU uin7 hown hK hP 0 rfl rfl 12 (by decide) (hU _ U981) (fun _ h9 => h9) rfl dX7_keep_124 ?_
        refine lv_iload_n hx hb dX7_keep_127 rfl (lv_at hl 2 rfl) ?_
        obtain ⟨g_42, hf⟩ := gd_of hf
        refine va_iald hx hb hK hP 11 0 rfl rfl (inB_vp g_42) dX7_keep_128 ?_
        refine lv_topi (fun u_43 e_u_43 => ?_)
        replace hf := nm_y hf e_u_43
        obtain ⟨g_44, hf⟩ := gd_of hf
        refine va_iast hx hb hK hP (hD _ _) hS 20 0 rfl rfl (inB_vp g_44) dX7_keep_129 (fun H locs hP _ hS => ?_)
        obtain ⟨sm_45, e_sm_45, hf⟩ := nm_of hf
        replace hP : va_P γ.1 vwCl (wM γ am sm_45 sq) H := by rw [e_sm_45]; exact hP
        refine lv_aload_n hx hb dX7_keep_130 rfl (lv_at hl 1 rfl) ?_
        refine lv_sipush (v := 166) hx hb dX7_keep_131 (by decide) ?_
        refine lv_iload_n hx hb dX7_keep_134 rfl (lv_at hl 2 rfl) ?_
        refine lv_iadd hx hb dX7_keep_135 ?_
        refine lv_aload_n hx hb dX7_keep_136 rfl (lv_at hl 0 rfl) ?_
        refine va_get (D := γ.1) (ci := 7) (v := .ref (am 14)) (C := RX7) (T := TX7) (N := 35) hx hb hU uin7 hown hK hP 0 rfl rfl 13 (by decide) (hU _ U982) (fun _ h9 => h9) rfl dX7_keep_137 ?_
        refine lv_iload_n hx hb dX7_keep_140 rfl (lv_at hl 2 rfl) ?_
        obtain ⟨g_46, hf⟩ := gd_of hf
        refine va_iald hx hb hK hP 12 0 rfl rfl (inB_vp g_46) dX7_keep_141 ?_
        refine lv_topi (fun u_47 e_u_47 => ?_)
        replace hf := nm_y hf e_u_47
        obtain ⟨g_48, hf⟩ := gd_of hf
        refine va_iast hx hb hK hP (hD _ _) hS 20 0 rfl rfl (inB_vp g_48) dX7_keep_142 (fun H locs hP _ hS => ?_)
        obtain ⟨sm_49, e_sm_49, hf⟩ := nm_of hf
        replace hP : va_P γ.1 vwCl (wM γ am sm_49 sq) H := by rw [e_sm_49]; exact hP
        obtain ⟨x2_50, e_x2_50⟩ : ∃ y : Int32, y = x2_39 + (1 : Int32) := ⟨_, rfl⟩
        replace hf := nm_y hf e_x2_50
        refine lv_iinc (v := x2_50) (lv' := [(2, .int x2_50), (0, .ref (am 0)), (1, .ref (am (28)))]) hx hb dX7_keep_143 hl (k := 2) rfl (by rw [e_x2_50]; rfl) (by decide) rfl (fun ls hl => ?_)
        refine lv_goto (tgt := 111) hx hb dX7_keep_146 (by decide) ?_
        exact ih x2_50 sm_49 _ _ _ hf hP hS (lv_sub hl [1, 2, 0] rfl)
  have L151 : ∀ (K189 : GS → Option (GS)) (HK189 : ∀ (zsm : GS) (H : Heap) (locs : List Loc) (ls : Array Slot), K189 zsm = some sm_z → va_P γ.1 vwCl (wM γ am zsm sq) H → va_S A s.heap H locs → lv_has ls 3 [(0, .ref (am 0)), (1, .ref (am (28)))] → W p l e (rmK 0 0) s m ([.ref (am 0), .ref (am (28))] : List Value).toArray below meth c H locs 0 0 (MQ below (KQ γ A none (wM γ am sm_z sq)) ([.ref (am 0), .ref (am (28))] : List Value).toArray s 0 0 A) (F0 m 189 ls [])) (n : Nat) (x2_52 : Int32) (sm_53 : GS) (H : Heap) (locs : List Loc) (ls : Array Slot), f_X7_keep_L151 28 K189 n x2_52 sm_53 = some sm_z → va_P γ.1 vwCl (wM γ am sm_53 sq) H → va_S A s.heap H locs → lv_has ls 3 [(0, .ref (am 0)), (1, .ref (am (28))), (2, .int x2_52)] → W p l e (rmK 0 0) s m ([.ref (am 0), .ref (am (28))] : List Value).toArray below meth c H locs 0 0 (MQ below (KQ γ A none (wM γ am sm_z sq)) ([.ref (am 0), .ref (am (28))] : List Value).toArray s 0 0 A) (F0 m 151 ls []) := by
    intro K189 HK189
    intro n
    induction n with
    | zero =>
      intro x2_52 sm_53 H locs ls hf
      have hf : none = some _ := hf
      cases hf
    | succ n ih =>
      intro x2_52 sm_53 H locs ls hf hP hS hl
      rw [f_X7_keep_L151.eq_2] at hf
      refine lv_iload_n hx hb dX7_keep_151 rfl (lv_at hl 2 rfl) ?_
      refine lv_bipush (v := 8) hx hb dX7_keep_152 (by decide) ?_
      refine lv_icmp_ge (tgt := 189) hx hb dX7_keep_154 (by decide) (fun c_54 => ?_) (fun c_54 => ?_)
      · replace hf := ite_p c_54 hf
        exact HK189 sm_53 _ _ _ hf hP hS (lv_sub hl [0, 1] rfl)
      · replace hf := ite_n c_54 hf
        refine lv_aload_n hx hb dX7_keep_157 rfl (lv_at hl 1 rfl) ?_
        refine lv_sipush (v := 172) hx hb dX7_keep_158 (by decide) ?_
        refine lv_iload_n hx hb dX7_keep_161 rfl (lv_at hl 2 rfl) ?_
        refine lv_iadd hx hb dX7_keep_162 ?_
        refine lv_aload_n hx hb dX7_keep_163 rfl (lv_at hl 0 rfl) ?_
        refine va_get (D := γ.1) (ci := 7) (v := .ref (am 16)) (C := RX7) (T := TX7) (N := 35) hx hb hU uin7 hown hK hP 0 rfl rfl 15 (by decide) (hU _ U984) (fun _ h9 => h9) rfl dX7_keep_164 ?_
        refine lv_iload_n hx hb dX7_keep_167 rfl (lv_at hl 2 rfl) ?_
        obtain ⟨g_55, hf⟩ := gd_of hf
        refine va_iald hx hb hK hP 13 0 rfl rfl (inB_vp g_55) dX7_keep_168 ?_
        refine lv_topi (fun u_56 e_u_56 => ?_)
        replace hf := nm_y hf e_u_56
        obtain ⟨g_57, hf⟩ := gd_of hf
        refine va_iast hx hb hK hP (hD _ _) hS 20 0 rfl rfl (inB_vp g_57) dX7_keep_169 (fun H locs hP _ hS => ?_)
        obtain ⟨sm_58, e_sm_58, hf⟩ := nm_of hf
        replace hP : va_P γ.1 vwCl (wM γ am sm_58 sq) H := by rw [e_sm_58]; exact hP
        refine lv_aload_n hx hb dX7_keep_170 rfl (lv_at hl 1 rfl) ?_
        refine lv_sipush (v := 180) hx hb dX7_keep_171 (by decide) ?_
        refine lv_iload_n hx hb dX7_keep_174 rfl (lv_at hl 2 rfl) ?_
        refine lv_iadd hx hb dX7_keep_175 ?_
        refine lv_aload_n hx hb dX7_keep_176 rfl (lv_at hl 0 rfl) ?_
        refine va_get (D := γ.1) (ci := 7) (v := .ref (am 17)) (C := RX7) (T := TX7) (N := 35) hx hb hU uin7 hown hK hP 0 rfl rfl 16 (by decide) (hU _ U985) (fun _ h9 => h9) rfl dX7_keep_177 ?_
        refine lv_iload_n hx hb dX7_keep_180 rfl (lv_at hl 2 rfl) ?_
        obtain ⟨g_59, hf⟩ := gd_of hf
        refine va_iald hx hb hK hP 14 0 rfl rfl (inB_vp g_59) dX7_keep_181 ?_
        refine lv_topi (fun u_60 e_u_60 => ?_)
        replace hf := nm_y hf e_u_60
        obtain ⟨g_61, hf⟩ := gd_of hf
        refine va_iast hx hb hK hP (hD _ _) hS 20 0 rfl rfl (inB_vp g_61) dX7_keep_182 (fun H locs hP _ hS => ?_)
        obtain ⟨sm_62, e_sm_62, hf⟩ := nm_of hf
        replace hP : va_P γ.1 vwCl (wM γ am sm_62 sq) H := by rw [e_sm_62]; exact hP
        obtain ⟨x2_63, e_x2_63⟩ : ∃ y : Int32, y = x2_52 + (1 : Int32) := ⟨_, rfl⟩
        replace hf := nm_y hf e_x2_63
        refine lv_iinc (v := x2_63) (lv' := [(2, .int x2_63), (0, .ref (am 0)), (1, .ref (am (28)))]) hx hb dX7_keep_183 hl (k := 2) rfl (by rw [e_x2_63]; rfl) (by decide) rfl (fun ls hl => ?_)
        refine lv_goto (tgt := 151) hx hb dX7_keep_186 (by decide) ?_
        exact ih x2_63 sm_62 _ _ _ hf hP hS (lv_sub hl [1, 2, 0] rfl)
  unfold f_X7_keep at hf
  refine lv_iconst (v := 0) hx hb dX7_keep_0 (by decide) ?_
  refine lv_istore_n (lv' := [(2, .int (0 : Int32)), (0, .ref (am 0)), (1, .ref (am (28)))]) hx hb dX7_keep_1 rfl hl (by decide) rfl (fun ls hl => ?_)
  refine L2 _ (fun sm_29 H locs ls hf hP hS hl => ?_) FU (0 : Int32) sm _ _ _ hf hP hS (lv_sub hl [1, 2, 0] rfl)
  refine lv_iconst (v := 0) hx hb dX7_keep_83 (by decide) ?_
  refine lv_istore_n (lv' := [(2, .int (0 : Int32)), (0, .ref (am 0)), (1, .ref (am (28)))]) hx hb dX7_keep_84 rfl hl (by decide) rfl (fun ls hl => ?_)
  refine L85 _ (fun sm_38 H locs ls hf hP hS hl => ?_) FU (0 : Int32) sm_29 _ _ _ hf hP hS (lv_sub hl [1, 2, 0] rfl)
  refine lv_iconst (v := 0) hx hb dX7_keep_109 (by decide) ?_
  refine lv_istore_n (lv' := [(2, .int (0 : Int32)), (0, .ref (am 0)), (1, .ref (am (28)))]) hx hb dX7_keep_110 rfl hl (by decide) rfl (fun ls hl => ?_)
  refine L111 _ (fun sm_51 H locs ls hf hP hS hl => ?_) FU (0 : Int32) sm_38 _ _ _ hf hP hS (lv_sub hl [1, 2, 0] rfl)
  refine lv_iconst (v := 0) hx hb dX7_keep_149 (by decide) ?_
  refine lv_istore_n (lv' := [(2, .int (0 : Int32)), (0, .ref (am 0)), (1, .ref (am (28)))]) hx hb dX7_keep_150 rfl hl (by decide) rfl (fun ls hl => ?_)
  refine L151 _ (fun sm_64 H locs ls hf hP hS hl => ?_) FU (0 : Int32) sm_51 _ _ _ hf hP hS (lv_sub hl [1, 2, 0] rfl)
  refine lv_aload_n hx hb dX7_keep_189 rfl (lv_at hl 1 rfl) ?_
  refine lv_sipush (v := 188) hx hb dX7_keep_190 (by decide) ?_
  refine lv_aload_n hx hb dX7_keep_193 rfl (lv_at hl 0 rfl) ?_
  refine va_get (D := γ.1) (ci := 7) (v := .int (sm_64 0 3)) (C := RX7) (T := TX7) (N := 35) hx hb hU uin7 hown hK hP 0 rfl rfl 3 (by decide) (hU _ U972) (fun _ h9 => h9) rfl dX7_keep_194 ?_
  refine lv_topi (fun u_65 e_u_65 => ?_)
  replace hf := nm_y hf e_u_65
  refine va_iast hx hb hK hP (hD _ _) hS 20 0 rfl rfl (inB_vp (n := 193) (by decide)) dX7_keep_197 (fun H locs hP _ hS => ?_)
  obtain ⟨sm_66, e_sm_66, hf⟩ := nm_of hf
  replace hP : va_P γ.1 vwCl (wM γ am sm_66 sq) H := by rw [e_sm_66]; exact hP
  refine lv_aload_n hx hb dX7_keep_198 rfl (lv_at hl 1 rfl) ?_
  refine lv_sipush (v := 189) hx hb dX7_keep_199 (by decide) ?_
  refine lv_aload_n hx hb dX7_keep_202 rfl (lv_at hl 0 rfl) ?_
  refine va_get (D := γ.1) (ci := 7) (v := .int (sm_66 0 11)) (C := RX7) (T := TX7) (N := 35) hx hb hU uin7 hown hK hP 0 rfl rfl 11 (by decide) (hU _ U980) (fun _ h9 => h9) rfl dX7_keep_203 ?_
  refine lv_topi (fun u_67 e_u_67 => ?_)
  replace hf := nm_y hf e_u_67
  refine va_iast hx hb hK hP (hD _ _) hS 20 0 rfl rfl (inB_vp (n := 193) (by decide)) dX7_keep_206 (fun H locs hP _ hS => ?_)
  obtain ⟨sm_68, e_sm_68, hf⟩ := nm_of hf
  replace hP : va_P γ.1 vwCl (wM γ am sm_68 sq) H := by rw [e_sm_68]; exact hP
  refine lv_aload_n hx hb dX7_keep_207 rfl (lv_at hl 1 rfl) ?_
  refine lv_sipush (v := 190) hx hb dX7_keep_208 (by decide) ?_
  refine lv_aload_n hx hb dX7_keep_211 rfl (lv_at hl 0 rfl) ?_
  refine va_get (D := γ.1) (ci := 7) (v := .int (sm_68 0 14)) (C := RX7) (T := TX7) (N := 35) hx hb hU uin7 hown hK hP 0 rfl rfl 14 (by decide) (hU _ U983) (fun _ h9 => h9) rfl dX7_keep_212 ?_
  refine lv_topi (fun u_69 e_u_69 => ?_)
  replace hf := nm_y hf e_u_69
  refine va_iast hx hb hK hP (hD _ _) hS 20 0 rfl rfl (inB_vp (n := 193) (by decide)) dX7_keep_215 (fun H locs hP _ hS => ?_)
  obtain ⟨sm_70, e_sm_70, hf⟩ := nm_of hf
  replace hP : va_P γ.1 vwCl (wM γ am sm_70 sq) H := by rw [e_sm_70]; exact hP
  refine lv_aload_n hx hb dX7_keep_216 rfl (lv_at hl 1 rfl) ?_
  refine lv_sipush (v := 191) hx hb dX7_keep_217 (by decide) ?_
  refine lv_aload_n hx hb dX7_keep_220 rfl (lv_at hl 0 rfl) ?_
  refine va_get (D := γ.1) (ci := 7) (v := .int (sm_70 0 17)) (C := RX7) (T := TX7) (N := 35) hx hb hU uin7 hown hK hP 0 rfl rfl 17 (by decide) (hU _ U986) (fun _ h9 => h9) rfl dX7_keep_221 ?_
  refine lv_topi (fun u_71 e_u_71 => ?_)
  replace hf := nm_y hf e_u_71
  refine va_iast hx hb hK hP (hD _ _) hS 20 0 rfl rfl (inB_vp (n := 193) (by decide)) dX7_keep_224 (fun H locs hP _ hS => ?_)
  obtain ⟨sm_72, e_sm_72, hf⟩ := nm_of hf
  replace hP : va_P γ.1 vwCl (wM γ am sm_72 sq) H := by rw [e_sm_72]; exact hP
  refine lv_aload_n hx hb dX7_keep_225 rfl (lv_at hl 1 rfl) ?_
  refine lv_sipush (v := 192) hx hb dX7_keep_226 (by decide) ?_
  refine lv_aload_n hx hb dX7_keep_229 rfl (lv_at hl 0 rfl) ?_
  refine va_get (D := γ.1) (ci := 7) (v := .int (sm_72 0 18)) (C := RX7) (T := TX7) (N := 35) hx hb hU uin7 hown hK hP 0 rfl rfl 18 (by decide) (hU _ U987) (fun _ h9 => h9) rfl dX7_keep_230 ?_
  refine lv_topi (fun u_73 e_u_73 => ?_)
  replace hf := nm_y hf e_u_73
  refine va_iast hx hb hK hP (hD _ _) hS 20 0 rfl rfl (inB_vp (n := 193) (by decide)) dX7_keep_233 (fun H locs hP _ hS => ?_)
  obtain ⟨sm_74, e_sm_74, hf⟩ := nm_of hf
  replace hP : va_P γ.1 vwCl (wM γ am sm_74 sq) H := by rw [e_sm_74]; exact hP
  obtain rfl := Option.some.inj hf
  exact kt_vret C0 hP hS dX7_keep_234
