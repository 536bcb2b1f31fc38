set_option maxHeartbeats 4000000 in
set_option maxRecDepth 100000 in
theorem c_X7_couldSee (l : Launch) (γ : Gm) (am : Nat → Nat) {sm : GS} {sq : Nat → Int64} {x1 : Int32} {x2 : Int32} {rv : Int32} (hf : f_X7_couldSee sm x1 x2 = some rv) : Kt l γ yX7_couldSee (Cond.code yX7_couldSee cX7_couldSee 4 (some .boolean) :: U) 2 44 [.ref (am 0), .int x1, .int x2] (wM γ am sm sq) (some (.int rv)) (wM γ am sm sq) := by
  refine Kt.of (by decide) rfl (Nat.le_of_ble_eq_true rfl) rfl ?_
  intro p e s m below meth c A ls C0 hP hD0 hS hl
  obtain ⟨hx, hb, hml, hown, hts, hr, hlocks, hK, hE, hA⟩ := id C0
  have hU : ∀ w ∈ U, w.before _ s = true := fun w h => hts w (List.mem_cons_of_mem _ h)
  have hD : ∀ (sm : GS) (sq : Nat → Int64), va_D A (wM γ am sm sq) := fun _ _ => hD0.fst rfl
  have hl : lv_has ls 4 [(0, .ref (am 0)), (1, .int x1), (2, .int x2)] := hl
  have L73 : ∀ (x1_10 : Int32) (x2_11 : Int32) (K135 : Option (Int32)) (HK135 : ∀  (H : Heap) (locs : List Loc) (ls : Array Slot), K135 = some rv → va_P γ.1 vwCl (wM γ am sm sq) H → va_S A s.heap H locs → lv_has ls 4 [(0, .ref (am 0)), (1, .int x1_10), (2, .int x2_11)] → W p l e (rmK 2 44) s m ([.ref (am 0), .int x1, .int x2] : List Value).toArray below meth c H locs 0 0 (MQ below (KQ γ A (some (.int rv)) (wM γ am sm sq)) ([.ref (am 0), .int x1, .int x2] : List Value).toArray s 0 0 A) (F0 m 135 ls [])) (n : Nat) (x3_12 : Int32) (H : Heap) (locs : List Loc) (ls : Array Slot), f_X7_couldSee_L73 sm x1_10 x2_11 K135 n x3_12 = some rv → va_P γ.1 vwCl (wM γ am sm sq) H → va_S A s.heap H locs → lv_has ls 4 [(0, .ref (am 0)), (1, .int x1_10), (2, .int x2_11), (3, .int x3_12)] → W p l e (rmK 2 44) s m ([.ref (am 0), .int x1, .int x2] : List Value).toArray below meth c H locs 0 0 (MQ below (KQ γ A (some (.int rv)) (wM γ am sm sq)) ([.ref (am 0), .int x1, .int x2] : List Value).toArray s 0 0 A) (F0 m 73 ls []) := by
    intro x1_10 x2_11 K135 HK135
    intro n
    induction n with
    | zero =>
      intro x3_12 H locs ls hf
      have hf : none = some _ := hf
      cases hf
    | succ n ih =>
      intro x3_12 H locs ls hf hP hS hl
      rw [f_X7_couldSee_L73.eq_2] at hf
      refine lv_iload_n hx hb dX7_couldSee_73 rfl (lv_at hl 3 rfl) ?_
      refine lv_aload_n hx hb dX7_couldSee_74 rfl (lv_at hl 0 rfl) ?_
      refine va_get (D := γ.1) (ci := 7) (v := .int (sm 0 3)) (C := RX7) (T := TX7) (N := 35) hx hb hU uin7 hown hK hP 0 rfl rfl 3 (by decide) (hU _ U972) (fun _ h9 => h9) rfl dX7_couldSee_75 ?_
      refine lv_icmp_ge (tgt := 135) hx hb dX7_couldSee_78 (by decide) (fun c_13 => ?_) (fun c_13 => ?_)
      · replace hf := ite_p c_13 hf
        exact HK135 _ _ _ hf hP hS (lv_sub hl [0, 1, 2] rfl)
      · replace hf := ite_n c_13 hf
        refine lv_aload_n hx hb dX7_couldSee_81 rfl (lv_at hl 0 rfl) ?_
        refine va_get (D := γ.1) (ci := 7) (v := .ref (am 9)) (C := RX7) (T := TX7) (N := 35) hx hb hU uin7 hown hK hP 0 rfl rfl 8 (by decide) (hU _ U977) (fun _ h9 => h9) rfl dX7_couldSee_82 ?_
        refine lv_iload_n hx hb dX7_couldSee_85 rfl (lv_at hl 3 rfl) ?_
        obtain ⟨g_14, hf⟩ := gd_of hf
        refine va_iald hx hb hK hP 8 0 rfl rfl (inB_vp g_14) dX7_couldSee_86 ?_
        refine lv_iconst (v := 1) hx hb dX7_couldSee_87 (by decide) ?_
        refine lv_icmp_ne (tgt := 129) hx hb dX7_couldSee_88 (by decide) (fun c_15 => ?_) (fun c_15 => ?_)
        · replace hf := ite_n c_15 hf
          obtain ⟨x3_16, e_x3_16⟩ : ∃ y : Int32, y = x3_12 + (1 : Int32) := ⟨_, rfl⟩
          replace hf := nm_y hf e_x3_16
          refine lv_iinc (v := x3_16) (lv' := [(3, .int x3_16), (0, .ref (am 0)), (1, .int x1_10), (2, .int x2_11)]) hx hb dX7_couldSee_129 hl (k := 3) rfl (by rw [e_x3_16]; rfl) (by decide) rfl (fun ls hl => ?_)
          refine lv_goto (tgt := 73) hx hb dX7_couldSee_132 (by decide) ?_
          exact ih x3_16 _ _ _ hf hP hS (lv_sub hl [1, 2, 3, 0] rfl)
        · replace hf := ite_p c_15 hf
          refine lv_aload_n hx hb dX7_couldSee_91 rfl (lv_at hl 0 rfl) ?_
          refine lv_iload_n hx hb dX7_couldSee_92 rfl (lv_at hl 1 rfl) ?_
          refine lv_iload_n hx hb dX7_couldSee_93 rfl (lv_at hl 2 rfl) ?_
          refine lv_aload_n hx hb dX7_couldSee_94 rfl (lv_at hl 0 rfl) ?_
          refine va_get (D := γ.1) (ci := 7) (v := .ref (am 7)) (C := RX7) (T := TX7) (N := 35) hx hb hU uin7 hown hK hP 0 rfl rfl 6 (by decide) (hU _ U975) (fun _ h9 => h9) rfl dX7_couldSee_95 ?_
          refine lv_iload_n hx hb dX7_couldSee_98 rfl (lv_at hl 3 rfl) ?_
          obtain ⟨g_17, hf⟩ := gd_of hf
          refine va_iald hx hb hK hP 6 0 rfl rfl (inB_vp g_17) dX7_couldSee_99 ?_
          obtain ⟨r_18, hg_19, hf⟩ := bd_of hf
          refine kt_V0 (As := [.int x1_10, .int x2_11, .int (sm 7 x3_12.toNatClampNeg)]) (rest := []) (st1 := [.int r_18]) (b := am 0) C0 (c_X7_isBetween l γ am hg_19) (cxV (nA := 3) hts goodU U1179 U1181 U43 U91 U1182 (by decide +kernel) ⟨Nat.le_of_ble_eq_true rfl, Nat.le_of_ble_eq_true rfl⟩) hP (hD _ _) hS hl dX7_couldSee_100 0 7 rfl rfl rfl rfl (Nat.le_of_ble_eq_true rfl) rfl rfl (fun H locs hP hS => ?_)
          refine lv_if_eq (tgt := 129) hx hb dX7_couldSee_103 (by decide) (fun c_20 => ?_) (fun c_20 => ?_)
          · replace hf := ite_p c_20 hf
            obtain ⟨x3_21, e_x3_21⟩ : ∃ y : Int32, y = x3_12 + (1 : Int32) := ⟨_, rfl⟩
            replace hf := nm_y hf e_x3_21
            refine lv_iinc (v := x3_21) (lv' := [(3, .int x3_21), (0, .ref (am 0)), (1, .int x1_10), (2, .int x2_11)]) hx hb dX7_couldSee_129 hl (k := 3) rfl (by rw [e_x3_21]; rfl) (by decide) rfl (fun ls hl => ?_)
            refine lv_goto (tgt := 73) hx hb dX7_couldSee_132 (by decide) ?_
            exact ih x3_21 _ _ _ hf hP hS (lv_sub hl [1, 2, 3, 0] rfl)
          · replace hf := ite_n c_20 hf
            refine lv_aload_n hx hb dX7_couldSee_106 rfl (lv_at hl 0 rfl) ?_
            refine lv_iload_n hx hb dX7_couldSee_107 rfl (lv_at hl 1 rfl) ?_
            refine lv_iload_n hx hb dX7_couldSee_108 rfl (lv_at hl 2 rfl) ?_
            refine lv_aload_n hx hb dX7_couldSee_109 rfl (lv_at hl 0 rfl) ?_
            refine va_get (D := γ.1) (ci := 7) (v := .ref (am 7)) (C := RX7) (T := TX7) (N := 35) hx hb hU uin7 hown hK hP 0 rfl rfl 6 (by decide) (hU _ U975) (fun _ h9 => h9) rfl dX7_couldSee_110 ?_
            refine lv_iload_n hx hb dX7_couldSee_113 rfl (lv_at hl 3 rfl) ?_
            obtain ⟨g_22, hf⟩ := gd_of hf
            refine va_iald hx hb hK hP 6 0 rfl rfl (inB_vp g_22) dX7_couldSee_114 ?_
            refine lv_aload_n hx hb dX7_couldSee_115 rfl (lv_at hl 0 rfl) ?_
            refine va_get (D := γ.1) (ci := 7) (v := .ref (am 8)) (C := RX7) (T := TX7) (N := 35) hx hb hU uin7 hown hK hP 0 rfl rfl 7 (by decide) (hU _ U976) (fun _ h9 => h9) rfl dX7_couldSee_116 ?_
            refine lv_iload_n hx hb dX7_couldSee_119 rfl (lv_at hl 3 rfl) ?_
            obtain ⟨g_23, hf⟩ := gd_of hf
            refine va_iald hx hb hK hP 7 0 rfl rfl (inB_vp g_23) dX7_couldSee_120 ?_
            obtain ⟨r_24, hg_25, hf⟩ := bd_of hf
            refine kt_V0 (As := [.int x1_10, .int x2_11, .int (sm 7 x3_12.toNatClampNeg), .int (sm 8 x3_12.toNatClampNeg)]) (rest := []) (st1 := [.int r_24]) (b := am 0) C0 (c_X7_isBelow l γ am hg_25) (cxV (nA := 4) hts goodU U1184 U1186 U44 U91 U1187 (by decide +kernel) ⟨Nat.le_of_ble_eq_true rfl, Nat.le_of_ble_eq_true rfl⟩) hP (hD _ _) hS hl dX7_couldSee_121 0 7 rfl rfl rfl rfl (Nat.le_of_ble_eq_true rfl) rfl rfl (fun H locs hP hS => ?_)
            refine lv_if_ne (tgt := 129) hx hb dX7_couldSee_124 (by decide) (fun c_26 => ?_) (fun c_26 => ?_)
            · replace hf := ite_n c_26 hf
              obtain ⟨x3_27, e_x3_27⟩ : ∃ y : Int32, y = x3_12 + (1 : Int32) := ⟨_, rfl⟩
              replace hf := nm_y hf e_x3_27
              refine lv_iinc (v := x3_27) (lv' := [(3, .int x3_27), (0, .ref (am 0)), (1, .int x1_10), (2, .int x2_11)]) hx hb dX7_couldSee_129 hl (k := 3) rfl (by rw [e_x3_27]; rfl) (by decide) rfl (fun ls hl => ?_)
              refine lv_goto (tgt := 73) hx hb dX7_couldSee_132 (by decide) ?_
              exact ih x3_27 _ _ _ hf hP hS (lv_sub hl [1, 2, 3, 0] rfl)
            · replace hf := ite_p c_26 hf
              refine lv_iconst (v := 0) hx hb dX7_couldSee_127 (by decide) ?_
              obtain rfl := Option.some.inj hf
              exact kt_zret C0 (by decide) hP hS dX7_couldSee_128
  have L137 : ∀ (x1_28 : Int32) (x2_29 : Int32) (n : Nat) (x3_30 : Int32) (H : Heap) (locs : List Loc) (ls : Array Slot), f_X7_couldSee_L137 sm x1_28 x2_29 n x3_30 = some rv → va_P γ.1 vwCl (wM γ am sm sq) H → va_S A s.heap H locs → lv_has ls 4 [(0, .ref (am 0)), (1, .int x1_28), (2, .int x2_29), (3, .int x3_30)] → W p l e (rmK 2 44) s m ([.ref (am 0), .int x1, .int x2] : List Value).toArray below meth c H locs 0 0 (MQ below (KQ γ A (some (.int rv)) (wM γ am sm sq)) ([.ref (am 0), .int x1, .int x2] : List Value).toArray s 0 0 A) (F0 m 137 ls []) := by
    intro x1_28 x2_29
    intro n
    induction n with
    | zero =>
      intro x3_30 H locs ls hf
      have hf : none = some _ := hf
      cases hf
    | succ n ih =>
      intro x3_30 H locs ls hf hP hS hl
      rw [f_X7_couldSee_L137.eq_2] at hf
      refine lv_iload_n hx hb dX7_couldSee_137 rfl (lv_at hl 3 rfl) ?_
      refine lv_aload_n hx hb dX7_couldSee_138 rfl (lv_at hl 0 rfl) ?_
      refine va_get (D := γ.1) (ci := 7) (v := .int (sm 0 11)) (C := RX7) (T := TX7) (N := 35) hx hb hU uin7 hown hK hP 0 rfl rfl 11 (by decide) (hU _ U980) (fun _ h9 => h9) rfl dX7_couldSee_139 ?_
      refine lv_icmp_ge (tgt := 189) hx hb dX7_couldSee_142 (by decide) (fun c_31 => ?_) (fun c_31 => ?_)
      · replace hf := ite_p c_31 hf
        refine lv_iconst (v := 1) hx hb dX7_couldSee_189 (by decide) ?_
        obtain rfl := Option.some.inj hf
        exact kt_zret C0 (by decide) hP hS dX7_couldSee_190
      · replace hf := ite_n c_31 hf
        refine lv_aload_n hx hb dX7_couldSee_145 rfl (lv_at hl 0 rfl) ?_
        refine lv_iload_n hx hb dX7_couldSee_146 rfl (lv_at hl 1 rfl) ?_
        refine lv_iload_n hx hb dX7_couldSee_147 rfl (lv_at hl 2 rfl) ?_
        refine lv_aload_n hx hb dX7_couldSee_148 rfl (lv_at hl 0 rfl) ?_
        refine va_get (D := γ.1) (ci := 7) (v := .ref (am 13)) (C := RX7) (T := TX7) (N := 35) hx hb hU uin7 hown hK hP 0 rfl rfl 12 (by decide) (hU _ U981) (fun _ h9 => h9) rfl dX7_couldSee_149 ?_
        refine lv_iload_n hx hb dX7_couldSee_152 rfl (lv_at hl 3 rfl) ?_
        obtain ⟨g_32, hf⟩ := gd_of hf
        refine va_iald hx hb hK hP 11 0 rfl rfl (inB_vp g_32) dX7_couldSee_153 ?_
        obtain ⟨r_33, hg_34, hf⟩ := bd_of hf
        refine kt_V0 (As := [.int x1_28, .int x2_29, .int (sm 13 x3_30.toNatClampNeg)]) (rest := []) (st1 := [.int r_33]) (b := am 0) C0 (c_X7_isBetween l γ am hg_34) (cxV (nA := 3) hts goodU U1179 U1181 U43 U91 U1182 (by decide +kernel) ⟨Nat.le_of_ble_eq_true rfl, Nat.le_of_ble_eq_true rfl⟩) hP (hD _ _) hS hl dX7_couldSee_154 0 7 rfl rfl rfl rfl (Nat.le_of_ble_eq_true rfl) rfl rfl (fun H locs hP hS => ?_)
        refine lv_if_eq (tgt := 183) hx hb dX7_couldSee_157 (by decide) (fun c_35 => ?_) (fun c_35 => ?_)
        · replace hf := ite_p c_35 hf
          obtain ⟨x3_36, e_x3_36⟩ : ∃ y : Int32, y = x3_30 + (1 : Int32) := ⟨_, rfl⟩
          replace hf := nm_y hf e_x3_36
          refine lv_iinc (v := x3_36) (lv' := [(3, .int x3_36), (0, .ref (am 0)), (1, .int x1_28), (2, .int x2_29)]) hx hb dX7_couldSee_183 hl (k := 3) rfl (by rw [e_x3_36]; rfl) (by decide) rfl (fun ls hl => ?_)
          refine lv_goto (tgt := 137) hx hb dX7_couldSee_186 (by decide) ?_
          exact ih x3_36 _ _ _ hf hP hS (lv_sub hl [1, 2, 3, 0] rfl)
        · replace hf := ite_n c_35 hf
          refine lv_aload_n hx hb dX7_couldSee_160 rfl (lv_at hl 0 rfl) ?_
          refine lv_iload_n hx hb dX7_couldSee_161 rfl (lv_at hl 1 rfl) ?_
          refine lv_iload_n hx hb dX7_couldSee_162 rfl (lv_at hl 2 rfl) ?_
          refine lv_aload_n hx hb dX7_couldSee_163 rfl (lv_at hl 0 rfl) ?_
          refine va_get (D := γ.1) (ci := 7) (v := .ref (am 13)) (C := RX7) (T := TX7) (N := 35) hx hb hU uin7 hown hK hP 0 rfl rfl 12 (by decide) (hU _ U981) (fun _ h9 => h9) rfl dX7_couldSee_164 ?_
          refine lv_iload_n hx hb dX7_couldSee_167 rfl (lv_at hl 3 rfl) ?_
          obtain ⟨g_37, hf⟩ := gd_of hf
          refine va_iald hx hb hK hP 11 0 rfl rfl (inB_vp g_37) dX7_couldSee_168 ?_
          refine lv_aload_n hx hb dX7_couldSee_169 rfl (lv_at hl 0 rfl) ?_
          refine va_get (D := γ.1) (ci := 7) (v := .ref (am 14)) (C := RX7) (T := TX7) (N := 35) hx hb hU uin7 hown hK hP 0 rfl rfl 13 (by decide) (hU _ U982) (fun _ h9 => h9) rfl dX7_couldSee_170 ?_
          refine lv_iload_n hx hb dX7_couldSee_173 rfl (lv_at hl 3 rfl) ?_
          obtain ⟨g_38, hf⟩ := gd_of hf
          refine va_iald hx hb hK hP 12 0 rfl rfl (inB_vp g_38) dX7_couldSee_174 ?_
          obtain ⟨r_39, hg_40, hf⟩ := bd_of hf
          refine kt_V0 (As := [.int x1_28, .int x2_29, .int (sm 13 x3_30.toNatClampNeg), .int (sm 14 x3_30.toNatClampNeg)]) (rest := []) (st1 := [.int r_39]) (b := am 0) C0 (c_X7_isBelow l γ am hg_40) (cxV (nA := 4) hts goodU U1184 U1186 U44 U91 U1187 (by decide +kernel) ⟨Nat.le_of_ble_eq_true rfl, Nat.le_of_ble_eq_true rfl⟩) hP (hD _ _) hS hl dX7_couldSee_175 0 7 rfl rfl rfl rfl (Nat.le_of_ble_eq_true rfl) rfl rfl (fun H locs hP hS => ?_)
          refine lv_if_ne (tgt := 183) hx hb dX7_couldSee_178 (by decide) (fun c_41 => ?_) (fun c_41 => ?_)
          · replace hf := ite_n c_41 hf
            obtain ⟨x3_42, e_x3_42⟩ : ∃ y : Int32, y = x3_30 + (1 : Int32) := ⟨_, rfl⟩
            replace hf := nm_y hf e_x3_42
            refine lv_iinc (v := x3_42) (lv' := [(3, .int x3_42), (0, .ref (am 0)), (1, .int x1_28), (2, .int x2_29)]) hx hb dX7_couldSee_183 hl (k := 3) rfl (by rw [e_x3_42]; rfl) (by decide) rfl (fun ls hl => ?_)
            refine lv_goto (tgt := 137) hx hb dX7_couldSee_186 (by decide) ?_
            exact ih x3_42 _ _ _ hf hP hS (lv_sub hl [1, 2, 3, 0] rfl)
          · replace hf := ite_p c_41 hf
            refine lv_iconst (v := 0) hx hb dX7_couldSee_181 (by decide) ?_
            obtain rfl := Option.some.inj hf
            exact kt_zret C0 (by decide) hP hS dX7_couldSee_182
  unfold f_X7_couldSee at hf
  refine lv_iload_n hx hb dX7_couldSee_0 rfl (lv_at hl 1 rfl) ?_
  refine lv_iload_n hx hb dX7_couldSee_1 rfl (lv_at hl 2 rfl) ?_
  refine lv_icmp_eq (tgt := 23) hx hb dX7_couldSee_2 (by decide) (fun c_1 => ?_) (fun c_1 => ?_)
  · replace hf := ite_p c_1 hf
    refine lv_iconst (v := 0) hx hb dX7_couldSee_23 (by decide) ?_
    obtain rfl := Option.some.inj hf
    exact kt_zret C0 (by decide) hP hS dX7_couldSee_24
  · replace hf := ite_n c_1 hf
    refine lv_aload_n hx hb dX7_couldSee_5 rfl (lv_at hl 0 rfl) ?_
    refine va_get (D := γ.1) (ci := 7) (v := .ref (am 9)) (C := RX7) (T := TX7) (N := 35) hx hb hU uin7 hown hK hP 0 rfl rfl 8 (by decide) (hU _ U977) (fun _ h9 => h9) rfl dX7_couldSee_6 ?_
    refine lv_iload_n hx hb dX7_couldSee_9 rfl (lv_at hl 1 rfl) ?_
    obtain ⟨g_2, hf⟩ := gd_of hf
    refine va_iald hx hb hK hP 8 0 rfl rfl (inB_vp g_2) dX7_couldSee_10 ?_
    refine lv_if_eq (tgt := 23) hx hb dX7_couldSee_11 (by decide) (fun c_3 => ?_) (fun c_3 => ?_)
    · replace hf := ite_p c_3 hf
      refine lv_iconst (v := 0) hx hb dX7_couldSee_23 (by decide) ?_
      obtain rfl := Option.some.inj hf
      exact kt_zret C0 (by decide) hP hS dX7_couldSee_24
    · replace hf := ite_n c_3 hf
      refine lv_aload_n hx hb dX7_couldSee_14 rfl (lv_at hl 0 rfl) ?_
      refine va_get (D := γ.1) (ci := 7) (v := .ref (am 9)) (C := RX7) (T := TX7) (N := 35) hx hb hU uin7 hown hK hP 0 rfl rfl 8 (by decide) (hU _ U977) (fun _ h9 => h9) rfl dX7_couldSee_15 ?_
      refine lv_iload_n hx hb dX7_couldSee_18 rfl (lv_at hl 2 rfl) ?_
      obtain ⟨g_4, hf⟩ := gd_of hf
      refine va_iald hx hb hK hP 8 0 rfl rfl (inB_vp g_4) dX7_couldSee_19 ?_
      refine lv_if_ne (tgt := 25) hx hb dX7_couldSee_20 (by decide) (fun c_5 => ?_) (fun c_5 => ?_)
      · replace hf := ite_n c_5 hf
        refine lv_aload_n hx hb dX7_couldSee_25 rfl (lv_at hl 0 rfl) ?_
        refine va_get (D := γ.1) (ci := 7) (v := .ref (am 5)) (C := RX7) (T := TX7) (N := 35) hx hb hU uin7 hown hK hP 0 rfl rfl 4 (by decide) (hU _ U973) (fun _ h9 => h9) rfl dX7_couldSee_26 ?_
        refine lv_iload_n hx hb dX7_couldSee_29 rfl (lv_at hl 1 rfl) ?_
        obtain ⟨g_6, hf⟩ := gd_of hf
        refine va_iald hx hb hK hP 4 0 rfl rfl (inB_vp g_6) dX7_couldSee_30 ?_
        refine lv_iconst (v := 4) hx hb dX7_couldSee_31 (by decide) ?_
        obtain ⟨r_7, hg_8, hf⟩ := bd_of hf
        refine kt_SF (As := [.int (sm 5 x1.toNatClampNeg), .int (4 : Int32)]) (rest := []) (st1 := [.int r_7]) (wc' := wM γ am sm sq) C0 (c_X7_isUnder l γ hg_8) (cxS (nA := 2) hts goodU U1122 U1123 U91 U1124 (by decide +kernel) ⟨Nat.le_of_ble_eq_true rfl, Nat.le_of_ble_eq_true rfl⟩) hP (hD _ _) hS hl dX7_couldSee_32 foc_nil rfl (Nat.le_of_ble_eq_true rfl) rfl rfl (fun H locs hP hS => ?_)
        refine lv_if_eq (tgt := 71) hx hb dX7_couldSee_35 (by decide) (fun c_9 => ?_) (fun c_9 => ?_)
        · replace hf := ite_p c_9 hf
          refine lv_iconst (v := 0) hx hb dX7_couldSee_71 (by decide) ?_
          refine lv_istore_n (lv' := [(3, .int (0 : Int32)), (0, .ref (am 0)), (1, .int x1), (2, .int x2)]) hx hb dX7_couldSee_72 rfl hl (by decide) rfl (fun ls hl => ?_)
          refine L73 x1 x2 _ (fun  H locs ls hf hP hS hl => ?_) FU (0 : Int32) _ _ _ hf hP hS (lv_sub hl [1, 2, 3, 0] rfl)
          refine lv_iconst (v := 0) hx hb dX7_couldSee_135 (by decide) ?_
          refine lv_istore_n (lv' := [(3, .int (0 : Int32)), (0, .ref (am 0)), (1, .int x1), (2, .int x2)]) hx hb dX7_couldSee_136 rfl hl (by decide) rfl (fun ls hl => ?_)
          exact L137 x1 x2 FU (0 : Int32) _ _ _ hf hP hS (lv_sub hl [1, 2, 3, 0] rfl)
        · replace hf := ite_n c_9 hf
          refine lv_aload_n hx hb dX7_couldSee_38 rfl (lv_at hl 0 rfl) ?_
          refine va_get (D := γ.1) (ci := 7) (v := .ref (am 7)) (C := RX7) (T := TX7) (N := 35) hx hb hU uin7 hown hK hP 0 rfl rfl 6 (by decide) (hU _ U975) (fun _ h9 => h9) rfl dX7_couldSee_39 ?_
          refine lv_iload_n hx hb dX7_couldSee_42 rfl (lv_at hl 1 rfl) ?_
          obtain ⟨g_43, hf⟩ := gd_of hf
          refine va_iald hx hb hK hP 6 0 rfl rfl (inB_vp g_43) dX7_couldSee_43 ?_
          refine lv_aload_n hx hb dX7_couldSee_44 rfl (lv_at hl 0 rfl) ?_
          refine va_get (D := γ.1) (ci := 7) (v := .ref (am 7)) (C := RX7) (T := TX7) (N := 35) hx hb hU uin7 hown hK hP 0 rfl rfl 6 (by decide) (hU _ U975) (fun _ h9 => h9) rfl dX7_couldSee_45 ?_
          refine lv_iload_n hx hb dX7_couldSee_48 rfl (lv_at hl 2 rfl) ?_
          obtain ⟨g_44, hf⟩ := gd_of hf
          refine va_iald hx hb hK hP 6 0 rfl rfl (inB_vp g_44) dX7_couldSee_49 ?_
          refine lv_isub hx hb dX7_couldSee_50 ?_
          refine va_mabs (rest := []) (x := ((sm 7 x1.toNatClampNeg) - (sm 7 x2.toNatClampNeg))) hx hb (hml.trans hl.1.symm) hown (hU _ U1178) (hU _ U502) (hU _ U93) (hU _ U503) (Nat.le_of_ble_eq_true rfl) (Nat.le_of_ble_eq_true rfl) (Nat.zero_le _) (Nat.zero_le _) dX7_couldSee_51 ?_
          refine lv_topi (fun u_45 e_u_45 => ?_)
          replace hf := nm_y hf e_u_45
          refine lv_bipush (v := 10) hx hb dX7_couldSee_54 (by decide) ?_
          refine lv_aload_n hx hb dX7_couldSee_56 rfl (lv_at hl 0 rfl) ?_
          refine va_get (D := γ.1) (ci := 7) (v := .ref (am 6)) (C := RX7) (T := TX7) (N := 35) hx hb hU uin7 hown hK hP 0 rfl rfl 5 (by decide) (hU _ U974) (fun _ h9 => h9) rfl dX7_couldSee_57 ?_
          refine lv_iload_n hx hb dX7_couldSee_60 rfl (lv_at hl 1 rfl) ?_
          obtain ⟨g_46, hf⟩ := gd_of hf
          refine va_iald hx hb hK hP 5 0 rfl rfl (inB_vp g_46) dX7_couldSee_61 ?_
          refine lv_imul hx hb dX7_couldSee_62 ?_
          refine lv_bipush (v := 10) hx hb dX7_couldSee_63 (by decide) ?_
          refine lv_iadd hx hb dX7_couldSee_65 ?_
          refine lv_icmp_le (tgt := 71) hx hb dX7_couldSee_66 (by decide) (fun c_47 => ?_) (fun c_47 => ?_)
          · replace hf := ite_p c_47 hf
            refine lv_iconst (v := 0) hx hb dX7_couldSee_71 (by decide) ?_
            refine lv_istore_n (lv' := [(3, .int (0 : Int32)), (0, .ref (am 0)), (1, .int x1), (2, .int x2)]) hx hb dX7_couldSee_72 rfl hl (by decide) rfl (fun ls hl => ?_)
            refine L73 x1 x2 _ (fun  H locs ls hf hP hS hl => ?_) FU (0 : Int32) _ _ _ hf hP hS (lv_sub hl [1, 2, 3, 0] rfl)
            refine lv_iconst (v := 0) hx hb dX7_couldSee_135 (by decide) ?_
            refine lv_istore_n (lv' := [(3, .int (0 : Int32)), (0, .ref (am 0)), (1, .int x1), (2, .int x2)]) hx hb dX7_couldSee_136 rfl hl (by decide) rfl (fun ls hl => ?_)
            exact L137 x1 x2 FU (0 : Int32) _ _ _ hf hP hS (lv_sub hl [1, 2, 3, 0] rfl)
          · replace hf := ite_n c_47 hf
            refine lv_iconst (v := 0) hx hb dX7_couldSee_69 (by decide) ?_
            obtain rfl := Option.some.inj hf
            exact kt_zret C0 (by decide) hP hS dX7_couldSee_70
      · replace hf := ite_p c_5 hf
        refine lv_iconst (v := 0) hx hb dX7_couldSee_23 (by decide) ?_
        obtain rfl := Option.some.inj hf
        exact kt_zret C0 (by decide) hP hS dX7_couldSee_24
set_option maxHeartbeats 4000000 in
set_option maxRecDepth 100000 in
theorem c_X7_looks (l : Launch) (γ : Gm) (am : Nat → Nat) {sm : GS} {sq : Nat → Int64} {sm_z : GS} (hf : f_X7_looks sm = some sm_z) : Kt l γ yX7_looks (Cond.code yX7_looks cX7_looks 4 none :: U) 3 67 [.ref (am 0)] (wM γ am sm sq) none (wM γ am sm_z sq) := by
  refine Kt.of (by decide) rfl (Nat.le_of_ble_eq_true rfl) rfl ?_
  intro p e s m below meth c A ls C0 hP hD0 hS hl
  obtain ⟨hx, hb, hml, hown, hts, hr, hlocks, hK, hE, hA⟩ := id C0
  have hU : ∀ w ∈ U, w.before _ s = true := fun w h => hts w (List.mem_cons_of_mem _ h)
  have hD : ∀ (sm : GS) (sq : Nat → Int64), va_D A (wM γ am sm sq) := fun _ _ => hD0.fst rfl
  have hl : lv_has ls 4 [(0, .ref (am 0))] := hl
  have L12 : ∀ (x1_4 : Int32) (K72 : GS → Option (GS)) (HK72 : ∀ (zsm : GS) (H : Heap) (locs : List Loc) (ls : Array Slot), K72 zsm = some sm_z → va_P γ.1 vwCl (wM γ am zsm sq) H → va_S A s.heap H locs → lv_has ls 4 [(0, .ref (am 0)), (1, .int x1_4)] → W p l e (rmK 3 67) s m ([.ref (am 0)] : List Value).toArray below meth c H locs 0 0 (MQ below (KQ γ A none (wM γ am sm_z sq)) ([.ref (am 0)] : List Value).toArray s 0 0 A) (F0 m 72 ls [])) (n : Nat) (x2_5 : Int32) (sm_6 : GS) (H : Heap) (locs : List Loc) (ls : Array Slot), f_X7_looks_L12 x1_4 K72 n x2_5 sm_6 = some sm_z → va_P γ.1 vwCl (wM γ am sm_6 sq) H → va_S A s.heap H locs → lv_has ls 4 [(0, .ref (am 0)), (1, .int x1_4), (2, .int x2_5)] → W p l e (rmK 3 67) s m ([.ref (am 0)] : List Value).toArray below meth c H locs 0 0 (MQ below (KQ γ A none (wM γ am sm_z sq)) ([.ref (am 0)] : List Value).toArray s 0 0 A) (F0 m 12 ls []) := by
    intro x1_4 K72 HK72
    intro n
    induction n with
    | zero =>
      intro x2_5 sm_6 H locs ls hf
      have hf : none = some _ := hf
      cases hf
    | succ n ih =>
      intro x2_5 sm_6 H locs ls hf hP hS hl
      rw [f_X7_looks_L12.eq_2] at hf
      refine lv_iload_n hx hb dX7_looks_12 rfl (lv_at hl 2 rfl) ?_
      refine lv_aload_n hx hb dX7_looks_13 rfl (lv_at hl 0 rfl) ?_
      refine va_get (D := γ.1) (ci := 7) (v := .int (sm_6 0 3)) (C := RX7) (T := TX7) (N := 35) hx hb hU uin7 hown hK hP 0 rfl rfl 3 (by decide) (hU _ U972) (fun _ h9 => h9) rfl dX7_looks_14 ?_
      refine lv_icmp_ge (tgt := 72) hx hb dX7_looks_17 (by decide) (fun c_7 => ?_) (fun c_7 => ?_)
      · replace hf := ite_p c_7 hf
        exact HK72 sm_6 _ _ _ hf hP hS (lv_sub hl [0, 1] rfl)
      · replace hf := ite_n c_7 hf
        refine lv_bipush (v := 10) hx hb dX7_looks_20 (by decide) ?_
        refine lv_iload_n hx hb dX7_looks_22 rfl (lv_at hl 1 rfl) ?_
        refine lv_imul hx hb dX7_looks_23 ?_
        refine lv_iload_n hx hb dX7_looks_24 rfl (lv_at hl 2 rfl) ?_
        refine lv_iadd hx hb dX7_looks_25 ?_
        refine lv_topi (fun u_8 e_u_8 => ?_)
        replace hf := nm_y hf e_u_8
        refine lv_istore_n (lv' := [(3, .int u_8), (0, .ref (am 0)), (1, .int x1_4), (2, .int x2_5)]) hx hb dX7_looks_26 rfl hl (by decide) rfl (fun ls hl => ?_)
        refine lv_aload_n hx hb dX7_looks_27 rfl (lv_at hl 1 rfl) ?_
        refine lv_iload_n hx hb dX7_looks_28 rfl (lv_at hl 2 rfl) ?_
        refine lv_iload_n hx hb dX7_looks_29 rfl (lv_at hl 3 rfl) ?_
        obtain ⟨r_9, hg_10, hf⟩ := bd_of hf
        refine kt_V0 (As := [.int x1_4, .int x2_5]) (rest := []) (st1 := [.int r_9]) (b := am 0) C0 (c_X7_couldSee l γ am hg_10) (cxV (nA := 2) hts goodU U1174 U1176 U42 U91 U1177 (by decide +kernel) ⟨Nat.le_of_ble_eq_true rfl, Nat.le_of_ble_eq_true rfl⟩) hP (hD _ _) hS hl dX7_looks_30 0 7 rfl rfl rfl rfl (Nat.le_of_ble_eq_true rfl) rfl rfl (fun H locs hP hS => ?_)
        refine lv_if_ne (tgt := 46) hx hb dX7_looks_33 (by decide) (fun c_11 => ?_) (fun c_11 => ?_)
        · replace hf := ite_n c_11 hf
          refine lv_aload_n hx hb dX7_looks_46 rfl (lv_at hl 1 rfl) ?_
          refine va_get (D := γ.1) (ci := 7) (v := .ref (am 11)) (C := RX7) (T := TX7) (N := 35) hx hb hU uin7 hown hK hP 0 rfl rfl 10 (by decide) (hU _ U979) (fun _ h9 => h9) rfl dX7_looks_47 ?_
          refine lv_iload_n hx hb dX7_looks_50 rfl (lv_at hl 0 rfl) ?_
          obtain ⟨g_12, hf⟩ := gd_of hf
          refine va_iald hx hb hK hP 10 0 rfl rfl (inB_vp g_12) dX7_looks_51 ?_
          refine lv_iconst (v := -1) hx hb dX7_looks_52 (by decide) ?_
          refine lv_icmp_ne (tgt := 66) hx hb dX7_looks_53 (by decide) (fun c_13 => ?_) (fun c_13 => ?_)
          · replace hf := ite_n c_13 hf
            obtain ⟨x2_14, e_x2_14⟩ : ∃ y : Int32, y = x2_5 + (1 : Int32) := ⟨_, rfl⟩
            replace hf := nm_y hf e_x2_14
            refine lv_iinc (v := x2_14) (lv' := [(2, .int x2_14), (3, .int u_8), (0, .ref (am 0)), (1, .int x1_4)]) hx hb dX7_looks_66 hl (k := 3) rfl (by rw [e_x2_14]; rfl) (by decide) rfl (fun ls hl => ?_)
            refine lv_goto (tgt := 12) hx hb dX7_looks_69 (by decide) ?_
            exact ih x2_14 sm_6 _ _ _ hf hP hS (lv_sub hl [2, 3, 0] rfl)
          · replace hf := ite_p c_13 hf
            refine lv_aload_n hx hb dX7_looks_56 rfl (lv_at hl 1 rfl) ?_
            refine va_get (D := γ.1) (ci := 7) (v := .ref (am 11)) (C := RX7) (T := TX7) (N := 35) hx hb hU uin7 hown hK hP 0 rfl rfl 10 (by decide) (hU _ U979) (fun _ h9 => h9) rfl dX7_looks_57 ?_
            refine lv_iload_n hx hb dX7_looks_60 rfl (lv_at hl 0 rfl) ?_
            refine lv_aload_n hx hb dX7_looks_61 rfl (lv_at hl 1 rfl) ?_
            refine va_get (D := γ.1) (ci := 7) (v := .int (sm_6 0 17)) (C := RX7) (T := TX7) (N := 35) hx hb hU uin7 hown hK hP 0 rfl rfl 17 (by decide) (hU _ U986) (fun _ h9 => h9) rfl dX7_looks_62 ?_
            refine lv_topi (fun u_15 e_u_15 => ?_)
            replace hf := nm_y hf e_u_15
            obtain ⟨g_16, hf⟩ := gd_of hf
            refine va_iast hx hb hK hP (hD _ _) hS 10 0 rfl rfl (inB_vp g_16) dX7_looks_65 (fun H locs hP _ hS => ?_)
            obtain ⟨sm_17, e_sm_17, hf⟩ := nm_of hf
            replace hP : va_P γ.1 vwCl (wM γ am sm_17 sq) H := by rw [e_sm_17]; exact hP
            obtain ⟨x2_18, e_x2_18⟩ : ∃ y : Int32, y = x2_5 + (1 : Int32) := ⟨_, rfl⟩
            replace hf := nm_y hf e_x2_18
            refine lv_iinc (v := x2_18) (lv' := [(2, .int x2_18), (3, .int u_8), (0, .ref (am 0)), (1, .int x1_4)]) hx hb dX7_looks_66 hl (k := 3) rfl (by rw [e_x2_18]; rfl) (by decide) rfl (fun ls hl => ?_)
            refine lv_goto (tgt := 12) hx hb dX7_looks_69 (by decide) ?_
            exact ih x2_18 sm_17 _ _ _ hf hP hS (lv_sub hl [2, 3, 0] rfl)
        · replace hf := ite_p c_11 hf
          refine lv_aload_n hx hb dX7_looks_36 rfl (lv_at hl 1 rfl) ?_
          refine va_get (D := γ.1) (ci := 7) (v := .ref (am 11)) (C := RX7) (T := TX7) (N := 35) hx hb hU uin7 hown hK hP 0 rfl rfl 10 (by decide) (hU _ U979) (fun _ h9 => h9) rfl dX7_looks_37 ?_
          refine lv_iload_n hx hb dX7_looks_40 rfl (lv_at hl 0 rfl) ?_
          refine lv_iconst (v := -1) hx hb dX7_looks_41 (by decide) ?_
          obtain ⟨g_19, hf⟩ := gd_of hf
          refine va_iast hx hb hK hP (hD _ _) hS 10 0 rfl rfl (inB_vp g_19) dX7_looks_42 (fun H locs hP _ hS => ?_)
          obtain ⟨sm_20, e_sm_20, hf⟩ := nm_of hf
          replace hP : va_P γ.1 vwCl (wM γ am sm_20 sq) H := by rw [e_sm_20]; exact hP
          refine lv_goto (tgt := 66) hx hb dX7_looks_43 (by decide) ?_
          obtain ⟨x2_21, e_x2_21⟩ : ∃ y : Int32, y = x2_5 + (1 : Int32) := ⟨_, rfl⟩
          replace hf := nm_y hf e_x2_21
          refine lv_iinc (v := x2_21) (lv' := [(2, .int x2_21), (3, .int u_8), (0, .ref (am 0)), (1, .int x1_4)]) hx hb dX7_looks_66 hl (k := 3) rfl (by rw [e_x2_21]; rfl) (by decide) rfl (fun ls hl => ?_)
          refine lv_goto (tgt := 12) hx hb dX7_looks_69 (by decide) ?_
          exact ih x2_21 sm_20 _ _ _ hf hP hS (lv_sub hl [2, 3, 0] rfl)
  have L2 : ∀ (n : Nat) (x1_1 : Int32) (sm_2 : GS) (H : Heap) (locs : List Loc) (ls : Array Slot), f_X7_looks_L2 n x1_1 sm_2 = some sm_z → va_P γ.1 vwCl (wM γ am sm_2 sq) H → va_S A s.heap H locs → lv_has ls 4 [(0, .ref (am 0)), (1, .int x1_1)] → W p l e (rmK 3 67) s m ([.ref (am 0)] : List Value).toArray below meth c H locs 0 0 (MQ below (KQ γ A none (wM γ am sm_z sq)) ([.ref (am 0)] : List Value).toArray s 0 0 A) (F0 m 2 ls []) := by
    intro n
    induction n with
    | zero =>
      intro x1_1 sm_2 H locs ls hf
      have hf : none = some _ := hf
      cases hf
    | succ n ih =>
      intro x1_1 sm_2 H locs ls hf hP hS hl
      rw [f_X7_looks_L2.eq_2] at hf
      refine lv_iload_n hx hb dX7_looks_2 rfl (lv_at hl 1 rfl) ?_
      refine lv_aload_n hx hb dX7_looks_3 rfl (lv_at hl 0 rfl) ?_
      refine va_get (D := γ.1) (ci := 7) (v := .int (sm_2 0 3)) (C := RX7) (T := TX7) (N := 35) hx hb hU uin7 hown hK hP 0 rfl rfl 3 (by decide) (hU _ U972) (fun _ h9 => h9) rfl dX7_looks_4 ?_
      refine lv_icmp_ge (tgt := 78) hx hb dX7_looks_7 (by decide) (fun c_3 => ?_) (fun c_3 => ?_)
      · replace hf := ite_p c_3 hf
        obtain rfl := Option.some.inj hf
        exact kt_vret C0 hP hS dX7_looks_78
      · replace hf := ite_n c_3 hf
        refine lv_iconst (v := 0) hx hb dX7_looks_10 (by decide) ?_
        refine lv_istore_n (lv' := [(2, .int (0 : Int32)), (0, .ref (am 0)), (1, .int x1_1)]) hx hb dX7_looks_11 rfl hl (by decide) rfl (fun ls hl => ?_)
        refine L12 x1_1 _ (fun sm_22 H locs ls hf hP hS hl => ?_) FU (0 : Int32) sm_2 _ _ _ hf hP hS (lv_sub hl [1, 2, 0] rfl)
        obtain ⟨x1_23, e_x1_23⟩ : ∃ y : Int32, y = x1_1 + (1 : Int32) := ⟨_, rfl⟩
        replace hf := nm_y hf e_x1_23
        refine lv_iinc (v := x1_23) (lv' := [(1, .int x1_23), (0, .ref (am 0))]) hx hb dX7_looks_72 hl (k := 1) rfl (by rw [e_x1_23]; rfl) (by decide) rfl (fun ls hl => ?_)
        refine lv_goto (tgt := 2) hx hb dX7_looks_75 (by decide) ?_
        exact ih x1_23 sm_22 _ _ _ hf hP hS (lv_sub hl [1, 0] rfl)
  unfold f_X7_looks at hf
  refine lv_iconst (v := 0) hx hb dX7_looks_0 (by decide) ?_
  refine lv_istore_n (lv' := [(1, .int (0 : Int32)), (0, .ref (am 0))]) hx hb dX7_looks_1 rfl hl (by decide) rfl (fun ls hl => ?_)
  exact L2 FU (0 : Int32) sm _ _ _ hf hP hS (lv_sub hl [1, 0] rfl)
set_option maxHeartbeats 4000000 in
set_option maxRecDepth 100000 in
theorem c_X7_newPeak (l : Launch) (γ : Gm) (am : Nat → Nat) {sm : GS} {sq : Nat → Int64} {x1 : Int32} {x2 : Int32} {x3 : Int32} {x4 : Int32} {rv : Int32} {sm_z : GS} (hf : f_X7_newPeak sm x1 x2 x3 x4 = some (rv, sm_z)) : Kt l γ yX7_newPeak (Cond.code yX7_newPeak cX7_newPeak 6 (some .int) :: U) 4 90 [.ref (am 0), .int x1, .int x2, .int x3, .int x4] (wM γ am sm sq) (some (.int rv)) (wM γ am sm_z sq) := by
  refine Kt.of (by decide) rfl (Nat.le_of_ble_eq_true rfl) rfl ?_
  intro p e s m below meth c A ls C0 hP hD0 hS hl
  obtain ⟨hx, hb, hml, hown, hts, hr, hlocks, hK, hE, hA⟩ := id C0
  have hU : ∀ w ∈ U, w.before _ s = true := fun w h => hts w (List.mem_cons_of_mem _ h)
  have hD : ∀ (sm : GS) (sq : Nat → Int64), va_D A (wM γ am sm sq) := fun _ _ => hD0.fst rfl
  have hl : lv_has ls 6 [(0, .ref (am 0)), (1, .int x1), (2, .int x2), (3, .int x3), (4, .int x4)] := hl
  have L64 : ∀ (K109 : GS → Option (Int32 × GS)) (HK109 : ∀ (zsm : GS) (H : Heap) (locs : List Loc) (ls : Array Slot), K109 zsm = some (rv, sm_z) → va_P γ.1 vwCl (wM γ am zsm sq) H → va_S A s.heap H locs → lv_has ls 6 [(0, .ref (am 0))] → W p l e (rmK 4 90) s m ([.ref (am 0), .int x1, .int x2, .int x3, .int x4] : List Value).toArray below meth c H locs 0 0 (MQ below (KQ γ A (some (.int rv)) (wM γ am sm_z sq)) ([.ref (am 0), .int x1, .int x2, .int x3, .int x4] : List Value).toArray s 0 0 A) (F0 m 109 ls [])) (n : Nat) (x5_13 : Int32) (sm_14 : GS) (H : Heap) (locs : List Loc) (ls : Array Slot), f_X7_newPeak_L64 K109 n x5_13 sm_14 = some (rv, sm_z) → va_P γ.1 vwCl (wM γ am sm_14 sq) H → va_S A s.heap H locs → lv_has ls 6 [(0, .ref (am 0)), (5, .int x5_13)] → W p l e (rmK 4 90) s m ([.ref (am 0), .int x1, .int x2, .int x3, .int x4] : List Value).toArray below meth c H locs 0 0 (MQ below (KQ γ A (some (.int rv)) (wM γ am sm_z sq)) ([.ref (am 0), .int x1, .int x2, .int x3, .int x4] : List Value).toArray s 0 0 A) (F0 m 64 ls []) := by
    intro K109 HK109
    intro n
    induction n with
    | zero =>
      intro x5_13 sm_14 H locs ls hf
      have hf : none = some _ := hf
      cases hf
    | succ n ih =>
      intro x5_13 sm_14 H locs ls hf hP hS hl
      rw [f_X7_newPeak_L64.eq_2] at hf
      refine lv_iload hx hb dX7_newPeak_64 (lv_at hl 1 rfl) ?_
      refine lv_bipush (v := 10) hx hb dX7_newPeak_66 (by decide) ?_
      refine lv_icmp_ge (tgt := 109) hx hb dX7_newPeak_68 (by decide) (fun c_15 => ?_) (fun c_15 => ?_)
      · replace hf := ite_p c_15 hf
        exact HK109 sm_14 _ _ _ hf hP hS (lv_sub hl [0] rfl)
      · replace hf := ite_n c_15 hf
        refine lv_aload_n hx hb dX7_newPeak_71 rfl (lv_at hl 0 rfl) ?_
        refine va_get (D := γ.1) (ci := 7) (v := .ref (am 11)) (C := RX7) (T := TX7) (N := 35) hx hb hU uin7 hown hK hP 0 rfl rfl 10 (by decide) (hU _ U979) (fun _ h9 => h9) rfl dX7_newPeak_72 ?_
        refine lv_bipush (v := 10) hx hb dX7_newPeak_75 (by decide) ?_
        refine lv_aload_n hx hb dX7_newPeak_77 rfl (lv_at hl 0 rfl) ?_
        refine va_get (D := γ.1) (ci := 7) (v := .int (sm_14 0 3)) (C := RX7) (T := TX7) (N := 35) hx hb hU uin7 hown hK hP 0 rfl rfl 3 (by decide) (hU _ U972) (fun _ h9 => h9) rfl dX7_newPeak_78 ?_
        refine lv_imul hx hb dX7_newPeak_81 ?_
        refine lv_iload hx hb dX7_newPeak_82 (lv_at hl 1 rfl) ?_
        refine lv_iadd hx hb dX7_newPeak_84 ?_
        refine lv_iconst (v := -1) hx hb dX7_newPeak_85 (by decide) ?_
        obtain ⟨g_16, hf⟩ := gd_of hf
        refine va_iast hx hb hK hP (hD _ _) hS 10 0 rfl rfl (inB_vp g_16) dX7_newPeak_86 (fun H locs hP _ hS => ?_)
        obtain ⟨sm_17, e_sm_17, hf⟩ := nm_of hf
        replace hP : va_P γ.1 vwCl (wM γ am sm_17 sq) H := by rw [e_sm_17]; exact hP
        refine lv_aload_n hx hb dX7_newPeak_87 rfl (lv_at hl 0 rfl) ?_
        refine va_get (D := γ.1) (ci := 7) (v := .ref (am 11)) (C := RX7) (T := TX7) (N := 35) hx hb hU uin7 hown hK hP 0 rfl rfl 10 (by decide) (hU _ U979) (fun _ h9 => h9) rfl dX7_newPeak_88 ?_
        refine lv_bipush (v := 10) hx hb dX7_newPeak_91 (by decide) ?_
        refine lv_iload hx hb dX7_newPeak_93 (lv_at hl 1 rfl) ?_
        refine lv_imul hx hb dX7_newPeak_95 ?_
        refine lv_aload_n hx hb dX7_newPeak_96 rfl (lv_at hl 0 rfl) ?_
        refine va_get (D := γ.1) (ci := 7) (v := .int (sm_17 0 3)) (C := RX7) (T := TX7) (N := 35) hx hb hU uin7 hown hK hP 0 rfl rfl 3 (by decide) (hU _ U972) (fun _ h9 => h9) rfl dX7_newPeak_97 ?_
        refine lv_iadd hx hb dX7_newPeak_100 ?_
        refine lv_iconst (v := -1) hx hb dX7_newPeak_101 (by decide) ?_
        obtain ⟨g_18, hf⟩ := gd_of hf
        refine va_iast hx hb hK hP (hD _ _) hS 10 0 rfl rfl (inB_vp g_18) dX7_newPeak_102 (fun H locs hP _ hS => ?_)
        obtain ⟨sm_19, e_sm_19, hf⟩ := nm_of hf
        replace hP : va_P γ.1 vwCl (wM γ am sm_19 sq) H := by rw [e_sm_19]; exact hP
        obtain ⟨x5_20, e_x5_20⟩ : ∃ y : Int32, y = x5_13 + (1 : Int32) := ⟨_, rfl⟩
        replace hf := nm_y hf e_x5_20
        refine lv_iinc (v := x5_20) (lv' := [(5, .int x5_20), (0, .ref (am 0))]) hx hb dX7_newPeak_103 hl (k := 1) rfl (by rw [e_x5_20]; rfl) (by decide) rfl (fun ls hl => ?_)
        refine lv_goto (tgt := 64) hx hb dX7_newPeak_106 (by decide) ?_
        exact ih x5_20 sm_19 _ _ _ hf hP hS (lv_sub hl [1, 0] rfl)
  unfold f_X7_newPeak at hf
  refine lv_aload_n hx hb dX7_newPeak_0 rfl (lv_at hl 0 rfl) ?_
  refine va_get (D := γ.1) (ci := 7) (v := .ref (am 5)) (C := RX7) (T := TX7) (N := 35) hx hb hU uin7 hown hK hP 0 rfl rfl 4 (by decide) (hU _ U973) (fun _ h9 => h9) rfl dX7_newPeak_1 ?_
  refine lv_aload_n hx hb dX7_newPeak_4 rfl (lv_at hl 0 rfl) ?_
  refine va_get (D := γ.1) (ci := 7) (v := .int (sm 0 3)) (C := RX7) (T := TX7) (N := 35) hx hb hU uin7 hown hK hP 0 rfl rfl 3 (by decide) (hU _ U972) (fun _ h9 => h9) rfl dX7_newPeak_5 ?_
  refine lv_iload_n hx hb dX7_newPeak_8 rfl (lv_at hl 1 rfl) ?_
  obtain ⟨g_1, hf⟩ := gd_of hf
  refine va_iast hx hb hK hP (hD _ _) hS 4 0 rfl rfl (inB_vp g_1) dX7_newPeak_9 (fun H locs hP _ hS => ?_)
  obtain ⟨sm_2, e_sm_2, hf⟩ := nm_of hf
  replace hP : va_P γ.1 vwCl (wM γ am sm_2 sq) H := by rw [e_sm_2]; exact hP
  refine lv_aload_n hx hb dX7_newPeak_10 rfl (lv_at hl 0 rfl) ?_
  refine va_get (D := γ.1) (ci := 7) (v := .ref (am 6)) (C := RX7) (T := TX7) (N := 35) hx hb hU uin7 hown hK hP 0 rfl rfl 5 (by decide) (hU _ U974) (fun _ h9 => h9) rfl dX7_newPeak_11 ?_
  refine lv_aload_n hx hb dX7_newPeak_14 rfl (lv_at hl 0 rfl) ?_
  refine va_get (D := γ.1) (ci := 7) (v := .int (sm_2 0 3)) (C := RX7) (T := TX7) (N := 35) hx hb hU uin7 hown hK hP 0 rfl rfl 3 (by decide) (hU _ U972) (fun _ h9 => h9) rfl dX7_newPeak_15 ?_
  refine lv_iload_n hx hb dX7_newPeak_18 rfl (lv_at hl 2 rfl) ?_
  obtain ⟨g_3, hf⟩ := gd_of hf
  refine va_iast hx hb hK hP (hD _ _) hS 5 0 rfl rfl (inB_vp g_3) dX7_newPeak_19 (fun H locs hP _ hS => ?_)
  obtain ⟨sm_4, e_sm_4, hf⟩ := nm_of hf
  replace hP : va_P γ.1 vwCl (wM γ am sm_4 sq) H := by rw [e_sm_4]; exact hP
  refine lv_aload_n hx hb dX7_newPeak_20 rfl (lv_at hl 0 rfl) ?_
  refine va_get (D := γ.1) (ci := 7) (v := .ref (am 7)) (C := RX7) (T := TX7) (N := 35) hx hb hU uin7 hown hK hP 0 rfl rfl 6 (by decide) (hU _ U975) (fun _ h9 => h9) rfl dX7_newPeak_21 ?_
  refine lv_aload_n hx hb dX7_newPeak_24 rfl (lv_at hl 0 rfl) ?_
  refine va_get (D := γ.1) (ci := 7) (v := .int (sm_4 0 3)) (C := RX7) (T := TX7) (N := 35) hx hb hU uin7 hown hK hP 0 rfl rfl 3 (by decide) (hU _ U972) (fun _ h9 => h9) rfl dX7_newPeak_25 ?_
  refine lv_iload_n hx hb dX7_newPeak_28 rfl (lv_at hl 3 rfl) ?_
  obtain ⟨g_5, hf⟩ := gd_of hf
  refine va_iast hx hb hK hP (hD _ _) hS 6 0 rfl rfl (inB_vp g_5) dX7_newPeak_29 (fun H locs hP _ hS => ?_)
  obtain ⟨sm_6, e_sm_6, hf⟩ := nm_of hf
  replace hP : va_P γ.1 vwCl (wM γ am sm_6 sq) H := by rw [e_sm_6]; exact hP
  refine lv_aload_n hx hb dX7_newPeak_30 rfl (lv_at hl 0 rfl) ?_
  refine va_get (D := γ.1) (ci := 7) (v := .ref (am 8)) (C := RX7) (T := TX7) (N := 35) hx hb hU uin7 hown hK hP 0 rfl rfl 7 (by decide) (hU _ U976) (fun _ h9 => h9) rfl dX7_newPeak_31 ?_
  refine lv_aload_n hx hb dX7_newPeak_34 rfl (lv_at hl 0 rfl) ?_
  refine va_get (D := γ.1) (ci := 7) (v := .int (sm_6 0 3)) (C := RX7) (T := TX7) (N := 35) hx hb hU uin7 hown hK hP 0 rfl rfl 3 (by decide) (hU _ U972) (fun _ h9 => h9) rfl dX7_newPeak_35 ?_
  refine lv_iload hx hb dX7_newPeak_38 (lv_at hl 4 rfl) ?_
  obtain ⟨g_7, hf⟩ := gd_of hf
  refine va_iast hx hb hK hP (hD _ _) hS 7 0 rfl rfl (inB_vp g_7) dX7_newPeak_40 (fun H locs hP _ hS => ?_)
  obtain ⟨sm_8, e_sm_8, hf⟩ := nm_of hf
  replace hP : va_P γ.1 vwCl (wM γ am sm_8 sq) H := by rw [e_sm_8]; exact hP
  refine lv_aload_n hx hb dX7_newPeak_41 rfl (lv_at hl 0 rfl) ?_
  refine va_get (D := γ.1) (ci := 7) (v := .ref (am 9)) (C := RX7) (T := TX7) (N := 35) hx hb hU uin7 hown hK hP 0 rfl rfl 8 (by decide) (hU _ U977) (fun _ h9 => h9) rfl dX7_newPeak_42 ?_
  refine lv_aload_n hx hb dX7_newPeak_45 rfl (lv_at hl 0 rfl) ?_
  refine va_get (D := γ.1) (ci := 7) (v := .int (sm_8 0 3)) (C := RX7) (T := TX7) (N := 35) hx hb hU uin7 hown hK hP 0 rfl rfl 3 (by decide) (hU _ U972) (fun _ h9 => h9) rfl dX7_newPeak_46 ?_
  refine lv_iconst (v := 1) hx hb dX7_newPeak_49 (by decide) ?_
  obtain ⟨g_9, hf⟩ := gd_of hf
  refine va_iast hx hb hK hP (hD _ _) hS 8 0 rfl rfl (inB_vp g_9) dX7_newPeak_50 (fun H locs hP _ hS => ?_)
  obtain ⟨sm_10, e_sm_10, hf⟩ := nm_of hf
  replace hP : va_P γ.1 vwCl (wM γ am sm_10 sq) H := by rw [e_sm_10]; exact hP
  refine lv_aload_n hx hb dX7_newPeak_51 rfl (lv_at hl 0 rfl) ?_
  refine va_get (D := γ.1) (ci := 7) (v := .ref (am 10)) (C := RX7) (T := TX7) (N := 35) hx hb hU uin7 hown hK hP 0 rfl rfl 9 (by decide) (hU _ U978) (fun _ h9 => h9) rfl dX7_newPeak_52 ?_
  refine lv_aload_n hx hb dX7_newPeak_55 rfl (lv_at hl 0 rfl) ?_
  refine va_get (D := γ.1) (ci := 7) (v := .int (sm_10 0 3)) (C := RX7) (T := TX7) (N := 35) hx hb hU uin7 hown hK hP 0 rfl rfl 3 (by decide) (hU _ U972) (fun _ h9 => h9) rfl dX7_newPeak_56 ?_
  refine lv_iconst (v := 0) hx hb dX7_newPeak_59 (by decide) ?_
  obtain ⟨g_11, hf⟩ := gd_of hf
  refine va_iast hx hb hK hP (hD _ _) hS 9 0 rfl rfl (inB_vp g_11) dX7_newPeak_60 (fun H locs hP _ hS => ?_)
  obtain ⟨sm_12, e_sm_12, hf⟩ := nm_of hf
  replace hP : va_P γ.1 vwCl (wM γ am sm_12 sq) H := by rw [e_sm_12]; exact hP
  refine lv_iconst (v := 0) hx hb dX7_newPeak_61 (by decide) ?_
  refine lv_istore (lv' := [(5, .int (0 : Int32)), (0, .ref (am 0)), (1, .int x1), (2, .int x2), (3, .int x3), (4, .int x4)]) hx hb dX7_newPeak_62 hl (by decide) rfl (fun ls hl => ?_)
  refine L64 _ (fun sm_21 H locs ls hf hP hS hl => ?_) FU (0 : Int32) sm_12 _ _ _ hf hP hS (lv_sub hl [1, 0] rfl)
  refine lv_aload_n hx hb dX7_newPeak_109 rfl (lv_at hl 0 rfl) ?_
  refine lv_dup hx hb dX7_newPeak_110 rfl ?_
  refine va_get (D := γ.1) (ci := 7) (v := .int (sm_21 0 3)) (C := RX7) (T := TX7) (N := 35) hx hb hU uin7 hown hK hP 0 rfl rfl 3 (by decide) (hU _ U972) (fun _ h9 => h9) rfl dX7_newPeak_111 ?_
  refine lv_iconst (v := 1) hx hb dX7_newPeak_114 (by decide) ?_
  refine lv_iadd hx hb dX7_newPeak_115 ?_
  refine lv_topi (fun u_22 e_u_22 => ?_)
  replace hf := nm_y hf e_u_22
  refine va_put (D := γ.1) (ci := 7) (v := .int u_22) (ty := .int) (C := RX7) (T := TX7) (N := 35) hx hb hU uin7 tyX7 tyX7_ok nmX7 hown hK hP (hD _ _) hS 0 rfl rfl 3 (by decide) (hU _ U972) (fun _ h9 => h9) rfl (by decide +kernel) rfl rfl (Nat.le_of_ble_eq_true rfl) dX7_newPeak_116 (fun H locs hP _ hS => ?_)
  obtain ⟨sm_23, e_sm_23, hf⟩ := nm_of hf
  replace hP : va_P γ.1 vwCl (wM γ am sm_23 sq) H := by rw [e_sm_23]; exact hP
  refine lv_aload_n hx hb dX7_newPeak_119 rfl (lv_at hl 0 rfl) ?_
  obtain ⟨sm_24, hg_25, hf⟩ := bd_of hf
  refine kt_V0 (As := []) (rest := []) (st1 := []) (b := am 0) C0 (c_X7_looks l γ am hg_25) (cxV (nA := 0) hts goodU U1170 U1172 U41 U91 U1173 (by decide +kernel) ⟨Nat.le_of_ble_eq_true rfl, Nat.le_of_ble_eq_true rfl⟩) hP (hD _ _) hS hl dX7_newPeak_120 0 7 rfl rfl rfl rfl (Nat.le_of_ble_eq_true rfl) rfl rfl (fun H locs hP hS => ?_)
  refine lv_aload_n hx hb dX7_newPeak_123 rfl (lv_at hl 0 rfl) ?_
  refine va_get (D := γ.1) (ci := 7) (v := .int (sm_24 0 3)) (C := RX7) (T := TX7) (N := 35) hx hb hU uin7 hown hK hP 0 rfl rfl 3 (by decide) (hU _ U972) (fun _ h9 => h9) rfl dX7_newPeak_124 ?_
  refine lv_iconst (v := 1) hx hb dX7_newPeak_127 (by decide) ?_
  refine lv_isub hx hb dX7_newPeak_128 ?_
  obtain ⟨rfl, rfl⟩ := rt2 hf
  exact kt_iret C0 hP hS dX7_newPeak_129
set_option maxHeartbeats 4000000 in
set_option maxRecDepth 100000 in
theorem c_X7_peak (l : Launch) (γ : Gm) (am : Nat → Nat) {sm : GS} {sq : Nat → Int64} {x1 : Int32} {x2 : Int32} {x3 : Int32} {x4 : Int32} {rv : Int32} {sm_z : GS} (hf : f_X7_peak sm x1 x2 x3 x4 = some (rv, sm_z)) : Kt l γ yX7_peak (Cond.code yX7_peak cX7_peak 5 (some .int) :: U) 5 115 [.ref (am 0), .int x1, .int x2, .int x3, .int x4] (wM γ am sm sq) (some (.int rv)) (wM γ am sm_z sq) := by
  refine Kt.of (by decide) rfl (Nat.le_of_ble_eq_true rfl) rfl ?_
  intro p e s m below meth c A ls C0 hP hD0 hS hl
  obtain ⟨hx, hb, hml, hown, hts, hr, hlocks, hK, hE, hA⟩ := id C0
  have hU : ∀ w ∈ U, w.before _ s = true := fun w h => hts w (List.mem_cons_of_mem _ h)
  have hD : ∀ (sm : GS) (sq : Nat → Int64), va_D A (wM γ am sm sq) := fun _ _ => hD0.fst rfl
  have hl : lv_has ls 5 [(0, .ref (am 0)), (1, .int x1), (2, .int x2), (3, .int x3), (4, .int x4)] := hl
  have J49 : ∀ (sm_7 : GS) (H : Heap) (locs : List Loc) (ls : Array Slot), f_X7_peak_J49 sm_7 = some (rv, sm_z) → va_P γ.1 vwCl (wM γ am sm_7 sq) H → va_S A s.heap H locs → lv_has ls 5 [(0, .ref (am 0))] → W p l e (rmK 5 115) s m ([.ref (am 0), .int x1, .int x2, .int x3, .int x4] : List Value).toArray below meth c H locs 0 0 (MQ below (KQ γ A (some (.int rv)) (wM γ am sm_z sq)) ([.ref (am 0), .int x1, .int x2, .int x3, .int x4] : List Value).toArray s 0 0 A) (F0 m 49 ls []) := by
    intro sm_7 H locs ls hf hP hS hl
    unfold f_X7_peak_J49 at hf
    refine lv_aload_n hx hb dX7_peak_49 rfl (lv_at hl 0 rfl) ?_
    refine lv_bipush (v := -6) hx hb dX7_peak_50 (by decide) ?_
    obtain ⟨r_8, sm_9, hg_10, hf⟩ := bd2_of hf
    refine kt_V0 (As := [.int (-6 : Int32)]) (rest := []) (st1 := [.int r_8]) (b := am 0) C0 (c_X7_no l γ am hg_10) (cxV (nA := 1) hts goodU U1082 U1084 U30 U91 U1085 (by decide +kernel) ⟨Nat.le_of_ble_eq_true rfl, Nat.le_of_ble_eq_true rfl⟩) hP (hD _ _) hS hl dX7_peak_52 0 7 rfl rfl rfl rfl (Nat.le_of_ble_eq_true rfl) rfl rfl (fun H locs hP hS => ?_)
    obtain ⟨rfl, rfl⟩ := rt2 hf
    exact kt_iret C0 hP hS dX7_peak_55
  unfold f_X7_peak at hf
  refine lv_iload_n hx hb dX7_peak_0 rfl (lv_at hl 1 rfl) ?_
  refine lv_iconst (v := 0) hx hb dX7_peak_1 (by decide) ?_
  refine lv_bipush (v := 6) hx hb dX7_peak_2 (by decide) ?_
  obtain ⟨r_1, hg_2, hf⟩ := bd_of hf
  refine kt_SF (As := [.int x1, .int (0 : Int32), .int (6 : Int32)]) (rest := []) (st1 := [.int r_1]) (wc' := wM γ am sm sq) C0 (c_X7_within l γ hg_2) (cxS (nA := 3) hts goodU U1079 U1080 U91 U1081 (by decide +kernel) ⟨Nat.le_of_ble_eq_true rfl, Nat.le_of_ble_eq_true rfl⟩) hP (hD _ _) hS hl dX7_peak_4 foc_nil rfl (Nat.le_of_ble_eq_true rfl) rfl rfl (fun H locs hP hS => ?_)
  refine lv_if_ne (tgt := 16) hx hb dX7_peak_7 (by decide) (fun c_3 => ?_) (fun c_3 => ?_)
  · replace hf := ite_n c_3 hf
    refine lv_iload_n hx hb dX7_peak_16 rfl (lv_at hl 2 rfl) ?_
    refine lv_iconst (v := 0) hx hb dX7_peak_17 (by decide) ?_
    refine lv_bipush (v := 9) hx hb dX7_peak_18 (by decide) ?_
    obtain ⟨r_4, hg_5, hf⟩ := bd_of hf
    refine kt_SF (As := [.int x2, .int (0 : Int32), .int (9 : Int32)]) (rest := []) (st1 := [.int r_4]) (wc' := wM γ am sm sq) C0 (c_X7_within l γ hg_5) (cxS (nA := 3) hts goodU U1079 U1080 U91 U1081 (by decide +kernel) ⟨Nat.le_of_ble_eq_true rfl, Nat.le_of_ble_eq_true rfl⟩) hP (hD _ _) hS hl dX7_peak_20 foc_nil rfl (Nat.le_of_ble_eq_true rfl) rfl rfl (fun H locs hP hS => ?_)
    refine lv_if_eq (tgt := 49) hx hb dX7_peak_23 (by decide) (fun c_6 => ?_) (fun c_6 => ?_)
    · replace hf := ite_p c_6 hf
      exact J49 sm _ _ _ hf hP hS (lv_sub hl [0] rfl)
    · replace hf := ite_n c_6 hf
      refine lv_iload_n hx hb dX7_peak_26 rfl (lv_at hl 3 rfl) ?_
      obtain ⟨r_11, hg_12, hf⟩ := bd_of hf
      refine kt_SF (As := [.int x3]) (rest := []) (st1 := [.int r_11]) (wc' := wM γ am sm sq) C0 (c_X7_isPlace l γ hg_12) (cxS (nA := 1) hts goodU U1156 U1157 U91 U1158 (by decide +kernel) ⟨Nat.le_of_ble_eq_true rfl, Nat.le_of_ble_eq_true rfl⟩) hP (hD _ _) hS hl dX7_peak_27 foc_nil rfl (Nat.le_of_ble_eq_true rfl) rfl rfl (fun H locs hP hS => ?_)
      refine lv_if_eq (tgt := 49) hx hb dX7_peak_30 (by decide) (fun c_13 => ?_) (fun c_13 => ?_)
      · replace hf := ite_p c_13 hf
        exact J49 sm _ _ _ hf hP hS (lv_sub hl [0] rfl)
      · replace hf := ite_n c_13 hf
        refine lv_iload hx hb dX7_peak_33 (lv_at hl 4 rfl) ?_
        obtain ⟨r_14, hg_15, hf⟩ := bd_of hf
        refine kt_SF (As := [.int x4]) (rest := []) (st1 := [.int r_14]) (wc' := wM γ am sm sq) C0 (c_X7_isHeight l γ hg_15) (cxS (nA := 1) hts goodU U1159 U1160 U91 U1161 (by decide +kernel) ⟨Nat.le_of_ble_eq_true rfl, Nat.le_of_ble_eq_true rfl⟩) hP (hD _ _) hS hl dX7_peak_35 foc_nil rfl (Nat.le_of_ble_eq_true rfl) rfl rfl (fun H locs hP hS => ?_)
        refine lv_if_eq (tgt := 49) hx hb dX7_peak_38 (by decide) (fun c_16 => ?_) (fun c_16 => ?_)
        · replace hf := ite_p c_16 hf
          exact J49 sm _ _ _ hf hP hS (lv_sub hl [0] rfl)
        · replace hf := ite_n c_16 hf
          refine lv_aload_n hx hb dX7_peak_41 rfl (lv_at hl 0 rfl) ?_
          refine lv_iload_n hx hb dX7_peak_42 rfl (lv_at hl 3 rfl) ?_
          obtain ⟨r_17, hg_18, hf⟩ := bd_of hf
          refine kt_V0 (As := [.int x3]) (rest := []) (st1 := [.int r_17]) (b := am 0) C0 (c_X7_isTaken l γ am hg_18) (cxV (nA := 1) hts goodU U1162 U1164 U39 U91 U1165 (by decide +kernel) ⟨Nat.le_of_ble_eq_true rfl, Nat.le_of_ble_eq_true rfl⟩) hP (hD _ _) hS hl dX7_peak_43 0 7 rfl rfl rfl rfl (Nat.le_of_ble_eq_true rfl) rfl rfl (fun H locs hP hS => ?_)
          refine lv_if_eq (tgt := 56) hx hb dX7_peak_46 (by decide) (fun c_19 => ?_) (fun c_19 => ?_)
          · replace hf := ite_p c_19 hf
            refine lv_aload_n hx hb dX7_peak_56 rfl (lv_at hl 0 rfl) ?_
            refine va_get (D := γ.1) (ci := 7) (v := .int (sm 0 3)) (C := RX7) (T := TX7) (N := 35) hx hb hU uin7 hown hK hP 0 rfl rfl 3 (by decide) (hU _ U972) (fun _ h9 => h9) rfl dX7_peak_57 ?_
            refine lv_bipush (v := 10) hx hb dX7_peak_60 (by decide) ?_
            refine lv_icmp_ne (tgt := 74) hx hb dX7_peak_62 (by decide) (fun c_20 => ?_) (fun c_20 => ?_)
            · replace hf := ite_n c_20 hf
              refine lv_aload_n hx hb dX7_peak_74 rfl (lv_at hl 0 rfl) ?_
              refine lv_iload_n hx hb dX7_peak_75 rfl (lv_at hl 1 rfl) ?_
              refine lv_iload_n hx hb dX7_peak_76 rfl (lv_at hl 2 rfl) ?_
              refine lv_iload_n hx hb dX7_peak_77 rfl (lv_at hl 3 rfl) ?_
              refine lv_iload hx hb dX7_peak_78 (lv_at hl 4 rfl) ?_
              obtain ⟨r_21, sm_22, hg_23, hf⟩ := bd2_of hf
              refine kt_V0 (As := [.int x1, .int x2, .int x3, .int x4]) (rest := []) (st1 := [.int r_21]) (b := am 0) C0 (c_X7_newPeak l γ am hg_23) (cxV (nA := 4) hts goodU U1166 U1168 U40 U91 U1169 (by decide +kernel) ⟨Nat.le_of_ble_eq_true rfl, Nat.le_of_ble_eq_true rfl⟩) hP (hD _ _) hS hl dX7_peak_80 0 7 rfl rfl rfl rfl (Nat.le_of_ble_eq_true rfl) rfl rfl (fun H locs hP hS => ?_)
              obtain ⟨rfl, rfl⟩ := rt2 hf
              exact kt_iret C0 hP hS dX7_peak_83
            · replace hf := ite_p c_20 hf
              refine lv_aload_n hx hb dX7_peak_65 rfl (lv_at hl 0 rfl) ?_
              refine lv_bipush (v := -7) hx hb dX7_peak_66 (by decide) ?_
              obtain ⟨r_24, sm_25, hg_26, hf⟩ := bd2_of hf
              refine kt_V0 (As := [.int (-7 : Int32)]) (rest := []) (st1 := [.int r_24]) (b := am 0) C0 (c_X7_no l γ am hg_26) (cxV (nA := 1) hts goodU U1082 U1084 U30 U91 U1085 (by decide +kernel) ⟨Nat.le_of_ble_eq_true rfl, Nat.le_of_ble_eq_true rfl⟩) hP (hD _ _) hS hl dX7_peak_68 0 7 rfl rfl rfl rfl (Nat.le_of_ble_eq_true rfl) rfl rfl (fun H locs hP hS => ?_)
              refine lv_goto (tgt := 83) hx hb dX7_peak_71 (by decide) ?_
              obtain ⟨rfl, rfl⟩ := rt2 hf
              exact kt_iret C0 hP hS dX7_peak_83
          · replace hf := ite_n c_19 hf
            exact J49 sm _ _ _ hf hP hS (lv_sub hl [0] rfl)
  · replace hf := ite_p c_3 hf
    refine lv_aload_n hx hb dX7_peak_10 rfl (lv_at hl 0 rfl) ?_
    refine lv_iconst (v := -1) hx hb dX7_peak_11 (by decide) ?_
    obtain ⟨r_27, sm_28, hg_29, hf⟩ := bd2_of hf
    refine kt_V0 (As := [.int (-1 : Int32)]) (rest := []) (st1 := [.int r_27]) (b := am 0) C0 (c_X7_no l γ am hg_29) (cxV (nA := 1) hts goodU U1082 U1084 U30 U91 U1085 (by decide +kernel) ⟨Nat.le_of_ble_eq_true rfl, Nat.le_of_ble_eq_true rfl⟩) hP (hD _ _) hS hl dX7_peak_12 0 7 rfl rfl rfl rfl (Nat.le_of_ble_eq_true rfl) rfl rfl (fun H locs hP hS => ?_)
    obtain ⟨rfl, rfl⟩ := rt2 hf
    exact kt_iret C0 hP hS dX7_peak_15
set_option maxHeartbeats 4000000 in
set_option maxRecDepth 100000 in
theorem c_X7_newScreen (l : Launch) (γ : Gm) (am : Nat → Nat) {sm : GS} {sq : Nat → Int64} {x1 : Int32} {x2 : Int32} {rv : Int32} {sm_z : GS} (hf : f_X7_newScreen sm x1 x2 = some (rv, sm_z)) : Kt l γ yX7_newScreen (Cond.code yX7_newScreen cX7_newScreen 3 (some .int) :: U) 4 90 [.ref (am 0), .int x1, .int x2] (wM γ am sm sq) (some (.int rv)) (wM γ am sm_z sq) := by
  refine Kt.of (by decide) rfl (Nat.le_of_ble_eq_true rfl) rfl ?_
  intro p e s m below meth c A ls C0 hP hD0 hS hl
  obtain ⟨hx, hb, hml, hown, hts, hr, hlocks, hK, hE, hA⟩ := id C0
  have hU : ∀ w ∈ U, w.before _ s = true := fun w h => hts w (List.mem_cons_of_mem _ h)
  have hD : ∀ (sm : GS) (sq : Nat → Int64), va_D A (wM γ am sm sq) := fun _ _ => hD0.fst rfl
  have hl : lv_has ls 3 [(0, .ref (am 0)), (1, .int x1), (2, .int x2)] := hl
  unfold f_X7_newScreen at hf
  refine lv_aload_n hx hb dX7_newScreen_0 rfl (lv_at hl 0 rfl) ?_
  refine va_get (D := γ.1) (ci := 7) (v := .ref (am 13)) (C := RX7) (T := TX7) (N := 35) hx hb hU uin7 hown hK hP 0 rfl rfl 12 (by decide) (hU _ U981) (fun _ h9 => h9) rfl dX7_newScreen_1 ?_
  refine lv_aload_n hx hb dX7_newScreen_4 rfl (lv_at hl 0 rfl) ?_
  refine va_get (D := γ.1) (ci := 7) (v := .int (sm 0 11)) (C := RX7) (T := TX7) (N := 35) hx hb hU uin7 hown hK hP 0 rfl rfl 11 (by decide) (hU _ U980) (fun _ h9 => h9) rfl dX7_newScreen_5 ?_
  refine lv_iload_n hx hb dX7_newScreen_8 rfl (lv_at hl 1 rfl) ?_
  obtain ⟨g_1, hf⟩ := gd_of hf
  refine va_iast hx hb hK hP (hD _ _) hS 11 0 rfl rfl (inB_vp g_1) dX7_newScreen_9 (fun H locs hP _ hS => ?_)
  obtain ⟨sm_2, e_sm_2, hf⟩ := nm_of hf
  replace hP : va_P γ.1 vwCl (wM γ am sm_2 sq) H := by rw [e_sm_2]; exact hP
  refine lv_aload_n hx hb dX7_newScreen_10 rfl (lv_at hl 0 rfl) ?_
  refine va_get (D := γ.1) (ci := 7) (v := .ref (am 14)) (C := RX7) (T := TX7) (N := 35) hx hb hU uin7 hown hK hP 0 rfl rfl 13 (by decide) (hU _ U982) (fun _ h9 => h9) rfl dX7_newScreen_11 ?_
  refine lv_aload_n hx hb dX7_newScreen_14 rfl (lv_at hl 0 rfl) ?_
  refine va_get (D := γ.1) (ci := 7) (v := .int (sm_2 0 11)) (C := RX7) (T := TX7) (N := 35) hx hb hU uin7 hown hK hP 0 rfl rfl 11 (by decide) (hU _ U980) (fun _ h9 => h9) rfl dX7_newScreen_15 ?_
  refine lv_iload_n hx hb dX7_newScreen_18 rfl (lv_at hl 2 rfl) ?_
  obtain ⟨g_3, hf⟩ := gd_of hf
  refine va_iast hx hb hK hP (hD _ _) hS 12 0 rfl rfl (inB_vp g_3) dX7_newScreen_19 (fun H locs hP _ hS => ?_)
  obtain ⟨sm_4, e_sm_4, hf⟩ := nm_of hf
  replace hP : va_P γ.1 vwCl (wM γ am sm_4 sq) H := by rw [e_sm_4]; exact hP
  refine lv_aload_n hx hb dX7_newScreen_20 rfl (lv_at hl 0 rfl) ?_
  refine lv_dup hx hb dX7_newScreen_21 rfl ?_
  refine va_get (D := γ.1) (ci := 7) (v := .int (sm_4 0 11)) (C := RX7) (T := TX7) (N := 35) hx hb hU uin7 hown hK hP 0 rfl rfl 11 (by decide) (hU _ U980) (fun _ h9 => h9) rfl dX7_newScreen_22 ?_
  refine lv_iconst (v := 1) hx hb dX7_newScreen_25 (by decide) ?_
  refine lv_iadd hx hb dX7_newScreen_26 ?_
  refine lv_topi (fun u_5 e_u_5 => ?_)
  replace hf := nm_y hf e_u_5
  refine va_put (D := γ.1) (ci := 7) (v := .int u_5) (ty := .int) (C := RX7) (T := TX7) (N := 35) hx hb hU uin7 tyX7 tyX7_ok nmX7 hown hK hP (hD _ _) hS 0 rfl rfl 11 (by decide) (hU _ U980) (fun _ h9 => h9) rfl (by decide +kernel) rfl rfl (Nat.le_of_ble_eq_true rfl) dX7_newScreen_27 (fun H locs hP _ hS => ?_)
  obtain ⟨sm_6, e_sm_6, hf⟩ := nm_of hf
  replace hP : va_P γ.1 vwCl (wM γ am sm_6 sq) H := by rw [e_sm_6]; exact hP
  refine lv_aload_n hx hb dX7_newScreen_30 rfl (lv_at hl 0 rfl) ?_
  obtain ⟨sm_7, hg_8, hf⟩ := bd_of hf
  refine kt_V0 (As := []) (rest := []) (st1 := []) (b := am 0) C0 (c_X7_looks l γ am hg_8) (cxV (nA := 0) hts goodU U1170 U1172 U41 U91 U1173 (by decide +kernel) ⟨Nat.le_of_ble_eq_true rfl, Nat.le_of_ble_eq_true rfl⟩) hP (hD _ _) hS hl dX7_newScreen_31 0 7 rfl rfl rfl rfl (Nat.le_of_ble_eq_true rfl) rfl rfl (fun H locs hP hS => ?_)
  refine lv_aload_n hx hb dX7_newScreen_34 rfl (lv_at hl 0 rfl) ?_
  refine va_get (D := γ.1) (ci := 7) (v := .int (sm_7 0 11)) (C := RX7) (T := TX7) (N := 35) hx hb hU uin7 hown hK hP 0 rfl rfl 11 (by decide) (hU _ U980) (fun _ h9 => h9) rfl dX7_newScreen_35 ?_
  refine lv_iconst (v := 1) hx hb dX7_newScreen_38 (by decide) ?_
  refine lv_isub hx hb dX7_newScreen_39 ?_
  obtain ⟨rfl, rfl⟩ := rt2 hf
  exact kt_iret C0 hP hS dX7_newScreen_40
set_option maxHeartbeats 4000000 in
set_option maxRecDepth 100000 in
theorem c_X7_screen (l : Launch) (γ : Gm) (am : Nat → Nat) {sm : GS} {sq : Nat → Int64} {x1 : Int32} {x2 : Int32} {rv : Int32} {sm_z : GS} (hf : f_X7_screen sm x1 x2 = some (rv, sm_z)) : Kt l γ yX7_screen (Cond.code yX7_screen cX7_screen 3 (some .int) :: U) 5 112 [.ref (am 0), .int x1, .int x2] (wM γ am sm sq) (some (.int rv)) (wM γ am sm_z sq) := by
  refine Kt.of (by decide) rfl (Nat.le_of_ble_eq_true rfl) rfl ?_
  intro p e s m below meth c A ls C0 hP hD0 hS hl
  obtain ⟨hx, hb, hml, hown, hts, hr, hlocks, hK, hE, hA⟩ := id C0
  have hU : ∀ w ∈ U, w.before _ s = true := fun w h => hts w (List.mem_cons_of_mem _ h)
  have hD : ∀ (sm : GS) (sq : Nat → Int64), va_D A (wM γ am sm sq) := fun _ _ => hD0.fst rfl
  have hl : lv_has ls 3 [(0, .ref (am 0)), (1, .int x1), (2, .int x2)] := hl
  have J14 : ∀ (sm_4 : GS) (H : Heap) (locs : List Loc) (ls : Array Slot), f_X7_screen_J14 sm_4 = some (rv, sm_z) → va_P γ.1 vwCl (wM γ am sm_4 sq) H → va_S A s.heap H locs → lv_has ls 3 [(0, .ref (am 0))] → W p l e (rmK 5 112) s m ([.ref (am 0), .int x1, .int x2] : List Value).toArray below meth c H locs 0 0 (MQ below (KQ γ A (some (.int rv)) (wM γ am sm_z sq)) ([.ref (am 0), .int x1, .int x2] : List Value).toArray s 0 0 A) (F0 m 14 ls []) := by
    intro sm_4 H locs ls hf hP hS hl
    unfold f_X7_screen_J14 at hf
    refine lv_aload_n hx hb dX7_screen_14 rfl (lv_at hl 0 rfl) ?_
    refine lv_bipush (v := -6) hx hb dX7_screen_15 (by decide) ?_
    obtain ⟨r_5, sm_6, hg_7, hf⟩ := bd2_of hf
    refine kt_V0 (As := [.int (-6 : Int32)]) (rest := []) (st1 := [.int r_5]) (b := am 0) C0 (c_X7_no l γ am hg_7) (cxV (nA := 1) hts goodU U1082 U1084 U30 U91 U1085 (by decide +kernel) ⟨Nat.le_of_ble_eq_true rfl, Nat.le_of_ble_eq_true rfl⟩) hP (hD _ _) hS hl dX7_screen_17 0 7 rfl rfl rfl rfl (Nat.le_of_ble_eq_true rfl) rfl rfl (fun H locs hP hS => ?_)
    obtain ⟨rfl, rfl⟩ := rt2 hf
    exact kt_iret C0 hP hS dX7_screen_20
  unfold f_X7_screen at hf
  refine lv_iload_n hx hb dX7_screen_0 rfl (lv_at hl 1 rfl) ?_
  obtain ⟨r_1, hg_2, hf⟩ := bd_of hf
  refine kt_SF (As := [.int x1]) (rest := []) (st1 := [.int r_1]) (wc' := wM γ am sm sq) C0 (c_X7_isPlace l γ hg_2) (cxS (nA := 1) hts goodU U1156 U1157 U91 U1158 (by decide +kernel) ⟨Nat.le_of_ble_eq_true rfl, Nat.le_of_ble_eq_true rfl⟩) hP (hD _ _) hS hl dX7_screen_1 foc_nil rfl (Nat.le_of_ble_eq_true rfl) rfl rfl (fun H locs hP hS => ?_)
  refine lv_if_eq (tgt := 14) hx hb dX7_screen_4 (by decide) (fun c_3 => ?_) (fun c_3 => ?_)
  · replace hf := ite_p c_3 hf
    exact J14 sm _ _ _ hf hP hS (lv_sub hl [0] rfl)
  · replace hf := ite_n c_3 hf
    refine lv_iload_n hx hb dX7_screen_7 rfl (lv_at hl 2 rfl) ?_
    obtain ⟨r_8, hg_9, hf⟩ := bd_of hf
    refine kt_SF (As := [.int x2]) (rest := []) (st1 := [.int r_8]) (wc' := wM γ am sm sq) C0 (c_X7_isHeight l γ hg_9) (cxS (nA := 1) hts goodU U1159 U1160 U91 U1161 (by decide +kernel) ⟨Nat.le_of_ble_eq_true rfl, Nat.le_of_ble_eq_true rfl⟩) hP (hD _ _) hS hl dX7_screen_8 foc_nil rfl (Nat.le_of_ble_eq_true rfl) rfl rfl (fun H locs hP hS => ?_)
    refine lv_if_ne (tgt := 21) hx hb dX7_screen_11 (by decide) (fun c_10 => ?_) (fun c_10 => ?_)
    · replace hf := ite_n c_10 hf
      refine lv_aload_n hx hb dX7_screen_21 rfl (lv_at hl 0 rfl) ?_
      refine va_get (D := γ.1) (ci := 7) (v := .int (sm 0 11)) (C := RX7) (T := TX7) (N := 35) hx hb hU uin7 hown hK hP 0 rfl rfl 11 (by decide) (hU _ U980) (fun _ h9 => h9) rfl dX7_screen_22 ?_
      refine lv_bipush (v := 6) hx hb dX7_screen_25 (by decide) ?_
      refine lv_icmp_ne (tgt := 39) hx hb dX7_screen_27 (by decide) (fun c_11 => ?_) (fun c_11 => ?_)
      · replace hf := ite_n c_11 hf
        refine lv_aload_n hx hb dX7_screen_39 rfl (lv_at hl 0 rfl) ?_
        refine lv_iload_n hx hb dX7_screen_40 rfl (lv_at hl 1 rfl) ?_
        refine lv_iload_n hx hb dX7_screen_41 rfl (lv_at hl 2 rfl) ?_
        obtain ⟨r_12, sm_13, hg_14, hf⟩ := bd2_of hf
        refine kt_V0 (As := [.int x1, .int x2]) (rest := []) (st1 := [.int r_12]) (b := am 0) C0 (c_X7_newScreen l γ am hg_14) (cxV (nA := 2) hts goodU U1192 U1194 U45 U91 U1195 (by decide +kernel) ⟨Nat.le_of_ble_eq_true rfl, Nat.le_of_ble_eq_true rfl⟩) hP (hD _ _) hS hl dX7_screen_42 0 7 rfl rfl rfl rfl (Nat.le_of_ble_eq_true rfl) rfl rfl (fun H locs hP hS => ?_)
        obtain ⟨rfl, rfl⟩ := rt2 hf
        exact kt_iret C0 hP hS dX7_screen_45
      · replace hf := ite_p c_11 hf
        refine lv_aload_n hx hb dX7_screen_30 rfl (lv_at hl 0 rfl) ?_
        refine lv_bipush (v := -7) hx hb dX7_screen_31 (by decide) ?_
        obtain ⟨r_15, sm_16, hg_17, hf⟩ := bd2_of hf
        refine kt_V0 (As := [.int (-7 : Int32)]) (rest := []) (st1 := [.int r_15]) (b := am 0) C0 (c_X7_no l γ am hg_17) (cxV (nA := 1) hts goodU U1082 U1084 U30 U91 U1085 (by decide +kernel) ⟨Nat.le_of_ble_eq_true rfl, Nat.le_of_ble_eq_true rfl⟩) hP (hD _ _) hS hl dX7_screen_33 0 7 rfl rfl rfl rfl (Nat.le_of_ble_eq_true rfl) rfl rfl (fun H locs hP hS => ?_)
        refine lv_goto (tgt := 45) hx hb dX7_screen_36 (by decide) ?_
        obtain ⟨rfl, rfl⟩ := rt2 hf
        exact kt_iret C0 hP hS dX7_screen_45
    · replace hf := ite_p c_10 hf
      exact J14 sm _ _ _ hf hP hS (lv_sub hl [0] rfl)
set_option maxHeartbeats 4000000 in
set_option maxRecDepth 100000 in
theorem c_X7_newValley (l : Launch) (γ : Gm) (am : Nat → Nat) {sm : GS} {sq : Nat → Int64} {x1 : Int32} {rv : Int32} {sm_z : GS} (hf : f_X7_newValley sm x1 = some (rv, sm_z)) : Kt l γ yX7_newValley (Cond.code yX7_newValley cX7_newValley 2 (some .int) :: U) 0 0 [.ref (am 0), .int x1] (wM γ am sm sq) (some (.int rv)) (wM γ am sm_z sq) := by
  refine Kt.of (by decide) rfl (Nat.le_of_ble_eq_true rfl) rfl ?_
  intro p e s m below meth c A ls C0 hP hD0 hS hl
  obtain ⟨hx, hb, hml, hown, hts, hr, hlocks, hK, hE, hA⟩ := id C0
  have hU : ∀ w ∈ U, w.before _ s = true := fun w h => hts w (List.mem_cons_of_mem _ h)
  have hD : ∀ (sm : GS) (sq : Nat → Int64), va_D A (wM γ am sm sq) := fun _ _ => hD0.fst rfl
  have hl : lv_has ls 2 [(0, .ref (am 0)), (1, .int x1)] := hl
  unfold f_X7_newValley at hf
  refine lv_aload_n hx hb dX7_newValley_0 rfl (lv_at hl 0 rfl) ?_
  refine va_get (D := γ.1) (ci := 7) (v := .ref (am 16)) (C := RX7) (T := TX7) (N := 35) hx hb hU uin7 hown hK hP 0 rfl rfl 15 (by decide) (hU _ U984) (fun _ h9 => h9) rfl dX7_newValley_1 ?_
  refine lv_aload_n hx hb dX7_newValley_4 rfl (lv_at hl 0 rfl) ?_
  refine va_get (D := γ.1) (ci := 7) (v := .int (sm 0 14)) (C := RX7) (T := TX7) (N := 35) hx hb hU uin7 hown hK hP 0 rfl rfl 14 (by decide) (hU _ U983) (fun _ h9 => h9) rfl dX7_newValley_5 ?_
  refine lv_iload_n hx hb dX7_newValley_8 rfl (lv_at hl 1 rfl) ?_
  obtain ⟨g_1, hf⟩ := gd_of hf
  refine va_iast hx hb hK hP (hD _ _) hS 13 0 rfl rfl (inB_vp g_1) dX7_newValley_9 (fun H locs hP _ hS => ?_)
  obtain ⟨sm_2, e_sm_2, hf⟩ := nm_of hf
  replace hP : va_P γ.1 vwCl (wM γ am sm_2 sq) H := by rw [e_sm_2]; exact hP
  refine lv_aload_n hx hb dX7_newValley_10 rfl (lv_at hl 0 rfl) ?_
  refine va_get (D := γ.1) (ci := 7) (v := .ref (am 17)) (C := RX7) (T := TX7) (N := 35) hx hb hU uin7 hown hK hP 0 rfl rfl 16 (by decide) (hU _ U985) (fun _ h9 => h9) rfl dX7_newValley_11 ?_
  refine lv_aload_n hx hb dX7_newValley_14 rfl (lv_at hl 0 rfl) ?_
  refine va_get (D := γ.1) (ci := 7) (v := .int (sm_2 0 14)) (C := RX7) (T := TX7) (N := 35) hx hb hU uin7 hown hK hP 0 rfl rfl 14 (by decide) (hU _ U983) (fun _ h9 => h9) rfl dX7_newValley_15 ?_
  refine lv_iconst (v := 0) hx hb dX7_newValley_18 (by decide) ?_
  obtain ⟨g_3, hf⟩ := gd_of hf
  refine va_iast hx hb hK hP (hD _ _) hS 14 0 rfl rfl (inB_vp g_3) dX7_newValley_19 (fun H locs hP _ hS => ?_)
  obtain ⟨sm_4, e_sm_4, hf⟩ := nm_of hf
  replace hP : va_P γ.1 vwCl (wM γ am sm_4 sq) H := by rw [e_sm_4]; exact hP
  refine lv_aload_n hx hb dX7_newValley_20 rfl (lv_at hl 0 rfl) ?_
  refine lv_dup hx hb dX7_newValley_21 rfl ?_
  refine va_get (D := γ.1) (ci := 7) (v := .int (sm_4 0 14)) (C := RX7) (T := TX7) (N := 35) hx hb hU uin7 hown hK hP 0 rfl rfl 14 (by decide) (hU _ U983) (fun _ h9 => h9) rfl dX7_newValley_22 ?_
  refine lv_dup_x1 hx hb dX7_newValley_25 rfl rfl ?_
  refine lv_iconst (v := 1) hx hb dX7_newValley_26 (by decide) ?_
  refine lv_iadd hx hb dX7_newValley_27 ?_
  refine lv_topi (fun u_5 e_u_5 => ?_)
  replace hf := nm_y hf e_u_5
  refine va_put (D := γ.1) (ci := 7) (v := .int u_5) (ty := .int) (C := RX7) (T := TX7) (N := 35) hx hb hU uin7 tyX7 tyX7_ok nmX7 hown hK hP (hD _ _) hS 0 rfl rfl 14 (by decide) (hU _ U983) (fun _ h9 => h9) rfl (by decide +kernel) rfl rfl (Nat.le_of_ble_eq_true rfl) dX7_newValley_28 (fun H locs hP _ hS => ?_)
  obtain ⟨sm_6, e_sm_6, hf⟩ := nm_of hf
  replace hP : va_P γ.1 vwCl (wM γ am sm_6 sq) H := by rw [e_sm_6]; exact hP
  obtain ⟨rfl, rfl⟩ := rt2 hf
  exact kt_iret C0 hP hS dX7_newValley_31
set_option maxHeartbeats 4000000 in
set_option maxRecDepth 100000 in
theorem c_X7_valley (l : Launch) (γ : Gm) (am : Nat → Nat) {sm : GS} {sq : Nat → Int64} {x1 : Int32} {rv : Int32} {sm_z : GS} (hf : f_X7_valley sm x1 = some (rv, sm_z)) : Kt l γ yX7_valley (Cond.code yX7_valley cX7_valley 2 (some .int) :: U) 1 22 [.ref (am 0), .int x1] (wM γ am sm sq) (some (.int rv)) (wM γ am sm_z sq) := by
  refine Kt.of (by decide) rfl (Nat.le_of_ble_eq_true rfl) rfl ?_
  intro p e s m below meth c A ls C0 hP hD0 hS hl
  obtain ⟨hx, hb, hml, hown, hts, hr, hlocks, hK, hE, hA⟩ := id C0
  have hU : ∀ w ∈ U, w.before _ s = true := fun w h => hts w (List.mem_cons_of_mem _ h)
  have hD : ∀ (sm : GS) (sq : Nat → Int64), va_D A (wM γ am sm sq) := fun _ _ => hD0.fst rfl
  have hl : lv_has ls 2 [(0, .ref (am 0)), (1, .int x1)] := hl
  unfold f_X7_valley at hf
  refine lv_iload_n hx hb dX7_valley_0 rfl (lv_at hl 1 rfl) ?_
  refine lv_iconst (v := 0) hx hb dX7_valley_1 (by decide) ?_
  refine lv_sipush (v := 999) hx hb dX7_valley_2 (by decide) ?_
  obtain ⟨r_1, hg_2, hf⟩ := bd_of hf
  refine kt_SF (As := [.int x1, .int (0 : Int32), .int (999 : Int32)]) (rest := []) (st1 := [.int r_1]) (wc' := wM γ am sm sq) C0 (c_X7_within l γ hg_2) (cxS (nA := 3) hts goodU U1079 U1080 U91 U1081 (by decide +kernel) ⟨Nat.le_of_ble_eq_true rfl, Nat.le_of_ble_eq_true rfl⟩) hP (hD _ _) hS hl dX7_valley_5 foc_nil rfl (Nat.le_of_ble_eq_true rfl) rfl rfl (fun H locs hP hS => ?_)
  refine lv_if_ne (tgt := 18) hx hb dX7_valley_8 (by decide) (fun c_3 => ?_) (fun c_3 => ?_)
  · replace hf := ite_n c_3 hf
    refine lv_aload_n hx hb dX7_valley_18 rfl (lv_at hl 0 rfl) ?_
    refine va_get (D := γ.1) (ci := 7) (v := .int (sm 0 14)) (C := RX7) (T := TX7) (N := 35) hx hb hU uin7 hown hK hP 0 rfl rfl 14 (by decide) (hU _ U983) (fun _ h9 => h9) rfl dX7_valley_19 ?_
    refine lv_bipush (v := 8) hx hb dX7_valley_22 (by decide) ?_
    refine lv_icmp_ne (tgt := 36) hx hb dX7_valley_24 (by decide) (fun c_4 => ?_) (fun c_4 => ?_)
    · replace hf := ite_n c_4 hf
      refine lv_aload_n hx hb dX7_valley_36 rfl (lv_at hl 0 rfl) ?_
      refine lv_iload_n hx hb dX7_valley_37 rfl (lv_at hl 1 rfl) ?_
      obtain ⟨r_5, sm_6, hg_7, hf⟩ := bd2_of hf
      refine kt_V0 (As := [.int x1]) (rest := []) (st1 := [.int r_5]) (b := am 0) C0 (c_X7_newValley l γ am hg_7) (cxV (nA := 1) hts goodU U1200 U1202 U46 U91 U1203 (by decide +kernel) ⟨Nat.le_of_ble_eq_true rfl, Nat.le_of_ble_eq_true rfl⟩) hP (hD _ _) hS hl dX7_valley_38 0 7 rfl rfl rfl rfl (Nat.le_of_ble_eq_true rfl) rfl rfl (fun H locs hP hS => ?_)
      obtain ⟨rfl, rfl⟩ := rt2 hf
      exact kt_iret C0 hP hS dX7_valley_41
    · replace hf := ite_p c_4 hf
      refine lv_aload_n hx hb dX7_valley_27 rfl (lv_at hl 0 rfl) ?_
      refine lv_bipush (v := -7) hx hb dX7_valley_28 (by decide) ?_
      obtain ⟨r_8, sm_9, hg_10, hf⟩ := bd2_of hf
      refine kt_V0 (As := [.int (-7 : Int32)]) (rest := []) (st1 := [.int r_8]) (b := am 0) C0 (c_X7_no l γ am hg_10) (cxV (nA := 1) hts goodU U1082 U1084 U30 U91 U1085 (by decide +kernel) ⟨Nat.le_of_ble_eq_true rfl, Nat.le_of_ble_eq_true rfl⟩) hP (hD _ _) hS hl dX7_valley_30 0 7 rfl rfl rfl rfl (Nat.le_of_ble_eq_true rfl) rfl rfl (fun H locs hP hS => ?_)
      refine lv_goto (tgt := 41) hx hb dX7_valley_33 (by decide) ?_
      obtain ⟨rfl, rfl⟩ := rt2 hf
      exact kt_iret C0 hP hS dX7_valley_41
  · replace hf := ite_p c_3 hf
    refine lv_aload_n hx hb dX7_valley_11 rfl (lv_at hl 0 rfl) ?_
    refine lv_bipush (v := -6) hx hb dX7_valley_12 (by decide) ?_
    obtain ⟨r_11, sm_12, hg_13, hf⟩ := bd2_of hf
    refine kt_V0 (As := [.int (-6 : Int32)]) (rest := []) (st1 := [.int r_11]) (b := am 0) C0 (c_X7_no l γ am hg_13) (cxV (nA := 1) hts goodU U1082 U1084 U30 U91 U1085 (by decide +kernel) ⟨Nat.le_of_ble_eq_true rfl, Nat.le_of_ble_eq_true rfl⟩) hP (hD _ _) hS hl dX7_valley_14 0 7 rfl rfl rfl rfl (Nat.le_of_ble_eq_true rfl) rfl rfl (fun H locs hP hS => ?_)
    obtain ⟨rfl, rfl⟩ := rt2 hf
    exact kt_iret C0 hP hS dX7_valley_17
set_option maxHeartbeats 4000000 in
set_option maxRecDepth 100000 in
theorem c_X7_under (l : Launch) (γ : Gm) (am : Nat → Nat) {sm : GS} {sq : Nat → Int64} {x1 : Int32} {x2 : Int32} {x3 : Int32} {rv : Int32} {sm_z : GS} (hf : f_X7_under sm x1 x2 x3 = some (rv, sm_z)) : Kt l γ yX7_under (Cond.code yX7_under cX7_under 5 (some .int) :: U) 2 43 [.ref (am 0), .int x1, .int x2, .int x3] (wM γ am sm sq) (some (.int rv)) (wM γ am sm_z sq) := by
  refine Kt.of (by decide) rfl (Nat.le_of_ble_eq_true rfl) rfl ?_
  intro p e s m below meth c A ls C0 hP hD0 hS hl
  obtain ⟨hx, hb, hml, hown, hts, hr, hlocks, hK, hE, hA⟩ := id C0
  have hU : ∀ w ∈ U, w.before _ s = true := fun w h => hts w (List.mem_cons_of_mem _ h)
  have hD : ∀ (sm : GS) (sq : Nat → Int64), va_D A (wM γ am sm sq) := fun _ _ => hD0.fst rfl
  have hl : lv_has ls 5 [(0, .ref (am 0)), (1, .int x1), (2, .int x2), (3, .int x3)] := hl
  have J16 : ∀ (sm_4 : GS) (H : Heap) (locs : List Loc) (ls : Array Slot), f_X7_under_J16 sm_4 = some (rv, sm_z) → va_P γ.1 vwCl (wM γ am sm_4 sq) H → va_S A s.heap H locs → lv_has ls 5 [(0, .ref (am 0))] → W p l e (rmK 2 43) s m ([.ref (am 0), .int x1, .int x2, .int x3] : List Value).toArray below meth c H locs 0 0 (MQ below (KQ γ A (some (.int rv)) (wM γ am sm_z sq)) ([.ref (am 0), .int x1, .int x2, .int x3] : List Value).toArray s 0 0 A) (F0 m 16 ls []) := by
    intro sm_4 H locs ls hf hP hS hl
    unfold f_X7_under_J16 at hf
    refine lv_aload_n hx hb dX7_under_16 rfl (lv_at hl 0 rfl) ?_
    refine lv_iconst (v := -1) hx hb dX7_under_17 (by decide) ?_
    obtain ⟨r_5, sm_6, hg_7, hf⟩ := bd2_of hf
    refine kt_V0 (As := [.int (-1 : Int32)]) (rest := []) (st1 := [.int r_5]) (b := am 0) C0 (c_X7_no l γ am hg_7) (cxV (nA := 1) hts goodU U1082 U1084 U30 U91 U1085 (by decide +kernel) ⟨Nat.le_of_ble_eq_true rfl, Nat.le_of_ble_eq_true rfl⟩) hP (hD _ _) hS hl dX7_under_18 0 7 rfl rfl rfl rfl (Nat.le_of_ble_eq_true rfl) rfl rfl (fun H locs hP hS => ?_)
    obtain ⟨rfl, rfl⟩ := rt2 hf
    exact kt_iret C0 hP hS dX7_under_21
  have J70 : ∀ (x4_22 : Int32) (sm_23 : GS) (t1_24 : Int32) (t2_25 : Int32) (t3_26 : Int32) (H : Heap) (locs : List Loc) (ls : Array Slot), f_X7_under_J70 x4_22 sm_23 t1_24 t2_25 t3_26 = some (rv, sm_z) → va_P γ.1 vwCl (wM γ am sm_23 sq) H → va_S A s.heap H locs → lv_has ls 5 [(4, .int x4_22)] → W p l e (rmK 2 43) s m ([.ref (am 0), .int x1, .int x2, .int x3] : List Value).toArray below meth c H locs 0 0 (MQ below (KQ γ A (some (.int rv)) (wM γ am sm_z sq)) ([.ref (am 0), .int x1, .int x2, .int x3] : List Value).toArray s 0 0 A) (F0 m 70 ls [.int t3_26, .int t2_25, .int t1_24, .ref (am 17)]) := by
    intro x4_22 sm_23 t1_24 t2_25 t3_26 H locs ls hf hP hS hl
    unfold f_X7_under_J70 at hf
    refine lv_ior hx hb dX7_under_70 ?_
    refine lv_topi (fun u_27 e_u_27 => ?_)
    replace hf := nm_y hf e_u_27
    obtain ⟨g_28, hf⟩ := gd_of hf
    refine va_iast hx hb hK hP (hD _ _) hS 14 0 rfl rfl (inB_vp g_28) dX7_under_71 (fun H locs hP _ hS => ?_)
    obtain ⟨sm_29, e_sm_29, hf⟩ := nm_of hf
    replace hP : va_P γ.1 vwCl (wM γ am sm_29 sq) H := by rw [e_sm_29]; exact hP
    refine lv_iload hx hb dX7_under_72 (lv_at hl 0 rfl) ?_
    obtain ⟨rfl, rfl⟩ := rt2 hf
    exact kt_iret C0 hP hS dX7_under_74
  have J40 : ∀ (x1_15 : Int32) (x2_16 : Int32) (x3_17 : Int32) (sm_18 : GS) (t0_19 : Int32) (H : Heap) (locs : List Loc) (ls : Array Slot), f_X7_under_J40 x1_15 x2_16 x3_17 sm_18 t0_19 = some (rv, sm_z) → va_P γ.1 vwCl (wM γ am sm_18 sq) H → va_S A s.heap H locs → lv_has ls 5 [(0, .ref (am 0)), (1, .int x1_15), (2, .int x2_16), (3, .int x3_17)] → W p l e (rmK 2 43) s m ([.ref (am 0), .int x1, .int x2, .int x3] : List Value).toArray below meth c H locs 0 0 (MQ below (KQ γ A (some (.int rv)) (wM γ am sm_z sq)) ([.ref (am 0), .int x1, .int x2, .int x3] : List Value).toArray s 0 0 A) (F0 m 40 ls [.int t0_19]) := by
    intro x1_15 x2_16 x3_17 sm_18 t0_19 H locs ls hf hP hS hl
    unfold f_X7_under_J40 at hf
    refine lv_istore (lv' := [(4, .int t0_19), (0, .ref (am 0)), (1, .int x1_15), (2, .int x2_16), (3, .int x3_17)]) hx hb dX7_under_40 hl (by decide) rfl (fun ls hl => ?_)
    refine lv_aload_n hx hb dX7_under_42 rfl (lv_at hl 1 rfl) ?_
    refine va_get (D := γ.1) (ci := 7) (v := .ref (am 17)) (C := RX7) (T := TX7) (N := 35) hx hb hU uin7 hown hK hP 0 rfl rfl 16 (by decide) (hU _ U985) (fun _ h9 => h9) rfl dX7_under_43 ?_
    refine lv_iload_n hx hb dX7_under_46 rfl (lv_at hl 2 rfl) ?_
    refine lv_aload_n hx hb dX7_under_47 rfl (lv_at hl 1 rfl) ?_
    refine va_get (D := γ.1) (ci := 7) (v := .ref (am 17)) (C := RX7) (T := TX7) (N := 35) hx hb hU uin7 hown hK hP 0 rfl rfl 16 (by decide) (hU _ U985) (fun _ h9 => h9) rfl dX7_under_48 ?_
    refine lv_iload_n hx hb dX7_under_51 rfl (lv_at hl 2 rfl) ?_
    obtain ⟨g_20, hf⟩ := gd_of hf
    refine va_iald hx hb hK hP 14 0 rfl rfl (inB_vp g_20) dX7_under_52 ?_
    refine lv_iconst (v := 1) hx hb dX7_under_53 (by decide) ?_
    refine lv_iload_n hx hb dX7_under_54 rfl (lv_at hl 3 rfl) ?_
    refine lv_ishl hx hb dX7_under_55 ?_
    refine lv_iconst (v := -1) hx hb dX7_under_56 (by decide) ?_
    refine lv_ixor hx hb dX7_under_57 ?_
    refine lv_iand hx hb dX7_under_58 ?_
    refine lv_iload_n hx hb dX7_under_59 rfl (lv_at hl 4 rfl) ?_
    refine lv_if_eq (tgt := 69) hx hb dX7_under_60 (by decide) (fun c_21 => ?_) (fun c_21 => ?_)
    · replace hf := ite_p c_21 hf
      refine lv_iconst (v := 0) hx hb dX7_under_69 (by decide) ?_
      exact J70 t0_19 sm_18 x1_15 ((sm_18 17 x1_15.toNatClampNeg) &&& (((1 : Int32) <<< (x2_16 &&& 31)) ^^^ (-1 : Int32))) (0 : Int32) _ _ _ hf hP hS (lv_sub hl [0] rfl)
    · replace hf := ite_n c_21 hf
      refine lv_iconst (v := 1) hx hb dX7_under_63 (by decide) ?_
      refine lv_iload_n hx hb dX7_under_64 rfl (lv_at hl 3 rfl) ?_
      refine lv_ishl hx hb dX7_under_65 ?_
      refine lv_goto (tgt := 70) hx hb dX7_under_66 (by decide) ?_
      exact J70 t0_19 sm_18 x1_15 ((sm_18 17 x1_15.toNatClampNeg) &&& (((1 : Int32) <<< (x2_16 &&& 31)) ^^^ (-1 : Int32))) ((1 : Int32) <<< (x2_16 &&& 31)) _ _ _ hf hP hS (lv_sub hl [0] rfl)
  unfold f_X7_under at hf
  refine lv_aload_n hx hb dX7_under_0 rfl (lv_at hl 0 rfl) ?_
  refine lv_iload_n hx hb dX7_under_1 rfl (lv_at hl 1 rfl) ?_
  obtain ⟨r_1, hg_2, hf⟩ := bd_of hf
  refine kt_V0 (As := [.int x1]) (rest := []) (st1 := [.int r_1]) (b := am 0) C0 (c_X7_isValley l γ am hg_2) (cxV (nA := 1) hts goodU U1208 U1210 U47 U91 U1211 (by decide +kernel) ⟨Nat.le_of_ble_eq_true rfl, Nat.le_of_ble_eq_true rfl⟩) hP (hD _ _) hS hl dX7_under_2 0 7 rfl rfl rfl rfl (Nat.le_of_ble_eq_true rfl) rfl rfl (fun H locs hP hS => ?_)
  refine lv_if_eq (tgt := 16) hx hb dX7_under_5 (by decide) (fun c_3 => ?_) (fun c_3 => ?_)
  · replace hf := ite_p c_3 hf
    exact J16 sm _ _ _ hf hP hS (lv_sub hl [0] rfl)
  · replace hf := ite_n c_3 hf
    refine lv_aload_n hx hb dX7_under_8 rfl (lv_at hl 0 rfl) ?_
    refine lv_iload_n hx hb dX7_under_9 rfl (lv_at hl 2 rfl) ?_
    obtain ⟨r_8, hg_9, hf⟩ := bd_of hf
    refine kt_V0 (As := [.int x2]) (rest := []) (st1 := [.int r_8]) (b := am 0) C0 (c_X7_isPeak l γ am hg_9) (cxV (nA := 1) hts goodU U1110 U1112 U33 U91 U1113 (by decide +kernel) ⟨Nat.le_of_ble_eq_true rfl, Nat.le_of_ble_eq_true rfl⟩) hP (hD _ _) hS hl dX7_under_10 0 7 rfl rfl rfl rfl (Nat.le_of_ble_eq_true rfl) rfl rfl (fun H locs hP hS => ?_)
    refine lv_if_ne (tgt := 22) hx hb dX7_under_13 (by decide) (fun c_10 => ?_) (fun c_10 => ?_)
    · replace hf := ite_n c_10 hf
      refine lv_aload_n hx hb dX7_under_22 rfl (lv_at hl 0 rfl) ?_
      refine va_get (D := γ.1) (ci := 7) (v := .ref (am 17)) (C := RX7) (T := TX7) (N := 35) hx hb hU uin7 hown hK hP 0 rfl rfl 16 (by decide) (hU _ U985) (fun _ h9 => h9) rfl dX7_under_23 ?_
      refine lv_iload_n hx hb dX7_under_26 rfl (lv_at hl 1 rfl) ?_
      obtain ⟨g_11, hf⟩ := gd_of hf
      refine va_iald hx hb hK hP 14 0 rfl rfl (inB_vp g_11) dX7_under_27 ?_
      refine lv_iload_n hx hb dX7_under_28 rfl (lv_at hl 2 rfl) ?_
      obtain ⟨r_12, hg_13, hf⟩ := bd_of hf
      refine kt_SF (As := [.int (sm 17 x1.toNatClampNeg), .int x2]) (rest := []) (st1 := [.int r_12]) (wc' := wM γ am sm sq) C0 (c_X7_has l γ hg_13) (cxS (nA := 2) hts goodU U1140 U1141 U91 U1142 (by decide +kernel) ⟨Nat.le_of_ble_eq_true rfl, Nat.le_of_ble_eq_true rfl⟩) hP (hD _ _) hS hl dX7_under_29 foc_nil rfl (Nat.le_of_ble_eq_true rfl) rfl rfl (fun H locs hP hS => ?_)
      refine lv_if_eq (tgt := 39) hx hb dX7_under_32 (by decide) (fun c_14 => ?_) (fun c_14 => ?_)
      · replace hf := ite_p c_14 hf
        refine lv_iconst (v := 0) hx hb dX7_under_39 (by decide) ?_
        exact J40 x1 x2 x3 sm (0 : Int32) _ _ _ hf hP hS (lv_sub hl [0, 1, 2, 3] rfl)
      · replace hf := ite_n c_14 hf
        refine lv_iconst (v := 1) hx hb dX7_under_35 (by decide) ?_
        refine lv_goto (tgt := 40) hx hb dX7_under_36 (by decide) ?_
        exact J40 x1 x2 x3 sm (1 : Int32) _ _ _ hf hP hS (lv_sub hl [0, 1, 2, 3] rfl)
    · replace hf := ite_p c_10 hf
      exact J16 sm _ _ _ hf hP hS (lv_sub hl [0] rfl)
set_option maxHeartbeats 4000000 in
set_option maxRecDepth 100000 in
theorem c_X7_peakOf (l : Launch) (γ : Gm) (am : Nat → Nat) {sm : GS} {sq : Nat → Int64} {x1 : Int32} {x2 : Int32} {rv : Int32} {sm_z : GS} (hf : f_X7_peakOf sm x1 x2 = some (rv, sm_z)) : Kt l γ yX7_peakOf (Cond.code yX7_peakOf cX7_peakOf 5 (some .int) :: U) 2 43 [.ref (am 0), .int x1, .int x2] (wM γ am sm sq) (some (.int rv)) (wM γ am sm_z sq) := by
  refine Kt.of (by decide) rfl (Nat.le_of_ble_eq_true rfl) rfl ?_
  intro p e s m below meth c A ls C0 hP hD0 hS hl
  obtain ⟨hx, hb, hml, hown, hts, hr, hlocks, hK, hE, hA⟩ := id C0
  have hU : ∀ w ∈ U, w.before _ s = true := fun w h => hts w (List.mem_cons_of_mem _ h)
  have hD : ∀ (sm : GS) (sq : Nat → Int64), va_D A (wM γ am sm sq) := fun _ _ => hD0.fst rfl
  have hl : lv_has ls 5 [(0, .ref (am 0)), (1, .int x1), (2, .int x2)] := hl
  have L105 : ∀ (x1_17 : Int32) (sm_20 : GS) (n : Nat) (x3_18 : Int32) (x4_19 : Int32) (H : Heap) (locs : List Loc) (ls : Array Slot), f_X7_peakOf_L105 x1_17 sm_20 n x3_18 x4_19 = some (rv, sm_z) → va_P γ.1 vwCl (wM γ am sm_20 sq) H → va_S A s.heap H locs → lv_has ls 5 [(0, .ref (am 0)), (1, .int x1_17), (3, .int x3_18), (4, .int x4_19)] → W p l e (rmK 2 43) s m ([.ref (am 0), .int x1, .int x2] : List Value).toArray below meth c H locs 0 0 (MQ below (KQ γ A (some (.int rv)) (wM γ am sm_z sq)) ([.ref (am 0), .int x1, .int x2] : List Value).toArray s 0 0 A) (F0 m 105 ls []) := by
    intro x1_17 sm_20
    intro n
    induction n with
    | zero =>
      intro x3_18 x4_19 H locs ls hf
      have hf : none = some _ := hf
      cases hf
    | succ n ih =>
      intro x3_18 x4_19 H locs ls hf hP hS hl
      rw [f_X7_peakOf_L105.eq_2] at hf
      refine lv_iload hx hb dX7_peakOf_105 (lv_at hl 3 rfl) ?_
      refine lv_aload_n hx hb dX7_peakOf_107 rfl (lv_at hl 0 rfl) ?_
      refine va_get (D := γ.1) (ci := 7) (v := .int (sm_20 0 3)) (C := RX7) (T := TX7) (N := 35) hx hb hU uin7 hown hK hP 0 rfl rfl 3 (by decide) (hU _ U972) (fun _ h9 => h9) rfl dX7_peakOf_108 ?_
      refine lv_icmp_ge (tgt := 137) hx hb dX7_peakOf_111 (by decide) (fun c_21 => ?_) (fun c_21 => ?_)
      · replace hf := ite_p c_21 hf
        refine lv_iload_n hx hb dX7_peakOf_137 rfl (lv_at hl 2 rfl) ?_
        obtain ⟨rfl, rfl⟩ := rt2 hf
        exact kt_iret C0 hP hS dX7_peakOf_138
      · replace hf := ite_n c_21 hf
        refine lv_aload_n hx hb dX7_peakOf_114 rfl (lv_at hl 0 rfl) ?_
        refine lv_iload_n hx hb dX7_peakOf_115 rfl (lv_at hl 1 rfl) ?_
        refine lv_iload hx hb dX7_peakOf_116 (lv_at hl 3 rfl) ?_
        obtain ⟨r_22, hg_23, hf⟩ := bd_of hf
        refine kt_V0 (As := [.int x1_17, .int x4_19]) (rest := []) (st1 := [.int r_22]) (b := am 0) C0 (c_X7_sees l γ am hg_23) (cxV (nA := 2) hts goodU U1143 U1145 U37 U91 U1146 (by decide +kernel) ⟨Nat.le_of_ble_eq_true rfl, Nat.le_of_ble_eq_true rfl⟩) hP (hD _ _) hS hl dX7_peakOf_118 0 7 rfl rfl rfl rfl (Nat.le_of_ble_eq_true rfl) rfl rfl (fun H locs hP hS => ?_)
        refine lv_if_eq (tgt := 131) hx hb dX7_peakOf_121 (by decide) (fun c_24 => ?_) (fun c_24 => ?_)
        · replace hf := ite_p c_24 hf
          obtain ⟨x4_25, e_x4_25⟩ : ∃ y : Int32, y = x4_19 + (1 : Int32) := ⟨_, rfl⟩
          replace hf := nm_y hf e_x4_25
          refine lv_iinc (v := x4_25) (lv' := [(4, .int x4_25), (0, .ref (am 0)), (1, .int x1_17), (3, .int x3_18)]) hx hb dX7_peakOf_131 hl (k := 3) rfl (by rw [e_x4_25]; rfl) (by decide) rfl (fun ls hl => ?_)
          refine lv_goto (tgt := 105) hx hb dX7_peakOf_134 (by decide) ?_
          exact ih x3_18 x4_25 _ _ _ hf hP hS (lv_sub hl [1, 2, 3, 0] rfl)
        · replace hf := ite_n c_24 hf
          refine lv_iload_n hx hb dX7_peakOf_124 rfl (lv_at hl 2 rfl) ?_
          refine lv_iconst (v := 1) hx hb dX7_peakOf_125 (by decide) ?_
          refine lv_iload hx hb dX7_peakOf_126 (lv_at hl 3 rfl) ?_
          refine lv_ishl hx hb dX7_peakOf_128 ?_
          refine lv_ior hx hb dX7_peakOf_129 ?_
          refine lv_topi (fun u_26 e_u_26 => ?_)
          replace hf := nm_y hf e_u_26
          refine lv_istore_n (lv' := [(3, .int u_26), (0, .ref (am 0)), (1, .int x1_17), (4, .int x4_19)]) hx hb dX7_peakOf_130 rfl hl (by decide) rfl (fun ls hl => ?_)
          obtain ⟨x4_27, e_x4_27⟩ : ∃ y : Int32, y = x4_19 + (1 : Int32) := ⟨_, rfl⟩
          replace hf := nm_y hf e_x4_27
          refine lv_iinc (v := x4_27) (lv' := [(4, .int x4_27), (3, .int u_26), (0, .ref (am 0)), (1, .int x1_17)]) hx hb dX7_peakOf_131 hl (k := 3) rfl (by rw [e_x4_27]; rfl) (by decide) rfl (fun ls hl => ?_)
          refine lv_goto (tgt := 105) hx hb dX7_peakOf_134 (by decide) ?_
          exact ih u_26 x4_27 _ _ _ hf hP hS (lv_sub hl [2, 3, 1, 0] rfl)
  unfold f_X7_peakOf at hf
  refine lv_aload_n hx hb dX7_peakOf_0 rfl (lv_at hl 0 rfl) ?_
  refine lv_iload_n hx hb dX7_peakOf_1 rfl (lv_at hl 1 rfl) ?_
  obtain ⟨r_1, hg_2, hf⟩ := bd_of hf
  refine kt_V0 (As := [.int x1]) (rest := []) (st1 := [.int r_1]) (b := am 0) C0 (c_X7_isPeak l γ am hg_2) (cxV (nA := 1) hts goodU U1110 U1112 U33 U91 U1113 (by decide +kernel) ⟨Nat.le_of_ble_eq_true rfl, Nat.le_of_ble_eq_true rfl⟩) hP (hD _ _) hS hl dX7_peakOf_2 0 7 rfl rfl rfl rfl (Nat.le_of_ble_eq_true rfl) rfl rfl (fun H locs hP hS => ?_)
  refine lv_if_ne (tgt := 15) hx hb dX7_peakOf_5 (by decide) (fun c_3 => ?_) (fun c_3 => ?_)
  · replace hf := ite_n c_3 hf
    refine lv_iconst (v := 0) hx hb dX7_peakOf_15 (by decide) ?_
    refine lv_istore_n (lv' := [(3, .int (0 : Int32)), (0, .ref (am 0)), (1, .int x1), (2, .int x2)]) hx hb dX7_peakOf_16 rfl hl (by decide) rfl (fun ls hl => ?_)
    refine lv_iload_n hx hb dX7_peakOf_17 rfl (lv_at hl 3 rfl) ?_
    by_cases c_4 : x2 = (0 : Int32)
    · replace hf := ite_p c_4 hf
      refine lv_tableIn (off := 42) (tgt := 60) hx hb dX7_peakOf_18 (by rw [c_4]; decide) (by rw [c_4]; decide) (by rw [c_4]; rfl) (by decide) ?_
      refine lv_aload_n hx hb dX7_peakOf_60 rfl (lv_at hl 1 rfl) ?_
      refine va_get (D := γ.1) (ci := 7) (v := .ref (am 5)) (C := RX7) (T := TX7) (N := 35) hx hb hU uin7 hown hK hP 0 rfl rfl 4 (by decide) (hU _ U973) (fun _ h9 => h9) rfl dX7_peakOf_61 ?_
      refine lv_iload_n hx hb dX7_peakOf_64 rfl (lv_at hl 2 rfl) ?_
      obtain ⟨g_5, hf⟩ := gd_of hf
      refine va_iald hx hb hK hP 4 0 rfl rfl (inB_vp g_5) dX7_peakOf_65 ?_
      obtain ⟨rfl, rfl⟩ := rt2 hf
      exact kt_iret C0 hP hS dX7_peakOf_66
    · replace hf := ite_n c_4 hf
      by_cases c_6 : x2 = (1 : Int32)
      · replace hf := ite_p c_6 hf
        refine lv_tableIn (off := 49) (tgt := 67) hx hb dX7_peakOf_18 (by rw [c_6]; decide) (by rw [c_6]; decide) (by rw [c_6]; rfl) (by decide) ?_
        refine lv_aload_n hx hb dX7_peakOf_67 rfl (lv_at hl 1 rfl) ?_
        refine va_get (D := γ.1) (ci := 7) (v := .ref (am 6)) (C := RX7) (T := TX7) (N := 35) hx hb hU uin7 hown hK hP 0 rfl rfl 5 (by decide) (hU _ U974) (fun _ h9 => h9) rfl dX7_peakOf_68 ?_
        refine lv_iload_n hx hb dX7_peakOf_71 rfl (lv_at hl 2 rfl) ?_
        obtain ⟨g_7, hf⟩ := gd_of hf
        refine va_iald hx hb hK hP 5 0 rfl rfl (inB_vp g_7) dX7_peakOf_72 ?_
        obtain ⟨rfl, rfl⟩ := rt2 hf
        exact kt_iret C0 hP hS dX7_peakOf_73
      · replace hf := ite_n c_6 hf
        by_cases c_8 : x2 = (2 : Int32)
        · replace hf := ite_p c_8 hf
          refine lv_tableIn (off := 56) (tgt := 74) hx hb dX7_peakOf_18 (by rw [c_8]; decide) (by rw [c_8]; decide) (by rw [c_8]; rfl) (by decide) ?_
          refine lv_aload_n hx hb dX7_peakOf_74 rfl (lv_at hl 1 rfl) ?_
          refine va_get (D := γ.1) (ci := 7) (v := .ref (am 7)) (C := RX7) (T := TX7) (N := 35) hx hb hU uin7 hown hK hP 0 rfl rfl 6 (by decide) (hU _ U975) (fun _ h9 => h9) rfl dX7_peakOf_75 ?_
          refine lv_iload_n hx hb dX7_peakOf_78 rfl (lv_at hl 2 rfl) ?_
          obtain ⟨g_9, hf⟩ := gd_of hf
          refine va_iald hx hb hK hP 6 0 rfl rfl (inB_vp g_9) dX7_peakOf_79 ?_
          obtain ⟨rfl, rfl⟩ := rt2 hf
          exact kt_iret C0 hP hS dX7_peakOf_80
        · replace hf := ite_n c_8 hf
          by_cases c_10 : x2 = (3 : Int32)
          · replace hf := ite_p c_10 hf
            refine lv_tableIn (off := 63) (tgt := 81) hx hb dX7_peakOf_18 (by rw [c_10]; decide) (by rw [c_10]; decide) (by rw [c_10]; rfl) (by decide) ?_
            refine lv_aload_n hx hb dX7_peakOf_81 rfl (lv_at hl 1 rfl) ?_
            refine va_get (D := γ.1) (ci := 7) (v := .ref (am 8)) (C := RX7) (T := TX7) (N := 35) hx hb hU uin7 hown hK hP 0 rfl rfl 7 (by decide) (hU _ U976) (fun _ h9 => h9) rfl dX7_peakOf_82 ?_
            refine lv_iload_n hx hb dX7_peakOf_85 rfl (lv_at hl 2 rfl) ?_
            obtain ⟨g_11, hf⟩ := gd_of hf
            refine va_iald hx hb hK hP 7 0 rfl rfl (inB_vp g_11) dX7_peakOf_86 ?_
            obtain ⟨rfl, rfl⟩ := rt2 hf
            exact kt_iret C0 hP hS dX7_peakOf_87
          · replace hf := ite_n c_10 hf
            by_cases c_12 : x2 = (4 : Int32)
            · replace hf := ite_p c_12 hf
              refine lv_tableIn (off := 70) (tgt := 88) hx hb dX7_peakOf_18 (by rw [c_12]; decide) (by rw [c_12]; decide) (by rw [c_12]; rfl) (by decide) ?_
              refine lv_aload_n hx hb dX7_peakOf_88 rfl (lv_at hl 1 rfl) ?_
              refine va_get (D := γ.1) (ci := 7) (v := .ref (am 9)) (C := RX7) (T := TX7) (N := 35) hx hb hU uin7 hown hK hP 0 rfl rfl 8 (by decide) (hU _ U977) (fun _ h9 => h9) rfl dX7_peakOf_89 ?_
              refine lv_iload_n hx hb dX7_peakOf_92 rfl (lv_at hl 2 rfl) ?_
              obtain ⟨g_13, hf⟩ := gd_of hf
              refine va_iald hx hb hK hP 8 0 rfl rfl (inB_vp g_13) dX7_peakOf_93 ?_
              obtain ⟨rfl, rfl⟩ := rt2 hf
              exact kt_iret C0 hP hS dX7_peakOf_94
            · replace hf := ite_n c_12 hf
              by_cases c_14 : x2 = (5 : Int32)
              · replace hf := ite_p c_14 hf
                refine lv_tableIn (off := 77) (tgt := 95) hx hb dX7_peakOf_18 (by rw [c_14]; decide) (by rw [c_14]; decide) (by rw [c_14]; rfl) (by decide) ?_
                refine lv_aload_n hx hb dX7_peakOf_95 rfl (lv_at hl 1 rfl) ?_
                refine va_get (D := γ.1) (ci := 7) (v := .ref (am 10)) (C := RX7) (T := TX7) (N := 35) hx hb hU uin7 hown hK hP 0 rfl rfl 9 (by decide) (hU _ U978) (fun _ h9 => h9) rfl dX7_peakOf_96 ?_
                refine lv_iload_n hx hb dX7_peakOf_99 rfl (lv_at hl 2 rfl) ?_
                obtain ⟨g_15, hf⟩ := gd_of hf
                refine va_iald hx hb hK hP 9 0 rfl rfl (inB_vp g_15) dX7_peakOf_100 ?_
                obtain ⟨rfl, rfl⟩ := rt2 hf
                exact kt_iret C0 hP hS dX7_peakOf_101
              · replace hf := ite_n c_14 hf
                by_cases c_16 : x2 = (6 : Int32)
                · replace hf := ite_p c_16 hf
                  refine lv_tableIn (off := 84) (tgt := 102) hx hb dX7_peakOf_18 (by rw [c_16]; decide) (by rw [c_16]; decide) (by rw [c_16]; rfl) (by decide) ?_
                  refine lv_iconst (v := 0) hx hb dX7_peakOf_102 (by decide) ?_
                  refine lv_istore (lv' := [(4, .int (0 : Int32)), (3, .int (0 : Int32)), (0, .ref (am 0)), (1, .int x1), (2, .int x2)]) hx hb dX7_peakOf_103 hl (by decide) rfl (fun ls hl => ?_)
                  exact L105 x1 sm FU (0 : Int32) (0 : Int32) _ _ _ hf hP hS (lv_sub hl [2, 3, 1, 0] rfl)
                · replace hf := ite_n c_16 hf
                  refine lv_tableOut (tgt := 139) hx hb dX7_peakOf_18 (by have := lv_neT c_4 (a := 0) (by decide); have := lv_neT c_6 (a := 1) (by decide); have := lv_neT c_8 (a := 2) (by decide); have := lv_neT c_10 (a := 3) (by decide); have := lv_neT c_12 (a := 4) (by decide); have := lv_neT c_14 (a := 5) (by decide); have := lv_neT c_16 (a := 6) (by decide); omega) (by decide) ?_
                  refine lv_aload_n hx hb dX7_peakOf_139 rfl (lv_at hl 1 rfl) ?_
                  refine lv_bipush (v := -5) hx hb dX7_peakOf_140 (by decide) ?_
                  obtain ⟨r_28, sm_29, hg_30, hf⟩ := bd2_of hf
                  refine kt_V0 (As := [.int (-5 : Int32)]) (rest := []) (st1 := [.int r_28]) (b := am 0) C0 (c_X7_no l γ am hg_30) (cxV (nA := 1) hts goodU U1082 U1084 U30 U91 U1085 (by decide +kernel) ⟨Nat.le_of_ble_eq_true rfl, Nat.le_of_ble_eq_true rfl⟩) hP (hD _ _) hS hl dX7_peakOf_142 0 7 rfl rfl rfl rfl (Nat.le_of_ble_eq_true rfl) rfl rfl (fun H locs hP hS => ?_)
                  obtain ⟨rfl, rfl⟩ := rt2 hf
                  exact kt_iret C0 hP hS dX7_peakOf_145
  · replace hf := ite_p c_3 hf
    refine lv_aload_n hx hb dX7_peakOf_8 rfl (lv_at hl 0 rfl) ?_
    refine lv_bipush (v := -5) hx hb dX7_peakOf_9 (by decide) ?_
    obtain ⟨r_31, sm_32, hg_33, hf⟩ := bd2_of hf
    refine kt_V0 (As := [.int (-5 : Int32)]) (rest := []) (st1 := [.int r_31]) (b := am 0) C0 (c_X7_no l γ am hg_33) (cxV (nA := 1) hts goodU U1082 U1084 U30 U91 U1085 (by decide +kernel) ⟨Nat.le_of_ble_eq_true rfl, Nat.le_of_ble_eq_true rfl⟩) hP (hD _ _) hS hl dX7_peakOf_11 0 7 rfl rfl rfl rfl (Nat.le_of_ble_eq_true rfl) rfl rfl (fun H locs hP hS => ?_)
    obtain ⟨rfl, rfl⟩ := rt2 hf
    exact kt_iret C0 hP hS dX7_peakOf_14
set_option maxHeartbeats 4000000 in
set_option maxRecDepth 100000 in
theorem c_X7_gives (l : Launch) (γ : Gm) (am : Nat → Nat) {sm : GS} {sq : Nat → Int64} {x1 : Int32} {x2 : Int32} {rv : Int32} (hf : f_X7_gives sm x1 x2 = some rv) : Kt l γ yX7_gives (Cond.code yX7_gives cX7_gives 3 (some .int) :: U) 0 0 [.ref (am 0), .int x1, .int x2] (wM γ am sm sq) (some (.int rv)) (wM γ am sm sq) := by
  refine Kt.of (by decide) rfl (Nat.le_of_ble_eq_true rfl) rfl ?_
  intro p e s m below meth c A ls C0 hP hD0 hS hl
  obtain ⟨hx, hb, hml, hown, hts, hr, hlocks, hK, hE, hA⟩ := id C0
  have hU : ∀ w ∈ U, w.before _ s = true := fun w h => hts w (List.mem_cons_of_mem _ h)
  have hD : ∀ (sm : GS) (sq : Nat → Int64), va_D A (wM γ am sm sq) := fun _ _ => hD0.fst rfl
  have hl : lv_has ls 3 [(0, .ref (am 0)), (1, .int x1), (2, .int x2)] := hl
  unfold f_X7_gives at hf
  refine lv_aload_n hx hb dX7_gives_0 rfl (lv_at hl 0 rfl) ?_
  refine va_get (D := γ.1) (ci := 7) (v := .ref (am 17)) (C := RX7) (T := TX7) (N := 35) hx hb hU uin7 hown hK hP 0 rfl rfl 16 (by decide) (hU _ U985) (fun _ h9 => h9) rfl dX7_gives_1 ?_
  refine lv_iload_n hx hb dX7_gives_4 rfl (lv_at hl 1 rfl) ?_
  obtain ⟨g_1, hf⟩ := gd_of hf
  refine va_iald hx hb hK hP 14 0 rfl rfl (inB_vp g_1) dX7_gives_5 ?_
  refine lv_iload_n hx hb dX7_gives_6 rfl (lv_at hl 2 rfl) ?_
  refine lv_iand hx hb dX7_gives_7 ?_
  refine lv_if_ne (tgt := 20) hx hb dX7_gives_8 (by decide) (fun c_2 => ?_) (fun c_2 => ?_)
  · replace hf := ite_n c_2 hf
    refine lv_iconst (v := 0) hx hb dX7_gives_20 (by decide) ?_
    obtain rfl := Option.some.inj hf
    exact kt_iret C0 hP hS dX7_gives_21
  · replace hf := ite_p c_2 hf
    refine lv_aload_n hx hb dX7_gives_11 rfl (lv_at hl 0 rfl) ?_
    refine va_get (D := γ.1) (ci := 7) (v := .ref (am 16)) (C := RX7) (T := TX7) (N := 35) hx hb hU uin7 hown hK hP 0 rfl rfl 15 (by decide) (hU _ U984) (fun _ h9 => h9) rfl dX7_gives_12 ?_
    refine lv_iload_n hx hb dX7_gives_15 rfl (lv_at hl 1 rfl) ?_
    obtain ⟨g_3, hf⟩ := gd_of hf
    refine va_iald hx hb hK hP 13 0 rfl rfl (inB_vp g_3) dX7_gives_16 ?_
    refine lv_goto (tgt := 21) hx hb dX7_gives_17 (by decide) ?_
    obtain rfl := Option.some.inj hf
    exact kt_iret C0 hP hS dX7_gives_21
set_option maxHeartbeats 4000000 in
set_option maxRecDepth 100000 in
theorem c_X7_valleyOf (l : Launch) (γ : Gm) (am : Nat → Nat) {sm : GS} {sq : Nat → Int64} {x1 : Int32} {x2 : Int32} {rv : Int32} {sm_z : GS} (hf : f_X7_valleyOf sm x1 x2 = some (rv, sm_z)) : Kt l γ yX7_valleyOf (Cond.code yX7_valleyOf cX7_valleyOf 3 (some .int) :: U) 3 69 [.ref (am 0), .int x1, .int x2] (wM γ am sm sq) (some (.int rv)) (wM γ am sm_z sq) := by
  refine Kt.of (by decide) rfl (Nat.le_of_ble_eq_true rfl) rfl ?_
  intro p e s m below meth c A ls C0 hP hD0 hS hl
  obtain ⟨hx, hb, hml, hown, hts, hr, hlocks, hK, hE, hA⟩ := id C0
  have hU : ∀ w ∈ U, w.before _ s = true := fun w h => hts w (List.mem_cons_of_mem _ h)
  have hD : ∀ (sm : GS) (sq : Nat → Int64), va_D A (wM γ am sm sq) := fun _ _ => hD0.fst rfl
  have hl : lv_has ls 3 [(0, .ref (am 0)), (1, .int x1), (2, .int x2)] := hl
  unfold f_X7_valleyOf at hf
  refine lv_aload_n hx hb dX7_valleyOf_0 rfl (lv_at hl 0 rfl) ?_
  refine lv_iload_n hx hb dX7_valleyOf_1 rfl (lv_at hl 1 rfl) ?_
  obtain ⟨r_1, hg_2, hf⟩ := bd_of hf
  refine kt_V0 (As := [.int x1]) (rest := []) (st1 := [.int r_1]) (b := am 0) C0 (c_X7_isValley l γ am hg_2) (cxV (nA := 1) hts goodU U1208 U1210 U47 U91 U1211 (by decide +kernel) ⟨Nat.le_of_ble_eq_true rfl, Nat.le_of_ble_eq_true rfl⟩) hP (hD _ _) hS hl dX7_valleyOf_2 0 7 rfl rfl rfl rfl (Nat.le_of_ble_eq_true rfl) rfl rfl (fun H locs hP hS => ?_)
  refine lv_if_ne (tgt := 15) hx hb dX7_valleyOf_5 (by decide) (fun c_3 => ?_) (fun c_3 => ?_)
  · replace hf := ite_n c_3 hf
    refine lv_iload_n hx hb dX7_valleyOf_15 rfl (lv_at hl 2 rfl) ?_
    by_cases c_4 : x2 = (0 : Int32)
    · replace hf := ite_p c_4 hf
      refine lv_tableIn (off := 28) (tgt := 44) hx hb dX7_valleyOf_16 (by rw [c_4]; decide) (by rw [c_4]; decide) (by rw [c_4]; rfl) (by decide) ?_
      refine lv_aload_n hx hb dX7_valleyOf_44 rfl (lv_at hl 0 rfl) ?_
      refine va_get (D := γ.1) (ci := 7) (v := .ref (am 16)) (C := RX7) (T := TX7) (N := 35) hx hb hU uin7 hown hK hP 0 rfl rfl 15 (by decide) (hU _ U984) (fun _ h9 => h9) rfl dX7_valleyOf_45 ?_
      refine lv_iload_n hx hb dX7_valleyOf_48 rfl (lv_at hl 1 rfl) ?_
      obtain ⟨g_5, hf⟩ := gd_of hf
      refine va_iald hx hb hK hP 13 0 rfl rfl (inB_vp g_5) dX7_valleyOf_49 ?_
      obtain ⟨rfl, rfl⟩ := rt2 hf
      exact kt_iret C0 hP hS dX7_valleyOf_50
    · replace hf := ite_n c_4 hf
      by_cases c_6 : x2 = (1 : Int32)
      · replace hf := ite_p c_6 hf
        refine lv_tableIn (off := 35) (tgt := 51) hx hb dX7_valleyOf_16 (by rw [c_6]; decide) (by rw [c_6]; decide) (by rw [c_6]; rfl) (by decide) ?_
        refine lv_aload_n hx hb dX7_valleyOf_51 rfl (lv_at hl 0 rfl) ?_
        refine va_get (D := γ.1) (ci := 7) (v := .ref (am 17)) (C := RX7) (T := TX7) (N := 35) hx hb hU uin7 hown hK hP 0 rfl rfl 16 (by decide) (hU _ U985) (fun _ h9 => h9) rfl dX7_valleyOf_52 ?_
        refine lv_iload_n hx hb dX7_valleyOf_55 rfl (lv_at hl 1 rfl) ?_
        obtain ⟨g_7, hf⟩ := gd_of hf
        refine va_iald hx hb hK hP 14 0 rfl rfl (inB_vp g_7) dX7_valleyOf_56 ?_
        obtain ⟨rfl, rfl⟩ := rt2 hf
        exact kt_iret C0 hP hS dX7_valleyOf_57
      · replace hf := ite_n c_6 hf
        by_cases c_8 : x2 = (2 : Int32)
        · replace hf := ite_p c_8 hf
          refine lv_tableIn (off := 42) (tgt := 58) hx hb dX7_valleyOf_16 (by rw [c_8]; decide) (by rw [c_8]; decide) (by rw [c_8]; rfl) (by decide) ?_
          refine lv_aload_n hx hb dX7_valleyOf_58 rfl (lv_at hl 0 rfl) ?_
          refine lv_iload_n hx hb dX7_valleyOf_59 rfl (lv_at hl 1 rfl) ?_
          refine lv_aload_n hx hb dX7_valleyOf_60 rfl (lv_at hl 0 rfl) ?_
          obtain ⟨r_9, hg_10, hf⟩ := bd_of hf
          refine kt_V0 (As := []) (rest := [.int x1, .ref (am 0)]) (st1 := [.int r_9, .int x1, .ref (am 0)]) (b := am 0) C0 (c_X7_blacks l γ am hg_10) (cxV (nA := 0) hts goodU U1128 U1130 U34 U91 U1131 (by decide +kernel) ⟨Nat.le_of_ble_eq_true rfl, Nat.le_of_ble_eq_true rfl⟩) hP (hD _ _) hS hl dX7_valleyOf_61 0 7 rfl rfl rfl rfl (Nat.le_of_ble_eq_true rfl) rfl rfl (fun H locs hP hS => ?_)
          obtain ⟨r_11, hg_12, hf⟩ := bd_of hf
          refine kt_V0 (As := [.int x1, .int r_9]) (rest := []) (st1 := [.int r_11]) (b := am 0) C0 (c_X7_gives l γ am hg_12) (cxV (nA := 2) hts goodU U1220 U1222 U48 U91 U1223 (by decide +kernel) ⟨Nat.le_of_ble_eq_true rfl, Nat.le_of_ble_eq_true rfl⟩) hP (hD _ _) hS hl dX7_valleyOf_64 0 7 rfl rfl rfl rfl (Nat.le_of_ble_eq_true rfl) rfl rfl (fun H locs hP hS => ?_)
          obtain ⟨rfl, rfl⟩ := rt2 hf
          exact kt_iret C0 hP hS dX7_valleyOf_67
        · replace hf := ite_n c_8 hf
          refine lv_tableOut (tgt := 68) hx hb dX7_valleyOf_16 (by have := lv_neT c_4 (a := 0) (by decide); have := lv_neT c_6 (a := 1) (by decide); have := lv_neT c_8 (a := 2) (by decide); omega) (by decide) ?_
          refine lv_aload_n hx hb dX7_valleyOf_68 rfl (lv_at hl 0 rfl) ?_
          refine lv_bipush (v := -5) hx hb dX7_valleyOf_69 (by decide) ?_
          obtain ⟨r_13, sm_14, hg_15, hf⟩ := bd2_of hf
          refine kt_V0 (As := [.int (-5 : Int32)]) (rest := []) (st1 := [.int r_13]) (b := am 0) C0 (c_X7_no l γ am hg_15) (cxV (nA := 1) hts goodU U1082 U1084 U30 U91 U1085 (by decide +kernel) ⟨Nat.le_of_ble_eq_true rfl, Nat.le_of_ble_eq_true rfl⟩) hP (hD _ _) hS hl dX7_valleyOf_71 0 7 rfl rfl rfl rfl (Nat.le_of_ble_eq_true rfl) rfl rfl (fun H locs hP hS => ?_)
          obtain ⟨rfl, rfl⟩ := rt2 hf
          exact kt_iret C0 hP hS dX7_valleyOf_74
  · replace hf := ite_p c_3 hf
    refine lv_aload_n hx hb dX7_valleyOf_8 rfl (lv_at hl 0 rfl) ?_
    refine lv_bipush (v := -5) hx hb dX7_valleyOf_9 (by decide) ?_
    obtain ⟨r_16, sm_17, hg_18, hf⟩ := bd2_of hf
    refine kt_V0 (As := [.int (-5 : Int32)]) (rest := []) (st1 := [.int r_16]) (b := am 0) C0 (c_X7_no l γ am hg_18) (cxV (nA := 1) hts goodU U1082 U1084 U30 U91 U1085 (by decide +kernel) ⟨Nat.le_of_ble_eq_true rfl, Nat.le_of_ble_eq_true rfl⟩) hP (hD _ _) hS hl dX7_valleyOf_11 0 7 rfl rfl rfl rfl (Nat.le_of_ble_eq_true rfl) rfl rfl (fun H locs hP hS => ?_)
    obtain ⟨rfl, rfl⟩ := rt2 hf
    exact kt_iret C0 hP hS dX7_valleyOf_14
set_option maxHeartbeats 4000000 in
set_option maxRecDepth 100000 in
theorem c_X7_sign (l : Launch) (γ : Gm) (am : Nat → Nat) {sm : GS} {sq : Nat → Int64} {rv : Int32} (hf : f_X7_sign sm sq = some rv) : Kt l γ yX7_sign (Cond.code yX7_sign cX7_sign 1 (some .int) :: U) 0 0 [.ref (am 0)] (wM γ am sm sq) (some (.int rv)) (wM γ am sm sq) := by
  refine Kt.of (by decide) rfl (Nat.le_of_ble_eq_true rfl) rfl ?_
  intro p e s m below meth c A ls C0 hP hD0 hS hl
  obtain ⟨hx, hb, hml, hown, hts, hr, hlocks, hK, hE, hA⟩ := id C0
  have hU : ∀ w ∈ U, w.before _ s = true := fun w h => hts w (List.mem_cons_of_mem _ h)
  have hD : ∀ (sm : GS) (sq : Nat → Int64), va_D A (wM γ am sm sq) := fun _ _ => hD0.fst rfl
  have hl : lv_has ls 1 [(0, .ref (am 0))] := hl
  unfold f_X7_sign at hf
  refine lv_aload_n hx hb dX7_sign_0 rfl (lv_at hl 0 rfl) ?_
  refine va_get (D := γ.1) (ci := 7) (v := .int (sm 0 32)) (C := RX7) (T := TX7) (N := 35) hx hb hU uin7 hown hK hP 0 rfl rfl 32 (by decide) (hU _ U1001) (fun _ h9 => h9) rfl dX7_sign_1 ?_
  refine lv_aload_n hx hb dX7_sign_4 rfl (lv_at hl 0 rfl) ?_
  refine va_get (D := γ.1) (ci := 7) (v := .ref (am 2)) (C := RX7) (T := TX7) (N := 35) hx hb hU uin7 hown hK hP 0 rfl rfl 1 (by decide) (hU _ U970) (fun _ h9 => h9) rfl dX7_sign_5 ?_
  refine lv_aload_n hx hb dX7_sign_8 rfl (lv_at hl 0 rfl) ?_
  refine va_get (D := γ.1) (ci := 7) (v := .int (sm 0 31)) (C := RX7) (T := TX7) (N := 35) hx hb hU uin7 hown hK hP 0 rfl rfl 31 (by decide) (hU _ U1000) (fun _ h9 => h9) rfl dX7_sign_9 ?_
  obtain ⟨g_1, hf⟩ := gd_of hf
  refine va_iald hx hb hK hP 2 0 rfl rfl (inB_vp g_1) dX7_sign_12 ?_
  refine lv_icmp_ge (tgt := 38) hx hb dX7_sign_13 (by decide) (fun c_2 => ?_) (fun c_2 => ?_)
  · replace hf := ite_p c_2 hf
    refine lv_iconst (v := -1) hx hb dX7_sign_38 (by decide) ?_
    obtain rfl := Option.some.inj hf
    exact kt_iret C0 hP hS dX7_sign_39
  · replace hf := ite_n c_2 hf
    refine lv_aload_n hx hb dX7_sign_16 rfl (lv_at hl 0 rfl) ?_
    refine va_get (D := γ.1) (ci := 7) (v := .ref (am 3)) (C := RX7) (T := TX7) (N := 35) hx hb hU uin7 hown hK hP 0 rfl rfl 2 (by decide) (hU _ U971) (fun _ h9 => h9) rfl dX7_sign_17 ?_
    refine lv_sipush (v := 160) hx hb dX7_sign_20 (by decide) ?_
    refine lv_aload_n hx hb dX7_sign_23 rfl (lv_at hl 0 rfl) ?_
    refine va_get (D := γ.1) (ci := 7) (v := .int (sm 0 31)) (C := RX7) (T := TX7) (N := 35) hx hb hU uin7 hown hK hP 0 rfl rfl 31 (by decide) (hU _ U1000) (fun _ h9 => h9) rfl dX7_sign_24 ?_
    refine lv_imul hx hb dX7_sign_27 ?_
    refine lv_aload_n hx hb dX7_sign_28 rfl (lv_at hl 0 rfl) ?_
    refine va_get (D := γ.1) (ci := 7) (v := .int (sm 0 32)) (C := RX7) (T := TX7) (N := 35) hx hb hU uin7 hown hK hP 0 rfl rfl 32 (by decide) (hU _ U1001) (fun _ h9 => h9) rfl dX7_sign_29 ?_
    refine lv_iadd hx hb dX7_sign_32 ?_
    obtain ⟨g_3, hf⟩ := gd_of hf
    refine va_lald hx hb hK hP 3 1 rfl rfl (inB_vp g_3) dX7_sign_33 ?_
    refine lv_l2i hx hb dX7_sign_34 rfl ?_
    refine lv_goto (tgt := 39) hx hb dX7_sign_35 (by decide) ?_
    obtain rfl := Option.some.inj hf
    exact kt_iret C0 hP hS dX7_sign_39
set_option maxHeartbeats 4000000 in
set_option maxRecDepth 100000 in
theorem c_X7_is (l : Launch) (γ : Gm) (am : Nat → Nat) {sm : GS} {sq : Nat → Int64} {x1 : Int32} {rv : Int32} {sm_z : GS} (hf : f_X7_is sm sq x1 = some (rv, sm_z)) : Kt l γ yX7_is (Cond.code yX7_is cX7_is 2 (some .boolean) :: U) 1 20 [.ref (am 0), .int x1] (wM γ am sm sq) (some (.int rv)) (wM γ am sm_z sq) := by
  refine Kt.of (by decide) rfl (Nat.le_of_ble_eq_true rfl) rfl ?_
  intro p e s m below meth c A ls C0 hP hD0 hS hl
  obtain ⟨hx, hb, hml, hown, hts, hr, hlocks, hK, hE, hA⟩ := id C0
  have hU : ∀ w ∈ U, w.before _ s = true := fun w h => hts w (List.mem_cons_of_mem _ h)
  have hD : ∀ (sm : GS) (sq : Nat → Int64), va_D A (wM γ am sm sq) := fun _ _ => hD0.fst rfl
  have hl : lv_has ls 2 [(0, .ref (am 0)), (1, .int x1)] := hl
  unfold f_X7_is at hf
  refine lv_aload_n hx hb dX7_is_0 rfl (lv_at hl 0 rfl) ?_
  obtain ⟨r_1, hg_2, hf⟩ := bd_of hf
  refine kt_V0 (As := []) (rest := []) (st1 := [.int r_1]) (b := am 0) C0 (c_X7_sign l γ am hg_2) (cxV (nA := 0) hts goodU U1236 U1238 U51 U91 U1239 (by decide +kernel) ⟨Nat.le_of_ble_eq_true rfl, Nat.le_of_ble_eq_true rfl⟩) hP (hD _ _) hS hl dX7_is_1 0 7 rfl rfl rfl rfl (Nat.le_of_ble_eq_true rfl) rfl rfl (fun H locs hP hS => ?_)
  refine lv_iload_n hx hb dX7_is_4 rfl (lv_at hl 1 rfl) ?_
  refine lv_icmp_eq (tgt := 10) hx hb dX7_is_5 (by decide) (fun c_3 => ?_) (fun c_3 => ?_)
  · replace hf := ite_p c_3 hf
    refine lv_aload_n hx hb dX7_is_10 rfl (lv_at hl 0 rfl) ?_
    refine lv_dup hx hb dX7_is_11 rfl ?_
    refine va_get (D := γ.1) (ci := 7) (v := .int (sm 0 32)) (C := RX7) (T := TX7) (N := 35) hx hb hU uin7 hown hK hP 0 rfl rfl 32 (by decide) (hU _ U1001) (fun _ h9 => h9) rfl dX7_is_12 ?_
    refine lv_iconst (v := 1) hx hb dX7_is_15 (by decide) ?_
    refine lv_iadd hx hb dX7_is_16 ?_
    refine lv_topi (fun u_4 e_u_4 => ?_)
    replace hf := nm_y hf e_u_4
    refine va_put (D := γ.1) (ci := 7) (v := .int u_4) (ty := .int) (C := RX7) (T := TX7) (N := 35) hx hb hU uin7 tyX7 tyX7_ok nmX7 hown hK hP (hD _ _) hS 0 rfl rfl 32 (by decide) (hU _ U1001) (fun _ h9 => h9) rfl (by decide +kernel) rfl rfl (Nat.le_of_ble_eq_true rfl) dX7_is_17 (fun H locs hP _ hS => ?_)
    obtain ⟨sm_5, e_sm_5, hf⟩ := nm_of hf
    replace hP : va_P γ.1 vwCl (wM γ am sm_5 sq) H := by rw [e_sm_5]; exact hP
    refine lv_iconst (v := 1) hx hb dX7_is_20 (by decide) ?_
    obtain ⟨rfl, rfl⟩ := rt2 hf
    exact kt_zret C0 (by decide) hP hS dX7_is_21
  · replace hf := ite_n c_3 hf
    refine lv_iconst (v := 0) hx hb dX7_is_8 (by decide) ?_
    obtain ⟨rfl, rfl⟩ := rt2 hf
    exact kt_zret C0 (by decide) hP hS dX7_is_9
set_option maxHeartbeats 4000000 in
set_option maxRecDepth 100000 in
theorem c_X7_word (l : Launch) (γ : Gm) (am : Nat → Nat) {sm : GS} {sq : Nat → Int64} {sx : Nat} {rv : Int32} {sm_z : GS} (hsx : sx < 6) (hf : f_X7_word sm sq sx = some (rv, sm_z)) : Kt l γ yX7_word (Cond.code yX7_word cX7_word 3 (some .boolean) :: U) 5 121 [.ref (am 0), .ref (sad γ sx)] (wM γ am sm sq) (some (.int rv)) (wM γ am sm_z sq) := by
  refine Kt.of (by decide) rfl (Nat.le_of_ble_eq_true rfl) rfl ?_
  intro p e s m below meth c A ls C0 hP hD0 hS hl
  obtain ⟨hx, hb, hml, hown, hts, hr, hlocks, hK, hE, hA⟩ := id C0
  have hU : ∀ w ∈ U, w.before _ s = true := fun w h => hts w (List.mem_cons_of_mem _ h)
  have hD : ∀ (sm : GS) (sq : Nat → Int64), va_D A (wM γ am sm sq) := fun _ _ => hD0.fst rfl
  have hl : lv_has ls 3 [(0, .ref (am 0)), (1, .ref (sad γ sx))] := hl
  have L2 : ∀ (si1_1 : Nat) (n : Nat) (x2_2 : Int32) (sm_3 : GS) (H : Heap) (locs : List Loc) (ls : Array Slot), f_X7_word_L2 sq si1_1 n x2_2 sm_3 = some (rv, sm_z) → va_P γ.1 vwCl (wM γ am sm_3 sq) H → va_S A s.heap H locs → lv_has ls 3 [(0, .ref (am 0)), (1, .ref (sad γ si1_1)), (2, .int x2_2)] → W p l e (rmK 5 121) s m ([.ref (am 0), .ref (sad γ sx)] : List Value).toArray below meth c H locs 0 0 (MQ below (KQ γ A (some (.int rv)) (wM γ am sm_z sq)) ([.ref (am 0), .ref (sad γ sx)] : List Value).toArray s 0 0 A) (F0 m 2 ls []) := by
    intro si1_1
    intro n
    induction n with
    | zero =>
      intro x2_2 sm_3 H locs ls hf
      have hf : none = some _ := hf
      cases hf
    | succ n ih =>
      intro x2_2 sm_3 H locs ls hf hP hS hl
      rw [f_X7_word_L2.eq_2] at hf
      refine lv_iload_n hx hb dX7_word_2 rfl (lv_at hl 2 rfl) ?_
      refine lv_aload_n hx hb dX7_word_3 rfl (lv_at hl 1 rfl) ?_
      obtain ⟨g_4, hf⟩ := gd_of hf
      refine kt_str (As := []) (rest := [.int x2_2]) (st1 := [.int (tLn si1_1), .int x2_2]) (i := si1_1) C0 (c_strlen l γ (of_decide_eq_true g_4)) (cxV (nA := 0) hts goodU U1249 U628 U629 U94 U630 (by decide +kernel) ⟨Nat.le_of_ble_eq_true rfl, Nat.le_of_ble_eq_true rfl⟩) (of_decide_eq_true g_4) hP (hD _ _) hS hl dX7_word_4 rfl (Nat.le_of_ble_eq_true rfl) rfl rfl (fun H locs hP hS => ?_)
      refine lv_icmp_ge (tgt := 30) hx hb dX7_word_7 (by decide) (fun c_5 => ?_) (fun c_5 => ?_)
      · replace hf := ite_p c_5 hf
        refine lv_iconst (v := 1) hx hb dX7_word_30 (by decide) ?_
        obtain ⟨rfl, rfl⟩ := rt2 hf
        exact kt_zret C0 (by decide) hP hS dX7_word_31
      · replace hf := ite_n c_5 hf
        refine lv_aload_n hx hb dX7_word_10 rfl (lv_at hl 0 rfl) ?_
        refine lv_aload_n hx hb dX7_word_11 rfl (lv_at hl 1 rfl) ?_
        refine lv_iload_n hx hb dX7_word_12 rfl (lv_at hl 2 rfl) ?_
        obtain ⟨g_6, hf⟩ := gd_of hf
        obtain ⟨g_7, hf⟩ := gd_of hf
        refine kt_str (As := [.int x2_2]) (rest := [.ref (am 0)]) (st1 := [.int (tCh si1_1 x2_2), .ref (am 0)]) (i := si1_1) C0 (c_strchr l γ (of_decide_eq_true g_6) g_7) (cxV (nA := 1) hts goodU U1250 U584 U585 U94 U586 (by decide +kernel) ⟨Nat.le_of_ble_eq_true rfl, Nat.le_of_ble_eq_true rfl⟩) (of_decide_eq_true g_6) hP (hD _ _) hS hl dX7_word_13 rfl (Nat.le_of_ble_eq_true rfl) rfl rfl (fun H locs hP hS => ?_)
        obtain ⟨r_8, sm_9, hg_10, hf⟩ := bd2_of hf
        refine kt_V0 (As := [.int (tCh si1_1 x2_2)]) (rest := []) (st1 := [.int r_8]) (b := am 0) C0 (c_X7_is l γ am hg_10) (cxV (nA := 1) hts goodU U1251 U1253 U54 U91 U1254 (by decide +kernel) ⟨Nat.le_of_ble_eq_true rfl, Nat.le_of_ble_eq_true rfl⟩) hP (hD _ _) hS hl dX7_word_16 0 7 rfl rfl rfl rfl (Nat.le_of_ble_eq_true rfl) rfl rfl (fun H locs hP hS => ?_)
        refine lv_if_ne (tgt := 24) hx hb dX7_word_19 (by decide) (fun c_11 => ?_) (fun c_11 => ?_)
        · replace hf := ite_n c_11 hf
          obtain ⟨x2_12, e_x2_12⟩ : ∃ y : Int32, y = x2_2 + (1 : Int32) := ⟨_, rfl⟩
          replace hf := nm_y hf e_x2_12
          refine lv_iinc (v := x2_12) (lv' := [(2, .int x2_12), (0, .ref (am 0)), (1, .ref (sad γ si1_1))]) hx hb dX7_word_24 hl (k := 2) rfl (by rw [e_x2_12]; rfl) (by decide) rfl (fun ls hl => ?_)
          refine lv_goto (tgt := 2) hx hb dX7_word_27 (by decide) ?_
          exact ih x2_12 sm_9 _ _ _ hf hP hS (lv_sub hl [1, 2, 0] rfl)
        · replace hf := ite_p c_11 hf
          refine lv_iconst (v := 0) hx hb dX7_word_22 (by decide) ?_
          obtain ⟨rfl, rfl⟩ := rt2 hf
          exact kt_zret C0 (by decide) hP hS dX7_word_23
  unfold f_X7_word at hf
  refine lv_iconst (v := 0) hx hb dX7_word_0 (by decide) ?_
  refine lv_istore_n (lv' := [(2, .int (0 : Int32)), (0, .ref (am 0)), (1, .ref (sad γ sx))]) hx hb dX7_word_1 rfl hl (by decide) rfl (fun ls hl => ?_)
  exact L2 sx FU (0 : Int32) sm _ _ _ hf hP hS (lv_sub hl [1, 2, 0] rfl)
set_option maxHeartbeats 4000000 in
set_option maxRecDepth 100000 in
theorem c_X7_word_ (l : Launch) (γ : Gm) (am : Nat → Nat) {sm : GS} {sq : Nat → Int64} {sx : Nat} {x2 : Int32} {rv : Int32} {sm_z : GS} (hsx : sx < 6) (hf : f_X7_word_ sm sq sx x2 = some (rv, sm_z)) : Kt l γ yX7_word_ (Cond.code yX7_word_ cX7_word_ 5 (some .boolean) :: U) 6 143 [.ref (am 0), .ref (sad γ sx), .int x2] (wM γ am sm sq) (some (.int rv)) (wM γ am sm_z sq) := by
  refine Kt.of (by decide) rfl (Nat.le_of_ble_eq_true rfl) rfl ?_
  intro p e s m below meth c A ls C0 hP hD0 hS hl
  obtain ⟨hx, hb, hml, hown, hts, hr, hlocks, hK, hE, hA⟩ := id C0
  have hU : ∀ w ∈ U, w.before _ s = true := fun w h => hts w (List.mem_cons_of_mem _ h)
  have hD : ∀ (sm : GS) (sq : Nat → Int64), va_D A (wM γ am sm sq) := fun _ _ => hD0.fst rfl
  have hl : lv_has ls 5 [(0, .ref (am 0)), (1, .ref (sad γ sx)), (2, .int x2)] := hl
  have J26 : ∀ (x2_6 : Int32) (x4_7 : Int32) (sm_8 : GS) (H : Heap) (locs : List Loc) (ls : Array Slot), f_X7_word__J26 x2_6 x4_7 sm_8 = some (rv, sm_z) → va_P γ.1 vwCl (wM γ am sm_8 sq) H → va_S A s.heap H locs → lv_has ls 5 [(2, .int x2_6), (4, .int x4_7)] → W p l e (rmK 6 143) s m ([.ref (am 0), .ref (sad γ sx), .int x2] : List Value).toArray below meth c H locs 0 0 (MQ below (KQ γ A (some (.int rv)) (wM γ am sm_z sq)) ([.ref (am 0), .ref (sad γ sx), .int x2] : List Value).toArray s 0 0 A) (F0 m 26 ls []) := by
    intro x2_6 x4_7 sm_8 H locs ls hf hP hS hl
    unfold f_X7_word__J26 at hf
    refine lv_iload hx hb dX7_word__26 (lv_at hl 1 rfl) ?_
    refine lv_if_eq (tgt := 39) hx hb dX7_word__28 (by decide) (fun c_9 => ?_) (fun c_9 => ?_)
    · replace hf := ite_p c_9 hf
      refine lv_iconst (v := 0) hx hb dX7_word__39 (by decide) ?_
      obtain ⟨rfl, rfl⟩ := rt2 hf
      exact kt_zret C0 (by decide) hP hS dX7_word__40
    · replace hf := ite_n c_9 hf
      refine lv_iload_n hx hb dX7_word__31 rfl (lv_at hl 0 rfl) ?_
      refine lv_if_eq (tgt := 39) hx hb dX7_word__32 (by decide) (fun c_10 => ?_) (fun c_10 => ?_)
      · replace hf := ite_p c_10 hf
        refine lv_iconst (v := 0) hx hb dX7_word__39 (by decide) ?_
        obtain ⟨rfl, rfl⟩ := rt2 hf
        exact kt_zret C0 (by decide) hP hS dX7_word__40
      · replace hf := ite_n c_10 hf
        refine lv_iconst (v := 1) hx hb dX7_word__35 (by decide) ?_
        refine lv_goto (tgt := 40) hx hb dX7_word__36 (by decide) ?_
        obtain ⟨rfl, rfl⟩ := rt2 hf
        exact kt_zret C0 (by decide) hP hS dX7_word__40
  unfold f_X7_word_ at hf
  refine lv_aload_n hx hb dX7_word__0 rfl (lv_at hl 0 rfl) ?_
  refine va_get (D := γ.1) (ci := 7) (v := .int (sm 0 32)) (C := RX7) (T := TX7) (N := 35) hx hb hU uin7 hown hK hP 0 rfl rfl 32 (by decide) (hU _ U1001) (fun _ h9 => h9) rfl dX7_word__1 ?_
  refine lv_topi (fun u_1 e_u_1 => ?_)
  replace hf := nm_y hf e_u_1
  refine lv_istore_n (lv' := [(3, .int u_1), (0, .ref (am 0)), (1, .ref (sad γ sx)), (2, .int x2)]) hx hb dX7_word__4 rfl hl (by decide) rfl (fun ls hl => ?_)
  refine lv_aload_n hx hb dX7_word__5 rfl (lv_at hl 1 rfl) ?_
  refine lv_aload_n hx hb dX7_word__6 rfl (lv_at hl 2 rfl) ?_
  obtain ⟨r_2, sm_3, hg_4, hf⟩ := bd2_of hf
  refine kt_V0 (As := [.ref (sad γ sx)]) (rest := []) (st1 := [.int r_2]) (b := am 0) C0 (c_X7_word l γ am hsx hg_4) (cxV (nA := 1) hts goodU U1245 U1247 U53 U91 U1248 (by decide +kernel) ⟨Nat.le_of_ble_eq_true rfl, Nat.le_of_ble_eq_true rfl⟩) hP (hD _ _) hS hl dX7_word__7 0 7 rfl rfl rfl rfl (Nat.le_of_ble_eq_true rfl) rfl rfl (fun H locs hP hS => ?_)
  refine lv_istore (lv' := [(4, .int r_2), (3, .int u_1), (0, .ref (am 0)), (1, .ref (sad γ sx)), (2, .int x2)]) hx hb dX7_word__10 hl (by decide) rfl (fun ls hl => ?_)
  refine lv_iload hx hb dX7_word__12 (lv_at hl 0 rfl) ?_
  refine lv_if_eq (tgt := 26) hx hb dX7_word__14 (by decide) (fun c_5 => ?_) (fun c_5 => ?_)
  · replace hf := ite_p c_5 hf
    exact J26 x2 r_2 sm_3 _ _ _ hf hP hS (lv_sub hl [4, 0] rfl)
  · replace hf := ite_n c_5 hf
    refine lv_iload_n hx hb dX7_word__17 rfl (lv_at hl 4 rfl) ?_
    refine lv_if_ne (tgt := 26) hx hb dX7_word__18 (by decide) (fun c_11 => ?_) (fun c_11 => ?_)
    · replace hf := ite_n c_11 hf
      exact J26 x2 r_2 sm_3 _ _ _ hf hP hS (lv_sub hl [4, 0] rfl)
    · replace hf := ite_p c_11 hf
      refine lv_aload_n hx hb dX7_word__21 rfl (lv_at hl 2 rfl) ?_
      refine lv_iload_n hx hb dX7_word__22 rfl (lv_at hl 1 rfl) ?_
      refine va_put (D := γ.1) (ci := 7) (v := .int u_1) (ty := .int) (C := RX7) (T := TX7) (N := 35) hx hb hU uin7 tyX7 tyX7_ok nmX7 hown hK hP (hD _ _) hS 0 rfl rfl 32 (by decide) (hU _ U1001) (fun _ h9 => h9) rfl (by decide +kernel) rfl rfl (Nat.le_of_ble_eq_true rfl) dX7_word__23 (fun H locs hP _ hS => ?_)
      obtain ⟨sm_12, e_sm_12, hf⟩ := nm_of hf
      replace hP : va_P γ.1 vwCl (wM γ am sm_12 sq) H := by rw [e_sm_12]; exact hP
      exact J26 x2 r_2 sm_12 _ _ _ hf hP hS (lv_sub hl [4, 0] rfl)
set_option maxHeartbeats 4000000 in
set_option maxRecDepth 100000 in
theorem c_X7_number (l : Launch) (γ : Gm) (am : Nat → Nat) {sm : GS} {sq : Nat → Int64} {x1 : Int32} {x2 : Int32} {x3 : Int32} {rv : Int32} {sm_z : GS} (hf : f_X7_number sm sq x1 x2 x3 = some (rv, sm_z)) : Kt l γ yX7_number (Cond.code yX7_number cX7_number 7 (some .boolean) :: U) 2 41 [.ref (am 0), .int x1, .int x2, .int x3] (wM γ am sm sq) (some (.int rv)) (wM γ am sm_z sq) := by
  refine Kt.of (by decide) rfl (Nat.le_of_ble_eq_true rfl) rfl ?_
  intro p e s m below meth c A ls C0 hP hD0 hS hl
  obtain ⟨hx, hb, hml, hown, hts, hr, hlocks, hK, hE, hA⟩ := id C0
  have hU : ∀ w ∈ U, w.before _ s = true := fun w h => hts w (List.mem_cons_of_mem _ h)
  have hD : ∀ (sm : GS) (sq : Nat → Int64), va_D A (wM γ am sm sq) := fun _ _ => hD0.fst rfl
  have hl : lv_has ls 7 [(0, .ref (am 0)), (1, .int x1), (2, .int x2), (3, .int x3)] := hl
  have L20 : ∀ (x1_6 : Int32) (x2_7 : Int32) (x3_8 : Int32) (x4_9 : Int32) (K77 : Int32 → GS → Option (Int32 × GS)) (HK77 : ∀ (z5 : Int32) (zsm : GS) (H : Heap) (locs : List Loc) (ls : Array Slot), K77 z5 zsm = some (rv, sm_z) → va_P γ.1 vwCl (wM γ am zsm sq) H → va_S A s.heap H locs → lv_has ls 7 [(0, .ref (am 0)), (1, .int x1_6), (2, .int x2_7), (3, .int x3_8), (4, .int x4_9), (5, .int z5)] → W p l e (rmK 2 41) s m ([.ref (am 0), .int x1, .int x2, .int x3] : List Value).toArray below meth c H locs 0 0 (MQ below (KQ γ A (some (.int rv)) (wM γ am sm_z sq)) ([.ref (am 0), .int x1, .int x2, .int x3] : List Value).toArray s 0 0 A) (F0 m 77 ls [])) (n : Nat) (x5_10 : Int32) (sm_11 : GS) (H : Heap) (locs : List Loc) (ls : Array Slot), f_X7_number_L20 sq x4_9 K77 n x5_10 sm_11 = some (rv, sm_z) → va_P γ.1 vwCl (wM γ am sm_11 sq) H → va_S A s.heap H locs → lv_has ls 7 [(0, .ref (am 0)), (1, .int x1_6), (2, .int x2_7), (3, .int x3_8), (4, .int x4_9), (5, .int x5_10)] → W p l e (rmK 2 41) s m ([.ref (am 0), .int x1, .int x2, .int x3] : List Value).toArray below meth c H locs 0 0 (MQ below (KQ γ A (some (.int rv)) (wM γ am sm_z sq)) ([.ref (am 0), .int x1, .int x2, .int x3] : List Value).toArray s 0 0 A) (F0 m 20 ls []) := by
    intro x1_6 x2_7 x3_8 x4_9 K77 HK77
    intro n
    induction n with
    | zero =>
      intro x5_10 sm_11 H locs ls hf
      have hf : none = some _ := hf
      cases hf
    | succ n ih =>
      intro x5_10 sm_11 H locs ls hf hP hS hl
      rw [f_X7_number_L20.eq_2] at hf
      refine lv_aload_n hx hb dX7_number_20 rfl (lv_at hl 0 rfl) ?_
      refine va_get (D := γ.1) (ci := 7) (v := .int (sm_11 0 32)) (C := RX7) (T := TX7) (N := 35) hx hb hU uin7 hown hK hP 0 rfl rfl 32 (by decide) (hU _ U1001) (fun _ h9 => h9) rfl dX7_number_21 ?_
      refine lv_iload hx hb dX7_number_24 (lv_at hl 4 rfl) ?_
      refine lv_isub hx hb dX7_number_26 ?_
      refine lv_iconst (v := 3) hx hb dX7_number_27 (by decide) ?_
      refine lv_icmp_ge (tgt := 77) hx hb dX7_number_28 (by decide) (fun c_12 => ?_) (fun c_12 => ?_)
      · replace hf := ite_p c_12 hf
        exact HK77 x5_10 sm_11 _ _ _ hf hP hS (lv_sub hl [0, 1, 2, 3, 4, 5] rfl)
      · replace hf := ite_n c_12 hf
        refine lv_aload_n hx hb dX7_number_31 rfl (lv_at hl 0 rfl) ?_
        obtain ⟨r_13, hg_14, hf⟩ := bd_of hf
        refine kt_V0 (As := []) (rest := []) (st1 := [.int r_13]) (b := am 0) C0 (c_X7_sign l γ am hg_14) (cxV (nA := 0) hts goodU U1236 U1238 U51 U91 U1239 (by decide +kernel) ⟨Nat.le_of_ble_eq_true rfl, Nat.le_of_ble_eq_true rfl⟩) hP (hD _ _) hS hl dX7_number_32 0 7 rfl rfl rfl rfl (Nat.le_of_ble_eq_true rfl) rfl rfl (fun H locs hP hS => ?_)
        refine lv_bipush (v := 48) hx hb dX7_number_35 (by decide) ?_
        refine lv_icmp_lt (tgt := 77) hx hb dX7_number_37 (by decide) (fun c_15 => ?_) (fun c_15 => ?_)
        · replace hf := ite_p c_15 hf
          exact HK77 x5_10 sm_11 _ _ _ hf hP hS (lv_sub hl [0, 1, 2, 3, 4, 5] rfl)
        · replace hf := ite_n c_15 hf
          refine lv_aload_n hx hb dX7_number_40 rfl (lv_at hl 0 rfl) ?_
          obtain ⟨r_16, hg_17, hf⟩ := bd_of hf
          refine kt_V0 (As := []) (rest := []) (st1 := [.int r_16]) (b := am 0) C0 (c_X7_sign l γ am hg_17) (cxV (nA := 0) hts goodU U1236 U1238 U51 U91 U1239 (by decide +kernel) ⟨Nat.le_of_ble_eq_true rfl, Nat.le_of_ble_eq_true rfl⟩) hP (hD _ _) hS hl dX7_number_41 0 7 rfl rfl rfl rfl (Nat.le_of_ble_eq_true rfl) rfl rfl (fun H locs hP hS => ?_)
          refine lv_bipush (v := 57) hx hb dX7_number_44 (by decide) ?_
          refine lv_icmp_gt (tgt := 77) hx hb dX7_number_46 (by decide) (fun c_18 => ?_) (fun c_18 => ?_)
          · replace hf := ite_p c_18 hf
            exact HK77 x5_10 sm_11 _ _ _ hf hP hS (lv_sub hl [0, 1, 2, 3, 4, 5] rfl)
          · replace hf := ite_n c_18 hf
            refine lv_bipush (v := 10) hx hb dX7_number_49 (by decide) ?_
            refine lv_iload hx hb dX7_number_51 (lv_at hl 5 rfl) ?_
            refine lv_imul hx hb dX7_number_53 ?_
            refine lv_aload_n hx hb dX7_number_54 rfl (lv_at hl 0 rfl) ?_
            obtain ⟨r_19, hg_20, hf⟩ := bd_of hf
            refine kt_V0 (As := []) (rest := [.int ((10 : Int32) * x5_10)]) (st1 := [.int r_19, .int ((10 : Int32) * x5_10)]) (b := am 0) C0 (c_X7_sign l γ am hg_20) (cxV (nA := 0) hts goodU U1236 U1238 U51 U91 U1239 (by decide +kernel) ⟨Nat.le_of_ble_eq_true rfl, Nat.le_of_ble_eq_true rfl⟩) hP (hD _ _) hS hl dX7_number_55 0 7 rfl rfl rfl rfl (Nat.le_of_ble_eq_true rfl) rfl rfl (fun H locs hP hS => ?_)
            refine lv_iadd hx hb dX7_number_58 ?_
            refine lv_bipush (v := 48) hx hb dX7_number_59 (by decide) ?_
            refine lv_isub hx hb dX7_number_61 ?_
            refine lv_topi (fun u_21 e_u_21 => ?_)
            replace hf := nm_y hf e_u_21
            refine lv_istore (lv' := [(5, .int u_21), (0, .ref (am 0)), (1, .int x1_6), (2, .int x2_7), (3, .int x3_8), (4, .int x4_9)]) hx hb dX7_number_62 hl (by decide) rfl (fun ls hl => ?_)
            refine lv_aload_n hx hb dX7_number_64 rfl (lv_at hl 1 rfl) ?_
            refine lv_dup hx hb dX7_number_65 rfl ?_
            refine va_get (D := γ.1) (ci := 7) (v := .int (sm_11 0 32)) (C := RX7) (T := TX7) (N := 35) hx hb hU uin7 hown hK hP 0 rfl rfl 32 (by decide) (hU _ U1001) (fun _ h9 => h9) rfl dX7_number_66 ?_
            refine lv_iconst (v := 1) hx hb dX7_number_69 (by decide) ?_
            refine lv_iadd hx hb dX7_number_70 ?_
            refine lv_topi (fun u_22 e_u_22 => ?_)
            replace hf := nm_y hf e_u_22
            refine va_put (D := γ.1) (ci := 7) (v := .int u_22) (ty := .int) (C := RX7) (T := TX7) (N := 35) hx hb hU uin7 tyX7 tyX7_ok nmX7 hown hK hP (hD _ _) hS 0 rfl rfl 32 (by decide) (hU _ U1001) (fun _ h9 => h9) rfl (by decide +kernel) rfl rfl (Nat.le_of_ble_eq_true rfl) dX7_number_71 (fun H locs hP _ hS => ?_)
            obtain ⟨sm_23, e_sm_23, hf⟩ := nm_of hf
            replace hP : va_P γ.1 vwCl (wM γ am sm_23 sq) H := by rw [e_sm_23]; exact hP
            refine lv_goto (tgt := 20) hx hb dX7_number_74 (by decide) ?_
            exact ih u_21 sm_23 _ _ _ hf hP hS (lv_sub hl [1, 2, 3, 4, 5, 0] rfl)
  have J77 : ∀ (x1_26 : Int32) (x2_27 : Int32) (x3_28 : Int32) (x4_29 : Int32) (x5_30 : Int32) (sm_31 : GS) (H : Heap) (locs : List Loc) (ls : Array Slot), f_X7_number_J77 x1_26 x2_27 x3_28 x4_29 x5_30 sm_31 = some (rv, sm_z) → va_P γ.1 vwCl (wM γ am sm_31 sq) H → va_S A s.heap H locs → lv_has ls 7 [(0, .ref (am 0)), (1, .int x1_26), (2, .int x2_27), (3, .int x3_28), (4, .int x4_29), (5, .int x5_30)] → W p l e (rmK 2 41) s m ([.ref (am 0), .int x1, .int x2, .int x3] : List Value).toArray below meth c H locs 0 0 (MQ below (KQ γ A (some (.int rv)) (wM γ am sm_z sq)) ([.ref (am 0), .int x1, .int x2, .int x3] : List Value).toArray s 0 0 A) (F0 m 77 ls []) := by
    intro x1_26 x2_27 x3_28 x4_29 x5_30 sm_31 H locs ls hf hP hS hl
    unfold f_X7_number_J77 at hf
    refine lv_aload_n hx hb dX7_number_77 rfl (lv_at hl 0 rfl) ?_
    refine va_get (D := γ.1) (ci := 7) (v := .int (sm_31 0 32)) (C := RX7) (T := TX7) (N := 35) hx hb hU uin7 hown hK hP 0 rfl rfl 32 (by decide) (hU _ U1001) (fun _ h9 => h9) rfl dX7_number_78 ?_
    refine lv_iload hx hb dX7_number_81 (lv_at hl 4 rfl) ?_
    refine lv_icmp_ne (tgt := 88) hx hb dX7_number_83 (by decide) (fun c_32 => ?_) (fun c_32 => ?_)
    · replace hf := ite_n c_32 hf
      refine lv_aload_n hx hb dX7_number_88 rfl (lv_at hl 0 rfl) ?_
      refine va_get (D := γ.1) (ci := 7) (v := .ref (am 34)) (C := RX7) (T := TX7) (N := 35) hx hb hU uin7 hown hK hP 0 rfl rfl 33 (by decide) (hU _ U1002) (fun _ h9 => h9) rfl dX7_number_89 ?_
      refine lv_iload_n hx hb dX7_number_92 rfl (lv_at hl 1 rfl) ?_
      refine lv_iload hx hb dX7_number_93 (lv_at hl 5 rfl) ?_
      obtain ⟨g_33, hf⟩ := gd_of hf
      refine va_iast hx hb hK hP (hD _ _) hS 24 0 rfl rfl (inB_vp g_33) dX7_number_95 (fun H locs hP _ hS => ?_)
      obtain ⟨sm_34, e_sm_34, hf⟩ := nm_of hf
      replace hP : va_P γ.1 vwCl (wM γ am sm_34 sq) H := by rw [e_sm_34]; exact hP
      refine lv_iload hx hb dX7_number_96 (lv_at hl 5 rfl) ?_
      refine lv_iload_n hx hb dX7_number_98 rfl (lv_at hl 2 rfl) ?_
      refine lv_iload_n hx hb dX7_number_99 rfl (lv_at hl 3 rfl) ?_
      obtain ⟨r_35, hg_36, hf⟩ := bd_of hf
      refine kt_SF (As := [.int x5_30, .int x2_27, .int x3_28]) (rest := []) (st1 := [.int r_35]) (wc' := wM γ am sm_34 sq) C0 (c_X7_within l γ hg_36) (cxS (nA := 3) hts goodU U1079 U1080 U91 U1081 (by decide +kernel) ⟨Nat.le_of_ble_eq_true rfl, Nat.le_of_ble_eq_true rfl⟩) hP (hD _ _) hS hl dX7_number_100 foc_nil rfl (Nat.le_of_ble_eq_true rfl) rfl rfl (fun H locs hP hS => ?_)
      refine lv_istore (lv' := [(6, .int r_35), (0, .ref (am 0)), (1, .int x1_26), (2, .int x2_27), (3, .int x3_28), (4, .int x4_29), (5, .int x5_30)]) hx hb dX7_number_103 hl (by decide) rfl (fun ls hl => ?_)
      refine lv_iload hx hb dX7_number_105 (lv_at hl 0 rfl) ?_
      refine lv_if_ne (tgt := 116) hx hb dX7_number_107 (by decide) (fun c_37 => ?_) (fun c_37 => ?_)
      · replace hf := ite_n c_37 hf
        refine lv_iload hx hb dX7_number_116 (lv_at hl 0 rfl) ?_
        obtain ⟨g_38, hf⟩ := gd_of hf
        obtain ⟨rfl, rfl⟩ := rt2 hf
        exact kt_zret C0 (isZ_nar g_38) hP hS dX7_number_118
      · replace hf := ite_p c_37 hf
        refine lv_aload_n hx hb dX7_number_110 rfl (lv_at hl 1 rfl) ?_
        refine lv_iload hx hb dX7_number_111 (lv_at hl 5 rfl) ?_
        refine va_put (D := γ.1) (ci := 7) (v := .int x4_29) (ty := .int) (C := RX7) (T := TX7) (N := 35) hx hb hU uin7 tyX7 tyX7_ok nmX7 hown hK hP (hD _ _) hS 0 rfl rfl 32 (by decide) (hU _ U1001) (fun _ h9 => h9) rfl (by decide +kernel) rfl rfl (Nat.le_of_ble_eq_true rfl) dX7_number_113 (fun H locs hP _ hS => ?_)
        obtain ⟨sm_39, e_sm_39, hf⟩ := nm_of hf
        replace hP : va_P γ.1 vwCl (wM γ am sm_39 sq) H := by rw [e_sm_39]; exact hP
        refine lv_iload hx hb dX7_number_116 (lv_at hl 0 rfl) ?_
        obtain ⟨g_40, hf⟩ := gd_of hf
        obtain ⟨rfl, rfl⟩ := rt2 hf
        exact kt_zret C0 (isZ_nar g_40) hP hS dX7_number_118
    · replace hf := ite_p c_32 hf
      refine lv_iconst (v := 0) hx hb dX7_number_86 (by decide) ?_
      obtain ⟨rfl, rfl⟩ := rt2 hf
      exact kt_zret C0 (by decide) hP hS dX7_number_87
  unfold f_X7_number at hf
  refine lv_aload_n hx hb dX7_number_0 rfl (lv_at hl 0 rfl) ?_
  refine lv_bipush (v := 32) hx hb dX7_number_1 (by decide) ?_
  obtain ⟨r_1, sm_2, hg_3, hf⟩ := bd2_of hf
  refine kt_V0 (As := [.int (32 : Int32)]) (rest := []) (st1 := [.int r_1]) (b := am 0) C0 (c_X7_is l γ am hg_3) (cxV (nA := 1) hts goodU U1251 U1253 U54 U91 U1254 (by decide +kernel) ⟨Nat.le_of_ble_eq_true rfl, Nat.le_of_ble_eq_true rfl⟩) hP (hD _ _) hS hl dX7_number_3 0 7 rfl rfl rfl rfl (Nat.le_of_ble_eq_true rfl) rfl rfl (fun H locs hP hS => ?_)
  refine lv_if_ne (tgt := 11) hx hb dX7_number_6 (by decide) (fun c_4 => ?_) (fun c_4 => ?_)
  · replace hf := ite_n c_4 hf
    refine lv_aload_n hx hb dX7_number_11 rfl (lv_at hl 0 rfl) ?_
    refine va_get (D := γ.1) (ci := 7) (v := .int (sm_2 0 32)) (C := RX7) (T := TX7) (N := 35) hx hb hU uin7 hown hK hP 0 rfl rfl 32 (by decide) (hU _ U1001) (fun _ h9 => h9) rfl dX7_number_12 ?_
    refine lv_topi (fun u_5 e_u_5 => ?_)
    replace hf := nm_y hf e_u_5
    refine lv_istore (lv' := [(4, .int u_5), (0, .ref (am 0)), (1, .int x1), (2, .int x2), (3, .int x3)]) hx hb dX7_number_15 hl (by decide) rfl (fun ls hl => ?_)
    refine lv_iconst (v := 0) hx hb dX7_number_17 (by decide) ?_
    refine lv_istore (lv' := [(5, .int (0 : Int32)), (4, .int u_5), (0, .ref (am 0)), (1, .int x1), (2, .int x2), (3, .int x3)]) hx hb dX7_number_18 hl (by decide) rfl (fun ls hl => ?_)
    refine L20 x1 x2 x3 u_5 _ (fun x5_24 sm_25 H locs ls hf hP hS hl => ?_) FU (0 : Int32) sm_2 _ _ _ hf hP hS (lv_sub hl [2, 3, 4, 5, 1, 0] rfl)
    exact J77 x1 x2 x3 u_5 x5_24 sm_25 _ _ _ hf hP hS (lv_sub hl [0, 1, 2, 3, 4, 5] rfl)
  · replace hf := ite_p c_4 hf
    refine lv_iconst (v := 0) hx hb dX7_number_9 (by decide) ?_
    obtain ⟨rfl, rfl⟩ := rt2 hf
    exact kt_zret C0 (by decide) hP hS dX7_number_10
set_option maxHeartbeats 4000000 in
set_option maxRecDepth 100000 in
theorem c_X7_stands (l : Launch) (γ : Gm) (am : Nat → Nat) {sm : GS} {sq : Nat → Int64} {x1 : Int32} {x2 : Int32} {rv : Int32} {sm_z : GS} (hf : f_X7_stands sm x1 x2 = some (rv, sm_z)) : Kt l γ yX7_stands (Cond.code yX7_stands cX7_stands 3 (some .boolean) :: U) 0 0 [.ref (am 0), .int x1, .int x2] (wM γ am sm sq) (some (.int rv)) (wM γ am sm_z sq) := by
  refine Kt.of (by decide) rfl (Nat.le_of_ble_eq_true rfl) rfl ?_
  intro p e s m below meth c A ls C0 hP hD0 hS hl
  obtain ⟨hx, hb, hml, hown, hts, hr, hlocks, hK, hE, hA⟩ := id C0
  have hU : ∀ w ∈ U, w.before _ s = true := fun w h => hts w (List.mem_cons_of_mem _ h)
  have hD : ∀ (sm : GS) (sq : Nat → Int64), va_D A (wM γ am sm sq) := fun _ _ => hD0.fst rfl
  have hl : lv_has ls 3 [(0, .ref (am 0)), (1, .int x1), (2, .int x2)] := hl
  unfold f_X7_stands at hf
  refine lv_iload_n hx hb dX7_stands_0 rfl (lv_at hl 2 rfl) ?_
  refine lv_if_ne (tgt := 9) hx hb dX7_stands_1 (by decide) (fun c_1 => ?_) (fun c_1 => ?_)
  · replace hf := ite_n c_1 hf
    refine lv_iload_n hx hb dX7_stands_9 rfl (lv_at hl 2 rfl) ?_
    obtain ⟨g_2, hf⟩ := gd_of hf
    obtain ⟨rfl, rfl⟩ := rt2 hf
    exact kt_zret C0 (isZ_nar g_2) hP hS dX7_stands_10
  · replace hf := ite_p c_1 hf
    refine lv_aload_n hx hb dX7_stands_4 rfl (lv_at hl 0 rfl) ?_
    refine lv_iload_n hx hb dX7_stands_5 rfl (lv_at hl 1 rfl) ?_
    refine va_put (D := γ.1) (ci := 7) (v := .int x1) (ty := .int) (C := RX7) (T := TX7) (N := 35) hx hb hU uin7 tyX7 tyX7_ok nmX7 hown hK hP (hD _ _) hS 0 rfl rfl 32 (by decide) (hU _ U1001) (fun _ h9 => h9) rfl (by decide +kernel) rfl rfl (Nat.le_of_ble_eq_true rfl) dX7_stands_6 (fun H locs hP _ hS => ?_)
    obtain ⟨sm_3, e_sm_3, hf⟩ := nm_of hf
    replace hP : va_P γ.1 vwCl (wM γ am sm_3 sq) H := by rw [e_sm_3]; exact hP
    refine lv_iload_n hx hb dX7_stands_9 rfl (lv_at hl 2 rfl) ?_
    obtain ⟨g_4, hf⟩ := gd_of hf
    obtain ⟨rfl, rfl⟩ := rt2 hf
    exact kt_zret C0 (isZ_nar g_4) hP hS dX7_stands_10
set_option maxHeartbeats 4000000 in
set_option maxRecDepth 100000 in
theorem c_X7_mourning (l : Launch) (γ : Gm) (am : Nat → Nat) {sm : GS} {sq : Nat → Int64} {rv : Int32} (hf : f_X7_mourning sm = some rv) : Kt l γ yX7_mourning (Cond.code yX7_mourning cX7_mourning 3 (some .int) :: U) 1 21 [.ref (am 0)] (wM γ am sm sq) (some (.int rv)) (wM γ am sm sq) := by
  refine Kt.of (by decide) rfl (Nat.le_of_ble_eq_true rfl) rfl ?_
  intro p e s m below meth c A ls C0 hP hD0 hS hl
  obtain ⟨hx, hb, hml, hown, hts, hr, hlocks, hK, hE, hA⟩ := id C0
  have hU : ∀ w ∈ U, w.before _ s = true := fun w h => hts w (List.mem_cons_of_mem _ h)
  have hD : ∀ (sm : GS) (sq : Nat → Int64), va_D A (wM γ am sm sq) := fun _ _ => hD0.fst rfl
  have hl : lv_has ls 3 [(0, .ref (am 0))] := hl
  have L4 : ∀ (n : Nat) (x1_1 : Int32) (x2_2 : Int32) (H : Heap) (locs : List Loc) (ls : Array Slot), f_X7_mourning_L4 sm n x1_1 x2_2 = some rv → va_P γ.1 vwCl (wM γ am sm sq) H → va_S A s.heap H locs → lv_has ls 3 [(0, .ref (am 0)), (1, .int x1_1), (2, .int x2_2)] → W p l e (rmK 1 21) s m ([.ref (am 0)] : List Value).toArray below meth c H locs 0 0 (MQ below (KQ γ A (some (.int rv)) (wM γ am sm sq)) ([.ref (am 0)] : List Value).toArray s 0 0 A) (F0 m 4 ls []) := by
    intro n
    induction n with
    | zero =>
      intro x1_1 x2_2 H locs ls hf
      have hf : none = some _ := hf
      cases hf
    | succ n ih =>
      intro x1_1 x2_2 H locs ls hf hP hS hl
      rw [f_X7_mourning_L4.eq_2] at hf
      refine lv_iload_n hx hb dX7_mourning_4 rfl (lv_at hl 2 rfl) ?_
      refine lv_aload_n hx hb dX7_mourning_5 rfl (lv_at hl 0 rfl) ?_
      refine va_get (D := γ.1) (ci := 7) (v := .int (sm 0 3)) (C := RX7) (T := TX7) (N := 35) hx hb hU uin7 hown hK hP 0 rfl rfl 3 (by decide) (hU _ U972) (fun _ h9 => h9) rfl dX7_mourning_6 ?_
      refine lv_icmp_ge (tgt := 46) hx hb dX7_mourning_9 (by decide) (fun c_3 => ?_) (fun c_3 => ?_)
      · replace hf := ite_p c_3 hf
        refine lv_iload_n hx hb dX7_mourning_46 rfl (lv_at hl 1 rfl) ?_
        obtain rfl := Option.some.inj hf
        exact kt_iret C0 hP hS dX7_mourning_47
      · replace hf := ite_n c_3 hf
        refine lv_aload_n hx hb dX7_mourning_12 rfl (lv_at hl 0 rfl) ?_
        refine va_get (D := γ.1) (ci := 7) (v := .ref (am 9)) (C := RX7) (T := TX7) (N := 35) hx hb hU uin7 hown hK hP 0 rfl rfl 8 (by decide) (hU _ U977) (fun _ h9 => h9) rfl dX7_mourning_13 ?_
        refine lv_iload_n hx hb dX7_mourning_16 rfl (lv_at hl 2 rfl) ?_
        obtain ⟨g_4, hf⟩ := gd_of hf
        refine va_iald hx hb hK hP 8 0 rfl rfl (inB_vp g_4) dX7_mourning_17 ?_
        refine lv_iconst (v := 1) hx hb dX7_mourning_18 (by decide) ?_
        refine lv_icmp_ne (tgt := 40) hx hb dX7_mourning_19 (by decide) (fun c_5 => ?_) (fun c_5 => ?_)
        · replace hf := ite_n c_5 hf
          obtain ⟨x2_6, e_x2_6⟩ : ∃ y : Int32, y = x2_2 + (1 : Int32) := ⟨_, rfl⟩
          replace hf := nm_y hf e_x2_6
          refine lv_iinc (v := x2_6) (lv' := [(2, .int x2_6), (0, .ref (am 0)), (1, .int x1_1)]) hx hb dX7_mourning_40 hl (k := 2) rfl (by rw [e_x2_6]; rfl) (by decide) rfl (fun ls hl => ?_)
          refine lv_goto (tgt := 4) hx hb dX7_mourning_43 (by decide) ?_
          exact ih x1_1 x2_6 _ _ _ hf hP hS (lv_sub hl [1, 2, 0] rfl)
        · replace hf := ite_p c_5 hf
          refine lv_iload_n hx hb dX7_mourning_22 rfl (lv_at hl 1 rfl) ?_
          refine lv_iconst (v := 0) hx hb dX7_mourning_23 (by decide) ?_
          refine lv_aload_n hx hb dX7_mourning_24 rfl (lv_at hl 0 rfl) ?_
          refine va_get (D := γ.1) (ci := 7) (v := .ref (am 10)) (C := RX7) (T := TX7) (N := 35) hx hb hU uin7 hown hK hP 0 rfl rfl 9 (by decide) (hU _ U978) (fun _ h9 => h9) rfl dX7_mourning_25 ?_
          refine lv_iload_n hx hb dX7_mourning_28 rfl (lv_at hl 2 rfl) ?_
          obtain ⟨g_7, hf⟩ := gd_of hf
          refine va_iald hx hb hK hP 9 0 rfl rfl (inB_vp g_7) dX7_mourning_29 ?_
          refine lv_aload_n hx hb dX7_mourning_30 rfl (lv_at hl 0 rfl) ?_
          refine va_get (D := γ.1) (ci := 7) (v := .int (sm 0 17)) (C := RX7) (T := TX7) (N := 35) hx hb hU uin7 hown hK hP 0 rfl rfl 17 (by decide) (hU _ U986) (fun _ h9 => h9) rfl dX7_mourning_31 ?_
          refine lv_isub hx hb dX7_mourning_34 ?_
          refine va_mmax (rest := [.int x1_1]) (x := (0 : Int32)) (y := ((sm 10 x2_2.toNatClampNeg) - (sm 0 17))) hx hb (hml.trans hl.1.symm) hown (hU _ U1183) (hU _ U698) (hU _ U93) (hU _ U699) (Nat.le_of_ble_eq_true rfl) (Nat.le_of_ble_eq_true rfl) (Nat.zero_le _) (Nat.zero_le _) dX7_mourning_35 ?_
          refine lv_topi (fun u_8 e_u_8 => ?_)
          replace hf := nm_y hf e_u_8
          refine lv_iadd hx hb dX7_mourning_38 ?_
          refine lv_topi (fun u_9 e_u_9 => ?_)
          replace hf := nm_y hf e_u_9
          refine lv_istore_n (lv' := [(1, .int u_9), (0, .ref (am 0)), (2, .int x2_2)]) hx hb dX7_mourning_39 rfl hl (by decide) rfl (fun ls hl => ?_)
          obtain ⟨x2_10, e_x2_10⟩ : ∃ y : Int32, y = x2_2 + (1 : Int32) := ⟨_, rfl⟩
          replace hf := nm_y hf e_x2_10
          refine lv_iinc (v := x2_10) (lv' := [(2, .int x2_10), (1, .int u_9), (0, .ref (am 0))]) hx hb dX7_mourning_40 hl (k := 2) rfl (by rw [e_x2_10]; rfl) (by decide) rfl (fun ls hl => ?_)
          refine lv_goto (tgt := 4) hx hb dX7_mourning_43 (by decide) ?_
          exact ih u_9 x2_10 _ _ _ hf hP hS (lv_sub hl [2, 1, 0] rfl)
  unfold f_X7_mourning at hf
  refine lv_iconst (v := 0) hx hb dX7_mourning_0 (by decide) ?_
  refine lv_istore_n (lv' := [(1, .int (0 : Int32)), (0, .ref (am 0))]) hx hb dX7_mourning_1 rfl hl (by decide) rfl (fun ls hl => ?_)
  refine lv_iconst (v := 0) hx hb dX7_mourning_2 (by decide) ?_
  refine lv_istore_n (lv' := [(2, .int (0 : Int32)), (1, .int (0 : Int32)), (0, .ref (am 0))]) hx hb dX7_mourning_3 rfl hl (by decide) rfl (fun ls hl => ?_)
  exact L4 FU (0 : Int32) (0 : Int32) _ _ _ hf hP hS (lv_sub hl [2, 1, 0] rfl)
set_option maxHeartbeats 4000000 in
set_option maxRecDepth 100000 in
theorem c_X7_loses (l : Launch) (γ : Gm) (am : Nat → Nat) {sm : GS} {sq : Nat → Int64} {x1 : Int32} {rv : Int32} {sm_z : GS} (hf : f_X7_loses sm x1 = some (rv, sm_z)) : Kt l γ yX7_loses (Cond.code yX7_loses cX7_loses 4 (some .int) :: U) 4 90 [.ref (am 0), .int x1] (wM γ am sm sq) (some (.int rv)) (wM γ am sm_z sq) := by
  refine Kt.of (by decide) rfl (Nat.le_of_ble_eq_true rfl) rfl ?_
  intro p e s m below meth c A ls C0 hP hD0 hS hl
  obtain ⟨hx, hb, hml, hown, hts, hr, hlocks, hK, hE, hA⟩ := id C0
  have hU : ∀ w ∈ U, w.before _ s = true := fun w h => hts w (List.mem_cons_of_mem _ h)
  have hD : ∀ (sm : GS) (sq : Nat → Int64), va_D A (wM γ am sm sq) := fun _ _ => hD0.fst rfl
  have hl : lv_has ls 4 [(0, .ref (am 0)), (1, .int x1)] := hl
  have L23 : ∀ (x1_6 : Int32) (x2_7 : Int32) (n : Nat) (x3_8 : Int32) (sm_9 : GS) (H : Heap) (locs : List Loc) (ls : Array Slot), f_X7_loses_L23 x1_6 x2_7 n x3_8 sm_9 = some (rv, sm_z) → va_P γ.1 vwCl (wM γ am sm_9 sq) H → va_S A s.heap H locs → lv_has ls 4 [(0, .ref (am 0)), (1, .int x1_6), (2, .int x2_7), (3, .int x3_8)] → W p l e (rmK 4 90) s m ([.ref (am 0), .int x1] : List Value).toArray below meth c H locs 0 0 (MQ below (KQ γ A (some (.int rv)) (wM γ am sm_z sq)) ([.ref (am 0), .int x1] : List Value).toArray s 0 0 A) (F0 m 23 ls []) := by
    intro x1_6 x2_7
    intro n
    induction n with
    | zero =>
      intro x3_8 sm_9 H locs ls hf
      have hf : none = some _ := hf
      cases hf
    | succ n ih =>
      intro x3_8 sm_9 H locs ls hf hP hS hl
      rw [f_X7_loses_L23.eq_2] at hf
      refine lv_iload_n hx hb dX7_loses_23 rfl (lv_at hl 3 rfl) ?_
      refine lv_aload_n hx hb dX7_loses_24 rfl (lv_at hl 0 rfl) ?_
      refine va_get (D := γ.1) (ci := 7) (v := .int (sm_9 0 3)) (C := RX7) (T := TX7) (N := 35) hx hb hU uin7 hown hK hP 0 rfl rfl 3 (by decide) (hU _ U972) (fun _ h9 => h9) rfl dX7_loses_25 ?_
      refine lv_icmp_ge (tgt := 87) hx hb dX7_loses_28 (by decide) (fun c_10 => ?_) (fun c_10 => ?_)
      · replace hf := ite_p c_10 hf
        refine lv_aload_n hx hb dX7_loses_87 rfl (lv_at hl 0 rfl) ?_
        refine va_get (D := γ.1) (ci := 7) (v := .ref (am 9)) (C := RX7) (T := TX7) (N := 35) hx hb hU uin7 hown hK hP 0 rfl rfl 8 (by decide) (hU _ U977) (fun _ h9 => h9) rfl dX7_loses_88 ?_
        refine lv_iload_n hx hb dX7_loses_91 rfl (lv_at hl 1 rfl) ?_
        refine lv_iconst (v := 0) hx hb dX7_loses_92 (by decide) ?_
        obtain ⟨g_11, hf⟩ := gd_of hf
        refine va_iast hx hb hK hP (hD _ _) hS 8 0 rfl rfl (inB_vp g_11) dX7_loses_93 (fun H locs hP _ hS => ?_)
        obtain ⟨sm_12, e_sm_12, hf⟩ := nm_of hf
        replace hP : va_P γ.1 vwCl (wM γ am sm_12 sq) H := by rw [e_sm_12]; exact hP
        refine lv_aload_n hx hb dX7_loses_94 rfl (lv_at hl 0 rfl) ?_
        obtain ⟨sm_13, hg_14, hf⟩ := bd_of hf
        refine kt_V0 (As := []) (rest := []) (st1 := []) (b := am 0) C0 (c_X7_looks l γ am hg_14) (cxV (nA := 0) hts goodU U1170 U1172 U41 U91 U1173 (by decide +kernel) ⟨Nat.le_of_ble_eq_true rfl, Nat.le_of_ble_eq_true rfl⟩) hP (hD _ _) hS hl dX7_loses_95 0 7 rfl rfl rfl rfl (Nat.le_of_ble_eq_true rfl) rfl rfl (fun H locs hP hS => ?_)
        refine lv_aload_n hx hb dX7_loses_98 rfl (lv_at hl 0 rfl) ?_
        obtain ⟨r_15, hg_16, hf⟩ := bd_of hf
        refine kt_V0 (As := []) (rest := []) (st1 := [.int r_15]) (b := am 0) C0 (c_X7_mourning l γ am hg_16) (cxV (nA := 0) hts goodU U1276 U1278 U59 U91 U1279 (by decide +kernel) ⟨Nat.le_of_ble_eq_true rfl, Nat.le_of_ble_eq_true rfl⟩) hP (hD _ _) hS hl dX7_loses_99 0 7 rfl rfl rfl rfl (Nat.le_of_ble_eq_true rfl) rfl rfl (fun H locs hP hS => ?_)
        refine lv_iload_n hx hb dX7_loses_102 rfl (lv_at hl 2 rfl) ?_
        refine lv_isub hx hb dX7_loses_103 ?_
        obtain ⟨rfl, rfl⟩ := rt2 hf
        exact kt_iret C0 hP hS dX7_loses_104
      · replace hf := ite_n c_10 hf
        refine lv_aload_n hx hb dX7_loses_31 rfl (lv_at hl 0 rfl) ?_
        refine lv_iload_n hx hb dX7_loses_32 rfl (lv_at hl 3 rfl) ?_
        refine lv_iload_n hx hb dX7_loses_33 rfl (lv_at hl 1 rfl) ?_
        obtain ⟨r_17, hg_18, hf⟩ := bd_of hf
        refine kt_V0 (As := [.int x3_8, .int x1_6]) (rest := []) (st1 := [.int r_17]) (b := am 0) C0 (c_X7_sees l γ am hg_18) (cxV (nA := 2) hts goodU U1143 U1145 U37 U91 U1146 (by decide +kernel) ⟨Nat.le_of_ble_eq_true rfl, Nat.le_of_ble_eq_true rfl⟩) hP (hD _ _) hS hl dX7_loses_34 0 7 rfl rfl rfl rfl (Nat.le_of_ble_eq_true rfl) rfl rfl (fun H locs hP hS => ?_)
        refine lv_if_eq (tgt := 81) hx hb dX7_loses_37 (by decide) (fun c_19 => ?_) (fun c_19 => ?_)
        · replace hf := ite_p c_19 hf
          obtain ⟨x3_20, e_x3_20⟩ : ∃ y : Int32, y = x3_8 + (1 : Int32) := ⟨_, rfl⟩
          replace hf := nm_y hf e_x3_20
          refine lv_iinc (v := x3_20) (lv' := [(3, .int x3_20), (0, .ref (am 0)), (1, .int x1_6), (2, .int x2_7)]) hx hb dX7_loses_81 hl (k := 3) rfl (by rw [e_x3_20]; rfl) (by decide) rfl (fun ls hl => ?_)
          refine lv_goto (tgt := 23) hx hb dX7_loses_84 (by decide) ?_
          exact ih x3_20 sm_9 _ _ _ hf hP hS (lv_sub hl [1, 2, 3, 0] rfl)
        · replace hf := ite_n c_19 hf
          refine lv_aload_n hx hb dX7_loses_40 rfl (lv_at hl 0 rfl) ?_
          refine va_get (D := γ.1) (ci := 7) (v := .ref (am 10)) (C := RX7) (T := TX7) (N := 35) hx hb hU uin7 hown hK hP 0 rfl rfl 9 (by decide) (hU _ U978) (fun _ h9 => h9) rfl dX7_loses_41 ?_
          refine lv_iload_n hx hb dX7_loses_44 rfl (lv_at hl 3 rfl) ?_
          refine lv_aload_n hx hb dX7_loses_45 rfl (lv_at hl 0 rfl) ?_
          refine va_get (D := γ.1) (ci := 7) (v := .ref (am 10)) (C := RX7) (T := TX7) (N := 35) hx hb hU uin7 hown hK hP 0 rfl rfl 9 (by decide) (hU _ U978) (fun _ h9 => h9) rfl dX7_loses_46 ?_
          refine lv_iload_n hx hb dX7_loses_49 rfl (lv_at hl 3 rfl) ?_
          obtain ⟨g_21, hf⟩ := gd_of hf
          refine va_iald hx hb hK hP 9 0 rfl rfl (inB_vp g_21) dX7_loses_50 ?_
          refine lv_aload_n hx hb dX7_loses_51 rfl (lv_at hl 0 rfl) ?_
          refine va_get (D := γ.1) (ci := 7) (v := .int (sm_9 0 17)) (C := RX7) (T := TX7) (N := 35) hx hb hU uin7 hown hK hP 0 rfl rfl 17 (by decide) (hU _ U986) (fun _ h9 => h9) rfl dX7_loses_52 ?_
          refine lv_aload_n hx hb dX7_loses_55 rfl (lv_at hl 0 rfl) ?_
          refine lv_iload_n hx hb dX7_loses_56 rfl (lv_at hl 3 rfl) ?_
          refine lv_aload_n hx hb dX7_loses_57 rfl (lv_at hl 0 rfl) ?_
          refine va_get (D := γ.1) (ci := 7) (v := .int (sm_9 0 17)) (C := RX7) (T := TX7) (N := 35) hx hb hU uin7 hown hK hP 0 rfl rfl 17 (by decide) (hU _ U986) (fun _ h9 => h9) rfl dX7_loses_58 ?_
          refine lv_aload_n hx hb dX7_loses_61 rfl (lv_at hl 0 rfl) ?_
          refine va_get (D := γ.1) (ci := 7) (v := .ref (am 11)) (C := RX7) (T := TX7) (N := 35) hx hb hU uin7 hown hK hP 0 rfl rfl 10 (by decide) (hU _ U979) (fun _ h9 => h9) rfl dX7_loses_62 ?_
          refine lv_bipush (v := 10) hx hb dX7_loses_65 (by decide) ?_
          refine lv_iload_n hx hb dX7_loses_67 rfl (lv_at hl 3 rfl) ?_
          refine lv_imul hx hb dX7_loses_68 ?_
          refine lv_iload_n hx hb dX7_loses_69 rfl (lv_at hl 1 rfl) ?_
          refine lv_iadd hx hb dX7_loses_70 ?_
          obtain ⟨g_22, hf⟩ := gd_of hf
          refine va_iald hx hb hK hP 10 0 rfl rfl (inB_vp g_22) dX7_loses_71 ?_
          refine lv_isub hx hb dX7_loses_72 ?_
          obtain ⟨r_23, hg_24, hf⟩ := bd_of hf
          refine kt_V0 (As := [.int x3_8, .int ((sm_9 0 17) - (sm_9 11 (((10 : Int32) * x3_8) + x1_6).toNatClampNeg))]) (rest := [.int (sm_9 0 17), .int (sm_9 10 x3_8.toNatClampNeg), .int x3_8, .ref (am 10)]) (st1 := [.int r_23, .int (sm_9 0 17), .int (sm_9 10 x3_8.toNatClampNeg), .int x3_8, .ref (am 10)]) (b := am 0) C0 (c_X7_mourns l γ am hg_24) (cxV (nA := 2) hts goodU U1147 U1149 U38 U91 U1150 (by decide +kernel) ⟨Nat.le_of_ble_eq_true rfl, Nat.le_of_ble_eq_true rfl⟩) hP (hD _ _) hS hl dX7_loses_73 0 7 rfl rfl rfl rfl (Nat.le_of_ble_eq_true rfl) rfl rfl (fun H locs hP hS => ?_)
          refine lv_iadd hx hb dX7_loses_76 ?_
          refine va_mmax (rest := [.int x3_8, .ref (am 10)]) (x := (sm_9 10 x3_8.toNatClampNeg)) (y := ((sm_9 0 17) + r_23)) hx hb (hml.trans hl.1.symm) hown (hU _ U1183) (hU _ U698) (hU _ U93) (hU _ U699) (Nat.le_of_ble_eq_true rfl) (Nat.le_of_ble_eq_true rfl) (Nat.zero_le _) (Nat.zero_le _) dX7_loses_77 ?_
          refine lv_topi (fun u_25 e_u_25 => ?_)
          replace hf := nm_y hf e_u_25
          obtain ⟨g_26, hf⟩ := gd_of hf
          refine va_iast hx hb hK hP (hD _ _) hS 9 0 rfl rfl (inB_vp g_26) dX7_loses_80 (fun H locs hP _ hS => ?_)
          obtain ⟨sm_27, e_sm_27, hf⟩ := nm_of hf
          replace hP : va_P γ.1 vwCl (wM γ am sm_27 sq) H := by rw [e_sm_27]; exact hP
          obtain ⟨x3_28, e_x3_28⟩ : ∃ y : Int32, y = x3_8 + (1 : Int32) := ⟨_, rfl⟩
          replace hf := nm_y hf e_x3_28
          refine lv_iinc (v := x3_28) (lv' := [(3, .int x3_28), (0, .ref (am 0)), (1, .int x1_6), (2, .int x2_7)]) hx hb dX7_loses_81 hl (k := 3) rfl (by rw [e_x3_28]; rfl) (by decide) rfl (fun ls hl => ?_)
          refine lv_goto (tgt := 23) hx hb dX7_loses_84 (by decide) ?_
          exact ih x3_28 sm_27 _ _ _ hf hP hS (lv_sub hl [1, 2, 3, 0] rfl)
  unfold f_X7_loses at hf
  refine lv_aload_n hx hb dX7_loses_0 rfl (lv_at hl 0 rfl) ?_
  obtain ⟨r_1, hg_2, hf⟩ := bd_of hf
  refine kt_V0 (As := []) (rest := []) (st1 := [.int r_1]) (b := am 0) C0 (c_X7_mourning l γ am hg_2) (cxV (nA := 0) hts goodU U1276 U1278 U59 U91 U1279 (by decide +kernel) ⟨Nat.le_of_ble_eq_true rfl, Nat.le_of_ble_eq_true rfl⟩) hP (hD _ _) hS hl dX7_loses_1 0 7 rfl rfl rfl rfl (Nat.le_of_ble_eq_true rfl) rfl rfl (fun H locs hP hS => ?_)
  refine lv_iconst (v := 0) hx hb dX7_loses_4 (by decide) ?_
  refine lv_aload_n hx hb dX7_loses_5 rfl (lv_at hl 0 rfl) ?_
  refine va_get (D := γ.1) (ci := 7) (v := .ref (am 10)) (C := RX7) (T := TX7) (N := 35) hx hb hU uin7 hown hK hP 0 rfl rfl 9 (by decide) (hU _ U978) (fun _ h9 => h9) rfl dX7_loses_6 ?_
  refine lv_iload_n hx hb dX7_loses_9 rfl (lv_at hl 1 rfl) ?_
  obtain ⟨g_3, hf⟩ := gd_of hf
  refine va_iald hx hb hK hP 9 0 rfl rfl (inB_vp g_3) dX7_loses_10 ?_
  refine lv_aload_n hx hb dX7_loses_11 rfl (lv_at hl 0 rfl) ?_
  refine va_get (D := γ.1) (ci := 7) (v := .int (sm 0 17)) (C := RX7) (T := TX7) (N := 35) hx hb hU uin7 hown hK hP 0 rfl rfl 17 (by decide) (hU _ U986) (fun _ h9 => h9) rfl dX7_loses_12 ?_
  refine lv_isub hx hb dX7_loses_15 ?_
  refine va_mmax (rest := [.int r_1]) (x := (0 : Int32)) (y := ((sm 10 x1.toNatClampNeg) - (sm 0 17))) hx hb (hml.trans hl.1.symm) hown (hU _ U1183) (hU _ U698) (hU _ U93) (hU _ U699) (Nat.le_of_ble_eq_true rfl) (Nat.le_of_ble_eq_true rfl) (Nat.zero_le _) (Nat.zero_le _) dX7_loses_16 ?_
  refine lv_topi (fun u_4 e_u_4 => ?_)
  replace hf := nm_y hf e_u_4
  refine lv_isub hx hb dX7_loses_19 ?_
  refine lv_topi (fun u_5 e_u_5 => ?_)
  replace hf := nm_y hf e_u_5
  refine lv_istore_n (lv' := [(2, .int u_5), (0, .ref (am 0)), (1, .int x1)]) hx hb dX7_loses_20 rfl hl (by decide) rfl (fun ls hl => ?_)
  refine lv_iconst (v := 0) hx hb dX7_loses_21 (by decide) ?_
  refine lv_istore_n (lv' := [(3, .int (0 : Int32)), (2, .int u_5), (0, .ref (am 0)), (1, .int x1)]) hx hb dX7_loses_22 rfl hl (by decide) rfl (fun ls hl => ?_)
  exact L23 x1 u_5 FU (0 : Int32) sm _ _ _ hf hP hS (lv_sub hl [2, 3, 1, 0] rfl)
