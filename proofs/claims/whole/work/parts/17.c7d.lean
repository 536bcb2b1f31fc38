set_option maxHeartbeats 4000000 in
set_option maxRecDepth 100000 in
theorem c_X7_again_25 (l : Launch) (γ : Gm) (am : Nat → Nat) {sm : GS} {sq : Nat → Int64} {sm_z : GS} (hf : f_X7_again 25 sm = some sm_z) : Kt l γ yX7_again (Cond.code yX7_again cX7_again 3 none :: U) 0 0 [.ref (am 0), .ref (am (25))] (wM γ am sm sq) none (wM γ am sm_z sq) := by
  refine Kt.of (by decide) rfl (Nat.le_of_ble_eq_true rfl) rfl ?_
  intro p e s m below meth c A ls C0 hP hD0 hS hl
  obtain ⟨hx, hb, hml, hown, hts, hr, hlocks, hK, hE, hA⟩ := id C0
  have hU : ∀ w ∈ U, w.before _ s = true := fun w h => hts w (List.mem_cons_of_mem _ h)
  have hD : ∀ (sm : GS) (sq : Nat → Int64), va_D A (wM γ am sm sq) := fun _ _ => hD0.fst rfl
  have hl : lv_has ls 3 [(0, .ref (am 0)), (1, .ref (am (25)))] := hl
  have L2 : ∀ (K83 : GS → Option (GS)) (HK83 : ∀ (zsm : GS) (H : Heap) (locs : List Loc) (ls : Array Slot), K83 zsm = some sm_z → va_P γ.1 vwCl (wM γ am zsm sq) H → va_S A s.heap H locs → lv_has ls 3 [(0, .ref (am 0)), (1, .ref (am (25)))] → W p l e (rmK 0 0) s m ([.ref (am 0), .ref (am (25))] : List Value).toArray below meth c H locs 0 0 (MQ below (KQ γ A none (wM γ am sm_z sq)) ([.ref (am 0), .ref (am (25))] : List Value).toArray s 0 0 A) (F0 m 83 ls [])) (n : Nat) (x2_1 : Int32) (sm_2 : GS) (H : Heap) (locs : List Loc) (ls : Array Slot), f_X7_again_L2 25 K83 n x2_1 sm_2 = some sm_z → va_P γ.1 vwCl (wM γ am sm_2 sq) H → va_S A s.heap H locs → lv_has ls 3 [(0, .ref (am 0)), (1, .ref (am (25))), (2, .int x2_1)] → W p l e (rmK 0 0) s m ([.ref (am 0), .ref (am (25))] : List Value).toArray below meth c H locs 0 0 (MQ below (KQ γ A none (wM γ am sm_z sq)) ([.ref (am 0), .ref (am (25))] : List Value).toArray s 0 0 A) (F0 m 2 ls []) := by
    intro K83 HK83
    intro n
    induction n with
    | zero =>
      intro x2_1 sm_2 H locs ls hf
      have hf : none = some _ := hf
      cases hf
    | succ n ih =>
      intro x2_1 sm_2 H locs ls hf hP hS hl
      rw [f_X7_again_L2.eq_2] at hf
      refine lv_iload_n hx hb dX7_again_2 rfl (lv_at hl 2 rfl) ?_
      refine lv_bipush (v := 10) hx hb dX7_again_3 (by decide) ?_
      refine lv_icmp_ge (tgt := 83) hx hb dX7_again_5 (by decide) (fun c_3 => ?_) (fun c_3 => ?_)
      · replace hf := ite_p c_3 hf
        exact HK83 sm_2 _ _ _ hf hP hS (lv_sub hl [0, 1] rfl)
      · replace hf := ite_n c_3 hf
        refine lv_aload_n hx hb dX7_again_8 rfl (lv_at hl 0 rfl) ?_
        refine va_get (D := γ.1) (ci := 7) (v := .ref (am 5)) (C := RX7) (T := TX7) (N := 35) hx hb hU uin7 hown hK hP 0 rfl rfl 4 (by decide) (hU _ U973) (fun _ h9 => h9) rfl dX7_again_9 ?_
        refine lv_iload_n hx hb dX7_again_12 rfl (lv_at hl 2 rfl) ?_
        refine lv_aload_n hx hb dX7_again_13 rfl (lv_at hl 1 rfl) ?_
        refine lv_iload_n hx hb dX7_again_14 rfl (lv_at hl 2 rfl) ?_
        obtain ⟨g_4, hf⟩ := gd_of hf
        refine va_iald hx hb hK hP 17 0 rfl rfl (inB_vp g_4) dX7_again_15 ?_
        refine lv_topi (fun u_5 e_u_5 => ?_)
        replace hf := nm_y hf e_u_5
        obtain ⟨g_6, hf⟩ := gd_of hf
        refine va_iast hx hb hK hP (hD _ _) hS 4 0 rfl rfl (inB_vp g_6) dX7_again_16 (fun H locs hP _ hS => ?_)
        obtain ⟨sm_7, e_sm_7, hf⟩ := nm_of hf
        replace hP : va_P γ.1 vwCl (wM γ am sm_7 sq) H := by rw [e_sm_7]; exact hP
        refine lv_aload_n hx hb dX7_again_17 rfl (lv_at hl 0 rfl) ?_
        refine va_get (D := γ.1) (ci := 7) (v := .ref (am 6)) (C := RX7) (T := TX7) (N := 35) hx hb hU uin7 hown hK hP 0 rfl rfl 5 (by decide) (hU _ U974) (fun _ h9 => h9) rfl dX7_again_18 ?_
        refine lv_iload_n hx hb dX7_again_21 rfl (lv_at hl 2 rfl) ?_
        refine lv_aload_n hx hb dX7_again_22 rfl (lv_at hl 1 rfl) ?_
        refine lv_bipush (v := 10) hx hb dX7_again_23 (by decide) ?_
        refine lv_iload_n hx hb dX7_again_25 rfl (lv_at hl 2 rfl) ?_
        refine lv_iadd hx hb dX7_again_26 ?_
        obtain ⟨g_8, hf⟩ := gd_of hf
        refine va_iald hx hb hK hP 17 0 rfl rfl (inB_vp g_8) dX7_again_27 ?_
        refine lv_topi (fun u_9 e_u_9 => ?_)
        replace hf := nm_y hf e_u_9
        obtain ⟨g_10, hf⟩ := gd_of hf
        refine va_iast hx hb hK hP (hD _ _) hS 5 0 rfl rfl (inB_vp g_10) dX7_again_28 (fun H locs hP _ hS => ?_)
        obtain ⟨sm_11, e_sm_11, hf⟩ := nm_of hf
        replace hP : va_P γ.1 vwCl (wM γ am sm_11 sq) H := by rw [e_sm_11]; exact hP
        refine lv_aload_n hx hb dX7_again_29 rfl (lv_at hl 0 rfl) ?_
        refine va_get (D := γ.1) (ci := 7) (v := .ref (am 7)) (C := RX7) (T := TX7) (N := 35) hx hb hU uin7 hown hK hP 0 rfl rfl 6 (by decide) (hU _ U975) (fun _ h9 => h9) rfl dX7_again_30 ?_
        refine lv_iload_n hx hb dX7_again_33 rfl (lv_at hl 2 rfl) ?_
        refine lv_aload_n hx hb dX7_again_34 rfl (lv_at hl 1 rfl) ?_
        refine lv_bipush (v := 20) hx hb dX7_again_35 (by decide) ?_
        refine lv_iload_n hx hb dX7_again_37 rfl (lv_at hl 2 rfl) ?_
        refine lv_iadd hx hb dX7_again_38 ?_
        obtain ⟨g_12, hf⟩ := gd_of hf
        refine va_iald hx hb hK hP 17 0 rfl rfl (inB_vp g_12) dX7_again_39 ?_
        refine lv_topi (fun u_13 e_u_13 => ?_)
        replace hf := nm_y hf e_u_13
        obtain ⟨g_14, hf⟩ := gd_of hf
        refine va_iast hx hb hK hP (hD _ _) hS 6 0 rfl rfl (inB_vp g_14) dX7_again_40 (fun H locs hP _ hS => ?_)
        obtain ⟨sm_15, e_sm_15, hf⟩ := nm_of hf
        replace hP : va_P γ.1 vwCl (wM γ am sm_15 sq) H := by rw [e_sm_15]; exact hP
        refine lv_aload_n hx hb dX7_again_41 rfl (lv_at hl 0 rfl) ?_
        refine va_get (D := γ.1) (ci := 7) (v := .ref (am 8)) (C := RX7) (T := TX7) (N := 35) hx hb hU uin7 hown hK hP 0 rfl rfl 7 (by decide) (hU _ U976) (fun _ h9 => h9) rfl dX7_again_42 ?_
        refine lv_iload_n hx hb dX7_again_45 rfl (lv_at hl 2 rfl) ?_
        refine lv_aload_n hx hb dX7_again_46 rfl (lv_at hl 1 rfl) ?_
        refine lv_bipush (v := 30) hx hb dX7_again_47 (by decide) ?_
        refine lv_iload_n hx hb dX7_again_49 rfl (lv_at hl 2 rfl) ?_
        refine lv_iadd hx hb dX7_again_50 ?_
        obtain ⟨g_16, hf⟩ := gd_of hf
        refine va_iald hx hb hK hP 17 0 rfl rfl (inB_vp g_16) dX7_again_51 ?_
        refine lv_topi (fun u_17 e_u_17 => ?_)
        replace hf := nm_y hf e_u_17
        obtain ⟨g_18, hf⟩ := gd_of hf
        refine va_iast hx hb hK hP (hD _ _) hS 7 0 rfl rfl (inB_vp g_18) dX7_again_52 (fun H locs hP _ hS => ?_)
        obtain ⟨sm_19, e_sm_19, hf⟩ := nm_of hf
        replace hP : va_P γ.1 vwCl (wM γ am sm_19 sq) H := by rw [e_sm_19]; exact hP
        refine lv_aload_n hx hb dX7_again_53 rfl (lv_at hl 0 rfl) ?_
        refine va_get (D := γ.1) (ci := 7) (v := .ref (am 9)) (C := RX7) (T := TX7) (N := 35) hx hb hU uin7 hown hK hP 0 rfl rfl 8 (by decide) (hU _ U977) (fun _ h9 => h9) rfl dX7_again_54 ?_
        refine lv_iload_n hx hb dX7_again_57 rfl (lv_at hl 2 rfl) ?_
        refine lv_aload_n hx hb dX7_again_58 rfl (lv_at hl 1 rfl) ?_
        refine lv_bipush (v := 40) hx hb dX7_again_59 (by decide) ?_
        refine lv_iload_n hx hb dX7_again_61 rfl (lv_at hl 2 rfl) ?_
        refine lv_iadd hx hb dX7_again_62 ?_
        obtain ⟨g_20, hf⟩ := gd_of hf
        refine va_iald hx hb hK hP 17 0 rfl rfl (inB_vp g_20) dX7_again_63 ?_
        refine lv_topi (fun u_21 e_u_21 => ?_)
        replace hf := nm_y hf e_u_21
        obtain ⟨g_22, hf⟩ := gd_of hf
        refine va_iast hx hb hK hP (hD _ _) hS 8 0 rfl rfl (inB_vp g_22) dX7_again_64 (fun H locs hP _ hS => ?_)
        obtain ⟨sm_23, e_sm_23, hf⟩ := nm_of hf
        replace hP : va_P γ.1 vwCl (wM γ am sm_23 sq) H := by rw [e_sm_23]; exact hP
        refine lv_aload_n hx hb dX7_again_65 rfl (lv_at hl 0 rfl) ?_
        refine va_get (D := γ.1) (ci := 7) (v := .ref (am 10)) (C := RX7) (T := TX7) (N := 35) hx hb hU uin7 hown hK hP 0 rfl rfl 9 (by decide) (hU _ U978) (fun _ h9 => h9) rfl dX7_again_66 ?_
        refine lv_iload_n hx hb dX7_again_69 rfl (lv_at hl 2 rfl) ?_
        refine lv_aload_n hx hb dX7_again_70 rfl (lv_at hl 1 rfl) ?_
        refine lv_bipush (v := 50) hx hb dX7_again_71 (by decide) ?_
        refine lv_iload_n hx hb dX7_again_73 rfl (lv_at hl 2 rfl) ?_
        refine lv_iadd hx hb dX7_again_74 ?_
        obtain ⟨g_24, hf⟩ := gd_of hf
        refine va_iald hx hb hK hP 17 0 rfl rfl (inB_vp g_24) dX7_again_75 ?_
        refine lv_topi (fun u_25 e_u_25 => ?_)
        replace hf := nm_y hf e_u_25
        obtain ⟨g_26, hf⟩ := gd_of hf
        refine va_iast hx hb hK hP (hD _ _) hS 9 0 rfl rfl (inB_vp g_26) dX7_again_76 (fun H locs hP _ hS => ?_)
        obtain ⟨sm_27, e_sm_27, hf⟩ := nm_of hf
        replace hP : va_P γ.1 vwCl (wM γ am sm_27 sq) H := by rw [e_sm_27]; exact hP
        obtain ⟨x2_28, e_x2_28⟩ : ∃ y : Int32, y = x2_1 + (1 : Int32) := ⟨_, rfl⟩
        replace hf := nm_y hf e_x2_28
        refine lv_iinc (v := x2_28) (lv' := [(2, .int x2_28), (0, .ref (am 0)), (1, .ref (am (25)))]) hx hb dX7_again_77 hl (k := 2) rfl (by rw [e_x2_28]; rfl) (by decide) rfl (fun ls hl => ?_)
        refine lv_goto (tgt := 2) hx hb dX7_again_80 (by decide) ?_
        exact ih x2_28 sm_27 _ _ _ hf hP hS (lv_sub hl [1, 2, 0] rfl)
  have L85 : ∀ (K109 : GS → Option (GS)) (HK109 : ∀ (zsm : GS) (H : Heap) (locs : List Loc) (ls : Array Slot), K109 zsm = some sm_z → va_P γ.1 vwCl (wM γ am zsm sq) H → va_S A s.heap H locs → lv_has ls 3 [(0, .ref (am 0)), (1, .ref (am (25)))] → W p l e (rmK 0 0) s m ([.ref (am 0), .ref (am (25))] : List Value).toArray below meth c H locs 0 0 (MQ below (KQ γ A none (wM γ am sm_z sq)) ([.ref (am 0), .ref (am (25))] : List Value).toArray s 0 0 A) (F0 m 109 ls [])) (n : Nat) (x2_30 : Int32) (sm_31 : GS) (H : Heap) (locs : List Loc) (ls : Array Slot), f_X7_again_L85 25 K109 n x2_30 sm_31 = some sm_z → va_P γ.1 vwCl (wM γ am sm_31 sq) H → va_S A s.heap H locs → lv_has ls 3 [(0, .ref (am 0)), (1, .ref (am (25))), (2, .int x2_30)] → W p l e (rmK 0 0) s m ([.ref (am 0), .ref (am (25))] : List Value).toArray below meth c H locs 0 0 (MQ below (KQ γ A none (wM γ am sm_z sq)) ([.ref (am 0), .ref (am (25))] : List Value).toArray s 0 0 A) (F0 m 85 ls []) := by
    intro K109 HK109
    intro n
    induction n with
    | zero =>
      intro x2_30 sm_31 H locs ls hf
      have hf : none = some _ := hf
      cases hf
    | succ n ih =>
      intro x2_30 sm_31 H locs ls hf hP hS hl
      rw [f_X7_again_L85.eq_2] at hf
      refine lv_iload_n hx hb dX7_again_85 rfl (lv_at hl 2 rfl) ?_
      refine lv_bipush (v := 100) hx hb dX7_again_86 (by decide) ?_
      refine lv_icmp_ge (tgt := 109) hx hb dX7_again_88 (by decide) (fun c_32 => ?_) (fun c_32 => ?_)
      · replace hf := ite_p c_32 hf
        exact HK109 sm_31 _ _ _ hf hP hS (lv_sub hl [0, 1] rfl)
      · replace hf := ite_n c_32 hf
        refine lv_aload_n hx hb dX7_again_91 rfl (lv_at hl 0 rfl) ?_
        refine va_get (D := γ.1) (ci := 7) (v := .ref (am 11)) (C := RX7) (T := TX7) (N := 35) hx hb hU uin7 hown hK hP 0 rfl rfl 10 (by decide) (hU _ U979) (fun _ h9 => h9) rfl dX7_again_92 ?_
        refine lv_iload_n hx hb dX7_again_95 rfl (lv_at hl 2 rfl) ?_
        refine lv_aload_n hx hb dX7_again_96 rfl (lv_at hl 1 rfl) ?_
        refine lv_bipush (v := 60) hx hb dX7_again_97 (by decide) ?_
        refine lv_iload_n hx hb dX7_again_99 rfl (lv_at hl 2 rfl) ?_
        refine lv_iadd hx hb dX7_again_100 ?_
        obtain ⟨g_33, hf⟩ := gd_of hf
        refine va_iald hx hb hK hP 17 0 rfl rfl (inB_vp g_33) dX7_again_101 ?_
        refine lv_topi (fun u_34 e_u_34 => ?_)
        replace hf := nm_y hf e_u_34
        obtain ⟨g_35, hf⟩ := gd_of hf
        refine va_iast hx hb hK hP (hD _ _) hS 10 0 rfl rfl (inB_vp g_35) dX7_again_102 (fun H locs hP _ hS => ?_)
        obtain ⟨sm_36, e_sm_36, hf⟩ := nm_of hf
        replace hP : va_P γ.1 vwCl (wM γ am sm_36 sq) H := by rw [e_sm_36]; exact hP
        obtain ⟨x2_37, e_x2_37⟩ : ∃ y : Int32, y = x2_30 + (1 : Int32) := ⟨_, rfl⟩
        replace hf := nm_y hf e_x2_37
        refine lv_iinc (v := x2_37) (lv' := [(2, .int x2_37), (0, .ref (am 0)), (1, .ref (am (25)))]) hx hb dX7_again_103 hl (k := 2) rfl (by rw [e_x2_37]; rfl) (by decide) rfl (fun ls hl => ?_)
        refine lv_goto (tgt := 85) hx hb dX7_again_106 (by decide) ?_
        exact ih x2_37 sm_36 _ _ _ hf hP hS (lv_sub hl [1, 2, 0] rfl)
  have L111 : ∀ (K149 : GS → Option (GS)) (HK149 : ∀ (zsm : GS) (H : Heap) (locs : List Loc) (ls : Array Slot), K149 zsm = some sm_z → va_P γ.1 vwCl (wM γ am zsm sq) H → va_S A s.heap H locs → lv_has ls 3 [(0, .ref (am 0)), (1, .ref (am (25)))] → W p l e (rmK 0 0) s m ([.ref (am 0), .ref (am (25))] : List Value).toArray below meth c H locs 0 0 (MQ below (KQ γ A none (wM γ am sm_z sq)) ([.ref (am 0), .ref (am (25))] : List Value).toArray s 0 0 A) (F0 m 149 ls [])) (n : Nat) (x2_39 : Int32) (sm_40 : GS) (H : Heap) (locs : List Loc) (ls : Array Slot), f_X7_again_L111 25 K149 n x2_39 sm_40 = some sm_z → va_P γ.1 vwCl (wM γ am sm_40 sq) H → va_S A s.heap H locs → lv_has ls 3 [(0, .ref (am 0)), (1, .ref (am (25))), (2, .int x2_39)] → W p l e (rmK 0 0) s m ([.ref (am 0), .ref (am (25))] : List Value).toArray below meth c H locs 0 0 (MQ below (KQ γ A none (wM γ am sm_z sq)) ([.ref (am 0), .ref (am (25))] : List Value).toArray s 0 0 A) (F0 m 111 ls []) := by
    intro K149 HK149
    intro n
    induction n with
    | zero =>
      intro x2_39 sm_40 H locs ls hf
      have hf : none = some _ := hf
      cases hf
    | succ n ih =>
      intro x2_39 sm_40 H locs ls hf hP hS hl
      rw [f_X7_again_L111.eq_2] at hf
      refine lv_iload_n hx hb dX7_again_111 rfl (lv_at hl 2 rfl) ?_
      refine lv_bipush (v := 6) hx hb dX7_again_112 (by decide) ?_
      refine lv_icmp_ge (tgt := 149) hx hb dX7_again_114 (by decide) (fun c_41 => ?_) (fun c_41 => ?_)
      · replace hf := ite_p c_41 hf
        exact HK149 sm_40 _ _ _ hf hP hS (lv_sub hl [0, 1] rfl)
      · replace hf := ite_n c_41 hf
        refine lv_aload_n hx hb dX7_again_117 rfl (lv_at hl 0 rfl) ?_
        refine va_get (D := γ.1) (ci := 7) (v := .ref (am 13)) (C := RX7) (T := TX7) (N := 35) hx hb hU uin7 hown hK hP 0 rfl rfl 12 (by decide) (hU _ U981) (fun _ h9 => h9) rfl dX7_again_118 ?_
        refine lv_iload_n hx hb dX7_again_121 rfl (lv_at hl 2 rfl) ?_
        refine lv_aload_n hx hb dX7_again_122 rfl (lv_at hl 1 rfl) ?_
        refine lv_sipush (v := 160) hx hb dX7_again_123 (by decide) ?_
        refine lv_iload_n hx hb dX7_again_126 rfl (lv_at hl 2 rfl) ?_
        refine lv_iadd hx hb dX7_again_127 ?_
        obtain ⟨g_42, hf⟩ := gd_of hf
        refine va_iald hx hb hK hP 17 0 rfl rfl (inB_vp g_42) dX7_again_128 ?_
        refine lv_topi (fun u_43 e_u_43 => ?_)
        replace hf := nm_y hf e_u_43
        obtain ⟨g_44, hf⟩ := gd_of hf
        refine va_iast hx hb hK hP (hD _ _) hS 11 0 rfl rfl (inB_vp g_44) dX7_again_129 (fun H locs hP _ hS => ?_)
        obtain ⟨sm_45, e_sm_45, hf⟩ := nm_of hf
        replace hP : va_P γ.1 vwCl (wM γ am sm_45 sq) H := by rw [e_sm_45]; exact hP
        refine lv_aload_n hx hb dX7_again_130 rfl (lv_at hl 0 rfl) ?_
        refine va_get (D := γ.1) (ci := 7) (v := .ref (am 14)) (C := RX7) (T := TX7) (N := 35) hx hb hU uin7 hown hK hP 0 rfl rfl 13 (by decide) (hU _ U982) (fun _ h9 => h9) rfl dX7_again_131 ?_
        refine lv_iload_n hx hb dX7_again_134 rfl (lv_at hl 2 rfl) ?_
        refine lv_aload_n hx hb dX7_again_135 rfl (lv_at hl 1 rfl) ?_
        refine lv_sipush (v := 166) hx hb dX7_again_136 (by decide) ?_
        refine lv_iload_n hx hb dX7_again_139 rfl (lv_at hl 2 rfl) ?_
        refine lv_iadd hx hb dX7_again_140 ?_
        obtain ⟨g_46, hf⟩ := gd_of hf
        refine va_iald hx hb hK hP 17 0 rfl rfl (inB_vp g_46) dX7_again_141 ?_
        refine lv_topi (fun u_47 e_u_47 => ?_)
        replace hf := nm_y hf e_u_47
        obtain ⟨g_48, hf⟩ := gd_of hf
        refine va_iast hx hb hK hP (hD _ _) hS 12 0 rfl rfl (inB_vp g_48) dX7_again_142 (fun H locs hP _ hS => ?_)
        obtain ⟨sm_49, e_sm_49, hf⟩ := nm_of hf
        replace hP : va_P γ.1 vwCl (wM γ am sm_49 sq) H := by rw [e_sm_49]; exact hP
        obtain ⟨x2_50, e_x2_50⟩ : ∃ y : Int32, y = x2_39 + (1 : Int32) := ⟨_, rfl⟩
        replace hf := nm_y hf e_x2_50
        refine lv_iinc (v := x2_50) (lv' := [(2, .int x2_50), (0, .ref (am 0)), (1, .ref (am (25)))]) hx hb dX7_again_143 hl (k := 2) rfl (by rw [e_x2_50]; rfl) (by decide) rfl (fun ls hl => ?_)
        refine lv_goto (tgt := 111) hx hb dX7_again_146 (by decide) ?_
        exact ih x2_50 sm_49 _ _ _ hf hP hS (lv_sub hl [1, 2, 0] rfl)
  have L151 : ∀ (K189 : GS → Option (GS)) (HK189 : ∀ (zsm : GS) (H : Heap) (locs : List Loc) (ls : Array Slot), K189 zsm = some sm_z → va_P γ.1 vwCl (wM γ am zsm sq) H → va_S A s.heap H locs → lv_has ls 3 [(0, .ref (am 0)), (1, .ref (am (25)))] → W p l e (rmK 0 0) s m ([.ref (am 0), .ref (am (25))] : List Value).toArray below meth c H locs 0 0 (MQ below (KQ γ A none (wM γ am sm_z sq)) ([.ref (am 0), .ref (am (25))] : List Value).toArray s 0 0 A) (F0 m 189 ls [])) (n : Nat) (x2_52 : Int32) (sm_53 : GS) (H : Heap) (locs : List Loc) (ls : Array Slot), f_X7_again_L151 25 K189 n x2_52 sm_53 = some sm_z → va_P γ.1 vwCl (wM γ am sm_53 sq) H → va_S A s.heap H locs → lv_has ls 3 [(0, .ref (am 0)), (1, .ref (am (25))), (2, .int x2_52)] → W p l e (rmK 0 0) s m ([.ref (am 0), .ref (am (25))] : List Value).toArray below meth c H locs 0 0 (MQ below (KQ γ A none (wM γ am sm_z sq)) ([.ref (am 0), .ref (am (25))] : List Value).toArray s 0 0 A) (F0 m 151 ls []) := by
    intro K189 HK189
    intro n
    induction n with
    | zero =>
      intro x2_52 sm_53 H locs ls hf
      have hf : none = some _ := hf
      cases hf
    | succ n ih =>
      intro x2_52 sm_53 H locs ls hf hP hS hl
      rw [f_X7_again_L151.eq_2] at hf
      refine lv_iload_n hx hb dX7_again_151 rfl (lv_at hl 2 rfl) ?_
      refine lv_bipush (v := 8) hx hb dX7_again_152 (by decide) ?_
      refine lv_icmp_ge (tgt := 189) hx hb dX7_again_154 (by decide) (fun c_54 => ?_) (fun c_54 => ?_)
      · replace hf := ite_p c_54 hf
        exact HK189 sm_53 _ _ _ hf hP hS (lv_sub hl [0, 1] rfl)
      · replace hf := ite_n c_54 hf
        refine lv_aload_n hx hb dX7_again_157 rfl (lv_at hl 0 rfl) ?_
        refine va_get (D := γ.1) (ci := 7) (v := .ref (am 16)) (C := RX7) (T := TX7) (N := 35) hx hb hU uin7 hown hK hP 0 rfl rfl 15 (by decide) (hU _ U984) (fun _ h9 => h9) rfl dX7_again_158 ?_
        refine lv_iload_n hx hb dX7_again_161 rfl (lv_at hl 2 rfl) ?_
        refine lv_aload_n hx hb dX7_again_162 rfl (lv_at hl 1 rfl) ?_
        refine lv_sipush (v := 172) hx hb dX7_again_163 (by decide) ?_
        refine lv_iload_n hx hb dX7_again_166 rfl (lv_at hl 2 rfl) ?_
        refine lv_iadd hx hb dX7_again_167 ?_
        obtain ⟨g_55, hf⟩ := gd_of hf
        refine va_iald hx hb hK hP 17 0 rfl rfl (inB_vp g_55) dX7_again_168 ?_
        refine lv_topi (fun u_56 e_u_56 => ?_)
        replace hf := nm_y hf e_u_56
        obtain ⟨g_57, hf⟩ := gd_of hf
        refine va_iast hx hb hK hP (hD _ _) hS 13 0 rfl rfl (inB_vp g_57) dX7_again_169 (fun H locs hP _ hS => ?_)
        obtain ⟨sm_58, e_sm_58, hf⟩ := nm_of hf
        replace hP : va_P γ.1 vwCl (wM γ am sm_58 sq) H := by rw [e_sm_58]; exact hP
        refine lv_aload_n hx hb dX7_again_170 rfl (lv_at hl 0 rfl) ?_
        refine va_get (D := γ.1) (ci := 7) (v := .ref (am 17)) (C := RX7) (T := TX7) (N := 35) hx hb hU uin7 hown hK hP 0 rfl rfl 16 (by decide) (hU _ U985) (fun _ h9 => h9) rfl dX7_again_171 ?_
        refine lv_iload_n hx hb dX7_again_174 rfl (lv_at hl 2 rfl) ?_
        refine lv_aload_n hx hb dX7_again_175 rfl (lv_at hl 1 rfl) ?_
        refine lv_sipush (v := 180) hx hb dX7_again_176 (by decide) ?_
        refine lv_iload_n hx hb dX7_again_179 rfl (lv_at hl 2 rfl) ?_
        refine lv_iadd hx hb dX7_again_180 ?_
        obtain ⟨g_59, hf⟩ := gd_of hf
        refine va_iald hx hb hK hP 17 0 rfl rfl (inB_vp g_59) dX7_again_181 ?_
        refine lv_topi (fun u_60 e_u_60 => ?_)
        replace hf := nm_y hf e_u_60
        obtain ⟨g_61, hf⟩ := gd_of hf
        refine va_iast hx hb hK hP (hD _ _) hS 14 0 rfl rfl (inB_vp g_61) dX7_again_182 (fun H locs hP _ hS => ?_)
        obtain ⟨sm_62, e_sm_62, hf⟩ := nm_of hf
        replace hP : va_P γ.1 vwCl (wM γ am sm_62 sq) H := by rw [e_sm_62]; exact hP
        obtain ⟨x2_63, e_x2_63⟩ : ∃ y : Int32, y = x2_52 + (1 : Int32) := ⟨_, rfl⟩
        replace hf := nm_y hf e_x2_63
        refine lv_iinc (v := x2_63) (lv' := [(2, .int x2_63), (0, .ref (am 0)), (1, .ref (am (25)))]) hx hb dX7_again_183 hl (k := 2) rfl (by rw [e_x2_63]; rfl) (by decide) rfl (fun ls hl => ?_)
        refine lv_goto (tgt := 151) hx hb dX7_again_186 (by decide) ?_
        exact ih x2_63 sm_62 _ _ _ hf hP hS (lv_sub hl [1, 2, 0] rfl)
  unfold f_X7_again at hf
  refine lv_iconst (v := 0) hx hb dX7_again_0 (by decide) ?_
  refine lv_istore_n (lv' := [(2, .int (0 : Int32)), (0, .ref (am 0)), (1, .ref (am (25)))]) hx hb dX7_again_1 rfl hl (by decide) rfl (fun ls hl => ?_)
  refine L2 _ (fun sm_29 H locs ls hf hP hS hl => ?_) FU (0 : Int32) sm _ _ _ hf hP hS (lv_sub hl [1, 2, 0] rfl)
  refine lv_iconst (v := 0) hx hb dX7_again_83 (by decide) ?_
  refine lv_istore_n (lv' := [(2, .int (0 : Int32)), (0, .ref (am 0)), (1, .ref (am (25)))]) hx hb dX7_again_84 rfl hl (by decide) rfl (fun ls hl => ?_)
  refine L85 _ (fun sm_38 H locs ls hf hP hS hl => ?_) FU (0 : Int32) sm_29 _ _ _ hf hP hS (lv_sub hl [1, 2, 0] rfl)
  refine lv_iconst (v := 0) hx hb dX7_again_109 (by decide) ?_
  refine lv_istore_n (lv' := [(2, .int (0 : Int32)), (0, .ref (am 0)), (1, .ref (am (25)))]) hx hb dX7_again_110 rfl hl (by decide) rfl (fun ls hl => ?_)
  refine L111 _ (fun sm_51 H locs ls hf hP hS hl => ?_) FU (0 : Int32) sm_38 _ _ _ hf hP hS (lv_sub hl [1, 2, 0] rfl)
  refine lv_iconst (v := 0) hx hb dX7_again_149 (by decide) ?_
  refine lv_istore_n (lv' := [(2, .int (0 : Int32)), (0, .ref (am 0)), (1, .ref (am (25)))]) hx hb dX7_again_150 rfl hl (by decide) rfl (fun ls hl => ?_)
  refine L151 _ (fun sm_64 H locs ls hf hP hS hl => ?_) FU (0 : Int32) sm_51 _ _ _ hf hP hS (lv_sub hl [1, 2, 0] rfl)
  refine lv_aload_n hx hb dX7_again_189 rfl (lv_at hl 0 rfl) ?_
  refine lv_aload_n hx hb dX7_again_190 rfl (lv_at hl 1 rfl) ?_
  refine lv_sipush (v := 188) hx hb dX7_again_191 (by decide) ?_
  refine va_iald hx hb hK hP 17 0 rfl rfl (inB_vp (n := 193) (by decide)) dX7_again_194 ?_
  refine lv_topi (fun u_65 e_u_65 => ?_)
  replace hf := nm_y hf e_u_65
  refine va_put (D := γ.1) (ci := 7) (v := .int u_65) (ty := .int) (C := RX7) (T := TX7) (N := 35) hx hb hU uin7 tyX7 tyX7_ok nmX7 hown hK hP (hD _ _) hS 0 rfl rfl 3 (by decide) (hU _ U972) (fun _ h9 => h9) rfl (by decide +kernel) rfl rfl (Nat.le_of_ble_eq_true rfl) dX7_again_195 (fun H locs hP _ hS => ?_)
  obtain ⟨sm_66, e_sm_66, hf⟩ := nm_of hf
  replace hP : va_P γ.1 vwCl (wM γ am sm_66 sq) H := by rw [e_sm_66]; exact hP
  refine lv_aload_n hx hb dX7_again_198 rfl (lv_at hl 0 rfl) ?_
  refine lv_aload_n hx hb dX7_again_199 rfl (lv_at hl 1 rfl) ?_
  refine lv_sipush (v := 189) hx hb dX7_again_200 (by decide) ?_
  refine va_iald hx hb hK hP 17 0 rfl rfl (inB_vp (n := 193) (by decide)) dX7_again_203 ?_
  refine lv_topi (fun u_67 e_u_67 => ?_)
  replace hf := nm_y hf e_u_67
  refine va_put (D := γ.1) (ci := 7) (v := .int u_67) (ty := .int) (C := RX7) (T := TX7) (N := 35) hx hb hU uin7 tyX7 tyX7_ok nmX7 hown hK hP (hD _ _) hS 0 rfl rfl 11 (by decide) (hU _ U980) (fun _ h9 => h9) rfl (by decide +kernel) rfl rfl (Nat.le_of_ble_eq_true rfl) dX7_again_204 (fun H locs hP _ hS => ?_)
  obtain ⟨sm_68, e_sm_68, hf⟩ := nm_of hf
  replace hP : va_P γ.1 vwCl (wM γ am sm_68 sq) H := by rw [e_sm_68]; exact hP
  refine lv_aload_n hx hb dX7_again_207 rfl (lv_at hl 0 rfl) ?_
  refine lv_aload_n hx hb dX7_again_208 rfl (lv_at hl 1 rfl) ?_
  refine lv_sipush (v := 190) hx hb dX7_again_209 (by decide) ?_
  refine va_iald hx hb hK hP 17 0 rfl rfl (inB_vp (n := 193) (by decide)) dX7_again_212 ?_
  refine lv_topi (fun u_69 e_u_69 => ?_)
  replace hf := nm_y hf e_u_69
  refine va_put (D := γ.1) (ci := 7) (v := .int u_69) (ty := .int) (C := RX7) (T := TX7) (N := 35) hx hb hU uin7 tyX7 tyX7_ok nmX7 hown hK hP (hD _ _) hS 0 rfl rfl 14 (by decide) (hU _ U983) (fun _ h9 => h9) rfl (by decide +kernel) rfl rfl (Nat.le_of_ble_eq_true rfl) dX7_again_213 (fun H locs hP _ hS => ?_)
  obtain ⟨sm_70, e_sm_70, hf⟩ := nm_of hf
  replace hP : va_P γ.1 vwCl (wM γ am sm_70 sq) H := by rw [e_sm_70]; exact hP
  refine lv_aload_n hx hb dX7_again_216 rfl (lv_at hl 0 rfl) ?_
  refine lv_aload_n hx hb dX7_again_217 rfl (lv_at hl 1 rfl) ?_
  refine lv_sipush (v := 191) hx hb dX7_again_218 (by decide) ?_
  refine va_iald hx hb hK hP 17 0 rfl rfl (inB_vp (n := 193) (by decide)) dX7_again_221 ?_
  refine lv_topi (fun u_71 e_u_71 => ?_)
  replace hf := nm_y hf e_u_71
  refine va_put (D := γ.1) (ci := 7) (v := .int u_71) (ty := .int) (C := RX7) (T := TX7) (N := 35) hx hb hU uin7 tyX7 tyX7_ok nmX7 hown hK hP (hD _ _) hS 0 rfl rfl 17 (by decide) (hU _ U986) (fun _ h9 => h9) rfl (by decide +kernel) rfl rfl (Nat.le_of_ble_eq_true rfl) dX7_again_222 (fun H locs hP _ hS => ?_)
  obtain ⟨sm_72, e_sm_72, hf⟩ := nm_of hf
  replace hP : va_P γ.1 vwCl (wM γ am sm_72 sq) H := by rw [e_sm_72]; exact hP
  refine lv_aload_n hx hb dX7_again_225 rfl (lv_at hl 0 rfl) ?_
  refine lv_aload_n hx hb dX7_again_226 rfl (lv_at hl 1 rfl) ?_
  refine lv_sipush (v := 192) hx hb dX7_again_227 (by decide) ?_
  refine va_iald hx hb hK hP 17 0 rfl rfl (inB_vp (n := 193) (by decide)) dX7_again_230 ?_
  refine lv_topi (fun u_73 e_u_73 => ?_)
  replace hf := nm_y hf e_u_73
  refine va_put (D := γ.1) (ci := 7) (v := .int u_73) (ty := .int) (C := RX7) (T := TX7) (N := 35) hx hb hU uin7 tyX7 tyX7_ok nmX7 hown hK hP (hD _ _) hS 0 rfl rfl 18 (by decide) (hU _ U987) (fun _ h9 => h9) rfl (by decide +kernel) rfl rfl (Nat.le_of_ble_eq_true rfl) dX7_again_231 (fun H locs hP _ hS => ?_)
  obtain ⟨sm_74, e_sm_74, hf⟩ := nm_of hf
  replace hP : va_P γ.1 vwCl (wM γ am sm_74 sq) H := by rw [e_sm_74]; exact hP
  obtain rfl := Option.some.inj hf
  exact kt_vret C0 hP hS dX7_again_234
set_option maxHeartbeats 4000000 in
set_option maxRecDepth 100000 in
theorem c_X7_again_26 (l : Launch) (γ : Gm) (am : Nat → Nat) {sm : GS} {sq : Nat → Int64} {sm_z : GS} (hf : f_X7_again 26 sm = some sm_z) : Kt l γ yX7_again (Cond.code yX7_again cX7_again 3 none :: U) 0 0 [.ref (am 0), .ref (am (26))] (wM γ am sm sq) none (wM γ am sm_z sq) := by
  refine Kt.of (by decide) rfl (Nat.le_of_ble_eq_true rfl) rfl ?_
  intro p e s m below meth c A ls C0 hP hD0 hS hl
  obtain ⟨hx, hb, hml, hown, hts, hr, hlocks, hK, hE, hA⟩ := id C0
  have hU : ∀ w ∈ U, w.before _ s = true := fun w h => hts w (List.mem_cons_of_mem _ h)
  have hD : ∀ (sm : GS) (sq : Nat → Int64), va_D A (wM γ am sm sq) := fun _ _ => hD0.fst rfl
  have hl : lv_has ls 3 [(0, .ref (am 0)), (1, .ref (am (26)))] := hl
  have L2 : ∀ (K83 : GS → Option (GS)) (HK83 : ∀ (zsm : GS) (H : Heap) (locs : List Loc) (ls : Array Slot), K83 zsm = some sm_z → va_P γ.1 vwCl (wM γ am zsm sq) H → va_S A s.heap H locs → lv_has ls 3 [(0, .ref (am 0)), (1, .ref (am (26)))] → W p l e (rmK 0 0) s m ([.ref (am 0), .ref (am (26))] : List Value).toArray below meth c H locs 0 0 (MQ below (KQ γ A none (wM γ am sm_z sq)) ([.ref (am 0), .ref (am (26))] : List Value).toArray s 0 0 A) (F0 m 83 ls [])) (n : Nat) (x2_1 : Int32) (sm_2 : GS) (H : Heap) (locs : List Loc) (ls : Array Slot), f_X7_again_L2 26 K83 n x2_1 sm_2 = some sm_z → va_P γ.1 vwCl (wM γ am sm_2 sq) H → va_S A s.heap H locs → lv_has ls 3 [(0, .ref (am 0)), (1, .ref (am (26))), (2, .int x2_1)] → W p l e (rmK 0 0) s m ([.ref (am 0), .ref (am (26))] : List Value).toArray below meth c H locs 0 0 (MQ below (KQ γ A none (wM γ am sm_z sq)) ([.ref (am 0), .ref (am (26))] : List Value).toArray s 0 0 A) (F0 m 2 ls []) := by
    intro K83 HK83
    intro n
    induction n with
    | zero =>
      intro x2_1 sm_2 H locs ls hf
      have hf : none = some _ := hf
      cases hf
    | succ n ih =>
      intro x2_1 sm_2 H locs ls hf hP hS hl
      rw [f_X7_again_L2.eq_2] at hf
      refine lv_iload_n hx hb dX7_again_2 rfl (lv_at hl 2 rfl) ?_
      refine lv_bipush (v := 10) hx hb dX7_again_3 (by decide) ?_
      refine lv_icmp_ge (tgt := 83) hx hb dX7_again_5 (by decide) (fun c_3 => ?_) (fun c_3 => ?_)
      · replace hf := ite_p c_3 hf
        exact HK83 sm_2 _ _ _ hf hP hS (lv_sub hl [0, 1] rfl)
      · replace hf := ite_n c_3 hf
        refine lv_aload_n hx hb dX7_again_8 rfl (lv_at hl 0 rfl) ?_
        refine va_get (D := γ.1) (ci := 7) (v := .ref (am 5)) (C := RX7) (T := TX7) (N := 35) hx hb hU uin7 hown hK hP 0 rfl rfl 4 (by decide) (hU _ U973) (fun _ h9 => h9) rfl dX7_again_9 ?_
        refine lv_iload_n hx hb dX7_again_12 rfl (lv_at hl 2 rfl) ?_
        refine lv_aload_n hx hb dX7_again_13 rfl (lv_at hl 1 rfl) ?_
        refine lv_iload_n hx hb dX7_again_14 rfl (lv_at hl 2 rfl) ?_
        obtain ⟨g_4, hf⟩ := gd_of hf
        refine va_iald hx hb hK hP 18 0 rfl rfl (inB_vp g_4) dX7_again_15 ?_
        refine lv_topi (fun u_5 e_u_5 => ?_)
        replace hf := nm_y hf e_u_5
        obtain ⟨g_6, hf⟩ := gd_of hf
        refine va_iast hx hb hK hP (hD _ _) hS 4 0 rfl rfl (inB_vp g_6) dX7_again_16 (fun H locs hP _ hS => ?_)
        obtain ⟨sm_7, e_sm_7, hf⟩ := nm_of hf
        replace hP : va_P γ.1 vwCl (wM γ am sm_7 sq) H := by rw [e_sm_7]; exact hP
        refine lv_aload_n hx hb dX7_again_17 rfl (lv_at hl 0 rfl) ?_
        refine va_get (D := γ.1) (ci := 7) (v := .ref (am 6)) (C := RX7) (T := TX7) (N := 35) hx hb hU uin7 hown hK hP 0 rfl rfl 5 (by decide) (hU _ U974) (fun _ h9 => h9) rfl dX7_again_18 ?_
        refine lv_iload_n hx hb dX7_again_21 rfl (lv_at hl 2 rfl) ?_
        refine lv_aload_n hx hb dX7_again_22 rfl (lv_at hl 1 rfl) ?_
        refine lv_bipush (v := 10) hx hb dX7_again_23 (by decide) ?_
        refine lv_iload_n hx hb dX7_again_25 rfl (lv_at hl 2 rfl) ?_
        refine lv_iadd hx hb dX7_again_26 ?_
        obtain ⟨g_8, hf⟩ := gd_of hf
        refine va_iald hx hb hK hP 18 0 rfl rfl (inB_vp g_8) dX7_again_27 ?_
        refine lv_topi (fun u_9 e_u_9 => ?_)
        replace hf := nm_y hf e_u_9
        obtain ⟨g_10, hf⟩ := gd_of hf
        refine va_iast hx hb hK hP (hD _ _) hS 5 0 rfl rfl (inB_vp g_10) dX7_again_28 (fun H locs hP _ hS => ?_)
        obtain ⟨sm_11, e_sm_11, hf⟩ := nm_of hf
        replace hP : va_P γ.1 vwCl (wM γ am sm_11 sq) H := by rw [e_sm_11]; exact hP
        refine lv_aload_n hx hb dX7_again_29 rfl (lv_at hl 0 rfl) ?_
        refine va_get (D := γ.1) (ci := 7) (v := .ref (am 7)) (C := RX7) (T := TX7) (N := 35) hx hb hU uin7 hown hK hP 0 rfl rfl 6 (by decide) (hU _ U975) (fun _ h9 => h9) rfl dX7_again_30 ?_
        refine lv_iload_n hx hb dX7_again_33 rfl (lv_at hl 2 rfl) ?_
        refine lv_aload_n hx hb dX7_again_34 rfl (lv_at hl 1 rfl) ?_
        refine lv_bipush (v := 20) hx hb dX7_again_35 (by decide) ?_
        refine lv_iload_n hx hb dX7_again_37 rfl (lv_at hl 2 rfl) ?_
        refine lv_iadd hx hb dX7_again_38 ?_
        obtain ⟨g_12, hf⟩ := gd_of hf
        refine va_iald hx hb hK hP 18 0 rfl rfl (inB_vp g_12) dX7_again_39 ?_
        refine lv_topi (fun u_13 e_u_13 => ?_)
        replace hf := nm_y hf e_u_13
        obtain ⟨g_14, hf⟩ := gd_of hf
        refine va_iast hx hb hK hP (hD _ _) hS 6 0 rfl rfl (inB_vp g_14) dX7_again_40 (fun H locs hP _ hS => ?_)
        obtain ⟨sm_15, e_sm_15, hf⟩ := nm_of hf
        replace hP : va_P γ.1 vwCl (wM γ am sm_15 sq) H := by rw [e_sm_15]; exact hP
        refine lv_aload_n hx hb dX7_again_41 rfl (lv_at hl 0 rfl) ?_
        refine va_get (D := γ.1) (ci := 7) (v := .ref (am 8)) (C := RX7) (T := TX7) (N := 35) hx hb hU uin7 hown hK hP 0 rfl rfl 7 (by decide) (hU _ U976) (fun _ h9 => h9) rfl dX7_again_42 ?_
        refine lv_iload_n hx hb dX7_again_45 rfl (lv_at hl 2 rfl) ?_
        refine lv_aload_n hx hb dX7_again_46 rfl (lv_at hl 1 rfl) ?_
        refine lv_bipush (v := 30) hx hb dX7_again_47 (by decide) ?_
        refine lv_iload_n hx hb dX7_again_49 rfl (lv_at hl 2 rfl) ?_
        refine lv_iadd hx hb dX7_again_50 ?_
        obtain ⟨g_16, hf⟩ := gd_of hf
        refine va_iald hx hb hK hP 18 0 rfl rfl (inB_vp g_16) dX7_again_51 ?_
        refine lv_topi (fun u_17 e_u_17 => ?_)
        replace hf := nm_y hf e_u_17
        obtain ⟨g_18, hf⟩ := gd_of hf
        refine va_iast hx hb hK hP (hD _ _) hS 7 0 rfl rfl (inB_vp g_18) dX7_again_52 (fun H locs hP _ hS => ?_)
        obtain ⟨sm_19, e_sm_19, hf⟩ := nm_of hf
        replace hP : va_P γ.1 vwCl (wM γ am sm_19 sq) H := by rw [e_sm_19]; exact hP
        refine lv_aload_n hx hb dX7_again_53 rfl (lv_at hl 0 rfl) ?_
        refine va_get (D := γ.1) (ci := 7) (v := .ref (am 9)) (C := RX7) (T := TX7) (N := 35) hx hb hU uin7 hown hK hP 0 rfl rfl 8 (by decide) (hU _ U977) (fun _ h9 => h9) rfl dX7_again_54 ?_
        refine lv_iload_n hx hb dX7_again_57 rfl (lv_at hl 2 rfl) ?_
        refine lv_aload_n hx hb dX7_again_58 rfl (lv_at hl 1 rfl) ?_
        refine lv_bipush (v := 40) hx hb dX7_again_59 (by decide) ?_
        refine lv_iload_n hx hb dX7_again_61 rfl (lv_at hl 2 rfl) ?_
        refine lv_iadd hx hb dX7_again_62 ?_
        obtain ⟨g_20, hf⟩ := gd_of hf
        refine va_iald hx hb hK hP 18 0 rfl rfl (inB_vp g_20) dX7_again_63 ?_
        refine lv_topi (fun u_21 e_u_21 => ?_)
        replace hf := nm_y hf e_u_21
        obtain ⟨g_22, hf⟩ := gd_of hf
        refine va_iast hx hb hK hP (hD _ _) hS 8 0 rfl rfl (inB_vp g_22) dX7_again_64 (fun H locs hP _ hS => ?_)
        obtain ⟨sm_23, e_sm_23, hf⟩ := nm_of hf
        replace hP : va_P γ.1 vwCl (wM γ am sm_23 sq) H := by rw [e_sm_23]; exact hP
        refine lv_aload_n hx hb dX7_again_65 rfl (lv_at hl 0 rfl) ?_
        refine va_get (D := γ.1) (ci := 7) (v := .ref (am 10)) (C := RX7) (T := TX7) (N := 35) hx hb hU uin7 hown hK hP 0 rfl rfl 9 (by decide) (hU _ U978) (fun _ h9 => h9) rfl dX7_again_66 ?_
        refine lv_iload_n hx hb dX7_again_69 rfl (lv_at hl 2 rfl) ?_
        refine lv_aload_n hx hb dX7_again_70 rfl (lv_at hl 1 rfl) ?_
        refine lv_bipush (v := 50) hx hb dX7_again_71 (by decide) ?_
        refine lv_iload_n hx hb dX7_again_73 rfl (lv_at hl 2 rfl) ?_
        refine lv_iadd hx hb dX7_again_74 ?_
        obtain ⟨g_24, hf⟩ := gd_of hf
        refine va_iald hx hb hK hP 18 0 rfl rfl (inB_vp g_24) dX7_again_75 ?_
        refine lv_topi (fun u_25 e_u_25 => ?_)
        replace hf := nm_y hf e_u_25
        obtain ⟨g_26, hf⟩ := gd_of hf
        refine va_iast hx hb hK hP (hD _ _) hS 9 0 rfl rfl (inB_vp g_26) dX7_again_76 (fun H locs hP _ hS => ?_)
        obtain ⟨sm_27, e_sm_27, hf⟩ := nm_of hf
        replace hP : va_P γ.1 vwCl (wM γ am sm_27 sq) H := by rw [e_sm_27]; exact hP
        obtain ⟨x2_28, e_x2_28⟩ : ∃ y : Int32, y = x2_1 + (1 : Int32) := ⟨_, rfl⟩
        replace hf := nm_y hf e_x2_28
        refine lv_iinc (v := x2_28) (lv' := [(2, .int x2_28), (0, .ref (am 0)), (1, .ref (am (26)))]) hx hb dX7_again_77 hl (k := 2) rfl (by rw [e_x2_28]; rfl) (by decide) rfl (fun ls hl => ?_)
        refine lv_goto (tgt := 2) hx hb dX7_again_80 (by decide) ?_
        exact ih x2_28 sm_27 _ _ _ hf hP hS (lv_sub hl [1, 2, 0] rfl)
  have L85 : ∀ (K109 : GS → Option (GS)) (HK109 : ∀ (zsm : GS) (H : Heap) (locs : List Loc) (ls : Array Slot), K109 zsm = some sm_z → va_P γ.1 vwCl (wM γ am zsm sq) H → va_S A s.heap H locs → lv_has ls 3 [(0, .ref (am 0)), (1, .ref (am (26)))] → W p l e (rmK 0 0) s m ([.ref (am 0), .ref (am (26))] : List Value).toArray below meth c H locs 0 0 (MQ below (KQ γ A none (wM γ am sm_z sq)) ([.ref (am 0), .ref (am (26))] : List Value).toArray s 0 0 A) (F0 m 109 ls [])) (n : Nat) (x2_30 : Int32) (sm_31 : GS) (H : Heap) (locs : List Loc) (ls : Array Slot), f_X7_again_L85 26 K109 n x2_30 sm_31 = some sm_z → va_P γ.1 vwCl (wM γ am sm_31 sq) H → va_S A s.heap H locs → lv_has ls 3 [(0, .ref (am 0)), (1, .ref (am (26))), (2, .int x2_30)] → W p l e (rmK 0 0) s m ([.ref (am 0), .ref (am (26))] : List Value).toArray below meth c H locs 0 0 (MQ below (KQ γ A none (wM γ am sm_z sq)) ([.ref (am 0), .ref (am (26))] : List Value).toArray s 0 0 A) (F0 m 85 ls []) := by
    intro K109 HK109
    intro n
    induction n with
    | zero =>
      intro x2_30 sm_31 H locs ls hf
      have hf : none = some _ := hf
      cases hf
    | succ n ih =>
      intro x2_30 sm_31 H locs ls hf hP hS hl
      rw [f_X7_again_L85.eq_2] at hf
      refine lv_iload_n hx hb dX7_again_85 rfl (lv_at hl 2 rfl) ?_
      refine lv_bipush (v := 100) hx hb dX7_again_86 (by decide) ?_
      refine lv_icmp_ge (tgt := 109) hx hb dX7_again_88 (by decide) (fun c_32 => ?_) (fun c_32 => ?_)
      · replace hf := ite_p c_32 hf
        exact HK109 sm_31 _ _ _ hf hP hS (lv_sub hl [0, 1] rfl)
      · replace hf := ite_n c_32 hf
        refine lv_aload_n hx hb dX7_again_91 rfl (lv_at hl 0 rfl) ?_
        refine va_get (D := γ.1) (ci := 7) (v := .ref (am 11)) (C := RX7) (T := TX7) (N := 35) hx hb hU uin7 hown hK hP 0 rfl rfl 10 (by decide) (hU _ U979) (fun _ h9 => h9) rfl dX7_again_92 ?_
        refine lv_iload_n hx hb dX7_again_95 rfl (lv_at hl 2 rfl) ?_
        refine lv_aload_n hx hb dX7_again_96 rfl (lv_at hl 1 rfl) ?_
        refine lv_bipush (v := 60) hx hb dX7_again_97 (by decide) ?_
        refine lv_iload_n hx hb dX7_again_99 rfl (lv_at hl 2 rfl) ?_
        refine lv_iadd hx hb dX7_again_100 ?_
        obtain ⟨g_33, hf⟩ := gd_of hf
        refine va_iald hx hb hK hP 18 0 rfl rfl (inB_vp g_33) dX7_again_101 ?_
        refine lv_topi (fun u_34 e_u_34 => ?_)
        replace hf := nm_y hf e_u_34
        obtain ⟨g_35, hf⟩ := gd_of hf
        refine va_iast hx hb hK hP (hD _ _) hS 10 0 rfl rfl (inB_vp g_35) dX7_again_102 (fun H locs hP _ hS => ?_)
        obtain ⟨sm_36, e_sm_36, hf⟩ := nm_of hf
        replace hP : va_P γ.1 vwCl (wM γ am sm_36 sq) H := by rw [e_sm_36]; exact hP
        obtain ⟨x2_37, e_x2_37⟩ : ∃ y : Int32, y = x2_30 + (1 : Int32) := ⟨_, rfl⟩
        replace hf := nm_y hf e_x2_37
        refine lv_iinc (v := x2_37) (lv' := [(2, .int x2_37), (0, .ref (am 0)), (1, .ref (am (26)))]) hx hb dX7_again_103 hl (k := 2) rfl (by rw [e_x2_37]; rfl) (by decide) rfl (fun ls hl => ?_)
        refine lv_goto (tgt := 85) hx hb dX7_again_106 (by decide) ?_
        exact ih x2_37 sm_36 _ _ _ hf hP hS (lv_sub hl [1, 2, 0] rfl)
  have L111 : ∀ (K149 : GS → Option (GS)) (HK149 : ∀ (zsm : GS) (H : Heap) (locs : List Loc) (ls : Array Slot), K149 zsm = some sm_z → va_P γ.1 vwCl (wM γ am zsm sq) H → va_S A s.heap H locs → lv_has ls 3 [(0, .ref (am 0)), (1, .ref (am (26)))] → W p l e (rmK 0 0) s m ([.ref (am 0), .ref (am (26))] : List Value).toArray below meth c H locs 0 0 (MQ below (KQ γ A none (wM γ am sm_z sq)) ([.ref (am 0), .ref (am (26))] : List Value).toArray s 0 0 A) (F0 m 149 ls [])) (n : Nat) (x2_39 : Int32) (sm_40 : GS) (H : Heap) (locs : List Loc) (ls : Array Slot), f_X7_again_L111 26 K149 n x2_39 sm_40 = some sm_z → va_P γ.1 vwCl (wM γ am sm_40 sq) H → va_S A s.heap H locs → lv_has ls 3 [(0, .ref (am 0)), (1, .ref (am (26))), (2, .int x2_39)] → W p l e (rmK 0 0) s m ([.ref (am 0), .ref (am (26))] : List Value).toArray below meth c H locs 0 0 (MQ below (KQ γ A none (wM γ am sm_z sq)) ([.ref (am 0), .ref (am (26))] : List Value).toArray s 0 0 A) (F0 m 111 ls []) := by
    intro K149 HK149
    intro n
    induction n with
    | zero =>
      intro x2_39 sm_40 H locs ls hf
      have hf : none = some _ := hf
      cases hf
    | succ n ih =>
      intro x2_39 sm_40 H locs ls hf hP hS hl
      rw [f_X7_again_L111.eq_2] at hf
      refine lv_iload_n hx hb dX7_again_111 rfl (lv_at hl 2 rfl) ?_
      refine lv_bipush (v := 6) hx hb dX7_again_112 (by decide) ?_
      refine lv_icmp_ge (tgt := 149) hx hb dX7_again_114 (by decide) (fun c_41 => ?_) (fun c_41 => ?_)
      · replace hf := ite_p c_41 hf
        exact HK149 sm_40 _ _ _ hf hP hS (lv_sub hl [0, 1] rfl)
      · replace hf := ite_n c_41 hf
        refine lv_aload_n hx hb dX7_again_117 rfl (lv_at hl 0 rfl) ?_
        refine va_get (D := γ.1) (ci := 7) (v := .ref (am 13)) (C := RX7) (T := TX7) (N := 35) hx hb hU uin7 hown hK hP 0 rfl rfl 12 (by decide) (hU _ U981) (fun _ h9 => h9) rfl dX7_again_118 ?_
        refine lv_iload_n hx hb dX7_again_121 rfl (lv_at hl 2 rfl) ?_
        refine lv_aload_n hx hb dX7_again_122 rfl (lv_at hl 1 rfl) ?_
        refine lv_sipush (v := 160) hx hb dX7_again_123 (by decide) ?_
        refine lv_iload_n hx hb dX7_again_126 rfl (lv_at hl 2 rfl) ?_
        refine lv_iadd hx hb dX7_again_127 ?_
        obtain ⟨g_42, hf⟩ := gd_of hf
        refine va_iald hx hb hK hP 18 0 rfl rfl (inB_vp g_42) dX7_again_128 ?_
        refine lv_topi (fun u_43 e_u_43 => ?_)
        replace hf := nm_y hf e_u_43
        obtain ⟨g_44, hf⟩ := gd_of hf
        refine va_iast hx hb hK hP (hD _ _) hS 11 0 rfl rfl (inB_vp g_44) dX7_again_129 (fun H locs hP _ hS => ?_)
        obtain ⟨sm_45, e_sm_45, hf⟩ := nm_of hf
        replace hP : va_P γ.1 vwCl (wM γ am sm_45 sq) H := by rw [e_sm_45]; exact hP
        refine lv_aload_n hx hb dX7_again_130 rfl (lv_at hl 0 rfl) ?_
        refine va_get (D := γ.1) (ci := 7) (v := .ref (am 14)) (C := RX7) (T := TX7) (N := 35) hx hb hU uin7 hown hK hP 0 rfl rfl 13 (by decide) (hU _ U982) (fun _ h9 => h9) rfl dX7_again_131 ?_
        refine lv_iload_n hx hb dX7_again_134 rfl (lv_at hl 2 rfl) ?_
        refine lv_aload_n hx hb dX7_again_135 rfl (lv_at hl 1 rfl) ?_
        refine lv_sipush (v := 166) hx hb dX7_again_136 (by decide) ?_
        refine lv_iload_n hx hb dX7_again_139 rfl (lv_at hl 2 rfl) ?_
        refine lv_iadd hx hb dX7_again_140 ?_
        obtain ⟨g_46, hf⟩ := gd_of hf
        refine va_iald hx hb hK hP 18 0 rfl rfl (inB_vp g_46) dX7_again_141 ?_
        refine lv_topi (fun u_47 e_u_47 => ?_)
        replace hf := nm_y hf e_u_47
        obtain ⟨g_48, hf⟩ := gd_of hf
        refine va_iast hx hb hK hP (hD _ _) hS 12 0 rfl rfl (inB_vp g_48) dX7_again_142 (fun H locs hP _ hS => ?_)
        obtain ⟨sm_49, e_sm_49, hf⟩ := nm_of hf
        replace hP : va_P γ.1 vwCl (wM γ am sm_49 sq) H := by rw [e_sm_49]; exact hP
        obtain ⟨x2_50, e_x2_50⟩ : ∃ y : Int32, y = x2_39 + (1 : Int32) := ⟨_, rfl⟩
        replace hf := nm_y hf e_x2_50
        refine lv_iinc (v := x2_50) (lv' := [(2, .int x2_50), (0, .ref (am 0)), (1, .ref (am (26)))]) hx hb dX7_again_143 hl (k := 2) rfl (by rw [e_x2_50]; rfl) (by decide) rfl (fun ls hl => ?_)
        refine lv_goto (tgt := 111) hx hb dX7_again_146 (by decide) ?_
        exact ih x2_50 sm_49 _ _ _ hf hP hS (lv_sub hl [1, 2, 0] rfl)
  have L151 : ∀ (K189 : GS → Option (GS)) (HK189 : ∀ (zsm : GS) (H : Heap) (locs : List Loc) (ls : Array Slot), K189 zsm = some sm_z → va_P γ.1 vwCl (wM γ am zsm sq) H → va_S A s.heap H locs → lv_has ls 3 [(0, .ref (am 0)), (1, .ref (am (26)))] → W p l e (rmK 0 0) s m ([.ref (am 0), .ref (am (26))] : List Value).toArray below meth c H locs 0 0 (MQ below (KQ γ A none (wM γ am sm_z sq)) ([.ref (am 0), .ref (am (26))] : List Value).toArray s 0 0 A) (F0 m 189 ls [])) (n : Nat) (x2_52 : Int32) (sm_53 : GS) (H : Heap) (locs : List Loc) (ls : Array Slot), f_X7_again_L151 26 K189 n x2_52 sm_53 = some sm_z → va_P γ.1 vwCl (wM γ am sm_53 sq) H → va_S A s.heap H locs → lv_has ls 3 [(0, .ref (am 0)), (1, .ref (am (26))), (2, .int x2_52)] → W p l e (rmK 0 0) s m ([.ref (am 0), .ref (am (26))] : List Value).toArray below meth c H locs 0 0 (MQ below (KQ γ A none (wM γ am sm_z sq)) ([.ref (am 0), .ref (am (26))] : List Value).toArray s 0 0 A) (F0 m 151 ls []) := by
    intro K189 HK189
    intro n
    induction n with
    | zero =>
      intro x2_52 sm_53 H locs ls hf
      have hf : none = some _ := hf
      cases hf
    | succ n ih =>
      intro x2_52 sm_53 H locs ls hf hP hS hl
      rw [f_X7_again_L151.eq_2] at hf
      refine lv_iload_n hx hb dX7_again_151 rfl (lv_at hl 2 rfl) ?_
      refine lv_bipush (v := 8) hx hb dX7_again_152 (by decide) ?_
      refine lv_icmp_ge (tgt := 189) hx hb dX7_again_154 (by decide) (fun c_54 => ?_) (fun c_54 => ?_)
      · replace hf := ite_p c_54 hf
        exact HK189 sm_53 _ _ _ hf hP hS (lv_sub hl [0, 1] rfl)
      · replace hf := ite_n c_54 hf
        refine lv_aload_n hx hb dX7_again_157 rfl (lv_at hl 0 rfl) ?_
        refine va_get (D := γ.1) (ci := 7) (v := .ref (am 16)) (C := RX7) (T := TX7) (N := 35) hx hb hU uin7 hown hK hP 0 rfl rfl 15 (by decide) (hU _ U984) (fun _ h9 => h9) rfl dX7_again_158 ?_
        refine lv_iload_n hx hb dX7_again_161 rfl (lv_at hl 2 rfl) ?_
        refine lv_aload_n hx hb dX7_again_162 rfl (lv_at hl 1 rfl) ?_
        refine lv_sipush (v := 172) hx hb dX7_again_163 (by decide) ?_
        refine lv_iload_n hx hb dX7_again_166 rfl (lv_at hl 2 rfl) ?_
        refine lv_iadd hx hb dX7_again_167 ?_
        obtain ⟨g_55, hf⟩ := gd_of hf
        refine va_iald hx hb hK hP 18 0 rfl rfl (inB_vp g_55) dX7_again_168 ?_
        refine lv_topi (fun u_56 e_u_56 => ?_)
        replace hf := nm_y hf e_u_56
        obtain ⟨g_57, hf⟩ := gd_of hf
        refine va_iast hx hb hK hP (hD _ _) hS 13 0 rfl rfl (inB_vp g_57) dX7_again_169 (fun H locs hP _ hS => ?_)
        obtain ⟨sm_58, e_sm_58, hf⟩ := nm_of hf
        replace hP : va_P γ.1 vwCl (wM γ am sm_58 sq) H := by rw [e_sm_58]; exact hP
        refine lv_aload_n hx hb dX7_again_170 rfl (lv_at hl 0 rfl) ?_
        refine va_get (D := γ.1) (ci := 7) (v := .ref (am 17)) (C := RX7) (T := TX7) (N := 35) hx hb hU uin7 hown hK hP 0 rfl rfl 16 (by decide) (hU _ U985) (fun _ h9 => h9) rfl dX7_again_171 ?_
        refine lv_iload_n hx hb dX7_again_174 rfl (lv_at hl 2 rfl) ?_
        refine lv_aload_n hx hb dX7_again_175 rfl (lv_at hl 1 rfl) ?_
        refine lv_sipush (v := 180) hx hb dX7_again_176 (by decide) ?_
        refine lv_iload_n hx hb dX7_again_179 rfl (lv_at hl 2 rfl) ?_
        refine lv_iadd hx hb dX7_again_180 ?_
        obtain ⟨g_59, hf⟩ := gd_of hf
        refine va_iald hx hb hK hP 18 0 rfl rfl (inB_vp g_59) dX7_again_181 ?_
        refine lv_topi (fun u_60 e_u_60 => ?_)
        replace hf := nm_y hf e_u_60
        obtain ⟨g_61, hf⟩ := gd_of hf
        refine va_iast hx hb hK hP (hD _ _) hS 14 0 rfl rfl (inB_vp g_61) dX7_again_182 (fun H locs hP _ hS => ?_)
        obtain ⟨sm_62, e_sm_62, hf⟩ := nm_of hf
        replace hP : va_P γ.1 vwCl (wM γ am sm_62 sq) H := by rw [e_sm_62]; exact hP
        obtain ⟨x2_63, e_x2_63⟩ : ∃ y : Int32, y = x2_52 + (1 : Int32) := ⟨_, rfl⟩
        replace hf := nm_y hf e_x2_63
        refine lv_iinc (v := x2_63) (lv' := [(2, .int x2_63), (0, .ref (am 0)), (1, .ref (am (26)))]) hx hb dX7_again_183 hl (k := 2) rfl (by rw [e_x2_63]; rfl) (by decide) rfl (fun ls hl => ?_)
        refine lv_goto (tgt := 151) hx hb dX7_again_186 (by decide) ?_
        exact ih x2_63 sm_62 _ _ _ hf hP hS (lv_sub hl [1, 2, 0] rfl)
  unfold f_X7_again at hf
  refine lv_iconst (v := 0) hx hb dX7_again_0 (by decide) ?_
  refine lv_istore_n (lv' := [(2, .int (0 : Int32)), (0, .ref (am 0)), (1, .ref (am (26)))]) hx hb dX7_again_1 rfl hl (by decide) rfl (fun ls hl => ?_)
  refine L2 _ (fun sm_29 H locs ls hf hP hS hl => ?_) FU (0 : Int32) sm _ _ _ hf hP hS (lv_sub hl [1, 2, 0] rfl)
  refine lv_iconst (v := 0) hx hb dX7_again_83 (by decide) ?_
  refine lv_istore_n (lv' := [(2, .int (0 : Int32)), (0, .ref (am 0)), (1, .ref (am (26)))]) hx hb dX7_again_84 rfl hl (by decide) rfl (fun ls hl => ?_)
  refine L85 _ (fun sm_38 H locs ls hf hP hS hl => ?_) FU (0 : Int32) sm_29 _ _ _ hf hP hS (lv_sub hl [1, 2, 0] rfl)
  refine lv_iconst (v := 0) hx hb dX7_again_109 (by decide) ?_
  refine lv_istore_n (lv' := [(2, .int (0 : Int32)), (0, .ref (am 0)), (1, .ref (am (26)))]) hx hb dX7_again_110 rfl hl (by decide) rfl (fun ls hl => ?_)
  refine L111 _ (fun sm_51 H locs ls hf hP hS hl => ?_) FU (0 : Int32) sm_38 _ _ _ hf hP hS (lv_sub hl [1, 2, 0] rfl)
  refine lv_iconst (v := 0) hx hb dX7_again_149 (by decide) ?_
  refine lv_istore_n (lv' := [(2, .int (0 : Int32)), (0, .ref (am 0)), (1, .ref (am (26)))]) hx hb dX7_again_150 rfl hl (by decide) rfl (fun ls hl => ?_)
  refine L151 _ (fun sm_64 H locs ls hf hP hS hl => ?_) FU (0 : Int32) sm_51 _ _ _ hf hP hS (lv_sub hl [1, 2, 0] rfl)
  refine lv_aload_n hx hb dX7_again_189 rfl (lv_at hl 0 rfl) ?_
  refine lv_aload_n hx hb dX7_again_190 rfl (lv_at hl 1 rfl) ?_
  refine lv_sipush (v := 188) hx hb dX7_again_191 (by decide) ?_
  refine va_iald hx hb hK hP 18 0 rfl rfl (inB_vp (n := 193) (by decide)) dX7_again_194 ?_
  refine lv_topi (fun u_65 e_u_65 => ?_)
  replace hf := nm_y hf e_u_65
  refine va_put (D := γ.1) (ci := 7) (v := .int u_65) (ty := .int) (C := RX7) (T := TX7) (N := 35) hx hb hU uin7 tyX7 tyX7_ok nmX7 hown hK hP (hD _ _) hS 0 rfl rfl 3 (by decide) (hU _ U972) (fun _ h9 => h9) rfl (by decide +kernel) rfl rfl (Nat.le_of_ble_eq_true rfl) dX7_again_195 (fun H locs hP _ hS => ?_)
  obtain ⟨sm_66, e_sm_66, hf⟩ := nm_of hf
  replace hP : va_P γ.1 vwCl (wM γ am sm_66 sq) H := by rw [e_sm_66]; exact hP
  refine lv_aload_n hx hb dX7_again_198 rfl (lv_at hl 0 rfl) ?_
  refine lv_aload_n hx hb dX7_again_199 rfl (lv_at hl 1 rfl) ?_
  refine lv_sipush (v := 189) hx hb dX7_again_200 (by decide) ?_
  refine va_iald hx hb hK hP 18 0 rfl rfl (inB_vp (n := 193) (by decide)) dX7_again_203 ?_
  refine lv_topi (fun u_67 e_u_67 => ?_)
  replace hf := nm_y hf e_u_67
  refine va_put (D := γ.1) (ci := 7) (v := .int u_67) (ty := .int) (C := RX7) (T := TX7) (N := 35) hx hb hU uin7 tyX7 tyX7_ok nmX7 hown hK hP (hD _ _) hS 0 rfl rfl 11 (by decide) (hU _ U980) (fun _ h9 => h9) rfl (by decide +kernel) rfl rfl (Nat.le_of_ble_eq_true rfl) dX7_again_204 (fun H locs hP _ hS => ?_)
  obtain ⟨sm_68, e_sm_68, hf⟩ := nm_of hf
  replace hP : va_P γ.1 vwCl (wM γ am sm_68 sq) H := by rw [e_sm_68]; exact hP
  refine lv_aload_n hx hb dX7_again_207 rfl (lv_at hl 0 rfl) ?_
  refine lv_aload_n hx hb dX7_again_208 rfl (lv_at hl 1 rfl) ?_
  refine lv_sipush (v := 190) hx hb dX7_again_209 (by decide) ?_
  refine va_iald hx hb hK hP 18 0 rfl rfl (inB_vp (n := 193) (by decide)) dX7_again_212 ?_
  refine lv_topi (fun u_69 e_u_69 => ?_)
  replace hf := nm_y hf e_u_69
  refine va_put (D := γ.1) (ci := 7) (v := .int u_69) (ty := .int) (C := RX7) (T := TX7) (N := 35) hx hb hU uin7 tyX7 tyX7_ok nmX7 hown hK hP (hD _ _) hS 0 rfl rfl 14 (by decide) (hU _ U983) (fun _ h9 => h9) rfl (by decide +kernel) rfl rfl (Nat.le_of_ble_eq_true rfl) dX7_again_213 (fun H locs hP _ hS => ?_)
  obtain ⟨sm_70, e_sm_70, hf⟩ := nm_of hf
  replace hP : va_P γ.1 vwCl (wM γ am sm_70 sq) H := by rw [e_sm_70]; exact hP
  refine lv_aload_n hx hb dX7_again_216 rfl (lv_at hl 0 rfl) ?_
  refine lv_aload_n hx hb dX7_again_217 rfl (lv_at hl 1 rfl) ?_
  refine lv_sipush (v := 191) hx hb dX7_again_218 (by decide) ?_
  refine va_iald hx hb hK hP 18 0 rfl rfl (inB_vp (n := 193) (by decide)) dX7_again_221 ?_
  refine lv_topi (fun u_71 e_u_71 => ?_)
  replace hf := nm_y hf e_u_71
  refine va_put (D := γ.1) (ci := 7) (v := .int u_71) (ty := .int) (C := RX7) (T := TX7) (N := 35) hx hb hU uin7 tyX7 tyX7_ok nmX7 hown hK hP (hD _ _) hS 0 rfl rfl 17 (by decide) (hU _ U986) (fun _ h9 => h9) rfl (by decide +kernel) rfl rfl (Nat.le_of_ble_eq_true rfl) dX7_again_222 (fun H locs hP _ hS => ?_)
  obtain ⟨sm_72, e_sm_72, hf⟩ := nm_of hf
  replace hP : va_P γ.1 vwCl (wM γ am sm_72 sq) H := by rw [e_sm_72]; exact hP
  refine lv_aload_n hx hb dX7_again_225 rfl (lv_at hl 0 rfl) ?_
  refine lv_aload_n hx hb dX7_again_226 rfl (lv_at hl 1 rfl) ?_
  refine lv_sipush (v := 192) hx hb dX7_again_227 (by decide) ?_
  refine va_iald hx hb hK hP 18 0 rfl rfl (inB_vp (n := 193) (by decide)) dX7_again_230 ?_
  refine lv_topi (fun u_73 e_u_73 => ?_)
  replace hf := nm_y hf e_u_73
  refine va_put (D := γ.1) (ci := 7) (v := .int u_73) (ty := .int) (C := RX7) (T := TX7) (N := 35) hx hb hU uin7 tyX7 tyX7_ok nmX7 hown hK hP (hD _ _) hS 0 rfl rfl 18 (by decide) (hU _ U987) (fun _ h9 => h9) rfl (by decide +kernel) rfl rfl (Nat.le_of_ble_eq_true rfl) dX7_again_231 (fun H locs hP _ hS => ?_)
  obtain ⟨sm_74, e_sm_74, hf⟩ := nm_of hf
  replace hP : va_P γ.1 vwCl (wM γ am sm_74 sq) H := by rw [e_sm_74]; exact hP
  obtain rfl := Option.some.inj hf
  exact kt_vret C0 hP hS dX7_again_234
set_option maxHeartbeats 4000000 in
set_option maxRecDepth 100000 in
theorem c_X7_again_27 (l : Launch) (γ : Gm) (am : Nat → Nat) {sm : GS} {sq : Nat → Int64} {sm_z : GS} (hf : f_X7_again 27 sm = some sm_z) : Kt l γ yX7_again (Cond.code yX7_again cX7_again 3 none :: U) 0 0 [.ref (am 0), .ref (am (27))] (wM γ am sm sq) none (wM γ am sm_z sq) := by
  refine Kt.of (by decide) rfl (Nat.le_of_ble_eq_true rfl) rfl ?_
  intro p e s m below meth c A ls C0 hP hD0 hS hl
  obtain ⟨hx, hb, hml, hown, hts, hr, hlocks, hK, hE, hA⟩ := id C0
  have hU : ∀ w ∈ U, w.before _ s = true := fun w h => hts w (List.mem_cons_of_mem _ h)
  have hD : ∀ (sm : GS) (sq : Nat → Int64), va_D A (wM γ am sm sq) := fun _ _ => hD0.fst rfl
  have hl : lv_has ls 3 [(0, .ref (am 0)), (1, .ref (am (27)))] := hl
  have L2 : ∀ (K83 : GS → Option (GS)) (HK83 : ∀ (zsm : GS) (H : Heap) (locs : List Loc) (ls : Array Slot), K83 zsm = some sm_z → va_P γ.1 vwCl (wM γ am zsm sq) H → va_S A s.heap H locs → lv_has ls 3 [(0, .ref (am 0)), (1, .ref (am (27)))] → W p l e (rmK 0 0) s m ([.ref (am 0), .ref (am (27))] : List Value).toArray below meth c H locs 0 0 (MQ below (KQ γ A none (wM γ am sm_z sq)) ([.ref (am 0), .ref (am (27))] : List Value).toArray s 0 0 A) (F0 m 83 ls [])) (n : Nat) (x2_1 : Int32) (sm_2 : GS) (H : Heap) (locs : List Loc) (ls : Array Slot), f_X7_again_L2 27 K83 n x2_1 sm_2 = some sm_z → va_P γ.1 vwCl (wM γ am sm_2 sq) H → va_S A s.heap H locs → lv_has ls 3 [(0, .ref (am 0)), (1, .ref (am (27))), (2, .int x2_1)] → W p l e (rmK 0 0) s m ([.ref (am 0), .ref (am (27))] : List Value).toArray below meth c H locs 0 0 (MQ below (KQ γ A none (wM γ am sm_z sq)) ([.ref (am 0), .ref (am (27))] : List Value).toArray s 0 0 A) (F0 m 2 ls []) := by
    intro K83 HK83
    intro n
    induction n with
    | zero =>
      intro x2_1 sm_2 H locs ls hf
      have hf : none = some _ := hf
      cases hf
    | succ n ih =>
      intro x2_1 sm_2 H locs ls hf hP hS hl
      rw [f_X7_again_L2.eq_2] at hf
      refine lv_iload_n hx hb dX7_again_2 rfl (lv_at hl 2 rfl) ?_
      refine lv_bipush (v := 10) hx hb dX7_again_3 (by decide) ?_
      refine lv_icmp_ge (tgt := 83) hx hb dX7_again_5 (by decide) (fun c_3 => ?_) (fun c_3 => ?_)
      · replace hf := ite_p c_3 hf
        exact HK83 sm_2 _ _ _ hf hP hS (lv_sub hl [0, 1] rfl)
      · replace hf := ite_n c_3 hf
        refine lv_aload_n hx hb dX7_again_8 rfl (lv_at hl 0 rfl) ?_
        refine va_get (D := γ.1) (ci := 7) (v := .ref (am 5)) (C := RX7) (T := TX7) (N := 35) hx hb hU uin7 hown hK hP 0 rfl rfl 4 (by decide) (hU _ U973) (fun _ h9 => h9) rfl dX7_again_9 ?_
        refine lv_iload_n hx hb dX7_again_12 rfl (lv_at hl 2 rfl) ?_
        refine lv_aload_n hx hb dX7_again_13 rfl (lv_at hl 1 rfl) ?_
        refine lv_iload_n hx hb dX7_again_14 rfl (lv_at hl 2 rfl) ?_
        obtain ⟨g_4, hf⟩ := gd_of hf
        refine va_iald hx hb hK hP 19 0 rfl rfl (inB_vp g_4) dX7_again_15 ?_
        refine lv_topi (fun u_5 e_u_5 => ?_)
        replace hf := nm_y hf e_u_5
        obtain ⟨g_6, hf⟩ := gd_of hf
        refine va_iast hx hb hK hP (hD _ _) hS 4 0 rfl rfl (inB_vp g_6) dX7_again_16 (fun H locs hP _ hS => ?_)
        obtain ⟨sm_7, e_sm_7, hf⟩ := nm_of hf
        replace hP : va_P γ.1 vwCl (wM γ am sm_7 sq) H := by rw [e_sm_7]; exact hP
        refine lv_aload_n hx hb dX7_again_17 rfl (lv_at hl 0 rfl) ?_
        refine va_get (D := γ.1) (ci := 7) (v := .ref (am 6)) (C := RX7) (T := TX7) (N := 35) hx hb hU uin7 hown hK hP 0 rfl rfl 5 (by decide) (hU _ U974) (fun _ h9 => h9) rfl dX7_again_18 ?_
        refine lv_iload_n hx hb dX7_again_21 rfl (lv_at hl 2 rfl) ?_
        refine lv_aload_n hx hb dX7_again_22 rfl (lv_at hl 1 rfl) ?_
        refine lv_bipush (v := 10) hx hb dX7_again_23 (by decide) ?_
        refine lv_iload_n hx hb dX7_again_25 rfl (lv_at hl 2 rfl) ?_
        refine lv_iadd hx hb dX7_again_26 ?_
        obtain ⟨g_8, hf⟩ := gd_of hf
        refine va_iald hx hb hK hP 19 0 rfl rfl (inB_vp g_8) dX7_again_27 ?_
        refine lv_topi (fun u_9 e_u_9 => ?_)
        replace hf := nm_y hf e_u_9
        obtain ⟨g_10, hf⟩ := gd_of hf
        refine va_iast hx hb hK hP (hD _ _) hS 5 0 rfl rfl (inB_vp g_10) dX7_again_28 (fun H locs hP _ hS => ?_)
        obtain ⟨sm_11, e_sm_11, hf⟩ := nm_of hf
        replace hP : va_P γ.1 vwCl (wM γ am sm_11 sq) H := by rw [e_sm_11]; exact hP
        refine lv_aload_n hx hb dX7_again_29 rfl (lv_at hl 0 rfl) ?_
        refine va_get (D := γ.1) (ci := 7) (v := .ref (am 7)) (C := RX7) (T := TX7) (N := 35) hx hb hU uin7 hown hK hP 0 rfl rfl 6 (by decide) (hU _ U975) (fun _ h9 => h9) rfl dX7_again_30 ?_
        refine lv_iload_n hx hb dX7_again_33 rfl (lv_at hl 2 rfl) ?_
        refine lv_aload_n hx hb dX7_again_34 rfl (lv_at hl 1 rfl) ?_
        refine lv_bipush (v := 20) hx hb dX7_again_35 (by decide) ?_
        refine lv_iload_n hx hb dX7_again_37 rfl (lv_at hl 2 rfl) ?_
        refine lv_iadd hx hb dX7_again_38 ?_
        obtain ⟨g_12, hf⟩ := gd_of hf
        refine va_iald hx hb hK hP 19 0 rfl rfl (inB_vp g_12) dX7_again_39 ?_
        refine lv_topi (fun u_13 e_u_13 => ?_)
        replace hf := nm_y hf e_u_13
        obtain ⟨g_14, hf⟩ := gd_of hf
        refine va_iast hx hb hK hP (hD _ _) hS 6 0 rfl rfl (inB_vp g_14) dX7_again_40 (fun H locs hP _ hS => ?_)
        obtain ⟨sm_15, e_sm_15, hf⟩ := nm_of hf
        replace hP : va_P γ.1 vwCl (wM γ am sm_15 sq) H := by rw [e_sm_15]; exact hP
        refine lv_aload_n hx hb dX7_again_41 rfl (lv_at hl 0 rfl) ?_
        refine va_get (D := γ.1) (ci := 7) (v := .ref (am 8)) (C := RX7) (T := TX7) (N := 35) hx hb hU uin7 hown hK hP 0 rfl rfl 7 (by decide) (hU _ U976) (fun _ h9 => h9) rfl dX7_again_42 ?_
        refine lv_iload_n hx hb dX7_again_45 rfl (lv_at hl 2 rfl) ?_
        refine lv_aload_n hx hb dX7_again_46 rfl (lv_at hl 1 rfl) ?_
        refine lv_bipush (v := 30) hx hb dX7_again_47 (by decide) ?_
        refine lv_iload_n hx hb dX7_again_49 rfl (lv_at hl 2 rfl) ?_
        refine lv_iadd hx hb dX7_again_50 ?_
        obtain ⟨g_16, hf⟩ := gd_of hf
        refine va_iald hx hb hK hP 19 0 rfl rfl (inB_vp g_16) dX7_again_51 ?_
        refine lv_topi (fun u_17 e_u_17 => ?_)
        replace hf := nm_y hf e_u_17
        obtain ⟨g_18, hf⟩ := gd_of hf
        refine va_iast hx hb hK hP (hD _ _) hS 7 0 rfl rfl (inB_vp g_18) dX7_again_52 (fun H locs hP _ hS => ?_)
        obtain ⟨sm_19, e_sm_19, hf⟩ := nm_of hf
        replace hP : va_P γ.1 vwCl (wM γ am sm_19 sq) H := by rw [e_sm_19]; exact hP
        refine lv_aload_n hx hb dX7_again_53 rfl (lv_at hl 0 rfl) ?_
        refine va_get (D := γ.1) (ci := 7) (v := .ref (am 9)) (C := RX7) (T := TX7) (N := 35) hx hb hU uin7 hown hK hP 0 rfl rfl 8 (by decide) (hU _ U977) (fun _ h9 => h9) rfl dX7_again_54 ?_
        refine lv_iload_n hx hb dX7_again_57 rfl (lv_at hl 2 rfl) ?_
        refine lv_aload_n hx hb dX7_again_58 rfl (lv_at hl 1 rfl) ?_
        refine lv_bipush (v := 40) hx hb dX7_again_59 (by decide) ?_
        refine lv_iload_n hx hb dX7_again_61 rfl (lv_at hl 2 rfl) ?_
        refine lv_iadd hx hb dX7_again_62 ?_
        obtain ⟨g_20, hf⟩ := gd_of hf
        refine va_iald hx hb hK hP 19 0 rfl rfl (inB_vp g_20) dX7_again_63 ?_
        refine lv_topi (fun u_21 e_u_21 => ?_)
        replace hf := nm_y hf e_u_21
        obtain ⟨g_22, hf⟩ := gd_of hf
        refine va_iast hx hb hK hP (hD _ _) hS 8 0 rfl rfl (inB_vp g_22) dX7_again_64 (fun H locs hP _ hS => ?_)
        obtain ⟨sm_23, e_sm_23, hf⟩ := nm_of hf
        replace hP : va_P γ.1 vwCl (wM γ am sm_23 sq) H := by rw [e_sm_23]; exact hP
        refine lv_aload_n hx hb dX7_again_65 rfl (lv_at hl 0 rfl) ?_
        refine va_get (D := γ.1) (ci := 7) (v := .ref (am 10)) (C := RX7) (T := TX7) (N := 35) hx hb hU uin7 hown hK hP 0 rfl rfl 9 (by decide) (hU _ U978) (fun _ h9 => h9) rfl dX7_again_66 ?_
        refine lv_iload_n hx hb dX7_again_69 rfl (lv_at hl 2 rfl) ?_
        refine lv_aload_n hx hb dX7_again_70 rfl (lv_at hl 1 rfl) ?_
        refine lv_bipush (v := 50) hx hb dX7_again_71 (by decide) ?_
        refine lv_iload_n hx hb dX7_again_73 rfl (lv_at hl 2 rfl) ?_
        refine lv_iadd hx hb dX7_again_74 ?_
        obtain ⟨g_24, hf⟩ := gd_of hf
        refine va_iald hx hb hK hP 19 0 rfl rfl (inB_vp g_24) dX7_again_75 ?_
        refine lv_topi (fun u_25 e_u_25 => ?_)
        replace hf := nm_y hf e_u_25
        obtain ⟨g_26, hf⟩ := gd_of hf
        refine va_iast hx hb hK hP (hD _ _) hS 9 0 rfl rfl (inB_vp g_26) dX7_again_76 (fun H locs hP _ hS => ?_)
        obtain ⟨sm_27, e_sm_27, hf⟩ := nm_of hf
        replace hP : va_P γ.1 vwCl (wM γ am sm_27 sq) H := by rw [e_sm_27]; exact hP
        obtain ⟨x2_28, e_x2_28⟩ : ∃ y : Int32, y = x2_1 + (1 : Int32) := ⟨_, rfl⟩
        replace hf := nm_y hf e_x2_28
        refine lv_iinc (v := x2_28) (lv' := [(2, .int x2_28), (0, .ref (am 0)), (1, .ref (am (27)))]) hx hb dX7_again_77 hl (k := 2) rfl (by rw [e_x2_28]; rfl) (by decide) rfl (fun ls hl => ?_)
        refine lv_goto (tgt := 2) hx hb dX7_again_80 (by decide) ?_
        exact ih x2_28 sm_27 _ _ _ hf hP hS (lv_sub hl [1, 2, 0] rfl)
  have L85 : ∀ (K109 : GS → Option (GS)) (HK109 : ∀ (zsm : GS) (H : Heap) (locs : List Loc) (ls : Array Slot), K109 zsm = some sm_z → va_P γ.1 vwCl (wM γ am zsm sq) H → va_S A s.heap H locs → lv_has ls 3 [(0, .ref (am 0)), (1, .ref (am (27)))] → W p l e (rmK 0 0) s m ([.ref (am 0), .ref (am (27))] : List Value).toArray below meth c H locs 0 0 (MQ below (KQ γ A none (wM γ am sm_z sq)) ([.ref (am 0), .ref (am (27))] : List Value).toArray s 0 0 A) (F0 m 109 ls [])) (n : Nat) (x2_30 : Int32) (sm_31 : GS) (H : Heap) (locs : List Loc) (ls : Array Slot), f_X7_again_L85 27 K109 n x2_30 sm_31 = some sm_z → va_P γ.1 vwCl (wM γ am sm_31 sq) H → va_S A s.heap H locs → lv_has ls 3 [(0, .ref (am 0)), (1, .ref (am (27))), (2, .int x2_30)] → W p l e (rmK 0 0) s m ([.ref (am 0), .ref (am (27))] : List Value).toArray below meth c H locs 0 0 (MQ below (KQ γ A none (wM γ am sm_z sq)) ([.ref (am 0), .ref (am (27))] : List Value).toArray s 0 0 A) (F0 m 85 ls []) := by
    intro K109 HK109
    intro n
    induction n with
    | zero =>
      intro x2_30 sm_31 H locs ls hf
      have hf : none = some _ := hf
      cases hf
    | succ n ih =>
      intro x2_30 sm_31 H locs ls hf hP hS hl
      rw [f_X7_again_L85.eq_2] at hf
      refine lv_iload_n hx hb dX7_again_85 rfl (lv_at hl 2 rfl) ?_
      refine lv_bipush (v := 100) hx hb dX7_again_86 (by decide) ?_
      refine lv_icmp_ge (tgt := 109) hx hb dX7_again_88 (by decide) (fun c_32 => ?_) (fun c_32 => ?_)
      · replace hf := ite_p c_32 hf
        exact HK109 sm_31 _ _ _ hf hP hS (lv_sub hl [0, 1] rfl)
      · replace hf := ite_n c_32 hf
        refine lv_aload_n hx hb dX7_again_91 rfl (lv_at hl 0 rfl) ?_
        refine va_get (D := γ.1) (ci := 7) (v := .ref (am 11)) (C := RX7) (T := TX7) (N := 35) hx hb hU uin7 hown hK hP 0 rfl rfl 10 (by decide) (hU _ U979) (fun _ h9 => h9) rfl dX7_again_92 ?_
        refine lv_iload_n hx hb dX7_again_95 rfl (lv_at hl 2 rfl) ?_
        refine lv_aload_n hx hb dX7_again_96 rfl (lv_at hl 1 rfl) ?_
        refine lv_bipush (v := 60) hx hb dX7_again_97 (by decide) ?_
        refine lv_iload_n hx hb dX7_again_99 rfl (lv_at hl 2 rfl) ?_
        refine lv_iadd hx hb dX7_again_100 ?_
        obtain ⟨g_33, hf⟩ := gd_of hf
        refine va_iald hx hb hK hP 19 0 rfl rfl (inB_vp g_33) dX7_again_101 ?_
        refine lv_topi (fun u_34 e_u_34 => ?_)
        replace hf := nm_y hf e_u_34
        obtain ⟨g_35, hf⟩ := gd_of hf
        refine va_iast hx hb hK hP (hD _ _) hS 10 0 rfl rfl (inB_vp g_35) dX7_again_102 (fun H locs hP _ hS => ?_)
        obtain ⟨sm_36, e_sm_36, hf⟩ := nm_of hf
        replace hP : va_P γ.1 vwCl (wM γ am sm_36 sq) H := by rw [e_sm_36]; exact hP
        obtain ⟨x2_37, e_x2_37⟩ : ∃ y : Int32, y = x2_30 + (1 : Int32) := ⟨_, rfl⟩
        replace hf := nm_y hf e_x2_37
        refine lv_iinc (v := x2_37) (lv' := [(2, .int x2_37), (0, .ref (am 0)), (1, .ref (am (27)))]) hx hb dX7_again_103 hl (k := 2) rfl (by rw [e_x2_37]; rfl) (by decide) rfl (fun ls hl => ?_)
        refine lv_goto (tgt := 85) hx hb dX7_again_106 (by decide) ?_
        exact ih x2_37 sm_36 _ _ _ hf hP hS (lv_sub hl [1, 2, 0] rfl)
  have L111 : ∀ (K149 : GS → Option (GS)) (HK149 : ∀ (zsm : GS) (H : Heap) (locs : List Loc) (ls : Array Slot), K149 zsm = some sm_z → va_P γ.1 vwCl (wM γ am zsm sq) H → va_S A s.heap H locs → lv_has ls 3 [(0, .ref (am 0)), (1, .ref (am (27)))] → W p l e (rmK 0 0) s m ([.ref (am 0), .ref (am (27))] : List Value).toArray below meth c H locs 0 0 (MQ below (KQ γ A none (wM γ am sm_z sq)) ([.ref (am 0), .ref (am (27))] : List Value).toArray s 0 0 A) (F0 m 149 ls [])) (n : Nat) (x2_39 : Int32) (sm_40 : GS) (H : Heap) (locs : List Loc) (ls : Array Slot), f_X7_again_L111 27 K149 n x2_39 sm_40 = some sm_z → va_P γ.1 vwCl (wM γ am sm_40 sq) H → va_S A s.heap H locs → lv_has ls 3 [(0, .ref (am 0)), (1, .ref (am (27))), (2, .int x2_39)] → W p l e (rmK 0 0) s m ([.ref (am 0), .ref (am (27))] : List Value).toArray below meth c H locs 0 0 (MQ below (KQ γ A none (wM γ am sm_z sq)) ([.ref (am 0), .ref (am (27))] : List Value).toArray s 0 0 A) (F0 m 111 ls []) := by
    intro K149 HK149
    intro n
    induction n with
    | zero =>
      intro x2_39 sm_40 H locs ls hf
      have hf : none = some _ := hf
      cases hf
    | succ n ih =>
      intro x2_39 sm_40 H locs ls hf hP hS hl
      rw [f_X7_again_L111.eq_2] at hf
      refine lv_iload_n hx hb dX7_again_111 rfl (lv_at hl 2 rfl) ?_
      refine lv_bipush (v := 6) hx hb dX7_again_112 (by decide) ?_
      refine lv_icmp_ge (tgt := 149) hx hb dX7_again_114 (by decide) (fun c_41 => ?_) (fun c_41 => ?_)
      · replace hf := ite_p c_41 hf
        exact HK149 sm_40 _ _ _ hf hP hS (lv_sub hl [0, 1] rfl)
      · replace hf := ite_n c_41 hf
        refine lv_aload_n hx hb dX7_again_117 rfl (lv_at hl 0 rfl) ?_
        refine va_get (D := γ.1) (ci := 7) (v := .ref (am 13)) (C := RX7) (T := TX7) (N := 35) hx hb hU uin7 hown hK hP 0 rfl rfl 12 (by decide) (hU _ U981) (fun _ h9 => h9) rfl dX7_again_118 ?_
        refine lv_iload_n hx hb dX7_again_121 rfl (lv_at hl 2 rfl) ?_
        refine lv_aload_n hx hb dX7_again_122 rfl (lv_at hl 1 rfl) ?_
        refine lv_sipush (v := 160) hx hb dX7_again_123 (by decide) ?_
        refine lv_iload_n hx hb dX7_again_126 rfl (lv_at hl 2 rfl) ?_
        refine lv_iadd hx hb dX7_again_127 ?_
        obtain ⟨g_42, hf⟩ := gd_of hf
        refine va_iald hx hb hK hP 19 0 rfl rfl (inB_vp g_42) dX7_again_128 ?_
        refine lv_topi (fun u_43 e_u_43 => ?_)
        replace hf := nm_y hf e_u_43
        obtain ⟨g_44, hf⟩ := gd_of hf
        refine va_iast hx hb hK hP (hD _ _) hS 11 0 rfl rfl (inB_vp g_44) dX7_again_129 (fun H locs hP _ hS => ?_)
        obtain ⟨sm_45, e_sm_45, hf⟩ := nm_of hf
        replace hP : va_P γ.1 vwCl (wM γ am sm_45 sq) H := by rw [e_sm_45]; exact hP
        refine lv_aload_n hx hb dX7_again_130 rfl (lv_at hl 0 rfl) ?_
        refine va_get (D := γ.1) (ci := 7) (v := .ref (am 14)) (C := RX7) (T := TX7) (N := 35) hx hb hU uin7 hown hK hP 0 rfl rfl 13 (by decide) (hU _ U982) (fun _ h9 => h9) rfl dX7_again_131 ?_
        refine lv_iload_n hx hb dX7_again_134 rfl (lv_at hl 2 rfl) ?_
        refine lv_aload_n hx hb dX7_again_135 rfl (lv_at hl 1 rfl) ?_
        refine lv_sipush (v := 166) hx hb dX7_again_136 (by decide) ?_
        refine lv_iload_n hx hb dX7_again_139 rfl (lv_at hl 2 rfl) ?_
        refine lv_iadd hx hb dX7_again_140 ?_
        obtain ⟨g_46, hf⟩ := gd_of hf
        refine va_iald hx hb hK hP 19 0 rfl rfl (inB_vp g_46) dX7_again_141 ?_
        refine lv_topi (fun u_47 e_u_47 => ?_)
        replace hf := nm_y hf e_u_47
        obtain ⟨g_48, hf⟩ := gd_of hf
        refine va_iast hx hb hK hP (hD _ _) hS 12 0 rfl rfl (inB_vp g_48) dX7_again_142 (fun H locs hP _ hS => ?_)
        obtain ⟨sm_49, e_sm_49, hf⟩ := nm_of hf
        replace hP : va_P γ.1 vwCl (wM γ am sm_49 sq) H := by rw [e_sm_49]; exact hP
        obtain ⟨x2_50, e_x2_50⟩ : ∃ y : Int32, y = x2_39 + (1 : Int32) := ⟨_, rfl⟩
        replace hf := nm_y hf e_x2_50
        refine lv_iinc (v := x2_50) (lv' := [(2, .int x2_50), (0, .ref (am 0)), (1, .ref (am (27)))]) hx hb dX7_again_143 hl (k := 2) rfl (by rw [e_x2_50]; rfl) (by decide) rfl (fun ls hl => ?_)
        refine lv_goto (tgt := 111) hx hb dX7_again_146 (by decide) ?_
        exact ih x2_50 sm_49 _ _ _ hf hP hS (lv_sub hl [1, 2, 0] rfl)
  have L151 : ∀ (K189 : GS → Option (GS)) (HK189 : ∀ (zsm : GS) (H : Heap) (locs : List Loc) (ls : Array Slot), K189 zsm = some sm_z → va_P γ.1 vwCl (wM γ am zsm sq) H → va_S A s.heap H locs → lv_has ls 3 [(0, .ref (am 0)), (1, .ref (am (27)))] → W p l e (rmK 0 0) s m ([.ref (am 0), .ref (am (27))] : List Value).toArray below meth c H locs 0 0 (MQ below (KQ γ A none (wM γ am sm_z sq)) ([.ref (am 0), .ref (am (27))] : List Value).toArray s 0 0 A) (F0 m 189 ls [])) (n : Nat) (x2_52 : Int32) (sm_53 : GS) (H : Heap) (locs : List Loc) (ls : Array Slot), f_X7_again_L151 27 K189 n x2_52 sm_53 = some sm_z → va_P γ.1 vwCl (wM γ am sm_53 sq) H → va_S A s.heap H locs → lv_has ls 3 [(0, .ref (am 0)), (1, .ref (am (27))), (2, .int x2_52)] → W p l e (rmK 0 0) s m ([.ref (am 0), .ref (am (27))] : List Value).toArray below meth c H locs 0 0 (MQ below (KQ γ A none (wM γ am sm_z sq)) ([.ref (am 0), .ref (am (27))] : List Value).toArray s 0 0 A) (F0 m 151 ls []) := by
    intro K189 HK189
    intro n
    induction n with
    | zero =>
      intro x2_52 sm_53 H locs ls hf
      have hf : none = some _ := hf
      cases hf
    | succ n ih =>
      intro x2_52 sm_53 H locs ls hf hP hS hl
      rw [f_X7_again_L151.eq_2] at hf
      refine lv_iload_n hx hb dX7_again_151 rfl (lv_at hl 2 rfl) ?_
      refine lv_bipush (v := 8) hx hb dX7_again_152 (by decide) ?_
      refine lv_icmp_ge (tgt := 189) hx hb dX7_again_154 (by decide) (fun c_54 => ?_) (fun c_54 => ?_)
      · replace hf := ite_p c_54 hf
        exact HK189 sm_53 _ _ _ hf hP hS (lv_sub hl [0, 1] rfl)
      · replace hf := ite_n c_54 hf
        refine lv_aload_n hx hb dX7_again_157 rfl (lv_at hl 0 rfl) ?_
        refine va_get (D := γ.1) (ci := 7) (v := .ref (am 16)) (C := RX7) (T := TX7) (N := 35) hx hb hU uin7 hown hK hP 0 rfl rfl 15 (by decide) (hU _ U984) (fun _ h9 => h9) rfl dX7_again_158 ?_
        refine lv_iload_n hx hb dX7_again_161 rfl (lv_at hl 2 rfl) ?_
        refine lv_aload_n hx hb dX7_again_162 rfl (lv_at hl 1 rfl) ?_
        refine lv_sipush (v := 172) hx hb dX7_again_163 (by decide) ?_
        refine lv_iload_n hx hb dX7_again_166 rfl (lv_at hl 2 rfl) ?_
        refine lv_iadd hx hb dX7_again_167 ?_
        obtain ⟨g_55, hf⟩ := gd_of hf
        refine va_iald hx hb hK hP 19 0 rfl rfl (inB_vp g_55) dX7_again_168 ?_
        refine lv_topi (fun u_56 e_u_56 => ?_)
        replace hf := nm_y hf e_u_56
        obtain ⟨g_57, hf⟩ := gd_of hf
        refine va_iast hx hb hK hP (hD _ _) hS 13 0 rfl rfl (inB_vp g_57) dX7_again_169 (fun H locs hP _ hS => ?_)
        obtain ⟨sm_58, e_sm_58, hf⟩ := nm_of hf
        replace hP : va_P γ.1 vwCl (wM γ am sm_58 sq) H := by rw [e_sm_58]; exact hP
        refine lv_aload_n hx hb dX7_again_170 rfl (lv_at hl 0 rfl) ?_
        refine va_get (D := γ.1) (ci := 7) (v := .ref (am 17)) (C := RX7) (T := TX7) (N := 35) hx hb hU uin7 hown hK hP 0 rfl rfl 16 (by decide) (hU _ U985) (fun _ h9 => h9) rfl dX7_again_171 ?_
        refine lv_iload_n hx hb dX7_again_174 rfl (lv_at hl 2 rfl) ?_
        refine lv_aload_n hx hb dX7_again_175 rfl (lv_at hl 1 rfl) ?_
        refine lv_sipush (v := 180) hx hb dX7_again_176 (by decide) ?_
        refine lv_iload_n hx hb dX7_again_179 rfl (lv_at hl 2 rfl) ?_
        refine lv_iadd hx hb dX7_again_180 ?_
        obtain ⟨g_59, hf⟩ := gd_of hf
        refine va_iald hx hb hK hP 19 0 rfl rfl (inB_vp g_59) dX7_again_181 ?_
        refine lv_topi (fun u_60 e_u_60 => ?_)
        replace hf := nm_y hf e_u_60
        obtain ⟨g_61, hf⟩ := gd_of hf
        refine va_iast hx hb hK hP (hD _ _) hS 14 0 rfl rfl (inB_vp g_61) dX7_again_182 (fun H locs hP _ hS => ?_)
        obtain ⟨sm_62, e_sm_62, hf⟩ := nm_of hf
        replace hP : va_P γ.1 vwCl (wM γ am sm_62 sq) H := by rw [e_sm_62]; exact hP
        obtain ⟨x2_63, e_x2_63⟩ : ∃ y : Int32, y = x2_52 + (1 : Int32) := ⟨_, rfl⟩
        replace hf := nm_y hf e_x2_63
        refine lv_iinc (v := x2_63) (lv' := [(2, .int x2_63), (0, .ref (am 0)), (1, .ref (am (27)))]) hx hb dX7_again_183 hl (k := 2) rfl (by rw [e_x2_63]; rfl) (by decide) rfl (fun ls hl => ?_)
        refine lv_goto (tgt := 151) hx hb dX7_again_186 (by decide) ?_
        exact ih x2_63 sm_62 _ _ _ hf hP hS (lv_sub hl [1, 2, 0] rfl)
  unfold f_X7_again at hf
  refine lv_iconst (v := 0) hx hb dX7_again_0 (by decide) ?_
  refine lv_istore_n (lv' := [(2, .int (0 : Int32)), (0, .ref (am 0)), (1, .ref (am (27)))]) hx hb dX7_again_1 rfl hl (by decide) rfl (fun ls hl => ?_)
  refine L2 _ (fun sm_29 H locs ls hf hP hS hl => ?_) FU (0 : Int32) sm _ _ _ hf hP hS (lv_sub hl [1, 2, 0] rfl)
  refine lv_iconst (v := 0) hx hb dX7_again_83 (by decide) ?_
  refine lv_istore_n (lv' := [(2, .int (0 : Int32)), (0, .ref (am 0)), (1, .ref (am (27)))]) hx hb dX7_again_84 rfl hl (by decide) rfl (fun ls hl => ?_)
  refine L85 _ (fun sm_38 H locs ls hf hP hS hl => ?_) FU (0 : Int32) sm_29 _ _ _ hf hP hS (lv_sub hl [1, 2, 0] rfl)
  refine lv_iconst (v := 0) hx hb dX7_again_109 (by decide) ?_
  refine lv_istore_n (lv' := [(2, .int (0 : Int32)), (0, .ref (am 0)), (1, .ref (am (27)))]) hx hb dX7_again_110 rfl hl (by decide) rfl (fun ls hl => ?_)
  refine L111 _ (fun sm_51 H locs ls hf hP hS hl => ?_) FU (0 : Int32) sm_38 _ _ _ hf hP hS (lv_sub hl [1, 2, 0] rfl)
  refine lv_iconst (v := 0) hx hb dX7_again_149 (by decide) ?_
  refine lv_istore_n (lv' := [(2, .int (0 : Int32)), (0, .ref (am 0)), (1, .ref (am (27)))]) hx hb dX7_again_150 rfl hl (by decide) rfl (fun ls hl => ?_)
  refine L151 _ (fun sm_64 H locs ls hf hP hS hl => ?_) FU (0 : Int32) sm_51 _ _ _ hf hP hS (lv_sub hl [1, 2, 0] rfl)
  refine lv_aload_n hx hb dX7_again_189 rfl (lv_at hl 0 rfl) ?_
  refine lv_aload_n hx hb dX7_again_190 rfl (lv_at hl 1 rfl) ?_
  refine lv_sipush (v := 188) hx hb dX7_again_191 (by decide) ?_
  refine va_iald hx hb hK hP 19 0 rfl rfl (inB_vp (n := 193) (by decide)) dX7_again_194 ?_
  refine lv_topi (fun u_65 e_u_65 => ?_)
  replace hf := nm_y hf e_u_65
  refine va_put (D := γ.1) (ci := 7) (v := .int u_65) (ty := .int) (C := RX7) (T := TX7) (N := 35) hx hb hU uin7 tyX7 tyX7_ok nmX7 hown hK hP (hD _ _) hS 0 rfl rfl 3 (by decide) (hU _ U972) (fun _ h9 => h9) rfl (by decide +kernel) rfl rfl (Nat.le_of_ble_eq_true rfl) dX7_again_195 (fun H locs hP _ hS => ?_)
  obtain ⟨sm_66, e_sm_66, hf⟩ := nm_of hf
  replace hP : va_P γ.1 vwCl (wM γ am sm_66 sq) H := by rw [e_sm_66]; exact hP
  refine lv_aload_n hx hb dX7_again_198 rfl (lv_at hl 0 rfl) ?_
  refine lv_aload_n hx hb dX7_again_199 rfl (lv_at hl 1 rfl) ?_
  refine lv_sipush (v := 189) hx hb dX7_again_200 (by decide) ?_
  refine va_iald hx hb hK hP 19 0 rfl rfl (inB_vp (n := 193) (by decide)) dX7_again_203 ?_
  refine lv_topi (fun u_67 e_u_67 => ?_)
  replace hf := nm_y hf e_u_67
  refine va_put (D := γ.1) (ci := 7) (v := .int u_67) (ty := .int) (C := RX7) (T := TX7) (N := 35) hx hb hU uin7 tyX7 tyX7_ok nmX7 hown hK hP (hD _ _) hS 0 rfl rfl 11 (by decide) (hU _ U980) (fun _ h9 => h9) rfl (by decide +kernel) rfl rfl (Nat.le_of_ble_eq_true rfl) dX7_again_204 (fun H locs hP _ hS => ?_)
  obtain ⟨sm_68, e_sm_68, hf⟩ := nm_of hf
  replace hP : va_P γ.1 vwCl (wM γ am sm_68 sq) H := by rw [e_sm_68]; exact hP
  refine lv_aload_n hx hb dX7_again_207 rfl (lv_at hl 0 rfl) ?_
  refine lv_aload_n hx hb dX7_again_208 rfl (lv_at hl 1 rfl) ?_
  refine lv_sipush (v := 190) hx hb dX7_again_209 (by decide) ?_
  refine va_iald hx hb hK hP 19 0 rfl rfl (inB_vp (n := 193) (by decide)) dX7_again_212 ?_
  refine lv_topi (fun u_69 e_u_69 => ?_)
  replace hf := nm_y hf e_u_69
  refine va_put (D := γ.1) (ci := 7) (v := .int u_69) (ty := .int) (C := RX7) (T := TX7) (N := 35) hx hb hU uin7 tyX7 tyX7_ok nmX7 hown hK hP (hD _ _) hS 0 rfl rfl 14 (by decide) (hU _ U983) (fun _ h9 => h9) rfl (by decide +kernel) rfl rfl (Nat.le_of_ble_eq_true rfl) dX7_again_213 (fun H locs hP _ hS => ?_)
  obtain ⟨sm_70, e_sm_70, hf⟩ := nm_of hf
  replace hP : va_P γ.1 vwCl (wM γ am sm_70 sq) H := by rw [e_sm_70]; exact hP
  refine lv_aload_n hx hb dX7_again_216 rfl (lv_at hl 0 rfl) ?_
  refine lv_aload_n hx hb dX7_again_217 rfl (lv_at hl 1 rfl) ?_
  refine lv_sipush (v := 191) hx hb dX7_again_218 (by decide) ?_
  refine va_iald hx hb hK hP 19 0 rfl rfl (inB_vp (n := 193) (by decide)) dX7_again_221 ?_
  refine lv_topi (fun u_71 e_u_71 => ?_)
  replace hf := nm_y hf e_u_71
  refine va_put (D := γ.1) (ci := 7) (v := .int u_71) (ty := .int) (C := RX7) (T := TX7) (N := 35) hx hb hU uin7 tyX7 tyX7_ok nmX7 hown hK hP (hD _ _) hS 0 rfl rfl 17 (by decide) (hU _ U986) (fun _ h9 => h9) rfl (by decide +kernel) rfl rfl (Nat.le_of_ble_eq_true rfl) dX7_again_222 (fun H locs hP _ hS => ?_)
  obtain ⟨sm_72, e_sm_72, hf⟩ := nm_of hf
  replace hP : va_P γ.1 vwCl (wM γ am sm_72 sq) H := by rw [e_sm_72]; exact hP
  refine lv_aload_n hx hb dX7_again_225 rfl (lv_at hl 0 rfl) ?_
  refine lv_aload_n hx hb dX7_again_226 rfl (lv_at hl 1 rfl) ?_
  refine lv_sipush (v := 192) hx hb dX7_again_227 (by decide) ?_
  refine va_iald hx hb hK hP 19 0 rfl rfl (inB_vp (n := 193) (by decide)) dX7_again_230 ?_
  refine lv_topi (fun u_73 e_u_73 => ?_)
  replace hf := nm_y hf e_u_73
  refine va_put (D := γ.1) (ci := 7) (v := .int u_73) (ty := .int) (C := RX7) (T := TX7) (N := 35) hx hb hU uin7 tyX7 tyX7_ok nmX7 hown hK hP (hD _ _) hS 0 rfl rfl 18 (by decide) (hU _ U987) (fun _ h9 => h9) rfl (by decide +kernel) rfl rfl (Nat.le_of_ble_eq_true rfl) dX7_again_231 (fun H locs hP _ hS => ?_)
  obtain ⟨sm_74, e_sm_74, hf⟩ := nm_of hf
  replace hP : va_P γ.1 vwCl (wM γ am sm_74 sq) H := by rw [e_sm_74]; exact hP
  obtain rfl := Option.some.inj hf
  exact kt_vret C0 hP hS dX7_again_234
set_option maxHeartbeats 4000000 in
set_option maxRecDepth 100000 in
theorem c_X7_again_28 (l : Launch) (γ : Gm) (am : Nat → Nat) {sm : GS} {sq : Nat → Int64} {sm_z : GS} (hf : f_X7_again 28 sm = some sm_z) : Kt l γ yX7_again (Cond.code yX7_again cX7_again 3 none :: U) 0 0 [.ref (am 0), .ref (am (28))] (wM γ am sm sq) none (wM γ am sm_z sq) := by
  refine Kt.of (by decide) rfl (Nat.le_of_ble_eq_true rfl) rfl ?_
  intro p e s m below meth c A ls C0 hP hD0 hS hl
  obtain ⟨hx, hb, hml, hown, hts, hr, hlocks, hK, hE, hA⟩ := id C0
  have hU : ∀ w ∈ U, w.before _ s = true := fun w h => hts w (List.mem_cons_of_mem _ h)
  have hD : ∀ (sm : GS) (sq : Nat → Int64), va_D A (wM γ am sm sq) := fun _ _ => hD0.fst rfl
  have hl : lv_has ls 3 [(0, .ref (am 0)), (1, .ref (am (28)))] := hl
  have L2 : ∀ (K83 : GS → Option (GS)) (HK83 : ∀ (zsm : GS) (H : Heap) (locs : List Loc) (ls : Array Slot), K83 zsm = some sm_z → va_P γ.1 vwCl (wM γ am zsm sq) H → va_S A s.heap H locs → lv_has ls 3 [(0, .ref (am 0)), (1, .ref (am (28)))] → W p l e (rmK 0 0) s m ([.ref (am 0), .ref (am (28))] : List Value).toArray below meth c H locs 0 0 (MQ below (KQ γ A none (wM γ am sm_z sq)) ([.ref (am 0), .ref (am (28))] : List Value).toArray s 0 0 A) (F0 m 83 ls [])) (n : Nat) (x2_1 : Int32) (sm_2 : GS) (H : Heap) (locs : List Loc) (ls : Array Slot), f_X7_again_L2 28 K83 n x2_1 sm_2 = some sm_z → va_P γ.1 vwCl (wM γ am sm_2 sq) H → va_S A s.heap H locs → lv_has ls 3 [(0, .ref (am 0)), (1, .ref (am (28))), (2, .int x2_1)] → W p l e (rmK 0 0) s m ([.ref (am 0), .ref (am (28))] : List Value).toArray below meth c H locs 0 0 (MQ below (KQ γ A none (wM γ am sm_z sq)) ([.ref (am 0), .ref (am (28))] : List Value).toArray s 0 0 A) (F0 m 2 ls []) := by
    intro K83 HK83
    intro n
    induction n with
    | zero =>
      intro x2_1 sm_2 H locs ls hf
      have hf : none = some _ := hf
      cases hf
    | succ n ih =>
      intro x2_1 sm_2 H locs ls hf hP hS hl
      rw [f_X7_again_L2.eq_2] at hf
      refine lv_iload_n hx hb dX7_again_2 rfl (lv_at hl 2 rfl) ?_
      refine lv_bipush (v := 10) hx hb dX7_again_3 (by decide) ?_
      refine lv_icmp_ge (tgt := 83) hx hb dX7_again_5 (by decide) (fun c_3 => ?_) (fun c_3 => ?_)
      · replace hf := ite_p c_3 hf
        exact HK83 sm_2 _ _ _ hf hP hS (lv_sub hl [0, 1] rfl)
      · replace hf := ite_n c_3 hf
        refine lv_aload_n hx hb dX7_again_8 rfl (lv_at hl 0 rfl) ?_
        refine va_get (D := γ.1) (ci := 7) (v := .ref (am 5)) (C := RX7) (T := TX7) (N := 35) hx hb hU uin7 hown hK hP 0 rfl rfl 4 (by decide) (hU _ U973) (fun _ h9 => h9) rfl dX7_again_9 ?_
        refine lv_iload_n hx hb dX7_again_12 rfl (lv_at hl 2 rfl) ?_
        refine lv_aload_n hx hb dX7_again_13 rfl (lv_at hl 1 rfl) ?_
        refine lv_iload_n hx hb dX7_again_14 rfl (lv_at hl 2 rfl) ?_
        obtain ⟨g_4, hf⟩ := gd_of hf
        refine va_iald hx hb hK hP 20 0 rfl rfl (inB_vp g_4) dX7_again_15 ?_
        refine lv_topi (fun u_5 e_u_5 => ?_)
        replace hf := nm_y hf e_u_5
        obtain ⟨g_6, hf⟩ := gd_of hf
        refine va_iast hx hb hK hP (hD _ _) hS 4 0 rfl rfl (inB_vp g_6) dX7_again_16 (fun H locs hP _ hS => ?_)
        obtain ⟨sm_7, e_sm_7, hf⟩ := nm_of hf
        replace hP : va_P γ.1 vwCl (wM γ am sm_7 sq) H := by rw [e_sm_7]; exact hP
        refine lv_aload_n hx hb dX7_again_17 rfl (lv_at hl 0 rfl) ?_
        refine va_get (D := γ.1) (ci := 7) (v := .ref (am 6)) (C := RX7) (T := TX7) (N := 35) hx hb hU uin7 hown hK hP 0 rfl rfl 5 (by decide) (hU _ U974) (fun _ h9 => h9) rfl dX7_again_18 ?_
        refine lv_iload_n hx hb dX7_again_21 rfl (lv_at hl 2 rfl) ?_
        refine lv_aload_n hx hb dX7_again_22 rfl (lv_at hl 1 rfl) ?_
        refine lv_bipush (v := 10) hx hb dX7_again_23 (by decide) ?_
        refine lv_iload_n hx hb dX7_again_25 rfl (lv_at hl 2 rfl) ?_
        refine lv_iadd hx hb dX7_again_26 ?_
        obtain ⟨g_8, hf⟩ := gd_of hf
        refine va_iald hx hb hK hP 20 0 rfl rfl (inB_vp g_8) dX7_again_27 ?_
        refine lv_topi (fun u_9 e_u_9 => ?_)
        replace hf := nm_y hf e_u_9
        obtain ⟨g_10, hf⟩ := gd_of hf
        refine va_iast hx hb hK hP (hD _ _) hS 5 0 rfl rfl (inB_vp g_10) dX7_again_28 (fun H locs hP _ hS => ?_)
        obtain ⟨sm_11, e_sm_11, hf⟩ := nm_of hf
        replace hP : va_P γ.1 vwCl (wM γ am sm_11 sq) H := by rw [e_sm_11]; exact hP
        refine lv_aload_n hx hb dX7_again_29 rfl (lv_at hl 0 rfl) ?_
        refine va_get (D := γ.1) (ci := 7) (v := .ref (am 7)) (C := RX7) (T := TX7) (N := 35) hx hb hU uin7 hown hK hP 0 rfl rfl 6 (by decide) (hU _ U975) (fun _ h9 => h9) rfl dX7_again_30 ?_
        refine lv_iload_n hx hb dX7_again_33 rfl (lv_at hl 2 rfl) ?_
        refine lv_aload_n hx hb dX7_again_34 rfl (lv_at hl 1 rfl) ?_
        refine lv_bipush (v := 20) hx hb dX7_again_35 (by decide) ?_
        refine lv_iload_n hx hb dX7_again_37 rfl (lv_at hl 2 rfl) ?_
        refine lv_iadd hx hb dX7_again_38 ?_
        obtain ⟨g_12, hf⟩ := gd_of hf
        refine va_iald hx hb hK hP 20 0 rfl rfl (inB_vp g_12) dX7_again_39 ?_
        refine lv_topi (fun u_13 e_u_13 => ?_)
        replace hf := nm_y hf e_u_13
        obtain ⟨g_14, hf⟩ := gd_of hf
        refine va_iast hx hb hK hP (hD _ _) hS 6 0 rfl rfl (inB_vp g_14) dX7_again_40 (fun H locs hP _ hS => ?_)
        obtain ⟨sm_15, e_sm_15, hf⟩ := nm_of hf
        replace hP : va_P γ.1 vwCl (wM γ am sm_15 sq) H := by rw [e_sm_15]; exact hP
        refine lv_aload_n hx hb dX7_again_41 rfl (lv_at hl 0 rfl) ?_
        refine va_get (D := γ.1) (ci := 7) (v := .ref (am 8)) (C := RX7) (T := TX7) (N := 35) hx hb hU uin7 hown hK hP 0 rfl rfl 7 (by decide) (hU _ U976) (fun _ h9 => h9) rfl dX7_again_42 ?_
        refine lv_iload_n hx hb dX7_again_45 rfl (lv_at hl 2 rfl) ?_
        refine lv_aload_n hx hb dX7_again_46 rfl (lv_at hl 1 rfl) ?_
        refine lv_bipush (v := 30) hx hb dX7_again_47 (by decide) ?_
        refine lv_iload_n hx hb dX7_again_49 rfl (lv_at hl 2 rfl) ?_
        refine lv_iadd hx hb dX7_again_50 ?_
        obtain ⟨g_16, hf⟩ := gd_of hf
        refine va_iald hx hb hK hP 20 0 rfl rfl (inB_vp g_16) dX7_again_51 ?_
        refine lv_topi (fun u_17 e_u_17 => ?_)
        replace hf := nm_y hf e_u_17
        obtain ⟨g_18, hf⟩ := gd_of hf
        refine va_iast hx hb hK hP (hD _ _) hS 7 0 rfl rfl (inB_vp g_18) dX7_again_52 (fun H locs hP _ hS => ?_)
        obtain ⟨sm_19, e_sm_19, hf⟩ := nm_of hf
        replace hP : va_P γ.1 vwCl (wM γ am sm_19 sq) H := by rw [e_sm_19]; exact hP
        refine lv_aload_n hx hb dX7_again_53 rfl (lv_at hl 0 rfl) ?_
        refine va_get (D := γ.1) (ci := 7) (v := .ref (am 9)) (C := RX7) (T := TX7) (N := 35) hx hb hU uin7 hown hK hP 0 rfl rfl 8 (by decide) (hU _ U977) (fun _ h9 => h9) rfl dX7_again_54 ?_
        refine lv_iload_n hx hb dX7_again_57 rfl (lv_at hl 2 rfl) ?_
        refine lv_aload_n hx hb dX7_again_58 rfl (lv_at hl 1 rfl) ?_
        refine lv_bipush (v := 40) hx hb dX7_again_59 (by decide) ?_
        refine lv_iload_n hx hb dX7_again_61 rfl (lv_at hl 2 rfl) ?_
        refine lv_iadd hx hb dX7_again_62 ?_
        obtain ⟨g_20, hf⟩ := gd_of hf
        refine va_iald hx hb hK hP 20 0 rfl rfl (inB_vp g_20) dX7_again_63 ?_
        refine lv_topi (fun u_21 e_u_21 => ?_)
        replace hf := nm_y hf e_u_21
        obtain ⟨g_22, hf⟩ := gd_of hf
        refine va_iast hx hb hK hP (hD _ _) hS 8 0 rfl rfl (inB_vp g_22) dX7_again_64 (fun H locs hP _ hS => ?_)
        obtain ⟨sm_23, e_sm_23, hf⟩ := nm_of hf
        replace hP : va_P γ.1 vwCl (wM γ am sm_23 sq) H := by rw [e_sm_23]; exact hP
        refine lv_aload_n hx hb dX7_again_65 rfl (lv_at hl 0 rfl) ?_
        refine va_get (D := γ.1) (ci := 7) (v := .ref (am 10)) (C := RX7) (T := TX7) (N := 35) hx hb hU uin7 hown hK hP 0 rfl rfl 9 (by decide) (hU _ U978) (fun _ h9 => h9) rfl dX7_again_66 ?_
        refine lv_iload_n hx hb dX7_again_69 rfl (lv_at hl 2 rfl) ?_
        refine lv_aload_n hx hb dX7_again_70 rfl (lv_at hl 1 rfl) ?_
        refine lv_bipush (v := 50) hx hb dX7_again_71 (by decide) ?_
        refine lv_iload_n hx hb dX7_again_73 rfl (lv_at hl 2 rfl) ?_
        refine lv_iadd hx hb dX7_again_74 ?_
        obtain ⟨g_24, hf⟩ := gd_of hf
        refine va_iald hx hb hK hP 20 0 rfl rfl (inB_vp g_24) dX7_again_75 ?_
        refine lv_topi (fun u_25 e_u_25 => ?_)
        replace hf := nm_y hf e_u_25
        obtain ⟨g_26, hf⟩ := gd_of hf
        refine va_iast hx hb hK hP (hD _ _) hS 9 0 rfl rfl (inB_vp g_26) dX7_again_76 (fun H locs hP _ hS => ?_)
        obtain ⟨sm_27, e_sm_27, hf⟩ := nm_of hf
        replace hP : va_P γ.1 vwCl (wM γ am sm_27 sq) H := by rw [e_sm_27]; exact hP
        obtain ⟨x2_28, e_x2_28⟩ : ∃ y : Int32, y = x2_1 + (1 : Int32) := ⟨_, rfl⟩
        replace hf := nm_y hf e_x2_28
        refine lv_iinc (v := x2_28) (lv' := [(2, .int x2_28), (0, .ref (am 0)), (1, .ref (am (28)))]) hx hb dX7_again_77 hl (k := 2) rfl (by rw [e_x2_28]; rfl) (by decide) rfl (fun ls hl => ?_)
        refine lv_goto (tgt := 2) hx hb dX7_again_80 (by decide) ?_
        exact ih x2_28 sm_27 _ _ _ hf hP hS (lv_sub hl [1, 2, 0] rfl)
  have L85 : ∀ (K109 : GS → Option (GS)) (HK109 : ∀ (zsm : GS) (H : Heap) (locs : List Loc) (ls : Array Slot), K109 zsm = some sm_z → va_P γ.1 vwCl (wM γ am zsm sq) H → va_S A s.heap H locs → lv_has ls 3 [(0, .ref (am 0)), (1, .ref (am (28)))] → W p l e (rmK 0 0) s m ([.ref (am 0), .ref (am (28))] : List Value).toArray below meth c H locs 0 0 (MQ below (KQ γ A none (wM γ am sm_z sq)) ([.ref (am 0), .ref (am (28))] : List Value).toArray s 0 0 A) (F0 m 109 ls [])) (n : Nat) (x2_30 : Int32) (sm_31 : GS) (H : Heap) (locs : List Loc) (ls : Array Slot), f_X7_again_L85 28 K109 n x2_30 sm_31 = some sm_z → va_P γ.1 vwCl (wM γ am sm_31 sq) H → va_S A s.heap H locs → lv_has ls 3 [(0, .ref (am 0)), (1, .ref (am (28))), (2, .int x2_30)] → W p l e (rmK 0 0) s m ([.ref (am 0), .ref (am (28))] : List Value).toArray below meth c H locs 0 0 (MQ below (KQ γ A none (wM γ am sm_z sq)) ([.ref (am 0), .ref (am (28))] : List Value).toArray s 0 0 A) (F0 m 85 ls []) := by
    intro K109 HK109
    intro n
    induction n with
    | zero =>
      intro x2_30 sm_31 H locs ls hf
      have hf : none = some _ := hf
      cases hf
    | succ n ih =>
      intro x2_30 sm_31 H locs ls hf hP hS hl
      rw [f_X7_again_L85.eq_2] at hf
      refine lv_iload_n hx hb dX7_again_85 rfl (lv_at hl 2 rfl) ?_
      refine lv_bipush (v := 100) hx hb dX7_again_86 (by decide) ?_
      refine lv_icmp_ge (tgt := 109) hx hb dX7_again_88 (by decide) (fun c_32 => ?_) (fun c_32 => ?_)
      · replace hf := ite_p c_32 hf
        exact HK109 sm_31 _ _ _ hf hP hS (lv_sub hl [0, 1] rfl)
      · replace hf := ite_n c_32 hf
        refine lv_aload_n hx hb dX7_again_91 rfl (lv_at hl 0 rfl) ?_
        refine va_get (D := γ.1) (ci := 7) (v := .ref (am 11)) (C := RX7) (T := TX7) (N := 35) hx hb hU uin7 hown hK hP 0 rfl rfl 10 (by decide) (hU _ U979) (fun _ h9 => h9) rfl dX7_again_92 ?_
        refine lv_iload_n hx hb dX7_again_95 rfl (lv_at hl 2 rfl) ?_
        refine lv_aload_n hx hb dX7_again_96 rfl (lv_at hl 1 rfl) ?_
        refine lv_bipush (v := 60) hx hb dX7_again_97 (by decide) ?_
        refine lv_iload_n hx hb dX7_again_99 rfl (lv_at hl 2 rfl) ?_
        refine lv_iadd hx hb dX7_again_100 ?_
        obtain ⟨g_33, hf⟩ := gd_of hf
        refine va_iald hx hb hK hP 20 0 rfl rfl (inB_vp g_33) dX7_again_101 ?_
        refine lv_topi (fun u_34 e_u_34 => ?_)
        replace hf := nm_y hf e_u_34
        obtain ⟨g_35, hf⟩ := gd_of hf
        refine va_iast hx hb hK hP (hD _ _) hS 10 0 rfl rfl (inB_vp g_35) dX7_again_102 (fun H locs hP _ hS => ?_)
        obtain ⟨sm_36, e_sm_36, hf⟩ := nm_of hf
        replace hP : va_P γ.1 vwCl (wM γ am sm_36 sq) H := by rw [e_sm_36]; exact hP
        obtain ⟨x2_37, e_x2_37⟩ : ∃ y : Int32, y = x2_30 + (1 : Int32) := ⟨_, rfl⟩
        replace hf := nm_y hf e_x2_37
        refine lv_iinc (v := x2_37) (lv' := [(2, .int x2_37), (0, .ref (am 0)), (1, .ref (am (28)))]) hx hb dX7_again_103 hl (k := 2) rfl (by rw [e_x2_37]; rfl) (by decide) rfl (fun ls hl => ?_)
        refine lv_goto (tgt := 85) hx hb dX7_again_106 (by decide) ?_
        exact ih x2_37 sm_36 _ _ _ hf hP hS (lv_sub hl [1, 2, 0] rfl)
  have L111 : ∀ (K149 : GS → Option (GS)) (HK149 : ∀ (zsm : GS) (H : Heap) (locs : List Loc) (ls : Array Slot), K149 zsm = some sm_z → va_P γ.1 vwCl (wM γ am zsm sq) H → va_S A s.heap H locs → lv_has ls 3 [(0, .ref (am 0)), (1, .ref (am (28)))] → W p l e (rmK 0 0) s m ([.ref (am 0), .ref (am (28))] : List Value).toArray below meth c H locs 0 0 (MQ below (KQ γ A none (wM γ am sm_z sq)) ([.ref (am 0), .ref (am (28))] : List Value).toArray s 0 0 A) (F0 m 149 ls [])) (n : Nat) (x2_39 : Int32) (sm_40 : GS) (H : Heap) (locs : List Loc) (ls : Array Slot), f_X7_again_L111 28 K149 n x2_39 sm_40 = some sm_z → va_P γ.1 vwCl (wM γ am sm_40 sq) H → va_S A s.heap H locs → lv_has ls 3 [(0, .ref (am 0)), (1, .ref (am (28))), (2, .int x2_39)] → W p l e (rmK 0 0) s m ([.ref (am 0), .ref (am (28))] : List Value).toArray below meth c H locs 0 0 (MQ below (KQ γ A none (wM γ am sm_z sq)) ([.ref (am 0), .ref (am (28))] : List Value).toArray s 0 0 A) (F0 m 111 ls []) := by
    intro K149 HK149
    intro n
    induction n with
    | zero =>
      intro x2_39 sm_40 H locs ls hf
      have hf : none = some _ := hf
      cases hf
    | succ n ih =>
      intro x2_39 sm_40 H locs ls hf hP hS hl
      rw [f_X7_again_L111.eq_2] at hf
      refine lv_iload_n hx hb dX7_again_111 rfl (lv_at hl 2 rfl) ?_
      refine lv_bipush (v := 6) hx hb dX7_again_112 (by decide) ?_
      refine lv_icmp_ge (tgt := 149) hx hb dX7_again_114 (by decide) (fun c_41 => ?_) (fun c_41 => ?_)
      · replace hf := ite_p c_41 hf
        exact HK149 sm_40 _ _ _ hf hP hS (lv_sub hl [0, 1] rfl)
      · replace hf := ite_n c_41 hf
        refine lv_aload_n hx hb dX7_again_117 rfl (lv_at hl 0 rfl) ?_
        refine va_get (D := γ.1) (ci := 7) (v := .ref (am 13)) (C := RX7) (T := TX7) (N := 35) hx hb hU uin7 hown hK hP 0 rfl rfl 12 (by decide) (hU _ U981) (fun _ h9 => h9) rfl dX7_again_118 ?_
        refine lv_iload_n hx hb dX7_again_121 rfl (lv_at hl 2 rfl) ?_
        refine lv_aload_n hx hb dX7_again_122 rfl (lv_at hl 1 rfl) ?_
        refine lv_sipush (v := 160) hx hb dX7_again_123 (by decide) ?_
        refine lv_iload_n hx hb dX7_again_126 rfl (lv_at hl 2 rfl) ?_
        refine lv_iadd hx hb dX7_again_127 ?_
        obtain ⟨g_42, hf⟩ := gd_of hf
        refine va_iald hx hb hK hP 20 0 rfl rfl (inB_vp g_42) dX7_again_128 ?_
        refine lv_topi (fun u_43 e_u_43 => ?_)
        replace hf := nm_y hf e_u_43
        obtain ⟨g_44, hf⟩ := gd_of hf
        refine va_iast hx hb hK hP (hD _ _) hS 11 0 rfl rfl (inB_vp g_44) dX7_again_129 (fun H locs hP _ hS => ?_)
        obtain ⟨sm_45, e_sm_45, hf⟩ := nm_of hf
        replace hP : va_P γ.1 vwCl (wM γ am sm_45 sq) H := by rw [e_sm_45]; exact hP
        refine lv_aload_n hx hb dX7_again_130 rfl (lv_at hl 0 rfl) ?_
        refine va_get (D := γ.1) (ci := 7) (v := .ref (am 14)) (C := RX7) (T := TX7) (N := 35) hx hb hU uin7 hown hK hP 0 rfl rfl 13 (by decide) (hU _ U982) (fun _ h9 => h9) rfl dX7_again_131 ?_
        refine lv_iload_n hx hb dX7_again_134 rfl (lv_at hl 2 rfl) ?_
        refine lv_aload_n hx hb dX7_again_135 rfl (lv_at hl 1 rfl) ?_
        refine lv_sipush (v := 166) hx hb dX7_again_136 (by decide) ?_
        refine lv_iload_n hx hb dX7_again_139 rfl (lv_at hl 2 rfl) ?_
        refine lv_iadd hx hb dX7_again_140 ?_
        obtain ⟨g_46, hf⟩ := gd_of hf
        refine va_iald hx hb hK hP 20 0 rfl rfl (inB_vp g_46) dX7_again_141 ?_
        refine lv_topi (fun u_47 e_u_47 => ?_)
        replace hf := nm_y hf e_u_47
        obtain ⟨g_48, hf⟩ := gd_of hf
        refine va_iast hx hb hK hP (hD _ _) hS 12 0 rfl rfl (inB_vp g_48) dX7_again_142 (fun H locs hP _ hS => ?_)
        obtain ⟨sm_49, e_sm_49, hf⟩ := nm_of hf
        replace hP : va_P γ.1 vwCl (wM γ am sm_49 sq) H := by rw [e_sm_49]; exact hP
        obtain ⟨x2_50, e_x2_50⟩ : ∃ y : Int32, y = x2_39 + (1 : Int32) := ⟨_, rfl⟩
        replace hf := nm_y hf e_x2_50
        refine lv_iinc (v := x2_50) (lv' := [(2, .int x2_50), (0, .ref (am 0)), (1, .ref (am (28)))]) hx hb dX7_again_143 hl (k := 2) rfl (by rw [e_x2_50]; rfl) (by decide) rfl (fun ls hl => ?_)
        refine lv_goto (tgt := 111) hx hb dX7_again_146 (by decide) ?_
        exact ih x2_50 sm_49 _ _ _ hf hP hS (lv_sub hl [1, 2, 0] rfl)
  have L151 : ∀ (K189 : GS → Option (GS)) (HK189 : ∀ (zsm : GS) (H : Heap) (locs : List Loc) (ls : Array Slot), K189 zsm = some sm_z → va_P γ.1 vwCl (wM γ am zsm sq) H → va_S A s.heap H locs → lv_has ls 3 [(0, .ref (am 0)), (1, .ref (am (28)))] → W p l e (rmK 0 0) s m ([.ref (am 0), .ref (am (28))] : List Value).toArray below meth c H locs 0 0 (MQ below (KQ γ A none (wM γ am sm_z sq)) ([.ref (am 0), .ref (am (28))] : List Value).toArray s 0 0 A) (F0 m 189 ls [])) (n : Nat) (x2_52 : Int32) (sm_53 : GS) (H : Heap) (locs : List Loc) (ls : Array Slot), f_X7_again_L151 28 K189 n x2_52 sm_53 = some sm_z → va_P γ.1 vwCl (wM γ am sm_53 sq) H → va_S A s.heap H locs → lv_has ls 3 [(0, .ref (am 0)), (1, .ref (am (28))), (2, .int x2_52)] → W p l e (rmK 0 0) s m ([.ref (am 0), .ref (am (28))] : List Value).toArray below meth c H locs 0 0 (MQ below (KQ γ A none (wM γ am sm_z sq)) ([.ref (am 0), .ref (am (28))] : List Value).toArray s 0 0 A) (F0 m 151 ls []) := by
    intro K189 HK189
    intro n
    induction n with
    | zero =>
      intro x2_52 sm_53 H locs ls hf
      have hf : none = some _ := hf
      cases hf
    | succ n ih =>
      intro x2_52 sm_53 H locs ls hf hP hS hl
      rw [f_X7_again_L151.eq_2] at hf
      refine lv_iload_n hx hb dX7_again_151 rfl (lv_at hl 2 rfl) ?_
      refine lv_bipush (v := 8) hx hb dX7_again_152 (by decide) ?_
      refine lv_icmp_ge (tgt := 189) hx hb dX7_again_154 (by decide) (fun c_54 => ?_) (fun c_54 => ?_)
      · replace hf := ite_p c_54 hf
        exact HK189 sm_53 _ _ _ hf hP hS (lv_sub hl [0, 1] rfl)
      · replace hf := ite_n c_54 hf
        refine lv_aload_n hx hb dX7_again_157 rfl (lv_at hl 0 rfl) ?_
        refine va_get (D := γ.1) (ci := 7) (v := .ref (am 16)) (C := RX7) (T := TX7) (N := 35) hx hb hU uin7 hown hK hP 0 rfl rfl 15 (by decide) (hU _ U984) (fun _ h9 => h9) rfl dX7_again_158 ?_
        refine lv_iload_n hx hb dX7_again_161 rfl (lv_at hl 2 rfl) ?_
        refine lv_aload_n hx hb dX7_again_162 rfl (lv_at hl 1 rfl) ?_
        refine lv_sipush (v := 172) hx hb dX7_again_163 (by decide) ?_
        refine lv_iload_n hx hb dX7_again_166 rfl (lv_at hl 2 rfl) ?_
        refine lv_iadd hx hb dX7_again_167 ?_
        obtain ⟨g_55, hf⟩ := gd_of hf
        refine va_iald hx hb hK hP 20 0 rfl rfl (inB_vp g_55) dX7_again_168 ?_
        refine lv_topi (fun u_56 e_u_56 => ?_)
        replace hf := nm_y hf e_u_56
        obtain ⟨g_57, hf⟩ := gd_of hf
        refine va_iast hx hb hK hP (hD _ _) hS 13 0 rfl rfl (inB_vp g_57) dX7_again_169 (fun H locs hP _ hS => ?_)
        obtain ⟨sm_58, e_sm_58, hf⟩ := nm_of hf
        replace hP : va_P γ.1 vwCl (wM γ am sm_58 sq) H := by rw [e_sm_58]; exact hP
        refine lv_aload_n hx hb dX7_again_170 rfl (lv_at hl 0 rfl) ?_
        refine va_get (D := γ.1) (ci := 7) (v := .ref (am 17)) (C := RX7) (T := TX7) (N := 35) hx hb hU uin7 hown hK hP 0 rfl rfl 16 (by decide) (hU _ U985) (fun _ h9 => h9) rfl dX7_again_171 ?_
        refine lv_iload_n hx hb dX7_again_174 rfl (lv_at hl 2 rfl) ?_
        refine lv_aload_n hx hb dX7_again_175 rfl (lv_at hl 1 rfl) ?_
        refine lv_sipush (v := 180) hx hb dX7_again_176 (by decide) ?_
        refine lv_iload_n hx hb dX7_again_179 rfl (lv_at hl 2 rfl) ?_
        refine lv_iadd hx hb dX7_again_180 ?_
        obtain ⟨g_59, hf⟩ := gd_of hf
        refine va_iald hx hb hK hP 20 0 rfl rfl (inB_vp g_59) dX7_again_181 ?_
        refine lv_topi (fun u_60 e_u_60 => ?_)
        replace hf := nm_y hf e_u_60
        obtain ⟨g_61, hf⟩ := gd_of hf
        refine va_iast hx hb hK hP (hD _ _) hS 14 0 rfl rfl (inB_vp g_61) dX7_again_182 (fun H locs hP _ hS => ?_)
        obtain ⟨sm_62, e_sm_62, hf⟩ := nm_of hf
        replace hP : va_P γ.1 vwCl (wM γ am sm_62 sq) H := by rw [e_sm_62]; exact hP
        obtain ⟨x2_63, e_x2_63⟩ : ∃ y : Int32, y = x2_52 + (1 : Int32) := ⟨_, rfl⟩
        replace hf := nm_y hf e_x2_63
        refine lv_iinc (v := x2_63) (lv' := [(2, .int x2_63), (0, .ref (am 0)), (1, .ref (am (28)))]) hx hb dX7_again_183 hl (k := 2) rfl (by rw [e_x2_63]; rfl) (by decide) rfl (fun ls hl => ?_)
        refine lv_goto (tgt := 151) hx hb dX7_again_186 (by decide) ?_
        exact ih x2_63 sm_62 _ _ _ hf hP hS (lv_sub hl [1, 2, 0] rfl)
  unfold f_X7_again at hf
  refine lv_iconst (v := 0) hx hb dX7_again_0 (by decide) ?_
  refine lv_istore_n (lv' := [(2, .int (0 : Int32)), (0, .ref (am 0)), (1, .ref (am (28)))]) hx hb dX7_again_1 rfl hl (by decide) rfl (fun ls hl => ?_)
  refine L2 _ (fun sm_29 H locs ls hf hP hS hl => ?_) FU (0 : Int32) sm _ _ _ hf hP hS (lv_sub hl [1, 2, 0] rfl)
  refine lv_iconst (v := 0) hx hb dX7_again_83 (by decide) ?_
  refine lv_istore_n (lv' := [(2, .int (0 : Int32)), (0, .ref (am 0)), (1, .ref (am (28)))]) hx hb dX7_again_84 rfl hl (by decide) rfl (fun ls hl => ?_)
  refine L85 _ (fun sm_38 H locs ls hf hP hS hl => ?_) FU (0 : Int32) sm_29 _ _ _ hf hP hS (lv_sub hl [1, 2, 0] rfl)
  refine lv_iconst (v := 0) hx hb dX7_again_109 (by decide) ?_
  refine lv_istore_n (lv' := [(2, .int (0 : Int32)), (0, .ref (am 0)), (1, .ref (am (28)))]) hx hb dX7_again_110 rfl hl (by decide) rfl (fun ls hl => ?_)
  refine L111 _ (fun sm_51 H locs ls hf hP hS hl => ?_) FU (0 : Int32) sm_38 _ _ _ hf hP hS (lv_sub hl [1, 2, 0] rfl)
  refine lv_iconst (v := 0) hx hb dX7_again_149 (by decide) ?_
  refine lv_istore_n (lv' := [(2, .int (0 : Int32)), (0, .ref (am 0)), (1, .ref (am (28)))]) hx hb dX7_again_150 rfl hl (by decide) rfl (fun ls hl => ?_)
  refine L151 _ (fun sm_64 H locs ls hf hP hS hl => ?_) FU (0 : Int32) sm_51 _ _ _ hf hP hS (lv_sub hl [1, 2, 0] rfl)
  refine lv_aload_n hx hb dX7_again_189 rfl (lv_at hl 0 rfl) ?_
  refine lv_aload_n hx hb dX7_again_190 rfl (lv_at hl 1 rfl) ?_
  refine lv_sipush (v := 188) hx hb dX7_again_191 (by decide) ?_
  refine va_iald hx hb hK hP 20 0 rfl rfl (inB_vp (n := 193) (by decide)) dX7_again_194 ?_
  refine lv_topi (fun u_65 e_u_65 => ?_)
  replace hf := nm_y hf e_u_65
  refine va_put (D := γ.1) (ci := 7) (v := .int u_65) (ty := .int) (C := RX7) (T := TX7) (N := 35) hx hb hU uin7 tyX7 tyX7_ok nmX7 hown hK hP (hD _ _) hS 0 rfl rfl 3 (by decide) (hU _ U972) (fun _ h9 => h9) rfl (by decide +kernel) rfl rfl (Nat.le_of_ble_eq_true rfl) dX7_again_195 (fun H locs hP _ hS => ?_)
  obtain ⟨sm_66, e_sm_66, hf⟩ := nm_of hf
  replace hP : va_P γ.1 vwCl (wM γ am sm_66 sq) H := by rw [e_sm_66]; exact hP
  refine lv_aload_n hx hb dX7_again_198 rfl (lv_at hl 0 rfl) ?_
  refine lv_aload_n hx hb dX7_again_199 rfl (lv_at hl 1 rfl) ?_
  refine lv_sipush (v := 189) hx hb dX7_again_200 (by decide) ?_
  refine va_iald hx hb hK hP 20 0 rfl rfl (inB_vp (n := 193) (by decide)) dX7_again_203 ?_
  refine lv_topi (fun u_67 e_u_67 => ?_)
  replace hf := nm_y hf e_u_67
  refine va_put (D := γ.1) (ci := 7) (v := .int u_67) (ty := .int) (C := RX7) (T := TX7) (N := 35) hx hb hU uin7 tyX7 tyX7_ok nmX7 hown hK hP (hD _ _) hS 0 rfl rfl 11 (by decide) (hU _ U980) (fun _ h9 => h9) rfl (by decide +kernel) rfl rfl (Nat.le_of_ble_eq_true rfl) dX7_again_204 (fun H locs hP _ hS => ?_)
  obtain ⟨sm_68, e_sm_68, hf⟩ := nm_of hf
  replace hP : va_P γ.1 vwCl (wM γ am sm_68 sq) H := by rw [e_sm_68]; exact hP
  refine lv_aload_n hx hb dX7_again_207 rfl (lv_at hl 0 rfl) ?_
  refine lv_aload_n hx hb dX7_again_208 rfl (lv_at hl 1 rfl) ?_
  refine lv_sipush (v := 190) hx hb dX7_again_209 (by decide) ?_
  refine va_iald hx hb hK hP 20 0 rfl rfl (inB_vp (n := 193) (by decide)) dX7_again_212 ?_
  refine lv_topi (fun u_69 e_u_69 => ?_)
  replace hf := nm_y hf e_u_69
  refine va_put (D := γ.1) (ci := 7) (v := .int u_69) (ty := .int) (C := RX7) (T := TX7) (N := 35) hx hb hU uin7 tyX7 tyX7_ok nmX7 hown hK hP (hD _ _) hS 0 rfl rfl 14 (by decide) (hU _ U983) (fun _ h9 => h9) rfl (by decide +kernel) rfl rfl (Nat.le_of_ble_eq_true rfl) dX7_again_213 (fun H locs hP _ hS => ?_)
  obtain ⟨sm_70, e_sm_70, hf⟩ := nm_of hf
  replace hP : va_P γ.1 vwCl (wM γ am sm_70 sq) H := by rw [e_sm_70]; exact hP
  refine lv_aload_n hx hb dX7_again_216 rfl (lv_at hl 0 rfl) ?_
  refine lv_aload_n hx hb dX7_again_217 rfl (lv_at hl 1 rfl) ?_
  refine lv_sipush (v := 191) hx hb dX7_again_218 (by decide) ?_
  refine va_iald hx hb hK hP 20 0 rfl rfl (inB_vp (n := 193) (by decide)) dX7_again_221 ?_
  refine lv_topi (fun u_71 e_u_71 => ?_)
  replace hf := nm_y hf e_u_71
  refine va_put (D := γ.1) (ci := 7) (v := .int u_71) (ty := .int) (C := RX7) (T := TX7) (N := 35) hx hb hU uin7 tyX7 tyX7_ok nmX7 hown hK hP (hD _ _) hS 0 rfl rfl 17 (by decide) (hU _ U986) (fun _ h9 => h9) rfl (by decide +kernel) rfl rfl (Nat.le_of_ble_eq_true rfl) dX7_again_222 (fun H locs hP _ hS => ?_)
  obtain ⟨sm_72, e_sm_72, hf⟩ := nm_of hf
  replace hP : va_P γ.1 vwCl (wM γ am sm_72 sq) H := by rw [e_sm_72]; exact hP
  refine lv_aload_n hx hb dX7_again_225 rfl (lv_at hl 0 rfl) ?_
  refine lv_aload_n hx hb dX7_again_226 rfl (lv_at hl 1 rfl) ?_
  refine lv_sipush (v := 192) hx hb dX7_again_227 (by decide) ?_
  refine va_iald hx hb hK hP 20 0 rfl rfl (inB_vp (n := 193) (by decide)) dX7_again_230 ?_
  refine lv_topi (fun u_73 e_u_73 => ?_)
  replace hf := nm_y hf e_u_73
  refine va_put (D := γ.1) (ci := 7) (v := .int u_73) (ty := .int) (C := RX7) (T := TX7) (N := 35) hx hb hU uin7 tyX7 tyX7_ok nmX7 hown hK hP (hD _ _) hS 0 rfl rfl 18 (by decide) (hU _ U987) (fun _ h9 => h9) rfl (by decide +kernel) rfl rfl (Nat.le_of_ble_eq_true rfl) dX7_again_231 (fun H locs hP _ hS => ?_)
  obtain ⟨sm_74, e_sm_74, hf⟩ := nm_of hf
  replace hP : va_P γ.1 vwCl (wM γ am sm_74 sq) H := by rw [e_sm_74]; exact hP
  obtain rfl := Option.some.inj hf
  exact kt_vret C0 hP hS dX7_again_234
set_option maxHeartbeats 4000000 in
set_option maxRecDepth 100000 in
theorem c_X7_range (l : Launch) (γ : Gm) (am : Nat → Nat) {sm : GS} {sq : Nat → Int64} {x1 : Int32} {rv : Int32} {sm_z : GS} (hf : f_X7_range sm sq x1 = some (rv, sm_z)) : Kt l γ yX7_range (Cond.code yX7_range cX7_range 5 (some .int) :: U) 8 188 [.ref (am 0), .int x1] (wM γ am sm sq) (some (.int rv)) (wM γ am sm_z sq) := by
  refine Kt.of (by decide) rfl (Nat.le_of_ble_eq_true rfl) rfl ?_
  intro p e s m below meth c A ls C0 hP hD0 hS hl
  obtain ⟨hx, hb, hml, hown, hts, hr, hlocks, hK, hE, hA⟩ := id C0
  have hU : ∀ w ∈ U, w.before _ s = true := fun w h => hts w (List.mem_cons_of_mem _ h)
  have hD : ∀ (sm : GS) (sq : Nat → Int64), va_D A (wM γ am sm sq) := fun _ _ => hD0.fst rfl
  have hl : lv_has ls 5 [(0, .ref (am 0)), (1, .int x1)] := hl
  have J83 : ∀ (x1_29 : Int32) (x3_30 : Int32) (x4_31 : Int32) (sm_32 : GS) (K39 : Int32 → Int32 → GS → Option (Int32 × GS)) (HK39 : ∀ (z3 : Int32) (z4 : Int32) (zsm : GS) (H : Heap) (locs : List Loc) (ls : Array Slot), K39 z3 z4 zsm = some (rv, sm_z) → va_P γ.1 vwCl (wM γ am zsm sq) H → va_S A s.heap H locs → lv_has ls 5 [(0, .ref (am 0)), (1, .int x1_29), (3, .int z3), (4, .int z4)] → W p l e (rmK 8 188) s m ([.ref (am 0), .int x1] : List Value).toArray below meth c H locs 0 0 (MQ below (KQ γ A (some (.int rv)) (wM γ am sm_z sq)) ([.ref (am 0), .int x1] : List Value).toArray s 0 0 A) (F0 m 39 ls [])) (H : Heap) (locs : List Loc) (ls : Array Slot), f_X7_range_J83 sq x3_30 x4_31 sm_32 K39 = some (rv, sm_z) → va_P γ.1 vwCl (wM γ am sm_32 sq) H → va_S A s.heap H locs → lv_has ls 5 [(0, .ref (am 0)), (1, .int x1_29), (3, .int x3_30), (4, .int x4_31)] → W p l e (rmK 8 188) s m ([.ref (am 0), .int x1] : List Value).toArray below meth c H locs 0 0 (MQ below (KQ γ A (some (.int rv)) (wM γ am sm_z sq)) ([.ref (am 0), .int x1] : List Value).toArray s 0 0 A) (F0 m 83 ls []) := by
    intro x1_29 x3_30 x4_31 sm_32 K39 HK39 H locs ls hf hP hS hl
    unfold f_X7_range_J83 at hf
    refine lv_iload hx hb dX7_range_83 (lv_at hl 3 rfl) ?_
    refine lv_if_eq (tgt := 39) hx hb dX7_range_85 (by decide) (fun c_33 => ?_) (fun c_33 => ?_)
    · replace hf := ite_p c_33 hf
      exact HK39 x3_30 x4_31 sm_32 _ _ _ hf hP hS (lv_sub hl [0, 1, 2, 3] rfl)
    · replace hf := ite_n c_33 hf
      refine lv_aload_n hx hb dX7_range_88 rfl (lv_at hl 0 rfl) ?_
      refine lv_bipush (v := 59) hx hb dX7_range_89 (by decide) ?_
      obtain ⟨r_34, sm_35, hg_36, hf⟩ := bd2_of hf
      refine kt_V0 (As := [.int (59 : Int32)]) (rest := []) (st1 := [.int r_34]) (b := am 0) C0 (c_X7_is l γ am hg_36) (cxV (nA := 1) hts goodU U1251 U1253 U54 U91 U1254 (by decide +kernel) ⟨Nat.le_of_ble_eq_true rfl, Nat.le_of_ble_eq_true rfl⟩) hP (hD _ _) hS hl dX7_range_91 0 7 rfl rfl rfl rfl (Nat.le_of_ble_eq_true rfl) rfl rfl (fun H locs hP hS => ?_)
      refine lv_istore (lv' := [(4, .int r_34), (0, .ref (am 0)), (1, .int x1_29), (3, .int x3_30)]) hx hb dX7_range_94 hl (by decide) rfl (fun ls hl => ?_)
      refine lv_goto (tgt := 39) hx hb dX7_range_96 (by decide) ?_
      exact HK39 x3_30 r_34 sm_35 _ _ _ hf hP hS (lv_sub hl [1, 2, 3, 0] rfl)
  have J58 : ∀ (x1_24 : Int32) (x3_25 : Int32) (x4_26 : Int32) (sm_27 : GS) (K39 : Int32 → Int32 → GS → Option (Int32 × GS)) (HK39 : ∀ (z3 : Int32) (z4 : Int32) (zsm : GS) (H : Heap) (locs : List Loc) (ls : Array Slot), K39 z3 z4 zsm = some (rv, sm_z) → va_P γ.1 vwCl (wM γ am zsm sq) H → va_S A s.heap H locs → lv_has ls 5 [(0, .ref (am 0)), (1, .int x1_24), (3, .int z3), (4, .int z4)] → W p l e (rmK 8 188) s m ([.ref (am 0), .int x1] : List Value).toArray below meth c H locs 0 0 (MQ below (KQ γ A (some (.int rv)) (wM γ am sm_z sq)) ([.ref (am 0), .int x1] : List Value).toArray s 0 0 A) (F0 m 39 ls [])) (H : Heap) (locs : List Loc) (ls : Array Slot), f_X7_range_J58 sq x1_24 x3_25 x4_26 sm_27 K39 = some (rv, sm_z) → va_P γ.1 vwCl (wM γ am sm_27 sq) H → va_S A s.heap H locs → lv_has ls 5 [(0, .ref (am 0)), (1, .int x1_24), (3, .int x3_25), (4, .int x4_26)] → W p l e (rmK 8 188) s m ([.ref (am 0), .int x1] : List Value).toArray below meth c H locs 0 0 (MQ below (KQ γ A (some (.int rv)) (wM γ am sm_z sq)) ([.ref (am 0), .int x1] : List Value).toArray s 0 0 A) (F0 m 58 ls []) := by
    intro x1_24 x3_25 x4_26 sm_27 K39 HK39 H locs ls hf hP hS hl
    unfold f_X7_range_J58 at hf
    refine lv_iload hx hb dX7_range_58 (lv_at hl 3 rfl) ?_
    refine lv_if_eq (tgt := 83) hx hb dX7_range_60 (by decide) (fun c_28 => ?_) (fun c_28 => ?_)
    · replace hf := ite_p c_28 hf
      exact J83 x1_24 x3_25 x4_26 sm_27 _ HK39 _ _ _ hf hP hS (lv_sub hl [0, 1, 2, 3] rfl)
    · replace hf := ite_n c_28 hf
      refine lv_aload_n hx hb dX7_range_63 rfl (lv_at hl 0 rfl) ?_
      refine va_get (D := γ.1) (ci := 7) (v := .int (sm_27 0 32)) (C := RX7) (T := TX7) (N := 35) hx hb hU uin7 hown hK hP 0 rfl rfl 32 (by decide) (hU _ U1001) (fun _ h9 => h9) rfl dX7_range_64 ?_
      refine lv_aload_n hx hb dX7_range_67 rfl (lv_at hl 0 rfl) ?_
      refine va_get (D := γ.1) (ci := 7) (v := .ref (am 2)) (C := RX7) (T := TX7) (N := 35) hx hb hU uin7 hown hK hP 0 rfl rfl 1 (by decide) (hU _ U970) (fun _ h9 => h9) rfl dX7_range_68 ?_
      refine lv_iload_n hx hb dX7_range_71 rfl (lv_at hl 1 rfl) ?_
      obtain ⟨g_37, hf⟩ := gd_of hf
      refine va_iald hx hb hK hP 2 0 rfl rfl (inB_vp g_37) dX7_range_72 ?_
      refine lv_icmp_ne (tgt := 83) hx hb dX7_range_73 (by decide) (fun c_38 => ?_) (fun c_38 => ?_)
      · replace hf := ite_n c_38 hf
        exact J83 x1_24 x3_25 x4_26 sm_27 _ HK39 _ _ _ hf hP hS (lv_sub hl [0, 1, 2, 3] rfl)
      · replace hf := ite_p c_38 hf
        refine lv_aload_n hx hb dX7_range_76 rfl (lv_at hl 0 rfl) ?_
        refine lv_iconst (v := -1) hx hb dX7_range_77 (by decide) ?_
        refine va_put (D := γ.1) (ci := 7) (v := .int (-1 : Int32)) (ty := .int) (C := RX7) (T := TX7) (N := 35) hx hb hU uin7 tyX7 tyX7_ok nmX7 hown hK hP (hD _ _) hS 0 rfl rfl 19 (by decide) (hU _ U988) (fun _ h9 => h9) rfl (by decide +kernel) rfl rfl (Nat.le_of_ble_eq_true rfl) dX7_range_78 (fun H locs hP _ hS => ?_)
        obtain ⟨sm_39, e_sm_39, hf⟩ := nm_of hf
        replace hP : va_P γ.1 vwCl (wM γ am sm_39 sq) H := by rw [e_sm_39]; exact hP
        refine lv_iload_n hx hb dX7_range_81 rfl (lv_at hl 2 rfl) ?_
        obtain ⟨rfl, rfl⟩ := rt2 hf
        exact kt_iret C0 hP hS dX7_range_82
  have L39 : ∀ (x1_8 : Int32) (n : Nat) (x3_9 : Int32) (x4_10 : Int32) (sm_11 : GS) (H : Heap) (locs : List Loc) (ls : Array Slot), f_X7_range_L39 sq x1_8 n x3_9 x4_10 sm_11 = some (rv, sm_z) → va_P γ.1 vwCl (wM γ am sm_11 sq) H → va_S A s.heap H locs → lv_has ls 5 [(0, .ref (am 0)), (1, .int x1_8), (3, .int x3_9), (4, .int x4_10)] → W p l e (rmK 8 188) s m ([.ref (am 0), .int x1] : List Value).toArray below meth c H locs 0 0 (MQ below (KQ γ A (some (.int rv)) (wM γ am sm_z sq)) ([.ref (am 0), .int x1] : List Value).toArray s 0 0 A) (F0 m 39 ls []) := by
    intro x1_8
    intro n
    induction n with
    | zero =>
      intro x3_9 x4_10 sm_11 H locs ls hf
      have hf : none = some _ := hf
      cases hf
    | succ n ih =>
      intro x3_9 x4_10 sm_11 H locs ls hf hP hS hl
      rw [f_X7_range_L39.eq_2] at hf
      refine lv_iload hx hb dX7_range_39 (lv_at hl 3 rfl) ?_
      refine lv_if_eq (tgt := 99) hx hb dX7_range_41 (by decide) (fun c_12 => ?_) (fun c_12 => ?_)
      · replace hf := ite_p c_12 hf
        refine lv_aload_n hx hb dX7_range_99 rfl (lv_at hl 0 rfl) ?_
        refine lv_aload_n hx hb dX7_range_100 rfl (lv_at hl 0 rfl) ?_
        refine va_get (D := γ.1) (ci := 7) (v := .int (sm_11 0 32)) (C := RX7) (T := TX7) (N := 35) hx hb hU uin7 hown hK hP 0 rfl rfl 32 (by decide) (hU _ U1001) (fun _ h9 => h9) rfl dX7_range_101 ?_
        refine lv_topi (fun u_13 e_u_13 => ?_)
        replace hf := nm_y hf e_u_13
        refine va_put (D := γ.1) (ci := 7) (v := .int u_13) (ty := .int) (C := RX7) (T := TX7) (N := 35) hx hb hU uin7 tyX7 tyX7_ok nmX7 hown hK hP (hD _ _) hS 0 rfl rfl 19 (by decide) (hU _ U988) (fun _ h9 => h9) rfl (by decide +kernel) rfl rfl (Nat.le_of_ble_eq_true rfl) dX7_range_104 (fun H locs hP _ hS => ?_)
        obtain ⟨sm_14, e_sm_14, hf⟩ := nm_of hf
        replace hP : va_P γ.1 vwCl (wM γ am sm_14 sq) H := by rw [e_sm_14]; exact hP
        refine lv_aload_n hx hb dX7_range_107 rfl (lv_at hl 0 rfl) ?_
        refine lv_aload_n hx hb dX7_range_108 rfl (lv_at hl 0 rfl) ?_
        refine va_get (D := γ.1) (ci := 7) (v := .ref (am 26)) (C := RX7) (T := TX7) (N := 35) hx hb hU uin7 hown hK hP 0 rfl rfl 25 (by decide) (hU _ U994) (fun _ h9 => h9) rfl dX7_range_109 ?_
        obtain ⟨sm_15, hg_16, hf⟩ := bd_of hf
        refine kt_V0 (As := [.ref (am 26)]) (rest := []) (st1 := []) (b := am 0) C0 (c_X7_again_26 l γ am hg_16) (cxV (nA := 1) hts goodU U1280 U1282 U60 U91 U1283 (by decide +kernel) ⟨Nat.le_of_ble_eq_true rfl, Nat.le_of_ble_eq_true rfl⟩) hP (hD _ _) hS hl dX7_range_112 0 7 rfl rfl rfl rfl (Nat.le_of_ble_eq_true rfl) rfl rfl (fun H locs hP hS => ?_)
        refine lv_aload_n hx hb dX7_range_115 rfl (lv_at hl 0 rfl) ?_
        refine lv_bipush (v := -6) hx hb dX7_range_116 (by decide) ?_
        obtain ⟨r_17, sm_18, hg_19, hf⟩ := bd2_of hf
        refine kt_V0 (As := [.int (-6 : Int32)]) (rest := []) (st1 := [.int r_17]) (b := am 0) C0 (c_X7_no l γ am hg_19) (cxV (nA := 1) hts goodU U1082 U1084 U30 U91 U1085 (by decide +kernel) ⟨Nat.le_of_ble_eq_true rfl, Nat.le_of_ble_eq_true rfl⟩) hP (hD _ _) hS hl dX7_range_118 0 7 rfl rfl rfl rfl (Nat.le_of_ble_eq_true rfl) rfl rfl (fun H locs hP hS => ?_)
        obtain ⟨rfl, rfl⟩ := rt2 hf
        exact kt_iret C0 hP hS dX7_range_121
      · replace hf := ite_n c_12 hf
        refine lv_aload_n hx hb dX7_range_44 rfl (lv_at hl 0 rfl) ?_
        obtain ⟨r_20, sm_21, hg_22, hf⟩ := bd2_of hf
        refine kt_V0 (As := []) (rest := []) (st1 := [.int r_20]) (b := am 0) C0 (c_X7_item l γ am hg_22) (cxV (nA := 0) hts goodU U1232 U1234 U50 U91 U1235 (by decide +kernel) ⟨Nat.le_of_ble_eq_true rfl, Nat.le_of_ble_eq_true rfl⟩) hP (hD _ _) hS hl dX7_range_45 0 7 rfl rfl rfl rfl (Nat.le_of_ble_eq_true rfl) rfl rfl (fun H locs hP hS => ?_)
        refine lv_istore (lv' := [(4, .int r_20), (0, .ref (am 0)), (1, .int x1_8), (3, .int x3_9)]) hx hb dX7_range_48 hl (by decide) rfl (fun ls hl => ?_)
        refine lv_iload hx hb dX7_range_50 (lv_at hl 0 rfl) ?_
        refine lv_if_eq (tgt := 58) hx hb dX7_range_52 (by decide) (fun c_23 => ?_) (fun c_23 => ?_)
        · replace hf := ite_p c_23 hf
          exact J58 x1_8 x3_9 r_20 sm_21 _ ih _ _ _ hf hP hS (lv_sub hl [1, 2, 3, 0] rfl)
        · replace hf := ite_n c_23 hf
          obtain ⟨x3_40, e_x3_40⟩ : ∃ y : Int32, y = x3_9 + (1 : Int32) := ⟨_, rfl⟩
          replace hf := nm_y hf e_x3_40
          refine lv_iinc (v := x3_40) (lv' := [(3, .int x3_40), (4, .int r_20), (0, .ref (am 0)), (1, .int x1_8)]) hx hb dX7_range_55 hl (k := 3) rfl (by rw [e_x3_40]; rfl) (by decide) rfl (fun ls hl => ?_)
          exact J58 x1_8 x3_40 r_20 sm_21 _ ih _ _ _ hf hP hS (lv_sub hl [2, 3, 0, 1] rfl)
  unfold f_X7_range at hf
  refine lv_aload_n hx hb dX7_range_0 rfl (lv_at hl 0 rfl) ?_
  refine lv_iload_n hx hb dX7_range_1 rfl (lv_at hl 1 rfl) ?_
  obtain ⟨r_1, hg_2, hf⟩ := bd_of hf
  refine kt_V0 (As := [.int x1]) (rest := []) (st1 := [.int r_1]) (b := am 0) C0 (c_X7_noRow l γ am hg_2) (cxV (nA := 1) hts goodU U1090 U1092 U31 U91 U1093 (by decide +kernel) ⟨Nat.le_of_ble_eq_true rfl, Nat.le_of_ble_eq_true rfl⟩) hP (hD _ _) hS hl dX7_range_2 0 7 rfl rfl rfl rfl (Nat.le_of_ble_eq_true rfl) rfl rfl (fun H locs hP hS => ?_)
  refine lv_istore_n (lv' := [(2, .int r_1), (0, .ref (am 0)), (1, .int x1)]) hx hb dX7_range_5 rfl hl (by decide) rfl (fun ls hl => ?_)
  refine lv_iload_n hx hb dX7_range_6 rfl (lv_at hl 0 rfl) ?_
  refine lv_if_ge (tgt := 16) hx hb dX7_range_7 (by decide) (fun c_3 => ?_) (fun c_3 => ?_)
  · replace hf := ite_p c_3 hf
    refine lv_aload_n hx hb dX7_range_16 rfl (lv_at hl 1 rfl) ?_
    refine lv_aload_n hx hb dX7_range_17 rfl (lv_at hl 1 rfl) ?_
    refine va_get (D := γ.1) (ci := 7) (v := .ref (am 26)) (C := RX7) (T := TX7) (N := 35) hx hb hU uin7 hown hK hP 0 rfl rfl 25 (by decide) (hU _ U994) (fun _ h9 => h9) rfl dX7_range_18 ?_
    obtain ⟨sm_4, hg_5, hf⟩ := bd_of hf
    refine kt_V0 (As := [.ref (am 26)]) (rest := []) (st1 := []) (b := am 0) C0 (c_X7_keep_26 l γ am hg_5) (cxV (nA := 1) hts goodU U1228 U1230 U49 U91 U1231 (by decide +kernel) ⟨Nat.le_of_ble_eq_true rfl, Nat.le_of_ble_eq_true rfl⟩) hP (hD _ _) hS hl dX7_range_21 0 7 rfl rfl rfl rfl (Nat.le_of_ble_eq_true rfl) rfl rfl (fun H locs hP hS => ?_)
    refine lv_aload_n hx hb dX7_range_24 rfl (lv_at hl 1 rfl) ?_
    refine lv_iload_n hx hb dX7_range_25 rfl (lv_at hl 2 rfl) ?_
    refine va_put (D := γ.1) (ci := 7) (v := .int x1) (ty := .int) (C := RX7) (T := TX7) (N := 35) hx hb hU uin7 tyX7 tyX7_ok nmX7 hown hK hP (hD _ _) hS 0 rfl rfl 31 (by decide) (hU _ U1000) (fun _ h9 => h9) rfl (by decide +kernel) rfl rfl (Nat.le_of_ble_eq_true rfl) dX7_range_26 (fun H locs hP _ hS => ?_)
    obtain ⟨sm_6, e_sm_6, hf⟩ := nm_of hf
    replace hP : va_P γ.1 vwCl (wM γ am sm_6 sq) H := by rw [e_sm_6]; exact hP
    refine lv_aload_n hx hb dX7_range_29 rfl (lv_at hl 1 rfl) ?_
    refine lv_iconst (v := 0) hx hb dX7_range_30 (by decide) ?_
    refine va_put (D := γ.1) (ci := 7) (v := .int (0 : Int32)) (ty := .int) (C := RX7) (T := TX7) (N := 35) hx hb hU uin7 tyX7 tyX7_ok nmX7 hown hK hP (hD _ _) hS 0 rfl rfl 32 (by decide) (hU _ U1001) (fun _ h9 => h9) rfl (by decide +kernel) rfl rfl (Nat.le_of_ble_eq_true rfl) dX7_range_31 (fun H locs hP _ hS => ?_)
    obtain ⟨sm_7, e_sm_7, hf⟩ := nm_of hf
    replace hP : va_P γ.1 vwCl (wM γ am sm_7 sq) H := by rw [e_sm_7]; exact hP
    refine lv_iconst (v := 0) hx hb dX7_range_34 (by decide) ?_
    refine lv_istore_n (lv' := [(3, .int (0 : Int32)), (2, .int r_1), (0, .ref (am 0)), (1, .int x1)]) hx hb dX7_range_35 rfl hl (by decide) rfl (fun ls hl => ?_)
    refine lv_iconst (v := 1) hx hb dX7_range_36 (by decide) ?_
    refine lv_istore (lv' := [(4, .int (1 : Int32)), (3, .int (0 : Int32)), (2, .int r_1), (0, .ref (am 0)), (1, .int x1)]) hx hb dX7_range_37 hl (by decide) rfl (fun ls hl => ?_)
    exact L39 x1 FU (0 : Int32) (1 : Int32) sm_7 _ _ _ hf hP hS (lv_sub hl [3, 4, 1, 0] rfl)
  · replace hf := ite_n c_3 hf
    refine lv_aload_n hx hb dX7_range_10 rfl (lv_at hl 1 rfl) ?_
    refine lv_iload_n hx hb dX7_range_11 rfl (lv_at hl 0 rfl) ?_
    obtain ⟨r_41, sm_42, hg_43, hf⟩ := bd2_of hf
    refine kt_V0 (As := [.int r_1]) (rest := []) (st1 := [.int r_41]) (b := am 0) C0 (c_X7_no l γ am hg_43) (cxV (nA := 1) hts goodU U1082 U1084 U30 U91 U1085 (by decide +kernel) ⟨Nat.le_of_ble_eq_true rfl, Nat.le_of_ble_eq_true rfl⟩) hP (hD _ _) hS hl dX7_range_12 0 7 rfl rfl rfl rfl (Nat.le_of_ble_eq_true rfl) rfl rfl (fun H locs hP hS => ?_)
    obtain ⟨rfl, rfl⟩ := rt2 hf
    exact kt_iret C0 hP hS dX7_range_15
set_option maxHeartbeats 4000000 in
set_option maxRecDepth 100000 in
theorem c_X7_fault (l : Launch) (γ : Gm) (am : Nat → Nat) {sm : GS} {sq : Nat → Int64} {rv : Int32} (hf : f_X7_fault sm = some rv) : Kt l γ yX7_fault (Cond.code yX7_fault cX7_fault 1 (some .int) :: U) 0 0 [.ref (am 0)] (wM γ am sm sq) (some (.int rv)) (wM γ am sm sq) := by
  refine Kt.of (by decide) rfl (Nat.le_of_ble_eq_true rfl) rfl ?_
  intro p e s m below meth c A ls C0 hP hD0 hS hl
  obtain ⟨hx, hb, hml, hown, hts, hr, hlocks, hK, hE, hA⟩ := id C0
  have hU : ∀ w ∈ U, w.before _ s = true := fun w h => hts w (List.mem_cons_of_mem _ h)
  have hD : ∀ (sm : GS) (sq : Nat → Int64), va_D A (wM γ am sm sq) := fun _ _ => hD0.fst rfl
  have hl : lv_has ls 1 [(0, .ref (am 0))] := hl
  unfold f_X7_fault at hf
  refine lv_aload_n hx hb dX7_fault_0 rfl (lv_at hl 0 rfl) ?_
  refine va_get (D := γ.1) (ci := 7) (v := .int (sm 0 19)) (C := RX7) (T := TX7) (N := 35) hx hb hU uin7 hown hK hP 0 rfl rfl 19 (by decide) (hU _ U988) (fun _ h9 => h9) rfl dX7_fault_1 ?_
  obtain rfl := Option.some.inj hf
  exact kt_iret C0 hP hS dX7_fault_4
set_option maxHeartbeats 4000000 in
set_option maxRecDepth 100000 in
theorem c_X7_since (l : Launch) (γ : Gm) (am : Nat → Nat) {sm : GS} {sq : Nat → Int64} {x1 : Int32} {x2 : Int32} {rv : Int32} {sm_z : GS} (hf : f_X7_since sm x1 x2 = some (rv, sm_z)) : Kt l γ yX7_since (Cond.code yX7_since cX7_since 3 (some .int) :: U) 2 43 [.ref (am 0), .int x1, .int x2] (wM γ am sm sq) (some (.int rv)) (wM γ am sm_z sq) := by
  refine Kt.of (by decide) rfl (Nat.le_of_ble_eq_true rfl) rfl ?_
  intro p e s m below meth c A ls C0 hP hD0 hS hl
  obtain ⟨hx, hb, hml, hown, hts, hr, hlocks, hK, hE, hA⟩ := id C0
  have hU : ∀ w ∈ U, w.before _ s = true := fun w h => hts w (List.mem_cons_of_mem _ h)
  have hD : ∀ (sm : GS) (sq : Nat → Int64), va_D A (wM γ am sm sq) := fun _ _ => hD0.fst rfl
  have hl : lv_has ls 3 [(0, .ref (am 0)), (1, .int x1), (2, .int x2)] := hl
  have J30 : ∀ (sm_4 : GS) (H : Heap) (locs : List Loc) (ls : Array Slot), f_X7_since_J30 sm_4 = some (rv, sm_z) → va_P γ.1 vwCl (wM γ am sm_4 sq) H → va_S A s.heap H locs → lv_has ls 3 [(0, .ref (am 0))] → W p l e (rmK 2 43) s m ([.ref (am 0), .int x1, .int x2] : List Value).toArray below meth c H locs 0 0 (MQ below (KQ γ A (some (.int rv)) (wM γ am sm_z sq)) ([.ref (am 0), .int x1, .int x2] : List Value).toArray s 0 0 A) (F0 m 30 ls []) := by
    intro sm_4 H locs ls hf hP hS hl
    unfold f_X7_since_J30 at hf
    refine lv_aload_n hx hb dX7_since_30 rfl (lv_at hl 0 rfl) ?_
    refine lv_iconst (v := -1) hx hb dX7_since_31 (by decide) ?_
    obtain ⟨r_5, sm_6, hg_7, hf⟩ := bd2_of hf
    refine kt_V0 (As := [.int (-1 : Int32)]) (rest := []) (st1 := [.int r_5]) (b := am 0) C0 (c_X7_no10 l γ am hg_7) (cxV (nA := 1) hts goodU U1292 U1294 U61 U91 U1295 (by decide +kernel) ⟨Nat.le_of_ble_eq_true rfl, Nat.le_of_ble_eq_true rfl⟩) hP (hD _ _) hS hl dX7_since_32 0 7 rfl rfl rfl rfl (Nat.le_of_ble_eq_true rfl) rfl rfl (fun H locs hP hS => ?_)
    obtain ⟨rfl, rfl⟩ := rt2 hf
    exact kt_iret C0 hP hS dX7_since_35
  unfold f_X7_since at hf
  refine lv_aload_n hx hb dX7_since_0 rfl (lv_at hl 0 rfl) ?_
  refine lv_iload_n hx hb dX7_since_1 rfl (lv_at hl 1 rfl) ?_
  obtain ⟨r_1, hg_2, hf⟩ := bd_of hf
  refine kt_V0 (As := [.int x1]) (rest := []) (st1 := [.int r_1]) (b := am 0) C0 (c_X7_isPeak l γ am hg_2) (cxV (nA := 1) hts goodU U1110 U1112 U33 U91 U1113 (by decide +kernel) ⟨Nat.le_of_ble_eq_true rfl, Nat.le_of_ble_eq_true rfl⟩) hP (hD _ _) hS hl dX7_since_2 0 7 rfl rfl rfl rfl (Nat.le_of_ble_eq_true rfl) rfl rfl (fun H locs hP hS => ?_)
  refine lv_if_eq (tgt := 30) hx hb dX7_since_5 (by decide) (fun c_3 => ?_) (fun c_3 => ?_)
  · replace hf := ite_p c_3 hf
    exact J30 sm _ _ _ hf hP hS (lv_sub hl [0] rfl)
  · replace hf := ite_n c_3 hf
    refine lv_aload_n hx hb dX7_since_8 rfl (lv_at hl 0 rfl) ?_
    refine lv_iload_n hx hb dX7_since_9 rfl (lv_at hl 2 rfl) ?_
    obtain ⟨r_8, hg_9, hf⟩ := bd_of hf
    refine kt_V0 (As := [.int x2]) (rest := []) (st1 := [.int r_8]) (b := am 0) C0 (c_X7_isPeak l γ am hg_9) (cxV (nA := 1) hts goodU U1110 U1112 U33 U91 U1113 (by decide +kernel) ⟨Nat.le_of_ble_eq_true rfl, Nat.le_of_ble_eq_true rfl⟩) hP (hD _ _) hS hl dX7_since_10 0 7 rfl rfl rfl rfl (Nat.le_of_ble_eq_true rfl) rfl rfl (fun H locs hP hS => ?_)
    refine lv_if_eq (tgt := 30) hx hb dX7_since_13 (by decide) (fun c_10 => ?_) (fun c_10 => ?_)
    · replace hf := ite_p c_10 hf
      exact J30 sm _ _ _ hf hP hS (lv_sub hl [0] rfl)
    · replace hf := ite_n c_10 hf
      refine lv_aload_n hx hb dX7_since_16 rfl (lv_at hl 0 rfl) ?_
      refine va_get (D := γ.1) (ci := 7) (v := .ref (am 11)) (C := RX7) (T := TX7) (N := 35) hx hb hU uin7 hown hK hP 0 rfl rfl 10 (by decide) (hU _ U979) (fun _ h9 => h9) rfl dX7_since_17 ?_
      refine lv_bipush (v := 10) hx hb dX7_since_20 (by decide) ?_
      refine lv_iload_n hx hb dX7_since_22 rfl (lv_at hl 1 rfl) ?_
      refine lv_imul hx hb dX7_since_23 ?_
      refine lv_iload_n hx hb dX7_since_24 rfl (lv_at hl 2 rfl) ?_
      refine lv_iadd hx hb dX7_since_25 ?_
      obtain ⟨g_11, hf⟩ := gd_of hf
      refine va_iald hx hb hK hP 10 0 rfl rfl (inB_vp g_11) dX7_since_26 ?_
      refine lv_goto (tgt := 35) hx hb dX7_since_27 (by decide) ?_
      obtain ⟨rfl, rfl⟩ := rt2 hf
      exact kt_iret C0 hP hS dX7_since_35
set_option maxHeartbeats 4000000 in
set_option maxRecDepth 100000 in
theorem c_X7_allMilk (l : Launch) (γ : Gm) (am : Nat → Nat) {sm : GS} {sq : Nat → Int64} {rv : Int32} (hf : f_X7_allMilk sm = some rv) : Kt l γ yX7_allMilk (Cond.code yX7_allMilk cX7_allMilk 4 (some .int) :: U) 3 69 [.ref (am 0)] (wM γ am sm sq) (some (.int rv)) (wM γ am sm sq) := by
  refine Kt.of (by decide) rfl (Nat.le_of_ble_eq_true rfl) rfl ?_
  intro p e s m below meth c A ls C0 hP hD0 hS hl
  obtain ⟨hx, hb, hml, hown, hts, hr, hlocks, hK, hE, hA⟩ := id C0
  have hU : ∀ w ∈ U, w.before _ s = true := fun w h => hts w (List.mem_cons_of_mem _ h)
  have hD : ∀ (sm : GS) (sq : Nat → Int64), va_D A (wM γ am sm sq) := fun _ _ => hD0.fst rfl
  have hl : lv_has ls 4 [(0, .ref (am 0))] := hl
  have L9 : ∀ (x1_3 : Int32) (n : Nat) (x2_4 : Int32) (x3_5 : Int32) (H : Heap) (locs : List Loc) (ls : Array Slot), f_X7_allMilk_L9 sm x1_3 n x2_4 x3_5 = some rv → va_P γ.1 vwCl (wM γ am sm sq) H → va_S A s.heap H locs → lv_has ls 4 [(0, .ref (am 0)), (1, .int x1_3), (2, .int x2_4), (3, .int x3_5)] → W p l e (rmK 3 69) s m ([.ref (am 0)] : List Value).toArray below meth c H locs 0 0 (MQ below (KQ γ A (some (.int rv)) (wM γ am sm sq)) ([.ref (am 0)] : List Value).toArray s 0 0 A) (F0 m 9 ls []) := by
    intro x1_3
    intro n
    induction n with
    | zero =>
      intro x2_4 x3_5 H locs ls hf
      have hf : none = some _ := hf
      cases hf
    | succ n ih =>
      intro x2_4 x3_5 H locs ls hf hP hS hl
      rw [f_X7_allMilk_L9.eq_2] at hf
      refine lv_iload_n hx hb dX7_allMilk_9 rfl (lv_at hl 3 rfl) ?_
      refine lv_aload_n hx hb dX7_allMilk_10 rfl (lv_at hl 0 rfl) ?_
      refine va_get (D := γ.1) (ci := 7) (v := .int (sm 0 14)) (C := RX7) (T := TX7) (N := 35) hx hb hU uin7 hown hK hP 0 rfl rfl 14 (by decide) (hU _ U983) (fun _ h9 => h9) rfl dX7_allMilk_11 ?_
      refine lv_icmp_ge (tgt := 32) hx hb dX7_allMilk_14 (by decide) (fun c_6 => ?_) (fun c_6 => ?_)
      · replace hf := ite_p c_6 hf
        refine lv_iload_n hx hb dX7_allMilk_32 rfl (lv_at hl 2 rfl) ?_
        obtain rfl := Option.some.inj hf
        exact kt_iret C0 hP hS dX7_allMilk_33
      · replace hf := ite_n c_6 hf
        refine lv_iload_n hx hb dX7_allMilk_17 rfl (lv_at hl 2 rfl) ?_
        refine lv_aload_n hx hb dX7_allMilk_18 rfl (lv_at hl 0 rfl) ?_
        refine lv_iload_n hx hb dX7_allMilk_19 rfl (lv_at hl 3 rfl) ?_
        refine lv_iload_n hx hb dX7_allMilk_20 rfl (lv_at hl 1 rfl) ?_
        obtain ⟨r_7, hg_8, hf⟩ := bd_of hf
        refine kt_V0 (As := [.int x3_5, .int x1_3]) (rest := [.int x2_4]) (st1 := [.int r_7, .int x2_4]) (b := am 0) C0 (c_X7_gives l γ am hg_8) (cxV (nA := 2) hts goodU U1220 U1222 U48 U91 U1223 (by decide +kernel) ⟨Nat.le_of_ble_eq_true rfl, Nat.le_of_ble_eq_true rfl⟩) hP (hD _ _) hS hl dX7_allMilk_21 0 7 rfl rfl rfl rfl (Nat.le_of_ble_eq_true rfl) rfl rfl (fun H locs hP hS => ?_)
        refine lv_iadd hx hb dX7_allMilk_24 ?_
        refine lv_topi (fun u_9 e_u_9 => ?_)
        replace hf := nm_y hf e_u_9
        refine lv_istore_n (lv' := [(2, .int u_9), (0, .ref (am 0)), (1, .int x1_3), (3, .int x3_5)]) hx hb dX7_allMilk_25 rfl hl (by decide) rfl (fun ls hl => ?_)
        obtain ⟨x3_10, e_x3_10⟩ : ∃ y : Int32, y = x3_5 + (1 : Int32) := ⟨_, rfl⟩
        replace hf := nm_y hf e_x3_10
        refine lv_iinc (v := x3_10) (lv' := [(3, .int x3_10), (2, .int u_9), (0, .ref (am 0)), (1, .int x1_3)]) hx hb dX7_allMilk_26 hl (k := 3) rfl (by rw [e_x3_10]; rfl) (by decide) rfl (fun ls hl => ?_)
        refine lv_goto (tgt := 9) hx hb dX7_allMilk_29 (by decide) ?_
        exact ih u_9 x3_10 _ _ _ hf hP hS (lv_sub hl [2, 3, 1, 0] rfl)
  unfold f_X7_allMilk at hf
  refine lv_aload_n hx hb dX7_allMilk_0 rfl (lv_at hl 0 rfl) ?_
  obtain ⟨r_1, hg_2, hf⟩ := bd_of hf
  refine kt_V0 (As := []) (rest := []) (st1 := [.int r_1]) (b := am 0) C0 (c_X7_blacks l γ am hg_2) (cxV (nA := 0) hts goodU U1128 U1130 U34 U91 U1131 (by decide +kernel) ⟨Nat.le_of_ble_eq_true rfl, Nat.le_of_ble_eq_true rfl⟩) hP (hD _ _) hS hl dX7_allMilk_1 0 7 rfl rfl rfl rfl (Nat.le_of_ble_eq_true rfl) rfl rfl (fun H locs hP hS => ?_)
  refine lv_istore_n (lv' := [(1, .int r_1), (0, .ref (am 0))]) hx hb dX7_allMilk_4 rfl hl (by decide) rfl (fun ls hl => ?_)
  refine lv_iconst (v := 0) hx hb dX7_allMilk_5 (by decide) ?_
  refine lv_istore_n (lv' := [(2, .int (0 : Int32)), (1, .int r_1), (0, .ref (am 0))]) hx hb dX7_allMilk_6 rfl hl (by decide) rfl (fun ls hl => ?_)
  refine lv_iconst (v := 0) hx hb dX7_allMilk_7 (by decide) ?_
  refine lv_istore_n (lv' := [(3, .int (0 : Int32)), (2, .int (0 : Int32)), (1, .int r_1), (0, .ref (am 0))]) hx hb dX7_allMilk_8 rfl hl (by decide) rfl (fun ls hl => ?_)
  exact L9 r_1 FU (0 : Int32) (0 : Int32) _ _ _ hf hP hS (lv_sub hl [3, 2, 1, 0] rfl)
set_option maxHeartbeats 4000000 in
set_option maxRecDepth 100000 in
theorem c_X7_isYears (l : Launch) (γ : Gm) {x1 : Int32} {rv : Int32} (hf : f_X7_isYears x1 = some rv) : Kt l γ yX7_isYears (Cond.code yX7_isYears cX7_isYears 1 (some .boolean) :: U) 1 22 [.int x1] ([]) (some (.int rv)) ([]) := by
  refine Kt.of (by decide) rfl (Nat.le_of_ble_eq_true rfl) rfl ?_
  intro p e s m below meth c A ls C0 hP hD0 hS hl
  obtain ⟨hx, hb, hml, hown, hts, hr, hlocks, hK, hE, hA⟩ := id C0
  have hU : ∀ w ∈ U, w.before _ s = true := fun w h => hts w (List.mem_cons_of_mem _ h)
  have hD := hD0
  have hl : lv_has ls 1 [(0, .int x1)] := hl
  unfold f_X7_isYears at hf
  refine lv_iload_n hx hb dX7_isYears_0 rfl (lv_at hl 0 rfl) ?_
  refine lv_iconst (v := 0) hx hb dX7_isYears_1 (by decide) ?_
  refine lv_sipush (v := 999) hx hb dX7_isYears_2 (by decide) ?_
  obtain ⟨r_1, hg_2, hf⟩ := bd_of hf
  refine kt_SF (As := [.int x1, .int (0 : Int32), .int (999 : Int32)]) (rest := []) (st1 := [.int r_1]) (wc' := []) C0 (c_X7_within l γ hg_2) (cxS (nA := 3) hts goodU U1079 U1080 U91 U1081 (by decide +kernel) ⟨Nat.le_of_ble_eq_true rfl, Nat.le_of_ble_eq_true rfl⟩) hP (hD) hS hl dX7_isYears_5 foc_nil rfl (Nat.le_of_ble_eq_true rfl) rfl rfl (fun H locs hP hS => ?_)
  obtain ⟨g_3, hf⟩ := gd_of hf
  obtain rfl := Option.some.inj hf
  exact kt_zret C0 (isZ_nar g_3) hP hS dX7_isYears_8
set_option maxHeartbeats 4000000 in
set_option maxRecDepth 100000 in
theorem c_X7_blacksBehind (l : Launch) (γ : Gm) (am : Nat → Nat) {sm : GS} {sq : Nat → Int64} {x1 : Int32} {rv : Int32} {sm_z : GS} (hf : f_X7_blacksBehind sm x1 = some (rv, sm_z)) : Kt l γ yX7_blacksBehind (Cond.code yX7_blacksBehind cX7_blacksBehind 3 (some .int) :: U) 3 69 [.ref (am 0), .int x1] (wM γ am sm sq) (some (.int rv)) (wM γ am sm_z sq) := by
  refine Kt.of (by decide) rfl (Nat.le_of_ble_eq_true rfl) rfl ?_
  intro p e s m below meth c A ls C0 hP hD0 hS hl
  obtain ⟨hx, hb, hml, hown, hts, hr, hlocks, hK, hE, hA⟩ := id C0
  have hU : ∀ w ∈ U, w.before _ s = true := fun w h => hts w (List.mem_cons_of_mem _ h)
  have hD : ∀ (sm : GS) (sq : Nat → Int64), va_D A (wM γ am sm sq) := fun _ _ => hD0.fst rfl
  have hl : lv_has ls 3 [(0, .ref (am 0)), (1, .int x1)] := hl
  unfold f_X7_blacksBehind at hf
  refine lv_aload_n hx hb dX7_blacksBehind_0 rfl (lv_at hl 0 rfl) ?_
  refine lv_dup hx hb dX7_blacksBehind_1 rfl ?_
  refine va_get (D := γ.1) (ci := 7) (v := .int (sm 0 17)) (C := RX7) (T := TX7) (N := 35) hx hb hU uin7 hown hK hP 0 rfl rfl 17 (by decide) (hU _ U986) (fun _ h9 => h9) rfl dX7_blacksBehind_2 ?_
  refine lv_iload_n hx hb dX7_blacksBehind_5 rfl (lv_at hl 1 rfl) ?_
  refine lv_iadd hx hb dX7_blacksBehind_6 ?_
  refine lv_topi (fun u_1 e_u_1 => ?_)
  replace hf := nm_y hf e_u_1
  refine va_put (D := γ.1) (ci := 7) (v := .int u_1) (ty := .int) (C := RX7) (T := TX7) (N := 35) hx hb hU uin7 tyX7 tyX7_ok nmX7 hown hK hP (hD _ _) hS 0 rfl rfl 17 (by decide) (hU _ U986) (fun _ h9 => h9) rfl (by decide +kernel) rfl rfl (Nat.le_of_ble_eq_true rfl) dX7_blacksBehind_7 (fun H locs hP _ hS => ?_)
  obtain ⟨sm_2, e_sm_2, hf⟩ := nm_of hf
  replace hP : va_P γ.1 vwCl (wM γ am sm_2 sq) H := by rw [e_sm_2]; exact hP
  refine lv_aload_n hx hb dX7_blacksBehind_10 rfl (lv_at hl 0 rfl) ?_
  obtain ⟨r_3, hg_4, hf⟩ := bd_of hf
  refine kt_V0 (As := []) (rest := []) (st1 := [.int r_3]) (b := am 0) C0 (c_X7_blacks l γ am hg_4) (cxV (nA := 0) hts goodU U1128 U1130 U34 U91 U1131 (by decide +kernel) ⟨Nat.le_of_ble_eq_true rfl, Nat.le_of_ble_eq_true rfl⟩) hP (hD _ _) hS hl dX7_blacksBehind_11 0 7 rfl rfl rfl rfl (Nat.le_of_ble_eq_true rfl) rfl rfl (fun H locs hP hS => ?_)
  refine lv_istore_n (lv' := [(2, .int r_3), (0, .ref (am 0)), (1, .int x1)]) hx hb dX7_blacksBehind_14 rfl hl (by decide) rfl (fun ls hl => ?_)
  refine lv_aload_n hx hb dX7_blacksBehind_15 rfl (lv_at hl 1 rfl) ?_
  refine lv_dup hx hb dX7_blacksBehind_16 rfl ?_
  refine va_get (D := γ.1) (ci := 7) (v := .int (sm_2 0 17)) (C := RX7) (T := TX7) (N := 35) hx hb hU uin7 hown hK hP 0 rfl rfl 17 (by decide) (hU _ U986) (fun _ h9 => h9) rfl dX7_blacksBehind_17 ?_
  refine lv_iload_n hx hb dX7_blacksBehind_20 rfl (lv_at hl 2 rfl) ?_
  refine lv_isub hx hb dX7_blacksBehind_21 ?_
  refine lv_topi (fun u_5 e_u_5 => ?_)
  replace hf := nm_y hf e_u_5
  refine va_put (D := γ.1) (ci := 7) (v := .int u_5) (ty := .int) (C := RX7) (T := TX7) (N := 35) hx hb hU uin7 tyX7 tyX7_ok nmX7 hown hK hP (hD _ _) hS 0 rfl rfl 17 (by decide) (hU _ U986) (fun _ h9 => h9) rfl (by decide +kernel) rfl rfl (Nat.le_of_ble_eq_true rfl) dX7_blacksBehind_22 (fun H locs hP _ hS => ?_)
  obtain ⟨sm_6, e_sm_6, hf⟩ := nm_of hf
  replace hP : va_P γ.1 vwCl (wM γ am sm_6 sq) H := by rw [e_sm_6]; exact hP
  refine lv_iload_n hx hb dX7_blacksBehind_25 rfl (lv_at hl 0 rfl) ?_
  obtain ⟨rfl, rfl⟩ := rt2 hf
  exact kt_iret C0 hP hS dX7_blacksBehind_26
set_option maxHeartbeats 4000000 in
set_option maxRecDepth 100000 in
theorem c_X7_black (l : Launch) (γ : Gm) (am : Nat → Nat) {sm : GS} {sq : Nat → Int64} {x1 : Int32} {x2 : Int32} {rv : Int32} {sm_z : GS} (hf : f_X7_black sm x1 x2 = some (rv, sm_z)) : Kt l γ yX7_black (Cond.code yX7_black cX7_black 3 (some .int) :: U) 4 91 [.ref (am 0), .int x1, .int x2] (wM γ am sm sq) (some (.int rv)) (wM γ am sm_z sq) := by
  refine Kt.of (by decide) rfl (Nat.le_of_ble_eq_true rfl) rfl ?_
  intro p e s m below meth c A ls C0 hP hD0 hS hl
  obtain ⟨hx, hb, hml, hown, hts, hr, hlocks, hK, hE, hA⟩ := id C0
  have hU : ∀ w ∈ U, w.before _ s = true := fun w h => hts w (List.mem_cons_of_mem _ h)
  have hD : ∀ (sm : GS) (sq : Nat → Int64), va_D A (wM γ am sm sq) := fun _ _ => hD0.fst rfl
  have hl : lv_has ls 3 [(0, .ref (am 0)), (1, .int x1), (2, .int x2)] := hl
  unfold f_X7_black at hf
  refine lv_aload_n hx hb dX7_black_0 rfl (lv_at hl 0 rfl) ?_
  refine lv_iload_n hx hb dX7_black_1 rfl (lv_at hl 1 rfl) ?_
  obtain ⟨r_1, hg_2, hf⟩ := bd_of hf
  refine kt_V0 (As := [.int x1]) (rest := []) (st1 := [.int r_1]) (b := am 0) C0 (c_X7_isPeak l γ am hg_2) (cxV (nA := 1) hts goodU U1110 U1112 U33 U91 U1113 (by decide +kernel) ⟨Nat.le_of_ble_eq_true rfl, Nat.le_of_ble_eq_true rfl⟩) hP (hD _ _) hS hl dX7_black_2 0 7 rfl rfl rfl rfl (Nat.le_of_ble_eq_true rfl) rfl rfl (fun H locs hP hS => ?_)
  refine lv_if_ne (tgt := 14) hx hb dX7_black_5 (by decide) (fun c_3 => ?_) (fun c_3 => ?_)
  · replace hf := ite_n c_3 hf
    refine lv_iload_n hx hb dX7_black_14 rfl (lv_at hl 2 rfl) ?_
    obtain ⟨r_4, hg_5, hf⟩ := bd_of hf
    refine kt_SF (As := [.int x2]) (rest := []) (st1 := [.int r_4]) (wc' := wM γ am sm sq) C0 (c_X7_isYears l γ hg_5) (cxS (nA := 1) hts goodU U1300 U1301 U91 U1302 (by decide +kernel) ⟨Nat.le_of_ble_eq_true rfl, Nat.le_of_ble_eq_true rfl⟩) hP (hD _ _) hS hl dX7_black_15 foc_nil rfl (Nat.le_of_ble_eq_true rfl) rfl rfl (fun H locs hP hS => ?_)
    refine lv_if_ne (tgt := 28) hx hb dX7_black_18 (by decide) (fun c_6 => ?_) (fun c_6 => ?_)
    · replace hf := ite_n c_6 hf
      refine lv_aload_n hx hb dX7_black_28 rfl (lv_at hl 0 rfl) ?_
      refine lv_iload_n hx hb dX7_black_29 rfl (lv_at hl 2 rfl) ?_
      obtain ⟨r_7, sm_8, hg_9, hf⟩ := bd2_of hf
      refine kt_V0 (As := [.int x2]) (rest := []) (st1 := [.int r_7]) (b := am 0) C0 (c_X7_blacksBehind l γ am hg_9) (cxV (nA := 1) hts goodU U1303 U1305 U62 U91 U1306 (by decide +kernel) ⟨Nat.le_of_ble_eq_true rfl, Nat.le_of_ble_eq_true rfl⟩) hP (hD _ _) hS hl dX7_black_30 0 7 rfl rfl rfl rfl (Nat.le_of_ble_eq_true rfl) rfl rfl (fun H locs hP hS => ?_)
      refine lv_iload_n hx hb dX7_black_33 rfl (lv_at hl 1 rfl) ?_
      obtain ⟨r_10, hg_11, hf⟩ := bd_of hf
      refine kt_SF (As := [.int r_7, .int x1]) (rest := []) (st1 := [.int r_10]) (wc' := wM γ am sm_8 sq) C0 (c_X7_has l γ hg_11) (cxS (nA := 2) hts goodU U1140 U1141 U91 U1142 (by decide +kernel) ⟨Nat.le_of_ble_eq_true rfl, Nat.le_of_ble_eq_true rfl⟩) hP (hD _ _) hS hl dX7_black_34 foc_nil rfl (Nat.le_of_ble_eq_true rfl) rfl rfl (fun H locs hP hS => ?_)
      refine lv_if_eq (tgt := 44) hx hb dX7_black_37 (by decide) (fun c_12 => ?_) (fun c_12 => ?_)
      · replace hf := ite_p c_12 hf
        refine lv_iconst (v := 0) hx hb dX7_black_44 (by decide) ?_
        obtain ⟨rfl, rfl⟩ := rt2 hf
        exact kt_iret C0 hP hS dX7_black_45
      · replace hf := ite_n c_12 hf
        refine lv_iconst (v := 1) hx hb dX7_black_40 (by decide) ?_
        refine lv_goto (tgt := 45) hx hb dX7_black_41 (by decide) ?_
        obtain ⟨rfl, rfl⟩ := rt2 hf
        exact kt_iret C0 hP hS dX7_black_45
    · replace hf := ite_p c_6 hf
      refine lv_aload_n hx hb dX7_black_21 rfl (lv_at hl 0 rfl) ?_
      refine lv_bipush (v := -6) hx hb dX7_black_22 (by decide) ?_
      obtain ⟨r_13, sm_14, hg_15, hf⟩ := bd2_of hf
      refine kt_V0 (As := [.int (-6 : Int32)]) (rest := []) (st1 := [.int r_13]) (b := am 0) C0 (c_X7_no l γ am hg_15) (cxV (nA := 1) hts goodU U1082 U1084 U30 U91 U1085 (by decide +kernel) ⟨Nat.le_of_ble_eq_true rfl, Nat.le_of_ble_eq_true rfl⟩) hP (hD _ _) hS hl dX7_black_24 0 7 rfl rfl rfl rfl (Nat.le_of_ble_eq_true rfl) rfl rfl (fun H locs hP hS => ?_)
      obtain ⟨rfl, rfl⟩ := rt2 hf
      exact kt_iret C0 hP hS dX7_black_27
  · replace hf := ite_p c_3 hf
    refine lv_aload_n hx hb dX7_black_8 rfl (lv_at hl 0 rfl) ?_
    refine lv_iconst (v := -1) hx hb dX7_black_9 (by decide) ?_
    obtain ⟨r_16, sm_17, hg_18, hf⟩ := bd2_of hf
    refine kt_V0 (As := [.int (-1 : Int32)]) (rest := []) (st1 := [.int r_16]) (b := am 0) C0 (c_X7_no l γ am hg_18) (cxV (nA := 1) hts goodU U1082 U1084 U30 U91 U1085 (by decide +kernel) ⟨Nat.le_of_ble_eq_true rfl, Nat.le_of_ble_eq_true rfl⟩) hP (hD _ _) hS hl dX7_black_10 0 7 rfl rfl rfl rfl (Nat.le_of_ble_eq_true rfl) rfl rfl (fun H locs hP hS => ?_)
    obtain ⟨rfl, rfl⟩ := rt2 hf
    exact kt_iret C0 hP hS dX7_black_13
set_option maxHeartbeats 4000000 in
set_option maxRecDepth 100000 in
theorem c_X7_behind (l : Launch) (γ : Gm) (am : Nat → Nat) {sm : GS} {sq : Nat → Int64} {x1 : Int32} {x2 : Int32} {rv : Int32} {sm_z : GS} (hf : f_X7_behind sm x1 x2 = some (rv, sm_z)) : Kt l γ yX7_behind (Cond.code yX7_behind cX7_behind 4 (some .int) :: U) 4 92 [.ref (am 0), .int x1, .int x2] (wM γ am sm sq) (some (.int rv)) (wM γ am sm_z sq) := by
  refine Kt.of (by decide) rfl (Nat.le_of_ble_eq_true rfl) rfl ?_
  intro p e s m below meth c A ls C0 hP hD0 hS hl
  obtain ⟨hx, hb, hml, hown, hts, hr, hlocks, hK, hE, hA⟩ := id C0
  have hU : ∀ w ∈ U, w.before _ s = true := fun w h => hts w (List.mem_cons_of_mem _ h)
  have hD : ∀ (sm : GS) (sq : Nat → Int64), va_D A (wM γ am sm sq) := fun _ _ => hD0.fst rfl
  have hl : lv_has ls 4 [(0, .ref (am 0)), (1, .int x1), (2, .int x2)] := hl
  unfold f_X7_behind at hf
  refine lv_iload_n hx hb dX7_behind_0 rfl (lv_at hl 2 rfl) ?_
  refine lv_iconst (v := 0) hx hb dX7_behind_1 (by decide) ?_
  refine lv_iconst (v := 1) hx hb dX7_behind_2 (by decide) ?_
  obtain ⟨r_1, hg_2, hf⟩ := bd_of hf
  refine kt_SF (As := [.int x2, .int (0 : Int32), .int (1 : Int32)]) (rest := []) (st1 := [.int r_1]) (wc' := wM γ am sm sq) C0 (c_X7_within l γ hg_2) (cxS (nA := 3) hts goodU U1079 U1080 U91 U1081 (by decide +kernel) ⟨Nat.le_of_ble_eq_true rfl, Nat.le_of_ble_eq_true rfl⟩) hP (hD _ _) hS hl dX7_behind_3 foc_nil rfl (Nat.le_of_ble_eq_true rfl) rfl rfl (fun H locs hP hS => ?_)
  refine lv_if_ne (tgt := 16) hx hb dX7_behind_6 (by decide) (fun c_3 => ?_) (fun c_3 => ?_)
  · replace hf := ite_n c_3 hf
    refine lv_iload_n hx hb dX7_behind_16 rfl (lv_at hl 1 rfl) ?_
    obtain ⟨r_4, hg_5, hf⟩ := bd_of hf
    refine kt_SF (As := [.int x1]) (rest := []) (st1 := [.int r_4]) (wc' := wM γ am sm sq) C0 (c_X7_isYears l γ hg_5) (cxS (nA := 1) hts goodU U1300 U1301 U91 U1302 (by decide +kernel) ⟨Nat.le_of_ble_eq_true rfl, Nat.le_of_ble_eq_true rfl⟩) hP (hD _ _) hS hl dX7_behind_17 foc_nil rfl (Nat.le_of_ble_eq_true rfl) rfl rfl (fun H locs hP hS => ?_)
    refine lv_if_ne (tgt := 30) hx hb dX7_behind_20 (by decide) (fun c_6 => ?_) (fun c_6 => ?_)
    · replace hf := ite_n c_6 hf
      refine lv_iload_n hx hb dX7_behind_30 rfl (lv_at hl 2 rfl) ?_
      refine lv_if_ne (tgt := 40) hx hb dX7_behind_31 (by decide) (fun c_7 => ?_) (fun c_7 => ?_)
      · replace hf := ite_n c_7 hf
        refine lv_aload_n hx hb dX7_behind_40 rfl (lv_at hl 0 rfl) ?_
        refine lv_dup hx hb dX7_behind_41 rfl ?_
        refine va_get (D := γ.1) (ci := 7) (v := .int (sm 0 17)) (C := RX7) (T := TX7) (N := 35) hx hb hU uin7 hown hK hP 0 rfl rfl 17 (by decide) (hU _ U986) (fun _ h9 => h9) rfl dX7_behind_42 ?_
        refine lv_iload_n hx hb dX7_behind_45 rfl (lv_at hl 1 rfl) ?_
        refine lv_iadd hx hb dX7_behind_46 ?_
        refine lv_topi (fun u_8 e_u_8 => ?_)
        replace hf := nm_y hf e_u_8
        refine va_put (D := γ.1) (ci := 7) (v := .int u_8) (ty := .int) (C := RX7) (T := TX7) (N := 35) hx hb hU uin7 tyX7 tyX7_ok nmX7 hown hK hP (hD _ _) hS 0 rfl rfl 17 (by decide) (hU _ U986) (fun _ h9 => h9) rfl (by decide +kernel) rfl rfl (Nat.le_of_ble_eq_true rfl) dX7_behind_47 (fun H locs hP _ hS => ?_)
        obtain ⟨sm_9, e_sm_9, hf⟩ := nm_of hf
        replace hP : va_P γ.1 vwCl (wM γ am sm_9 sq) H := by rw [e_sm_9]; exact hP
        refine lv_aload_n hx hb dX7_behind_50 rfl (lv_at hl 0 rfl) ?_
        obtain ⟨r_10, hg_11, hf⟩ := bd_of hf
        refine kt_V0 (As := []) (rest := []) (st1 := [.int r_10]) (b := am 0) C0 (c_X7_allMilk l γ am hg_11) (cxV (nA := 0) hts goodU U1311 U1313 U63 U91 U1314 (by decide +kernel) ⟨Nat.le_of_ble_eq_true rfl, Nat.le_of_ble_eq_true rfl⟩) hP (hD _ _) hS hl dX7_behind_51 0 7 rfl rfl rfl rfl (Nat.le_of_ble_eq_true rfl) rfl rfl (fun H locs hP hS => ?_)
        refine lv_istore_n (lv' := [(3, .int r_10), (0, .ref (am 0)), (1, .int x1), (2, .int x2)]) hx hb dX7_behind_54 rfl hl (by decide) rfl (fun ls hl => ?_)
        refine lv_aload_n hx hb dX7_behind_55 rfl (lv_at hl 1 rfl) ?_
        refine lv_dup hx hb dX7_behind_56 rfl ?_
        refine va_get (D := γ.1) (ci := 7) (v := .int (sm_9 0 17)) (C := RX7) (T := TX7) (N := 35) hx hb hU uin7 hown hK hP 0 rfl rfl 17 (by decide) (hU _ U986) (fun _ h9 => h9) rfl dX7_behind_57 ?_
        refine lv_iload_n hx hb dX7_behind_60 rfl (lv_at hl 2 rfl) ?_
        refine lv_isub hx hb dX7_behind_61 ?_
        refine lv_topi (fun u_12 e_u_12 => ?_)
        replace hf := nm_y hf e_u_12
        refine va_put (D := γ.1) (ci := 7) (v := .int u_12) (ty := .int) (C := RX7) (T := TX7) (N := 35) hx hb hU uin7 tyX7 tyX7_ok nmX7 hown hK hP (hD _ _) hS 0 rfl rfl 17 (by decide) (hU _ U986) (fun _ h9 => h9) rfl (by decide +kernel) rfl rfl (Nat.le_of_ble_eq_true rfl) dX7_behind_62 (fun H locs hP _ hS => ?_)
        obtain ⟨sm_13, e_sm_13, hf⟩ := nm_of hf
        replace hP : va_P γ.1 vwCl (wM γ am sm_13 sq) H := by rw [e_sm_13]; exact hP
        refine lv_iload_n hx hb dX7_behind_65 rfl (lv_at hl 0 rfl) ?_
        obtain ⟨rfl, rfl⟩ := rt2 hf
        exact kt_iret C0 hP hS dX7_behind_66
      · replace hf := ite_p c_7 hf
        refine lv_aload_n hx hb dX7_behind_34 rfl (lv_at hl 0 rfl) ?_
        refine lv_iload_n hx hb dX7_behind_35 rfl (lv_at hl 1 rfl) ?_
        obtain ⟨r_14, sm_15, hg_16, hf⟩ := bd2_of hf
        refine kt_V0 (As := [.int x1]) (rest := []) (st1 := [.int r_14]) (b := am 0) C0 (c_X7_blacksBehind l γ am hg_16) (cxV (nA := 1) hts goodU U1303 U1305 U62 U91 U1306 (by decide +kernel) ⟨Nat.le_of_ble_eq_true rfl, Nat.le_of_ble_eq_true rfl⟩) hP (hD _ _) hS hl dX7_behind_36 0 7 rfl rfl rfl rfl (Nat.le_of_ble_eq_true rfl) rfl rfl (fun H locs hP hS => ?_)
        obtain ⟨rfl, rfl⟩ := rt2 hf
        exact kt_iret C0 hP hS dX7_behind_39
    · replace hf := ite_p c_6 hf
      refine lv_aload_n hx hb dX7_behind_23 rfl (lv_at hl 0 rfl) ?_
      refine lv_bipush (v := -6) hx hb dX7_behind_24 (by decide) ?_
      obtain ⟨r_17, sm_18, hg_19, hf⟩ := bd2_of hf
      refine kt_V0 (As := [.int (-6 : Int32)]) (rest := []) (st1 := [.int r_17]) (b := am 0) C0 (c_X7_no l γ am hg_19) (cxV (nA := 1) hts goodU U1082 U1084 U30 U91 U1085 (by decide +kernel) ⟨Nat.le_of_ble_eq_true rfl, Nat.le_of_ble_eq_true rfl⟩) hP (hD _ _) hS hl dX7_behind_26 0 7 rfl rfl rfl rfl (Nat.le_of_ble_eq_true rfl) rfl rfl (fun H locs hP hS => ?_)
      obtain ⟨rfl, rfl⟩ := rt2 hf
      exact kt_iret C0 hP hS dX7_behind_29
  · replace hf := ite_p c_3 hf
    refine lv_aload_n hx hb dX7_behind_9 rfl (lv_at hl 0 rfl) ?_
    refine lv_bipush (v := -5) hx hb dX7_behind_10 (by decide) ?_
    obtain ⟨r_20, sm_21, hg_22, hf⟩ := bd2_of hf
    refine kt_V0 (As := [.int (-5 : Int32)]) (rest := []) (st1 := [.int r_20]) (b := am 0) C0 (c_X7_no l γ am hg_22) (cxV (nA := 1) hts goodU U1082 U1084 U30 U91 U1085 (by decide +kernel) ⟨Nat.le_of_ble_eq_true rfl, Nat.le_of_ble_eq_true rfl⟩) hP (hD _ _) hS hl dX7_behind_12 0 7 rfl rfl rfl rfl (Nat.le_of_ble_eq_true rfl) rfl rfl (fun H locs hP hS => ?_)
    obtain ⟨rfl, rfl⟩ := rt2 hf
    exact kt_iret C0 hP hS dX7_behind_15
set_option maxHeartbeats 4000000 in
set_option maxRecDepth 100000 in
theorem c_X7_white (l : Launch) (γ : Gm) (am : Nat → Nat) {sm : GS} {sq : Nat → Int64} {rv : Int32} {sm_z : GS} (hf : f_X7_white sm = some (rv, sm_z)) : Kt l γ yX7_white (Cond.code yX7_white cX7_white 2 (some .int) :: U) 4 91 [.ref (am 0)] (wM γ am sm sq) (some (.int rv)) (wM γ am sm_z sq) := by
  refine Kt.of (by decide) rfl (Nat.le_of_ble_eq_true rfl) rfl ?_
  intro p e s m below meth c A ls C0 hP hD0 hS hl
  obtain ⟨hx, hb, hml, hown, hts, hr, hlocks, hK, hE, hA⟩ := id C0
  have hU : ∀ w ∈ U, w.before _ s = true := fun w h => hts w (List.mem_cons_of_mem _ h)
  have hD : ∀ (sm : GS) (sq : Nat → Int64), va_D A (wM γ am sm sq) := fun _ _ => hD0.fst rfl
  have hl : lv_has ls 2 [(0, .ref (am 0))] := hl
  have L2 : ∀ (n : Nat) (x1_1 : Int32) (sm_2 : GS) (H : Heap) (locs : List Loc) (ls : Array Slot), f_X7_white_L2 n x1_1 sm_2 = some (rv, sm_z) → va_P γ.1 vwCl (wM γ am sm_2 sq) H → va_S A s.heap H locs → lv_has ls 2 [(0, .ref (am 0)), (1, .int x1_1)] → W p l e (rmK 4 91) s m ([.ref (am 0)] : List Value).toArray below meth c H locs 0 0 (MQ below (KQ γ A (some (.int rv)) (wM γ am sm_z sq)) ([.ref (am 0)] : List Value).toArray s 0 0 A) (F0 m 2 ls []) := by
    intro n
    induction n with
    | zero =>
      intro x1_1 sm_2 H locs ls hf
      have hf : none = some _ := hf
      cases hf
    | succ n ih =>
      intro x1_1 sm_2 H locs ls hf hP hS hl
      rw [f_X7_white_L2.eq_2] at hf
      refine lv_iload_n hx hb dX7_white_2 rfl (lv_at hl 1 rfl) ?_
      refine lv_sipush (v := 1000) hx hb dX7_white_3 (by decide) ?_
      refine lv_icmp_ge (tgt := 25) hx hb dX7_white_6 (by decide) (fun c_3 => ?_) (fun c_3 => ?_)
      · replace hf := ite_p c_3 hf
        refine lv_iconst (v := -1) hx hb dX7_white_25 (by decide) ?_
        obtain ⟨rfl, rfl⟩ := rt2 hf
        exact kt_iret C0 hP hS dX7_white_26
      · replace hf := ite_n c_3 hf
        refine lv_aload_n hx hb dX7_white_9 rfl (lv_at hl 0 rfl) ?_
        refine lv_iload_n hx hb dX7_white_10 rfl (lv_at hl 1 rfl) ?_
        obtain ⟨r_4, sm_5, hg_6, hf⟩ := bd2_of hf
        refine kt_V0 (As := [.int x1_1]) (rest := []) (st1 := [.int r_4]) (b := am 0) C0 (c_X7_blacksBehind l γ am hg_6) (cxV (nA := 1) hts goodU U1303 U1305 U62 U91 U1306 (by decide +kernel) ⟨Nat.le_of_ble_eq_true rfl, Nat.le_of_ble_eq_true rfl⟩) hP (hD _ _) hS hl dX7_white_11 0 7 rfl rfl rfl rfl (Nat.le_of_ble_eq_true rfl) rfl rfl (fun H locs hP hS => ?_)
        refine lv_if_ne (tgt := 19) hx hb dX7_white_14 (by decide) (fun c_7 => ?_) (fun c_7 => ?_)
        · replace hf := ite_n c_7 hf
          obtain ⟨x1_8, e_x1_8⟩ : ∃ y : Int32, y = x1_1 + (1 : Int32) := ⟨_, rfl⟩
          replace hf := nm_y hf e_x1_8
          refine lv_iinc (v := x1_8) (lv' := [(1, .int x1_8), (0, .ref (am 0))]) hx hb dX7_white_19 hl (k := 1) rfl (by rw [e_x1_8]; rfl) (by decide) rfl (fun ls hl => ?_)
          refine lv_goto (tgt := 2) hx hb dX7_white_22 (by decide) ?_
          exact ih x1_8 sm_5 _ _ _ hf hP hS (lv_sub hl [1, 0] rfl)
        · replace hf := ite_p c_7 hf
          refine lv_iload_n hx hb dX7_white_17 rfl (lv_at hl 1 rfl) ?_
          obtain ⟨rfl, rfl⟩ := rt2 hf
          exact kt_iret C0 hP hS dX7_white_18
  unfold f_X7_white at hf
  refine lv_iconst (v := 0) hx hb dX7_white_0 (by decide) ?_
  refine lv_istore_n (lv' := [(1, .int (0 : Int32)), (0, .ref (am 0))]) hx hb dX7_white_1 rfl hl (by decide) rfl (fun ls hl => ?_)
  exact L2 FU (0 : Int32) sm _ _ _ hf hP hS (lv_sub hl [1, 0] rfl)
set_option maxHeartbeats 4000000 in
set_option maxRecDepth 100000 in
theorem c_X7_yieldOf (l : Launch) (γ : Gm) (am : Nat → Nat) {sm : GS} {sq : Nat → Int64} {x1 : Int32} {rv : Int32} {sm_z : GS} (hf : f_X7_yieldOf sm x1 = some (rv, sm_z)) : Kt l γ yX7_yieldOf (Cond.code yX7_yieldOf cX7_yieldOf 4 (some .int) :: U) 4 92 [.ref (am 0), .int x1] (wM γ am sm sq) (some (.int rv)) (wM γ am sm_z sq) := by
  refine Kt.of (by decide) rfl (Nat.le_of_ble_eq_true rfl) rfl ?_
  intro p e s m below meth c A ls C0 hP hD0 hS hl
  obtain ⟨hx, hb, hml, hown, hts, hr, hlocks, hK, hE, hA⟩ := id C0
  have hU : ∀ w ∈ U, w.before _ s = true := fun w h => hts w (List.mem_cons_of_mem _ h)
  have hD : ∀ (sm : GS) (sq : Nat → Int64), va_D A (wM γ am sm sq) := fun _ _ => hD0.fst rfl
  have hl : lv_has ls 4 [(0, .ref (am 0)), (1, .int x1)] := hl
  have L4 : ∀ (x1_1 : Int32) (n : Nat) (x2_2 : Int32) (x3_3 : Int32) (sm_4 : GS) (H : Heap) (locs : List Loc) (ls : Array Slot), f_X7_yieldOf_L4 x1_1 n x2_2 x3_3 sm_4 = some (rv, sm_z) → va_P γ.1 vwCl (wM γ am sm_4 sq) H → va_S A s.heap H locs → lv_has ls 4 [(0, .ref (am 0)), (1, .int x1_1), (2, .int x2_2), (3, .int x3_3)] → W p l e (rmK 4 92) s m ([.ref (am 0), .int x1] : List Value).toArray below meth c H locs 0 0 (MQ below (KQ γ A (some (.int rv)) (wM γ am sm_z sq)) ([.ref (am 0), .int x1] : List Value).toArray s 0 0 A) (F0 m 4 ls []) := by
    intro x1_1
    intro n
    induction n with
    | zero =>
      intro x2_2 x3_3 sm_4 H locs ls hf
      have hf : none = some _ := hf
      cases hf
    | succ n ih =>
      intro x2_2 x3_3 sm_4 H locs ls hf hP hS hl
      rw [f_X7_yieldOf_L4.eq_2] at hf
      refine lv_iload_n hx hb dX7_yieldOf_4 rfl (lv_at hl 3 rfl) ?_
      refine lv_iload_n hx hb dX7_yieldOf_5 rfl (lv_at hl 1 rfl) ?_
      refine lv_icmp_ge (tgt := 32) hx hb dX7_yieldOf_6 (by decide) (fun c_5 => ?_) (fun c_5 => ?_)
      · replace hf := ite_p c_5 hf
        refine lv_aload_n hx hb dX7_yieldOf_32 rfl (lv_at hl 0 rfl) ?_
        refine lv_dup hx hb dX7_yieldOf_33 rfl ?_
        refine va_get (D := γ.1) (ci := 7) (v := .int (sm_4 0 17)) (C := RX7) (T := TX7) (N := 35) hx hb hU uin7 hown hK hP 0 rfl rfl 17 (by decide) (hU _ U986) (fun _ h9 => h9) rfl dX7_yieldOf_34 ?_
        refine lv_iload_n hx hb dX7_yieldOf_37 rfl (lv_at hl 1 rfl) ?_
        refine lv_isub hx hb dX7_yieldOf_38 ?_
        refine lv_topi (fun u_6 e_u_6 => ?_)
        replace hf := nm_y hf e_u_6
        refine va_put (D := γ.1) (ci := 7) (v := .int u_6) (ty := .int) (C := RX7) (T := TX7) (N := 35) hx hb hU uin7 tyX7 tyX7_ok nmX7 hown hK hP (hD _ _) hS 0 rfl rfl 17 (by decide) (hU _ U986) (fun _ h9 => h9) rfl (by decide +kernel) rfl rfl (Nat.le_of_ble_eq_true rfl) dX7_yieldOf_39 (fun H locs hP _ hS => ?_)
        obtain ⟨sm_7, e_sm_7, hf⟩ := nm_of hf
        replace hP : va_P γ.1 vwCl (wM γ am sm_7 sq) H := by rw [e_sm_7]; exact hP
        refine lv_iload_n hx hb dX7_yieldOf_42 rfl (lv_at hl 2 rfl) ?_
        obtain ⟨rfl, rfl⟩ := rt2 hf
        exact kt_iret C0 hP hS dX7_yieldOf_43
      · replace hf := ite_n c_5 hf
        refine lv_iload_n hx hb dX7_yieldOf_9 rfl (lv_at hl 2 rfl) ?_
        refine lv_aload_n hx hb dX7_yieldOf_10 rfl (lv_at hl 0 rfl) ?_
        obtain ⟨r_8, hg_9, hf⟩ := bd_of hf
        refine kt_V0 (As := []) (rest := [.int x2_2]) (st1 := [.int r_8, .int x2_2]) (b := am 0) C0 (c_X7_allMilk l γ am hg_9) (cxV (nA := 0) hts goodU U1311 U1313 U63 U91 U1314 (by decide +kernel) ⟨Nat.le_of_ble_eq_true rfl, Nat.le_of_ble_eq_true rfl⟩) hP (hD _ _) hS hl dX7_yieldOf_11 0 7 rfl rfl rfl rfl (Nat.le_of_ble_eq_true rfl) rfl rfl (fun H locs hP hS => ?_)
        refine lv_iadd hx hb dX7_yieldOf_14 ?_
        refine lv_topi (fun u_10 e_u_10 => ?_)
        replace hf := nm_y hf e_u_10
        refine lv_istore_n (lv' := [(2, .int u_10), (0, .ref (am 0)), (1, .int x1_1), (3, .int x3_3)]) hx hb dX7_yieldOf_15 rfl hl (by decide) rfl (fun ls hl => ?_)
        refine lv_aload_n hx hb dX7_yieldOf_16 rfl (lv_at hl 1 rfl) ?_
        refine lv_dup hx hb dX7_yieldOf_17 rfl ?_
        refine va_get (D := γ.1) (ci := 7) (v := .int (sm_4 0 17)) (C := RX7) (T := TX7) (N := 35) hx hb hU uin7 hown hK hP 0 rfl rfl 17 (by decide) (hU _ U986) (fun _ h9 => h9) rfl dX7_yieldOf_18 ?_
        refine lv_iconst (v := 1) hx hb dX7_yieldOf_21 (by decide) ?_
        refine lv_iadd hx hb dX7_yieldOf_22 ?_
        refine lv_topi (fun u_11 e_u_11 => ?_)
        replace hf := nm_y hf e_u_11
        refine va_put (D := γ.1) (ci := 7) (v := .int u_11) (ty := .int) (C := RX7) (T := TX7) (N := 35) hx hb hU uin7 tyX7 tyX7_ok nmX7 hown hK hP (hD _ _) hS 0 rfl rfl 17 (by decide) (hU _ U986) (fun _ h9 => h9) rfl (by decide +kernel) rfl rfl (Nat.le_of_ble_eq_true rfl) dX7_yieldOf_23 (fun H locs hP _ hS => ?_)
        obtain ⟨sm_12, e_sm_12, hf⟩ := nm_of hf
        replace hP : va_P γ.1 vwCl (wM γ am sm_12 sq) H := by rw [e_sm_12]; exact hP
        obtain ⟨x3_13, e_x3_13⟩ : ∃ y : Int32, y = x3_3 + (1 : Int32) := ⟨_, rfl⟩
        replace hf := nm_y hf e_x3_13
        refine lv_iinc (v := x3_13) (lv' := [(3, .int x3_13), (2, .int u_10), (0, .ref (am 0)), (1, .int x1_1)]) hx hb dX7_yieldOf_26 hl (k := 3) rfl (by rw [e_x3_13]; rfl) (by decide) rfl (fun ls hl => ?_)
        refine lv_goto (tgt := 4) hx hb dX7_yieldOf_29 (by decide) ?_
        exact ih u_10 x3_13 sm_12 _ _ _ hf hP hS (lv_sub hl [2, 3, 1, 0] rfl)
  unfold f_X7_yieldOf at hf
  refine lv_iconst (v := 0) hx hb dX7_yieldOf_0 (by decide) ?_
  refine lv_istore_n (lv' := [(2, .int (0 : Int32)), (0, .ref (am 0)), (1, .int x1)]) hx hb dX7_yieldOf_1 rfl hl (by decide) rfl (fun ls hl => ?_)
  refine lv_iconst (v := 0) hx hb dX7_yieldOf_2 (by decide) ?_
  refine lv_istore_n (lv' := [(3, .int (0 : Int32)), (2, .int (0 : Int32)), (0, .ref (am 0)), (1, .int x1)]) hx hb dX7_yieldOf_3 rfl hl (by decide) rfl (fun ls hl => ?_)
  exact L4 x1 FU (0 : Int32) (0 : Int32) sm _ _ _ hf hP hS (lv_sub hl [2, 3, 1, 0] rfl)
set_option maxHeartbeats 4000000 in
set_option maxRecDepth 100000 in
theorem c_X7_yields (l : Launch) (γ : Gm) (am : Nat → Nat) {sm : GS} {sq : Nat → Int64} {x1 : Int32} {rv : Int32} {sm_z : GS} (hf : f_X7_yields sm x1 = some (rv, sm_z)) : Kt l γ yX7_yields (Cond.code yX7_yields cX7_yields 2 (some .int) :: U) 5 115 [.ref (am 0), .int x1] (wM γ am sm sq) (some (.int rv)) (wM γ am sm_z sq) := by
  refine Kt.of (by decide) rfl (Nat.le_of_ble_eq_true rfl) rfl ?_
  intro p e s m below meth c A ls C0 hP hD0 hS hl
  obtain ⟨hx, hb, hml, hown, hts, hr, hlocks, hK, hE, hA⟩ := id C0
  have hU : ∀ w ∈ U, w.before _ s = true := fun w h => hts w (List.mem_cons_of_mem _ h)
  have hD : ∀ (sm : GS) (sq : Nat → Int64), va_D A (wM γ am sm sq) := fun _ _ => hD0.fst rfl
  have hl : lv_has ls 2 [(0, .ref (am 0)), (1, .int x1)] := hl
  unfold f_X7_yields at hf
  refine lv_iload_n hx hb dX7_yields_0 rfl (lv_at hl 1 rfl) ?_
  refine lv_iconst (v := 0) hx hb dX7_yields_1 (by decide) ?_
  refine lv_sipush (v := 200) hx hb dX7_yields_2 (by decide) ?_
  obtain ⟨r_1, hg_2, hf⟩ := bd_of hf
  refine kt_SF (As := [.int x1, .int (0 : Int32), .int (200 : Int32)]) (rest := []) (st1 := [.int r_1]) (wc' := wM γ am sm sq) C0 (c_X7_within l γ hg_2) (cxS (nA := 3) hts goodU U1079 U1080 U91 U1081 (by decide +kernel) ⟨Nat.le_of_ble_eq_true rfl, Nat.le_of_ble_eq_true rfl⟩) hP (hD _ _) hS hl dX7_yields_5 foc_nil rfl (Nat.le_of_ble_eq_true rfl) rfl rfl (fun H locs hP hS => ?_)
  refine lv_if_eq (tgt := 19) hx hb dX7_yields_8 (by decide) (fun c_3 => ?_) (fun c_3 => ?_)
  · replace hf := ite_p c_3 hf
    refine lv_aload_n hx hb dX7_yields_19 rfl (lv_at hl 0 rfl) ?_
    refine lv_bipush (v := -6) hx hb dX7_yields_20 (by decide) ?_
    obtain ⟨r_4, sm_5, hg_6, hf⟩ := bd2_of hf
    refine kt_V0 (As := [.int (-6 : Int32)]) (rest := []) (st1 := [.int r_4]) (b := am 0) C0 (c_X7_no l γ am hg_6) (cxV (nA := 1) hts goodU U1082 U1084 U30 U91 U1085 (by decide +kernel) ⟨Nat.le_of_ble_eq_true rfl, Nat.le_of_ble_eq_true rfl⟩) hP (hD _ _) hS hl dX7_yields_22 0 7 rfl rfl rfl rfl (Nat.le_of_ble_eq_true rfl) rfl rfl (fun H locs hP hS => ?_)
    obtain ⟨rfl, rfl⟩ := rt2 hf
    exact kt_iret C0 hP hS dX7_yields_25
  · replace hf := ite_n c_3 hf
    refine lv_aload_n hx hb dX7_yields_11 rfl (lv_at hl 0 rfl) ?_
    refine lv_iload_n hx hb dX7_yields_12 rfl (lv_at hl 1 rfl) ?_
    obtain ⟨r_7, sm_8, hg_9, hf⟩ := bd2_of hf
    refine kt_V0 (As := [.int x1]) (rest := []) (st1 := [.int r_7]) (b := am 0) C0 (c_X7_yieldOf l γ am hg_9) (cxV (nA := 1) hts goodU U1323 U1325 U64 U91 U1326 (by decide +kernel) ⟨Nat.le_of_ble_eq_true rfl, Nat.le_of_ble_eq_true rfl⟩) hP (hD _ _) hS hl dX7_yields_13 0 7 rfl rfl rfl rfl (Nat.le_of_ble_eq_true rfl) rfl rfl (fun H locs hP hS => ?_)
    refine lv_goto (tgt := 25) hx hb dX7_yields_16 (by decide) ?_
    obtain ⟨rfl, rfl⟩ := rt2 hf
    exact kt_iret C0 hP hS dX7_yields_25
set_option maxHeartbeats 4000000 in
set_option maxRecDepth 100000 in
theorem c_X7_griefOf (l : Launch) (γ : Gm) (am : Nat → Nat) {sm : GS} {sq : Nat → Int64} {x1 : Int32} {rv : Int32} {sm_z : GS} (hf : f_X7_griefOf sm x1 = some (rv, sm_z)) : Kt l γ yX7_griefOf (Cond.code yX7_griefOf cX7_griefOf 3 (some .int) :: U) 5 113 [.ref (am 0), .int x1] (wM γ am sm sq) (some (.int rv)) (wM γ am sm_z sq) := by
  refine Kt.of (by decide) rfl (Nat.le_of_ble_eq_true rfl) rfl ?_
  intro p e s m below meth c A ls C0 hP hD0 hS hl
  obtain ⟨hx, hb, hml, hown, hts, hr, hlocks, hK, hE, hA⟩ := id C0
  have hU : ∀ w ∈ U, w.before _ s = true := fun w h => hts w (List.mem_cons_of_mem _ h)
  have hD : ∀ (sm : GS) (sq : Nat → Int64), va_D A (wM γ am sm sq) := fun _ _ => hD0.fst rfl
  have hl : lv_has ls 3 [(0, .ref (am 0)), (1, .int x1)] := hl
  unfold f_X7_griefOf at hf
  refine lv_aload_n hx hb dX7_griefOf_0 rfl (lv_at hl 0 rfl) ?_
  refine lv_aload_n hx hb dX7_griefOf_1 rfl (lv_at hl 0 rfl) ?_
  refine va_get (D := γ.1) (ci := 7) (v := .ref (am 27)) (C := RX7) (T := TX7) (N := 35) hx hb hU uin7 hown hK hP 0 rfl rfl 26 (by decide) (hU _ U995) (fun _ h9 => h9) rfl dX7_griefOf_2 ?_
  obtain ⟨sm_1, hg_2, hf⟩ := bd_of hf
  refine kt_V0 (As := [.ref (am 27)]) (rest := []) (st1 := []) (b := am 0) C0 (c_X7_keep_27 l γ am hg_2) (cxV (nA := 1) hts goodU U1228 U1230 U49 U91 U1231 (by decide +kernel) ⟨Nat.le_of_ble_eq_true rfl, Nat.le_of_ble_eq_true rfl⟩) hP (hD _ _) hS hl dX7_griefOf_5 0 7 rfl rfl rfl rfl (Nat.le_of_ble_eq_true rfl) rfl rfl (fun H locs hP hS => ?_)
  refine lv_aload_n hx hb dX7_griefOf_8 rfl (lv_at hl 0 rfl) ?_
  refine lv_iload_n hx hb dX7_griefOf_9 rfl (lv_at hl 1 rfl) ?_
  obtain ⟨r_3, sm_4, hg_5, hf⟩ := bd2_of hf
  refine kt_V0 (As := [.int x1]) (rest := []) (st1 := [.int r_3]) (b := am 0) C0 (c_X7_loses l γ am hg_5) (cxV (nA := 1) hts goodU U1272 U1274 U58 U91 U1275 (by decide +kernel) ⟨Nat.le_of_ble_eq_true rfl, Nat.le_of_ble_eq_true rfl⟩) hP (hD _ _) hS hl dX7_griefOf_10 0 7 rfl rfl rfl rfl (Nat.le_of_ble_eq_true rfl) rfl rfl (fun H locs hP hS => ?_)
  refine lv_istore_n (lv' := [(2, .int r_3), (0, .ref (am 0)), (1, .int x1)]) hx hb dX7_griefOf_13 rfl hl (by decide) rfl (fun ls hl => ?_)
  refine lv_aload_n hx hb dX7_griefOf_14 rfl (lv_at hl 1 rfl) ?_
  refine lv_aload_n hx hb dX7_griefOf_15 rfl (lv_at hl 1 rfl) ?_
  refine va_get (D := γ.1) (ci := 7) (v := .ref (am 27)) (C := RX7) (T := TX7) (N := 35) hx hb hU uin7 hown hK hP 0 rfl rfl 26 (by decide) (hU _ U995) (fun _ h9 => h9) rfl dX7_griefOf_16 ?_
  obtain ⟨sm_6, hg_7, hf⟩ := bd_of hf
  refine kt_V0 (As := [.ref (am 27)]) (rest := []) (st1 := []) (b := am 0) C0 (c_X7_again_27 l γ am hg_7) (cxV (nA := 1) hts goodU U1280 U1282 U60 U91 U1283 (by decide +kernel) ⟨Nat.le_of_ble_eq_true rfl, Nat.le_of_ble_eq_true rfl⟩) hP (hD _ _) hS hl dX7_griefOf_19 0 7 rfl rfl rfl rfl (Nat.le_of_ble_eq_true rfl) rfl rfl (fun H locs hP hS => ?_)
  refine lv_iload_n hx hb dX7_griefOf_22 rfl (lv_at hl 0 rfl) ?_
  obtain ⟨rfl, rfl⟩ := rt2 hf
  exact kt_iret C0 hP hS dX7_griefOf_23
