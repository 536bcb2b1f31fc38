set_option maxHeartbeats 4000000 in
set_option maxRecDepth 100000 in
theorem c_X3_become (l : Launch) (γ : Gm) (ar : Nat → Nat) (as : Nat → Nat) {sr : GS} {srs : GS} {sr_z : GS} (hf : f_X3_become sr srs = some sr_z) : Kt l γ yX3_become (Cond.code yX3_become cX3_become 2 none :: U) 1 60 [.ref (ar 0), .ref (as 0)] (wR γ ar sr ++ wR γ as srs) none (wR γ ar sr_z ++ wR γ as srs) := by
  refine Kt.of (by decide) rfl (Nat.le_of_ble_eq_true rfl) rfl ?_
  intro p e s m below meth c A ls C0 hP hD0 hS hl
  obtain ⟨hx, hb, hml, hown, hts, hr, hlocks, hK, hE, hA⟩ := id C0
  have hU : ∀ w ∈ U, w.before _ s = true := fun w h => hts w (List.mem_cons_of_mem _ h)
  have hD : ∀ (sr : GS) (srs : GS), va_D A (wR γ ar sr ++ wR γ as srs) := fun _ _ => hD0.fst rfl
  have hl : lv_has ls 2 [(0, .ref (ar 0)), (1, .ref (as 0))] := hl
  unfold f_X3_become at hf
  refine lv_aload_n hx hb dX3_become_0 rfl (lv_at hl 0 rfl) ?_
  refine lv_aload_n hx hb dX3_become_1 rfl (lv_at hl 1 rfl) ?_
  refine va_get (D := γ.1) (ci := 3) (v := .int (srs 0 0)) (C := RX3) (T := TX3) (N := 18) hx hb hU uin3 hown hK hP 13 rfl rfl 0 (by decide) (hU _ U113) (fun _ h9 => h9) rfl dX3_become_2 ?_
  refine lv_topi (fun u_1 e_u_1 => ?_)
  replace hf := nm_y hf e_u_1
  refine va_put (D := γ.1) (ci := 3) (v := .int u_1) (ty := .int) (C := RX3) (T := TX3) (N := 18) hx hb hU uin3 tyX3 tyX3_ok nmX3 hown hK hP (hD _ _) hS 0 rfl rfl 0 (by decide) (hU _ U113) (fun _ h9 => h9) rfl (by decide +kernel) rfl rfl (Nat.le_of_ble_eq_true rfl) dX3_become_5 (fun H locs hP _ hS => ?_)
  obtain ⟨sr_2, e_sr_2, hf⟩ := nm_of hf
  replace hP : va_P γ.1 vwCl (wR γ ar sr_2 ++ wR γ as srs) H := by rw [e_sr_2]; exact hP
  refine lv_aload_n hx hb dX3_become_8 rfl (lv_at hl 0 rfl) ?_
  refine lv_aload_n hx hb dX3_become_9 rfl (lv_at hl 1 rfl) ?_
  refine va_get (D := γ.1) (ci := 3) (v := .int (srs 0 1)) (C := RX3) (T := TX3) (N := 18) hx hb hU uin3 hown hK hP 13 rfl rfl 1 (by decide) (hU _ U118) (fun _ h9 => h9) rfl dX3_become_10 ?_
  refine lv_topi (fun u_3 e_u_3 => ?_)
  replace hf := nm_y hf e_u_3
  refine va_put (D := γ.1) (ci := 3) (v := .int u_3) (ty := .int) (C := RX3) (T := TX3) (N := 18) hx hb hU uin3 tyX3 tyX3_ok nmX3 hown hK hP (hD _ _) hS 0 rfl rfl 1 (by decide) (hU _ U118) (fun _ h9 => h9) rfl (by decide +kernel) rfl rfl (Nat.le_of_ble_eq_true rfl) dX3_become_13 (fun H locs hP _ hS => ?_)
  obtain ⟨sr_4, e_sr_4, hf⟩ := nm_of hf
  replace hP : va_P γ.1 vwCl (wR γ ar sr_4 ++ wR γ as srs) H := by rw [e_sr_4]; exact hP
  refine lv_aload_n hx hb dX3_become_16 rfl (lv_at hl 1 rfl) ?_
  refine va_get (D := γ.1) (ci := 3) (v := .ref (as 3)) (C := RX3) (T := TX3) (N := 18) hx hb hU uin3 hown hK hP 13 rfl rfl 2 (by decide) (hU _ U121) (fun _ h9 => h9) rfl dX3_become_17 ?_
  refine lv_iconst (v := 0) hx hb dX3_become_20 (by decide) ?_
  refine lv_aload_n hx hb dX3_become_21 rfl (lv_at hl 0 rfl) ?_
  refine va_get (D := γ.1) (ci := 3) (v := .ref (ar 3)) (C := RX3) (T := TX3) (N := 18) hx hb hU uin3 hown hK hP 0 rfl rfl 2 (by decide) (hU _ U121) (fun _ h9 => h9) rfl dX3_become_22 ?_
  refine lv_iconst (v := 0) hx hb dX3_become_25 (by decide) ?_
  refine lv_bipush (v := 10) hx hb dX3_become_26 (by decide) ?_
  refine va_copyi (rest := []) (sp := (0 : Int32)) (dp := (0 : Int32)) (n := (10 : Int32)) (ty := .int) hx hb (hml.trans hl.1.symm) hown (hU _ U553) (hU _ U390) (hU _ U389) (hU _ U92) hK hP (hD _ _) hS 14 1 0 0 rfl rfl rfl rfl rfl (by decide) (by decide) (by decide) (by decide) (by decide) (fun _ _ => rfl) (Nat.le_of_ble_eq_true rfl) (by decide +kernel) dX3_become_28 (fun H locs hP _ hS => ?_)
  obtain ⟨sr_5, e_sr_5, hf⟩ := nm_of hf
  replace hP : va_P γ.1 vwCl (wR γ ar sr_5 ++ wR γ as srs) H := by rw [e_sr_5]; exact hP
  refine lv_aload_n hx hb dX3_become_31 rfl (lv_at hl 1 rfl) ?_
  refine va_get (D := γ.1) (ci := 3) (v := .ref (as 4)) (C := RX3) (T := TX3) (N := 18) hx hb hU uin3 hown hK hP 13 rfl rfl 3 (by decide) (hU _ U124) (fun _ h9 => h9) rfl dX3_become_32 ?_
  refine lv_iconst (v := 0) hx hb dX3_become_35 (by decide) ?_
  refine lv_aload_n hx hb dX3_become_36 rfl (lv_at hl 0 rfl) ?_
  refine va_get (D := γ.1) (ci := 3) (v := .ref (ar 4)) (C := RX3) (T := TX3) (N := 18) hx hb hU uin3 hown hK hP 0 rfl rfl 3 (by decide) (hU _ U124) (fun _ h9 => h9) rfl dX3_become_37 ?_
  refine lv_iconst (v := 0) hx hb dX3_become_40 (by decide) ?_
  refine lv_bipush (v := 10) hx hb dX3_become_41 (by decide) ?_
  refine va_copyi (rest := []) (sp := (0 : Int32)) (dp := (0 : Int32)) (n := (10 : Int32)) (ty := .int) hx hb (hml.trans hl.1.symm) hown (hU _ U553) (hU _ U390) (hU _ U389) (hU _ U92) hK hP (hD _ _) hS 15 2 0 0 rfl rfl rfl rfl rfl (by decide) (by decide) (by decide) (by decide) (by decide) (fun _ _ => rfl) (Nat.le_of_ble_eq_true rfl) (by decide +kernel) dX3_become_43 (fun H locs hP _ hS => ?_)
  obtain ⟨sr_6, e_sr_6, hf⟩ := nm_of hf
  replace hP : va_P γ.1 vwCl (wR γ ar sr_6 ++ wR γ as srs) H := by rw [e_sr_6]; exact hP
  refine lv_aload_n hx hb dX3_become_46 rfl (lv_at hl 1 rfl) ?_
  refine va_get (D := γ.1) (ci := 3) (v := .ref (as 5)) (C := RX3) (T := TX3) (N := 18) hx hb hU uin3 hown hK hP 13 rfl rfl 4 (by decide) (hU _ U127) (fun _ h9 => h9) rfl dX3_become_47 ?_
  refine lv_iconst (v := 0) hx hb dX3_become_50 (by decide) ?_
  refine lv_aload_n hx hb dX3_become_51 rfl (lv_at hl 0 rfl) ?_
  refine va_get (D := γ.1) (ci := 3) (v := .ref (ar 5)) (C := RX3) (T := TX3) (N := 18) hx hb hU uin3 hown hK hP 0 rfl rfl 4 (by decide) (hU _ U127) (fun _ h9 => h9) rfl dX3_become_52 ?_
  refine lv_iconst (v := 0) hx hb dX3_become_55 (by decide) ?_
  refine lv_bipush (v := 10) hx hb dX3_become_56 (by decide) ?_
  refine va_copyi (rest := []) (sp := (0 : Int32)) (dp := (0 : Int32)) (n := (10 : Int32)) (ty := .int) hx hb (hml.trans hl.1.symm) hown (hU _ U553) (hU _ U390) (hU _ U389) (hU _ U92) hK hP (hD _ _) hS 16 3 0 0 rfl rfl rfl rfl rfl (by decide) (by decide) (by decide) (by decide) (by decide) (fun _ _ => rfl) (Nat.le_of_ble_eq_true rfl) (by decide +kernel) dX3_become_58 (fun H locs hP _ hS => ?_)
  obtain ⟨sr_7, e_sr_7, hf⟩ := nm_of hf
  replace hP : va_P γ.1 vwCl (wR γ ar sr_7 ++ wR γ as srs) H := by rw [e_sr_7]; exact hP
  refine lv_aload_n hx hb dX3_become_61 rfl (lv_at hl 1 rfl) ?_
  refine va_get (D := γ.1) (ci := 3) (v := .ref (as 6)) (C := RX3) (T := TX3) (N := 18) hx hb hU uin3 hown hK hP 13 rfl rfl 5 (by decide) (hU _ U129) (fun _ h9 => h9) rfl dX3_become_62 ?_
  refine lv_iconst (v := 0) hx hb dX3_become_65 (by decide) ?_
  refine lv_aload_n hx hb dX3_become_66 rfl (lv_at hl 0 rfl) ?_
  refine va_get (D := γ.1) (ci := 3) (v := .ref (ar 6)) (C := RX3) (T := TX3) (N := 18) hx hb hU uin3 hown hK hP 0 rfl rfl 5 (by decide) (hU _ U129) (fun _ h9 => h9) rfl dX3_become_67 ?_
  refine lv_iconst (v := 0) hx hb dX3_become_70 (by decide) ?_
  refine lv_bipush (v := 10) hx hb dX3_become_71 (by decide) ?_
  refine va_copyi (rest := []) (sp := (0 : Int32)) (dp := (0 : Int32)) (n := (10 : Int32)) (ty := .int) hx hb (hml.trans hl.1.symm) hown (hU _ U553) (hU _ U390) (hU _ U389) (hU _ U92) hK hP (hD _ _) hS 17 4 0 0 rfl rfl rfl rfl rfl (by decide) (by decide) (by decide) (by decide) (by decide) (fun _ _ => rfl) (Nat.le_of_ble_eq_true rfl) (by decide +kernel) dX3_become_73 (fun H locs hP _ hS => ?_)
  obtain ⟨sr_8, e_sr_8, hf⟩ := nm_of hf
  replace hP : va_P γ.1 vwCl (wR γ ar sr_8 ++ wR γ as srs) H := by rw [e_sr_8]; exact hP
  refine lv_aload_n hx hb dX3_become_76 rfl (lv_at hl 1 rfl) ?_
  refine va_get (D := γ.1) (ci := 3) (v := .ref (as 7)) (C := RX3) (T := TX3) (N := 18) hx hb hU uin3 hown hK hP 13 rfl rfl 6 (by decide) (hU _ U131) (fun _ h9 => h9) rfl dX3_become_77 ?_
  refine lv_iconst (v := 0) hx hb dX3_become_80 (by decide) ?_
  refine lv_aload_n hx hb dX3_become_81 rfl (lv_at hl 0 rfl) ?_
  refine va_get (D := γ.1) (ci := 3) (v := .ref (ar 7)) (C := RX3) (T := TX3) (N := 18) hx hb hU uin3 hown hK hP 0 rfl rfl 6 (by decide) (hU _ U131) (fun _ h9 => h9) rfl dX3_become_82 ?_
  refine lv_iconst (v := 0) hx hb dX3_become_85 (by decide) ?_
  refine lv_bipush (v := 10) hx hb dX3_become_86 (by decide) ?_
  refine va_copyi (rest := []) (sp := (0 : Int32)) (dp := (0 : Int32)) (n := (10 : Int32)) (ty := .int) hx hb (hml.trans hl.1.symm) hown (hU _ U553) (hU _ U390) (hU _ U389) (hU _ U92) hK hP (hD _ _) hS 18 5 0 0 rfl rfl rfl rfl rfl (by decide) (by decide) (by decide) (by decide) (by decide) (fun _ _ => rfl) (Nat.le_of_ble_eq_true rfl) (by decide +kernel) dX3_become_88 (fun H locs hP _ hS => ?_)
  obtain ⟨sr_9, e_sr_9, hf⟩ := nm_of hf
  replace hP : va_P γ.1 vwCl (wR γ ar sr_9 ++ wR γ as srs) H := by rw [e_sr_9]; exact hP
  refine lv_aload_n hx hb dX3_become_91 rfl (lv_at hl 1 rfl) ?_
  refine va_get (D := γ.1) (ci := 3) (v := .ref (as 8)) (C := RX3) (T := TX3) (N := 18) hx hb hU uin3 hown hK hP 13 rfl rfl 7 (by decide) (hU _ U134) (fun _ h9 => h9) rfl dX3_become_92 ?_
  refine lv_iconst (v := 0) hx hb dX3_become_95 (by decide) ?_
  refine lv_aload_n hx hb dX3_become_96 rfl (lv_at hl 0 rfl) ?_
  refine va_get (D := γ.1) (ci := 3) (v := .ref (ar 8)) (C := RX3) (T := TX3) (N := 18) hx hb hU uin3 hown hK hP 0 rfl rfl 7 (by decide) (hU _ U134) (fun _ h9 => h9) rfl dX3_become_97 ?_
  refine lv_iconst (v := 0) hx hb dX3_become_100 (by decide) ?_
  refine lv_bipush (v := 10) hx hb dX3_become_101 (by decide) ?_
  refine va_copyi (rest := []) (sp := (0 : Int32)) (dp := (0 : Int32)) (n := (10 : Int32)) (ty := .int) hx hb (hml.trans hl.1.symm) hown (hU _ U553) (hU _ U390) (hU _ U389) (hU _ U92) hK hP (hD _ _) hS 19 6 0 0 rfl rfl rfl rfl rfl (by decide) (by decide) (by decide) (by decide) (by decide) (fun _ _ => rfl) (Nat.le_of_ble_eq_true rfl) (by decide +kernel) dX3_become_103 (fun H locs hP _ hS => ?_)
  obtain ⟨sr_10, e_sr_10, hf⟩ := nm_of hf
  replace hP : va_P γ.1 vwCl (wR γ ar sr_10 ++ wR γ as srs) H := by rw [e_sr_10]; exact hP
  refine lv_aload_n hx hb dX3_become_106 rfl (lv_at hl 1 rfl) ?_
  refine va_get (D := γ.1) (ci := 3) (v := .ref (as 9)) (C := RX3) (T := TX3) (N := 18) hx hb hU uin3 hown hK hP 13 rfl rfl 8 (by decide) (hU _ U136) (fun _ h9 => h9) rfl dX3_become_107 ?_
  refine lv_iconst (v := 0) hx hb dX3_become_110 (by decide) ?_
  refine lv_aload_n hx hb dX3_become_111 rfl (lv_at hl 0 rfl) ?_
  refine va_get (D := γ.1) (ci := 3) (v := .ref (ar 9)) (C := RX3) (T := TX3) (N := 18) hx hb hU uin3 hown hK hP 0 rfl rfl 8 (by decide) (hU _ U136) (fun _ h9 => h9) rfl dX3_become_112 ?_
  refine lv_iconst (v := 0) hx hb dX3_become_115 (by decide) ?_
  refine lv_bipush (v := 100) hx hb dX3_become_116 (by decide) ?_
  refine va_copyi (rest := []) (sp := (0 : Int32)) (dp := (0 : Int32)) (n := (100 : Int32)) (ty := .int) hx hb (hml.trans hl.1.symm) hown (hU _ U553) (hU _ U390) (hU _ U389) (hU _ U92) hK hP (hD _ _) hS 20 7 0 0 rfl rfl rfl rfl rfl (by decide) (by decide) (by decide) (by decide) (by decide) (fun _ _ => rfl) (Nat.le_of_ble_eq_true rfl) (by decide +kernel) dX3_become_118 (fun H locs hP _ hS => ?_)
  obtain ⟨sr_11, e_sr_11, hf⟩ := nm_of hf
  replace hP : va_P γ.1 vwCl (wR γ ar sr_11 ++ wR γ as srs) H := by rw [e_sr_11]; exact hP
  refine lv_aload_n hx hb dX3_become_121 rfl (lv_at hl 0 rfl) ?_
  refine lv_aload_n hx hb dX3_become_122 rfl (lv_at hl 1 rfl) ?_
  refine va_get (D := γ.1) (ci := 3) (v := .int (srs 0 10)) (C := RX3) (T := TX3) (N := 18) hx hb hU uin3 hown hK hP 13 rfl rfl 10 (by decide) (hU _ U138) (fun _ h9 => h9) rfl dX3_become_123 ?_
  refine lv_topi (fun u_12 e_u_12 => ?_)
  replace hf := nm_y hf e_u_12
  refine va_put (D := γ.1) (ci := 3) (v := .int u_12) (ty := .int) (C := RX3) (T := TX3) (N := 18) hx hb hU uin3 tyX3 tyX3_ok nmX3 hown hK hP (hD _ _) hS 0 rfl rfl 10 (by decide) (hU _ U138) (fun _ h9 => h9) rfl (by decide +kernel) rfl rfl (Nat.le_of_ble_eq_true rfl) dX3_become_126 (fun H locs hP _ hS => ?_)
  obtain ⟨sr_13, e_sr_13, hf⟩ := nm_of hf
  replace hP : va_P γ.1 vwCl (wR γ ar sr_13 ++ wR γ as srs) H := by rw [e_sr_13]; exact hP
  refine lv_aload_n hx hb dX3_become_129 rfl (lv_at hl 1 rfl) ?_
  refine va_get (D := γ.1) (ci := 3) (v := .ref (as 12)) (C := RX3) (T := TX3) (N := 18) hx hb hU uin3 hown hK hP 13 rfl rfl 11 (by decide) (hU _ U141) (fun _ h9 => h9) rfl dX3_become_130 ?_
  refine lv_iconst (v := 0) hx hb dX3_become_133 (by decide) ?_
  refine lv_aload_n hx hb dX3_become_134 rfl (lv_at hl 0 rfl) ?_
  refine va_get (D := γ.1) (ci := 3) (v := .ref (ar 12)) (C := RX3) (T := TX3) (N := 18) hx hb hU uin3 hown hK hP 0 rfl rfl 11 (by decide) (hU _ U141) (fun _ h9 => h9) rfl dX3_become_135 ?_
  refine lv_iconst (v := 0) hx hb dX3_become_138 (by decide) ?_
  refine lv_bipush (v := 6) hx hb dX3_become_139 (by decide) ?_
  refine va_copyi (rest := []) (sp := (0 : Int32)) (dp := (0 : Int32)) (n := (6 : Int32)) (ty := .int) hx hb (hml.trans hl.1.symm) hown (hU _ U553) (hU _ U390) (hU _ U389) (hU _ U92) hK hP (hD _ _) hS 22 9 0 0 rfl rfl rfl rfl rfl (by decide) (by decide) (by decide) (by decide) (by decide) (fun _ _ => rfl) (Nat.le_of_ble_eq_true rfl) (by decide +kernel) dX3_become_141 (fun H locs hP _ hS => ?_)
  obtain ⟨sr_14, e_sr_14, hf⟩ := nm_of hf
  replace hP : va_P γ.1 vwCl (wR γ ar sr_14 ++ wR γ as srs) H := by rw [e_sr_14]; exact hP
  refine lv_aload_n hx hb dX3_become_144 rfl (lv_at hl 1 rfl) ?_
  refine va_get (D := γ.1) (ci := 3) (v := .ref (as 13)) (C := RX3) (T := TX3) (N := 18) hx hb hU uin3 hown hK hP 13 rfl rfl 12 (by decide) (hU _ U142) (fun _ h9 => h9) rfl dX3_become_145 ?_
  refine lv_iconst (v := 0) hx hb dX3_become_148 (by decide) ?_
  refine lv_aload_n hx hb dX3_become_149 rfl (lv_at hl 0 rfl) ?_
  refine va_get (D := γ.1) (ci := 3) (v := .ref (ar 13)) (C := RX3) (T := TX3) (N := 18) hx hb hU uin3 hown hK hP 0 rfl rfl 12 (by decide) (hU _ U142) (fun _ h9 => h9) rfl dX3_become_150 ?_
  refine lv_iconst (v := 0) hx hb dX3_become_153 (by decide) ?_
  refine lv_bipush (v := 6) hx hb dX3_become_154 (by decide) ?_
  refine va_copyi (rest := []) (sp := (0 : Int32)) (dp := (0 : Int32)) (n := (6 : Int32)) (ty := .int) hx hb (hml.trans hl.1.symm) hown (hU _ U553) (hU _ U390) (hU _ U389) (hU _ U92) hK hP (hD _ _) hS 23 10 0 0 rfl rfl rfl rfl rfl (by decide) (by decide) (by decide) (by decide) (by decide) (fun _ _ => rfl) (Nat.le_of_ble_eq_true rfl) (by decide +kernel) dX3_become_156 (fun H locs hP _ hS => ?_)
  obtain ⟨sr_15, e_sr_15, hf⟩ := nm_of hf
  replace hP : va_P γ.1 vwCl (wR γ ar sr_15 ++ wR γ as srs) H := by rw [e_sr_15]; exact hP
  refine lv_aload_n hx hb dX3_become_159 rfl (lv_at hl 0 rfl) ?_
  refine lv_aload_n hx hb dX3_become_160 rfl (lv_at hl 1 rfl) ?_
  refine va_get (D := γ.1) (ci := 3) (v := .int (srs 0 13)) (C := RX3) (T := TX3) (N := 18) hx hb hU uin3 hown hK hP 13 rfl rfl 13 (by decide) (hU _ U143) (fun _ h9 => h9) rfl dX3_become_161 ?_
  refine lv_topi (fun u_16 e_u_16 => ?_)
  replace hf := nm_y hf e_u_16
  refine va_put (D := γ.1) (ci := 3) (v := .int u_16) (ty := .int) (C := RX3) (T := TX3) (N := 18) hx hb hU uin3 tyX3 tyX3_ok nmX3 hown hK hP (hD _ _) hS 0 rfl rfl 13 (by decide) (hU _ U143) (fun _ h9 => h9) rfl (by decide +kernel) rfl rfl (Nat.le_of_ble_eq_true rfl) dX3_become_164 (fun H locs hP _ hS => ?_)
  obtain ⟨sr_17, e_sr_17, hf⟩ := nm_of hf
  replace hP : va_P γ.1 vwCl (wR γ ar sr_17 ++ wR γ as srs) H := by rw [e_sr_17]; exact hP
  refine lv_aload_n hx hb dX3_become_167 rfl (lv_at hl 1 rfl) ?_
  refine va_get (D := γ.1) (ci := 3) (v := .ref (as 15)) (C := RX3) (T := TX3) (N := 18) hx hb hU uin3 hown hK hP 13 rfl rfl 14 (by decide) (hU _ U147) (fun _ h9 => h9) rfl dX3_become_168 ?_
  refine lv_iconst (v := 0) hx hb dX3_become_171 (by decide) ?_
  refine lv_aload_n hx hb dX3_become_172 rfl (lv_at hl 0 rfl) ?_
  refine va_get (D := γ.1) (ci := 3) (v := .ref (ar 15)) (C := RX3) (T := TX3) (N := 18) hx hb hU uin3 hown hK hP 0 rfl rfl 14 (by decide) (hU _ U147) (fun _ h9 => h9) rfl dX3_become_173 ?_
  refine lv_iconst (v := 0) hx hb dX3_become_176 (by decide) ?_
  refine lv_bipush (v := 8) hx hb dX3_become_177 (by decide) ?_
  refine va_copyi (rest := []) (sp := (0 : Int32)) (dp := (0 : Int32)) (n := (8 : Int32)) (ty := .int) hx hb (hml.trans hl.1.symm) hown (hU _ U553) (hU _ U390) (hU _ U389) (hU _ U92) hK hP (hD _ _) hS 24 11 0 0 rfl rfl rfl rfl rfl (by decide) (by decide) (by decide) (by decide) (by decide) (fun _ _ => rfl) (Nat.le_of_ble_eq_true rfl) (by decide +kernel) dX3_become_179 (fun H locs hP _ hS => ?_)
  obtain ⟨sr_18, e_sr_18, hf⟩ := nm_of hf
  replace hP : va_P γ.1 vwCl (wR γ ar sr_18 ++ wR γ as srs) H := by rw [e_sr_18]; exact hP
  refine lv_aload_n hx hb dX3_become_182 rfl (lv_at hl 1 rfl) ?_
  refine va_get (D := γ.1) (ci := 3) (v := .ref (as 16)) (C := RX3) (T := TX3) (N := 18) hx hb hU uin3 hown hK hP 13 rfl rfl 15 (by decide) (hU _ U149) (fun _ h9 => h9) rfl dX3_become_183 ?_
  refine lv_iconst (v := 0) hx hb dX3_become_186 (by decide) ?_
  refine lv_aload_n hx hb dX3_become_187 rfl (lv_at hl 0 rfl) ?_
  refine va_get (D := γ.1) (ci := 3) (v := .ref (ar 16)) (C := RX3) (T := TX3) (N := 18) hx hb hU uin3 hown hK hP 0 rfl rfl 15 (by decide) (hU _ U149) (fun _ h9 => h9) rfl dX3_become_188 ?_
  refine lv_iconst (v := 0) hx hb dX3_become_191 (by decide) ?_
  refine lv_bipush (v := 8) hx hb dX3_become_192 (by decide) ?_
  refine va_copyi (rest := []) (sp := (0 : Int32)) (dp := (0 : Int32)) (n := (8 : Int32)) (ty := .int) hx hb (hml.trans hl.1.symm) hown (hU _ U553) (hU _ U390) (hU _ U389) (hU _ U92) hK hP (hD _ _) hS 25 12 0 0 rfl rfl rfl rfl rfl (by decide) (by decide) (by decide) (by decide) (by decide) (fun _ _ => rfl) (Nat.le_of_ble_eq_true rfl) (by decide +kernel) dX3_become_194 (fun H locs hP _ hS => ?_)
  obtain ⟨sr_19, e_sr_19, hf⟩ := nm_of hf
  replace hP : va_P γ.1 vwCl (wR γ ar sr_19 ++ wR γ as srs) H := by rw [e_sr_19]; exact hP
  refine lv_aload_n hx hb dX3_become_197 rfl (lv_at hl 0 rfl) ?_
  refine lv_aload_n hx hb dX3_become_198 rfl (lv_at hl 1 rfl) ?_
  refine va_get (D := γ.1) (ci := 3) (v := .int (srs 0 16)) (C := RX3) (T := TX3) (N := 18) hx hb hU uin3 hown hK hP 13 rfl rfl 16 (by decide) (hU _ U152) (fun _ h9 => h9) rfl dX3_become_199 ?_
  refine lv_topi (fun u_20 e_u_20 => ?_)
  replace hf := nm_y hf e_u_20
  refine va_put (D := γ.1) (ci := 3) (v := .int u_20) (ty := .int) (C := RX3) (T := TX3) (N := 18) hx hb hU uin3 tyX3 tyX3_ok nmX3 hown hK hP (hD _ _) hS 0 rfl rfl 16 (by decide) (hU _ U152) (fun _ h9 => h9) rfl (by decide +kernel) rfl rfl (Nat.le_of_ble_eq_true rfl) dX3_become_202 (fun H locs hP _ hS => ?_)
  obtain ⟨sr_21, e_sr_21, hf⟩ := nm_of hf
  replace hP : va_P γ.1 vwCl (wR γ ar sr_21 ++ wR γ as srs) H := by rw [e_sr_21]; exact hP
  refine lv_aload_n hx hb dX3_become_205 rfl (lv_at hl 0 rfl) ?_
  refine lv_aload_n hx hb dX3_become_206 rfl (lv_at hl 1 rfl) ?_
  refine va_get (D := γ.1) (ci := 3) (v := .int (srs 0 17)) (C := RX3) (T := TX3) (N := 18) hx hb hU uin3 hown hK hP 13 rfl rfl 17 (by decide) (hU _ U156) (fun _ h9 => h9) rfl dX3_become_207 ?_
  refine lv_topi (fun u_22 e_u_22 => ?_)
  replace hf := nm_y hf e_u_22
  refine va_put (D := γ.1) (ci := 3) (v := .int u_22) (ty := .int) (C := RX3) (T := TX3) (N := 18) hx hb hU uin3 tyX3 tyX3_ok nmX3 hown hK hP (hD _ _) hS 0 rfl rfl 17 (by decide) (hU _ U156) (fun _ h9 => h9) rfl (by decide +kernel) rfl rfl (Nat.le_of_ble_eq_true rfl) dX3_become_210 (fun H locs hP _ hS => ?_)
  obtain ⟨sr_23, e_sr_23, hf⟩ := nm_of hf
  replace hP : va_P γ.1 vwCl (wR γ ar sr_23 ++ wR γ as srs) H := by rw [e_sr_23]; exact hP
  obtain rfl := Option.some.inj hf
  exact kt_vret C0 hP hS dX3_become_213
set_option maxHeartbeats 4000000 in
set_option maxRecDepth 100000 in
theorem c_X3_isPeak (l : Launch) (γ : Gm) (ar : Nat → Nat) {sr : GS} {x1 : Int32} {rv : Int32} (hf : f_X3_isPeak sr x1 = some rv) : Kt l γ yX3_isPeak (Cond.code yX3_isPeak cX3_isPeak 2 (some .boolean) :: U) 0 0 [.ref (ar 0), .int x1] (wR γ ar sr) (some (.int rv)) (wR γ ar sr) := by
  refine Kt.of (by decide) rfl (Nat.le_of_ble_eq_true rfl) rfl ?_
  intro p e s m below meth c A ls C0 hP hD0 hS hl
  obtain ⟨hx, hb, hml, hown, hts, hr, hlocks, hK, hE, hA⟩ := id C0
  have hU : ∀ w ∈ U, w.before _ s = true := fun w h => hts w (List.mem_cons_of_mem _ h)
  have hD : ∀ (sr : GS), va_D A (wR γ ar sr) := fun _ => hD0.fst rfl
  have hl : lv_has ls 2 [(0, .ref (ar 0)), (1, .int x1)] := hl
  unfold f_X3_isPeak at hf
  refine lv_iload_n hx hb dX3_isPeak_0 rfl (lv_at hl 1 rfl) ?_
  refine lv_if_lt (tgt := 16) hx hb dX3_isPeak_1 (by decide) (fun c_1 => ?_) (fun c_1 => ?_)
  · replace hf := ite_p c_1 hf
    refine lv_iconst (v := 0) hx hb dX3_isPeak_16 (by decide) ?_
    obtain rfl := Option.some.inj hf
    exact kt_zret C0 (by decide) hP hS dX3_isPeak_17
  · replace hf := ite_n c_1 hf
    refine lv_iload_n hx hb dX3_isPeak_4 rfl (lv_at hl 1 rfl) ?_
    refine lv_aload_n hx hb dX3_isPeak_5 rfl (lv_at hl 0 rfl) ?_
    refine va_get (D := γ.1) (ci := 3) (v := .int (sr 0 0)) (C := RX3) (T := TX3) (N := 18) hx hb hU uin3 hown hK hP 0 rfl rfl 0 (by decide) (hU _ U113) (fun _ h9 => h9) rfl dX3_isPeak_6 ?_
    refine lv_icmp_ge (tgt := 16) hx hb dX3_isPeak_9 (by decide) (fun c_2 => ?_) (fun c_2 => ?_)
    · replace hf := ite_p c_2 hf
      refine lv_iconst (v := 0) hx hb dX3_isPeak_16 (by decide) ?_
      obtain rfl := Option.some.inj hf
      exact kt_zret C0 (by decide) hP hS dX3_isPeak_17
    · replace hf := ite_n c_2 hf
      refine lv_iconst (v := 1) hx hb dX3_isPeak_12 (by decide) ?_
      refine lv_goto (tgt := 17) hx hb dX3_isPeak_13 (by decide) ?_
      obtain rfl := Option.some.inj hf
      exact kt_zret C0 (by decide) hP hS dX3_isPeak_17
set_option maxHeartbeats 4000000 in
set_option maxRecDepth 100000 in
theorem c_X6_bit (l : Launch) (γ : Gm) {x1 : Int32} {x2 : Int32} {rv : Int32} (hf : f_X6_bit x1 x2 = some rv) : Kt l γ yX6_bit (Cond.code yX6_bit cX6_bit 2 (some .int) :: U) 0 0 [.int x1, .int x2] ([]) (some (.int rv)) ([]) := by
  refine Kt.of (by decide) rfl (Nat.le_of_ble_eq_true rfl) rfl ?_
  intro p e s m below meth c A ls C0 hP hD0 hS hl
  obtain ⟨hx, hb, hml, hown, hts, hr, hlocks, hK, hE, hA⟩ := id C0
  have hU : ∀ w ∈ U, w.before _ s = true := fun w h => hts w (List.mem_cons_of_mem _ h)
  have hD := hD0
  have hl : lv_has ls 2 [(0, .int x1), (1, .int x2)] := hl
  unfold f_X6_bit at hf
  refine lv_iload_n hx hb dX6_bit_0 rfl (lv_at hl 0 rfl) ?_
  refine lv_iload_n hx hb dX6_bit_1 rfl (lv_at hl 1 rfl) ?_
  refine lv_ishr hx hb dX6_bit_2 ?_
  refine lv_iconst (v := 1) hx hb dX6_bit_3 (by decide) ?_
  refine lv_iand hx hb dX6_bit_4 ?_
  obtain rfl := Option.some.inj hf
  exact kt_iret C0 hP hS dX6_bit_5
set_option maxHeartbeats 4000000 in
set_option maxRecDepth 100000 in
theorem c_X3_isStanding (l : Launch) (γ : Gm) (ar : Nat → Nat) {sr : GS} {x1 : Int32} {rv : Int32} (hf : f_X3_isStanding sr x1 = some rv) : Kt l γ yX3_isStanding (Cond.code yX3_isStanding cX3_isStanding 2 (some .boolean) :: U) 1 21 [.ref (ar 0), .int x1] (wR γ ar sr) (some (.int rv)) (wR γ ar sr) := by
  refine Kt.of (by decide) rfl (Nat.le_of_ble_eq_true rfl) rfl ?_
  intro p e s m below meth c A ls C0 hP hD0 hS hl
  obtain ⟨hx, hb, hml, hown, hts, hr, hlocks, hK, hE, hA⟩ := id C0
  have hU : ∀ w ∈ U, w.before _ s = true := fun w h => hts w (List.mem_cons_of_mem _ h)
  have hD : ∀ (sr : GS), va_D A (wR γ ar sr) := fun _ => hD0.fst rfl
  have hl : lv_has ls 2 [(0, .ref (ar 0)), (1, .int x1)] := hl
  unfold f_X3_isStanding at hf
  refine lv_aload_n hx hb dX3_isStanding_0 rfl (lv_at hl 0 rfl) ?_
  refine lv_iload_n hx hb dX3_isStanding_1 rfl (lv_at hl 1 rfl) ?_
  obtain ⟨r_1, hg_2, hf⟩ := bd_of hf
  refine kt_V0 (As := [.int x1]) (rest := []) (st1 := [.int r_1]) (b := ar 0) C0 (c_X3_isPeak l γ ar hg_2) (cxV (nA := 1) hts goodU U439 U404 U405 U85 U406 (by decide +kernel) ⟨Nat.le_of_ble_eq_true rfl, Nat.le_of_ble_eq_true rfl⟩) hP (hD _) hS hl dX3_isStanding_2 0 3 rfl rfl rfl rfl (Nat.le_of_ble_eq_true rfl) rfl rfl (fun H locs hP hS => ?_)
  refine lv_if_eq (tgt := 24) hx hb dX3_isStanding_5 (by decide) (fun c_3 => ?_) (fun c_3 => ?_)
  · replace hf := ite_p c_3 hf
    refine lv_iconst (v := 0) hx hb dX3_isStanding_24 (by decide) ?_
    obtain rfl := Option.some.inj hf
    exact kt_zret C0 (by decide) hP hS dX3_isStanding_25
  · replace hf := ite_n c_3 hf
    refine lv_aload_n hx hb dX3_isStanding_8 rfl (lv_at hl 0 rfl) ?_
    refine va_get (D := γ.1) (ci := 3) (v := .int (sr 0 1)) (C := RX3) (T := TX3) (N := 18) hx hb hU uin3 hown hK hP 0 rfl rfl 1 (by decide) (hU _ U118) (fun _ h9 => h9) rfl dX3_isStanding_9 ?_
    refine lv_iload_n hx hb dX3_isStanding_12 rfl (lv_at hl 1 rfl) ?_
    obtain ⟨r_4, hg_5, hf⟩ := bd_of hf
    refine kt_SN (As := [.int (sr 0 1), .int x1]) (rest := []) (st1 := [.int r_4]) C0 (c_X6_bit l γ hg_5) (cxN (nA := 2) hts goodU hE NW40 U441 U84 U442 (by decide +kernel) ⟨Nat.le_of_ble_eq_true rfl, Nat.le_of_ble_eq_true rfl⟩) hP (hD _) hS hl dX3_isStanding_13 rfl (Nat.le_of_ble_eq_true rfl) rfl rfl (fun H locs hP hS => ?_)
    refine lv_iconst (v := 1) hx hb dX3_isStanding_16 (by decide) ?_
    refine lv_icmp_ne (tgt := 24) hx hb dX3_isStanding_17 (by decide) (fun c_6 => ?_) (fun c_6 => ?_)
    · replace hf := ite_n c_6 hf
      refine lv_iconst (v := 0) hx hb dX3_isStanding_24 (by decide) ?_
      obtain rfl := Option.some.inj hf
      exact kt_zret C0 (by decide) hP hS dX3_isStanding_25
    · replace hf := ite_p c_6 hf
      refine lv_iconst (v := 1) hx hb dX3_isStanding_20 (by decide) ?_
      refine lv_goto (tgt := 25) hx hb dX3_isStanding_21 (by decide) ?_
      obtain rfl := Option.some.inj hf
      exact kt_zret C0 (by decide) hP hS dX3_isStanding_25
set_option maxHeartbeats 4000000 in
set_option maxRecDepth 100000 in
theorem c_X3_isValley (l : Launch) (γ : Gm) (ar : Nat → Nat) {sr : GS} {x1 : Int32} {rv : Int32} (hf : f_X3_isValley sr x1 = some rv) : Kt l γ yX3_isValley (Cond.code yX3_isValley cX3_isValley 2 (some .boolean) :: U) 0 0 [.ref (ar 0), .int x1] (wR γ ar sr) (some (.int rv)) (wR γ ar sr) := by
  refine Kt.of (by decide) rfl (Nat.le_of_ble_eq_true rfl) rfl ?_
  intro p e s m below meth c A ls C0 hP hD0 hS hl
  obtain ⟨hx, hb, hml, hown, hts, hr, hlocks, hK, hE, hA⟩ := id C0
  have hU : ∀ w ∈ U, w.before _ s = true := fun w h => hts w (List.mem_cons_of_mem _ h)
  have hD : ∀ (sr : GS), va_D A (wR γ ar sr) := fun _ => hD0.fst rfl
  have hl : lv_has ls 2 [(0, .ref (ar 0)), (1, .int x1)] := hl
  unfold f_X3_isValley at hf
  refine lv_iload_n hx hb dX3_isValley_0 rfl (lv_at hl 1 rfl) ?_
  refine lv_if_lt (tgt := 16) hx hb dX3_isValley_1 (by decide) (fun c_1 => ?_) (fun c_1 => ?_)
  · replace hf := ite_p c_1 hf
    refine lv_iconst (v := 0) hx hb dX3_isValley_16 (by decide) ?_
    obtain rfl := Option.some.inj hf
    exact kt_zret C0 (by decide) hP hS dX3_isValley_17
  · replace hf := ite_n c_1 hf
    refine lv_iload_n hx hb dX3_isValley_4 rfl (lv_at hl 1 rfl) ?_
    refine lv_aload_n hx hb dX3_isValley_5 rfl (lv_at hl 0 rfl) ?_
    refine va_get (D := γ.1) (ci := 3) (v := .int (sr 0 13)) (C := RX3) (T := TX3) (N := 18) hx hb hU uin3 hown hK hP 0 rfl rfl 13 (by decide) (hU _ U143) (fun _ h9 => h9) rfl dX3_isValley_6 ?_
    refine lv_icmp_ge (tgt := 16) hx hb dX3_isValley_9 (by decide) (fun c_2 => ?_) (fun c_2 => ?_)
    · replace hf := ite_p c_2 hf
      refine lv_iconst (v := 0) hx hb dX3_isValley_16 (by decide) ?_
      obtain rfl := Option.some.inj hf
      exact kt_zret C0 (by decide) hP hS dX3_isValley_17
    · replace hf := ite_n c_2 hf
      refine lv_iconst (v := 1) hx hb dX3_isValley_12 (by decide) ?_
      refine lv_goto (tgt := 17) hx hb dX3_isValley_13 (by decide) ?_
      obtain rfl := Option.some.inj hf
      exact kt_zret C0 (by decide) hP hS dX3_isValley_17
set_option maxHeartbeats 4000000 in
set_option maxRecDepth 100000 in
theorem c_X3_hasPeakAt (l : Launch) (γ : Gm) (ar : Nat → Nat) {sr : GS} {x1 : Int32} {rv : Int32} (hf : f_X3_hasPeakAt sr x1 = some rv) : Kt l γ yX3_hasPeakAt (Cond.code yX3_hasPeakAt cX3_hasPeakAt 3 (some .boolean) :: U) 0 0 [.ref (ar 0), .int x1] (wR γ ar sr) (some (.int rv)) (wR γ ar sr) := by
  refine Kt.of (by decide) rfl (Nat.le_of_ble_eq_true rfl) rfl ?_
  intro p e s m below meth c A ls C0 hP hD0 hS hl
  obtain ⟨hx, hb, hml, hown, hts, hr, hlocks, hK, hE, hA⟩ := id C0
  have hU : ∀ w ∈ U, w.before _ s = true := fun w h => hts w (List.mem_cons_of_mem _ h)
  have hD : ∀ (sr : GS), va_D A (wR γ ar sr) := fun _ => hD0.fst rfl
  have hl : lv_has ls 3 [(0, .ref (ar 0)), (1, .int x1)] := hl
  have L2 : ∀ (x1_1 : Int32) (n : Nat) (x2_2 : Int32) (H : Heap) (locs : List Loc) (ls : Array Slot), f_X3_hasPeakAt_L2 sr x1_1 n x2_2 = some rv → va_P γ.1 vwCl (wR γ ar sr) H → va_S A s.heap H locs → lv_has ls 3 [(0, .ref (ar 0)), (1, .int x1_1), (2, .int x2_2)] → W p l e (rmK 0 0) s m ([.ref (ar 0), .int x1] : List Value).toArray below meth c H locs 0 0 (MQ below (KQ γ A (some (.int rv)) (wR γ ar sr)) ([.ref (ar 0), .int x1] : List Value).toArray s 0 0 A) (F0 m 2 ls []) := by
    intro x1_1
    intro n
    induction n with
    | zero =>
      intro x2_2 H locs ls hf
      have hf : none = some _ := hf
      cases hf
    | succ n ih =>
      intro x2_2 H locs ls hf hP hS hl
      rw [f_X3_hasPeakAt_L2.eq_2] at hf
      refine lv_iload_n hx hb dX3_hasPeakAt_2 rfl (lv_at hl 2 rfl) ?_
      refine lv_aload_n hx hb dX3_hasPeakAt_3 rfl (lv_at hl 0 rfl) ?_
      refine va_get (D := γ.1) (ci := 3) (v := .int (sr 0 0)) (C := RX3) (T := TX3) (N := 18) hx hb hU uin3 hown hK hP 0 rfl rfl 0 (by decide) (hU _ U113) (fun _ h9 => h9) rfl dX3_hasPeakAt_4 ?_
      refine lv_icmp_ge (tgt := 28) hx hb dX3_hasPeakAt_7 (by decide) (fun c_3 => ?_) (fun c_3 => ?_)
      · replace hf := ite_p c_3 hf
        refine lv_iconst (v := 0) hx hb dX3_hasPeakAt_28 (by decide) ?_
        obtain rfl := Option.some.inj hf
        exact kt_zret C0 (by decide) hP hS dX3_hasPeakAt_29
      · replace hf := ite_n c_3 hf
        refine lv_aload_n hx hb dX3_hasPeakAt_10 rfl (lv_at hl 0 rfl) ?_
        refine va_get (D := γ.1) (ci := 3) (v := .ref (ar 5)) (C := RX3) (T := TX3) (N := 18) hx hb hU uin3 hown hK hP 0 rfl rfl 4 (by decide) (hU _ U127) (fun _ h9 => h9) rfl dX3_hasPeakAt_11 ?_
        refine lv_iload_n hx hb dX3_hasPeakAt_14 rfl (lv_at hl 2 rfl) ?_
        obtain ⟨g_4, hf⟩ := gd_of hf
        refine va_iald hx hb hK hP 3 0 rfl rfl (inB_vp g_4) dX3_hasPeakAt_15 ?_
        refine lv_iload_n hx hb dX3_hasPeakAt_16 rfl (lv_at hl 1 rfl) ?_
        refine lv_icmp_ne (tgt := 22) hx hb dX3_hasPeakAt_17 (by decide) (fun c_5 => ?_) (fun c_5 => ?_)
        · replace hf := ite_n c_5 hf
          obtain ⟨x2_6, e_x2_6⟩ : ∃ y : Int32, y = x2_2 + (1 : Int32) := ⟨_, rfl⟩
          replace hf := nm_y hf e_x2_6
          refine lv_iinc (v := x2_6) (lv' := [(2, .int x2_6), (0, .ref (ar 0)), (1, .int x1_1)]) hx hb dX3_hasPeakAt_22 hl (k := 2) rfl (by rw [e_x2_6]; rfl) (by decide) rfl (fun ls hl => ?_)
          refine lv_goto (tgt := 2) hx hb dX3_hasPeakAt_25 (by decide) ?_
          exact ih x2_6 _ _ _ hf hP hS (lv_sub hl [1, 2, 0] rfl)
        · replace hf := ite_p c_5 hf
          refine lv_iconst (v := 1) hx hb dX3_hasPeakAt_20 (by decide) ?_
          obtain rfl := Option.some.inj hf
          exact kt_zret C0 (by decide) hP hS dX3_hasPeakAt_21
  unfold f_X3_hasPeakAt at hf
  refine lv_iconst (v := 0) hx hb dX3_hasPeakAt_0 (by decide) ?_
  refine lv_istore_n (lv' := [(2, .int (0 : Int32)), (0, .ref (ar 0)), (1, .int x1)]) hx hb dX3_hasPeakAt_1 rfl hl (by decide) rfl (fun ls hl => ?_)
  exact L2 x1 FU (0 : Int32) _ _ _ hf hP hS (lv_sub hl [1, 2, 0] rfl)
set_option maxHeartbeats 4000000 in
set_option maxRecDepth 100000 in
theorem c_X3_hasStandingPeakAt (l : Launch) (γ : Gm) (ar : Nat → Nat) {sr : GS} {x1 : Int32} {rv : Int32} (hf : f_X3_hasStandingPeakAt sr x1 = some rv) : Kt l γ yX3_hasStandingPeakAt (Cond.code yX3_hasStandingPeakAt cX3_hasStandingPeakAt 3 (some .boolean) :: U) 2 42 [.ref (ar 0), .int x1] (wR γ ar sr) (some (.int rv)) (wR γ ar sr) := by
  refine Kt.of (by decide) rfl (Nat.le_of_ble_eq_true rfl) rfl ?_
  intro p e s m below meth c A ls C0 hP hD0 hS hl
  obtain ⟨hx, hb, hml, hown, hts, hr, hlocks, hK, hE, hA⟩ := id C0
  have hU : ∀ w ∈ U, w.before _ s = true := fun w h => hts w (List.mem_cons_of_mem _ h)
  have hD : ∀ (sr : GS), va_D A (wR γ ar sr) := fun _ => hD0.fst rfl
  have hl : lv_has ls 3 [(0, .ref (ar 0)), (1, .int x1)] := hl
  have L2 : ∀ (x1_1 : Int32) (n : Nat) (x2_2 : Int32) (H : Heap) (locs : List Loc) (ls : Array Slot), f_X3_hasStandingPeakAt_L2 sr x1_1 n x2_2 = some rv → va_P γ.1 vwCl (wR γ ar sr) H → va_S A s.heap H locs → lv_has ls 3 [(0, .ref (ar 0)), (1, .int x1_1), (2, .int x2_2)] → W p l e (rmK 2 42) s m ([.ref (ar 0), .int x1] : List Value).toArray below meth c H locs 0 0 (MQ below (KQ γ A (some (.int rv)) (wR γ ar sr)) ([.ref (ar 0), .int x1] : List Value).toArray s 0 0 A) (F0 m 2 ls []) := by
    intro x1_1
    intro n
    induction n with
    | zero =>
      intro x2_2 H locs ls hf
      have hf : none = some _ := hf
      cases hf
    | succ n ih =>
      intro x2_2 H locs ls hf hP hS hl
      rw [f_X3_hasStandingPeakAt_L2.eq_2] at hf
      refine lv_iload_n hx hb dX3_hasStandingPeakAt_2 rfl (lv_at hl 2 rfl) ?_
      refine lv_aload_n hx hb dX3_hasStandingPeakAt_3 rfl (lv_at hl 0 rfl) ?_
      refine va_get (D := γ.1) (ci := 3) (v := .int (sr 0 0)) (C := RX3) (T := TX3) (N := 18) hx hb hU uin3 hown hK hP 0 rfl rfl 0 (by decide) (hU _ U113) (fun _ h9 => h9) rfl dX3_hasStandingPeakAt_4 ?_
      refine lv_icmp_ge (tgt := 36) hx hb dX3_hasStandingPeakAt_7 (by decide) (fun c_3 => ?_) (fun c_3 => ?_)
      · replace hf := ite_p c_3 hf
        refine lv_iconst (v := 0) hx hb dX3_hasStandingPeakAt_36 (by decide) ?_
        obtain rfl := Option.some.inj hf
        exact kt_zret C0 (by decide) hP hS dX3_hasStandingPeakAt_37
      · replace hf := ite_n c_3 hf
        refine lv_aload_n hx hb dX3_hasStandingPeakAt_10 rfl (lv_at hl 0 rfl) ?_
        refine va_get (D := γ.1) (ci := 3) (v := .ref (ar 5)) (C := RX3) (T := TX3) (N := 18) hx hb hU uin3 hown hK hP 0 rfl rfl 4 (by decide) (hU _ U127) (fun _ h9 => h9) rfl dX3_hasStandingPeakAt_11 ?_
        refine lv_iload_n hx hb dX3_hasStandingPeakAt_14 rfl (lv_at hl 2 rfl) ?_
        obtain ⟨g_4, hf⟩ := gd_of hf
        refine va_iald hx hb hK hP 3 0 rfl rfl (inB_vp g_4) dX3_hasStandingPeakAt_15 ?_
        refine lv_iload_n hx hb dX3_hasStandingPeakAt_16 rfl (lv_at hl 1 rfl) ?_
        refine lv_icmp_ne (tgt := 30) hx hb dX3_hasStandingPeakAt_17 (by decide) (fun c_5 => ?_) (fun c_5 => ?_)
        · replace hf := ite_n c_5 hf
          obtain ⟨x2_6, e_x2_6⟩ : ∃ y : Int32, y = x2_2 + (1 : Int32) := ⟨_, rfl⟩
          replace hf := nm_y hf e_x2_6
          refine lv_iinc (v := x2_6) (lv' := [(2, .int x2_6), (0, .ref (ar 0)), (1, .int x1_1)]) hx hb dX3_hasStandingPeakAt_30 hl (k := 2) rfl (by rw [e_x2_6]; rfl) (by decide) rfl (fun ls hl => ?_)
          refine lv_goto (tgt := 2) hx hb dX3_hasStandingPeakAt_33 (by decide) ?_
          exact ih x2_6 _ _ _ hf hP hS (lv_sub hl [1, 2, 0] rfl)
        · replace hf := ite_p c_5 hf
          refine lv_aload_n hx hb dX3_hasStandingPeakAt_20 rfl (lv_at hl 0 rfl) ?_
          refine lv_iload_n hx hb dX3_hasStandingPeakAt_21 rfl (lv_at hl 2 rfl) ?_
          obtain ⟨r_7, hg_8, hf⟩ := bd_of hf
          refine kt_V0 (As := [.int x2_2]) (rest := []) (st1 := [.int r_7]) (b := ar 0) C0 (c_X3_isStanding l γ ar hg_8) (cxV (nA := 1) hts goodU U435 U436 U437 U85 U438 (by decide +kernel) ⟨Nat.le_of_ble_eq_true rfl, Nat.le_of_ble_eq_true rfl⟩) hP (hD _) hS hl dX3_hasStandingPeakAt_22 0 3 rfl rfl rfl rfl (Nat.le_of_ble_eq_true rfl) rfl rfl (fun H locs hP hS => ?_)
          refine lv_if_eq (tgt := 30) hx hb dX3_hasStandingPeakAt_25 (by decide) (fun c_9 => ?_) (fun c_9 => ?_)
          · replace hf := ite_p c_9 hf
            obtain ⟨x2_10, e_x2_10⟩ : ∃ y : Int32, y = x2_2 + (1 : Int32) := ⟨_, rfl⟩
            replace hf := nm_y hf e_x2_10
            refine lv_iinc (v := x2_10) (lv' := [(2, .int x2_10), (0, .ref (ar 0)), (1, .int x1_1)]) hx hb dX3_hasStandingPeakAt_30 hl (k := 2) rfl (by rw [e_x2_10]; rfl) (by decide) rfl (fun ls hl => ?_)
            refine lv_goto (tgt := 2) hx hb dX3_hasStandingPeakAt_33 (by decide) ?_
            exact ih x2_10 _ _ _ hf hP hS (lv_sub hl [1, 2, 0] rfl)
          · replace hf := ite_n c_9 hf
            refine lv_iconst (v := 1) hx hb dX3_hasStandingPeakAt_28 (by decide) ?_
            obtain rfl := Option.some.inj hf
            exact kt_zret C0 (by decide) hP hS dX3_hasStandingPeakAt_29
  unfold f_X3_hasStandingPeakAt at hf
  refine lv_iconst (v := 0) hx hb dX3_hasStandingPeakAt_0 (by decide) ?_
  refine lv_istore_n (lv' := [(2, .int (0 : Int32)), (0, .ref (ar 0)), (1, .int x1)]) hx hb dX3_hasStandingPeakAt_1 rfl hl (by decide) rfl (fun ls hl => ?_)
  exact L2 x1 FU (0 : Int32) _ _ _ hf hP hS (lv_sub hl [1, 2, 0] rfl)
set_option maxHeartbeats 4000000 in
set_option maxRecDepth 100000 in
theorem c_X3_lineOver (l : Launch) (γ : Gm) (ar : Nat → Nat) {sr : GS} {x1 : Int32} {x2 : Int32} {x3 : Int32} {rv : Int32} (hf : f_X3_lineOver sr x1 x2 x3 = some rv) : Kt l γ yX3_lineOver (Cond.code yX3_lineOver cX3_lineOver 4 (some .int) :: U) 0 0 [.ref (ar 0), .int x1, .int x2, .int x3] (wR γ ar sr) (some (.int rv)) (wR γ ar sr) := by
  refine Kt.of (by decide) rfl (Nat.le_of_ble_eq_true rfl) rfl ?_
  intro p e s m below meth c A ls C0 hP hD0 hS hl
  obtain ⟨hx, hb, hml, hown, hts, hr, hlocks, hK, hE, hA⟩ := id C0
  have hU : ∀ w ∈ U, w.before _ s = true := fun w h => hts w (List.mem_cons_of_mem _ h)
  have hD : ∀ (sr : GS), va_D A (wR γ ar sr) := fun _ => hD0.fst rfl
  have hl : lv_has ls 4 [(0, .ref (ar 0)), (1, .int x1), (2, .int x2), (3, .int x3)] := hl
  unfold f_X3_lineOver at hf
  refine lv_aload_n hx hb dX3_lineOver_0 rfl (lv_at hl 0 rfl) ?_
  refine va_get (D := γ.1) (ci := 3) (v := .ref (ar 6)) (C := RX3) (T := TX3) (N := 18) hx hb hU uin3 hown hK hP 0 rfl rfl 5 (by decide) (hU _ U129) (fun _ h9 => h9) rfl dX3_lineOver_1 ?_
  refine lv_iload_n hx hb dX3_lineOver_4 rfl (lv_at hl 1 rfl) ?_
  obtain ⟨g_1, hf⟩ := gd_of hf
  refine va_iald hx hb hK hP 4 0 rfl rfl (inB_vp g_1) dX3_lineOver_5 ?_
  refine lv_aload_n hx hb dX3_lineOver_6 rfl (lv_at hl 0 rfl) ?_
  refine va_get (D := γ.1) (ci := 3) (v := .ref (ar 5)) (C := RX3) (T := TX3) (N := 18) hx hb hU uin3 hown hK hP 0 rfl rfl 4 (by decide) (hU _ U127) (fun _ h9 => h9) rfl dX3_lineOver_7 ?_
  refine lv_iload_n hx hb dX3_lineOver_10 rfl (lv_at hl 2 rfl) ?_
  obtain ⟨g_2, hf⟩ := gd_of hf
  refine va_iald hx hb hK hP 3 0 rfl rfl (inB_vp g_2) dX3_lineOver_11 ?_
  refine lv_iload_n hx hb dX3_lineOver_12 rfl (lv_at hl 3 rfl) ?_
  refine lv_isub hx hb dX3_lineOver_13 ?_
  refine lv_imul hx hb dX3_lineOver_14 ?_
  refine lv_aload_n hx hb dX3_lineOver_15 rfl (lv_at hl 0 rfl) ?_
  refine va_get (D := γ.1) (ci := 3) (v := .ref (ar 6)) (C := RX3) (T := TX3) (N := 18) hx hb hU uin3 hown hK hP 0 rfl rfl 5 (by decide) (hU _ U129) (fun _ h9 => h9) rfl dX3_lineOver_16 ?_
  refine lv_iload_n hx hb dX3_lineOver_19 rfl (lv_at hl 2 rfl) ?_
  obtain ⟨g_3, hf⟩ := gd_of hf
  refine va_iald hx hb hK hP 4 0 rfl rfl (inB_vp g_3) dX3_lineOver_20 ?_
  refine lv_iload_n hx hb dX3_lineOver_21 rfl (lv_at hl 3 rfl) ?_
  refine lv_aload_n hx hb dX3_lineOver_22 rfl (lv_at hl 0 rfl) ?_
  refine va_get (D := γ.1) (ci := 3) (v := .ref (ar 5)) (C := RX3) (T := TX3) (N := 18) hx hb hU uin3 hown hK hP 0 rfl rfl 4 (by decide) (hU _ U127) (fun _ h9 => h9) rfl dX3_lineOver_23 ?_
  refine lv_iload_n hx hb dX3_lineOver_26 rfl (lv_at hl 1 rfl) ?_
  obtain ⟨g_4, hf⟩ := gd_of hf
  refine va_iald hx hb hK hP 3 0 rfl rfl (inB_vp g_4) dX3_lineOver_27 ?_
  refine lv_isub hx hb dX3_lineOver_28 ?_
  refine lv_imul hx hb dX3_lineOver_29 ?_
  refine lv_iadd hx hb dX3_lineOver_30 ?_
  obtain rfl := Option.some.inj hf
  exact kt_iret C0 hP hS dX3_lineOver_31
set_option maxHeartbeats 4000000 in
set_option maxRecDepth 100000 in
theorem c_X3_blocks (l : Launch) (γ : Gm) (ar : Nat → Nat) {sr : GS} {x1 : Int32} {x2 : Int32} {x3 : Int32} {x4 : Int32} {rv : Int32} (hf : f_X3_blocks sr x1 x2 x3 x4 = some rv) : Kt l γ yX3_blocks (Cond.code yX3_blocks cX3_blocks 5 (some .boolean) :: U) 1 23 [.ref (ar 0), .int x1, .int x2, .int x3, .int x4] (wR γ ar sr) (some (.int rv)) (wR γ ar sr) := by
  refine Kt.of (by decide) rfl (Nat.le_of_ble_eq_true rfl) rfl ?_
  intro p e s m below meth c A ls C0 hP hD0 hS hl
  obtain ⟨hx, hb, hml, hown, hts, hr, hlocks, hK, hE, hA⟩ := id C0
  have hU : ∀ w ∈ U, w.before _ s = true := fun w h => hts w (List.mem_cons_of_mem _ h)
  have hD : ∀ (sr : GS), va_D A (wR γ ar sr) := fun _ => hD0.fst rfl
  have hl : lv_has ls 5 [(0, .ref (ar 0)), (1, .int x1), (2, .int x2), (3, .int x3), (4, .int x4)] := hl
  unfold f_X3_blocks at hf
  refine lv_iload_n hx hb dX3_blocks_0 rfl (lv_at hl 3 rfl) ?_
  refine lv_aload_n hx hb dX3_blocks_1 rfl (lv_at hl 0 rfl) ?_
  refine va_get (D := γ.1) (ci := 3) (v := .ref (ar 5)) (C := RX3) (T := TX3) (N := 18) hx hb hU uin3 hown hK hP 0 rfl rfl 4 (by decide) (hU _ U127) (fun _ h9 => h9) rfl dX3_blocks_2 ?_
  refine lv_iload_n hx hb dX3_blocks_5 rfl (lv_at hl 1 rfl) ?_
  obtain ⟨g_1, hf⟩ := gd_of hf
  refine va_iald hx hb hK hP 3 0 rfl rfl (inB_vp g_1) dX3_blocks_6 ?_
  refine lv_icmp_le (tgt := 50) hx hb dX3_blocks_7 (by decide) (fun c_2 => ?_) (fun c_2 => ?_)
  · replace hf := ite_p c_2 hf
    refine lv_iconst (v := 0) hx hb dX3_blocks_50 (by decide) ?_
    obtain rfl := Option.some.inj hf
    exact kt_zret C0 (by decide) hP hS dX3_blocks_51
  · replace hf := ite_n c_2 hf
    refine lv_iload_n hx hb dX3_blocks_10 rfl (lv_at hl 3 rfl) ?_
    refine lv_aload_n hx hb dX3_blocks_11 rfl (lv_at hl 0 rfl) ?_
    refine va_get (D := γ.1) (ci := 3) (v := .ref (ar 5)) (C := RX3) (T := TX3) (N := 18) hx hb hU uin3 hown hK hP 0 rfl rfl 4 (by decide) (hU _ U127) (fun _ h9 => h9) rfl dX3_blocks_12 ?_
    refine lv_iload_n hx hb dX3_blocks_15 rfl (lv_at hl 2 rfl) ?_
    obtain ⟨g_3, hf⟩ := gd_of hf
    refine va_iald hx hb hK hP 3 0 rfl rfl (inB_vp g_3) dX3_blocks_16 ?_
    refine lv_icmp_ge (tgt := 50) hx hb dX3_blocks_17 (by decide) (fun c_4 => ?_) (fun c_4 => ?_)
    · replace hf := ite_p c_4 hf
      refine lv_iconst (v := 0) hx hb dX3_blocks_50 (by decide) ?_
      obtain rfl := Option.some.inj hf
      exact kt_zret C0 (by decide) hP hS dX3_blocks_51
    · replace hf := ite_n c_4 hf
      refine lv_iload hx hb dX3_blocks_20 (lv_at hl 4 rfl) ?_
      refine lv_aload_n hx hb dX3_blocks_22 rfl (lv_at hl 0 rfl) ?_
      refine va_get (D := γ.1) (ci := 3) (v := .ref (ar 5)) (C := RX3) (T := TX3) (N := 18) hx hb hU uin3 hown hK hP 0 rfl rfl 4 (by decide) (hU _ U127) (fun _ h9 => h9) rfl dX3_blocks_23 ?_
      refine lv_iload_n hx hb dX3_blocks_26 rfl (lv_at hl 2 rfl) ?_
      obtain ⟨g_5, hf⟩ := gd_of hf
      refine va_iald hx hb hK hP 3 0 rfl rfl (inB_vp g_5) dX3_blocks_27 ?_
      refine lv_aload_n hx hb dX3_blocks_28 rfl (lv_at hl 0 rfl) ?_
      refine va_get (D := γ.1) (ci := 3) (v := .ref (ar 5)) (C := RX3) (T := TX3) (N := 18) hx hb hU uin3 hown hK hP 0 rfl rfl 4 (by decide) (hU _ U127) (fun _ h9 => h9) rfl dX3_blocks_29 ?_
      refine lv_iload_n hx hb dX3_blocks_32 rfl (lv_at hl 1 rfl) ?_
      obtain ⟨g_6, hf⟩ := gd_of hf
      refine va_iald hx hb hK hP 3 0 rfl rfl (inB_vp g_6) dX3_blocks_33 ?_
      refine lv_isub hx hb dX3_blocks_34 ?_
      refine lv_imul hx hb dX3_blocks_35 ?_
      refine lv_aload_n hx hb dX3_blocks_36 rfl (lv_at hl 0 rfl) ?_
      refine lv_iload_n hx hb dX3_blocks_37 rfl (lv_at hl 1 rfl) ?_
      refine lv_iload_n hx hb dX3_blocks_38 rfl (lv_at hl 2 rfl) ?_
      refine lv_iload_n hx hb dX3_blocks_39 rfl (lv_at hl 3 rfl) ?_
      obtain ⟨r_7, hg_8, hf⟩ := bd_of hf
      refine kt_V0 (As := [.int x1, .int x2, .int x3]) (rest := [.int (x4 * ((sr 5 x2.toNatClampNeg) - (sr 5 x1.toNatClampNeg)))]) (st1 := [.int r_7, .int (x4 * ((sr 5 x2.toNatClampNeg) - (sr 5 x1.toNatClampNeg)))]) (b := ar 0) C0 (c_X3_lineOver l γ ar hg_8) (cxV (nA := 3) hts goodU U493 U495 U10 U85 U496 (by decide +kernel) ⟨Nat.le_of_ble_eq_true rfl, Nat.le_of_ble_eq_true rfl⟩) hP (hD _) hS hl dX3_blocks_40 0 3 rfl rfl rfl rfl (Nat.le_of_ble_eq_true rfl) rfl rfl (fun H locs hP hS => ?_)
      refine lv_icmp_lt (tgt := 50) hx hb dX3_blocks_43 (by decide) (fun c_9 => ?_) (fun c_9 => ?_)
      · replace hf := ite_p c_9 hf
        refine lv_iconst (v := 0) hx hb dX3_blocks_50 (by decide) ?_
        obtain rfl := Option.some.inj hf
        exact kt_zret C0 (by decide) hP hS dX3_blocks_51
      · replace hf := ite_n c_9 hf
        refine lv_iconst (v := 1) hx hb dX3_blocks_46 (by decide) ?_
        refine lv_goto (tgt := 51) hx hb dX3_blocks_47 (by decide) ?_
        obtain rfl := Option.some.inj hf
        exact kt_zret C0 (by decide) hP hS dX3_blocks_51
set_option maxHeartbeats 4000000 in
set_option maxRecDepth 100000 in
theorem c_X3_isFreeBetween (l : Launch) (γ : Gm) (ar : Nat → Nat) {sr : GS} {x1 : Int32} {x2 : Int32} {rv : Int32} (hf : f_X3_isFreeBetween sr x1 x2 = some rv) : Kt l γ yX3_isFreeBetween (Cond.code yX3_isFreeBetween cX3_isFreeBetween 4 (some .boolean) :: U) 2 47 [.ref (ar 0), .int x1, .int x2] (wR γ ar sr) (some (.int rv)) (wR γ ar sr) := by
  refine Kt.of (by decide) rfl (Nat.le_of_ble_eq_true rfl) rfl ?_
  intro p e s m below meth c A ls C0 hP hD0 hS hl
  obtain ⟨hx, hb, hml, hown, hts, hr, hlocks, hK, hE, hA⟩ := id C0
  have hU : ∀ w ∈ U, w.before _ s = true := fun w h => hts w (List.mem_cons_of_mem _ h)
  have hD : ∀ (sr : GS), va_D A (wR γ ar sr) := fun _ => hD0.fst rfl
  have hl : lv_has ls 4 [(0, .ref (ar 0)), (1, .int x1), (2, .int x2)] := hl
  have L2 : ∀ (x1_1 : Int32) (x2_2 : Int32) (K47 : Option (Int32)) (HK47 : ∀  (H : Heap) (locs : List Loc) (ls : Array Slot), K47 = some rv → va_P γ.1 vwCl (wR γ ar sr) H → va_S A s.heap H locs → lv_has ls 4 [(0, .ref (ar 0)), (1, .int x1_1), (2, .int x2_2)] → W p l e (rmK 2 47) s m ([.ref (ar 0), .int x1, .int x2] : List Value).toArray below meth c H locs 0 0 (MQ below (KQ γ A (some (.int rv)) (wR γ ar sr)) ([.ref (ar 0), .int x1, .int x2] : List Value).toArray s 0 0 A) (F0 m 47 ls [])) (n : Nat) (x3_3 : Int32) (H : Heap) (locs : List Loc) (ls : Array Slot), f_X3_isFreeBetween_L2 sr x1_1 x2_2 K47 n x3_3 = some rv → va_P γ.1 vwCl (wR γ ar sr) H → va_S A s.heap H locs → lv_has ls 4 [(0, .ref (ar 0)), (1, .int x1_1), (2, .int x2_2), (3, .int x3_3)] → W p l e (rmK 2 47) s m ([.ref (ar 0), .int x1, .int x2] : List Value).toArray below meth c H locs 0 0 (MQ below (KQ γ A (some (.int rv)) (wR γ ar sr)) ([.ref (ar 0), .int x1, .int x2] : List Value).toArray s 0 0 A) (F0 m 2 ls []) := by
    intro x1_1 x2_2 K47 HK47
    intro n
    induction n with
    | zero =>
      intro x3_3 H locs ls hf
      have hf : none = some _ := hf
      cases hf
    | succ n ih =>
      intro x3_3 H locs ls hf hP hS hl
      rw [f_X3_isFreeBetween_L2.eq_2] at hf
      refine lv_iload_n hx hb dX3_isFreeBetween_2 rfl (lv_at hl 3 rfl) ?_
      refine lv_aload_n hx hb dX3_isFreeBetween_3 rfl (lv_at hl 0 rfl) ?_
      refine va_get (D := γ.1) (ci := 3) (v := .int (sr 0 0)) (C := RX3) (T := TX3) (N := 18) hx hb hU uin3 hown hK hP 0 rfl rfl 0 (by decide) (hU _ U113) (fun _ h9 => h9) rfl dX3_isFreeBetween_4 ?_
      refine lv_icmp_ge (tgt := 47) hx hb dX3_isFreeBetween_7 (by decide) (fun c_4 => ?_) (fun c_4 => ?_)
      · replace hf := ite_p c_4 hf
        exact HK47 _ _ _ hf hP hS (lv_sub hl [0, 1, 2] rfl)
      · replace hf := ite_n c_4 hf
        refine lv_aload_n hx hb dX3_isFreeBetween_10 rfl (lv_at hl 0 rfl) ?_
        refine lv_iload_n hx hb dX3_isFreeBetween_11 rfl (lv_at hl 3 rfl) ?_
        obtain ⟨r_5, hg_6, hf⟩ := bd_of hf
        refine kt_V0 (As := [.int x3_3]) (rest := []) (st1 := [.int r_5]) (b := ar 0) C0 (c_X3_isStanding l γ ar hg_6) (cxV (nA := 1) hts goodU U435 U436 U437 U85 U438 (by decide +kernel) ⟨Nat.le_of_ble_eq_true rfl, Nat.le_of_ble_eq_true rfl⟩) hP (hD _) hS hl dX3_isFreeBetween_12 0 3 rfl rfl rfl rfl (Nat.le_of_ble_eq_true rfl) rfl rfl (fun H locs hP hS => ?_)
        refine lv_if_eq (tgt := 41) hx hb dX3_isFreeBetween_15 (by decide) (fun c_7 => ?_) (fun c_7 => ?_)
        · replace hf := ite_p c_7 hf
          obtain ⟨x3_8, e_x3_8⟩ : ∃ y : Int32, y = x3_3 + (1 : Int32) := ⟨_, rfl⟩
          replace hf := nm_y hf e_x3_8
          refine lv_iinc (v := x3_8) (lv' := [(3, .int x3_8), (0, .ref (ar 0)), (1, .int x1_1), (2, .int x2_2)]) hx hb dX3_isFreeBetween_41 hl (k := 3) rfl (by rw [e_x3_8]; rfl) (by decide) rfl (fun ls hl => ?_)
          refine lv_goto (tgt := 2) hx hb dX3_isFreeBetween_44 (by decide) ?_
          exact ih x3_8 _ _ _ hf hP hS (lv_sub hl [1, 2, 3, 0] rfl)
        · replace hf := ite_n c_7 hf
          refine lv_aload_n hx hb dX3_isFreeBetween_18 rfl (lv_at hl 0 rfl) ?_
          refine lv_iload_n hx hb dX3_isFreeBetween_19 rfl (lv_at hl 1 rfl) ?_
          refine lv_iload_n hx hb dX3_isFreeBetween_20 rfl (lv_at hl 2 rfl) ?_
          refine lv_aload_n hx hb dX3_isFreeBetween_21 rfl (lv_at hl 0 rfl) ?_
          refine va_get (D := γ.1) (ci := 3) (v := .ref (ar 5)) (C := RX3) (T := TX3) (N := 18) hx hb hU uin3 hown hK hP 0 rfl rfl 4 (by decide) (hU _ U127) (fun _ h9 => h9) rfl dX3_isFreeBetween_22 ?_
          refine lv_iload_n hx hb dX3_isFreeBetween_25 rfl (lv_at hl 3 rfl) ?_
          obtain ⟨g_9, hf⟩ := gd_of hf
          refine va_iald hx hb hK hP 3 0 rfl rfl (inB_vp g_9) dX3_isFreeBetween_26 ?_
          refine lv_aload_n hx hb dX3_isFreeBetween_27 rfl (lv_at hl 0 rfl) ?_
          refine va_get (D := γ.1) (ci := 3) (v := .ref (ar 6)) (C := RX3) (T := TX3) (N := 18) hx hb hU uin3 hown hK hP 0 rfl rfl 5 (by decide) (hU _ U129) (fun _ h9 => h9) rfl dX3_isFreeBetween_28 ?_
          refine lv_iload_n hx hb dX3_isFreeBetween_31 rfl (lv_at hl 3 rfl) ?_
          obtain ⟨g_10, hf⟩ := gd_of hf
          refine va_iald hx hb hK hP 4 0 rfl rfl (inB_vp g_10) dX3_isFreeBetween_32 ?_
          obtain ⟨r_11, hg_12, hf⟩ := bd_of hf
          refine kt_V0 (As := [.int x1_1, .int x2_2, .int (sr 5 x3_3.toNatClampNeg), .int (sr 6 x3_3.toNatClampNeg)]) (rest := []) (st1 := [.int r_11]) (b := ar 0) C0 (c_X3_blocks l γ ar hg_12) (cxV (nA := 4) hts goodU U489 U491 U9 U85 U492 (by decide +kernel) ⟨Nat.le_of_ble_eq_true rfl, Nat.le_of_ble_eq_true rfl⟩) hP (hD _) hS hl dX3_isFreeBetween_33 0 3 rfl rfl rfl rfl (Nat.le_of_ble_eq_true rfl) rfl rfl (fun H locs hP hS => ?_)
          refine lv_if_eq (tgt := 41) hx hb dX3_isFreeBetween_36 (by decide) (fun c_13 => ?_) (fun c_13 => ?_)
          · replace hf := ite_p c_13 hf
            obtain ⟨x3_14, e_x3_14⟩ : ∃ y : Int32, y = x3_3 + (1 : Int32) := ⟨_, rfl⟩
            replace hf := nm_y hf e_x3_14
            refine lv_iinc (v := x3_14) (lv' := [(3, .int x3_14), (0, .ref (ar 0)), (1, .int x1_1), (2, .int x2_2)]) hx hb dX3_isFreeBetween_41 hl (k := 3) rfl (by rw [e_x3_14]; rfl) (by decide) rfl (fun ls hl => ?_)
            refine lv_goto (tgt := 2) hx hb dX3_isFreeBetween_44 (by decide) ?_
            exact ih x3_14 _ _ _ hf hP hS (lv_sub hl [1, 2, 3, 0] rfl)
          · replace hf := ite_n c_13 hf
            refine lv_iconst (v := 0) hx hb dX3_isFreeBetween_39 (by decide) ?_
            obtain rfl := Option.some.inj hf
            exact kt_zret C0 (by decide) hP hS dX3_isFreeBetween_40
  have L49 : ∀ (x1_15 : Int32) (x2_16 : Int32) (n : Nat) (x3_17 : Int32) (H : Heap) (locs : List Loc) (ls : Array Slot), f_X3_isFreeBetween_L49 sr x1_15 x2_16 n x3_17 = some rv → va_P γ.1 vwCl (wR γ ar sr) H → va_S A s.heap H locs → lv_has ls 4 [(0, .ref (ar 0)), (1, .int x1_15), (2, .int x2_16), (3, .int x3_17)] → W p l e (rmK 2 47) s m ([.ref (ar 0), .int x1, .int x2] : List Value).toArray below meth c H locs 0 0 (MQ below (KQ γ A (some (.int rv)) (wR γ ar sr)) ([.ref (ar 0), .int x1, .int x2] : List Value).toArray s 0 0 A) (F0 m 49 ls []) := by
    intro x1_15 x2_16
    intro n
    induction n with
    | zero =>
      intro x3_17 H locs ls hf
      have hf : none = some _ := hf
      cases hf
    | succ n ih =>
      intro x3_17 H locs ls hf hP hS hl
      rw [f_X3_isFreeBetween_L49.eq_2] at hf
      refine lv_iload_n hx hb dX3_isFreeBetween_49 rfl (lv_at hl 3 rfl) ?_
      refine lv_aload_n hx hb dX3_isFreeBetween_50 rfl (lv_at hl 0 rfl) ?_
      refine va_get (D := γ.1) (ci := 3) (v := .int (sr 0 10)) (C := RX3) (T := TX3) (N := 18) hx hb hU uin3 hown hK hP 0 rfl rfl 10 (by decide) (hU _ U138) (fun _ h9 => h9) rfl dX3_isFreeBetween_51 ?_
      refine lv_icmp_ge (tgt := 86) hx hb dX3_isFreeBetween_54 (by decide) (fun c_18 => ?_) (fun c_18 => ?_)
      · replace hf := ite_p c_18 hf
        refine lv_iconst (v := 1) hx hb dX3_isFreeBetween_86 (by decide) ?_
        obtain rfl := Option.some.inj hf
        exact kt_zret C0 (by decide) hP hS dX3_isFreeBetween_87
      · replace hf := ite_n c_18 hf
        refine lv_aload_n hx hb dX3_isFreeBetween_57 rfl (lv_at hl 0 rfl) ?_
        refine lv_iload_n hx hb dX3_isFreeBetween_58 rfl (lv_at hl 1 rfl) ?_
        refine lv_iload_n hx hb dX3_isFreeBetween_59 rfl (lv_at hl 2 rfl) ?_
        refine lv_aload_n hx hb dX3_isFreeBetween_60 rfl (lv_at hl 0 rfl) ?_
        refine va_get (D := γ.1) (ci := 3) (v := .ref (ar 12)) (C := RX3) (T := TX3) (N := 18) hx hb hU uin3 hown hK hP 0 rfl rfl 11 (by decide) (hU _ U141) (fun _ h9 => h9) rfl dX3_isFreeBetween_61 ?_
        refine lv_iload_n hx hb dX3_isFreeBetween_64 rfl (lv_at hl 3 rfl) ?_
        obtain ⟨g_19, hf⟩ := gd_of hf
        refine va_iald hx hb hK hP 9 0 rfl rfl (inB_vp g_19) dX3_isFreeBetween_65 ?_
        refine lv_aload_n hx hb dX3_isFreeBetween_66 rfl (lv_at hl 0 rfl) ?_
        refine va_get (D := γ.1) (ci := 3) (v := .ref (ar 13)) (C := RX3) (T := TX3) (N := 18) hx hb hU uin3 hown hK hP 0 rfl rfl 12 (by decide) (hU _ U142) (fun _ h9 => h9) rfl dX3_isFreeBetween_67 ?_
        refine lv_iload_n hx hb dX3_isFreeBetween_70 rfl (lv_at hl 3 rfl) ?_
        obtain ⟨g_20, hf⟩ := gd_of hf
        refine va_iald hx hb hK hP 10 0 rfl rfl (inB_vp g_20) dX3_isFreeBetween_71 ?_
        obtain ⟨r_21, hg_22, hf⟩ := bd_of hf
        refine kt_V0 (As := [.int x1_15, .int x2_16, .int (sr 12 x3_17.toNatClampNeg), .int (sr 13 x3_17.toNatClampNeg)]) (rest := []) (st1 := [.int r_21]) (b := ar 0) C0 (c_X3_blocks l γ ar hg_22) (cxV (nA := 4) hts goodU U489 U491 U9 U85 U492 (by decide +kernel) ⟨Nat.le_of_ble_eq_true rfl, Nat.le_of_ble_eq_true rfl⟩) hP (hD _) hS hl dX3_isFreeBetween_72 0 3 rfl rfl rfl rfl (Nat.le_of_ble_eq_true rfl) rfl rfl (fun H locs hP hS => ?_)
        refine lv_if_eq (tgt := 80) hx hb dX3_isFreeBetween_75 (by decide) (fun c_23 => ?_) (fun c_23 => ?_)
        · replace hf := ite_p c_23 hf
          obtain ⟨x3_24, e_x3_24⟩ : ∃ y : Int32, y = x3_17 + (1 : Int32) := ⟨_, rfl⟩
          replace hf := nm_y hf e_x3_24
          refine lv_iinc (v := x3_24) (lv' := [(3, .int x3_24), (0, .ref (ar 0)), (1, .int x1_15), (2, .int x2_16)]) hx hb dX3_isFreeBetween_80 hl (k := 3) rfl (by rw [e_x3_24]; rfl) (by decide) rfl (fun ls hl => ?_)
          refine lv_goto (tgt := 49) hx hb dX3_isFreeBetween_83 (by decide) ?_
          exact ih x3_24 _ _ _ hf hP hS (lv_sub hl [1, 2, 3, 0] rfl)
        · replace hf := ite_n c_23 hf
          refine lv_iconst (v := 0) hx hb dX3_isFreeBetween_78 (by decide) ?_
          obtain rfl := Option.some.inj hf
          exact kt_zret C0 (by decide) hP hS dX3_isFreeBetween_79
  unfold f_X3_isFreeBetween at hf
  refine lv_iconst (v := 0) hx hb dX3_isFreeBetween_0 (by decide) ?_
  refine lv_istore_n (lv' := [(3, .int (0 : Int32)), (0, .ref (ar 0)), (1, .int x1), (2, .int x2)]) hx hb dX3_isFreeBetween_1 rfl hl (by decide) rfl (fun ls hl => ?_)
  refine L2 x1 x2 _ (fun  H locs ls hf hP hS hl => ?_) FU (0 : Int32) _ _ _ hf hP hS (lv_sub hl [1, 2, 3, 0] rfl)
  refine lv_iconst (v := 0) hx hb dX3_isFreeBetween_47 (by decide) ?_
  refine lv_istore_n (lv' := [(3, .int (0 : Int32)), (0, .ref (ar 0)), (1, .int x1), (2, .int x2)]) hx hb dX3_isFreeBetween_48 rfl hl (by decide) rfl (fun ls hl => ?_)
  exact L49 x1 x2 FU (0 : Int32) _ _ _ hf hP hS (lv_sub hl [1, 2, 3, 0] rfl)
set_option maxHeartbeats 4000000 in
set_option maxRecDepth 100000 in
theorem c_X6_isKind (l : Launch) (γ : Gm) {x1 : Int32} {rv : Int32} (hf : f_X6_isKind x1 = some rv) : Kt l γ yX6_isKind (Cond.code yX6_isKind cX6_isKind 1 (some .boolean) :: U) 0 0 [.int x1] ([]) (some (.int rv)) ([]) := by
  refine Kt.of (by decide) rfl (Nat.le_of_ble_eq_true rfl) rfl ?_
  intro p e s m below meth c A ls C0 hP hD0 hS hl
  obtain ⟨hx, hb, hml, hown, hts, hr, hlocks, hK, hE, hA⟩ := id C0
  have hU : ∀ w ∈ U, w.before _ s = true := fun w h => hts w (List.mem_cons_of_mem _ h)
  have hD := hD0
  have hl : lv_has ls 1 [(0, .int x1)] := hl
  unfold f_X6_isKind at hf
  refine lv_iload_n hx hb dX6_isKind_0 rfl (lv_at hl 0 rfl) ?_
  refine lv_if_lt (tgt := 14) hx hb dX6_isKind_1 (by decide) (fun c_1 => ?_) (fun c_1 => ?_)
  · replace hf := ite_p c_1 hf
    refine lv_iconst (v := 0) hx hb dX6_isKind_14 (by decide) ?_
    obtain rfl := Option.some.inj hf
    exact kt_zret C0 (by decide) hP hS dX6_isKind_15
  · replace hf := ite_n c_1 hf
    refine lv_iload_n hx hb dX6_isKind_4 rfl (lv_at hl 0 rfl) ?_
    refine lv_bipush (v := 7) hx hb dX6_isKind_5 (by decide) ?_
    refine lv_icmp_ge (tgt := 14) hx hb dX6_isKind_7 (by decide) (fun c_2 => ?_) (fun c_2 => ?_)
    · replace hf := ite_p c_2 hf
      refine lv_iconst (v := 0) hx hb dX6_isKind_14 (by decide) ?_
      obtain rfl := Option.some.inj hf
      exact kt_zret C0 (by decide) hP hS dX6_isKind_15
    · replace hf := ite_n c_2 hf
      refine lv_iconst (v := 1) hx hb dX6_isKind_10 (by decide) ?_
      refine lv_goto (tgt := 15) hx hb dX6_isKind_11 (by decide) ?_
      obtain rfl := Option.some.inj hf
      exact kt_zret C0 (by decide) hP hS dX6_isKind_15
set_option maxHeartbeats 4000000 in
set_option maxRecDepth 100000 in
theorem c_X6_isUnder (l : Launch) (γ : Gm) {x1 : Int32} {x2 : Int32} {rv : Int32} (hf : f_X6_isUnder x1 x2 = some rv) : Kt l γ yX6_isUnder (Cond.code yX6_isUnder cX6_isUnder 4 (some .boolean) :: U) 1 20 [.int x1, .int x2] ([]) (some (.int rv)) ([]) := by
  refine Kt.of (by decide) rfl (Nat.le_of_ble_eq_true rfl) rfl ?_
  intro p e s m below meth c A ls C0 hP hD0 hS hl
  obtain ⟨hx, hb, hml, hown, hts, hr, hlocks, hK, hE, hA⟩ := id C0
  have hU : ∀ w ∈ U, w.before _ s = true := fun w h => hts w (List.mem_cons_of_mem _ h)
  have hD := hD0
  have hl : lv_has ls 4 [(0, .int x1), (1, .int x2)] := hl
  have L4 : ∀ (x1_1 : Int32) (n : Nat) (x2_2 : Int32) (x3_3 : Int32) (H : Heap) (locs : List Loc) (ls : Array Slot), f_X6_isUnder_L4 x1_1 n x2_2 x3_3 = some rv → va_P γ.1 vwCl ([]) H → va_S A s.heap H locs → lv_has ls 4 [(1, .int x1_1), (2, .int x2_2), (3, .int x3_3)] → W p l e (rmK 1 20) s m ([.int x1, .int x2] : List Value).toArray below meth c H locs 0 0 (MQ below (KQ γ A (some (.int rv)) ([])) ([.int x1, .int x2] : List Value).toArray s 0 0 A) (F0 m 4 ls []) := by
    intro x1_1
    intro n
    induction n with
    | zero =>
      intro x2_2 x3_3 H locs ls hf
      have hf : none = some _ := hf
      cases hf
    | succ n ih =>
      intro x2_2 x3_3 H locs ls hf hP hS hl
      rw [f_X6_isUnder_L4.eq_2] at hf
      refine lv_iload_n hx hb dX6_isUnder_4 rfl (lv_at hl 2 rfl) ?_
      refine lv_bipush (v := 7) hx hb dX6_isUnder_5 (by decide) ?_
      refine lv_icmp_ge (tgt := 36) hx hb dX6_isUnder_7 (by decide) (fun c_4 => ?_) (fun c_4 => ?_)
      · replace hf := ite_p c_4 hf
        refine lv_iconst (v := 0) hx hb dX6_isUnder_36 (by decide) ?_
        obtain rfl := Option.some.inj hf
        exact kt_zret C0 (by decide) hP hS dX6_isUnder_37
      · replace hf := ite_n c_4 hf
        refine lv_iload_n hx hb dX6_isUnder_10 rfl (lv_at hl 1 rfl) ?_
        obtain ⟨r_5, hg_6, hf⟩ := bd_of hf
        refine kt_SF (As := [.int x2_2]) (rest := []) (st1 := [.int r_5]) (wc' := []) C0 (c_X6_isKind l γ hg_6) (cxS (nA := 1) hts goodU U415 U416 U84 U417 (by decide +kernel) ⟨Nat.le_of_ble_eq_true rfl, Nat.le_of_ble_eq_true rfl⟩) hP (hD) hS hl dX6_isUnder_11 foc_nil rfl (Nat.le_of_ble_eq_true rfl) rfl rfl (fun H locs hP hS => ?_)
        refine lv_if_eq (tgt := 36) hx hb dX6_isUnder_14 (by decide) (fun c_7 => ?_) (fun c_7 => ?_)
        · replace hf := ite_p c_7 hf
          refine lv_iconst (v := 0) hx hb dX6_isUnder_36 (by decide) ?_
          obtain rfl := Option.some.inj hf
          exact kt_zret C0 (by decide) hP hS dX6_isUnder_37
        · replace hf := ite_n c_7 hf
          refine lv_iload_n hx hb dX6_isUnder_17 rfl (lv_at hl 1 rfl) ?_
          refine lv_iload_n hx hb dX6_isUnder_18 rfl (lv_at hl 0 rfl) ?_
          refine lv_icmp_ne (tgt := 24) hx hb dX6_isUnder_19 (by decide) (fun c_8 => ?_) (fun c_8 => ?_)
          · replace hf := ite_n c_8 hf
            refine va_gets hx hb hE.1.1 hS hown (hU _ U421) (fun _ h9 => h9) dX6_isUnder_24 ?_
            refine lv_iload_n hx hb dX6_isUnder_27 rfl (lv_at hl 1 rfl) ?_
            obtain ⟨g_9, hf⟩ := gd_of hf
            refine va_ti (v := .int (tbAbove x2_2.toNatClampNeg)) hx hb hE.1.2 hS (inB_vp g_9) rfl dX6_isUnder_28 ?_
            refine lv_topi (fun u_10 e_u_10 => ?_)
            replace hf := nm_y hf e_u_10
            refine lv_istore_n (lv' := [(2, .int u_10), (1, .int x1_1), (3, .int x3_3)]) hx hb dX6_isUnder_29 rfl hl (by decide) rfl (fun ls hl => ?_)
            obtain ⟨x3_11, e_x3_11⟩ : ∃ y : Int32, y = x3_3 + (1 : Int32) := ⟨_, rfl⟩
            replace hf := nm_y hf e_x3_11
            refine lv_iinc (v := x3_11) (lv' := [(3, .int x3_11), (2, .int u_10), (1, .int x1_1)]) hx hb dX6_isUnder_30 hl (k := 2) rfl (by rw [e_x3_11]; rfl) (by decide) rfl (fun ls hl => ?_)
            refine lv_goto (tgt := 4) hx hb dX6_isUnder_33 (by decide) ?_
            exact ih u_10 x3_11 _ _ _ hf hP hS (lv_sub hl [2, 1, 0] rfl)
          · replace hf := ite_p c_8 hf
            refine lv_iconst (v := 1) hx hb dX6_isUnder_22 (by decide) ?_
            obtain rfl := Option.some.inj hf
            exact kt_zret C0 (by decide) hP hS dX6_isUnder_23
  unfold f_X6_isUnder at hf
  refine lv_iload_n hx hb dX6_isUnder_0 rfl (lv_at hl 0 rfl) ?_
  refine lv_istore_n (lv' := [(2, .int x1), (0, .int x1), (1, .int x2)]) hx hb dX6_isUnder_1 rfl hl (by decide) rfl (fun ls hl => ?_)
  refine lv_iconst (v := 0) hx hb dX6_isUnder_2 (by decide) ?_
  refine lv_istore_n (lv' := [(3, .int (0 : Int32)), (2, .int x1), (0, .int x1), (1, .int x2)]) hx hb dX6_isUnder_3 rfl hl (by decide) rfl (fun ls hl => ?_)
  exact L4 x2 FU x1 (0 : Int32) _ _ _ hf hP hS (lv_sub hl [3, 1, 0] rfl)
set_option maxHeartbeats 4000000 in
set_option maxRecDepth 100000 in
theorem c_X3_sightOf (l : Launch) (γ : Gm) (ar : Nat → Nat) {sr : GS} {x1 : Int32} {rv : Int32} (hf : f_X3_sightOf sr x1 = some rv) : Kt l γ yX3_sightOf (Cond.code yX3_sightOf cX3_sightOf 2 (some .int) :: U) 0 0 [.ref (ar 0), .int x1] (wR γ ar sr) (some (.int rv)) (wR γ ar sr) := by
  refine Kt.of (by decide) rfl (Nat.le_of_ble_eq_true rfl) rfl ?_
  intro p e s m below meth c A ls C0 hP hD0 hS hl
  obtain ⟨hx, hb, hml, hown, hts, hr, hlocks, hK, hE, hA⟩ := id C0
  have hU : ∀ w ∈ U, w.before _ s = true := fun w h => hts w (List.mem_cons_of_mem _ h)
  have hD : ∀ (sr : GS), va_D A (wR γ ar sr) := fun _ => hD0.fst rfl
  have hl : lv_has ls 2 [(0, .ref (ar 0)), (1, .int x1)] := hl
  unfold f_X3_sightOf at hf
  refine lv_bipush (v := 10) hx hb dX3_sightOf_0 (by decide) ?_
  refine lv_aload_n hx hb dX3_sightOf_2 rfl (lv_at hl 0 rfl) ?_
  refine va_get (D := γ.1) (ci := 3) (v := .ref (ar 4)) (C := RX3) (T := TX3) (N := 18) hx hb hU uin3 hown hK hP 0 rfl rfl 3 (by decide) (hU _ U124) (fun _ h9 => h9) rfl dX3_sightOf_3 ?_
  refine lv_iload_n hx hb dX3_sightOf_6 rfl (lv_at hl 1 rfl) ?_
  obtain ⟨g_1, hf⟩ := gd_of hf
  refine va_iald hx hb hK hP 2 0 rfl rfl (inB_vp g_1) dX3_sightOf_7 ?_
  refine lv_imul hx hb dX3_sightOf_8 ?_
  refine lv_bipush (v := 10) hx hb dX3_sightOf_9 (by decide) ?_
  refine lv_iadd hx hb dX3_sightOf_11 ?_
  obtain rfl := Option.some.inj hf
  exact kt_iret C0 hP hS dX3_sightOf_12
set_option maxHeartbeats 4000000 in
set_option maxRecDepth 100000 in
theorem c_X3_lookFrom (l : Launch) (γ : Gm) (ar : Nat → Nat) {sr : GS} {x1 : Int32} {x2 : Int32} {sr_z : GS} (hf : f_X3_lookFrom sr x1 x2 = some sr_z) : Kt l γ yX3_lookFrom (Cond.code yX3_lookFrom cX3_lookFrom 3 none :: U) 2 43 [.ref (ar 0), .int x1, .int x2] (wR γ ar sr) none (wR γ ar sr_z) := by
  refine Kt.of (by decide) rfl (Nat.le_of_ble_eq_true rfl) rfl ?_
  intro p e s m below meth c A ls C0 hP hD0 hS hl
  obtain ⟨hx, hb, hml, hown, hts, hr, hlocks, hK, hE, hA⟩ := id C0
  have hU : ∀ w ∈ U, w.before _ s = true := fun w h => hts w (List.mem_cons_of_mem _ h)
  have hD : ∀ (sr : GS), va_D A (wR γ ar sr) := fun _ => hD0.fst rfl
  have hl : lv_has ls 3 [(0, .ref (ar 0)), (1, .int x1), (2, .int x2)] := hl
  have J38 : ∀ (x1_5 : Int32) (x2_6 : Int32) (sr_7 : GS) (H : Heap) (locs : List Loc) (ls : Array Slot), f_X3_lookFrom_J38 x1_5 x2_6 sr_7 = some sr_z → va_P γ.1 vwCl (wR γ ar sr_7) H → va_S A s.heap H locs → lv_has ls 3 [(0, .ref (ar 0)), (1, .int x1_5), (2, .int x2_6)] → W p l e (rmK 2 43) s m ([.ref (ar 0), .int x1, .int x2] : List Value).toArray below meth c H locs 0 0 (MQ below (KQ γ A none (wR γ ar sr_z)) ([.ref (ar 0), .int x1, .int x2] : List Value).toArray s 0 0 A) (F0 m 38 ls []) := by
    intro x1_5 x2_6 sr_7 H locs ls hf hP hS hl
    unfold f_X3_lookFrom_J38 at hf
    refine lv_aload_n hx hb dX3_lookFrom_38 rfl (lv_at hl 0 rfl) ?_
    refine va_get (D := γ.1) (ci := 3) (v := .ref (ar 8)) (C := RX3) (T := TX3) (N := 18) hx hb hU uin3 hown hK hP 0 rfl rfl 7 (by decide) (hU _ U134) (fun _ h9 => h9) rfl dX3_lookFrom_39 ?_
    refine lv_iload_n hx hb dX3_lookFrom_42 rfl (lv_at hl 1 rfl) ?_
    refine lv_dup2_11 hx hb dX3_lookFrom_43 rfl rfl ?_
    obtain ⟨g_8, hf⟩ := gd_of hf
    refine va_iald hx hb hK hP 6 0 rfl rfl (inB_vp g_8) dX3_lookFrom_44 ?_
    refine lv_iconst (v := 1) hx hb dX3_lookFrom_45 (by decide) ?_
    refine lv_iload_n hx hb dX3_lookFrom_46 rfl (lv_at hl 2 rfl) ?_
    refine lv_ishl hx hb dX3_lookFrom_47 ?_
    refine lv_ior hx hb dX3_lookFrom_48 ?_
    refine lv_topi (fun u_9 e_u_9 => ?_)
    replace hf := nm_y hf e_u_9
    obtain ⟨g_10, hf⟩ := gd_of hf
    refine va_iast hx hb hK hP (hD _) hS 6 0 rfl rfl (inB_vp g_10) dX3_lookFrom_49 (fun H locs hP _ hS => ?_)
    obtain ⟨sr_11, e_sr_11, hf⟩ := nm_of hf
    replace hP : va_P γ.1 vwCl (wR γ ar sr_11) H := by rw [e_sr_11]; exact hP
    refine lv_aload_n hx hb dX3_lookFrom_50 rfl (lv_at hl 0 rfl) ?_
    refine va_get (D := γ.1) (ci := 3) (v := .ref (ar 10)) (C := RX3) (T := TX3) (N := 18) hx hb hU uin3 hown hK hP 0 rfl rfl 9 (by decide) (hU _ U137) (fun _ h9 => h9) rfl dX3_lookFrom_51 ?_
    refine lv_iload_n hx hb dX3_lookFrom_54 rfl (lv_at hl 1 rfl) ?_
    obtain ⟨g_12, hf⟩ := gd_of hf
    refine va_iald hx hb hK hP 8 0 rfl rfl (inB_vp g_12) dX3_lookFrom_55 ?_
    refine lv_iload_n hx hb dX3_lookFrom_56 rfl (lv_at hl 2 rfl) ?_
    obtain ⟨r_13, hg_14, hf⟩ := bd_of hf
    refine kt_SN (As := [.int (sr_11 10 x1_5.toNatClampNeg), .int x2_6]) (rest := []) (st1 := [.int r_13]) C0 (c_X6_bit l γ hg_14) (cxN (nA := 2) hts goodU hE NW40 U441 U84 U442 (by decide +kernel) ⟨Nat.le_of_ble_eq_true rfl, Nat.le_of_ble_eq_true rfl⟩) hP (hD _) hS hl dX3_lookFrom_57 rfl (Nat.le_of_ble_eq_true rfl) rfl rfl (fun H locs hP hS => ?_)
    refine lv_if_ne (tgt := 78) hx hb dX3_lookFrom_60 (by decide) (fun c_15 => ?_) (fun c_15 => ?_)
    · replace hf := ite_n c_15 hf
      obtain rfl := Option.some.inj hf
      exact kt_vret C0 hP hS dX3_lookFrom_78
    · replace hf := ite_p c_15 hf
      refine lv_aload_n hx hb dX3_lookFrom_63 rfl (lv_at hl 0 rfl) ?_
      refine va_get (D := γ.1) (ci := 3) (v := .ref (ar 9)) (C := RX3) (T := TX3) (N := 18) hx hb hU uin3 hown hK hP 0 rfl rfl 8 (by decide) (hU _ U136) (fun _ h9 => h9) rfl dX3_lookFrom_64 ?_
      refine lv_iload_n hx hb dX3_lookFrom_67 rfl (lv_at hl 1 rfl) ?_
      refine lv_bipush (v := 10) hx hb dX3_lookFrom_68 (by decide) ?_
      refine lv_imul hx hb dX3_lookFrom_70 ?_
      refine lv_iload_n hx hb dX3_lookFrom_71 rfl (lv_at hl 2 rfl) ?_
      refine lv_iadd hx hb dX3_lookFrom_72 ?_
      refine lv_aload_n hx hb dX3_lookFrom_73 rfl (lv_at hl 0 rfl) ?_
      refine va_get (D := γ.1) (ci := 3) (v := .int (sr_11 0 16)) (C := RX3) (T := TX3) (N := 18) hx hb hU uin3 hown hK hP 0 rfl rfl 16 (by decide) (hU _ U152) (fun _ h9 => h9) rfl dX3_lookFrom_74 ?_
      refine lv_topi (fun u_16 e_u_16 => ?_)
      replace hf := nm_y hf e_u_16
      obtain ⟨g_17, hf⟩ := gd_of hf
      refine va_iast hx hb hK hP (hD _) hS 7 0 rfl rfl (inB_vp g_17) dX3_lookFrom_77 (fun H locs hP _ hS => ?_)
      obtain ⟨sr_18, e_sr_18, hf⟩ := nm_of hf
      replace hP : va_P γ.1 vwCl (wR γ ar sr_18) H := by rw [e_sr_18]; exact hP
      obtain rfl := Option.some.inj hf
      exact kt_vret C0 hP hS dX3_lookFrom_78
  unfold f_X3_lookFrom at hf
  refine lv_aload_n hx hb dX3_lookFrom_0 rfl (lv_at hl 0 rfl) ?_
  refine va_get (D := γ.1) (ci := 3) (v := .ref (ar 3)) (C := RX3) (T := TX3) (N := 18) hx hb hU uin3 hown hK hP 0 rfl rfl 2 (by decide) (hU _ U121) (fun _ h9 => h9) rfl dX3_lookFrom_1 ?_
  refine lv_iload_n hx hb dX3_lookFrom_4 rfl (lv_at hl 1 rfl) ?_
  obtain ⟨g_1, hf⟩ := gd_of hf
  refine va_iald hx hb hK hP 1 0 rfl rfl (inB_vp g_1) dX3_lookFrom_5 ?_
  refine lv_iconst (v := 4) hx hb dX3_lookFrom_6 (by decide) ?_
  obtain ⟨r_2, hg_3, hf⟩ := bd_of hf
  refine kt_SN (As := [.int (sr 3 x1.toNatClampNeg), .int (4 : Int32)]) (rest := []) (st1 := [.int r_2]) C0 (c_X6_isUnder l γ hg_3) (cxN (nA := 2) hts goodU hE NW41 U419 U84 U420 (by decide +kernel) ⟨Nat.le_of_ble_eq_true rfl, Nat.le_of_ble_eq_true rfl⟩) hP (hD _) hS hl dX3_lookFrom_7 rfl (Nat.le_of_ble_eq_true rfl) rfl rfl (fun H locs hP hS => ?_)
  refine lv_if_eq (tgt := 38) hx hb dX3_lookFrom_10 (by decide) (fun c_4 => ?_) (fun c_4 => ?_)
  · replace hf := ite_p c_4 hf
    exact J38 x1 x2 sr _ _ _ hf hP hS (lv_sub hl [0, 1, 2] rfl)
  · replace hf := ite_n c_4 hf
    refine lv_aload_n hx hb dX3_lookFrom_13 rfl (lv_at hl 0 rfl) ?_
    refine va_get (D := γ.1) (ci := 3) (v := .ref (ar 5)) (C := RX3) (T := TX3) (N := 18) hx hb hU uin3 hown hK hP 0 rfl rfl 4 (by decide) (hU _ U127) (fun _ h9 => h9) rfl dX3_lookFrom_14 ?_
    refine lv_iload_n hx hb dX3_lookFrom_17 rfl (lv_at hl 1 rfl) ?_
    obtain ⟨g_19, hf⟩ := gd_of hf
    refine va_iald hx hb hK hP 3 0 rfl rfl (inB_vp g_19) dX3_lookFrom_18 ?_
    refine lv_aload_n hx hb dX3_lookFrom_19 rfl (lv_at hl 0 rfl) ?_
    refine va_get (D := γ.1) (ci := 3) (v := .ref (ar 5)) (C := RX3) (T := TX3) (N := 18) hx hb hU uin3 hown hK hP 0 rfl rfl 4 (by decide) (hU _ U127) (fun _ h9 => h9) rfl dX3_lookFrom_20 ?_
    refine lv_iload_n hx hb dX3_lookFrom_23 rfl (lv_at hl 2 rfl) ?_
    obtain ⟨g_20, hf⟩ := gd_of hf
    refine va_iald hx hb hK hP 3 0 rfl rfl (inB_vp g_20) dX3_lookFrom_24 ?_
    refine lv_isub hx hb dX3_lookFrom_25 ?_
    refine va_mabs (rest := []) (x := ((sr 5 x1.toNatClampNeg) - (sr 5 x2.toNatClampNeg))) hx hb (hml.trans hl.1.symm) hown (hU _ U501) (hU _ U502) (hU _ U93) (hU _ U503) (Nat.le_of_ble_eq_true rfl) (Nat.le_of_ble_eq_true rfl) (Nat.zero_le _) (Nat.zero_le _) dX3_lookFrom_26 ?_
    refine lv_topi (fun u_21 e_u_21 => ?_)
    replace hf := nm_y hf e_u_21
    refine lv_aload_n hx hb dX3_lookFrom_29 rfl (lv_at hl 0 rfl) ?_
    refine lv_iload_n hx hb dX3_lookFrom_30 rfl (lv_at hl 1 rfl) ?_
    obtain ⟨r_22, hg_23, hf⟩ := bd_of hf
    refine kt_V0 (As := [.int x1]) (rest := [.int u_21]) (st1 := [.int r_22, .int u_21]) (b := ar 0) C0 (c_X3_sightOf l γ ar hg_23) (cxV (nA := 1) hts goodU U504 U457 U458 U85 U459 (by decide +kernel) ⟨Nat.le_of_ble_eq_true rfl, Nat.le_of_ble_eq_true rfl⟩) hP (hD _) hS hl dX3_lookFrom_31 0 3 rfl rfl rfl rfl (Nat.le_of_ble_eq_true rfl) rfl rfl (fun H locs hP hS => ?_)
    refine lv_icmp_le (tgt := 38) hx hb dX3_lookFrom_34 (by decide) (fun c_24 => ?_) (fun c_24 => ?_)
    · replace hf := ite_p c_24 hf
      exact J38 x1 x2 sr _ _ _ hf hP hS (lv_sub hl [0, 1, 2] rfl)
    · replace hf := ite_n c_24 hf
      obtain rfl := Option.some.inj hf
      exact kt_vret C0 hP hS dX3_lookFrom_37
set_option maxHeartbeats 4000000 in
set_option maxRecDepth 100000 in
theorem c_X3_lookAround (l : Launch) (γ : Gm) (ar : Nat → Nat) {sr : GS} {sr_z : GS} (hf : f_X3_lookAround sr = some sr_z) : Kt l γ yX3_lookAround (Cond.code yX3_lookAround cX3_lookAround 3 none :: U) 3 70 [.ref (ar 0)] (wR γ ar sr) none (wR γ ar sr_z) := by
  refine Kt.of (by decide) rfl (Nat.le_of_ble_eq_true rfl) rfl ?_
  intro p e s m below meth c A ls C0 hP hD0 hS hl
  obtain ⟨hx, hb, hml, hown, hts, hr, hlocks, hK, hE, hA⟩ := id C0
  have hU : ∀ w ∈ U, w.before _ s = true := fun w h => hts w (List.mem_cons_of_mem _ h)
  have hD : ∀ (sr : GS), va_D A (wR γ ar sr) := fun _ => hD0.fst rfl
  have hl : lv_has ls 3 [(0, .ref (ar 0))] := hl
  have L2 : ∀ (K35 : GS → Option (GS)) (HK35 : ∀ (zsr : GS) (H : Heap) (locs : List Loc) (ls : Array Slot), K35 zsr = some sr_z → va_P γ.1 vwCl (wR γ ar zsr) H → va_S A s.heap H locs → lv_has ls 3 [(0, .ref (ar 0))] → W p l e (rmK 3 70) s m ([.ref (ar 0)] : List Value).toArray below meth c H locs 0 0 (MQ below (KQ γ A none (wR γ ar sr_z)) ([.ref (ar 0)] : List Value).toArray s 0 0 A) (F0 m 35 ls [])) (n : Nat) (x1_1 : Int32) (sr_2 : GS) (H : Heap) (locs : List Loc) (ls : Array Slot), f_X3_lookAround_L2 K35 n x1_1 sr_2 = some sr_z → va_P γ.1 vwCl (wR γ ar sr_2) H → va_S A s.heap H locs → lv_has ls 3 [(0, .ref (ar 0)), (1, .int x1_1)] → W p l e (rmK 3 70) s m ([.ref (ar 0)] : List Value).toArray below meth c H locs 0 0 (MQ below (KQ γ A none (wR γ ar sr_z)) ([.ref (ar 0)] : List Value).toArray s 0 0 A) (F0 m 2 ls []) := by
    intro K35 HK35
    intro n
    induction n with
    | zero =>
      intro x1_1 sr_2 H locs ls hf
      have hf : none = some _ := hf
      cases hf
    | succ n ih =>
      intro x1_1 sr_2 H locs ls hf hP hS hl
      rw [f_X3_lookAround_L2.eq_2] at hf
      refine lv_iload_n hx hb dX3_lookAround_2 rfl (lv_at hl 1 rfl) ?_
      refine lv_aload_n hx hb dX3_lookAround_3 rfl (lv_at hl 0 rfl) ?_
      refine va_get (D := γ.1) (ci := 3) (v := .int (sr_2 0 0)) (C := RX3) (T := TX3) (N := 18) hx hb hU uin3 hown hK hP 0 rfl rfl 0 (by decide) (hU _ U113) (fun _ h9 => h9) rfl dX3_lookAround_4 ?_
      refine lv_icmp_ge (tgt := 35) hx hb dX3_lookAround_7 (by decide) (fun c_3 => ?_) (fun c_3 => ?_)
      · replace hf := ite_p c_3 hf
        exact HK35 sr_2 _ _ _ hf hP hS (lv_sub hl [0] rfl)
      · replace hf := ite_n c_3 hf
        refine lv_aload_n hx hb dX3_lookAround_10 rfl (lv_at hl 0 rfl) ?_
        refine va_get (D := γ.1) (ci := 3) (v := .ref (ar 10)) (C := RX3) (T := TX3) (N := 18) hx hb hU uin3 hown hK hP 0 rfl rfl 9 (by decide) (hU _ U137) (fun _ h9 => h9) rfl dX3_lookAround_11 ?_
        refine lv_iload_n hx hb dX3_lookAround_14 rfl (lv_at hl 1 rfl) ?_
        refine lv_aload_n hx hb dX3_lookAround_15 rfl (lv_at hl 0 rfl) ?_
        refine va_get (D := γ.1) (ci := 3) (v := .ref (ar 8)) (C := RX3) (T := TX3) (N := 18) hx hb hU uin3 hown hK hP 0 rfl rfl 7 (by decide) (hU _ U134) (fun _ h9 => h9) rfl dX3_lookAround_16 ?_
        refine lv_iload_n hx hb dX3_lookAround_19 rfl (lv_at hl 1 rfl) ?_
        obtain ⟨g_4, hf⟩ := gd_of hf
        refine va_iald hx hb hK hP 6 0 rfl rfl (inB_vp g_4) dX3_lookAround_20 ?_
        refine lv_topi (fun u_5 e_u_5 => ?_)
        replace hf := nm_y hf e_u_5
        obtain ⟨g_6, hf⟩ := gd_of hf
        refine va_iast hx hb hK hP (hD _) hS 8 0 rfl rfl (inB_vp g_6) dX3_lookAround_21 (fun H locs hP _ hS => ?_)
        obtain ⟨sr_7, e_sr_7, hf⟩ := nm_of hf
        replace hP : va_P γ.1 vwCl (wR γ ar sr_7) H := by rw [e_sr_7]; exact hP
        refine lv_aload_n hx hb dX3_lookAround_22 rfl (lv_at hl 0 rfl) ?_
        refine va_get (D := γ.1) (ci := 3) (v := .ref (ar 8)) (C := RX3) (T := TX3) (N := 18) hx hb hU uin3 hown hK hP 0 rfl rfl 7 (by decide) (hU _ U134) (fun _ h9 => h9) rfl dX3_lookAround_23 ?_
        refine lv_iload_n hx hb dX3_lookAround_26 rfl (lv_at hl 1 rfl) ?_
        refine lv_iconst (v := 0) hx hb dX3_lookAround_27 (by decide) ?_
        obtain ⟨g_8, hf⟩ := gd_of hf
        refine va_iast hx hb hK hP (hD _) hS 6 0 rfl rfl (inB_vp g_8) dX3_lookAround_28 (fun H locs hP _ hS => ?_)
        obtain ⟨sr_9, e_sr_9, hf⟩ := nm_of hf
        replace hP : va_P γ.1 vwCl (wR γ ar sr_9) H := by rw [e_sr_9]; exact hP
        obtain ⟨x1_10, e_x1_10⟩ : ∃ y : Int32, y = x1_1 + (1 : Int32) := ⟨_, rfl⟩
        replace hf := nm_y hf e_x1_10
        refine lv_iinc (v := x1_10) (lv' := [(1, .int x1_10), (0, .ref (ar 0))]) hx hb dX3_lookAround_29 hl (k := 1) rfl (by rw [e_x1_10]; rfl) (by decide) rfl (fun ls hl => ?_)
        refine lv_goto (tgt := 2) hx hb dX3_lookAround_32 (by decide) ?_
        exact ih x1_10 sr_9 _ _ _ hf hP hS (lv_sub hl [1, 0] rfl)
  have L47 : ∀ (x1_15 : Int32) (K113 : GS → Option (GS)) (HK113 : ∀ (zsr : GS) (H : Heap) (locs : List Loc) (ls : Array Slot), K113 zsr = some sr_z → va_P γ.1 vwCl (wR γ ar zsr) H → va_S A s.heap H locs → lv_has ls 3 [(0, .ref (ar 0)), (1, .int x1_15)] → W p l e (rmK 3 70) s m ([.ref (ar 0)] : List Value).toArray below meth c H locs 0 0 (MQ below (KQ γ A none (wR γ ar sr_z)) ([.ref (ar 0)] : List Value).toArray s 0 0 A) (F0 m 113 ls [])) (n : Nat) (x2_16 : Int32) (sr_17 : GS) (H : Heap) (locs : List Loc) (ls : Array Slot), f_X3_lookAround_L47 x1_15 K113 n x2_16 sr_17 = some sr_z → va_P γ.1 vwCl (wR γ ar sr_17) H → va_S A s.heap H locs → lv_has ls 3 [(0, .ref (ar 0)), (1, .int x1_15), (2, .int x2_16)] → W p l e (rmK 3 70) s m ([.ref (ar 0)] : List Value).toArray below meth c H locs 0 0 (MQ below (KQ γ A none (wR γ ar sr_z)) ([.ref (ar 0)] : List Value).toArray s 0 0 A) (F0 m 47 ls []) := by
    intro x1_15 K113 HK113
    intro n
    induction n with
    | zero =>
      intro x2_16 sr_17 H locs ls hf
      have hf : none = some _ := hf
      cases hf
    | succ n ih =>
      intro x2_16 sr_17 H locs ls hf hP hS hl
      rw [f_X3_lookAround_L47.eq_2] at hf
      refine lv_iload_n hx hb dX3_lookAround_47 rfl (lv_at hl 2 rfl) ?_
      refine lv_aload_n hx hb dX3_lookAround_48 rfl (lv_at hl 0 rfl) ?_
      refine va_get (D := γ.1) (ci := 3) (v := .int (sr_17 0 0)) (C := RX3) (T := TX3) (N := 18) hx hb hU uin3 hown hK hP 0 rfl rfl 0 (by decide) (hU _ U113) (fun _ h9 => h9) rfl dX3_lookAround_49 ?_
      refine lv_icmp_ge (tgt := 113) hx hb dX3_lookAround_52 (by decide) (fun c_18 => ?_) (fun c_18 => ?_)
      · replace hf := ite_p c_18 hf
        exact HK113 sr_17 _ _ _ hf hP hS (lv_sub hl [0, 1] rfl)
      · replace hf := ite_n c_18 hf
        refine lv_aload_n hx hb dX3_lookAround_55 rfl (lv_at hl 0 rfl) ?_
        refine va_get (D := γ.1) (ci := 3) (v := .ref (ar 5)) (C := RX3) (T := TX3) (N := 18) hx hb hU uin3 hown hK hP 0 rfl rfl 4 (by decide) (hU _ U127) (fun _ h9 => h9) rfl dX3_lookAround_56 ?_
        refine lv_iload_n hx hb dX3_lookAround_59 rfl (lv_at hl 1 rfl) ?_
        obtain ⟨g_19, hf⟩ := gd_of hf
        refine va_iald hx hb hK hP 3 0 rfl rfl (inB_vp g_19) dX3_lookAround_60 ?_
        refine lv_aload_n hx hb dX3_lookAround_61 rfl (lv_at hl 0 rfl) ?_
        refine va_get (D := γ.1) (ci := 3) (v := .ref (ar 5)) (C := RX3) (T := TX3) (N := 18) hx hb hU uin3 hown hK hP 0 rfl rfl 4 (by decide) (hU _ U127) (fun _ h9 => h9) rfl dX3_lookAround_62 ?_
        refine lv_iload_n hx hb dX3_lookAround_65 rfl (lv_at hl 2 rfl) ?_
        obtain ⟨g_20, hf⟩ := gd_of hf
        refine va_iald hx hb hK hP 3 0 rfl rfl (inB_vp g_20) dX3_lookAround_66 ?_
        refine lv_icmp_ge (tgt := 107) hx hb dX3_lookAround_67 (by decide) (fun c_21 => ?_) (fun c_21 => ?_)
        · replace hf := ite_p c_21 hf
          obtain ⟨x2_22, e_x2_22⟩ : ∃ y : Int32, y = x2_16 + (1 : Int32) := ⟨_, rfl⟩
          replace hf := nm_y hf e_x2_22
          refine lv_iinc (v := x2_22) (lv' := [(2, .int x2_22), (0, .ref (ar 0)), (1, .int x1_15)]) hx hb dX3_lookAround_107 hl (k := 2) rfl (by rw [e_x2_22]; rfl) (by decide) rfl (fun ls hl => ?_)
          refine lv_goto (tgt := 47) hx hb dX3_lookAround_110 (by decide) ?_
          exact ih x2_22 sr_17 _ _ _ hf hP hS (lv_sub hl [1, 2, 0] rfl)
        · replace hf := ite_n c_21 hf
          refine lv_aload_n hx hb dX3_lookAround_70 rfl (lv_at hl 0 rfl) ?_
          refine lv_iload_n hx hb dX3_lookAround_71 rfl (lv_at hl 1 rfl) ?_
          obtain ⟨r_23, hg_24, hf⟩ := bd_of hf
          refine kt_V0 (As := [.int x1_15]) (rest := []) (st1 := [.int r_23]) (b := ar 0) C0 (c_X3_isStanding l γ ar hg_24) (cxV (nA := 1) hts goodU U435 U436 U437 U85 U438 (by decide +kernel) ⟨Nat.le_of_ble_eq_true rfl, Nat.le_of_ble_eq_true rfl⟩) hP (hD _) hS hl dX3_lookAround_72 0 3 rfl rfl rfl rfl (Nat.le_of_ble_eq_true rfl) rfl rfl (fun H locs hP hS => ?_)
          refine lv_if_eq (tgt := 107) hx hb dX3_lookAround_75 (by decide) (fun c_25 => ?_) (fun c_25 => ?_)
          · replace hf := ite_p c_25 hf
            obtain ⟨x2_26, e_x2_26⟩ : ∃ y : Int32, y = x2_16 + (1 : Int32) := ⟨_, rfl⟩
            replace hf := nm_y hf e_x2_26
            refine lv_iinc (v := x2_26) (lv' := [(2, .int x2_26), (0, .ref (ar 0)), (1, .int x1_15)]) hx hb dX3_lookAround_107 hl (k := 2) rfl (by rw [e_x2_26]; rfl) (by decide) rfl (fun ls hl => ?_)
            refine lv_goto (tgt := 47) hx hb dX3_lookAround_110 (by decide) ?_
            exact ih x2_26 sr_17 _ _ _ hf hP hS (lv_sub hl [1, 2, 0] rfl)
          · replace hf := ite_n c_25 hf
            refine lv_aload_n hx hb dX3_lookAround_78 rfl (lv_at hl 0 rfl) ?_
            refine lv_iload_n hx hb dX3_lookAround_79 rfl (lv_at hl 2 rfl) ?_
            obtain ⟨r_27, hg_28, hf⟩ := bd_of hf
            refine kt_V0 (As := [.int x2_16]) (rest := []) (st1 := [.int r_27]) (b := ar 0) C0 (c_X3_isStanding l γ ar hg_28) (cxV (nA := 1) hts goodU U435 U436 U437 U85 U438 (by decide +kernel) ⟨Nat.le_of_ble_eq_true rfl, Nat.le_of_ble_eq_true rfl⟩) hP (hD _) hS hl dX3_lookAround_80 0 3 rfl rfl rfl rfl (Nat.le_of_ble_eq_true rfl) rfl rfl (fun H locs hP hS => ?_)
            refine lv_if_eq (tgt := 107) hx hb dX3_lookAround_83 (by decide) (fun c_29 => ?_) (fun c_29 => ?_)
            · replace hf := ite_p c_29 hf
              obtain ⟨x2_30, e_x2_30⟩ : ∃ y : Int32, y = x2_16 + (1 : Int32) := ⟨_, rfl⟩
              replace hf := nm_y hf e_x2_30
              refine lv_iinc (v := x2_30) (lv' := [(2, .int x2_30), (0, .ref (ar 0)), (1, .int x1_15)]) hx hb dX3_lookAround_107 hl (k := 2) rfl (by rw [e_x2_30]; rfl) (by decide) rfl (fun ls hl => ?_)
              refine lv_goto (tgt := 47) hx hb dX3_lookAround_110 (by decide) ?_
              exact ih x2_30 sr_17 _ _ _ hf hP hS (lv_sub hl [1, 2, 0] rfl)
            · replace hf := ite_n c_29 hf
              refine lv_aload_n hx hb dX3_lookAround_86 rfl (lv_at hl 0 rfl) ?_
              refine lv_iload_n hx hb dX3_lookAround_87 rfl (lv_at hl 1 rfl) ?_
              refine lv_iload_n hx hb dX3_lookAround_88 rfl (lv_at hl 2 rfl) ?_
              obtain ⟨r_31, hg_32, hf⟩ := bd_of hf
              refine kt_V0 (As := [.int x1_15, .int x2_16]) (rest := []) (st1 := [.int r_31]) (b := ar 0) C0 (c_X3_isFreeBetween l γ ar hg_32) (cxV (nA := 2) hts goodU U485 U487 U8 U85 U488 (by decide +kernel) ⟨Nat.le_of_ble_eq_true rfl, Nat.le_of_ble_eq_true rfl⟩) hP (hD _) hS hl dX3_lookAround_89 0 3 rfl rfl rfl rfl (Nat.le_of_ble_eq_true rfl) rfl rfl (fun H locs hP hS => ?_)
              refine lv_if_eq (tgt := 107) hx hb dX3_lookAround_92 (by decide) (fun c_33 => ?_) (fun c_33 => ?_)
              · replace hf := ite_p c_33 hf
                obtain ⟨x2_34, e_x2_34⟩ : ∃ y : Int32, y = x2_16 + (1 : Int32) := ⟨_, rfl⟩
                replace hf := nm_y hf e_x2_34
                refine lv_iinc (v := x2_34) (lv' := [(2, .int x2_34), (0, .ref (ar 0)), (1, .int x1_15)]) hx hb dX3_lookAround_107 hl (k := 2) rfl (by rw [e_x2_34]; rfl) (by decide) rfl (fun ls hl => ?_)
                refine lv_goto (tgt := 47) hx hb dX3_lookAround_110 (by decide) ?_
                exact ih x2_34 sr_17 _ _ _ hf hP hS (lv_sub hl [1, 2, 0] rfl)
              · replace hf := ite_n c_33 hf
                refine lv_aload_n hx hb dX3_lookAround_95 rfl (lv_at hl 0 rfl) ?_
                refine lv_iload_n hx hb dX3_lookAround_96 rfl (lv_at hl 1 rfl) ?_
                refine lv_iload_n hx hb dX3_lookAround_97 rfl (lv_at hl 2 rfl) ?_
                obtain ⟨sr_35, hg_36, hf⟩ := bd_of hf
                refine kt_V0 (As := [.int x1_15, .int x2_16]) (rest := []) (st1 := []) (b := ar 0) C0 (c_X3_lookFrom l γ ar hg_36) (cxV (nA := 2) hts goodU U497 U499 U11 U85 U500 (by decide +kernel) ⟨Nat.le_of_ble_eq_true rfl, Nat.le_of_ble_eq_true rfl⟩) hP (hD _) hS hl dX3_lookAround_98 0 3 rfl rfl rfl rfl (Nat.le_of_ble_eq_true rfl) rfl rfl (fun H locs hP hS => ?_)
                refine lv_aload_n hx hb dX3_lookAround_101 rfl (lv_at hl 0 rfl) ?_
                refine lv_iload_n hx hb dX3_lookAround_102 rfl (lv_at hl 2 rfl) ?_
                refine lv_iload_n hx hb dX3_lookAround_103 rfl (lv_at hl 1 rfl) ?_
                obtain ⟨sr_37, hg_38, hf⟩ := bd_of hf
                refine kt_V0 (As := [.int x2_16, .int x1_15]) (rest := []) (st1 := []) (b := ar 0) C0 (c_X3_lookFrom l γ ar hg_38) (cxV (nA := 2) hts goodU U497 U499 U11 U85 U500 (by decide +kernel) ⟨Nat.le_of_ble_eq_true rfl, Nat.le_of_ble_eq_true rfl⟩) hP (hD _) hS hl dX3_lookAround_104 0 3 rfl rfl rfl rfl (Nat.le_of_ble_eq_true rfl) rfl rfl (fun H locs hP hS => ?_)
                obtain ⟨x2_39, e_x2_39⟩ : ∃ y : Int32, y = x2_16 + (1 : Int32) := ⟨_, rfl⟩
                replace hf := nm_y hf e_x2_39
                refine lv_iinc (v := x2_39) (lv' := [(2, .int x2_39), (0, .ref (ar 0)), (1, .int x1_15)]) hx hb dX3_lookAround_107 hl (k := 2) rfl (by rw [e_x2_39]; rfl) (by decide) rfl (fun ls hl => ?_)
                refine lv_goto (tgt := 47) hx hb dX3_lookAround_110 (by decide) ?_
                exact ih x2_39 sr_37 _ _ _ hf hP hS (lv_sub hl [1, 2, 0] rfl)
  have L37 : ∀ (n : Nat) (x1_12 : Int32) (sr_13 : GS) (H : Heap) (locs : List Loc) (ls : Array Slot), f_X3_lookAround_L37 n x1_12 sr_13 = some sr_z → va_P γ.1 vwCl (wR γ ar sr_13) H → va_S A s.heap H locs → lv_has ls 3 [(0, .ref (ar 0)), (1, .int x1_12)] → W p l e (rmK 3 70) s m ([.ref (ar 0)] : List Value).toArray below meth c H locs 0 0 (MQ below (KQ γ A none (wR γ ar sr_z)) ([.ref (ar 0)] : List Value).toArray s 0 0 A) (F0 m 37 ls []) := by
    intro n
    induction n with
    | zero =>
      intro x1_12 sr_13 H locs ls hf
      have hf : none = some _ := hf
      cases hf
    | succ n ih =>
      intro x1_12 sr_13 H locs ls hf hP hS hl
      rw [f_X3_lookAround_L37.eq_2] at hf
      refine lv_iload_n hx hb dX3_lookAround_37 rfl (lv_at hl 1 rfl) ?_
      refine lv_aload_n hx hb dX3_lookAround_38 rfl (lv_at hl 0 rfl) ?_
      refine va_get (D := γ.1) (ci := 3) (v := .int (sr_13 0 0)) (C := RX3) (T := TX3) (N := 18) hx hb hU uin3 hown hK hP 0 rfl rfl 0 (by decide) (hU _ U113) (fun _ h9 => h9) rfl dX3_lookAround_39 ?_
      refine lv_icmp_ge (tgt := 119) hx hb dX3_lookAround_42 (by decide) (fun c_14 => ?_) (fun c_14 => ?_)
      · replace hf := ite_p c_14 hf
        obtain rfl := Option.some.inj hf
        exact kt_vret C0 hP hS dX3_lookAround_119
      · replace hf := ite_n c_14 hf
        refine lv_iconst (v := 0) hx hb dX3_lookAround_45 (by decide) ?_
        refine lv_istore_n (lv' := [(2, .int (0 : Int32)), (0, .ref (ar 0)), (1, .int x1_12)]) hx hb dX3_lookAround_46 rfl hl (by decide) rfl (fun ls hl => ?_)
        refine L47 x1_12 _ (fun sr_40 H locs ls hf hP hS hl => ?_) FU (0 : Int32) sr_13 _ _ _ hf hP hS (lv_sub hl [1, 2, 0] rfl)
        obtain ⟨x1_41, e_x1_41⟩ : ∃ y : Int32, y = x1_12 + (1 : Int32) := ⟨_, rfl⟩
        replace hf := nm_y hf e_x1_41
        refine lv_iinc (v := x1_41) (lv' := [(1, .int x1_41), (0, .ref (ar 0))]) hx hb dX3_lookAround_113 hl (k := 1) rfl (by rw [e_x1_41]; rfl) (by decide) rfl (fun ls hl => ?_)
        refine lv_goto (tgt := 37) hx hb dX3_lookAround_116 (by decide) ?_
        exact ih x1_41 sr_40 _ _ _ hf hP hS (lv_sub hl [1, 0] rfl)
  unfold f_X3_lookAround at hf
  refine lv_iconst (v := 0) hx hb dX3_lookAround_0 (by decide) ?_
  refine lv_istore_n (lv' := [(1, .int (0 : Int32)), (0, .ref (ar 0))]) hx hb dX3_lookAround_1 rfl hl (by decide) rfl (fun ls hl => ?_)
  refine L2 _ (fun sr_11 H locs ls hf hP hS hl => ?_) FU (0 : Int32) sr _ _ _ hf hP hS (lv_sub hl [1, 0] rfl)
  refine lv_iconst (v := 0) hx hb dX3_lookAround_35 (by decide) ?_
  refine lv_istore_n (lv' := [(1, .int (0 : Int32)), (0, .ref (ar 0))]) hx hb dX3_lookAround_36 rfl hl (by decide) rfl (fun ls hl => ?_)
  exact L37 FU (0 : Int32) sr_11 _ _ _ hf hP hS (lv_sub hl [1, 0] rfl)
set_option maxHeartbeats 4000000 in
set_option maxRecDepth 100000 in
theorem c_X3_addPeak (l : Launch) (γ : Gm) (ar : Nat → Nat) {sr : GS} {x1 : Int32} {x2 : Int32} {x3 : Int32} {x4 : Int32} {rv : Int32} {sr_z : GS} (hf : f_X3_addPeak sr x1 x2 x3 x4 = some (rv, sr_z)) : Kt l γ yX3_addPeak (Cond.code yX3_addPeak cX3_addPeak 6 (some .int) :: U) 4 92 [.ref (ar 0), .int x1, .int x2, .int x3, .int x4] (wR γ ar sr) (some (.int rv)) (wR γ ar sr_z) := by
  refine Kt.of (by decide) rfl (Nat.le_of_ble_eq_true rfl) rfl ?_
  intro p e s m below meth c A ls C0 hP hD0 hS hl
  obtain ⟨hx, hb, hml, hown, hts, hr, hlocks, hK, hE, hA⟩ := id C0
  have hU : ∀ w ∈ U, w.before _ s = true := fun w h => hts w (List.mem_cons_of_mem _ h)
  have hD : ∀ (sr : GS), va_D A (wR γ ar sr) := fun _ => hD0.fst rfl
  have hl : lv_has ls 6 [(0, .ref (ar 0)), (1, .int x1), (2, .int x2), (3, .int x3), (4, .int x4)] := hl
  unfold f_X3_addPeak at hf
  refine lv_aload_n hx hb dX3_addPeak_0 rfl (lv_at hl 0 rfl) ?_
  refine va_get (D := γ.1) (ci := 3) (v := .int (sr 0 0)) (C := RX3) (T := TX3) (N := 18) hx hb hU uin3 hown hK hP 0 rfl rfl 0 (by decide) (hU _ U113) (fun _ h9 => h9) rfl dX3_addPeak_1 ?_
  refine lv_bipush (v := 10) hx hb dX3_addPeak_4 (by decide) ?_
  refine lv_icmp_lt (tgt := 11) hx hb dX3_addPeak_6 (by decide) (fun c_1 => ?_) (fun c_1 => ?_)
  · replace hf := ite_p c_1 hf
    refine lv_aload_n hx hb dX3_addPeak_11 rfl (lv_at hl 0 rfl) ?_
    refine va_get (D := γ.1) (ci := 3) (v := .int (sr 0 0)) (C := RX3) (T := TX3) (N := 18) hx hb hU uin3 hown hK hP 0 rfl rfl 0 (by decide) (hU _ U113) (fun _ h9 => h9) rfl dX3_addPeak_12 ?_
    refine lv_topi (fun u_2 e_u_2 => ?_)
    replace hf := nm_y hf e_u_2
    refine lv_istore (lv' := [(5, .int u_2), (0, .ref (ar 0)), (1, .int x1), (2, .int x2), (3, .int x3), (4, .int x4)]) hx hb dX3_addPeak_15 hl (by decide) rfl (fun ls hl => ?_)
    refine lv_aload_n hx hb dX3_addPeak_17 rfl (lv_at hl 1 rfl) ?_
    refine va_get (D := γ.1) (ci := 3) (v := .ref (ar 3)) (C := RX3) (T := TX3) (N := 18) hx hb hU uin3 hown hK hP 0 rfl rfl 2 (by decide) (hU _ U121) (fun _ h9 => h9) rfl dX3_addPeak_18 ?_
    refine lv_iload hx hb dX3_addPeak_21 (lv_at hl 0 rfl) ?_
    refine lv_iload_n hx hb dX3_addPeak_23 rfl (lv_at hl 2 rfl) ?_
    obtain ⟨g_3, hf⟩ := gd_of hf
    refine va_iast hx hb hK hP (hD _) hS 1 0 rfl rfl (inB_vp g_3) dX3_addPeak_24 (fun H locs hP _ hS => ?_)
    obtain ⟨sr_4, e_sr_4, hf⟩ := nm_of hf
    replace hP : va_P γ.1 vwCl (wR γ ar sr_4) H := by rw [e_sr_4]; exact hP
    refine lv_aload_n hx hb dX3_addPeak_25 rfl (lv_at hl 1 rfl) ?_
    refine va_get (D := γ.1) (ci := 3) (v := .ref (ar 4)) (C := RX3) (T := TX3) (N := 18) hx hb hU uin3 hown hK hP 0 rfl rfl 3 (by decide) (hU _ U124) (fun _ h9 => h9) rfl dX3_addPeak_26 ?_
    refine lv_iload hx hb dX3_addPeak_29 (lv_at hl 0 rfl) ?_
    refine lv_iload_n hx hb dX3_addPeak_31 rfl (lv_at hl 3 rfl) ?_
    obtain ⟨g_5, hf⟩ := gd_of hf
    refine va_iast hx hb hK hP (hD _) hS 2 0 rfl rfl (inB_vp g_5) dX3_addPeak_32 (fun H locs hP _ hS => ?_)
    obtain ⟨sr_6, e_sr_6, hf⟩ := nm_of hf
    replace hP : va_P γ.1 vwCl (wR γ ar sr_6) H := by rw [e_sr_6]; exact hP
    refine lv_aload_n hx hb dX3_addPeak_33 rfl (lv_at hl 1 rfl) ?_
    refine va_get (D := γ.1) (ci := 3) (v := .ref (ar 5)) (C := RX3) (T := TX3) (N := 18) hx hb hU uin3 hown hK hP 0 rfl rfl 4 (by decide) (hU _ U127) (fun _ h9 => h9) rfl dX3_addPeak_34 ?_
    refine lv_iload hx hb dX3_addPeak_37 (lv_at hl 0 rfl) ?_
    refine lv_iload_n hx hb dX3_addPeak_39 rfl (lv_at hl 4 rfl) ?_
    obtain ⟨g_7, hf⟩ := gd_of hf
    refine va_iast hx hb hK hP (hD _) hS 3 0 rfl rfl (inB_vp g_7) dX3_addPeak_40 (fun H locs hP _ hS => ?_)
    obtain ⟨sr_8, e_sr_8, hf⟩ := nm_of hf
    replace hP : va_P γ.1 vwCl (wR γ ar sr_8) H := by rw [e_sr_8]; exact hP
    refine lv_aload_n hx hb dX3_addPeak_41 rfl (lv_at hl 1 rfl) ?_
    refine va_get (D := γ.1) (ci := 3) (v := .ref (ar 6)) (C := RX3) (T := TX3) (N := 18) hx hb hU uin3 hown hK hP 0 rfl rfl 5 (by decide) (hU _ U129) (fun _ h9 => h9) rfl dX3_addPeak_42 ?_
    refine lv_iload hx hb dX3_addPeak_45 (lv_at hl 0 rfl) ?_
    refine lv_iload hx hb dX3_addPeak_47 (lv_at hl 5 rfl) ?_
    obtain ⟨g_9, hf⟩ := gd_of hf
    refine va_iast hx hb hK hP (hD _) hS 4 0 rfl rfl (inB_vp g_9) dX3_addPeak_49 (fun H locs hP _ hS => ?_)
    obtain ⟨sr_10, e_sr_10, hf⟩ := nm_of hf
    replace hP : va_P γ.1 vwCl (wR γ ar sr_10) H := by rw [e_sr_10]; exact hP
    refine lv_aload_n hx hb dX3_addPeak_50 rfl (lv_at hl 1 rfl) ?_
    refine va_get (D := γ.1) (ci := 3) (v := .ref (ar 7)) (C := RX3) (T := TX3) (N := 18) hx hb hU uin3 hown hK hP 0 rfl rfl 6 (by decide) (hU _ U131) (fun _ h9 => h9) rfl dX3_addPeak_51 ?_
    refine lv_iload hx hb dX3_addPeak_54 (lv_at hl 0 rfl) ?_
    refine lv_iconst (v := 0) hx hb dX3_addPeak_56 (by decide) ?_
    obtain ⟨g_11, hf⟩ := gd_of hf
    refine va_iast hx hb hK hP (hD _) hS 5 0 rfl rfl (inB_vp g_11) dX3_addPeak_57 (fun H locs hP _ hS => ?_)
    obtain ⟨sr_12, e_sr_12, hf⟩ := nm_of hf
    replace hP : va_P γ.1 vwCl (wR γ ar sr_12) H := by rw [e_sr_12]; exact hP
    refine lv_aload_n hx hb dX3_addPeak_58 rfl (lv_at hl 1 rfl) ?_
    refine va_get (D := γ.1) (ci := 3) (v := .ref (ar 8)) (C := RX3) (T := TX3) (N := 18) hx hb hU uin3 hown hK hP 0 rfl rfl 7 (by decide) (hU _ U134) (fun _ h9 => h9) rfl dX3_addPeak_59 ?_
    refine lv_iload hx hb dX3_addPeak_62 (lv_at hl 0 rfl) ?_
    refine lv_iconst (v := 0) hx hb dX3_addPeak_64 (by decide) ?_
    obtain ⟨g_13, hf⟩ := gd_of hf
    refine va_iast hx hb hK hP (hD _) hS 6 0 rfl rfl (inB_vp g_13) dX3_addPeak_65 (fun H locs hP _ hS => ?_)
    obtain ⟨sr_14, e_sr_14, hf⟩ := nm_of hf
    replace hP : va_P γ.1 vwCl (wR γ ar sr_14) H := by rw [e_sr_14]; exact hP
    refine lv_aload_n hx hb dX3_addPeak_66 rfl (lv_at hl 1 rfl) ?_
    refine lv_dup hx hb dX3_addPeak_67 rfl ?_
    refine va_get (D := γ.1) (ci := 3) (v := .int (sr_14 0 1)) (C := RX3) (T := TX3) (N := 18) hx hb hU uin3 hown hK hP 0 rfl rfl 1 (by decide) (hU _ U118) (fun _ h9 => h9) rfl dX3_addPeak_68 ?_
    refine lv_iconst (v := 1) hx hb dX3_addPeak_71 (by decide) ?_
    refine lv_iload hx hb dX3_addPeak_72 (lv_at hl 0 rfl) ?_
    refine lv_ishl hx hb dX3_addPeak_74 ?_
    refine lv_ior hx hb dX3_addPeak_75 ?_
    refine lv_topi (fun u_15 e_u_15 => ?_)
    replace hf := nm_y hf e_u_15
    refine va_put (D := γ.1) (ci := 3) (v := .int u_15) (ty := .int) (C := RX3) (T := TX3) (N := 18) hx hb hU uin3 tyX3 tyX3_ok nmX3 hown hK hP (hD _) hS 0 rfl rfl 1 (by decide) (hU _ U118) (fun _ h9 => h9) rfl (by decide +kernel) rfl rfl (Nat.le_of_ble_eq_true rfl) dX3_addPeak_76 (fun H locs hP _ hS => ?_)
    obtain ⟨sr_16, e_sr_16, hf⟩ := nm_of hf
    replace hP : va_P γ.1 vwCl (wR γ ar sr_16) H := by rw [e_sr_16]; exact hP
    refine lv_aload_n hx hb dX3_addPeak_79 rfl (lv_at hl 1 rfl) ?_
    refine lv_dup hx hb dX3_addPeak_80 rfl ?_
    refine va_get (D := γ.1) (ci := 3) (v := .int (sr_16 0 0)) (C := RX3) (T := TX3) (N := 18) hx hb hU uin3 hown hK hP 0 rfl rfl 0 (by decide) (hU _ U113) (fun _ h9 => h9) rfl dX3_addPeak_81 ?_
    refine lv_iconst (v := 1) hx hb dX3_addPeak_84 (by decide) ?_
    refine lv_iadd hx hb dX3_addPeak_85 ?_
    refine lv_topi (fun u_17 e_u_17 => ?_)
    replace hf := nm_y hf e_u_17
    refine va_put (D := γ.1) (ci := 3) (v := .int u_17) (ty := .int) (C := RX3) (T := TX3) (N := 18) hx hb hU uin3 tyX3 tyX3_ok nmX3 hown hK hP (hD _) hS 0 rfl rfl 0 (by decide) (hU _ U113) (fun _ h9 => h9) rfl (by decide +kernel) rfl rfl (Nat.le_of_ble_eq_true rfl) dX3_addPeak_86 (fun H locs hP _ hS => ?_)
    obtain ⟨sr_18, e_sr_18, hf⟩ := nm_of hf
    replace hP : va_P γ.1 vwCl (wR γ ar sr_18) H := by rw [e_sr_18]; exact hP
    refine lv_aload_n hx hb dX3_addPeak_89 rfl (lv_at hl 1 rfl) ?_
    obtain ⟨sr_19, hg_20, hf⟩ := bd_of hf
    refine kt_V0 (As := []) (rest := []) (st1 := []) (b := ar 0) C0 (c_X3_lookAround l γ ar hg_20) (cxV (nA := 0) hts goodU U481 U483 U7 U85 U484 (by decide +kernel) ⟨Nat.le_of_ble_eq_true rfl, Nat.le_of_ble_eq_true rfl⟩) hP (hD _) hS hl dX3_addPeak_90 0 3 rfl rfl rfl rfl (Nat.le_of_ble_eq_true rfl) rfl rfl (fun H locs hP hS => ?_)
    refine lv_iload hx hb dX3_addPeak_93 (lv_at hl 0 rfl) ?_
    obtain ⟨rfl, rfl⟩ := rt2 hf
    exact kt_iret C0 hP hS dX3_addPeak_95
  · replace hf := ite_n c_1 hf
    refine lv_iconst (v := -1) hx hb dX3_addPeak_9 (by decide) ?_
    obtain ⟨rfl, rfl⟩ := rt2 hf
    exact kt_iret C0 hP hS dX3_addPeak_10
set_option maxHeartbeats 4000000 in
set_option maxRecDepth 100000 in
theorem c_X3_addScreen (l : Launch) (γ : Gm) (ar : Nat → Nat) {sr : GS} {x1 : Int32} {x2 : Int32} {rv : Int32} {sr_z : GS} (hf : f_X3_addScreen sr x1 x2 = some (rv, sr_z)) : Kt l γ yX3_addScreen (Cond.code yX3_addScreen cX3_addScreen 3 (some .int) :: U) 4 92 [.ref (ar 0), .int x1, .int x2] (wR γ ar sr) (some (.int rv)) (wR γ ar sr_z) := by
  refine Kt.of (by decide) rfl (Nat.le_of_ble_eq_true rfl) rfl ?_
  intro p e s m below meth c A ls C0 hP hD0 hS hl
  obtain ⟨hx, hb, hml, hown, hts, hr, hlocks, hK, hE, hA⟩ := id C0
  have hU : ∀ w ∈ U, w.before _ s = true := fun w h => hts w (List.mem_cons_of_mem _ h)
  have hD : ∀ (sr : GS), va_D A (wR γ ar sr) := fun _ => hD0.fst rfl
  have hl : lv_has ls 3 [(0, .ref (ar 0)), (1, .int x1), (2, .int x2)] := hl
  unfold f_X3_addScreen at hf
  refine lv_aload_n hx hb dX3_addScreen_0 rfl (lv_at hl 0 rfl) ?_
  refine va_get (D := γ.1) (ci := 3) (v := .int (sr 0 10)) (C := RX3) (T := TX3) (N := 18) hx hb hU uin3 hown hK hP 0 rfl rfl 10 (by decide) (hU _ U138) (fun _ h9 => h9) rfl dX3_addScreen_1 ?_
  refine lv_bipush (v := 6) hx hb dX3_addScreen_4 (by decide) ?_
  refine lv_icmp_lt (tgt := 11) hx hb dX3_addScreen_6 (by decide) (fun c_1 => ?_) (fun c_1 => ?_)
  · replace hf := ite_p c_1 hf
    refine lv_aload_n hx hb dX3_addScreen_11 rfl (lv_at hl 0 rfl) ?_
    refine va_get (D := γ.1) (ci := 3) (v := .ref (ar 12)) (C := RX3) (T := TX3) (N := 18) hx hb hU uin3 hown hK hP 0 rfl rfl 11 (by decide) (hU _ U141) (fun _ h9 => h9) rfl dX3_addScreen_12 ?_
    refine lv_aload_n hx hb dX3_addScreen_15 rfl (lv_at hl 0 rfl) ?_
    refine va_get (D := γ.1) (ci := 3) (v := .int (sr 0 10)) (C := RX3) (T := TX3) (N := 18) hx hb hU uin3 hown hK hP 0 rfl rfl 10 (by decide) (hU _ U138) (fun _ h9 => h9) rfl dX3_addScreen_16 ?_
    refine lv_iload_n hx hb dX3_addScreen_19 rfl (lv_at hl 1 rfl) ?_
    obtain ⟨g_2, hf⟩ := gd_of hf
    refine va_iast hx hb hK hP (hD _) hS 9 0 rfl rfl (inB_vp g_2) dX3_addScreen_20 (fun H locs hP _ hS => ?_)
    obtain ⟨sr_3, e_sr_3, hf⟩ := nm_of hf
    replace hP : va_P γ.1 vwCl (wR γ ar sr_3) H := by rw [e_sr_3]; exact hP
    refine lv_aload_n hx hb dX3_addScreen_21 rfl (lv_at hl 0 rfl) ?_
    refine va_get (D := γ.1) (ci := 3) (v := .ref (ar 13)) (C := RX3) (T := TX3) (N := 18) hx hb hU uin3 hown hK hP 0 rfl rfl 12 (by decide) (hU _ U142) (fun _ h9 => h9) rfl dX3_addScreen_22 ?_
    refine lv_aload_n hx hb dX3_addScreen_25 rfl (lv_at hl 0 rfl) ?_
    refine va_get (D := γ.1) (ci := 3) (v := .int (sr_3 0 10)) (C := RX3) (T := TX3) (N := 18) hx hb hU uin3 hown hK hP 0 rfl rfl 10 (by decide) (hU _ U138) (fun _ h9 => h9) rfl dX3_addScreen_26 ?_
    refine lv_iload_n hx hb dX3_addScreen_29 rfl (lv_at hl 2 rfl) ?_
    obtain ⟨g_4, hf⟩ := gd_of hf
    refine va_iast hx hb hK hP (hD _) hS 10 0 rfl rfl (inB_vp g_4) dX3_addScreen_30 (fun H locs hP _ hS => ?_)
    obtain ⟨sr_5, e_sr_5, hf⟩ := nm_of hf
    replace hP : va_P γ.1 vwCl (wR γ ar sr_5) H := by rw [e_sr_5]; exact hP
    refine lv_aload_n hx hb dX3_addScreen_31 rfl (lv_at hl 0 rfl) ?_
    refine lv_dup hx hb dX3_addScreen_32 rfl ?_
    refine va_get (D := γ.1) (ci := 3) (v := .int (sr_5 0 10)) (C := RX3) (T := TX3) (N := 18) hx hb hU uin3 hown hK hP 0 rfl rfl 10 (by decide) (hU _ U138) (fun _ h9 => h9) rfl dX3_addScreen_33 ?_
    refine lv_iconst (v := 1) hx hb dX3_addScreen_36 (by decide) ?_
    refine lv_iadd hx hb dX3_addScreen_37 ?_
    refine lv_topi (fun u_6 e_u_6 => ?_)
    replace hf := nm_y hf e_u_6
    refine va_put (D := γ.1) (ci := 3) (v := .int u_6) (ty := .int) (C := RX3) (T := TX3) (N := 18) hx hb hU uin3 tyX3 tyX3_ok nmX3 hown hK hP (hD _) hS 0 rfl rfl 10 (by decide) (hU _ U138) (fun _ h9 => h9) rfl (by decide +kernel) rfl rfl (Nat.le_of_ble_eq_true rfl) dX3_addScreen_38 (fun H locs hP _ hS => ?_)
    obtain ⟨sr_7, e_sr_7, hf⟩ := nm_of hf
    replace hP : va_P γ.1 vwCl (wR γ ar sr_7) H := by rw [e_sr_7]; exact hP
    refine lv_aload_n hx hb dX3_addScreen_41 rfl (lv_at hl 0 rfl) ?_
    obtain ⟨sr_8, hg_9, hf⟩ := bd_of hf
    refine kt_V0 (As := []) (rest := []) (st1 := []) (b := ar 0) C0 (c_X3_lookAround l γ ar hg_9) (cxV (nA := 0) hts goodU U481 U483 U7 U85 U484 (by decide +kernel) ⟨Nat.le_of_ble_eq_true rfl, Nat.le_of_ble_eq_true rfl⟩) hP (hD _) hS hl dX3_addScreen_42 0 3 rfl rfl rfl rfl (Nat.le_of_ble_eq_true rfl) rfl rfl (fun H locs hP hS => ?_)
    refine lv_aload_n hx hb dX3_addScreen_45 rfl (lv_at hl 0 rfl) ?_
    refine va_get (D := γ.1) (ci := 3) (v := .int (sr_8 0 10)) (C := RX3) (T := TX3) (N := 18) hx hb hU uin3 hown hK hP 0 rfl rfl 10 (by decide) (hU _ U138) (fun _ h9 => h9) rfl dX3_addScreen_46 ?_
    refine lv_iconst (v := 1) hx hb dX3_addScreen_49 (by decide) ?_
    refine lv_isub hx hb dX3_addScreen_50 ?_
    obtain ⟨rfl, rfl⟩ := rt2 hf
    exact kt_iret C0 hP hS dX3_addScreen_51
  · replace hf := ite_n c_1 hf
    refine lv_iconst (v := -1) hx hb dX3_addScreen_9 (by decide) ?_
    obtain ⟨rfl, rfl⟩ := rt2 hf
    exact kt_iret C0 hP hS dX3_addScreen_10
set_option maxHeartbeats 4000000 in
set_option maxRecDepth 100000 in
theorem c_X3_addValley (l : Launch) (γ : Gm) (ar : Nat → Nat) {sr : GS} {x1 : Int32} {rv : Int32} {sr_z : GS} (hf : f_X3_addValley sr x1 = some (rv, sr_z)) : Kt l γ yX3_addValley (Cond.code yX3_addValley cX3_addValley 2 (some .int) :: U) 0 0 [.ref (ar 0), .int x1] (wR γ ar sr) (some (.int rv)) (wR γ ar sr_z) := by
  refine Kt.of (by decide) rfl (Nat.le_of_ble_eq_true rfl) rfl ?_
  intro p e s m below meth c A ls C0 hP hD0 hS hl
  obtain ⟨hx, hb, hml, hown, hts, hr, hlocks, hK, hE, hA⟩ := id C0
  have hU : ∀ w ∈ U, w.before _ s = true := fun w h => hts w (List.mem_cons_of_mem _ h)
  have hD : ∀ (sr : GS), va_D A (wR γ ar sr) := fun _ => hD0.fst rfl
  have hl : lv_has ls 2 [(0, .ref (ar 0)), (1, .int x1)] := hl
  unfold f_X3_addValley at hf
  refine lv_aload_n hx hb dX3_addValley_0 rfl (lv_at hl 0 rfl) ?_
  refine va_get (D := γ.1) (ci := 3) (v := .int (sr 0 13)) (C := RX3) (T := TX3) (N := 18) hx hb hU uin3 hown hK hP 0 rfl rfl 13 (by decide) (hU _ U143) (fun _ h9 => h9) rfl dX3_addValley_1 ?_
  refine lv_bipush (v := 8) hx hb dX3_addValley_4 (by decide) ?_
  refine lv_icmp_lt (tgt := 11) hx hb dX3_addValley_6 (by decide) (fun c_1 => ?_) (fun c_1 => ?_)
  · replace hf := ite_p c_1 hf
    refine lv_aload_n hx hb dX3_addValley_11 rfl (lv_at hl 0 rfl) ?_
    refine va_get (D := γ.1) (ci := 3) (v := .ref (ar 15)) (C := RX3) (T := TX3) (N := 18) hx hb hU uin3 hown hK hP 0 rfl rfl 14 (by decide) (hU _ U147) (fun _ h9 => h9) rfl dX3_addValley_12 ?_
    refine lv_aload_n hx hb dX3_addValley_15 rfl (lv_at hl 0 rfl) ?_
    refine va_get (D := γ.1) (ci := 3) (v := .int (sr 0 13)) (C := RX3) (T := TX3) (N := 18) hx hb hU uin3 hown hK hP 0 rfl rfl 13 (by decide) (hU _ U143) (fun _ h9 => h9) rfl dX3_addValley_16 ?_
    refine lv_iload_n hx hb dX3_addValley_19 rfl (lv_at hl 1 rfl) ?_
    obtain ⟨g_2, hf⟩ := gd_of hf
    refine va_iast hx hb hK hP (hD _) hS 11 0 rfl rfl (inB_vp g_2) dX3_addValley_20 (fun H locs hP _ hS => ?_)
    obtain ⟨sr_3, e_sr_3, hf⟩ := nm_of hf
    replace hP : va_P γ.1 vwCl (wR γ ar sr_3) H := by rw [e_sr_3]; exact hP
    refine lv_aload_n hx hb dX3_addValley_21 rfl (lv_at hl 0 rfl) ?_
    refine va_get (D := γ.1) (ci := 3) (v := .ref (ar 16)) (C := RX3) (T := TX3) (N := 18) hx hb hU uin3 hown hK hP 0 rfl rfl 15 (by decide) (hU _ U149) (fun _ h9 => h9) rfl dX3_addValley_22 ?_
    refine lv_aload_n hx hb dX3_addValley_25 rfl (lv_at hl 0 rfl) ?_
    refine va_get (D := γ.1) (ci := 3) (v := .int (sr_3 0 13)) (C := RX3) (T := TX3) (N := 18) hx hb hU uin3 hown hK hP 0 rfl rfl 13 (by decide) (hU _ U143) (fun _ h9 => h9) rfl dX3_addValley_26 ?_
    refine lv_iconst (v := 0) hx hb dX3_addValley_29 (by decide) ?_
    obtain ⟨g_4, hf⟩ := gd_of hf
    refine va_iast hx hb hK hP (hD _) hS 12 0 rfl rfl (inB_vp g_4) dX3_addValley_30 (fun H locs hP _ hS => ?_)
    obtain ⟨sr_5, e_sr_5, hf⟩ := nm_of hf
    replace hP : va_P γ.1 vwCl (wR γ ar sr_5) H := by rw [e_sr_5]; exact hP
    refine lv_aload_n hx hb dX3_addValley_31 rfl (lv_at hl 0 rfl) ?_
    refine lv_dup hx hb dX3_addValley_32 rfl ?_
    refine va_get (D := γ.1) (ci := 3) (v := .int (sr_5 0 13)) (C := RX3) (T := TX3) (N := 18) hx hb hU uin3 hown hK hP 0 rfl rfl 13 (by decide) (hU _ U143) (fun _ h9 => h9) rfl dX3_addValley_33 ?_
    refine lv_iconst (v := 1) hx hb dX3_addValley_36 (by decide) ?_
    refine lv_iadd hx hb dX3_addValley_37 ?_
    refine lv_topi (fun u_6 e_u_6 => ?_)
    replace hf := nm_y hf e_u_6
    refine va_put (D := γ.1) (ci := 3) (v := .int u_6) (ty := .int) (C := RX3) (T := TX3) (N := 18) hx hb hU uin3 tyX3 tyX3_ok nmX3 hown hK hP (hD _) hS 0 rfl rfl 13 (by decide) (hU _ U143) (fun _ h9 => h9) rfl (by decide +kernel) rfl rfl (Nat.le_of_ble_eq_true rfl) dX3_addValley_38 (fun H locs hP _ hS => ?_)
    obtain ⟨sr_7, e_sr_7, hf⟩ := nm_of hf
    replace hP : va_P γ.1 vwCl (wR γ ar sr_7) H := by rw [e_sr_7]; exact hP
    refine lv_aload_n hx hb dX3_addValley_41 rfl (lv_at hl 0 rfl) ?_
    refine va_get (D := γ.1) (ci := 3) (v := .int (sr_7 0 13)) (C := RX3) (T := TX3) (N := 18) hx hb hU uin3 hown hK hP 0 rfl rfl 13 (by decide) (hU _ U143) (fun _ h9 => h9) rfl dX3_addValley_42 ?_
    refine lv_iconst (v := 1) hx hb dX3_addValley_45 (by decide) ?_
    refine lv_isub hx hb dX3_addValley_46 ?_
    obtain ⟨rfl, rfl⟩ := rt2 hf
    exact kt_iret C0 hP hS dX3_addValley_47
  · replace hf := ite_n c_1 hf
    refine lv_iconst (v := -1) hx hb dX3_addValley_9 (by decide) ?_
    obtain ⟨rfl, rfl⟩ := rt2 hf
    exact kt_iret C0 hP hS dX3_addValley_10
set_option maxHeartbeats 4000000 in
set_option maxRecDepth 100000 in
theorem c_X3_putUnder (l : Launch) (γ : Gm) (ar : Nat → Nat) {sr : GS} {x1 : Int32} {x2 : Int32} {x3 : Int32} {sr_z : GS} (hf : f_X3_putUnder sr x1 x2 x3 = some sr_z) : Kt l γ yX3_putUnder (Cond.code yX3_putUnder cX3_putUnder 4 none :: U) 0 0 [.ref (ar 0), .int x1, .int x2, .int x3] (wR γ ar sr) none (wR γ ar sr_z) := by
  refine Kt.of (by decide) rfl (Nat.le_of_ble_eq_true rfl) rfl ?_
  intro p e s m below meth c A ls C0 hP hD0 hS hl
  obtain ⟨hx, hb, hml, hown, hts, hr, hlocks, hK, hE, hA⟩ := id C0
  have hU : ∀ w ∈ U, w.before _ s = true := fun w h => hts w (List.mem_cons_of_mem _ h)
  have hD : ∀ (sr : GS), va_D A (wR γ ar sr) := fun _ => hD0.fst rfl
  have hl : lv_has ls 4 [(0, .ref (ar 0)), (1, .int x1), (2, .int x2), (3, .int x3)] := hl
  unfold f_X3_putUnder at hf
  refine lv_iload_n hx hb dX3_putUnder_0 rfl (lv_at hl 3 rfl) ?_
  refine lv_if_eq (tgt := 19) hx hb dX3_putUnder_1 (by decide) (fun c_1 => ?_) (fun c_1 => ?_)
  · replace hf := ite_p c_1 hf
    refine lv_aload_n hx hb dX3_putUnder_19 rfl (lv_at hl 0 rfl) ?_
    refine va_get (D := γ.1) (ci := 3) (v := .ref (ar 16)) (C := RX3) (T := TX3) (N := 18) hx hb hU uin3 hown hK hP 0 rfl rfl 15 (by decide) (hU _ U149) (fun _ h9 => h9) rfl dX3_putUnder_20 ?_
    refine lv_iload_n hx hb dX3_putUnder_23 rfl (lv_at hl 1 rfl) ?_
    refine lv_dup2_11 hx hb dX3_putUnder_24 rfl rfl ?_
    obtain ⟨g_2, hf⟩ := gd_of hf
    refine va_iald hx hb hK hP 12 0 rfl rfl (inB_vp g_2) dX3_putUnder_25 ?_
    refine lv_iconst (v := 1) hx hb dX3_putUnder_26 (by decide) ?_
    refine lv_iload_n hx hb dX3_putUnder_27 rfl (lv_at hl 2 rfl) ?_
    refine lv_ishl hx hb dX3_putUnder_28 ?_
    refine lv_iconst (v := -1) hx hb dX3_putUnder_29 (by decide) ?_
    refine lv_ixor hx hb dX3_putUnder_30 ?_
    refine lv_iand hx hb dX3_putUnder_31 ?_
    refine lv_topi (fun u_3 e_u_3 => ?_)
    replace hf := nm_y hf e_u_3
    obtain ⟨g_4, hf⟩ := gd_of hf
    refine va_iast hx hb hK hP (hD _) hS 12 0 rfl rfl (inB_vp g_4) dX3_putUnder_32 (fun H locs hP _ hS => ?_)
    obtain ⟨sr_5, e_sr_5, hf⟩ := nm_of hf
    replace hP : va_P γ.1 vwCl (wR γ ar sr_5) H := by rw [e_sr_5]; exact hP
    obtain rfl := Option.some.inj hf
    exact kt_vret C0 hP hS dX3_putUnder_33
  · replace hf := ite_n c_1 hf
    refine lv_aload_n hx hb dX3_putUnder_4 rfl (lv_at hl 0 rfl) ?_
    refine va_get (D := γ.1) (ci := 3) (v := .ref (ar 16)) (C := RX3) (T := TX3) (N := 18) hx hb hU uin3 hown hK hP 0 rfl rfl 15 (by decide) (hU _ U149) (fun _ h9 => h9) rfl dX3_putUnder_5 ?_
    refine lv_iload_n hx hb dX3_putUnder_8 rfl (lv_at hl 1 rfl) ?_
    refine lv_dup2_11 hx hb dX3_putUnder_9 rfl rfl ?_
    obtain ⟨g_6, hf⟩ := gd_of hf
    refine va_iald hx hb hK hP 12 0 rfl rfl (inB_vp g_6) dX3_putUnder_10 ?_
    refine lv_iconst (v := 1) hx hb dX3_putUnder_11 (by decide) ?_
    refine lv_iload_n hx hb dX3_putUnder_12 rfl (lv_at hl 2 rfl) ?_
    refine lv_ishl hx hb dX3_putUnder_13 ?_
    refine lv_ior hx hb dX3_putUnder_14 ?_
    refine lv_topi (fun u_7 e_u_7 => ?_)
    replace hf := nm_y hf e_u_7
    obtain ⟨g_8, hf⟩ := gd_of hf
    refine va_iast hx hb hK hP (hD _) hS 12 0 rfl rfl (inB_vp g_8) dX3_putUnder_15 (fun H locs hP _ hS => ?_)
    obtain ⟨sr_9, e_sr_9, hf⟩ := nm_of hf
    replace hP : va_P γ.1 vwCl (wR γ ar sr_9) H := by rw [e_sr_9]; exact hP
    refine lv_goto (tgt := 33) hx hb dX3_putUnder_16 (by decide) ?_
    obtain rfl := Option.some.inj hf
    exact kt_vret C0 hP hS dX3_putUnder_33
set_option maxHeartbeats 4000000 in
set_option maxRecDepth 100000 in
theorem c_X3_seesPeak (l : Launch) (γ : Gm) (ar : Nat → Nat) {sr : GS} {x1 : Int32} {x2 : Int32} {rv : Int32} (hf : f_X3_seesPeak sr x1 x2 = some rv) : Kt l γ yX3_seesPeak (Cond.code yX3_seesPeak cX3_seesPeak 3 (some .boolean) :: U) 1 21 [.ref (ar 0), .int x1, .int x2] (wR γ ar sr) (some (.int rv)) (wR γ ar sr) := by
  refine Kt.of (by decide) rfl (Nat.le_of_ble_eq_true rfl) rfl ?_
  intro p e s m below meth c A ls C0 hP hD0 hS hl
  obtain ⟨hx, hb, hml, hown, hts, hr, hlocks, hK, hE, hA⟩ := id C0
  have hU : ∀ w ∈ U, w.before _ s = true := fun w h => hts w (List.mem_cons_of_mem _ h)
  have hD : ∀ (sr : GS), va_D A (wR γ ar sr) := fun _ => hD0.fst rfl
  have hl : lv_has ls 3 [(0, .ref (ar 0)), (1, .int x1), (2, .int x2)] := hl
  unfold f_X3_seesPeak at hf
  refine lv_aload_n hx hb dX3_seesPeak_0 rfl (lv_at hl 0 rfl) ?_
  refine va_get (D := γ.1) (ci := 3) (v := .ref (ar 8)) (C := RX3) (T := TX3) (N := 18) hx hb hU uin3 hown hK hP 0 rfl rfl 7 (by decide) (hU _ U134) (fun _ h9 => h9) rfl dX3_seesPeak_1 ?_
  refine lv_iload_n hx hb dX3_seesPeak_4 rfl (lv_at hl 1 rfl) ?_
  obtain ⟨g_1, hf⟩ := gd_of hf
  refine va_iald hx hb hK hP 6 0 rfl rfl (inB_vp g_1) dX3_seesPeak_5 ?_
  refine lv_iload_n hx hb dX3_seesPeak_6 rfl (lv_at hl 2 rfl) ?_
  obtain ⟨r_2, hg_3, hf⟩ := bd_of hf
  refine kt_SN (As := [.int (sr 8 x1.toNatClampNeg), .int x2]) (rest := []) (st1 := [.int r_2]) C0 (c_X6_bit l γ hg_3) (cxN (nA := 2) hts goodU hE NW40 U441 U84 U442 (by decide +kernel) ⟨Nat.le_of_ble_eq_true rfl, Nat.le_of_ble_eq_true rfl⟩) hP (hD _) hS hl dX3_seesPeak_7 rfl (Nat.le_of_ble_eq_true rfl) rfl rfl (fun H locs hP hS => ?_)
  refine lv_iconst (v := 1) hx hb dX3_seesPeak_10 (by decide) ?_
  refine lv_icmp_ne (tgt := 18) hx hb dX3_seesPeak_11 (by decide) (fun c_4 => ?_) (fun c_4 => ?_)
  · replace hf := ite_n c_4 hf
    refine lv_iconst (v := 0) hx hb dX3_seesPeak_18 (by decide) ?_
    obtain rfl := Option.some.inj hf
    exact kt_zret C0 (by decide) hP hS dX3_seesPeak_19
  · replace hf := ite_p c_4 hf
    refine lv_iconst (v := 1) hx hb dX3_seesPeak_14 (by decide) ?_
    refine lv_goto (tgt := 19) hx hb dX3_seesPeak_15 (by decide) ?_
    obtain rfl := Option.some.inj hf
    exact kt_zret C0 (by decide) hP hS dX3_seesPeak_19
set_option maxHeartbeats 4000000 in
set_option maxRecDepth 100000 in
theorem c_X3_sinceOf (l : Launch) (γ : Gm) (ar : Nat → Nat) {sr : GS} {x1 : Int32} {x2 : Int32} {rv : Int32} (hf : f_X3_sinceOf sr x1 x2 = some rv) : Kt l γ yX3_sinceOf (Cond.code yX3_sinceOf cX3_sinceOf 3 (some .int) :: U) 0 0 [.ref (ar 0), .int x1, .int x2] (wR γ ar sr) (some (.int rv)) (wR γ ar sr) := by
  refine Kt.of (by decide) rfl (Nat.le_of_ble_eq_true rfl) rfl ?_
  intro p e s m below meth c A ls C0 hP hD0 hS hl
  obtain ⟨hx, hb, hml, hown, hts, hr, hlocks, hK, hE, hA⟩ := id C0
  have hU : ∀ w ∈ U, w.before _ s = true := fun w h => hts w (List.mem_cons_of_mem _ h)
  have hD : ∀ (sr : GS), va_D A (wR γ ar sr) := fun _ => hD0.fst rfl
  have hl : lv_has ls 3 [(0, .ref (ar 0)), (1, .int x1), (2, .int x2)] := hl
  unfold f_X3_sinceOf at hf
  refine lv_aload_n hx hb dX3_sinceOf_0 rfl (lv_at hl 0 rfl) ?_
  refine va_get (D := γ.1) (ci := 3) (v := .ref (ar 9)) (C := RX3) (T := TX3) (N := 18) hx hb hU uin3 hown hK hP 0 rfl rfl 8 (by decide) (hU _ U136) (fun _ h9 => h9) rfl dX3_sinceOf_1 ?_
  refine lv_iload_n hx hb dX3_sinceOf_4 rfl (lv_at hl 1 rfl) ?_
  refine lv_bipush (v := 10) hx hb dX3_sinceOf_5 (by decide) ?_
  refine lv_imul hx hb dX3_sinceOf_7 ?_
  refine lv_iload_n hx hb dX3_sinceOf_8 rfl (lv_at hl 2 rfl) ?_
  refine lv_iadd hx hb dX3_sinceOf_9 ?_
  obtain ⟨g_1, hf⟩ := gd_of hf
  refine va_iald hx hb hK hP 7 0 rfl rfl (inB_vp g_1) dX3_sinceOf_10 ?_
  obtain rfl := Option.some.inj hf
  exact kt_iret C0 hP hS dX3_sinceOf_11
set_option maxHeartbeats 4000000 in
set_option maxRecDepth 100000 in
theorem c_X3_leastScreen (l : Launch) (γ : Gm) (ar : Nat → Nat) {sr : GS} {x1 : Int32} {x2 : Int32} {x3 : Int32} {rv : Int32} (hf : f_X3_leastScreen sr x1 x2 x3 = some rv) : Kt l γ yX3_leastScreen (Cond.code yX3_leastScreen cX3_leastScreen 7 (some .int) :: U) 1 23 [.ref (ar 0), .int x1, .int x2, .int x3] (wR γ ar sr) (some (.int rv)) (wR γ ar sr) := by
  refine Kt.of (by decide) rfl (Nat.le_of_ble_eq_true rfl) rfl ?_
  intro p e s m below meth c A ls C0 hP hD0 hS hl
  obtain ⟨hx, hb, hml, hown, hts, hr, hlocks, hK, hE, hA⟩ := id C0
  have hU : ∀ w ∈ U, w.before _ s = true := fun w h => hts w (List.mem_cons_of_mem _ h)
  have hD : ∀ (sr : GS), va_D A (wR γ ar sr) := fun _ => hD0.fst rfl
  have hl : lv_has ls 7 [(0, .ref (ar 0)), (1, .int x1), (2, .int x2), (3, .int x3)] := hl
  have J33 : ∀ (x3_9 : Int32) (x4_10 : Int32) (t0_11 : Int32) (H : Heap) (locs : List Loc) (ls : Array Slot), f_X3_leastScreen_J33 sr x3_9 x4_10 t0_11 = some rv → va_P γ.1 vwCl (wR γ ar sr) H → va_S A s.heap H locs → lv_has ls 7 [(0, .ref (ar 0)), (3, .int x3_9), (4, .int x4_10)] → W p l e (rmK 1 23) s m ([.ref (ar 0), .int x1, .int x2, .int x3] : List Value).toArray below meth c H locs 0 0 (MQ below (KQ γ A (some (.int rv)) (wR γ ar sr)) ([.ref (ar 0), .int x1, .int x2, .int x3] : List Value).toArray s 0 0 A) (F0 m 33 ls [.int t0_11]) := by
    intro x3_9 x4_10 t0_11 H locs ls hf hP hS hl
    unfold f_X3_leastScreen_J33 at hf
    refine lv_istore (lv' := [(5, .int t0_11), (0, .ref (ar 0)), (3, .int x3_9), (4, .int x4_10)]) hx hb dX3_leastScreen_33 hl (by decide) rfl (fun ls hl => ?_)
    refine lv_aload_n hx hb dX3_leastScreen_35 rfl (lv_at hl 1 rfl) ?_
    refine va_get (D := γ.1) (ci := 3) (v := .ref (ar 5)) (C := RX3) (T := TX3) (N := 18) hx hb hU uin3 hown hK hP 0 rfl rfl 4 (by decide) (hU _ U127) (fun _ h9 => h9) rfl dX3_leastScreen_36 ?_
    refine lv_iload hx hb dX3_leastScreen_39 (lv_at hl 0 rfl) ?_
    obtain ⟨g_12, hf⟩ := gd_of hf
    refine va_iald hx hb hK hP 3 0 rfl rfl (inB_vp g_12) dX3_leastScreen_41 ?_
    refine lv_aload_n hx hb dX3_leastScreen_42 rfl (lv_at hl 1 rfl) ?_
    refine va_get (D := γ.1) (ci := 3) (v := .ref (ar 5)) (C := RX3) (T := TX3) (N := 18) hx hb hU uin3 hown hK hP 0 rfl rfl 4 (by decide) (hU _ U127) (fun _ h9 => h9) rfl dX3_leastScreen_43 ?_
    refine lv_iload hx hb dX3_leastScreen_46 (lv_at hl 3 rfl) ?_
    obtain ⟨g_13, hf⟩ := gd_of hf
    refine va_iald hx hb hK hP 3 0 rfl rfl (inB_vp g_13) dX3_leastScreen_48 ?_
    refine lv_isub hx hb dX3_leastScreen_49 ?_
    refine lv_topi (fun u_14 e_u_14 => ?_)
    replace hf := nm_y hf e_u_14
    refine lv_istore (lv' := [(6, .int u_14), (5, .int t0_11), (0, .ref (ar 0)), (3, .int x3_9), (4, .int x4_10)]) hx hb dX3_leastScreen_50 hl (by decide) rfl (fun ls hl => ?_)
    refine lv_iload hx hb dX3_leastScreen_52 (lv_at hl 0 rfl) ?_
    refine lv_if_le (tgt := 79) hx hb dX3_leastScreen_54 (by decide) (fun c_15 => ?_) (fun c_15 => ?_)
    · replace hf := ite_p c_15 hf
      refine lv_iconst (v := -1) hx hb dX3_leastScreen_79 (by decide) ?_
      obtain rfl := Option.some.inj hf
      exact kt_iret C0 hP hS dX3_leastScreen_80
    · replace hf := ite_n c_15 hf
      refine lv_iload_n hx hb dX3_leastScreen_57 rfl (lv_at hl 3 rfl) ?_
      refine lv_aload_n hx hb dX3_leastScreen_58 rfl (lv_at hl 2 rfl) ?_
      refine va_get (D := γ.1) (ci := 3) (v := .ref (ar 5)) (C := RX3) (T := TX3) (N := 18) hx hb hU uin3 hown hK hP 0 rfl rfl 4 (by decide) (hU _ U127) (fun _ h9 => h9) rfl dX3_leastScreen_59 ?_
      refine lv_iload hx hb dX3_leastScreen_62 (lv_at hl 4 rfl) ?_
      obtain ⟨g_16, hf⟩ := gd_of hf
      refine va_iald hx hb hK hP 3 0 rfl rfl (inB_vp g_16) dX3_leastScreen_64 ?_
      refine lv_icmp_le (tgt := 79) hx hb dX3_leastScreen_65 (by decide) (fun c_17 => ?_) (fun c_17 => ?_)
      · replace hf := ite_p c_17 hf
        refine lv_iconst (v := -1) hx hb dX3_leastScreen_79 (by decide) ?_
        obtain rfl := Option.some.inj hf
        exact kt_iret C0 hP hS dX3_leastScreen_80
      · replace hf := ite_n c_17 hf
        refine lv_iload_n hx hb dX3_leastScreen_68 rfl (lv_at hl 3 rfl) ?_
        refine lv_aload_n hx hb dX3_leastScreen_69 rfl (lv_at hl 2 rfl) ?_
        refine va_get (D := γ.1) (ci := 3) (v := .ref (ar 5)) (C := RX3) (T := TX3) (N := 18) hx hb hU uin3 hown hK hP 0 rfl rfl 4 (by decide) (hU _ U127) (fun _ h9 => h9) rfl dX3_leastScreen_70 ?_
        refine lv_iload hx hb dX3_leastScreen_73 (lv_at hl 1 rfl) ?_
        obtain ⟨g_18, hf⟩ := gd_of hf
        refine va_iald hx hb hK hP 3 0 rfl rfl (inB_vp g_18) dX3_leastScreen_75 ?_
        refine lv_icmp_lt (tgt := 81) hx hb dX3_leastScreen_76 (by decide) (fun c_19 => ?_) (fun c_19 => ?_)
        · replace hf := ite_p c_19 hf
          refine lv_aload_n hx hb dX3_leastScreen_81 rfl (lv_at hl 2 rfl) ?_
          refine lv_iload hx hb dX3_leastScreen_82 (lv_at hl 4 rfl) ?_
          refine lv_iload hx hb dX3_leastScreen_84 (lv_at hl 1 rfl) ?_
          refine lv_iload_n hx hb dX3_leastScreen_86 rfl (lv_at hl 3 rfl) ?_
          obtain ⟨r_20, hg_21, hf⟩ := bd_of hf
          refine kt_V0 (As := [.int x4_10, .int t0_11, .int x3_9]) (rest := []) (st1 := [.int r_20]) (b := ar 0) C0 (c_X3_lineOver l γ ar hg_21) (cxV (nA := 3) hts goodU U493 U495 U10 U85 U496 (by decide +kernel) ⟨Nat.le_of_ble_eq_true rfl, Nat.le_of_ble_eq_true rfl⟩) hP (hD _) hS hl dX3_leastScreen_87 0 3 rfl rfl rfl rfl (Nat.le_of_ble_eq_true rfl) rfl rfl (fun H locs hP hS => ?_)
          refine lv_iload hx hb dX3_leastScreen_90 (lv_at hl 0 rfl) ?_
          refine lv_iadd hx hb dX3_leastScreen_92 ?_
          refine lv_iconst (v := 1) hx hb dX3_leastScreen_93 (by decide) ?_
          refine lv_isub hx hb dX3_leastScreen_94 ?_
          refine lv_iload hx hb dX3_leastScreen_95 (lv_at hl 0 rfl) ?_
          obtain ⟨g_22, hf⟩ := gd_of hf
          refine lv_idiv hx hb dX3_leastScreen_97 (neB_of g_22) ?_
          obtain rfl := Option.some.inj hf
          exact kt_iret C0 hP hS dX3_leastScreen_98
        · replace hf := ite_n c_19 hf
          refine lv_iconst (v := -1) hx hb dX3_leastScreen_79 (by decide) ?_
          obtain rfl := Option.some.inj hf
          exact kt_iret C0 hP hS dX3_leastScreen_80
  have J20 : ∀ (x1_4 : Int32) (x2_5 : Int32) (x3_6 : Int32) (t0_7 : Int32) (H : Heap) (locs : List Loc) (ls : Array Slot), f_X3_leastScreen_J20 sr x1_4 x2_5 x3_6 t0_7 = some rv → va_P γ.1 vwCl (wR γ ar sr) H → va_S A s.heap H locs → lv_has ls 7 [(0, .ref (ar 0)), (1, .int x1_4), (2, .int x2_5), (3, .int x3_6)] → W p l e (rmK 1 23) s m ([.ref (ar 0), .int x1, .int x2, .int x3] : List Value).toArray below meth c H locs 0 0 (MQ below (KQ γ A (some (.int rv)) (wR γ ar sr)) ([.ref (ar 0), .int x1, .int x2, .int x3] : List Value).toArray s 0 0 A) (F0 m 20 ls [.int t0_7]) := by
    intro x1_4 x2_5 x3_6 t0_7 H locs ls hf hP hS hl
    unfold f_X3_leastScreen_J20 at hf
    refine lv_istore (lv' := [(4, .int t0_7), (0, .ref (ar 0)), (1, .int x1_4), (2, .int x2_5), (3, .int x3_6)]) hx hb dX3_leastScreen_20 hl (by decide) rfl (fun ls hl => ?_)
    refine lv_iload hx hb dX3_leastScreen_22 (lv_at hl 0 rfl) ?_
    refine lv_iload_n hx hb dX3_leastScreen_24 rfl (lv_at hl 2 rfl) ?_
    refine lv_icmp_ne (tgt := 32) hx hb dX3_leastScreen_25 (by decide) (fun c_8 => ?_) (fun c_8 => ?_)
    · replace hf := ite_n c_8 hf
      refine lv_iload_n hx hb dX3_leastScreen_32 rfl (lv_at hl 2 rfl) ?_
      exact J33 x3_6 t0_7 x1_4 _ _ _ hf hP hS (lv_sub hl [1, 4, 0] rfl)
    · replace hf := ite_p c_8 hf
      refine lv_iload_n hx hb dX3_leastScreen_28 rfl (lv_at hl 3 rfl) ?_
      refine lv_goto (tgt := 33) hx hb dX3_leastScreen_29 (by decide) ?_
      exact J33 x3_6 t0_7 x2_5 _ _ _ hf hP hS (lv_sub hl [1, 4, 0] rfl)
  unfold f_X3_leastScreen at hf
  refine lv_aload_n hx hb dX3_leastScreen_0 rfl (lv_at hl 0 rfl) ?_
  refine va_get (D := γ.1) (ci := 3) (v := .ref (ar 5)) (C := RX3) (T := TX3) (N := 18) hx hb hU uin3 hown hK hP 0 rfl rfl 4 (by decide) (hU _ U127) (fun _ h9 => h9) rfl dX3_leastScreen_1 ?_
  refine lv_iload_n hx hb dX3_leastScreen_4 rfl (lv_at hl 1 rfl) ?_
  obtain ⟨g_1, hf⟩ := gd_of hf
  refine va_iald hx hb hK hP 3 0 rfl rfl (inB_vp g_1) dX3_leastScreen_5 ?_
  refine lv_aload_n hx hb dX3_leastScreen_6 rfl (lv_at hl 0 rfl) ?_
  refine va_get (D := γ.1) (ci := 3) (v := .ref (ar 5)) (C := RX3) (T := TX3) (N := 18) hx hb hU uin3 hown hK hP 0 rfl rfl 4 (by decide) (hU _ U127) (fun _ h9 => h9) rfl dX3_leastScreen_7 ?_
  refine lv_iload_n hx hb dX3_leastScreen_10 rfl (lv_at hl 2 rfl) ?_
  obtain ⟨g_2, hf⟩ := gd_of hf
  refine va_iald hx hb hK hP 3 0 rfl rfl (inB_vp g_2) dX3_leastScreen_11 ?_
  refine lv_icmp_ge (tgt := 19) hx hb dX3_leastScreen_12 (by decide) (fun c_3 => ?_) (fun c_3 => ?_)
  · replace hf := ite_p c_3 hf
    refine lv_iload_n hx hb dX3_leastScreen_19 rfl (lv_at hl 2 rfl) ?_
    exact J20 x1 x2 x3 x2 _ _ _ hf hP hS (lv_sub hl [0, 1, 2, 3] rfl)
  · replace hf := ite_n c_3 hf
    refine lv_iload_n hx hb dX3_leastScreen_15 rfl (lv_at hl 1 rfl) ?_
    refine lv_goto (tgt := 20) hx hb dX3_leastScreen_16 (by decide) ?_
    exact J20 x1 x2 x3 x1 _ _ _ hf hP hS (lv_sub hl [0, 1, 2, 3] rfl)
set_option maxHeartbeats 4000000 in
set_option maxRecDepth 100000 in
theorem c_X3_watchersOf (l : Launch) (γ : Gm) (ar : Nat → Nat) {sr : GS} {x1 : Int32} {rv : Int32} (hf : f_X3_watchersOf sr x1 = some rv) : Kt l γ yX3_watchersOf (Cond.code yX3_watchersOf cX3_watchersOf 4 (some .int) :: U) 0 0 [.ref (ar 0), .int x1] (wR γ ar sr) (some (.int rv)) (wR γ ar sr) := by
  refine Kt.of (by decide) rfl (Nat.le_of_ble_eq_true rfl) rfl ?_
  intro p e s m below meth c A ls C0 hP hD0 hS hl
  obtain ⟨hx, hb, hml, hown, hts, hr, hlocks, hK, hE, hA⟩ := id C0
  have hU : ∀ w ∈ U, w.before _ s = true := fun w h => hts w (List.mem_cons_of_mem _ h)
  have hD : ∀ (sr : GS), va_D A (wR γ ar sr) := fun _ => hD0.fst rfl
  have hl : lv_has ls 4 [(0, .ref (ar 0)), (1, .int x1)] := hl
  have L4 : ∀ (x1_1 : Int32) (n : Nat) (x2_2 : Int32) (x3_3 : Int32) (H : Heap) (locs : List Loc) (ls : Array Slot), f_X3_watchersOf_L4 sr x1_1 n x2_2 x3_3 = some rv → va_P γ.1 vwCl (wR γ ar sr) H → va_S A s.heap H locs → lv_has ls 4 [(0, .ref (ar 0)), (1, .int x1_1), (2, .int x2_2), (3, .int x3_3)] → W p l e (rmK 0 0) s m ([.ref (ar 0), .int x1] : List Value).toArray below meth c H locs 0 0 (MQ below (KQ γ A (some (.int rv)) (wR γ ar sr)) ([.ref (ar 0), .int x1] : List Value).toArray s 0 0 A) (F0 m 4 ls []) := by
    intro x1_1
    intro n
    induction n with
    | zero =>
      intro x2_2 x3_3 H locs ls hf
      have hf : none = some _ := hf
      cases hf
    | succ n ih =>
      intro x2_2 x3_3 H locs ls hf hP hS hl
      rw [f_X3_watchersOf_L4.eq_2] at hf
      refine lv_iload_n hx hb dX3_watchersOf_4 rfl (lv_at hl 3 rfl) ?_
      refine lv_aload_n hx hb dX3_watchersOf_5 rfl (lv_at hl 0 rfl) ?_
      refine va_get (D := γ.1) (ci := 3) (v := .int (sr 0 0)) (C := RX3) (T := TX3) (N := 18) hx hb hU uin3 hown hK hP 0 rfl rfl 0 (by decide) (hU _ U113) (fun _ h9 => h9) rfl dX3_watchersOf_6 ?_
      refine lv_icmp_ge (tgt := 35) hx hb dX3_watchersOf_9 (by decide) (fun c_4 => ?_) (fun c_4 => ?_)
      · replace hf := ite_p c_4 hf
        refine lv_iload_n hx hb dX3_watchersOf_35 rfl (lv_at hl 2 rfl) ?_
        obtain rfl := Option.some.inj hf
        exact kt_iret C0 hP hS dX3_watchersOf_36
      · replace hf := ite_n c_4 hf
        refine lv_aload_n hx hb dX3_watchersOf_12 rfl (lv_at hl 0 rfl) ?_
        refine va_get (D := γ.1) (ci := 3) (v := .ref (ar 8)) (C := RX3) (T := TX3) (N := 18) hx hb hU uin3 hown hK hP 0 rfl rfl 7 (by decide) (hU _ U134) (fun _ h9 => h9) rfl dX3_watchersOf_13 ?_
        refine lv_iload_n hx hb dX3_watchersOf_16 rfl (lv_at hl 3 rfl) ?_
        obtain ⟨g_5, hf⟩ := gd_of hf
        refine va_iald hx hb hK hP 6 0 rfl rfl (inB_vp g_5) dX3_watchersOf_17 ?_
        refine lv_iload_n hx hb dX3_watchersOf_18 rfl (lv_at hl 1 rfl) ?_
        refine lv_iand hx hb dX3_watchersOf_19 ?_
        refine lv_if_eq (tgt := 29) hx hb dX3_watchersOf_20 (by decide) (fun c_6 => ?_) (fun c_6 => ?_)
        · replace hf := ite_p c_6 hf
          obtain ⟨x3_7, e_x3_7⟩ : ∃ y : Int32, y = x3_3 + (1 : Int32) := ⟨_, rfl⟩
          replace hf := nm_y hf e_x3_7
          refine lv_iinc (v := x3_7) (lv' := [(3, .int x3_7), (0, .ref (ar 0)), (1, .int x1_1), (2, .int x2_2)]) hx hb dX3_watchersOf_29 hl (k := 3) rfl (by rw [e_x3_7]; rfl) (by decide) rfl (fun ls hl => ?_)
          refine lv_goto (tgt := 4) hx hb dX3_watchersOf_32 (by decide) ?_
          exact ih x2_2 x3_7 _ _ _ hf hP hS (lv_sub hl [1, 2, 3, 0] rfl)
        · replace hf := ite_n c_6 hf
          refine lv_iload_n hx hb dX3_watchersOf_23 rfl (lv_at hl 2 rfl) ?_
          refine lv_iconst (v := 1) hx hb dX3_watchersOf_24 (by decide) ?_
          refine lv_iload_n hx hb dX3_watchersOf_25 rfl (lv_at hl 3 rfl) ?_
          refine lv_ishl hx hb dX3_watchersOf_26 ?_
          refine lv_ior hx hb dX3_watchersOf_27 ?_
          refine lv_topi (fun u_8 e_u_8 => ?_)
          replace hf := nm_y hf e_u_8
          refine lv_istore_n (lv' := [(2, .int u_8), (0, .ref (ar 0)), (1, .int x1_1), (3, .int x3_3)]) hx hb dX3_watchersOf_28 rfl hl (by decide) rfl (fun ls hl => ?_)
          obtain ⟨x3_9, e_x3_9⟩ : ∃ y : Int32, y = x3_3 + (1 : Int32) := ⟨_, rfl⟩
          replace hf := nm_y hf e_x3_9
          refine lv_iinc (v := x3_9) (lv' := [(3, .int x3_9), (2, .int u_8), (0, .ref (ar 0)), (1, .int x1_1)]) hx hb dX3_watchersOf_29 hl (k := 3) rfl (by rw [e_x3_9]; rfl) (by decide) rfl (fun ls hl => ?_)
          refine lv_goto (tgt := 4) hx hb dX3_watchersOf_32 (by decide) ?_
          exact ih u_8 x3_9 _ _ _ hf hP hS (lv_sub hl [2, 3, 1, 0] rfl)
  unfold f_X3_watchersOf at hf
  refine lv_iconst (v := 0) hx hb dX3_watchersOf_0 (by decide) ?_
  refine lv_istore_n (lv' := [(2, .int (0 : Int32)), (0, .ref (ar 0)), (1, .int x1)]) hx hb dX3_watchersOf_1 rfl hl (by decide) rfl (fun ls hl => ?_)
  refine lv_iconst (v := 0) hx hb dX3_watchersOf_2 (by decide) ?_
  refine lv_istore_n (lv' := [(3, .int (0 : Int32)), (2, .int (0 : Int32)), (0, .ref (ar 0)), (1, .int x1)]) hx hb dX3_watchersOf_3 rfl hl (by decide) rfl (fun ls hl => ?_)
  exact L4 x1 FU (0 : Int32) (0 : Int32) _ _ _ hf hP hS (lv_sub hl [2, 3, 1, 0] rfl)
set_option maxHeartbeats 4000000 in
set_option maxRecDepth 100000 in
theorem c_X3_allSeeOne (l : Launch) (γ : Gm) (ar : Nat → Nat) {sr : GS} {x1 : Int32} {x2 : Int32} {rv : Int32} (hf : f_X3_allSeeOne sr x1 x2 = some rv) : Kt l γ yX3_allSeeOne (Cond.code yX3_allSeeOne cX3_allSeeOne 4 (some .boolean) :: U) 1 21 [.ref (ar 0), .int x1, .int x2] (wR γ ar sr) (some (.int rv)) (wR γ ar sr) := by
  refine Kt.of (by decide) rfl (Nat.le_of_ble_eq_true rfl) rfl ?_
  intro p e s m below meth c A ls C0 hP hD0 hS hl
  obtain ⟨hx, hb, hml, hown, hts, hr, hlocks, hK, hE, hA⟩ := id C0
  have hU : ∀ w ∈ U, w.before _ s = true := fun w h => hts w (List.mem_cons_of_mem _ h)
  have hD : ∀ (sr : GS), va_D A (wR γ ar sr) := fun _ => hD0.fst rfl
  have hl : lv_has ls 4 [(0, .ref (ar 0)), (1, .int x1), (2, .int x2)] := hl
  have L2 : ∀ (x1_1 : Int32) (x2_2 : Int32) (n : Nat) (x3_3 : Int32) (H : Heap) (locs : List Loc) (ls : Array Slot), f_X3_allSeeOne_L2 sr x1_1 x2_2 n x3_3 = some rv → va_P γ.1 vwCl (wR γ ar sr) H → va_S A s.heap H locs → lv_has ls 4 [(0, .ref (ar 0)), (1, .int x1_1), (2, .int x2_2), (3, .int x3_3)] → W p l e (rmK 1 21) s m ([.ref (ar 0), .int x1, .int x2] : List Value).toArray below meth c H locs 0 0 (MQ below (KQ γ A (some (.int rv)) (wR γ ar sr)) ([.ref (ar 0), .int x1, .int x2] : List Value).toArray s 0 0 A) (F0 m 2 ls []) := by
    intro x1_1 x2_2
    intro n
    induction n with
    | zero =>
      intro x3_3 H locs ls hf
      have hf : none = some _ := hf
      cases hf
    | succ n ih =>
      intro x3_3 H locs ls hf hP hS hl
      rw [f_X3_allSeeOne_L2.eq_2] at hf
      refine lv_iload_n hx hb dX3_allSeeOne_2 rfl (lv_at hl 3 rfl) ?_
      refine lv_aload_n hx hb dX3_allSeeOne_3 rfl (lv_at hl 0 rfl) ?_
      refine va_get (D := γ.1) (ci := 3) (v := .int (sr 0 0)) (C := RX3) (T := TX3) (N := 18) hx hb hU uin3 hown hK hP 0 rfl rfl 0 (by decide) (hU _ U113) (fun _ h9 => h9) rfl dX3_allSeeOne_4 ?_
      refine lv_icmp_ge (tgt := 42) hx hb dX3_allSeeOne_7 (by decide) (fun c_4 => ?_) (fun c_4 => ?_)
      · replace hf := ite_p c_4 hf
        refine lv_iconst (v := 1) hx hb dX3_allSeeOne_42 (by decide) ?_
        obtain rfl := Option.some.inj hf
        exact kt_zret C0 (by decide) hP hS dX3_allSeeOne_43
      · replace hf := ite_n c_4 hf
        refine lv_iload_n hx hb dX3_allSeeOne_10 rfl (lv_at hl 1 rfl) ?_
        refine lv_iload_n hx hb dX3_allSeeOne_11 rfl (lv_at hl 3 rfl) ?_
        obtain ⟨r_5, hg_6, hf⟩ := bd_of hf
        refine kt_SN (As := [.int x1_1, .int x3_3]) (rest := []) (st1 := [.int r_5]) C0 (c_X6_bit l γ hg_6) (cxN (nA := 2) hts goodU hE NW40 U441 U84 U442 (by decide +kernel) ⟨Nat.le_of_ble_eq_true rfl, Nat.le_of_ble_eq_true rfl⟩) hP (hD _) hS hl dX3_allSeeOne_12 rfl (Nat.le_of_ble_eq_true rfl) rfl rfl (fun H locs hP hS => ?_)
        refine lv_iconst (v := 1) hx hb dX3_allSeeOne_15 (by decide) ?_
        refine lv_icmp_ne (tgt := 36) hx hb dX3_allSeeOne_16 (by decide) (fun c_7 => ?_) (fun c_7 => ?_)
        · replace hf := ite_n c_7 hf
          obtain ⟨x3_8, e_x3_8⟩ : ∃ y : Int32, y = x3_3 + (1 : Int32) := ⟨_, rfl⟩
          replace hf := nm_y hf e_x3_8
          refine lv_iinc (v := x3_8) (lv' := [(3, .int x3_8), (0, .ref (ar 0)), (1, .int x1_1), (2, .int x2_2)]) hx hb dX3_allSeeOne_36 hl (k := 3) rfl (by rw [e_x3_8]; rfl) (by decide) rfl (fun ls hl => ?_)
          refine lv_goto (tgt := 2) hx hb dX3_allSeeOne_39 (by decide) ?_
          exact ih x3_8 _ _ _ hf hP hS (lv_sub hl [1, 2, 3, 0] rfl)
        · replace hf := ite_p c_7 hf
          refine lv_aload_n hx hb dX3_allSeeOne_19 rfl (lv_at hl 0 rfl) ?_
          refine va_get (D := γ.1) (ci := 3) (v := .ref (ar 8)) (C := RX3) (T := TX3) (N := 18) hx hb hU uin3 hown hK hP 0 rfl rfl 7 (by decide) (hU _ U134) (fun _ h9 => h9) rfl dX3_allSeeOne_20 ?_
          refine lv_iload_n hx hb dX3_allSeeOne_23 rfl (lv_at hl 3 rfl) ?_
          obtain ⟨g_9, hf⟩ := gd_of hf
          refine va_iald hx hb hK hP 6 0 rfl rfl (inB_vp g_9) dX3_allSeeOne_24 ?_
          refine lv_iconst (v := 1) hx hb dX3_allSeeOne_25 (by decide) ?_
          refine lv_iload_n hx hb dX3_allSeeOne_26 rfl (lv_at hl 3 rfl) ?_
          refine lv_ishl hx hb dX3_allSeeOne_27 ?_
          refine lv_ior hx hb dX3_allSeeOne_28 ?_
          refine lv_iload_n hx hb dX3_allSeeOne_29 rfl (lv_at hl 2 rfl) ?_
          refine lv_iand hx hb dX3_allSeeOne_30 ?_
          refine lv_if_ne (tgt := 36) hx hb dX3_allSeeOne_31 (by decide) (fun c_10 => ?_) (fun c_10 => ?_)
          · replace hf := ite_n c_10 hf
            obtain ⟨x3_11, e_x3_11⟩ : ∃ y : Int32, y = x3_3 + (1 : Int32) := ⟨_, rfl⟩
            replace hf := nm_y hf e_x3_11
            refine lv_iinc (v := x3_11) (lv' := [(3, .int x3_11), (0, .ref (ar 0)), (1, .int x1_1), (2, .int x2_2)]) hx hb dX3_allSeeOne_36 hl (k := 3) rfl (by rw [e_x3_11]; rfl) (by decide) rfl (fun ls hl => ?_)
            refine lv_goto (tgt := 2) hx hb dX3_allSeeOne_39 (by decide) ?_
            exact ih x3_11 _ _ _ hf hP hS (lv_sub hl [1, 2, 3, 0] rfl)
          · replace hf := ite_p c_10 hf
            refine lv_iconst (v := 0) hx hb dX3_allSeeOne_34 (by decide) ?_
            obtain rfl := Option.some.inj hf
            exact kt_zret C0 (by decide) hP hS dX3_allSeeOne_35
  unfold f_X3_allSeeOne at hf
  refine lv_iconst (v := 0) hx hb dX3_allSeeOne_0 (by decide) ?_
  refine lv_istore_n (lv' := [(3, .int (0 : Int32)), (0, .ref (ar 0)), (1, .int x1), (2, .int x2)]) hx hb dX3_allSeeOne_1 rfl hl (by decide) rfl (fun ls hl => ?_)
  exact L2 x1 x2 FU (0 : Int32) _ _ _ hf hP hS (lv_sub hl [1, 2, 3, 0] rfl)
set_option maxHeartbeats 4000000 in
set_option maxRecDepth 100000 in
theorem c_X3_mournedYears (l : Launch) (γ : Gm) (ar : Nat → Nat) {sr : GS} {x1 : Int32} {x2 : Int32} {rv : Int32} (hf : f_X3_mournedYears sr x1 x2 = some rv) : Kt l γ yX3_mournedYears (Cond.code yX3_mournedYears cX3_mournedYears 3 (some .int) :: U) 1 21 [.ref (ar 0), .int x1, .int x2] (wR γ ar sr) (some (.int rv)) (wR γ ar sr) := by
  refine Kt.of (by decide) rfl (Nat.le_of_ble_eq_true rfl) rfl ?_
  intro p e s m below meth c A ls C0 hP hD0 hS hl
  obtain ⟨hx, hb, hml, hown, hts, hr, hlocks, hK, hE, hA⟩ := id C0
  have hU : ∀ w ∈ U, w.before _ s = true := fun w h => hts w (List.mem_cons_of_mem _ h)
  have hD : ∀ (sr : GS), va_D A (wR γ ar sr) := fun _ => hD0.fst rfl
  have hl : lv_has ls 3 [(0, .ref (ar 0)), (1, .int x1), (2, .int x2)] := hl
  unfold f_X3_mournedYears at hf
  refine lv_aload_n hx hb dX3_mournedYears_0 rfl (lv_at hl 0 rfl) ?_
  refine va_get (D := γ.1) (ci := 3) (v := .ref (ar 3)) (C := RX3) (T := TX3) (N := 18) hx hb hU uin3 hown hK hP 0 rfl rfl 2 (by decide) (hU _ U121) (fun _ h9 => h9) rfl dX3_mournedYears_1 ?_
  refine lv_iload_n hx hb dX3_mournedYears_4 rfl (lv_at hl 1 rfl) ?_
  obtain ⟨g_1, hf⟩ := gd_of hf
  refine va_iald hx hb hK hP 1 0 rfl rfl (inB_vp g_1) dX3_mournedYears_5 ?_
  by_cases c_2 : (sr 3 x1.toNatClampNeg) = (2 : Int32)
  · replace hf := ite_p c_2 hf
    refine lv_tableIn (off := 34) (tgt := 40) hx hb dX3_mournedYears_6 (by rw [c_2]; decide) (by rw [c_2]; decide) (by rw [c_2]; rfl) (by decide) ?_
    refine lv_iload_n hx hb dX3_mournedYears_40 rfl (lv_at hl 2 rfl) ?_
    refine lv_iconst (v := 2) hx hb dX3_mournedYears_41 (by decide) ?_
    refine lv_idiv hx hb dX3_mournedYears_42 (by decide) ?_
    obtain rfl := Option.some.inj hf
    exact kt_iret C0 hP hS dX3_mournedYears_43
  · replace hf := ite_n c_2 hf
    by_cases c_3 : (sr 3 x1.toNatClampNeg) = (3 : Int32)
    · replace hf := ite_p c_3 hf
      refine lv_tableIn (off := 55) (tgt := 61) hx hb dX3_mournedYears_6 (by rw [c_3]; decide) (by rw [c_3]; decide) (by rw [c_3]; rfl) (by decide) ?_
      refine lv_iload_n hx hb dX3_mournedYears_61 rfl (lv_at hl 2 rfl) ?_
      obtain rfl := Option.some.inj hf
      exact kt_iret C0 hP hS dX3_mournedYears_62
    · replace hf := ite_n c_3 hf
      by_cases c_4 : (sr 3 x1.toNatClampNeg) = (4 : Int32)
      · replace hf := ite_p c_4 hf
        refine lv_tableIn (off := 55) (tgt := 61) hx hb dX3_mournedYears_6 (by rw [c_4]; decide) (by rw [c_4]; decide) (by rw [c_4]; rfl) (by decide) ?_
        refine lv_iload_n hx hb dX3_mournedYears_61 rfl (lv_at hl 2 rfl) ?_
        obtain rfl := Option.some.inj hf
        exact kt_iret C0 hP hS dX3_mournedYears_62
      · replace hf := ite_n c_4 hf
        by_cases c_5 : (sr 3 x1.toNatClampNeg) = (5 : Int32)
        · replace hf := ite_p c_5 hf
          refine lv_tableIn (off := 38) (tgt := 44) hx hb dX3_mournedYears_6 (by rw [c_5]; decide) (by rw [c_5]; decide) (by rw [c_5]; rfl) (by decide) ?_
          refine lv_iload_n hx hb dX3_mournedYears_44 rfl (lv_at hl 2 rfl) ?_
          refine lv_iconst (v := 2) hx hb dX3_mournedYears_45 (by decide) ?_
          refine lv_idiv hx hb dX3_mournedYears_46 (by decide) ?_
          refine lv_aload_n hx hb dX3_mournedYears_47 rfl (lv_at hl 0 rfl) ?_
          refine va_get (D := γ.1) (ci := 3) (v := .ref (ar 4)) (C := RX3) (T := TX3) (N := 18) hx hb hU uin3 hown hK hP 0 rfl rfl 3 (by decide) (hU _ U124) (fun _ h9 => h9) rfl dX3_mournedYears_48 ?_
          refine lv_iload_n hx hb dX3_mournedYears_51 rfl (lv_at hl 1 rfl) ?_
          obtain ⟨g_6, hf⟩ := gd_of hf
          refine va_iald hx hb hK hP 2 0 rfl rfl (inB_vp g_6) dX3_mournedYears_52 ?_
          refine va_mmin (rest := []) (x := (x2 / (2 : Int32))) (y := (sr 4 x1.toNatClampNeg)) hx hb (hml.trans hl.1.symm) hown (hU _ U453) (hU _ U454) (hU _ U93) (hU _ U455) (Nat.le_of_ble_eq_true rfl) (Nat.le_of_ble_eq_true rfl) (Nat.zero_le _) (Nat.zero_le _) dX3_mournedYears_53 ?_
          refine lv_topi (fun u_7 e_u_7 => ?_)
          replace hf := nm_y hf e_u_7
          obtain rfl := Option.some.inj hf
          exact kt_iret C0 hP hS dX3_mournedYears_56
        · replace hf := ite_n c_5 hf
          by_cases c_8 : (sr 3 x1.toNatClampNeg) = (6 : Int32)
          · replace hf := ite_p c_8 hf
            refine lv_tableIn (off := 51) (tgt := 57) hx hb dX3_mournedYears_6 (by rw [c_8]; decide) (by rw [c_8]; decide) (by rw [c_8]; rfl) (by decide) ?_
            refine lv_iload_n hx hb dX3_mournedYears_57 rfl (lv_at hl 2 rfl) ?_
            refine lv_iconst (v := 2) hx hb dX3_mournedYears_58 (by decide) ?_
            refine lv_imul hx hb dX3_mournedYears_59 ?_
            obtain rfl := Option.some.inj hf
            exact kt_iret C0 hP hS dX3_mournedYears_60
          · replace hf := ite_n c_8 hf
            refine lv_tableOut (tgt := 61) hx hb dX3_mournedYears_6 (by have := lv_neT c_2 (a := 2) (by decide); have := lv_neT c_3 (a := 3) (by decide); have := lv_neT c_4 (a := 4) (by decide); have := lv_neT c_5 (a := 5) (by decide); have := lv_neT c_8 (a := 6) (by decide); omega) (by decide) ?_
            refine lv_iload_n hx hb dX3_mournedYears_61 rfl (lv_at hl 2 rfl) ?_
            obtain rfl := Option.some.inj hf
            exact kt_iret C0 hP hS dX3_mournedYears_62
set_option maxHeartbeats 4000000 in
set_option maxRecDepth 100000 in
theorem c_X3_untilBehind (l : Launch) (γ : Gm) (ar : Nat → Nat) {sr : GS} {x1 : Int32} {x2 : Int32} {x3 : Int32} {x4 : Int32} {rv : Int32} (hf : f_X3_untilBehind sr x1 x2 x3 x4 = some rv) : Kt l γ yX3_untilBehind (Cond.code yX3_untilBehind cX3_untilBehind 5 (some .int) :: U) 2 43 [.ref (ar 0), .int x1, .int x2, .int x3, .int x4] (wR γ ar sr) (some (.int rv)) (wR γ ar sr) := by
  refine Kt.of (by decide) rfl (Nat.le_of_ble_eq_true rfl) rfl ?_
  intro p e s m below meth c A ls C0 hP hD0 hS hl
  obtain ⟨hx, hb, hml, hown, hts, hr, hlocks, hK, hE, hA⟩ := id C0
  have hU : ∀ w ∈ U, w.before _ s = true := fun w h => hts w (List.mem_cons_of_mem _ h)
  have hD : ∀ (sr : GS), va_D A (wR γ ar sr) := fun _ => hD0.fst rfl
  have hl : lv_has ls 5 [(0, .ref (ar 0)), (1, .int x1), (2, .int x2), (3, .int x3), (4, .int x4)] := hl
  unfold f_X3_untilBehind at hf
  refine lv_aload_n hx hb dX3_untilBehind_0 rfl (lv_at hl 0 rfl) ?_
  refine lv_iload_n hx hb dX3_untilBehind_1 rfl (lv_at hl 2 rfl) ?_
  refine lv_iload_n hx hb dX3_untilBehind_2 rfl (lv_at hl 3 rfl) ?_
  obtain ⟨r_1, hg_2, hf⟩ := bd_of hf
  refine kt_V0 (As := [.int x2, .int x3]) (rest := []) (st1 := [.int r_1]) (b := ar 0) C0 (c_X3_seesPeak l γ ar hg_2) (cxV (nA := 2) hts goodU U688 U689 U690 U85 U691 (by decide +kernel) ⟨Nat.le_of_ble_eq_true rfl, Nat.le_of_ble_eq_true rfl⟩) hP (hD _) hS hl dX3_untilBehind_3 0 3 rfl rfl rfl rfl (Nat.le_of_ble_eq_true rfl) rfl rfl (fun H locs hP hS => ?_)
  refine lv_if_ne (tgt := 11) hx hb dX3_untilBehind_6 (by decide) (fun c_3 => ?_) (fun c_3 => ?_)
  · replace hf := ite_n c_3 hf
    refine lv_iload_n hx hb dX3_untilBehind_11 rfl (lv_at hl 1 rfl) ?_
    refine lv_iload hx hb dX3_untilBehind_12 (lv_at hl 4 rfl) ?_
    refine lv_aload_n hx hb dX3_untilBehind_14 rfl (lv_at hl 0 rfl) ?_
    refine lv_iload_n hx hb dX3_untilBehind_15 rfl (lv_at hl 2 rfl) ?_
    refine lv_iload hx hb dX3_untilBehind_16 (lv_at hl 4 rfl) ?_
    refine lv_aload_n hx hb dX3_untilBehind_18 rfl (lv_at hl 0 rfl) ?_
    refine lv_iload_n hx hb dX3_untilBehind_19 rfl (lv_at hl 2 rfl) ?_
    refine lv_iload_n hx hb dX3_untilBehind_20 rfl (lv_at hl 3 rfl) ?_
    obtain ⟨r_4, hg_5, hf⟩ := bd_of hf
    refine kt_V0 (As := [.int x2, .int x3]) (rest := [.int x4, .int x2, .ref (ar 0), .int x4, .int x1]) (st1 := [.int r_4, .int x4, .int x2, .ref (ar 0), .int x4, .int x1]) (b := ar 0) C0 (c_X3_sinceOf l γ ar hg_5) (cxV (nA := 2) hts goodU U692 U693 U694 U85 U695 (by decide +kernel) ⟨Nat.le_of_ble_eq_true rfl, Nat.le_of_ble_eq_true rfl⟩) hP (hD _) hS hl dX3_untilBehind_21 0 3 rfl rfl rfl rfl (Nat.le_of_ble_eq_true rfl) rfl rfl (fun H locs hP hS => ?_)
    refine lv_isub hx hb dX3_untilBehind_24 ?_
    obtain ⟨r_6, hg_7, hf⟩ := bd_of hf
    refine kt_V0 (As := [.int x2, .int (x4 - r_4)]) (rest := [.int x4, .int x1]) (st1 := [.int r_6, .int x4, .int x1]) (b := ar 0) C0 (c_X3_mournedYears l γ ar hg_7) (cxV (nA := 2) hts goodU U696 U450 U451 U85 U452 (by decide +kernel) ⟨Nat.le_of_ble_eq_true rfl, Nat.le_of_ble_eq_true rfl⟩) hP (hD _) hS hl dX3_untilBehind_25 0 3 rfl rfl rfl rfl (Nat.le_of_ble_eq_true rfl) rfl rfl (fun H locs hP hS => ?_)
    refine lv_iadd hx hb dX3_untilBehind_28 ?_
    refine va_mmax (rest := []) (x := x1) (y := (x4 + r_6)) hx hb (hml.trans hl.1.symm) hown (hU _ U697) (hU _ U698) (hU _ U93) (hU _ U699) (Nat.le_of_ble_eq_true rfl) (Nat.le_of_ble_eq_true rfl) (Nat.zero_le _) (Nat.zero_le _) dX3_untilBehind_29 ?_
    refine lv_topi (fun u_8 e_u_8 => ?_)
    replace hf := nm_y hf e_u_8
    obtain rfl := Option.some.inj hf
    exact kt_iret C0 hP hS dX3_untilBehind_32
  · replace hf := ite_p c_3 hf
    refine lv_iload_n hx hb dX3_untilBehind_9 rfl (lv_at hl 1 rfl) ?_
    obtain rfl := Option.some.inj hf
    exact kt_iret C0 hP hS dX3_untilBehind_10
set_option maxHeartbeats 4000000 in
set_option maxRecDepth 100000 in
theorem c_X3_griefOf (l : Launch) (γ : Gm) (ar : Nat → Nat) {sr : GS} {x1 : Int32} {x2 : Int32} {rv : Int32} (hf : f_X3_griefOf sr x1 x2 = some rv) : Kt l γ yX3_griefOf (Cond.code yX3_griefOf cX3_griefOf 5 (some .int) :: U) 3 67 [.ref (ar 0), .int x1, .int x2] (wR γ ar sr) (some (.int rv)) (wR γ ar sr) := by
  refine Kt.of (by decide) rfl (Nat.le_of_ble_eq_true rfl) rfl ?_
  intro p e s m below meth c A ls C0 hP hD0 hS hl
  obtain ⟨hx, hb, hml, hown, hts, hr, hlocks, hK, hE, hA⟩ := id C0
  have hU : ∀ w ∈ U, w.before _ s = true := fun w h => hts w (List.mem_cons_of_mem _ h)
  have hD : ∀ (sr : GS), va_D A (wR γ ar sr) := fun _ => hD0.fst rfl
  have hl : lv_has ls 5 [(0, .ref (ar 0)), (1, .int x1), (2, .int x2)] := hl
  have L5 : ∀ (x1_1 : Int32) (x2_2 : Int32) (n : Nat) (x3_3 : Int32) (x4_4 : Int32) (H : Heap) (locs : List Loc) (ls : Array Slot), f_X3_griefOf_L5 sr x1_1 x2_2 n x3_3 x4_4 = some rv → va_P γ.1 vwCl (wR γ ar sr) H → va_S A s.heap H locs → lv_has ls 5 [(0, .ref (ar 0)), (1, .int x1_1), (2, .int x2_2), (3, .int x3_3), (4, .int x4_4)] → W p l e (rmK 3 67) s m ([.ref (ar 0), .int x1, .int x2] : List Value).toArray below meth c H locs 0 0 (MQ below (KQ γ A (some (.int rv)) (wR γ ar sr)) ([.ref (ar 0), .int x1, .int x2] : List Value).toArray s 0 0 A) (F0 m 5 ls []) := by
    intro x1_1 x2_2
    intro n
    induction n with
    | zero =>
      intro x3_3 x4_4 H locs ls hf
      have hf : none = some _ := hf
      cases hf
    | succ n ih =>
      intro x3_3 x4_4 H locs ls hf hP hS hl
      rw [f_X3_griefOf_L5.eq_2] at hf
      refine lv_iload hx hb dX3_griefOf_5 (lv_at hl 4 rfl) ?_
      refine lv_aload_n hx hb dX3_griefOf_7 rfl (lv_at hl 0 rfl) ?_
      refine va_get (D := γ.1) (ci := 3) (v := .int (sr 0 0)) (C := RX3) (T := TX3) (N := 18) hx hb hU uin3 hown hK hP 0 rfl rfl 0 (by decide) (hU _ U113) (fun _ h9 => h9) rfl dX3_griefOf_8 ?_
      refine lv_icmp_ge (tgt := 54) hx hb dX3_griefOf_11 (by decide) (fun c_5 => ?_) (fun c_5 => ?_)
      · replace hf := ite_p c_5 hf
        refine lv_iload_n hx hb dX3_griefOf_54 rfl (lv_at hl 3 rfl) ?_
        obtain rfl := Option.some.inj hf
        exact kt_iret C0 hP hS dX3_griefOf_55
      · replace hf := ite_n c_5 hf
        refine lv_iload_n hx hb dX3_griefOf_14 rfl (lv_at hl 3 rfl) ?_
        refine lv_aload_n hx hb dX3_griefOf_15 rfl (lv_at hl 0 rfl) ?_
        refine lv_aload_n hx hb dX3_griefOf_16 rfl (lv_at hl 0 rfl) ?_
        refine va_get (D := γ.1) (ci := 3) (v := .ref (ar 7)) (C := RX3) (T := TX3) (N := 18) hx hb hU uin3 hown hK hP 0 rfl rfl 6 (by decide) (hU _ U131) (fun _ h9 => h9) rfl dX3_griefOf_17 ?_
        refine lv_iload hx hb dX3_griefOf_20 (lv_at hl 4 rfl) ?_
        obtain ⟨g_6, hf⟩ := gd_of hf
        refine va_iald hx hb hK hP 5 0 rfl rfl (inB_vp g_6) dX3_griefOf_22 ?_
        refine lv_iload hx hb dX3_griefOf_23 (lv_at hl 4 rfl) ?_
        refine lv_iload_n hx hb dX3_griefOf_25 rfl (lv_at hl 1 rfl) ?_
        refine lv_iload_n hx hb dX3_griefOf_26 rfl (lv_at hl 2 rfl) ?_
        obtain ⟨r_7, hg_8, hf⟩ := bd_of hf
        refine kt_V0 (As := [.int (sr 7 x4_4.toNatClampNeg), .int x4_4, .int x1_1, .int x2_2]) (rest := [.int x3_3]) (st1 := [.int r_7, .int x3_3]) (b := ar 0) C0 (c_X3_untilBehind l γ ar hg_8) (cxV (nA := 4) hts goodU U684 U685 U686 U85 U687 (by decide +kernel) ⟨Nat.le_of_ble_eq_true rfl, Nat.le_of_ble_eq_true rfl⟩) hP (hD _) hS hl dX3_griefOf_27 0 3 rfl rfl rfl rfl (Nat.le_of_ble_eq_true rfl) rfl rfl (fun H locs hP hS => ?_)
        refine lv_iload_n hx hb dX3_griefOf_30 rfl (lv_at hl 2 rfl) ?_
        refine va_mmax (rest := [.int x3_3]) (x := r_7) (y := x2_2) hx hb (hml.trans hl.1.symm) hown (hU _ U697) (hU _ U698) (hU _ U93) (hU _ U699) (Nat.le_of_ble_eq_true rfl) (Nat.le_of_ble_eq_true rfl) (Nat.zero_le _) (Nat.zero_le _) dX3_griefOf_31 ?_
        refine lv_topi (fun u_9 e_u_9 => ?_)
        replace hf := nm_y hf e_u_9
        refine lv_aload_n hx hb dX3_griefOf_34 rfl (lv_at hl 0 rfl) ?_
        refine va_get (D := γ.1) (ci := 3) (v := .ref (ar 7)) (C := RX3) (T := TX3) (N := 18) hx hb hU uin3 hown hK hP 0 rfl rfl 6 (by decide) (hU _ U131) (fun _ h9 => h9) rfl dX3_griefOf_35 ?_
        refine lv_iload hx hb dX3_griefOf_38 (lv_at hl 4 rfl) ?_
        obtain ⟨g_10, hf⟩ := gd_of hf
        refine va_iald hx hb hK hP 5 0 rfl rfl (inB_vp g_10) dX3_griefOf_40 ?_
        refine lv_iload_n hx hb dX3_griefOf_41 rfl (lv_at hl 2 rfl) ?_
        refine va_mmax (rest := [.int u_9, .int x3_3]) (x := (sr 7 x4_4.toNatClampNeg)) (y := x2_2) hx hb (hml.trans hl.1.symm) hown (hU _ U697) (hU _ U698) (hU _ U93) (hU _ U699) (Nat.le_of_ble_eq_true rfl) (Nat.le_of_ble_eq_true rfl) (Nat.zero_le _) (Nat.zero_le _) dX3_griefOf_42 ?_
        refine lv_topi (fun u_11 e_u_11 => ?_)
        replace hf := nm_y hf e_u_11
        refine lv_isub hx hb dX3_griefOf_45 ?_
        refine lv_iadd hx hb dX3_griefOf_46 ?_
        refine lv_topi (fun u_12 e_u_12 => ?_)
        replace hf := nm_y hf e_u_12
        refine lv_istore_n (lv' := [(3, .int u_12), (0, .ref (ar 0)), (1, .int x1_1), (2, .int x2_2), (4, .int x4_4)]) hx hb dX3_griefOf_47 rfl hl (by decide) rfl (fun ls hl => ?_)
        obtain ⟨x4_13, e_x4_13⟩ : ∃ y : Int32, y = x4_4 + (1 : Int32) := ⟨_, rfl⟩
        replace hf := nm_y hf e_x4_13
        refine lv_iinc (v := x4_13) (lv' := [(4, .int x4_13), (3, .int u_12), (0, .ref (ar 0)), (1, .int x1_1), (2, .int x2_2)]) hx hb dX3_griefOf_48 hl (k := 4) rfl (by rw [e_x4_13]; rfl) (by decide) rfl (fun ls hl => ?_)
        refine lv_goto (tgt := 5) hx hb dX3_griefOf_51 (by decide) ?_
        exact ih u_12 x4_13 _ _ _ hf hP hS (lv_sub hl [2, 3, 4, 1, 0] rfl)
  unfold f_X3_griefOf at hf
  refine lv_iconst (v := 0) hx hb dX3_griefOf_0 (by decide) ?_
  refine lv_istore_n (lv' := [(3, .int (0 : Int32)), (0, .ref (ar 0)), (1, .int x1), (2, .int x2)]) hx hb dX3_griefOf_1 rfl hl (by decide) rfl (fun ls hl => ?_)
  refine lv_iconst (v := 0) hx hb dX3_griefOf_2 (by decide) ?_
  refine lv_istore (lv' := [(4, .int (0 : Int32)), (3, .int (0 : Int32)), (0, .ref (ar 0)), (1, .int x1), (2, .int x2)]) hx hb dX3_griefOf_3 hl (by decide) rfl (fun ls hl => ?_)
  exact L5 x1 x2 FU (0 : Int32) (0 : Int32) _ _ _ hf hP hS (lv_sub hl [2, 3, 4, 1, 0] rfl)
set_option maxHeartbeats 4000000 in
set_option maxRecDepth 100000 in
theorem c_X3_lose (l : Launch) (γ : Gm) (ar : Nat → Nat) {sr : GS} {x1 : Int32} {rv : Int32} {sr_z : GS} (hf : f_X3_lose sr x1 = some (rv, sr_z)) : Kt l γ yX3_lose (Cond.code yX3_lose cX3_lose 4 (some .int) :: U) 4 92 [.ref (ar 0), .int x1] (wR γ ar sr) (some (.int rv)) (wR γ ar sr_z) := by
  refine Kt.of (by decide) rfl (Nat.le_of_ble_eq_true rfl) rfl ?_
  intro p e s m below meth c A ls C0 hP hD0 hS hl
  obtain ⟨hx, hb, hml, hown, hts, hr, hlocks, hK, hE, hA⟩ := id C0
  have hU : ∀ w ∈ U, w.before _ s = true := fun w h => hts w (List.mem_cons_of_mem _ h)
  have hD : ∀ (sr : GS), va_D A (wR γ ar sr) := fun _ => hD0.fst rfl
  have hl : lv_has ls 4 [(0, .ref (ar 0)), (1, .int x1)] := hl
  have L12 : ∀ (x1_3 : Int32) (x2_4 : Int32) (K48 : GS → Option (Int32 × GS)) (HK48 : ∀ (zsr : GS) (H : Heap) (locs : List Loc) (ls : Array Slot), K48 zsr = some (rv, sr_z) → va_P γ.1 vwCl (wR γ ar zsr) H → va_S A s.heap H locs → lv_has ls 4 [(0, .ref (ar 0)), (1, .int x1_3), (2, .int x2_4)] → W p l e (rmK 4 92) s m ([.ref (ar 0), .int x1] : List Value).toArray below meth c H locs 0 0 (MQ below (KQ γ A (some (.int rv)) (wR γ ar sr_z)) ([.ref (ar 0), .int x1] : List Value).toArray s 0 0 A) (F0 m 48 ls [])) (n : Nat) (x3_5 : Int32) (sr_6 : GS) (H : Heap) (locs : List Loc) (ls : Array Slot), f_X3_lose_L12 x1_3 K48 n x3_5 sr_6 = some (rv, sr_z) → va_P γ.1 vwCl (wR γ ar sr_6) H → va_S A s.heap H locs → lv_has ls 4 [(0, .ref (ar 0)), (1, .int x1_3), (2, .int x2_4), (3, .int x3_5)] → W p l e (rmK 4 92) s m ([.ref (ar 0), .int x1] : List Value).toArray below meth c H locs 0 0 (MQ below (KQ γ A (some (.int rv)) (wR γ ar sr_z)) ([.ref (ar 0), .int x1] : List Value).toArray s 0 0 A) (F0 m 12 ls []) := by
    intro x1_3 x2_4 K48 HK48
    intro n
    induction n with
    | zero =>
      intro x3_5 sr_6 H locs ls hf
      have hf : none = some _ := hf
      cases hf
    | succ n ih =>
      intro x3_5 sr_6 H locs ls hf hP hS hl
      rw [f_X3_lose_L12.eq_2] at hf
      refine lv_iload_n hx hb dX3_lose_12 rfl (lv_at hl 3 rfl) ?_
      refine lv_aload_n hx hb dX3_lose_13 rfl (lv_at hl 0 rfl) ?_
      refine va_get (D := γ.1) (ci := 3) (v := .int (sr_6 0 0)) (C := RX3) (T := TX3) (N := 18) hx hb hU uin3 hown hK hP 0 rfl rfl 0 (by decide) (hU _ U113) (fun _ h9 => h9) rfl dX3_lose_14 ?_
      refine lv_icmp_ge (tgt := 48) hx hb dX3_lose_17 (by decide) (fun c_7 => ?_) (fun c_7 => ?_)
      · replace hf := ite_p c_7 hf
        exact HK48 sr_6 _ _ _ hf hP hS (lv_sub hl [0, 1, 2] rfl)
      · replace hf := ite_n c_7 hf
        refine lv_aload_n hx hb dX3_lose_20 rfl (lv_at hl 0 rfl) ?_
        refine va_get (D := γ.1) (ci := 3) (v := .ref (ar 7)) (C := RX3) (T := TX3) (N := 18) hx hb hU uin3 hown hK hP 0 rfl rfl 6 (by decide) (hU _ U131) (fun _ h9 => h9) rfl dX3_lose_21 ?_
        refine lv_iload_n hx hb dX3_lose_24 rfl (lv_at hl 3 rfl) ?_
        refine lv_aload_n hx hb dX3_lose_25 rfl (lv_at hl 0 rfl) ?_
        refine lv_aload_n hx hb dX3_lose_26 rfl (lv_at hl 0 rfl) ?_
        refine va_get (D := γ.1) (ci := 3) (v := .ref (ar 7)) (C := RX3) (T := TX3) (N := 18) hx hb hU uin3 hown hK hP 0 rfl rfl 6 (by decide) (hU _ U131) (fun _ h9 => h9) rfl dX3_lose_27 ?_
        refine lv_iload_n hx hb dX3_lose_30 rfl (lv_at hl 3 rfl) ?_
        obtain ⟨g_8, hf⟩ := gd_of hf
        refine va_iald hx hb hK hP 5 0 rfl rfl (inB_vp g_8) dX3_lose_31 ?_
        refine lv_iload_n hx hb dX3_lose_32 rfl (lv_at hl 3 rfl) ?_
        refine lv_iload_n hx hb dX3_lose_33 rfl (lv_at hl 1 rfl) ?_
        refine lv_aload_n hx hb dX3_lose_34 rfl (lv_at hl 0 rfl) ?_
        refine va_get (D := γ.1) (ci := 3) (v := .int (sr_6 0 16)) (C := RX3) (T := TX3) (N := 18) hx hb hU uin3 hown hK hP 0 rfl rfl 16 (by decide) (hU _ U152) (fun _ h9 => h9) rfl dX3_lose_35 ?_
        obtain ⟨r_9, hg_10, hf⟩ := bd_of hf
        refine kt_V0 (As := [.int (sr_6 7 x3_5.toNatClampNeg), .int x3_5, .int x1_3, .int (sr_6 0 16)]) (rest := [.int x3_5, .ref (ar 7)]) (st1 := [.int r_9, .int x3_5, .ref (ar 7)]) (b := ar 0) C0 (c_X3_untilBehind l γ ar hg_10) (cxV (nA := 4) hts goodU U684 U685 U686 U85 U687 (by decide +kernel) ⟨Nat.le_of_ble_eq_true rfl, Nat.le_of_ble_eq_true rfl⟩) hP (hD _) hS hl dX3_lose_38 0 3 rfl rfl rfl rfl (Nat.le_of_ble_eq_true rfl) rfl rfl (fun H locs hP hS => ?_)
        obtain ⟨g_11, hf⟩ := gd_of hf
        refine va_iast hx hb hK hP (hD _) hS 5 0 rfl rfl (inB_vp g_11) dX3_lose_41 (fun H locs hP _ hS => ?_)
        obtain ⟨sr_12, e_sr_12, hf⟩ := nm_of hf
        replace hP : va_P γ.1 vwCl (wR γ ar sr_12) H := by rw [e_sr_12]; exact hP
        obtain ⟨x3_13, e_x3_13⟩ : ∃ y : Int32, y = x3_5 + (1 : Int32) := ⟨_, rfl⟩
        replace hf := nm_y hf e_x3_13
        refine lv_iinc (v := x3_13) (lv' := [(3, .int x3_13), (0, .ref (ar 0)), (1, .int x1_3), (2, .int x2_4)]) hx hb dX3_lose_42 hl (k := 3) rfl (by rw [e_x3_13]; rfl) (by decide) rfl (fun ls hl => ?_)
        refine lv_goto (tgt := 12) hx hb dX3_lose_45 (by decide) ?_
        exact ih x3_13 sr_12 _ _ _ hf hP hS (lv_sub hl [1, 2, 3, 0] rfl)
  unfold f_X3_lose at hf
  refine lv_aload_n hx hb dX3_lose_0 rfl (lv_at hl 0 rfl) ?_
  refine lv_iload_n hx hb dX3_lose_1 rfl (lv_at hl 1 rfl) ?_
  refine lv_aload_n hx hb dX3_lose_2 rfl (lv_at hl 0 rfl) ?_
  refine va_get (D := γ.1) (ci := 3) (v := .int (sr 0 16)) (C := RX3) (T := TX3) (N := 18) hx hb hU uin3 hown hK hP 0 rfl rfl 16 (by decide) (hU _ U152) (fun _ h9 => h9) rfl dX3_lose_3 ?_
  obtain ⟨r_1, hg_2, hf⟩ := bd_of hf
  refine kt_V0 (As := [.int x1, .int (sr 0 16)]) (rest := []) (st1 := [.int r_1]) (b := ar 0) C0 (c_X3_griefOf l γ ar hg_2) (cxV (nA := 2) hts goodU U680 U681 U682 U85 U683 (by decide +kernel) ⟨Nat.le_of_ble_eq_true rfl, Nat.le_of_ble_eq_true rfl⟩) hP (hD _) hS hl dX3_lose_6 0 3 rfl rfl rfl rfl (Nat.le_of_ble_eq_true rfl) rfl rfl (fun H locs hP hS => ?_)
  refine lv_istore_n (lv' := [(2, .int r_1), (0, .ref (ar 0)), (1, .int x1)]) hx hb dX3_lose_9 rfl hl (by decide) rfl (fun ls hl => ?_)
  refine lv_iconst (v := 0) hx hb dX3_lose_10 (by decide) ?_
  refine lv_istore_n (lv' := [(3, .int (0 : Int32)), (2, .int r_1), (0, .ref (ar 0)), (1, .int x1)]) hx hb dX3_lose_11 rfl hl (by decide) rfl (fun ls hl => ?_)
  refine L12 x1 r_1 _ (fun sr_14 H locs ls hf hP hS hl => ?_) FU (0 : Int32) sr _ _ _ hf hP hS (lv_sub hl [2, 3, 1, 0] rfl)
  refine lv_aload_n hx hb dX3_lose_48 rfl (lv_at hl 0 rfl) ?_
  refine lv_dup hx hb dX3_lose_49 rfl ?_
  refine va_get (D := γ.1) (ci := 3) (v := .int (sr_14 0 1)) (C := RX3) (T := TX3) (N := 18) hx hb hU uin3 hown hK hP 0 rfl rfl 1 (by decide) (hU _ U118) (fun _ h9 => h9) rfl dX3_lose_50 ?_
  refine lv_iconst (v := 1) hx hb dX3_lose_53 (by decide) ?_
  refine lv_iload_n hx hb dX3_lose_54 rfl (lv_at hl 1 rfl) ?_
  refine lv_ishl hx hb dX3_lose_55 ?_
  refine lv_iconst (v := -1) hx hb dX3_lose_56 (by decide) ?_
  refine lv_ixor hx hb dX3_lose_57 ?_
  refine lv_iand hx hb dX3_lose_58 ?_
  refine lv_topi (fun u_15 e_u_15 => ?_)
  replace hf := nm_y hf e_u_15
  refine va_put (D := γ.1) (ci := 3) (v := .int u_15) (ty := .int) (C := RX3) (T := TX3) (N := 18) hx hb hU uin3 tyX3 tyX3_ok nmX3 hown hK hP (hD _) hS 0 rfl rfl 1 (by decide) (hU _ U118) (fun _ h9 => h9) rfl (by decide +kernel) rfl rfl (Nat.le_of_ble_eq_true rfl) dX3_lose_59 (fun H locs hP _ hS => ?_)
  obtain ⟨sr_16, e_sr_16, hf⟩ := nm_of hf
  replace hP : va_P γ.1 vwCl (wR γ ar sr_16) H := by rw [e_sr_16]; exact hP
  refine lv_aload_n hx hb dX3_lose_62 rfl (lv_at hl 0 rfl) ?_
  obtain ⟨sr_17, hg_18, hf⟩ := bd_of hf
  refine kt_V0 (As := []) (rest := []) (st1 := []) (b := ar 0) C0 (c_X3_lookAround l γ ar hg_18) (cxV (nA := 0) hts goodU U481 U483 U7 U85 U484 (by decide +kernel) ⟨Nat.le_of_ble_eq_true rfl, Nat.le_of_ble_eq_true rfl⟩) hP (hD _) hS hl dX3_lose_63 0 3 rfl rfl rfl rfl (Nat.le_of_ble_eq_true rfl) rfl rfl (fun H locs hP hS => ?_)
  refine lv_iload_n hx hb dX3_lose_66 rfl (lv_at hl 2 rfl) ?_
  obtain ⟨rfl, rfl⟩ := rt2 hf
  exact kt_iret C0 hP hS dX3_lose_67
set_option maxHeartbeats 4000000 in
set_option maxRecDepth 100000 in
theorem c_X5_has (l : Launch) (γ : Gm) (aw : Nat → Nat) {sw : GS} {sl : Nat → Int64} {x1 : Int32} {rv : Int32} (hf : f_X5_has sw x1 = some rv) : Kt l γ yX5_has (Cond.code yX5_has cX5_has 2 (some .boolean) :: U) 0 0 [.ref (aw 0), .int x1] (wW γ aw sw sl) (some (.int rv)) (wW γ aw sw sl) := by
  refine Kt.of (by decide) rfl (Nat.le_of_ble_eq_true rfl) rfl ?_
  intro p e s m below meth c A ls C0 hP hD0 hS hl
  obtain ⟨hx, hb, hml, hown, hts, hr, hlocks, hK, hE, hA⟩ := id C0
  have hU : ∀ w ∈ U, w.before _ s = true := fun w h => hts w (List.mem_cons_of_mem _ h)
  have hD : ∀ (sw : GS) (sl : Nat → Int64), va_D A (wW γ aw sw sl) := fun _ _ => hD0.fst rfl
  have hl : lv_has ls 2 [(0, .ref (aw 0)), (1, .int x1)] := hl
  unfold f_X5_has at hf
  refine lv_iload_n hx hb dX5_has_0 rfl (lv_at hl 1 rfl) ?_
  refine lv_if_lt (tgt := 16) hx hb dX5_has_1 (by decide) (fun c_1 => ?_) (fun c_1 => ?_)
  · replace hf := ite_p c_1 hf
    refine lv_iconst (v := 0) hx hb dX5_has_16 (by decide) ?_
    obtain rfl := Option.some.inj hf
    exact kt_zret C0 (by decide) hP hS dX5_has_17
  · replace hf := ite_n c_1 hf
    refine lv_iload_n hx hb dX5_has_4 rfl (lv_at hl 1 rfl) ?_
    refine lv_aload_n hx hb dX5_has_5 rfl (lv_at hl 0 rfl) ?_
    refine va_get (D := γ.1) (ci := 5) (v := .int (sw 0 2)) (C := RX5) (T := TX5) (N := 3) hx hb hU uin5 hown hK hP 0 rfl rfl 2 (by decide) (hU _ U288) (fun _ h9 => h9) rfl dX5_has_6 ?_
    refine lv_icmp_ge (tgt := 16) hx hb dX5_has_9 (by decide) (fun c_2 => ?_) (fun c_2 => ?_)
    · replace hf := ite_p c_2 hf
      refine lv_iconst (v := 0) hx hb dX5_has_16 (by decide) ?_
      obtain rfl := Option.some.inj hf
      exact kt_zret C0 (by decide) hP hS dX5_has_17
    · replace hf := ite_n c_2 hf
      refine lv_iconst (v := 1) hx hb dX5_has_12 (by decide) ?_
      refine lv_goto (tgt := 17) hx hb dX5_has_13 (by decide) ?_
      obtain rfl := Option.some.inj hf
      exact kt_zret C0 (by decide) hP hS dX5_has_17
set_option maxHeartbeats 4000000 in
set_option maxRecDepth 100000 in
theorem c_X5_intAt (l : Launch) (γ : Gm) (aw : Nat → Nat) {sw : GS} {sl : Nat → Int64} {x1 : Int32} {rv : Int32} (hf : f_X5_intAt sw sl x1 = some rv) : Kt l γ yX5_intAt (Cond.code yX5_intAt cX5_intAt 2 (some .int) :: U) 1 21 [.ref (aw 0), .int x1] (wW γ aw sw sl) (some (.int rv)) (wW γ aw sw sl) := by
  refine Kt.of (by decide) rfl (Nat.le_of_ble_eq_true rfl) rfl ?_
  intro p e s m below meth c A ls C0 hP hD0 hS hl
  obtain ⟨hx, hb, hml, hown, hts, hr, hlocks, hK, hE, hA⟩ := id C0
  have hU : ∀ w ∈ U, w.before _ s = true := fun w h => hts w (List.mem_cons_of_mem _ h)
  have hD : ∀ (sw : GS) (sl : Nat → Int64), va_D A (wW γ aw sw sl) := fun _ _ => hD0.fst rfl
  have hl : lv_has ls 2 [(0, .ref (aw 0)), (1, .int x1)] := hl
  unfold f_X5_intAt at hf
  refine lv_aload_n hx hb dX5_intAt_0 rfl (lv_at hl 0 rfl) ?_
  refine lv_iload_n hx hb dX5_intAt_1 rfl (lv_at hl 1 rfl) ?_
  obtain ⟨r_1, hg_2, hf⟩ := bd_of hf
  refine kt_V0 (As := [.int x1]) (rest := []) (st1 := [.int r_1]) (b := aw 0) C0 (c_X5_has l γ aw hg_2) (cxV (nA := 1) hts goodU U367 U360 U361 U90 U362 (by decide +kernel) ⟨Nat.le_of_ble_eq_true rfl, Nat.le_of_ble_eq_true rfl⟩) hP (hD _ _) hS hl dX5_intAt_2 0 5 rfl rfl rfl rfl (Nat.le_of_ble_eq_true rfl) rfl rfl (fun H locs hP hS => ?_)
  refine lv_if_eq (tgt := 18) hx hb dX5_intAt_5 (by decide) (fun c_3 => ?_) (fun c_3 => ?_)
  · replace hf := ite_p c_3 hf
    refine lv_iconst (v := 0) hx hb dX5_intAt_18 (by decide) ?_
    obtain rfl := Option.some.inj hf
    exact kt_iret C0 hP hS dX5_intAt_19
  · replace hf := ite_n c_3 hf
    refine lv_aload_n hx hb dX5_intAt_8 rfl (lv_at hl 0 rfl) ?_
    refine va_get (D := γ.1) (ci := 5) (v := .ref (aw 1)) (C := RX5) (T := TX5) (N := 3) hx hb hU uin5 hown hK hP 0 rfl rfl 0 (by decide) (hU _ U286) (fun _ h9 => h9) rfl dX5_intAt_9 ?_
    refine lv_iload_n hx hb dX5_intAt_12 rfl (lv_at hl 1 rfl) ?_
    obtain ⟨g_4, hf⟩ := gd_of hf
    refine va_lald hx hb hK hP 1 1 rfl rfl (inB_vp g_4) dX5_intAt_13 ?_
    refine lv_l2i hx hb dX5_intAt_14 rfl ?_
    refine lv_goto (tgt := 19) hx hb dX5_intAt_15 (by decide) ?_
    obtain rfl := Option.some.inj hf
    exact kt_iret C0 hP hS dX5_intAt_19
