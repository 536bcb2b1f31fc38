-- the methods of String constants
set_option maxHeartbeats 4000000 in
theorem c_isLatin1 (l : Launch) (γ : Gm) {i : Nat} (h : i < 6) : Kt l γ yJ0_isLatin1_aae02 (Cond.code yJ0_isLatin1_aae02 cJ0_isLatin1_aae02 1 (some .boolean) :: U) 0 0 [.ref (sad γ i)] [] (some (.int 1)) [] := by
  refine Kt.of (by decide) rfl (Nat.le_of_ble_eq_true rfl) rfl ?_
  intro p e s m below meth c A ls C0 hP hD0 hS hl
  obtain ⟨hx, hb, hml, hown, hts, hr, hlocks, hK, hE, hA⟩ := id C0
  have hU : ∀ w ∈ U, w.before _ s = true := fun w h => hts w (List.mem_cons_of_mem _ h)
  have hl : lv_has ls 1 [(0, .ref (sad γ i))] := hl
  refine va_gets hx hb hE.2.2.2.1.2.1 hS hown (hU _ U591) (fun _ h9 => h9) dJ0_isLatin1_aae02_0 ?_
  refine lv_if_eq (tgt := 17) hx hb dJ0_isLatin1_aae02_3 (by decide) (fun c => absurd c (by decide)) (fun _ => ?_)
  refine lv_aload_n hx hb dJ0_isLatin1_aae02_6 rfl (lv_at hl 0 rfl) ?_
  refine vk_getf hx hb (hE.2.2.2.1.1.1 i h).2.1 hS hown (hU _ U1499) (fun _ h9 => h9) dJ0_isLatin1_aae02_7 ?_
  refine lv_if_ne (tgt := 17) hx hb dJ0_isLatin1_aae02_10 (by decide) (fun c => absurd rfl c) (fun _ => ?_)
  refine lv_iconst (v := 1) hx hb dJ0_isLatin1_aae02_13 (by decide) ?_
  refine lv_goto (tgt := 18) hx hb dJ0_isLatin1_aae02_14 (by decide) ?_
  exact kt_zret C0 (by decide) hP hS dJ0_isLatin1_aae02_18
set_option maxHeartbeats 4000000 in
theorem c_coder (l : Launch) (γ : Gm) {i : Nat} (h : i < 6) : Kt l γ yJ0_coder_7d493 (Cond.code yJ0_coder_7d493 cJ0_coder_7d493 1 (some .byte) :: U) 0 0 [.ref (sad γ i)] [] (some (.int 0)) [] := by
  refine Kt.of (by decide) rfl (Nat.le_of_ble_eq_true rfl) rfl ?_
  intro p e s m below meth c A ls C0 hP hD0 hS hl
  obtain ⟨hx, hb, hml, hown, hts, hr, hlocks, hK, hE, hA⟩ := id C0
  have hU : ∀ w ∈ U, w.before _ s = true := fun w h => hts w (List.mem_cons_of_mem _ h)
  have hl : lv_has ls 1 [(0, .ref (sad γ i))] := hl
  refine va_gets hx hb hE.2.2.2.1.2.1 hS hown (hU _ U591) (fun _ h9 => h9) dJ0_coder_7d493_0 ?_
  refine lv_if_eq (tgt := 13) hx hb dJ0_coder_7d493_3 (by decide) (fun c => absurd c (by decide)) (fun _ => ?_)
  refine lv_aload_n hx hb dJ0_coder_7d493_6 rfl (lv_at hl 0 rfl) ?_
  refine vk_getf hx hb (hE.2.2.2.1.1.1 i h).2.1 hS hown (hU _ U1499) (fun _ h9 => h9) dJ0_coder_7d493_7 ?_
  refine lv_goto (tgt := 14) hx hb dJ0_coder_7d493_10 (by decide) ?_
  exact W.zret (ty := .byte) C0.1 C0.2.1 C0.2.2.2.2.2.1 (by decide) (fun t ht _ => ⟨⟨rfl, by rw [ht]; exact hP⟩, hS.F ht⟩) hS.2.2 dJ0_coder_7d493_14 hlocks
set_option maxHeartbeats 4000000 in
theorem c_strlen (l : Launch) (γ : Gm) {i : Nat} (h : i < 6) : Kt l γ yJ0_length_8abf5 (Cond.code yJ0_length_8abf5 cJ0_length_8abf5 1 (some .int) :: U) 1 20 [.ref (sad γ i)] [] (some (.int (tLn i))) [] := by
  refine Kt.of (by decide) rfl (Nat.le_of_ble_eq_true rfl) rfl ?_
  intro p e s m below meth c A ls C0 hP hD0 hS hl
  obtain ⟨hx, hb, hml, hown, hts, hr, hlocks, hK, hE, hA⟩ := id C0
  have hU : ∀ w ∈ U, w.before _ s = true := fun w h => hts w (List.mem_cons_of_mem _ h)
  have hl : lv_has ls 1 [(0, .ref (sad γ i))] := hl
  refine lv_aload_n hx hb dJ0_length_8abf5_0 rfl (lv_at hl 0 rfl) ?_
  refine vk_getf hx hb (hE.2.2.2.1.1.1 i h).2.2.1 hS hown (hU _ U1500) (fun _ h9 => h9) dJ0_length_8abf5_1 ?_
  refine va_tlen (v := tLn i) hx hb (hE.2.2.2.1.1.1 i h).2.2.2 hS rfl dJ0_length_8abf5_4 ?_
  refine lv_aload_n hx hb dJ0_length_8abf5_5 rfl (lv_at hl 0 rfl) ?_
  refine kt_str (As := []) (rest := [.int (tLn i)]) (st1 := [.int 0, .int (tLn i)]) (i := i) C0 (c_coder l γ h) (cxV (nA := 0) hts goodU U631 U632 U633 U94 U634 (by decide +kernel) ⟨Nat.le_of_ble_eq_true rfl, Nat.le_of_ble_eq_true rfl⟩) h hP hD0 hS hl dJ0_length_8abf5_6 rfl (Nat.le_of_ble_eq_true rfl) rfl rfl (fun H locs hP hS => ?_)
  refine lv_ishr hx hb dJ0_length_8abf5_9 ?_
  rw [sb_shr0]
  exact kt_iret C0 hP hS dJ0_length_8abf5_10
set_option maxHeartbeats 4000000 in
theorem c_J3_checkIndexN (l : Launch) (γ : Gm) {i n : Int32} (h1 : ¬ i < 0) (h2 : i < n) : Kt l γ yJ3_checkIndex_8e157 (Cond.code yJ3_checkIndex_8e157 cJ3_checkIndex_8e157 3 (some .int) :: U) 0 0 [.int i, .int n, .null] [] (some (.int i)) [] := by
  refine Kt.of (by decide) rfl (Nat.le_of_ble_eq_true rfl) rfl ?_
  intro p e s m below meth c A ls C0 hP hD0 hS hl
  obtain ⟨hx, hb, hml, hown, hts, hr, hlocks, hK, hE, hA⟩ := id C0
  have hl : lv_has ls 3 [(0, .int i), (1, .int n), (2, .null)] := hl
  refine lv_iload_n hx hb dJ3_checkIndex_8e157_0 rfl (lv_at hl 0 rfl) ?_
  refine lv_if_lt (tgt := 9) hx hb dJ3_checkIndex_8e157_1 (by decide) (fun c => absurd c h1) (fun _ => ?_)
  refine lv_iload_n hx hb dJ3_checkIndex_8e157_4 rfl (lv_at hl 0 rfl) ?_
  refine lv_iload_n hx hb dJ3_checkIndex_8e157_5 rfl (lv_at hl 1 rfl) ?_
  refine lv_icmp_lt (tgt := 16) hx hb dJ3_checkIndex_8e157_6 (by decide) (fun _ => ?_) (fun c => absurd h2 c)
  refine lv_iload_n hx hb dJ3_checkIndex_8e157_16 rfl (lv_at hl 0 rfl) ?_
  exact kt_iret C0 hP hS dJ3_checkIndex_8e157_17
set_option maxHeartbeats 4000000 in
theorem c_J3_checkIndexR (l : Launch) (γ : Gm) {i n : Int32} {t : Nat} (h1 : ¬ i < 0) (h2 : i < n) : Kt l γ yJ3_checkIndex_8e157 (Cond.code yJ3_checkIndex_8e157 cJ3_checkIndex_8e157 3 (some .int) :: U) 0 0 [.int i, .int n, .ref t] [] (some (.int i)) [] := by
  refine Kt.of (by decide) rfl (Nat.le_of_ble_eq_true rfl) rfl ?_
  intro p e s m below meth c A ls C0 hP hD0 hS hl
  obtain ⟨hx, hb, hml, hown, hts, hr, hlocks, hK, hE, hA⟩ := id C0
  have hl : lv_has ls 3 [(0, .int i), (1, .int n), (2, .ref t)] := hl
  refine lv_iload_n hx hb dJ3_checkIndex_8e157_0 rfl (lv_at hl 0 rfl) ?_
  refine lv_if_lt (tgt := 9) hx hb dJ3_checkIndex_8e157_1 (by decide) (fun c => absurd c h1) (fun _ => ?_)
  refine lv_iload_n hx hb dJ3_checkIndex_8e157_4 rfl (lv_at hl 0 rfl) ?_
  refine lv_iload_n hx hb dJ3_checkIndex_8e157_5 rfl (lv_at hl 1 rfl) ?_
  refine lv_icmp_lt (tgt := 16) hx hb dJ3_checkIndex_8e157_6 (by decide) (fun _ => ?_) (fun c => absurd h2 c)
  refine lv_iload_n hx hb dJ3_checkIndex_8e157_16 rfl (lv_at hl 0 rfl) ?_
  exact kt_iret C0 hP hS dJ3_checkIndex_8e157_17
theorem inB_tl {i : Nat} {j : Int32} (h : i < 6) (g : inB j (tLen.getD i 0) = true) : ¬ j < 0 ∧ j < tLn i := by
  have h2 := vp_in_iff.mp (inB_vp g)
  have h3 : tLen.getD i 0 < 2 ^ 31 := by
    match i, h with
    | 0, _ => decide
    | 1, _ => decide
    | 2, _ => decide
    | 3, _ => decide
    | 4, _ => decide
    | 5, _ => decide
  refine ⟨fun q => ?_, ?_⟩
  · have := Int32.lt_iff_toInt_lt.mp q
    have h0 : (0 : Int32).toInt = 0 := rfl
    omega
  · refine Int32.lt_iff_toInt_lt.mpr ?_
    have h0 : (tLn i).toInt = ((tLen.getD i 0 : Nat) : Int) := nI_toInt h3
    omega
set_option maxHeartbeats 4000000 in
theorem c_J0_checkIndex (l : Launch) (γ : Gm) {i : Nat} {j : Int32} (h : i < 6) (g : inB j (tLen.getD i 0) = true) : Kt l γ yJ0_checkIndex_df160 (Cond.code yJ0_checkIndex_df160 cJ0_checkIndex_df160 2 none :: U) 1 30 [.int j, .int (tLn i)] [] none [] := by
  refine Kt.of (by decide) rfl (Nat.le_of_ble_eq_true rfl) rfl ?_
  intro p e s m below meth c A ls C0 hP hD0 hS hl
  obtain ⟨hx, hb, hml, hown, hts, hr, hlocks, hK, hE, hA⟩ := id C0
  have hU : ∀ w ∈ U, w.before _ s = true := fun w h => hts w (List.mem_cons_of_mem _ h)
  obtain ⟨h1, h2⟩ := inB_tl h g
  have hl : lv_has ls 2 [(0, .int j), (1, .int (tLn i))] := hl
  refine lv_iload_n hx hb dJ0_checkIndex_df160_0 rfl (lv_at hl 0 rfl) ?_
  refine lv_iload_n hx hb dJ0_checkIndex_df160_1 rfl (lv_at hl 1 rfl) ?_
  rcases hE.2.2.2.1.2.2 with hz | ⟨t, hz⟩
  · refine va_gets hx hb hz hS hown (hU _ U599) (fun _ h9 => h9) dJ0_checkIndex_df160_2 ?_
    refine kt_SF (As := [.int j, .int (tLn i), .null]) (rest := []) (st1 := [.int j]) (wc' := []) C0 (c_J3_checkIndexN l γ h1 h2) (cxS (nA := 3) hts goodU U601 U602 U96 U603 (by decide +kernel) ⟨Nat.le_of_ble_eq_true rfl, Nat.le_of_ble_eq_true rfl⟩) hP hD0 hS hl dJ0_checkIndex_df160_5 foc_nil rfl (Nat.le_of_ble_eq_true rfl) rfl rfl (fun H locs hP hS => ?_)
    refine lv_pop hx hb dJ0_checkIndex_df160_8 rfl ?_
    exact kt_vret C0 hP hS dJ0_checkIndex_df160_9
  · refine va_gets hx hb hz hS hown (hU _ U599) (fun _ h9 => h9) dJ0_checkIndex_df160_2 ?_
    refine kt_SF (As := [.int j, .int (tLn i), .ref t]) (rest := []) (st1 := [.int j]) (wc' := []) C0 (c_J3_checkIndexR l γ h1 h2) (cxS (nA := 3) hts goodU U601 U602 U96 U603 (by decide +kernel) ⟨Nat.le_of_ble_eq_true rfl, Nat.le_of_ble_eq_true rfl⟩) hP hD0 hS hl dJ0_checkIndex_df160_5 foc_nil rfl (Nat.le_of_ble_eq_true rfl) rfl rfl (fun H locs hP hS => ?_)
    refine lv_pop hx hb dJ0_checkIndex_df160_8 rfl ?_
    exact kt_vret C0 hP hS dJ0_checkIndex_df160_9
theorem str_val : ∀ i, i < 6 → ∀ k, k < tLen.getD i 0 → ((((tByt.getD i []).getD k 0 &&& 255).toUInt32 % 65536).toInt32 = (tByt.getD i []).getD k 0 ∧ narrow .char (.int ((tByt.getD i []).getD k 0)) = .int ((tByt.getD i []).getD k 0)) := by decide +kernel
set_option maxHeartbeats 4000000 in
theorem c_J1_charAt (l : Launch) (γ : Gm) {i : Nat} {j : Int32} (h : i < 6) (g : inB j (tLen.getD i 0) = true) : Kt l γ yJ1_charAt_3b067 (Cond.code yJ1_charAt_3b067 cJ1_charAt_3b067 2 (some .char) :: U) 2 60 [.ref (sav γ i), .int j] [] (some (.int (tCh i j))) [] := by
  refine Kt.of (by decide) rfl (Nat.le_of_ble_eq_true rfl) rfl ?_
  intro p e s m below meth c A ls C0 hP hD0 hS hl
  obtain ⟨hx, hb, hml, hown, hts, hr, hlocks, hK, hE, hA⟩ := id C0
  have hU : ∀ w ∈ U, w.before _ s = true := fun w h => hts w (List.mem_cons_of_mem _ h)
  have hl : lv_has ls 2 [(0, .ref (sav γ i)), (1, .int j)] := hl
  refine lv_iload_n hx hb dJ1_charAt_3b067_0 rfl (lv_at hl 1 rfl) ?_
  refine lv_aload_n hx hb dJ1_charAt_3b067_1 rfl (lv_at hl 0 rfl) ?_
  refine va_tlen (v := tLn i) hx hb (hE.2.2.2.1.1.1 i h).2.2.2 hS rfl dJ1_charAt_3b067_2 ?_
  refine kt_SF (As := [.int j, .int (tLn i)]) (rest := []) (st1 := []) (wc' := []) C0 (c_J0_checkIndex l γ h g) (cxS (nA := 2) hts goodU U596 U597 U94 U598 (by decide +kernel) ⟨Nat.le_of_ble_eq_true rfl, Nat.le_of_ble_eq_true rfl⟩) hP hD0 hS hl dJ1_charAt_3b067_3 foc_nil rfl (Nat.le_of_ble_eq_true rfl) rfl rfl (fun H locs hP hS => ?_)
  refine lv_aload_n hx hb dJ1_charAt_3b067_6 rfl (lv_at hl 0 rfl) ?_
  refine lv_iload_n hx hb dJ1_charAt_3b067_7 rfl (lv_at hl 1 rfl) ?_
  refine va_tb (v := .int (tCh i j)) hx hb (hE.2.2.2.1.1.1 i h).2.2.2 hS (inB_vp g) rfl dJ1_charAt_3b067_8 ?_
  refine lv_sipush (v := 255) hx hb dJ1_charAt_3b067_9 (by decide) ?_
  refine lv_iand hx hb dJ1_charAt_3b067_12 ?_
  refine lv_i2c hx hb dJ1_charAt_3b067_13 rfl ?_
  have hv := str_val i h j.toNatClampNeg (inB_lt g)
  have hv1 : ((tCh i j &&& 255).toUInt32 % 65536).toInt32 = tCh i j := hv.1
  rw [hv1]
  exact W.zret (ty := .char) C0.1 C0.2.1 C0.2.2.2.2.2.1 hv.2 (fun t ht _ => ⟨⟨rfl, by rw [ht]; exact hP⟩, hS.F ht⟩) hS.2.2 dJ1_charAt_3b067_14 hlocks
set_option maxHeartbeats 4000000 in
theorem c_strchr (l : Launch) (γ : Gm) {i : Nat} {j : Int32} (h : i < 6) (g : inB j (tLen.getD i 0) = true) : Kt l γ yJ0_charAt_5068e (Cond.code yJ0_charAt_5068e cJ0_charAt_5068e 2 (some .char) :: U) 4 100 [.ref (sad γ i), .int j] [] (some (.int (tCh i j))) [] := by
  refine Kt.of (by decide) rfl (Nat.le_of_ble_eq_true rfl) rfl ?_
  intro p e s m below meth c A ls C0 hP hD0 hS hl
  obtain ⟨hx, hb, hml, hown, hts, hr, hlocks, hK, hE, hA⟩ := id C0
  have hU : ∀ w ∈ U, w.before _ s = true := fun w h => hts w (List.mem_cons_of_mem _ h)
  have hl : lv_has ls 2 [(0, .ref (sad γ i)), (1, .int j)] := hl
  refine lv_aload_n hx hb dJ0_charAt_5068e_0 rfl (lv_at hl 0 rfl) ?_
  refine kt_str (As := []) (rest := []) (st1 := [.int 1]) (i := i) C0 (c_isLatin1 l γ h) (cxV (nA := 0) hts goodU U587 U588 U589 U94 U590 (by decide +kernel) ⟨Nat.le_of_ble_eq_true rfl, Nat.le_of_ble_eq_true rfl⟩) h hP hD0 hS hl dJ0_charAt_5068e_1 rfl (Nat.le_of_ble_eq_true rfl) rfl rfl (fun H locs hP hS => ?_)
  refine lv_if_eq (tgt := 16) hx hb dJ0_charAt_5068e_4 (by decide) (fun c => absurd c (by decide)) (fun _ => ?_)
  refine lv_aload_n hx hb dJ0_charAt_5068e_7 rfl (lv_at hl 0 rfl) ?_
  refine vk_getf hx hb (hE.2.2.2.1.1.1 i h).2.2.1 hS hown (hU _ U1500) (fun _ h9 => h9) dJ0_charAt_5068e_8 ?_
  refine lv_iload_n hx hb dJ0_charAt_5068e_11 rfl (lv_at hl 1 rfl) ?_
  refine kt_SF (As := [.ref (sav γ i), .int j]) (rest := []) (st1 := [.int (tCh i j)]) (wc' := []) C0 (c_J1_charAt l γ h g) (cxS (nA := 2) hts goodU U593 U594 U95 U595 (by decide +kernel) ⟨Nat.le_of_ble_eq_true rfl, Nat.le_of_ble_eq_true rfl⟩) hP hD0 hS hl dJ0_charAt_5068e_12 foc_nil rfl (Nat.le_of_ble_eq_true rfl) rfl rfl (fun H locs hP hS => ?_)
  exact W.zret (ty := .char) C0.1 C0.2.1 C0.2.2.2.2.2.1 (str_val i h j.toNatClampNeg (inB_lt g)).2 (fun t ht _ => ⟨⟨rfl, by rw [ht]; exact hP⟩, hS.F ht⟩) hS.2.2 dJ0_charAt_5068e_15 hlocks
