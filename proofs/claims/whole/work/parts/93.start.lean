theorem inv_start : Inv 0 so0 sr0 sr0 (fun _ => z0) (fun _ => zl0) z0 sm0 zl0 := by
  refine ⟨fun _ _ => 0, ⟨⟨⟨rfl, rfl, rfl, rfl, rfl⟩, fun i h => absurd h (Nat.not_lt_zero _), fun i j h => absurd h (Nat.not_lt_zero _), fun i h => absurd h (Nat.not_lt_zero _), fun i h => absurd h (Nat.not_lt_zero _)⟩,
    ⟨⟨rfl, rfl, rfl, rfl⟩, fun i h => absurd h (Nat.not_lt_zero _), fun i j h => absurd h (Nat.not_lt_zero _), fun i h => absurd h (Nat.not_lt_zero _), fun i h => absurd h (Nat.not_lt_zero _)⟩,
    ⟨⟨⟨by decide, by decide, by decide, by decide, by decide, by decide⟩, fun i h => absurd h (Nat.not_lt_zero _), fun i j h => absurd h (Nat.not_lt_zero _), fun i h => absurd h (Nat.not_lt_zero _), fun i h => absurd h (Nat.not_lt_zero _), fun i j h => absurd h (Nat.not_lt_zero _)⟩, fun i j h => absurd h (Nat.not_lt_zero _)⟩, rfl⟩, rfl, fun i hi => ⟨rfl, Or.inl ?_⟩, fun i hi => rfl, ⟨0, by decide, rfl, rfl, fun i _ h => absurd h (Nat.not_lt_zero _)⟩, ⟨false, rfl, rfl, fun h => by cases h⟩⟩
  show held0 i = mI
  match i, hi with
  | 0, _ => rfl
  | 1, _ => rfl
  | 2, _ => rfl
  | 3, _ => rfl
  | 4, _ => rfl
  | 5, _ => rfl
  | 6, _ => rfl
  | 7, _ => rfl
  | i + 8, hi => exact absurd hi (by omega)
set_option maxHeartbeats 4000000 in
set_option maxRecDepth 100000 in
theorem whole_start {p : Program} {e : Env} {s : State} {m : MethodId} {below : List Frame} {meth : Method} {c : Code} (l : Launch) (hflags : l.flags = flags0) {b L : Nat} {xs : Nat → Int32} (hL : L ≤ 3072) (C0 : lw_At p s m meth c b L xs) : W p l e room_1 s m #[Value.ref b] below meth c s.heap [] 0 0 (lw_Z below #[Value.ref b] s) (entryFrame m ([Value.ref b] : List Value).toArray 4) := by
  obtain ⟨hx, hb, hr, hml, hown, hts, hX, hbl, hlocks, hgv⟩ := id C0
  obtain ⟨γ, hK, hE⟩ := law_ev hts hgv
  have hA : ∀ q : Nat, s.heap.size ≤ q → (fun q : Nat => s.heap.size ≤ q) q := fun _ h => h
  have C1 : Cx p room_1 s m #[Value.ref b] meth c γ (fun q : Nat => s.heap.size ≤ q) cL_law 4 ret lw_tbl RL := ⟨hx, hb, hml, hown, hts, hr, hlocks, hK, hE, hA⟩
  have hU : ∀ w ∈ U, w.before #[Value.ref b] s = true := fun w h => hts w (List.mem_filter.mp h).1
  have hS : va_S (fun q : Nat => s.heap.size ≤ q) s.heap s.heap [] := va_S.rf
  have hP : va_P γ.1 vwCl [] s.heap := fun k q h => by simp at h
  have hD : va_D (fun q : Nat => s.heap.size ≤ q) [] := ⟨fun i j p q h => by simp at h, fun k q h => by simp at h⟩
  have hl := lv_entry ([.ref b]) (n := 4) (Nat.le_of_ble_eq_true rfl)
  rw [lg_entry_eq]
  generalize (lg_sl ([.ref b]) ++ List.replicate (4 - (lg_sl ([.ref b])).length) Slot.unset).toArray = ls at hl ⊢
  have hl : lv_has ls 4 [(0, .ref b)] := hl
  have hown2 : s.vm.findClass RL = some m.cls := hown
  refine va_new (D := γ.1) (ci := 6) (fs := [.null, .null, .null, .int 0, .null, .null, .null, .int 0, .null, .null, .null, .null]) (C := RX6) (T := TX6) (N := 12) hx hb hU uin6 tyX6 tyX6_ok hown2 (hU _ U99) (hU _ U100) (hU _ U84) hK hP hD hS hA rfl (by decide +kernel) (Nat.le_of_ble_eq_true rfl) (Nat.le_of_ble_eq_true rfl) dL_law_0 (fun q1 H hP hD hS => ?_)
  refine lv_dup hx hb dL_law_3 rfl ?_
  refine kn_I (ws := []) (rest := [.ref q1]) C1 (c_X6_init l γ q1) (cwI 0 hts (goodc goodU0 U103) rfl rfl rfl (hU _ U84) (hU _ U101) (hU _ U102) rfl (by decide +kernel) ⟨Nat.le_of_ble_eq_true rfl, Nat.le_of_ble_eq_true rfl⟩) hP hD hS hl dL_law_4 (Nat.le_of_ble_eq_true rfl) ⟨Nat.le_of_ble_eq_true rfl, Nat.le_of_ble_eq_true rfl⟩ (fun w1 H locs hw hP hD hS => ?_)
  obtain ⟨a, ha, rfl⟩ := hw
  rw [← ha]
  have hP : va_P γ.1 vwCl (wC γ a so0 sr0 sr0 sr0 (fun _ => z0) (fun _ => zl0) none se0 z0 z0 z0) H := hP
  have hD : va_D (fun q : Nat => s.heap.size ≤ q) (wC γ a so0 sr0 sr0 sr0 (fun _ => z0) (fun _ => zl0) none se0 z0 z0 z0) := hD
  refine lv_astore_n (lv' := [(1, .ref (a 0 0)), (0, .ref b)]) hx hb dL_law_7 rfl hl (by decide) rfl (fun ls hl => ?_)
  refine va_new (D := γ.1) (ci := 7) (fs := [.null, .null, .null, .int 0, .null, .null, .null, .null, .null, .null, .null, .int 0, .null, .null, .int 0, .null, .null, .int 0, .int 0, .int 0, .null, .int 0, .null, .int 0, .null, .null, .null, .null, .null, .null, .null, .int 0, .int 0, .null, .int 0]) (C := RX7) (T := TX7) (N := 35) hx hb hU uin7 tyX7 tyX7_ok hown2 (hU _ U963) (hU _ U964) (hU _ U91) hK hP hD hS hA rfl (by decide +kernel) (Nat.le_of_ble_eq_true rfl) (Nat.le_of_ble_eq_true rfl) dL_law_8 (fun q2 H hP hD hS => ?_)
  refine lv_dup hx hb dL_law_11 rfl ?_
  refine kn_I (rest := [.ref q2]) C1 (c_X7_init l γ q2) (cwI 0 hts (goodc goodU0 U967) rfl rfl rfl (hU _ U91) (hU _ U965) (hU _ U966) rfl (by decide +kernel) ⟨Nat.le_of_ble_eq_true rfl, Nat.le_of_ble_eq_true rfl⟩) hP hD hS hl dL_law_12 (Nat.le_of_ble_eq_true rfl) ⟨Nat.le_of_ble_eq_true rfl, Nat.le_of_ble_eq_true rfl⟩ (fun w1 H locs hw hP hD hS => ?_)
  obtain ⟨am, ham, rfl⟩ := hw
  rw [← ham]
  refine lv_astore_n (lv' := [(2, .ref (am 0)), (1, .ref (a 0 0)), (0, .ref b)]) hx hb dL_law_15 rfl hl (by decide) rfl (fun ls hl => ?_)
  refine lv_iconst (v := 0) hx hb dL_law_16 (by decide) ?_
  refine lv_istore_n (lv' := [(3, .int 0), (2, .ref (am 0)), (1, .ref (a 0 0)), (0, .ref b)]) hx hb dL_law_17 rfl hl (by decide) rfl (fun ls hl => ?_)
  exact law_loop hL C1 hX hbl (fun _ _ _ _ _ _ _ _ _ _ _ _ _ => hD.fst rfl) ⟨Nat.le_of_ble_eq_true rfl, Nat.le_of_ble_eq_true rfl⟩ 600 0 (by omega) (by omega) _ _ _ _ _ _ _ _ _ _ _ _ _ _ _ inv_start hP hS _ (lv_sub hl [3, 2, 1, 0] rfl)
