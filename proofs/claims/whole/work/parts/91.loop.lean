theorem law_room {L k : Nat} (hL : L ≤ 3072) (h1 : 6 * k ≤ L) (h9 : ¬ (Int32.ofNat L - 6 < nI (6 * k))) : 6 * k + 6 ≤ L := by
  by_cases h : 6 ≤ L
  · have h2 : ¬ (nI L - nI 6 < nI (6 * k)) := h9
    rw [n_sub h, n_lt (by omega) (by omega)] at h2
    omega
  · have hk : k = 0 := by omega
    subst hk
    refine absurd ?_ h9
    have h3 : ∀ z, z < 6 → nI z - nI 6 < nI (6 * 0) := by decide +kernel
    exact h3 L (by omega)
set_option maxHeartbeats 4000000 in
set_option maxRecDepth 100000 in
theorem law_loop {p : Program} {l : Launch} {e : Env} {s : State} {m : MethodId} {below : List Frame} {meth : Method} {c : Code} {γ : Gm} {a : Nat → Nat → Nat} {am : Nat → Nat} {b L : Nat} {xs : Nat → Int32} {cells slots : Nat} (hL : L ≤ 3072) (C0 : Cx p room_1 s m #[Value.ref b] meth c γ (fun q : Nat => s.heap.size ≤ q) cL_law 4 ret lw_tbl RL) (hX : va_X b L xs s s.heap) (hbl : b < s.heap.size)
    (hD : ∀ (so r0 r1 r2 : GS) (rw : Nat → GS) (re : Nat → Nat → Int64) (tn : Option Nat) (se sv sk sd sm : GS) (sq : Nat → Int64), va_D (fun q : Nat => s.heap.size ≤ q) (wC γ a so r0 r1 r2 rw re tn se sv sk sd ++ wM γ am sm sq)) (hR1 : cells ≤ 600000 ∧ slots ≤ 7302250) :
    ∀ (n k : Nat), 6 * k ≤ L → L < 6 * (k + n) → ∀ (so r0 r1 r2 : GS) (rw : Nat → GS) (re : Nat → Nat → Int64) (tn : Option Nat) (se sv sk sd sm : GS) (sq : Nat → Int64) (H : Heap) (locs : List Loc), Inv (26000 * k) so r0 r1 rw re sv sm sq → va_P γ.1 vwCl (wC γ a so r0 r1 r2 rw re tn se sv sk sd ++ wM γ am sm sq) H → va_S (fun q : Nat => s.heap.size ≤ q) s.heap H locs → ∀ (ls : Array Slot), lv_has ls 4 [(0, .ref b), (1, .ref (a 0 0)), (2, .ref (am 0)), (3, .int (nI (6 * k)))] → W p l e room_1 s m #[Value.ref b] below meth c H locs cells slots (lw_Z below #[Value.ref b] s) (F0 m 18 ls []) := by
  obtain ⟨hx, hb, hml, hown, hts, hr, hlocks, hK, hE, hA⟩ := id C0
  have hbA : ¬ (fun q : Nat => s.heap.size ≤ q) b := Nat.not_le.mpr hbl
  intro n
  induction n with
  | zero =>
    intro k h1 h2
    exact absurd h2 (by omega)
  | succ n ih =>
    intro k h1 h2 so r0 r1 r2 rw re tn se sv sk sd sm sq H locs I hP hS ls hl
    refine lv_iload_n hx hb dL_law_18 rfl (lv_at hl 3 rfl) ?_
    refine lv_aload_n hx hb dL_law_19 rfl (lv_at hl 0 rfl) ?_
    refine va_slen hx hb hX hbl hbA hS dL_law_20 ?_
    refine lv_bipush (v := 6) hx hb dL_law_21 (by decide) ?_
    refine lv_isub hx hb dL_law_23 ?_
    refine lv_icmp_gt (tgt := 1569) hx hb dL_law_24 (by decide) (fun h9 => ?_) (fun h9 => ?_)
    · refine lv_iconst (v := 1) hx hb dL_law_1569 (by decide) ?_
      refine va_forget (fun q hq => hS.2.2 q hq) ?_
      refine W.widen (k := 600000) (n := 7302250) hR1.1 hR1.2 ?_
      exact lw_ret hx hb hr hlocks dL_law_1570
    · have hi : 6 * k + 6 ≤ L := law_room hL h1 h9
      refine lv_aload_n hx hb dL_law_27 rfl (lv_at hl 0 rfl) ?_
      refine lv_iload_n hx hb dL_law_28 rfl (lv_at hl 3 rfl) ?_
      refine va_sld hx hb hX hbl hbA hS (vp_in_nI (by omega) (by omega)) dL_law_29 ?_
      refine lv_bipush (v := 63) hx hb dL_law_30 (by decide) ?_
      refine lv_iand hx hb dL_law_32 ?_
      have kk : LK p l e s m below meth c γ a am b cells slots ls (26000 * k + 26000) (lw_Z below #[Value.ref b] s) := by
        intro so r0 r1 r2 rw re tn se sv sk sd sm sq H locs I hP hS
        refine lv_iinc (v := nI (6 * (k + 1))) (lv' := [(3, .int (nI (6 * (k + 1)))), (0, .ref b), (1, .ref (a 0 0)), (2, .ref (am 0))]) hx hb dL_law_1563 hl (k := 3) rfl (n_add (6 * k) 6) (by decide) rfl (fun ls hl => ?_)
        refine lv_goto (tgt := 18) hx hb dL_law_1566 (by decide) ?_
        exact ih (k + 1) (by omega) (by omega) _ _ _ _ _ _ _ _ _ _ _ _ _ _ _ (by rw [Nat.mul_succ]; exact I) hP hS _ (lv_sub hl [1, 2, 3, 0] rfl)
      have hC : LC p s m meth c γ a am b L xs (6 * k) ls cells slots := ⟨C0, hX, hbl, hD, hl, ⟨hi, hL⟩, hR1⟩
      have hB : 26000 * k ≤ 13400000 := by omega
      generalize (xs (nI (6 * k)).toNatClampNeg &&& 63) = v
      by_cases v0 : v = (0 : Int32)
      · refine lv_tableIn (off := 191) (tgt := 224) hx hb dL_law_33 (by rw [v0]; decide) (by rw [v0]; decide) (by rw [v0]; rfl) (by decide) ?_
        exact law_c0 hC I hB hP hS kk
      by_cases v1 : v = (1 : Int32)
      · refine lv_tableIn (off := 234) (tgt := 267) hx hb dL_law_33 (by rw [v1]; decide) (by rw [v1]; decide) (by rw [v1]; rfl) (by decide) ?_
        exact law_c1 hC I hB hP hS kk
      by_cases v2 : v = (2 : Int32)
      · refine lv_tableIn (off := 307) (tgt := 340) hx hb dL_law_33 (by rw [v2]; decide) (by rw [v2]; decide) (by rw [v2]; rfl) (by decide) ?_
        exact law_c2 hC I hB hP hS kk
      by_cases v3 : v = (3 : Int32)
      · refine lv_tableIn (off := 370) (tgt := 403) hx hb dL_law_33 (by rw [v3]; decide) (by rw [v3]; decide) (by rw [v3]; rfl) (by decide) ?_
        exact law_c3 hC I hB hP hS kk
      by_cases v4 : v = (4 : Int32)
      · refine lv_tableIn (off := 404) (tgt := 437) hx hb dL_law_33 (by rw [v4]; decide) (by rw [v4]; decide) (by rw [v4]; rfl) (by decide) ?_
        exact law_c4 hC I hB hP hS kk
      by_cases v5 : v = (5 : Int32)
      · refine lv_tableIn (off := 437) (tgt := 470) hx hb dL_law_33 (by rw [v5]; decide) (by rw [v5]; decide) (by rw [v5]; rfl) (by decide) ?_
        exact law_c5 hC I hB hP hS kk
      by_cases v6 : v = (6 : Int32)
      · refine lv_tableIn (off := 460) (tgt := 493) hx hb dL_law_33 (by rw [v6]; decide) (by rw [v6]; decide) (by rw [v6]; rfl) (by decide) ?_
        exact law_c6 hC I hB hP hS kk
      by_cases v7 : v = (7 : Int32)
      · refine lv_tableIn (off := 493) (tgt := 526) hx hb dL_law_33 (by rw [v7]; decide) (by rw [v7]; decide) (by rw [v7]; rfl) (by decide) ?_
        exact law_c7 hC I hB hP hS kk
      by_cases v8 : v = (8 : Int32)
      · refine lv_tableIn (off := 546) (tgt := 579) hx hb dL_law_33 (by rw [v8]; decide) (by rw [v8]; decide) (by rw [v8]; rfl) (by decide) ?_
        exact law_c8 hC I hB hP hS kk
      by_cases v9 : v = (9 : Int32)
      · refine lv_tableIn (off := 579) (tgt := 612) hx hb dL_law_33 (by rw [v9]; decide) (by rw [v9]; decide) (by rw [v9]; rfl) (by decide) ?_
        exact law_c9 hC I hB hP hS kk
      by_cases v10 : v = (10 : Int32)
      · refine lv_tableIn (off := 602) (tgt := 635) hx hb dL_law_33 (by rw [v10]; decide) (by rw [v10]; decide) (by rw [v10]; rfl) (by decide) ?_
        exact law_c10 hC I hB hP hS kk
      by_cases v11 : v = (11 : Int32)
      · refine lv_tableIn (off := 661) (tgt := 694) hx hb dL_law_33 (by rw [v11]; decide) (by rw [v11]; decide) (by rw [v11]; rfl) (by decide) ?_
        exact law_c11 hC I hB hP hS kk
      by_cases v12 : v = (12 : Int32)
      · refine lv_tableIn (off := 694) (tgt := 727) hx hb dL_law_33 (by rw [v12]; decide) (by rw [v12]; decide) (by rw [v12]; rfl) (by decide) ?_
        exact law_c12 hC I hB hP hS kk
      by_cases v13 : v = (13 : Int32)
      · refine lv_tableIn (off := 727) (tgt := 760) hx hb dL_law_33 (by rw [v13]; decide) (by rw [v13]; decide) (by rw [v13]; rfl) (by decide) ?_
        exact law_c13 hC I hB hP hS kk
      by_cases v14 : v = (14 : Int32)
      · refine lv_tableIn (off := 750) (tgt := 783) hx hb dL_law_33 (by rw [v14]; decide) (by rw [v14]; decide) (by rw [v14]; rfl) (by decide) ?_
        exact law_c14 hC I hB hP hS kk
      by_cases v15 : v = (15 : Int32)
      · refine lv_tableIn (off := 763) (tgt := 796) hx hb dL_law_33 (by rw [v15]; decide) (by rw [v15]; decide) (by rw [v15]; rfl) (by decide) ?_
        exact law_c15 hC I hB hP hS kk
      by_cases v16 : v = (16 : Int32)
      · refine lv_tableIn (off := 796) (tgt := 829) hx hb dL_law_33 (by rw [v16]; decide) (by rw [v16]; decide) (by rw [v16]; rfl) (by decide) ?_
        exact law_c16 hC I hB hP hS kk
      by_cases v17 : v = (17 : Int32)
      · refine lv_tableIn (off := 829) (tgt := 862) hx hb dL_law_33 (by rw [v17]; decide) (by rw [v17]; decide) (by rw [v17]; rfl) (by decide) ?_
        exact law_c17 hC I hB hP hS kk
      by_cases v18 : v = (18 : Int32)
      · refine lv_tableIn (off := 862) (tgt := 895) hx hb dL_law_33 (by rw [v18]; decide) (by rw [v18]; decide) (by rw [v18]; rfl) (by decide) ?_
        exact law_c18 hC I hB hP hS kk
      by_cases v19 : v = (19 : Int32)
      · refine lv_tableIn (off := 875) (tgt := 908) hx hb dL_law_33 (by rw [v19]; decide) (by rw [v19]; decide) (by rw [v19]; rfl) (by decide) ?_
        exact law_c19 hC I hB hP hS kk
      by_cases v20 : v = (20 : Int32)
      · refine lv_tableIn (off := 898) (tgt := 931) hx hb dL_law_33 (by rw [v20]; decide) (by rw [v20]; decide) (by rw [v20]; rfl) (by decide) ?_
        exact law_c20 hC I hB hP hS kk
      by_cases v21 : v = (21 : Int32)
      · refine lv_tableIn (off := 921) (tgt := 954) hx hb dL_law_33 (by rw [v21]; decide) (by rw [v21]; decide) (by rw [v21]; rfl) (by decide) ?_
        exact law_c21 hC I hB hP hS kk
      by_cases v22 : v = (22 : Int32)
      · refine lv_tableIn (off := 934) (tgt := 967) hx hb dL_law_33 (by rw [v22]; decide) (by rw [v22]; decide) (by rw [v22]; rfl) (by decide) ?_
        exact law_c22 hC I hB hP hS kk
      by_cases v23 : v = (23 : Int32)
      · refine lv_tableIn (off := 967) (tgt := 1000) hx hb dL_law_33 (by rw [v23]; decide) (by rw [v23]; decide) (by rw [v23]; rfl) (by decide) ?_
        exact law_c23 hC I hB hP hS kk
      by_cases v24 : v = (24 : Int32)
      · refine lv_tableIn (off := 990) (tgt := 1023) hx hb dL_law_33 (by rw [v24]; decide) (by rw [v24]; decide) (by rw [v24]; rfl) (by decide) ?_
        exact law_c24 hC I hB hP hS kk
      by_cases v25 : v = (25 : Int32)
      · refine lv_tableIn (off := 1033) (tgt := 1066) hx hb dL_law_33 (by rw [v25]; decide) (by rw [v25]; decide) (by rw [v25]; rfl) (by decide) ?_
        exact law_c25 hC I hB hP hS kk
      by_cases v26 : v = (26 : Int32)
      · refine lv_tableIn (off := 1066) (tgt := 1099) hx hb dL_law_33 (by rw [v26]; decide) (by rw [v26]; decide) (by rw [v26]; rfl) (by decide) ?_
        exact law_c26 hC I hB hP hS kk
      by_cases v27 : v = (27 : Int32)
      · refine lv_tableIn (off := 1089) (tgt := 1122) hx hb dL_law_33 (by rw [v27]; decide) (by rw [v27]; decide) (by rw [v27]; rfl) (by decide) ?_
        exact law_c27 hC I hB hP hS kk
      by_cases v28 : v = (28 : Int32)
      · refine lv_tableIn (off := 1112) (tgt := 1145) hx hb dL_law_33 (by rw [v28]; decide) (by rw [v28]; decide) (by rw [v28]; rfl) (by decide) ?_
        exact law_c28 hC I hB hP hS kk
      by_cases v29 : v = (29 : Int32)
      · refine lv_tableIn (off := 1125) (tgt := 1158) hx hb dL_law_33 (by rw [v29]; decide) (by rw [v29]; decide) (by rw [v29]; rfl) (by decide) ?_
        exact law_c29 hC I hB hP hS kk
      by_cases v30 : v = (30 : Int32)
      · refine lv_tableIn (off := 1158) (tgt := 1191) hx hb dL_law_33 (by rw [v30]; decide) (by rw [v30]; decide) (by rw [v30]; rfl) (by decide) ?_
        exact law_c30 hC I hB hP hS kk
      by_cases v31 : v = (31 : Int32)
      · refine lv_tableIn (off := 1181) (tgt := 1214) hx hb dL_law_33 (by rw [v31]; decide) (by rw [v31]; decide) (by rw [v31]; rfl) (by decide) ?_
        exact law_c31 hC I hB hP hS kk
      by_cases v32 : v = (32 : Int32)
      · refine lv_tableIn (off := 1214) (tgt := 1247) hx hb dL_law_33 (by rw [v32]; decide) (by rw [v32]; decide) (by rw [v32]; rfl) (by decide) ?_
        exact law_c32 hC I hB hP hS kk
      by_cases v33 : v = (33 : Int32)
      · refine lv_tableIn (off := 1247) (tgt := 1280) hx hb dL_law_33 (by rw [v33]; decide) (by rw [v33]; decide) (by rw [v33]; rfl) (by decide) ?_
        exact law_c33 hC I hB hP hS kk
      by_cases v34 : v = (34 : Int32)
      · refine lv_tableIn (off := 1290) (tgt := 1323) hx hb dL_law_33 (by rw [v34]; decide) (by rw [v34]; decide) (by rw [v34]; rfl) (by decide) ?_
        exact law_c34 hC I hB hP hS kk
      by_cases v35 : v = (35 : Int32)
      · refine lv_tableIn (off := 1323) (tgt := 1356) hx hb dL_law_33 (by rw [v35]; decide) (by rw [v35]; decide) (by rw [v35]; rfl) (by decide) ?_
        exact law_c35 hC I hB hP hS kk
      by_cases v36 : v = (36 : Int32)
      · refine lv_tableIn (off := 1346) (tgt := 1379) hx hb dL_law_33 (by rw [v36]; decide) (by rw [v36]; decide) (by rw [v36]; rfl) (by decide) ?_
        exact law_c36 hC I hB hP hS kk
      by_cases v37 : v = (37 : Int32)
      · refine lv_tableIn (off := 1369) (tgt := 1402) hx hb dL_law_33 (by rw [v37]; decide) (by rw [v37]; decide) (by rw [v37]; rfl) (by decide) ?_
        exact law_c37 hC I hB hP hS kk
      by_cases v38 : v = (38 : Int32)
      · refine lv_tableIn (off := 1392) (tgt := 1425) hx hb dL_law_33 (by rw [v38]; decide) (by rw [v38]; decide) (by rw [v38]; rfl) (by decide) ?_
        exact law_c38 hC I hB hP hS kk
      by_cases v39 : v = (39 : Int32)
      · refine lv_tableIn (off := 1415) (tgt := 1448) hx hb dL_law_33 (by rw [v39]; decide) (by rw [v39]; decide) (by rw [v39]; rfl) (by decide) ?_
        exact law_c39 hC I hB hP hS kk
      by_cases v40 : v = (40 : Int32)
      · refine lv_tableIn (off := 1458) (tgt := 1491) hx hb dL_law_33 (by rw [v40]; decide) (by rw [v40]; decide) (by rw [v40]; rfl) (by decide) ?_
        exact law_c40 hC I hB hP hS kk
      by_cases v41 : v = (41 : Int32)
      · refine lv_tableIn (off := 1481) (tgt := 1514) hx hb dL_law_33 (by rw [v41]; decide) (by rw [v41]; decide) (by rw [v41]; rfl) (by decide) ?_
        exact law_c41 hC I hB hP hS kk
      by_cases v42 : v = (42 : Int32)
      · refine lv_tableIn (off := 1494) (tgt := 1527) hx hb dL_law_33 (by rw [v42]; decide) (by rw [v42]; decide) (by rw [v42]; rfl) (by decide) ?_
        exact law_c42 hC I hB hP hS kk
      by_cases v43 : v = (43 : Int32)
      · refine lv_tableIn (off := 1507) (tgt := 1540) hx hb dL_law_33 (by rw [v43]; decide) (by rw [v43]; decide) (by rw [v43]; rfl) (by decide) ?_
        exact law_c43 hC I hB hP hS kk
      refine lv_tableOut (tgt := 1563) hx hb dL_law_33 (by have := lv_neT v0 (a := 0) (by decide); have := lv_neT v1 (a := 1) (by decide); have := lv_neT v2 (a := 2) (by decide); have := lv_neT v3 (a := 3) (by decide); have := lv_neT v4 (a := 4) (by decide); have := lv_neT v5 (a := 5) (by decide); have := lv_neT v6 (a := 6) (by decide); have := lv_neT v7 (a := 7) (by decide); have := lv_neT v8 (a := 8) (by decide); have := lv_neT v9 (a := 9) (by decide); have := lv_neT v10 (a := 10) (by decide); have := lv_neT v11 (a := 11) (by decide); have := lv_neT v12 (a := 12) (by decide); have := lv_neT v13 (a := 13) (by decide); have := lv_neT v14 (a := 14) (by decide); have := lv_neT v15 (a := 15) (by decide); have := lv_neT v16 (a := 16) (by decide); have := lv_neT v17 (a := 17) (by decide); have := lv_neT v18 (a := 18) (by decide); have := lv_neT v19 (a := 19) (by decide); have := lv_neT v20 (a := 20) (by decide); have := lv_neT v21 (a := 21) (by decide); have := lv_neT v22 (a := 22) (by decide); have := lv_neT v23 (a := 23) (by decide); have := lv_neT v24 (a := 24) (by decide); have := lv_neT v25 (a := 25) (by decide); have := lv_neT v26 (a := 26) (by decide); have := lv_neT v27 (a := 27) (by decide); have := lv_neT v28 (a := 28) (by decide); have := lv_neT v29 (a := 29) (by decide); have := lv_neT v30 (a := 30) (by decide); have := lv_neT v31 (a := 31) (by decide); have := lv_neT v32 (a := 32) (by decide); have := lv_neT v33 (a := 33) (by decide); have := lv_neT v34 (a := 34) (by decide); have := lv_neT v35 (a := 35) (by decide); have := lv_neT v36 (a := 36) (by decide); have := lv_neT v37 (a := 37) (by decide); have := lv_neT v38 (a := 38) (by decide); have := lv_neT v39 (a := 39) (by decide); have := lv_neT v40 (a := 40) (by decide); have := lv_neT v41 (a := 41) (by decide); have := lv_neT v42 (a := 42) (by decide); have := lv_neT v43 (a := 43) (by decide); omega) (by decide) ?_
      exact kk _ _ _ _ _ _ _ _ _ _ _ _ _ _ _ (Inv_mono I (by omega) (by omega)) hP hS
