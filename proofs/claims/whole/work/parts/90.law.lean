-- the law: rows of its own
section LAWT
variable {p : Program} {l : Launch} {e : Env} {R : Room} {s : State} {m : MethodId} {args : Array Value} {below : List Frame} {meth : Method} {c : Code} {H : Heap} {locs : List Loc} {Q : State → Prop} {γ : Gm} {A : Nat → Prop} {cells slots : Nat}
variable {cc bytes : ByteArray} {maxL maxLy nA pc idx : Nat} {ret rety : Option FieldType} {ts wsy : List Cond} {own C : String} {y : MethodName} {fr lo : Nat} {rest : List Value} {b : Nat} {ws : va_W} {ls : Array Slot} {lv : List (Nat × Value)} {wc w w' : va_W} {r : Option Value} {As : List Value}
theorem kt_runG {pc : Nat} {ls : Array Slot} {rest st0 : List Value} {a : Array Value} {A1 : Nat → Prop} {r : Option Value} {w' : va_W} (hr : va_Run p l e R s m args below meth c H locs cells slots 0 0 (F0 m pc ls st0) rest (KQ γ A1 r w' a) A1) (hS : va_S A s.heap H locs) (hf : ∀ q, A1 q → A q)
    (kk : ∀ (H1 : Heap) (locs1 : List Loc), va_P γ.1 vwCl w' H1 → (∀ q : Nat, q < H.size → ¬ A1 q → H1[q]? = H[q]?) → va_S A s.heap H1 locs1 → W p l e R s m args below meth c H1 locs1 cells slots Q (F0 m (pc + 3) ls (r.toList ++ rest))) : W p l e R s m args below meth c H locs cells slots Q (F0 m pc ls st0) := by
  intro T hT X
  obtain ⟨v, st₀, t, T', L, h0, X', hL, e1, e2, ⟨⟨hv, hp⟩, hz, hk⟩, st⟩ := hr T hT X
  cases hv
  rw [h0] at hz hk
  obtain ⟨t2, a1, b1⟩ := kk T'.heap (locs ++ L) (by rw [e1]; exact hp) (fun q h1 h2 => by rw [e1]; exact hk q h1 h2)
    ⟨Nat.le_trans hS.1 (by rw [e1]; exact hz), fun q h1 h2 => by rw [e1, hk q (Nat.lt_of_lt_of_le h1 hS.1) (fun z => h2 (hf q z))]; exact hS.2.1 q h1 h2, fun q hq => by
      rcases List.mem_append.mp hq with h | h
      · exact hS.2.2 q h
      · exact hf _ (hL q h)⟩ T' rfl X'
  exact ⟨t2, st t2 a1, b1⟩
theorem kt_VG {wc' : va_W} (C0 : Cx p R s m args meth c γ A cc maxL ret ts own) (hM : Kt l γ y wsy fr lo (.ref b :: As) w r w') (cw : CallW R s args own C idx y bytes maxLy rety wsy (rmK fr lo) 0 0 nA) (hP : va_P γ.1 vwCl wc H) (hD : va_D A wc) (hS : va_S A s.heap H locs) (hl : lv_has ls maxL lv) (hdg : decode cc pc = .ok (.invokevirtual idx, 3)) (hR : cells ≤ R.cells ∧ slots ≤ R.slots) (hF : FocP wc w wc' w') (q0 ci : Nat) {fs : List Value} {cq : vw_C} (hq : w[q0]? = some (b, .inr (ci, fs))) (hc : vwCl[ci]? = some cq) (hcq : cq.1 = C) (hnA : As.length = nA) (hrest : (rest.map fun v => v.category).sum ≤ 8) {st0 st1 : List Value} (hst0 : As.reverse ++ .ref b :: rest = st0) (hst1 : r.toList ++ rest = st1)
    (kk : ∀ (H1 : Heap) (locs1 : List Loc), va_P γ.1 vwCl wc' H1 → va_S A s.heap H1 locs1 → W p l e R s m args below meth c H1 locs1 cells slots Q (F0 m (pc + 3) ls st1)) : W p l e R s m args below meth c H locs cells slots Q (F0 m pc ls st0) := by
  subst hst0
  subst hst1
  obtain ⟨rst, hp, hp'⟩ := hF
  obtain ⟨hx, hb, hml, hown, hts, -, -, hK, hE, hA⟩ := C0
  have hPw := (foc_split hp hP).1
  have hfree := foc_free (w := w) hp hD hA hS
  have hrun := va_runV (locs := locs) (cells := cells) (slots := slots) (below := below) (meth := meth) (l := l) (e := e) (g := F0 m pc ls (As.reverse ++ .ref b :: rest)) (rest := rest) (As := As) (b := b) ⟨hx, hb, hml, hown, hts⟩ (hM.2 H.size) cw ⟨KB.blind, by rw [← hcq]; exact va_recv hK hPw hc hq, fun U hU hW => ⟨rfl, by rw [hU], by rw [hU]; exact hPw, va_K.moved hW.alike hK, (foc_D hp hD).1.weaken (fun _ _ _ _ => trivial), hE.go hS hU hW hfree⟩⟩ rfl hnA hl.1 rfl (lv_room hrest) hdg ⟨hR.1, hR.2⟩
  exact kt_runG hrun hS hfree fun H1 locs1 hP1 hk hS1 => kk H1 locs1 (foc_back hp hp' hD hP hP1 hk) hS1
-- one of the script's ints on the stack
theorem law_rd {L : Nat} {xs : Nat → Int32} {lv : List (Nat × Value)} {x k : Int32} {n : Int} (hx : p.tables.exec = Jvm.exec) (hb : c.code = cc) (hl : lv_has ls maxL lv) (hX : va_X b L xs s s.heap) (hbl : b < s.heap.size) (hbA : ¬ A b) (hS : va_S A s.heap H locs) (hin : vp_in (x + k) L) (h0 : lv[0]? = some (0, .ref b)) (h3 : lv[3]? = some (3, .int x)) (d0 : decode cc pc = .ok (.aload_n 0, 1)) (d1 : decode cc (pc + 1) = .ok (.iload_n 3, 1)) (d2 : decode cc (pc + 2) = .ok (.iconst n, 1)) (d3 : decode cc (pc + 3) = .ok (.iadd, 1)) (d4 : decode cc (pc + 4) = .ok (.iaload, 1)) (hk : Int32.ofInt n = k)
    (kk : W p l e R s m args below meth c H locs cells slots Q (F0 m (pc + 5) ls (.int (xs (x + k).toNatClampNeg) :: rest))) : W p l e R s m args below meth c H locs cells slots Q (F0 m pc ls rest) := by
  refine lv_aload_n hx hb d0 rfl (lv_at hl 0 h0) ?_
  refine lv_iload_n hx hb d1 rfl (lv_at hl 3 h3) ?_
  refine lv_iconst (v := k) hx hb d2 hk ?_
  refine lv_iadd hx hb d3 ?_
  exact va_sld hx hb hX hbl hbA hS hin d4 kk
end LAWT
theorem law_in {i L : Nat} (k : Nat) (h : i + 6 ≤ L) (hL : L ≤ 3072) (hk : k < 6) : vp_in (nI i + nI k) L := by
  rw [n_add]
  exact vp_in_nI (by omega) (by omega)
def LC (p : Program) (s : State) (m : MethodId) (meth : Method) (c : Code) (γ : Gm) (a : Nat → Nat → Nat) (am : Nat → Nat) (b L : Nat) (xs : Nat → Int32) (i : Nat) (ls : Array Slot) (cells slots : Nat) : Prop :=
  Cx p room_1 s m #[Value.ref b] meth c γ (fun q : Nat => s.heap.size ≤ q) cL_law 4 ret lw_tbl RL ∧ va_X b L xs s s.heap ∧ b < s.heap.size ∧ (∀ (so r0 r1 r2 : GS) (rw : Nat → GS) (re : Nat → Nat → Int64) (tn : Option Nat) (se sv sk sd sm : GS) (sq : Nat → Int64), va_D (fun q : Nat => s.heap.size ≤ q) (wC γ a so r0 r1 r2 rw re tn se sv sk sd ++ wM γ am sm sq)) ∧
    lv_has ls 4 [(0, .ref b), (1, .ref (a 0 0)), (2, .ref (am 0)), (3, .int (nI i))] ∧ (i + 6 ≤ L ∧ L ≤ 3072) ∧ (cells ≤ 600000 ∧ slots ≤ 7302250)
def LK (p : Program) (l : Launch) (e : Env) (s : State) (m : MethodId) (below : List Frame) (meth : Method) (c : Code) (γ : Gm) (a : Nat → Nat → Nat) (am : Nat → Nat) (b : Nat) (cells slots : Nat) (ls : Array Slot) (B : Nat) (Q : State → Prop) : Prop :=
  ∀ (so r0 r1 r2 : GS) (rw : Nat → GS) (re : Nat → Nat → Int64) (tn : Option Nat) (se sv sk sd sm : GS) (sq : Nat → Int64) (H : Heap) (locs : List Loc), Inv B so r0 r1 rw re sv sm sq → va_P γ.1 vwCl (wC γ a so r0 r1 r2 rw re tn se sv sk sd ++ wM γ am sm sq) H → va_S (fun q : Nat => s.heap.size ≤ q) s.heap H locs → W p l e room_1 s m #[Value.ref b] below meth c H locs cells slots Q (F0 m 1563 ls [])
section LAWC
variable {p : Program} {l : Launch} {e : Env} {s : State} {m : MethodId} {below : List Frame} {meth : Method} {c : Code} {γ : Gm} {a : Nat → Nat → Nat} {am : Nat → Nat} {b L : Nat} {xs : Nat → Int32} {i : Nat} {ls : Array Slot} {H : Heap} {locs : List Loc} {cells slots B : Nat} {Q : State → Prop}
variable {so r0 r1 r2 : GS} {rw : Nat → GS} {re : Nat → Nat → Int64} {tn : Option Nat} {se sv sk sd sm : GS} {sq : Nat → Int64}
set_option maxHeartbeats 2000000 in
set_option maxRecDepth 100000 in
theorem law_c0 (C : LC p s m meth c γ a am b L xs i ls cells slots) (I : Inv B so r0 r1 rw re sv sm sq) (hB : B ≤ 13400000) (hP : va_P γ.1 vwCl (wC γ a so r0 r1 r2 rw re tn se sv sk sd ++ wM γ am sm sq) H) (hS : va_S (fun q : Nat => s.heap.size ≤ q) s.heap H locs) (kk : LK p l e s m below meth c γ a am b cells slots ls (B + 26000) Q) : W p l e room_1 s m #[Value.ref b] below meth c H locs cells slots Q (F0 m 224 ls []) := by
  obtain ⟨C0, hX, hbl, hD, hl, hi, hR1⟩ := C
  obtain ⟨hx, hb, hml, hown, hts, -, -, hK, hE, hA⟩ := id C0
  have hbA : ¬ (fun q : Nat => s.heap.size ≤ q) b := Nat.not_le.mpr hbl
  obtain ⟨X, hf, Y, hg, hR⟩ := sim_row I (xs (nI i + 1).toNatClampNeg) (xs (nI i + 2).toNatClampNeg) (xs (nI i + 3).toNatClampNeg)
  obtain ⟨rv, so1, rw1, re1⟩ := X
  obtain ⟨rv7, sm1, sq1⟩ := Y
  have he : rv = rv7 := hR.1
  have hI : Inv B so1 r0 r1 rw1 re1 sv sm1 sq1 := hR.2
  refine lv_aload_n hx hb dL_law_224 rfl (lv_at hl 1 rfl) ?_
  refine law_rd (k := 1) (lv := [(0, .ref b), (1, .ref (a 0 0)), (2, .ref (am 0)), (3, .int (nI i))]) hx hb hl hX hbl hbA hS (law_in 1 hi.1 hi.2 (by decide)) rfl rfl dL_law_225 dL_law_226 dL_law_227 dL_law_228 dL_law_229 (by decide) ?_
  refine law_rd (k := 2) (lv := [(0, .ref b), (1, .ref (a 0 0)), (2, .ref (am 0)), (3, .int (nI i))]) hx hb hl hX hbl hbA hS (law_in 2 hi.1 hi.2 (by decide)) rfl rfl dL_law_230 dL_law_231 dL_law_232 dL_law_233 dL_law_234 (by decide) ?_
  refine law_rd (k := 3) (lv := [(0, .ref b), (1, .ref (a 0 0)), (2, .ref (am 0)), (3, .int (nI i))]) hx hb hl hX hbl hbA hS (law_in 3 hi.1 hi.2 (by decide)) rfl rfl dL_law_235 dL_law_236 dL_law_237 dL_law_238 dL_law_239 (by decide) ?_
  refine kt_VG (As := [.int (xs (nI i + 1).toNatClampNeg), .int (xs (nI i + 2).toNatClampNeg), .int (xs (nI i + 3).toNatClampNeg)]) (rest := []) (st1 := [.int rv]) (b := a 0 0) (wc' := wC γ a so1 r0 r1 r2 rw1 re1 tn se sv sk sd ++ wM γ am sm sq) C0 (c_X6_row l γ a hf) (cxV (nA := 3) hts goodU0 U336 U337 U338 U84 U339 (by decide +kernel) ⟨Nat.le_of_ble_eq_true rfl, Nat.le_of_ble_eq_true rfl⟩) hP (hD _ _ _ _ _ _ _ _ _ _ _ _ _) hS hl dL_law_240 hR1 focA1 0 6 rfl rfl rfl rfl (Nat.le_of_ble_eq_true rfl) rfl rfl (fun H locs hP hS => ?_)
  refine lv_aload_n hx hb dL_law_243 rfl (lv_at hl 2 rfl) ?_
  refine law_rd (k := 1) (lv := [(0, .ref b), (1, .ref (a 0 0)), (2, .ref (am 0)), (3, .int (nI i))]) hx hb hl hX hbl hbA hS (law_in 1 hi.1 hi.2 (by decide)) rfl rfl dL_law_244 dL_law_245 dL_law_246 dL_law_247 dL_law_248 (by decide) ?_
  refine law_rd (k := 2) (lv := [(0, .ref b), (1, .ref (a 0 0)), (2, .ref (am 0)), (3, .int (nI i))]) hx hb hl hX hbl hbA hS (law_in 2 hi.1 hi.2 (by decide)) rfl rfl dL_law_249 dL_law_250 dL_law_251 dL_law_252 dL_law_253 (by decide) ?_
  refine law_rd (k := 3) (lv := [(0, .ref b), (1, .ref (a 0 0)), (2, .ref (am 0)), (3, .int (nI i))]) hx hb hl hX hbl hbA hS (law_in 3 hi.1 hi.2 (by decide)) rfl rfl dL_law_254 dL_law_255 dL_law_256 dL_law_257 dL_law_258 (by decide) ?_
  refine kt_VG (As := [.int (xs (nI i + 1).toNatClampNeg), .int (xs (nI i + 2).toNatClampNeg), .int (xs (nI i + 3).toNatClampNeg)]) (rest := [.int rv]) (st1 := [.int rv7, .int rv]) (b := am 0) (wc' := wC γ a so1 r0 r1 r2 rw1 re1 tn se sv sk sd ++ wM γ am sm1 sq1) C0 (c_X7_row l γ am hg) (cxV (nA := 3) hts goodU0 U1075 U1076 U1077 U91 U1078 (by decide +kernel) ⟨Nat.le_of_ble_eq_true rfl, Nat.le_of_ble_eq_true rfl⟩) hP (hD _ _ _ _ _ _ _ _ _ _ _ _ _) hS hl dL_law_259 hR1 focA2 0 7 rfl rfl rfl rfl (Nat.le_of_ble_eq_true rfl) rfl rfl (fun H locs hP hS => ?_)
  refine lv_icmp_eq (tgt := 1563) hx hb dL_law_262 (by decide) (fun _ => ?_) (fun h9 => absurd he h9)
  exact kk _ _ _ _ _ _ _ _ _ _ _ _ _ _ _ (Inv_mono hI (by omega) (by omega)) hP hS
set_option maxHeartbeats 2000000 in
set_option maxRecDepth 100000 in
theorem law_c1 (C : LC p s m meth c γ a am b L xs i ls cells slots) (I : Inv B so r0 r1 rw re sv sm sq) (hB : B ≤ 13400000) (hP : va_P γ.1 vwCl (wC γ a so r0 r1 r2 rw re tn se sv sk sd ++ wM γ am sm sq) H) (hS : va_S (fun q : Nat => s.heap.size ≤ q) s.heap H locs) (kk : LK p l e s m below meth c γ a am b cells slots ls (B + 26000) Q) : W p l e room_1 s m #[Value.ref b] below meth c H locs cells slots Q (F0 m 267 ls []) := by
  obtain ⟨C0, hX, hbl, hD, hl, hi, hR1⟩ := C
  obtain ⟨hx, hb, hml, hown, hts, -, -, hK, hE, hA⟩ := id C0
  have hbA : ¬ (fun q : Nat => s.heap.size ≤ q) b := Nat.not_le.mpr hbl
  obtain ⟨X, hf, Y, hg, hR⟩ := sim_set I (xs (nI i + 1).toNatClampNeg) (xs (nI i + 2).toNatClampNeg) (((xs (nI i + 3).toNatClampNeg).toInt64 <<< ((32 : Int32).toInt64 &&& 63)) ||| ((xs (nI i + 4).toNatClampNeg).toInt64 &&& (4294967295 : Int64)))
  obtain ⟨rv, so1, re1⟩ := X
  obtain ⟨rv7, sm1, sq1⟩ := Y
  have he : rv = rv7 := hR.1
  have hI : Inv B so1 r0 r1 rw re1 sv sm1 sq1 := hR.2
  refine lv_aload_n hx hb dL_law_267 rfl (lv_at hl 1 rfl) ?_
  refine law_rd (k := 1) (lv := [(0, .ref b), (1, .ref (a 0 0)), (2, .ref (am 0)), (3, .int (nI i))]) hx hb hl hX hbl hbA hS (law_in 1 hi.1 hi.2 (by decide)) rfl rfl dL_law_268 dL_law_269 dL_law_270 dL_law_271 dL_law_272 (by decide) ?_
  refine law_rd (k := 2) (lv := [(0, .ref b), (1, .ref (a 0 0)), (2, .ref (am 0)), (3, .int (nI i))]) hx hb hl hX hbl hbA hS (law_in 2 hi.1 hi.2 (by decide)) rfl rfl dL_law_273 dL_law_274 dL_law_275 dL_law_276 dL_law_277 (by decide) ?_
  refine law_rd (k := 3) (lv := [(0, .ref b), (1, .ref (a 0 0)), (2, .ref (am 0)), (3, .int (nI i))]) hx hb hl hX hbl hbA hS (law_in 3 hi.1 hi.2 (by decide)) rfl rfl dL_law_278 dL_law_279 dL_law_280 dL_law_281 dL_law_282 (by decide) ?_
  refine lv_i2l hx hb dL_law_283 rfl ?_
  refine lv_bipush (v := 32) hx hb dL_law_284 (by decide) ?_
  refine lv_lshl hx hb dL_law_286 rfl ?_
  refine law_rd (k := 4) (lv := [(0, .ref b), (1, .ref (a 0 0)), (2, .ref (am 0)), (3, .int (nI i))]) hx hb hl hX hbl hbA hS (law_in 4 hi.1 hi.2 (by decide)) rfl rfl dL_law_287 dL_law_288 dL_law_289 dL_law_290 dL_law_291 (by decide) ?_
  refine lv_i2l hx hb dL_law_292 rfl ?_
  refine lv_ldc2 (v := 4294967295) hx hb hown (hts _ (List.mem_filter.mp U1498).1) dL_law_293 ?_
  refine lv_land hx hb dL_law_296 ?_
  refine lv_lor hx hb dL_law_297 ?_
  refine kt_VG (As := [.int (xs (nI i + 1).toNatClampNeg), .int (xs (nI i + 2).toNatClampNeg), .long (((xs (nI i + 3).toNatClampNeg).toInt64 <<< ((32 : Int32).toInt64 &&& 63)) ||| ((xs (nI i + 4).toNatClampNeg).toInt64 &&& (4294967295 : Int64)))]) (rest := []) (st1 := [.int rv]) (b := a 0 0) (wc' := wC γ a so1 r0 r1 r2 rw re1 tn se sv sk sd ++ wM γ am sm sq) C0 (c_X6_set l γ a hf) (cxV (nA := 3) hts goodU0 U351 U352 U353 U84 U354 (by decide +kernel) ⟨Nat.le_of_ble_eq_true rfl, Nat.le_of_ble_eq_true rfl⟩) hP (hD _ _ _ _ _ _ _ _ _ _ _ _ _) hS hl dL_law_298 hR1 focA1 0 6 rfl rfl rfl rfl (Nat.le_of_ble_eq_true rfl) rfl rfl (fun H locs hP hS => ?_)
  refine lv_aload_n hx hb dL_law_301 rfl (lv_at hl 2 rfl) ?_
  refine law_rd (k := 1) (lv := [(0, .ref b), (1, .ref (a 0 0)), (2, .ref (am 0)), (3, .int (nI i))]) hx hb hl hX hbl hbA hS (law_in 1 hi.1 hi.2 (by decide)) rfl rfl dL_law_302 dL_law_303 dL_law_304 dL_law_305 dL_law_306 (by decide) ?_
  refine law_rd (k := 2) (lv := [(0, .ref b), (1, .ref (a 0 0)), (2, .ref (am 0)), (3, .int (nI i))]) hx hb hl hX hbl hbA hS (law_in 2 hi.1 hi.2 (by decide)) rfl rfl dL_law_307 dL_law_308 dL_law_309 dL_law_310 dL_law_311 (by decide) ?_
  refine law_rd (k := 3) (lv := [(0, .ref b), (1, .ref (a 0 0)), (2, .ref (am 0)), (3, .int (nI i))]) hx hb hl hX hbl hbA hS (law_in 3 hi.1 hi.2 (by decide)) rfl rfl dL_law_312 dL_law_313 dL_law_314 dL_law_315 dL_law_316 (by decide) ?_
  refine lv_i2l hx hb dL_law_317 rfl ?_
  refine lv_bipush (v := 32) hx hb dL_law_318 (by decide) ?_
  refine lv_lshl hx hb dL_law_320 rfl ?_
  refine law_rd (k := 4) (lv := [(0, .ref b), (1, .ref (a 0 0)), (2, .ref (am 0)), (3, .int (nI i))]) hx hb hl hX hbl hbA hS (law_in 4 hi.1 hi.2 (by decide)) rfl rfl dL_law_321 dL_law_322 dL_law_323 dL_law_324 dL_law_325 (by decide) ?_
  refine lv_i2l hx hb dL_law_326 rfl ?_
  refine lv_ldc2 (v := 4294967295) hx hb hown (hts _ (List.mem_filter.mp U1498).1) dL_law_327 ?_
  refine lv_land hx hb dL_law_330 ?_
  refine lv_lor hx hb dL_law_331 ?_
  refine kt_VG (As := [.int (xs (nI i + 1).toNatClampNeg), .int (xs (nI i + 2).toNatClampNeg), .long (((xs (nI i + 3).toNatClampNeg).toInt64 <<< ((32 : Int32).toInt64 &&& 63)) ||| ((xs (nI i + 4).toNatClampNeg).toInt64 &&& (4294967295 : Int64)))]) (rest := [.int rv]) (st1 := [.int rv7, .int rv]) (b := am 0) (wc' := wC γ a so1 r0 r1 r2 rw re1 tn se sv sk sd ++ wM γ am sm1 sq1) C0 (c_X7_set l γ am hg) (cxV (nA := 3) hts goodU0 U1086 U1087 U1088 U91 U1089 (by decide +kernel) ⟨Nat.le_of_ble_eq_true rfl, Nat.le_of_ble_eq_true rfl⟩) hP (hD _ _ _ _ _ _ _ _ _ _ _ _ _) hS hl dL_law_332 hR1 focA2 0 7 rfl rfl rfl rfl (Nat.le_of_ble_eq_true rfl) rfl rfl (fun H locs hP hS => ?_)
  refine lv_icmp_eq (tgt := 1563) hx hb dL_law_335 (by decide) (fun _ => ?_) (fun h9 => absurd he h9)
  exact kk _ _ _ _ _ _ _ _ _ _ _ _ _ _ _ (Inv_mono hI (by omega) (by omega)) hP hS
set_option maxHeartbeats 2000000 in
set_option maxRecDepth 100000 in
theorem law_c2 (C : LC p s m meth c γ a am b L xs i ls cells slots) (I : Inv B so r0 r1 rw re sv sm sq) (hB : B ≤ 13400000) (hP : va_P γ.1 vwCl (wC γ a so r0 r1 r2 rw re tn se sv sk sd ++ wM γ am sm sq) H) (hS : va_S (fun q : Nat => s.heap.size ≤ q) s.heap H locs) (kk : LK p l e s m below meth c γ a am b cells slots ls (B + 26000) Q) : W p l e room_1 s m #[Value.ref b] below meth c H locs cells slots Q (F0 m 340 ls []) := by
  obtain ⟨C0, hX, hbl, hD, hl, hi, hR1⟩ := C
  obtain ⟨hx, hb, hml, hown, hts, -, -, hK, hE, hA⟩ := id C0
  have hbA : ¬ (fun q : Nat => s.heap.size ≤ q) b := Nat.not_le.mpr hbl
  obtain ⟨X, hf, Y, hg, hR⟩ := sim_copy I (xs (nI i + 1).toNatClampNeg) (xs (nI i + 2).toNatClampNeg) (xs (nI i + 3).toNatClampNeg) (xs (nI i + 4).toNatClampNeg) (xs (nI i + 5).toNatClampNeg)
  obtain ⟨rv, so1, re1⟩ := X
  obtain ⟨rv7, sm1, sq1⟩ := Y
  have he : rv = rv7 := hR.1
  have hI : Inv B so1 r0 r1 rw re1 sv sm1 sq1 := hR.2
  refine lv_aload_n hx hb dL_law_340 rfl (lv_at hl 1 rfl) ?_
  refine law_rd (k := 1) (lv := [(0, .ref b), (1, .ref (a 0 0)), (2, .ref (am 0)), (3, .int (nI i))]) hx hb hl hX hbl hbA hS (law_in 1 hi.1 hi.2 (by decide)) rfl rfl dL_law_341 dL_law_342 dL_law_343 dL_law_344 dL_law_345 (by decide) ?_
  refine law_rd (k := 2) (lv := [(0, .ref b), (1, .ref (a 0 0)), (2, .ref (am 0)), (3, .int (nI i))]) hx hb hl hX hbl hbA hS (law_in 2 hi.1 hi.2 (by decide)) rfl rfl dL_law_346 dL_law_347 dL_law_348 dL_law_349 dL_law_350 (by decide) ?_
  refine law_rd (k := 3) (lv := [(0, .ref b), (1, .ref (a 0 0)), (2, .ref (am 0)), (3, .int (nI i))]) hx hb hl hX hbl hbA hS (law_in 3 hi.1 hi.2 (by decide)) rfl rfl dL_law_351 dL_law_352 dL_law_353 dL_law_354 dL_law_355 (by decide) ?_
  refine law_rd (k := 4) (lv := [(0, .ref b), (1, .ref (a 0 0)), (2, .ref (am 0)), (3, .int (nI i))]) hx hb hl hX hbl hbA hS (law_in 4 hi.1 hi.2 (by decide)) rfl rfl dL_law_356 dL_law_357 dL_law_358 dL_law_359 dL_law_360 (by decide) ?_
  refine law_rd (k := 5) (lv := [(0, .ref b), (1, .ref (a 0 0)), (2, .ref (am 0)), (3, .int (nI i))]) hx hb hl hX hbl hbA hS (law_in 5 hi.1 hi.2 (by decide)) rfl rfl dL_law_361 dL_law_362 dL_law_363 dL_law_364 dL_law_365 (by decide) ?_
  refine kt_VG (As := [.int (xs (nI i + 1).toNatClampNeg), .int (xs (nI i + 2).toNatClampNeg), .int (xs (nI i + 3).toNatClampNeg), .int (xs (nI i + 4).toNatClampNeg), .int (xs (nI i + 5).toNatClampNeg)]) (rest := []) (st1 := [.int rv]) (b := a 0 0) (wc' := wC γ a so1 r0 r1 r2 rw re1 tn se sv sk sd ++ wM γ am sm sq) C0 (c_X6_copy l γ a hf) (cxV (nA := 5) hts goodU0 U372 U373 U374 U84 U375 (by decide +kernel) ⟨Nat.le_of_ble_eq_true rfl, Nat.le_of_ble_eq_true rfl⟩) hP (hD _ _ _ _ _ _ _ _ _ _ _ _ _) hS hl dL_law_366 hR1 focA1 0 6 rfl rfl rfl rfl (Nat.le_of_ble_eq_true rfl) rfl rfl (fun H locs hP hS => ?_)
  refine lv_aload_n hx hb dL_law_369 rfl (lv_at hl 2 rfl) ?_
  refine law_rd (k := 1) (lv := [(0, .ref b), (1, .ref (a 0 0)), (2, .ref (am 0)), (3, .int (nI i))]) hx hb hl hX hbl hbA hS (law_in 1 hi.1 hi.2 (by decide)) rfl rfl dL_law_370 dL_law_371 dL_law_372 dL_law_373 dL_law_374 (by decide) ?_
  refine law_rd (k := 2) (lv := [(0, .ref b), (1, .ref (a 0 0)), (2, .ref (am 0)), (3, .int (nI i))]) hx hb hl hX hbl hbA hS (law_in 2 hi.1 hi.2 (by decide)) rfl rfl dL_law_375 dL_law_376 dL_law_377 dL_law_378 dL_law_379 (by decide) ?_
  refine law_rd (k := 3) (lv := [(0, .ref b), (1, .ref (a 0 0)), (2, .ref (am 0)), (3, .int (nI i))]) hx hb hl hX hbl hbA hS (law_in 3 hi.1 hi.2 (by decide)) rfl rfl dL_law_380 dL_law_381 dL_law_382 dL_law_383 dL_law_384 (by decide) ?_
  refine law_rd (k := 4) (lv := [(0, .ref b), (1, .ref (a 0 0)), (2, .ref (am 0)), (3, .int (nI i))]) hx hb hl hX hbl hbA hS (law_in 4 hi.1 hi.2 (by decide)) rfl rfl dL_law_385 dL_law_386 dL_law_387 dL_law_388 dL_law_389 (by decide) ?_
  refine law_rd (k := 5) (lv := [(0, .ref b), (1, .ref (a 0 0)), (2, .ref (am 0)), (3, .int (nI i))]) hx hb hl hX hbl hbA hS (law_in 5 hi.1 hi.2 (by decide)) rfl rfl dL_law_390 dL_law_391 dL_law_392 dL_law_393 dL_law_394 (by decide) ?_
  refine kt_VG (As := [.int (xs (nI i + 1).toNatClampNeg), .int (xs (nI i + 2).toNatClampNeg), .int (xs (nI i + 3).toNatClampNeg), .int (xs (nI i + 4).toNatClampNeg), .int (xs (nI i + 5).toNatClampNeg)]) (rest := [.int rv]) (st1 := [.int rv7, .int rv]) (b := am 0) (wc' := wC γ a so1 r0 r1 r2 rw re1 tn se sv sk sd ++ wM γ am sm1 sq1) C0 (c_X7_copy l γ am hg) (cxV (nA := 5) hts goodU0 U1098 U1099 U1100 U91 U1101 (by decide +kernel) ⟨Nat.le_of_ble_eq_true rfl, Nat.le_of_ble_eq_true rfl⟩) hP (hD _ _ _ _ _ _ _ _ _ _ _ _ _) hS hl dL_law_395 hR1 focA2 0 7 rfl rfl rfl rfl (Nat.le_of_ble_eq_true rfl) rfl rfl (fun H locs hP hS => ?_)
  refine lv_icmp_eq (tgt := 1563) hx hb dL_law_398 (by decide) (fun _ => ?_) (fun h9 => absurd he h9)
  exact kk _ _ _ _ _ _ _ _ _ _ _ _ _ _ _ (Inv_mono hI (by omega) (by omega)) hP hS
set_option maxHeartbeats 2000000 in
set_option maxRecDepth 100000 in
theorem law_c3 (C : LC p s m meth c γ a am b L xs i ls cells slots) (I : Inv B so r0 r1 rw re sv sm sq) (hB : B ≤ 13400000) (hP : va_P γ.1 vwCl (wC γ a so r0 r1 r2 rw re tn se sv sk sd ++ wM γ am sm sq) H) (hS : va_S (fun q : Nat => s.heap.size ≤ q) s.heap H locs) (kk : LK p l e s m below meth c γ a am b cells slots ls (B + 26000) Q) : W p l e room_1 s m #[Value.ref b] below meth c H locs cells slots Q (F0 m 403 ls []) := by
  obtain ⟨C0, hX, hbl, hD, hl, hi, hR1⟩ := C
  obtain ⟨hx, hb, hml, hown, hts, -, -, hK, hE, hA⟩ := id C0
  have hbA : ¬ (fun q : Nat => s.heap.size ≤ q) b := Nat.not_le.mpr hbl
  obtain ⟨X, hf, Y, hg, hR⟩ := sim_element I (xs (nI i + 1).toNatClampNeg) (xs (nI i + 2).toNatClampNeg)
  obtain ⟨rv, erv⟩ : ∃ q, q = X := ⟨X, rfl⟩
  rw [← erv] at hf hR
  obtain ⟨rv7, erv7⟩ : ∃ q, q = Y := ⟨Y, rfl⟩
  rw [← erv7] at hg hR
  have he : rv = rv7 := hR
  have hI : Inv B so r0 r1 rw re sv sm sq := I
  refine lv_aload_n hx hb dL_law_403 rfl (lv_at hl 1 rfl) ?_
  refine law_rd (k := 1) (lv := [(0, .ref b), (1, .ref (a 0 0)), (2, .ref (am 0)), (3, .int (nI i))]) hx hb hl hX hbl hbA hS (law_in 1 hi.1 hi.2 (by decide)) rfl rfl dL_law_404 dL_law_405 dL_law_406 dL_law_407 dL_law_408 (by decide) ?_
  refine law_rd (k := 2) (lv := [(0, .ref b), (1, .ref (a 0 0)), (2, .ref (am 0)), (3, .int (nI i))]) hx hb hl hX hbl hbA hS (law_in 2 hi.1 hi.2 (by decide)) rfl rfl dL_law_409 dL_law_410 dL_law_411 dL_law_412 dL_law_413 (by decide) ?_
  refine kt_VG (As := [.int (xs (nI i + 1).toNatClampNeg), .int (xs (nI i + 2).toNatClampNeg)]) (rest := []) (st1 := [.long rv]) (b := a 0 0) (wc' := wC γ a so r0 r1 r2 rw re tn se sv sk sd ++ wM γ am sm sq) C0 (c_X6_element l γ a hf) (cxV (nA := 2) hts goodU0 U391 U392 U393 U84 U394 (by decide +kernel) ⟨Nat.le_of_ble_eq_true rfl, Nat.le_of_ble_eq_true rfl⟩) hP (hD _ _ _ _ _ _ _ _ _ _ _ _ _) hS hl dL_law_414 hR1 focA1 0 6 rfl rfl rfl rfl (Nat.le_of_ble_eq_true rfl) rfl rfl (fun H locs hP hS => ?_)
  refine lv_aload_n hx hb dL_law_417 rfl (lv_at hl 2 rfl) ?_
  refine law_rd (k := 1) (lv := [(0, .ref b), (1, .ref (a 0 0)), (2, .ref (am 0)), (3, .int (nI i))]) hx hb hl hX hbl hbA hS (law_in 1 hi.1 hi.2 (by decide)) rfl rfl dL_law_418 dL_law_419 dL_law_420 dL_law_421 dL_law_422 (by decide) ?_
  refine law_rd (k := 2) (lv := [(0, .ref b), (1, .ref (a 0 0)), (2, .ref (am 0)), (3, .int (nI i))]) hx hb hl hX hbl hbA hS (law_in 2 hi.1 hi.2 (by decide)) rfl rfl dL_law_423 dL_law_424 dL_law_425 dL_law_426 dL_law_427 (by decide) ?_
  refine kt_VG (As := [.int (xs (nI i + 1).toNatClampNeg), .int (xs (nI i + 2).toNatClampNeg)]) (rest := [.long rv]) (st1 := [.long rv7, .long rv]) (b := am 0) (wc' := wC γ a so r0 r1 r2 rw re tn se sv sk sd ++ wM γ am sm sq) C0 (c_X7_element l γ am hg) (cxV (nA := 2) hts goodU0 U1102 U1103 U1104 U91 U1105 (by decide +kernel) ⟨Nat.le_of_ble_eq_true rfl, Nat.le_of_ble_eq_true rfl⟩) hP (hD _ _ _ _ _ _ _ _ _ _ _ _ _) hS hl dL_law_428 hR1 focA2 0 7 rfl rfl rfl rfl (Nat.le_of_ble_eq_true rfl) rfl rfl (fun H locs hP hS => ?_)
  refine W.lcmp hx hb dL_law_431 ?_
  refine lv_if_eq (tgt := 1563) hx hb dL_law_432 (by decide) (fun _ => ?_) (fun h9 => absurd ((lg_cmp_eq _ _).mpr he) h9)
  exact kk _ _ _ _ _ _ _ _ _ _ _ _ _ _ _ (Inv_mono hI (by omega) (by omega)) hP hS
set_option maxHeartbeats 2000000 in
set_option maxRecDepth 100000 in
theorem law_c4 (C : LC p s m meth c γ a am b L xs i ls cells slots) (I : Inv B so r0 r1 rw re sv sm sq) (hB : B ≤ 13400000) (hP : va_P γ.1 vwCl (wC γ a so r0 r1 r2 rw re tn se sv sk sd ++ wM γ am sm sq) H) (hS : va_S (fun q : Nat => s.heap.size ≤ q) s.heap H locs) (kk : LK p l e s m below meth c γ a am b cells slots ls (B + 26000) Q) : W p l e room_1 s m #[Value.ref b] below meth c H locs cells slots Q (F0 m 437 ls []) := by
  obtain ⟨C0, hX, hbl, hD, hl, hi, hR1⟩ := C
  obtain ⟨hx, hb, hml, hown, hts, -, -, hK, hE, hA⟩ := id C0
  have hbA : ¬ (fun q : Nat => s.heap.size ≤ q) b := Nat.not_le.mpr hbl
  obtain ⟨X, hf, Y, hg, hR⟩ := sim_show I (xs (nI i + 1).toNatClampNeg) (xs (nI i + 2).toNatClampNeg)
  obtain ⟨rv, so1⟩ := X
  obtain ⟨rv7, sm1⟩ := Y
  have he : rv = rv7 := hR.1
  have hI : Inv B so1 r0 r1 rw re sv sm1 sq := hR.2
  refine lv_aload_n hx hb dL_law_437 rfl (lv_at hl 1 rfl) ?_
  refine law_rd (k := 1) (lv := [(0, .ref b), (1, .ref (a 0 0)), (2, .ref (am 0)), (3, .int (nI i))]) hx hb hl hX hbl hbA hS (law_in 1 hi.1 hi.2 (by decide)) rfl rfl dL_law_438 dL_law_439 dL_law_440 dL_law_441 dL_law_442 (by decide) ?_
  refine law_rd (k := 2) (lv := [(0, .ref b), (1, .ref (a 0 0)), (2, .ref (am 0)), (3, .int (nI i))]) hx hb hl hX hbl hbA hS (law_in 2 hi.1 hi.2 (by decide)) rfl rfl dL_law_443 dL_law_444 dL_law_445 dL_law_446 dL_law_447 (by decide) ?_
  refine kt_VG (As := [.int (xs (nI i + 1).toNatClampNeg), .int (xs (nI i + 2).toNatClampNeg)]) (rest := []) (st1 := [.int rv]) (b := a 0 0) (wc' := wC γ a so1 r0 r1 r2 rw re tn se sv sk sd ++ wM γ am sm sq) C0 (c_X6_show l γ a hf) (cxV (nA := 2) hts goodU0 U399 U400 U401 U84 U402 (by decide +kernel) ⟨Nat.le_of_ble_eq_true rfl, Nat.le_of_ble_eq_true rfl⟩) hP (hD _ _ _ _ _ _ _ _ _ _ _ _ _) hS hl dL_law_448 hR1 focA1 0 6 rfl rfl rfl rfl (Nat.le_of_ble_eq_true rfl) rfl rfl (fun H locs hP hS => ?_)
  refine lv_aload_n hx hb dL_law_451 rfl (lv_at hl 2 rfl) ?_
  refine law_rd (k := 1) (lv := [(0, .ref b), (1, .ref (a 0 0)), (2, .ref (am 0)), (3, .int (nI i))]) hx hb hl hX hbl hbA hS (law_in 1 hi.1 hi.2 (by decide)) rfl rfl dL_law_452 dL_law_453 dL_law_454 dL_law_455 dL_law_456 (by decide) ?_
  refine law_rd (k := 2) (lv := [(0, .ref b), (1, .ref (a 0 0)), (2, .ref (am 0)), (3, .int (nI i))]) hx hb hl hX hbl hbA hS (law_in 2 hi.1 hi.2 (by decide)) rfl rfl dL_law_457 dL_law_458 dL_law_459 dL_law_460 dL_law_461 (by decide) ?_
  refine kt_VG (As := [.int (xs (nI i + 1).toNatClampNeg), .int (xs (nI i + 2).toNatClampNeg)]) (rest := [.int rv]) (st1 := [.int rv7, .int rv]) (b := am 0) (wc' := wC γ a so1 r0 r1 r2 rw re tn se sv sk sd ++ wM γ am sm1 sq) C0 (c_X7_show l γ am hg) (cxV (nA := 2) hts goodU0 U1106 U1107 U1108 U91 U1109 (by decide +kernel) ⟨Nat.le_of_ble_eq_true rfl, Nat.le_of_ble_eq_true rfl⟩) hP (hD _ _ _ _ _ _ _ _ _ _ _ _ _) hS hl dL_law_462 hR1 focA2 0 7 rfl rfl rfl rfl (Nat.le_of_ble_eq_true rfl) rfl rfl (fun H locs hP hS => ?_)
  refine lv_icmp_eq (tgt := 1563) hx hb dL_law_465 (by decide) (fun _ => ?_) (fun h9 => absurd he h9)
  exact kk _ _ _ _ _ _ _ _ _ _ _ _ _ _ _ (Inv_mono hI (by omega) (by omega)) hP hS
set_option maxHeartbeats 2000000 in
set_option maxRecDepth 100000 in
theorem law_c5 (C : LC p s m meth c γ a am b L xs i ls cells slots) (I : Inv B so r0 r1 rw re sv sm sq) (hB : B ≤ 13400000) (hP : va_P γ.1 vwCl (wC γ a so r0 r1 r2 rw re tn se sv sk sd ++ wM γ am sm sq) H) (hS : va_S (fun q : Nat => s.heap.size ≤ q) s.heap H locs) (kk : LK p l e s m below meth c γ a am b cells slots ls (B + 26000) Q) : W p l e room_1 s m #[Value.ref b] below meth c H locs cells slots Q (F0 m 470 ls []) := by
  obtain ⟨C0, hX, hbl, hD, hl, hi, hR1⟩ := C
  obtain ⟨hx, hb, hml, hown, hts, -, -, hK, hE, hA⟩ := id C0
  have hbA : ¬ (fun q : Nat => s.heap.size ≤ q) b := Nat.not_le.mpr hbl
  obtain ⟨X, hf, Y, hg, hR⟩ := sim_holds I (xs (nI i + 1).toNatClampNeg)
  obtain ⟨rv, erv⟩ : ∃ q, q = X := ⟨X, rfl⟩
  rw [← erv] at hf hR
  obtain ⟨rv7, erv7⟩ : ∃ q, q = Y := ⟨Y, rfl⟩
  rw [← erv7] at hg hR
  have he : rv = rv7 := hR
  have hI : Inv B so r0 r1 rw re sv sm sq := I
  refine lv_aload_n hx hb dL_law_470 rfl (lv_at hl 1 rfl) ?_
  refine law_rd (k := 1) (lv := [(0, .ref b), (1, .ref (a 0 0)), (2, .ref (am 0)), (3, .int (nI i))]) hx hb hl hX hbl hbA hS (law_in 1 hi.1 hi.2 (by decide)) rfl rfl dL_law_471 dL_law_472 dL_law_473 dL_law_474 dL_law_475 (by decide) ?_
  refine kt_VG (As := [.int (xs (nI i + 1).toNatClampNeg)]) (rest := []) (st1 := [.int rv]) (b := a 0 0) (wc' := wC γ a so r0 r1 r2 rw re tn se sv sk sd ++ wM γ am sm sq) C0 (c_X6_holds l γ a hf) (cxV (nA := 1) hts goodU0 U407 U408 U409 U84 U410 (by decide +kernel) ⟨Nat.le_of_ble_eq_true rfl, Nat.le_of_ble_eq_true rfl⟩) hP (hD _ _ _ _ _ _ _ _ _ _ _ _ _) hS hl dL_law_476 hR1 focA1 0 6 rfl rfl rfl rfl (Nat.le_of_ble_eq_true rfl) rfl rfl (fun H locs hP hS => ?_)
  refine lv_aload_n hx hb dL_law_479 rfl (lv_at hl 2 rfl) ?_
  refine law_rd (k := 1) (lv := [(0, .ref b), (1, .ref (a 0 0)), (2, .ref (am 0)), (3, .int (nI i))]) hx hb hl hX hbl hbA hS (law_in 1 hi.1 hi.2 (by decide)) rfl rfl dL_law_480 dL_law_481 dL_law_482 dL_law_483 dL_law_484 (by decide) ?_
  refine kt_VG (As := [.int (xs (nI i + 1).toNatClampNeg)]) (rest := [.int rv]) (st1 := [.int rv7, .int rv]) (b := am 0) (wc' := wC γ a so r0 r1 r2 rw re tn se sv sk sd ++ wM γ am sm sq) C0 (c_X7_holds l γ am hg) (cxV (nA := 1) hts goodU0 U1114 U1115 U1116 U91 U1117 (by decide +kernel) ⟨Nat.le_of_ble_eq_true rfl, Nat.le_of_ble_eq_true rfl⟩) hP (hD _ _ _ _ _ _ _ _ _ _ _ _ _) hS hl dL_law_485 hR1 focA2 0 7 rfl rfl rfl rfl (Nat.le_of_ble_eq_true rfl) rfl rfl (fun H locs hP hS => ?_)
  refine lv_icmp_eq (tgt := 1563) hx hb dL_law_488 (by decide) (fun _ => ?_) (fun h9 => absurd he h9)
  exact kk _ _ _ _ _ _ _ _ _ _ _ _ _ _ _ (Inv_mono hI (by omega) (by omega)) hP hS
set_option maxHeartbeats 2000000 in
set_option maxRecDepth 100000 in
theorem law_c6 (C : LC p s m meth c γ a am b L xs i ls cells slots) (I : Inv B so r0 r1 rw re sv sm sq) (hB : B ≤ 13400000) (hP : va_P γ.1 vwCl (wC γ a so r0 r1 r2 rw re tn se sv sk sd ++ wM γ am sm sq) H) (hS : va_S (fun q : Nat => s.heap.size ≤ q) s.heap H locs) (kk : LK p l e s m below meth c γ a am b cells slots ls (B + 26000) Q) : W p l e room_1 s m #[Value.ref b] below meth c H locs cells slots Q (F0 m 493 ls []) := by
  obtain ⟨C0, hX, hbl, hD, hl, hi, hR1⟩ := C
  obtain ⟨hx, hb, hml, hown, hts, -, -, hK, hE, hA⟩ := id C0
  have hbA : ¬ (fun q : Nat => s.heap.size ≤ q) b := Nat.not_le.mpr hbl
  obtain ⟨X, hf, Y, hg, hR⟩ := sim_says I (xs (nI i + 1).toNatClampNeg) (xs (nI i + 2).toNatClampNeg)
  obtain ⟨rv, so1⟩ := X
  obtain ⟨rv7, sm1⟩ := Y
  have he : rv = rv7 := hR.1
  have hI : Inv B so1 r0 r1 rw re sv sm1 sq := hR.2
  refine lv_aload_n hx hb dL_law_493 rfl (lv_at hl 1 rfl) ?_
  refine law_rd (k := 1) (lv := [(0, .ref b), (1, .ref (a 0 0)), (2, .ref (am 0)), (3, .int (nI i))]) hx hb hl hX hbl hbA hS (law_in 1 hi.1 hi.2 (by decide)) rfl rfl dL_law_494 dL_law_495 dL_law_496 dL_law_497 dL_law_498 (by decide) ?_
  refine law_rd (k := 2) (lv := [(0, .ref b), (1, .ref (a 0 0)), (2, .ref (am 0)), (3, .int (nI i))]) hx hb hl hX hbl hbA hS (law_in 2 hi.1 hi.2 (by decide)) rfl rfl dL_law_499 dL_law_500 dL_law_501 dL_law_502 dL_law_503 (by decide) ?_
  refine kt_VG (As := [.int (xs (nI i + 1).toNatClampNeg), .int (xs (nI i + 2).toNatClampNeg)]) (rest := []) (st1 := [.int rv]) (b := a 0 0) (wc' := wC γ a so1 r0 r1 r2 rw re tn se sv sk sd ++ wM γ am sm sq) C0 (c_X6_says l γ a hf) (cxV (nA := 2) hts goodU0 U411 U412 U413 U84 U414 (by decide +kernel) ⟨Nat.le_of_ble_eq_true rfl, Nat.le_of_ble_eq_true rfl⟩) hP (hD _ _ _ _ _ _ _ _ _ _ _ _ _) hS hl dL_law_504 hR1 focA1 0 6 rfl rfl rfl rfl (Nat.le_of_ble_eq_true rfl) rfl rfl (fun H locs hP hS => ?_)
  refine lv_aload_n hx hb dL_law_507 rfl (lv_at hl 2 rfl) ?_
  refine law_rd (k := 1) (lv := [(0, .ref b), (1, .ref (a 0 0)), (2, .ref (am 0)), (3, .int (nI i))]) hx hb hl hX hbl hbA hS (law_in 1 hi.1 hi.2 (by decide)) rfl rfl dL_law_508 dL_law_509 dL_law_510 dL_law_511 dL_law_512 (by decide) ?_
  refine law_rd (k := 2) (lv := [(0, .ref b), (1, .ref (a 0 0)), (2, .ref (am 0)), (3, .int (nI i))]) hx hb hl hX hbl hbA hS (law_in 2 hi.1 hi.2 (by decide)) rfl rfl dL_law_513 dL_law_514 dL_law_515 dL_law_516 dL_law_517 (by decide) ?_
  refine kt_VG (As := [.int (xs (nI i + 1).toNatClampNeg), .int (xs (nI i + 2).toNatClampNeg)]) (rest := [.int rv]) (st1 := [.int rv7, .int rv]) (b := am 0) (wc' := wC γ a so1 r0 r1 r2 rw re tn se sv sk sd ++ wM γ am sm1 sq) C0 (c_X7_says l γ am hg) (cxV (nA := 2) hts goodU0 U1118 U1119 U1120 U91 U1121 (by decide +kernel) ⟨Nat.le_of_ble_eq_true rfl, Nat.le_of_ble_eq_true rfl⟩) hP (hD _ _ _ _ _ _ _ _ _ _ _ _ _) hS hl dL_law_518 hR1 focA2 0 7 rfl rfl rfl rfl (Nat.le_of_ble_eq_true rfl) rfl rfl (fun H locs hP hS => ?_)
  refine lv_icmp_eq (tgt := 1563) hx hb dL_law_521 (by decide) (fun _ => ?_) (fun h9 => absurd he h9)
  exact kk _ _ _ _ _ _ _ _ _ _ _ _ _ _ _ (Inv_mono hI (by omega) (by omega)) hP hS
set_option maxHeartbeats 2000000 in
set_option maxRecDepth 100000 in
theorem law_c7 (C : LC p s m meth c γ a am b L xs i ls cells slots) (I : Inv B so r0 r1 rw re sv sm sq) (hB : B ≤ 13400000) (hP : va_P γ.1 vwCl (wC γ a so r0 r1 r2 rw re tn se sv sk sd ++ wM γ am sm sq) H) (hS : va_S (fun q : Nat => s.heap.size ≤ q) s.heap H locs) (kk : LK p l e s m below meth c γ a am b cells slots ls (B + 26000) Q) : W p l e room_1 s m #[Value.ref b] below meth c H locs cells slots Q (F0 m 526 ls []) := by
  obtain ⟨C0, hX, hbl, hD, hl, hi, hR1⟩ := C
  obtain ⟨hx, hb, hml, hown, hts, -, -, hK, hE, hA⟩ := id C0
  have hbA : ¬ (fun q : Nat => s.heap.size ≤ q) b := Nat.not_le.mpr hbl
  obtain ⟨X, hf, Y, hg, hR⟩ := sim_peak I (xs (nI i + 1).toNatClampNeg) (xs (nI i + 2).toNatClampNeg) (xs (nI i + 3).toNatClampNeg) (xs (nI i + 4).toNatClampNeg)
  obtain ⟨rv, so1, r01⟩ := X
  obtain ⟨rv7, sm1⟩ := Y
  have he : rv = rv7 := hR.1
  have hI : Inv B so1 r01 r1 rw re sv sm1 sq := hR.2
  refine lv_aload_n hx hb dL_law_526 rfl (lv_at hl 1 rfl) ?_
  refine law_rd (k := 1) (lv := [(0, .ref b), (1, .ref (a 0 0)), (2, .ref (am 0)), (3, .int (nI i))]) hx hb hl hX hbl hbA hS (law_in 1 hi.1 hi.2 (by decide)) rfl rfl dL_law_527 dL_law_528 dL_law_529 dL_law_530 dL_law_531 (by decide) ?_
  refine law_rd (k := 2) (lv := [(0, .ref b), (1, .ref (a 0 0)), (2, .ref (am 0)), (3, .int (nI i))]) hx hb hl hX hbl hbA hS (law_in 2 hi.1 hi.2 (by decide)) rfl rfl dL_law_532 dL_law_533 dL_law_534 dL_law_535 dL_law_536 (by decide) ?_
  refine law_rd (k := 3) (lv := [(0, .ref b), (1, .ref (a 0 0)), (2, .ref (am 0)), (3, .int (nI i))]) hx hb hl hX hbl hbA hS (law_in 3 hi.1 hi.2 (by decide)) rfl rfl dL_law_537 dL_law_538 dL_law_539 dL_law_540 dL_law_541 (by decide) ?_
  refine law_rd (k := 4) (lv := [(0, .ref b), (1, .ref (a 0 0)), (2, .ref (am 0)), (3, .int (nI i))]) hx hb hl hX hbl hbA hS (law_in 4 hi.1 hi.2 (by decide)) rfl rfl dL_law_542 dL_law_543 dL_law_544 dL_law_545 dL_law_546 (by decide) ?_
  refine kt_VG (As := [.int (xs (nI i + 1).toNatClampNeg), .int (xs (nI i + 2).toNatClampNeg), .int (xs (nI i + 3).toNatClampNeg), .int (xs (nI i + 4).toNatClampNeg)]) (rest := []) (st1 := [.int rv]) (b := a 0 0) (wc' := wC γ a so1 r01 r1 r2 rw re tn se sv sk sd ++ wM γ am sm sq) C0 (c_X6_peak l γ a hf) (cxV (nA := 4) hts goodU0 U460 U461 U462 U84 U463 (by decide +kernel) ⟨Nat.le_of_ble_eq_true rfl, Nat.le_of_ble_eq_true rfl⟩) hP (hD _ _ _ _ _ _ _ _ _ _ _ _ _) hS hl dL_law_547 hR1 focA1 0 6 rfl rfl rfl rfl (Nat.le_of_ble_eq_true rfl) rfl rfl (fun H locs hP hS => ?_)
  refine lv_aload_n hx hb dL_law_550 rfl (lv_at hl 2 rfl) ?_
  refine law_rd (k := 1) (lv := [(0, .ref b), (1, .ref (a 0 0)), (2, .ref (am 0)), (3, .int (nI i))]) hx hb hl hX hbl hbA hS (law_in 1 hi.1 hi.2 (by decide)) rfl rfl dL_law_551 dL_law_552 dL_law_553 dL_law_554 dL_law_555 (by decide) ?_
  refine law_rd (k := 2) (lv := [(0, .ref b), (1, .ref (a 0 0)), (2, .ref (am 0)), (3, .int (nI i))]) hx hb hl hX hbl hbA hS (law_in 2 hi.1 hi.2 (by decide)) rfl rfl dL_law_556 dL_law_557 dL_law_558 dL_law_559 dL_law_560 (by decide) ?_
  refine law_rd (k := 3) (lv := [(0, .ref b), (1, .ref (a 0 0)), (2, .ref (am 0)), (3, .int (nI i))]) hx hb hl hX hbl hbA hS (law_in 3 hi.1 hi.2 (by decide)) rfl rfl dL_law_561 dL_law_562 dL_law_563 dL_law_564 dL_law_565 (by decide) ?_
  refine law_rd (k := 4) (lv := [(0, .ref b), (1, .ref (a 0 0)), (2, .ref (am 0)), (3, .int (nI i))]) hx hb hl hX hbl hbA hS (law_in 4 hi.1 hi.2 (by decide)) rfl rfl dL_law_566 dL_law_567 dL_law_568 dL_law_569 dL_law_570 (by decide) ?_
  refine kt_VG (As := [.int (xs (nI i + 1).toNatClampNeg), .int (xs (nI i + 2).toNatClampNeg), .int (xs (nI i + 3).toNatClampNeg), .int (xs (nI i + 4).toNatClampNeg)]) (rest := [.int rv]) (st1 := [.int rv7, .int rv]) (b := am 0) (wc' := wC γ a so1 r01 r1 r2 rw re tn se sv sk sd ++ wM γ am sm1 sq) C0 (c_X7_peak l γ am hg) (cxV (nA := 4) hts goodU0 U1152 U1153 U1154 U91 U1155 (by decide +kernel) ⟨Nat.le_of_ble_eq_true rfl, Nat.le_of_ble_eq_true rfl⟩) hP (hD _ _ _ _ _ _ _ _ _ _ _ _ _) hS hl dL_law_571 hR1 focA2 0 7 rfl rfl rfl rfl (Nat.le_of_ble_eq_true rfl) rfl rfl (fun H locs hP hS => ?_)
  refine lv_icmp_eq (tgt := 1563) hx hb dL_law_574 (by decide) (fun _ => ?_) (fun h9 => absurd he h9)
  exact kk _ _ _ _ _ _ _ _ _ _ _ _ _ _ _ (Inv_mono hI (by omega) (by omega)) hP hS
set_option maxHeartbeats 2000000 in
set_option maxRecDepth 100000 in
theorem law_c8 (C : LC p s m meth c γ a am b L xs i ls cells slots) (I : Inv B so r0 r1 rw re sv sm sq) (hB : B ≤ 13400000) (hP : va_P γ.1 vwCl (wC γ a so r0 r1 r2 rw re tn se sv sk sd ++ wM γ am sm sq) H) (hS : va_S (fun q : Nat => s.heap.size ≤ q) s.heap H locs) (kk : LK p l e s m below meth c γ a am b cells slots ls (B + 26000) Q) : W p l e room_1 s m #[Value.ref b] below meth c H locs cells slots Q (F0 m 579 ls []) := by
  obtain ⟨C0, hX, hbl, hD, hl, hi, hR1⟩ := C
  obtain ⟨hx, hb, hml, hown, hts, -, -, hK, hE, hA⟩ := id C0
  have hbA : ¬ (fun q : Nat => s.heap.size ≤ q) b := Nat.not_le.mpr hbl
  obtain ⟨X, hf, Y, hg, hR⟩ := sim_screen I (xs (nI i + 1).toNatClampNeg) (xs (nI i + 2).toNatClampNeg)
  obtain ⟨rv, so1, r01⟩ := X
  obtain ⟨rv7, sm1⟩ := Y
  have he : rv = rv7 := hR.1
  have hI : Inv B so1 r01 r1 rw re sv sm1 sq := hR.2
  refine lv_aload_n hx hb dL_law_579 rfl (lv_at hl 1 rfl) ?_
  refine law_rd (k := 1) (lv := [(0, .ref b), (1, .ref (a 0 0)), (2, .ref (am 0)), (3, .int (nI i))]) hx hb hl hX hbl hbA hS (law_in 1 hi.1 hi.2 (by decide)) rfl rfl dL_law_580 dL_law_581 dL_law_582 dL_law_583 dL_law_584 (by decide) ?_
  refine law_rd (k := 2) (lv := [(0, .ref b), (1, .ref (a 0 0)), (2, .ref (am 0)), (3, .int (nI i))]) hx hb hl hX hbl hbA hS (law_in 2 hi.1 hi.2 (by decide)) rfl rfl dL_law_585 dL_law_586 dL_law_587 dL_law_588 dL_law_589 (by decide) ?_
  refine kt_VG (As := [.int (xs (nI i + 1).toNatClampNeg), .int (xs (nI i + 2).toNatClampNeg)]) (rest := []) (st1 := [.int rv]) (b := a 0 0) (wc' := wC γ a so1 r01 r1 r2 rw re tn se sv sk sd ++ wM γ am sm sq) C0 (c_X6_screen l γ a hf) (cxV (nA := 2) hts goodU0 U505 U506 U507 U84 U508 (by decide +kernel) ⟨Nat.le_of_ble_eq_true rfl, Nat.le_of_ble_eq_true rfl⟩) hP (hD _ _ _ _ _ _ _ _ _ _ _ _ _) hS hl dL_law_590 hR1 focA1 0 6 rfl rfl rfl rfl (Nat.le_of_ble_eq_true rfl) rfl rfl (fun H locs hP hS => ?_)
  refine lv_aload_n hx hb dL_law_593 rfl (lv_at hl 2 rfl) ?_
  refine law_rd (k := 1) (lv := [(0, .ref b), (1, .ref (a 0 0)), (2, .ref (am 0)), (3, .int (nI i))]) hx hb hl hX hbl hbA hS (law_in 1 hi.1 hi.2 (by decide)) rfl rfl dL_law_594 dL_law_595 dL_law_596 dL_law_597 dL_law_598 (by decide) ?_
  refine law_rd (k := 2) (lv := [(0, .ref b), (1, .ref (a 0 0)), (2, .ref (am 0)), (3, .int (nI i))]) hx hb hl hX hbl hbA hS (law_in 2 hi.1 hi.2 (by decide)) rfl rfl dL_law_599 dL_law_600 dL_law_601 dL_law_602 dL_law_603 (by decide) ?_
  refine kt_VG (As := [.int (xs (nI i + 1).toNatClampNeg), .int (xs (nI i + 2).toNatClampNeg)]) (rest := [.int rv]) (st1 := [.int rv7, .int rv]) (b := am 0) (wc' := wC γ a so1 r01 r1 r2 rw re tn se sv sk sd ++ wM γ am sm1 sq) C0 (c_X7_screen l γ am hg) (cxV (nA := 2) hts goodU0 U1188 U1189 U1190 U91 U1191 (by decide +kernel) ⟨Nat.le_of_ble_eq_true rfl, Nat.le_of_ble_eq_true rfl⟩) hP (hD _ _ _ _ _ _ _ _ _ _ _ _ _) hS hl dL_law_604 hR1 focA2 0 7 rfl rfl rfl rfl (Nat.le_of_ble_eq_true rfl) rfl rfl (fun H locs hP hS => ?_)
  refine lv_icmp_eq (tgt := 1563) hx hb dL_law_607 (by decide) (fun _ => ?_) (fun h9 => absurd he h9)
  exact kk _ _ _ _ _ _ _ _ _ _ _ _ _ _ _ (Inv_mono hI (by omega) (by omega)) hP hS
set_option maxHeartbeats 2000000 in
set_option maxRecDepth 100000 in
theorem law_c9 (C : LC p s m meth c γ a am b L xs i ls cells slots) (I : Inv B so r0 r1 rw re sv sm sq) (hB : B ≤ 13400000) (hP : va_P γ.1 vwCl (wC γ a so r0 r1 r2 rw re tn se sv sk sd ++ wM γ am sm sq) H) (hS : va_S (fun q : Nat => s.heap.size ≤ q) s.heap H locs) (kk : LK p l e s m below meth c γ a am b cells slots ls (B + 26000) Q) : W p l e room_1 s m #[Value.ref b] below meth c H locs cells slots Q (F0 m 612 ls []) := by
  obtain ⟨C0, hX, hbl, hD, hl, hi, hR1⟩ := C
  obtain ⟨hx, hb, hml, hown, hts, -, -, hK, hE, hA⟩ := id C0
  have hbA : ¬ (fun q : Nat => s.heap.size ≤ q) b := Nat.not_le.mpr hbl
  obtain ⟨X, hf, Y, hg, hR⟩ := sim_valley I (xs (nI i + 1).toNatClampNeg)
  obtain ⟨rv, so1, r01⟩ := X
  obtain ⟨rv7, sm1⟩ := Y
  have he : rv = rv7 := hR.1
  have hI : Inv B so1 r01 r1 rw re sv sm1 sq := hR.2
  refine lv_aload_n hx hb dL_law_612 rfl (lv_at hl 1 rfl) ?_
  refine law_rd (k := 1) (lv := [(0, .ref b), (1, .ref (a 0 0)), (2, .ref (am 0)), (3, .int (nI i))]) hx hb hl hX hbl hbA hS (law_in 1 hi.1 hi.2 (by decide)) rfl rfl dL_law_613 dL_law_614 dL_law_615 dL_law_616 dL_law_617 (by decide) ?_
  refine kt_VG (As := [.int (xs (nI i + 1).toNatClampNeg)]) (rest := []) (st1 := [.int rv]) (b := a 0 0) (wc' := wC γ a so1 r01 r1 r2 rw re tn se sv sk sd ++ wM γ am sm sq) C0 (c_X6_valley l γ a hf) (cxV (nA := 1) hts goodU0 U513 U514 U515 U84 U516 (by decide +kernel) ⟨Nat.le_of_ble_eq_true rfl, Nat.le_of_ble_eq_true rfl⟩) hP (hD _ _ _ _ _ _ _ _ _ _ _ _ _) hS hl dL_law_618 hR1 focA1 0 6 rfl rfl rfl rfl (Nat.le_of_ble_eq_true rfl) rfl rfl (fun H locs hP hS => ?_)
  refine lv_aload_n hx hb dL_law_621 rfl (lv_at hl 2 rfl) ?_
  refine law_rd (k := 1) (lv := [(0, .ref b), (1, .ref (a 0 0)), (2, .ref (am 0)), (3, .int (nI i))]) hx hb hl hX hbl hbA hS (law_in 1 hi.1 hi.2 (by decide)) rfl rfl dL_law_622 dL_law_623 dL_law_624 dL_law_625 dL_law_626 (by decide) ?_
  refine kt_VG (As := [.int (xs (nI i + 1).toNatClampNeg)]) (rest := [.int rv]) (st1 := [.int rv7, .int rv]) (b := am 0) (wc' := wC γ a so1 r01 r1 r2 rw re tn se sv sk sd ++ wM γ am sm1 sq) C0 (c_X7_valley l γ am hg) (cxV (nA := 1) hts goodU0 U1196 U1197 U1198 U91 U1199 (by decide +kernel) ⟨Nat.le_of_ble_eq_true rfl, Nat.le_of_ble_eq_true rfl⟩) hP (hD _ _ _ _ _ _ _ _ _ _ _ _ _) hS hl dL_law_627 hR1 focA2 0 7 rfl rfl rfl rfl (Nat.le_of_ble_eq_true rfl) rfl rfl (fun H locs hP hS => ?_)
  refine lv_icmp_eq (tgt := 1563) hx hb dL_law_630 (by decide) (fun _ => ?_) (fun h9 => absurd he h9)
  exact kk _ _ _ _ _ _ _ _ _ _ _ _ _ _ _ (Inv_mono hI (by omega) (by omega)) hP hS
set_option maxHeartbeats 2000000 in
set_option maxRecDepth 100000 in
theorem law_c10 (C : LC p s m meth c γ a am b L xs i ls cells slots) (I : Inv B so r0 r1 rw re sv sm sq) (hB : B ≤ 13400000) (hP : va_P γ.1 vwCl (wC γ a so r0 r1 r2 rw re tn se sv sk sd ++ wM γ am sm sq) H) (hS : va_S (fun q : Nat => s.heap.size ≤ q) s.heap H locs) (kk : LK p l e s m below meth c γ a am b cells slots ls (B + 26000) Q) : W p l e room_1 s m #[Value.ref b] below meth c H locs cells slots Q (F0 m 635 ls []) := by
  obtain ⟨C0, hX, hbl, hD, hl, hi, hR1⟩ := C
  obtain ⟨hx, hb, hml, hown, hts, -, -, hK, hE, hA⟩ := id C0
  have hbA : ¬ (fun q : Nat => s.heap.size ≤ q) b := Nat.not_le.mpr hbl
  by_cases hz : xs (nI i + 3).toNatClampNeg = 0
  · obtain ⟨X, hf, Y, hg, hR⟩ := sim_under I (xs (nI i + 1).toNatClampNeg) (xs (nI i + 2).toNatClampNeg) false
    obtain ⟨rv, so1, r01⟩ := X
    obtain ⟨rv7, sm1⟩ := Y
    have he : rv = rv7 := hR.1
    have hI : Inv B so1 r01 r1 rw re sv sm1 sq := hR.2
    refine lv_aload_n hx hb dL_law_635 rfl (lv_at hl 1 rfl) ?_
    refine law_rd (k := 1) (lv := [(0, .ref b), (1, .ref (a 0 0)), (2, .ref (am 0)), (3, .int (nI i))]) hx hb hl hX hbl hbA hS (law_in 1 hi.1 hi.2 (by decide)) rfl rfl dL_law_636 dL_law_637 dL_law_638 dL_law_639 dL_law_640 (by decide) ?_
    refine law_rd (k := 2) (lv := [(0, .ref b), (1, .ref (a 0 0)), (2, .ref (am 0)), (3, .int (nI i))]) hx hb hl hX hbl hbA hS (law_in 2 hi.1 hi.2 (by decide)) rfl rfl dL_law_641 dL_law_642 dL_law_643 dL_law_644 dL_law_645 (by decide) ?_
    refine law_rd (k := 3) (lv := [(0, .ref b), (1, .ref (a 0 0)), (2, .ref (am 0)), (3, .int (nI i))]) hx hb hl hX hbl hbA hS (law_in 3 hi.1 hi.2 (by decide)) rfl rfl dL_law_646 dL_law_647 dL_law_648 dL_law_649 dL_law_650 (by decide) ?_
    refine lv_if_eq (tgt := 658) hx hb dL_law_651 (by decide) (fun _ => ?_) (fun h9 => absurd hz h9)
    refine lv_iconst (v := 0) hx hb dL_law_658 (by decide) ?_
    refine kt_VG (As := [.int (xs (nI i + 1).toNatClampNeg), .int (xs (nI i + 2).toNatClampNeg), .int (bI false)]) (rest := []) (st1 := [.int rv]) (b := a 0 0) (wc' := wC γ a so1 r01 r1 r2 rw re tn se sv sk sd ++ wM γ am sm sq) C0 (c_X6_under l γ a hf) (cxV (nA := 3) hts goodU0 U521 U522 U523 U84 U524 (by decide +kernel) ⟨Nat.le_of_ble_eq_true rfl, Nat.le_of_ble_eq_true rfl⟩) hP (hD _ _ _ _ _ _ _ _ _ _ _ _ _) hS hl dL_law_659 hR1 focA1 0 6 rfl rfl rfl rfl (Nat.le_of_ble_eq_true rfl) rfl rfl (fun H locs hP hS => ?_)
    refine lv_aload_n hx hb dL_law_662 rfl (lv_at hl 2 rfl) ?_
    refine law_rd (k := 1) (lv := [(0, .ref b), (1, .ref (a 0 0)), (2, .ref (am 0)), (3, .int (nI i))]) hx hb hl hX hbl hbA hS (law_in 1 hi.1 hi.2 (by decide)) rfl rfl dL_law_663 dL_law_664 dL_law_665 dL_law_666 dL_law_667 (by decide) ?_
    refine law_rd (k := 2) (lv := [(0, .ref b), (1, .ref (a 0 0)), (2, .ref (am 0)), (3, .int (nI i))]) hx hb hl hX hbl hbA hS (law_in 2 hi.1 hi.2 (by decide)) rfl rfl dL_law_668 dL_law_669 dL_law_670 dL_law_671 dL_law_672 (by decide) ?_
    refine law_rd (k := 3) (lv := [(0, .ref b), (1, .ref (a 0 0)), (2, .ref (am 0)), (3, .int (nI i))]) hx hb hl hX hbl hbA hS (law_in 3 hi.1 hi.2 (by decide)) rfl rfl dL_law_673 dL_law_674 dL_law_675 dL_law_676 dL_law_677 (by decide) ?_
    refine lv_if_eq (tgt := 685) hx hb dL_law_678 (by decide) (fun _ => ?_) (fun h9 => absurd hz h9)
    refine lv_iconst (v := 0) hx hb dL_law_685 (by decide) ?_
    refine kt_VG (As := [.int (xs (nI i + 1).toNatClampNeg), .int (xs (nI i + 2).toNatClampNeg), .int (bI false)]) (rest := [.int rv]) (st1 := [.int rv7, .int rv]) (b := am 0) (wc' := wC γ a so1 r01 r1 r2 rw re tn se sv sk sd ++ wM γ am sm1 sq) C0 (c_X7_under l γ am hg) (cxV (nA := 3) hts goodU0 U1204 U1205 U1206 U91 U1207 (by decide +kernel) ⟨Nat.le_of_ble_eq_true rfl, Nat.le_of_ble_eq_true rfl⟩) hP (hD _ _ _ _ _ _ _ _ _ _ _ _ _) hS hl dL_law_686 hR1 focA2 0 7 rfl rfl rfl rfl (Nat.le_of_ble_eq_true rfl) rfl rfl (fun H locs hP hS => ?_)
    refine lv_icmp_eq (tgt := 1563) hx hb dL_law_689 (by decide) (fun _ => ?_) (fun h9 => absurd he h9)
    exact kk _ _ _ _ _ _ _ _ _ _ _ _ _ _ _ (Inv_mono hI (by omega) (by omega)) hP hS
  · obtain ⟨X, hf, Y, hg, hR⟩ := sim_under I (xs (nI i + 1).toNatClampNeg) (xs (nI i + 2).toNatClampNeg) true
    obtain ⟨rv, so1, r01⟩ := X
    obtain ⟨rv7, sm1⟩ := Y
    have he : rv = rv7 := hR.1
    have hI : Inv B so1 r01 r1 rw re sv sm1 sq := hR.2
    refine lv_aload_n hx hb dL_law_635 rfl (lv_at hl 1 rfl) ?_
    refine law_rd (k := 1) (lv := [(0, .ref b), (1, .ref (a 0 0)), (2, .ref (am 0)), (3, .int (nI i))]) hx hb hl hX hbl hbA hS (law_in 1 hi.1 hi.2 (by decide)) rfl rfl dL_law_636 dL_law_637 dL_law_638 dL_law_639 dL_law_640 (by decide) ?_
    refine law_rd (k := 2) (lv := [(0, .ref b), (1, .ref (a 0 0)), (2, .ref (am 0)), (3, .int (nI i))]) hx hb hl hX hbl hbA hS (law_in 2 hi.1 hi.2 (by decide)) rfl rfl dL_law_641 dL_law_642 dL_law_643 dL_law_644 dL_law_645 (by decide) ?_
    refine law_rd (k := 3) (lv := [(0, .ref b), (1, .ref (a 0 0)), (2, .ref (am 0)), (3, .int (nI i))]) hx hb hl hX hbl hbA hS (law_in 3 hi.1 hi.2 (by decide)) rfl rfl dL_law_646 dL_law_647 dL_law_648 dL_law_649 dL_law_650 (by decide) ?_
    refine lv_if_eq (tgt := 658) hx hb dL_law_651 (by decide) (fun h9 => absurd h9 hz) (fun _ => ?_)
    refine lv_iconst (v := 1) hx hb dL_law_654 (by decide) ?_
    refine lv_goto (tgt := 659) hx hb dL_law_655 (by decide) ?_
    refine kt_VG (As := [.int (xs (nI i + 1).toNatClampNeg), .int (xs (nI i + 2).toNatClampNeg), .int (bI true)]) (rest := []) (st1 := [.int rv]) (b := a 0 0) (wc' := wC γ a so1 r01 r1 r2 rw re tn se sv sk sd ++ wM γ am sm sq) C0 (c_X6_under l γ a hf) (cxV (nA := 3) hts goodU0 U521 U522 U523 U84 U524 (by decide +kernel) ⟨Nat.le_of_ble_eq_true rfl, Nat.le_of_ble_eq_true rfl⟩) hP (hD _ _ _ _ _ _ _ _ _ _ _ _ _) hS hl dL_law_659 hR1 focA1 0 6 rfl rfl rfl rfl (Nat.le_of_ble_eq_true rfl) rfl rfl (fun H locs hP hS => ?_)
    refine lv_aload_n hx hb dL_law_662 rfl (lv_at hl 2 rfl) ?_
    refine law_rd (k := 1) (lv := [(0, .ref b), (1, .ref (a 0 0)), (2, .ref (am 0)), (3, .int (nI i))]) hx hb hl hX hbl hbA hS (law_in 1 hi.1 hi.2 (by decide)) rfl rfl dL_law_663 dL_law_664 dL_law_665 dL_law_666 dL_law_667 (by decide) ?_
    refine law_rd (k := 2) (lv := [(0, .ref b), (1, .ref (a 0 0)), (2, .ref (am 0)), (3, .int (nI i))]) hx hb hl hX hbl hbA hS (law_in 2 hi.1 hi.2 (by decide)) rfl rfl dL_law_668 dL_law_669 dL_law_670 dL_law_671 dL_law_672 (by decide) ?_
    refine law_rd (k := 3) (lv := [(0, .ref b), (1, .ref (a 0 0)), (2, .ref (am 0)), (3, .int (nI i))]) hx hb hl hX hbl hbA hS (law_in 3 hi.1 hi.2 (by decide)) rfl rfl dL_law_673 dL_law_674 dL_law_675 dL_law_676 dL_law_677 (by decide) ?_
    refine lv_if_eq (tgt := 685) hx hb dL_law_678 (by decide) (fun h9 => absurd h9 hz) (fun _ => ?_)
    refine lv_iconst (v := 1) hx hb dL_law_681 (by decide) ?_
    refine lv_goto (tgt := 686) hx hb dL_law_682 (by decide) ?_
    refine kt_VG (As := [.int (xs (nI i + 1).toNatClampNeg), .int (xs (nI i + 2).toNatClampNeg), .int (bI true)]) (rest := [.int rv]) (st1 := [.int rv7, .int rv]) (b := am 0) (wc' := wC γ a so1 r01 r1 r2 rw re tn se sv sk sd ++ wM γ am sm1 sq) C0 (c_X7_under l γ am hg) (cxV (nA := 3) hts goodU0 U1204 U1205 U1206 U91 U1207 (by decide +kernel) ⟨Nat.le_of_ble_eq_true rfl, Nat.le_of_ble_eq_true rfl⟩) hP (hD _ _ _ _ _ _ _ _ _ _ _ _ _) hS hl dL_law_686 hR1 focA2 0 7 rfl rfl rfl rfl (Nat.le_of_ble_eq_true rfl) rfl rfl (fun H locs hP hS => ?_)
    refine lv_icmp_eq (tgt := 1563) hx hb dL_law_689 (by decide) (fun _ => ?_) (fun h9 => absurd he h9)
    exact kk _ _ _ _ _ _ _ _ _ _ _ _ _ _ _ (Inv_mono hI (by omega) (by omega)) hP hS
set_option maxHeartbeats 2000000 in
set_option maxRecDepth 100000 in
theorem law_c11 (C : LC p s m meth c γ a am b L xs i ls cells slots) (I : Inv B so r0 r1 rw re sv sm sq) (hB : B ≤ 13400000) (hP : va_P γ.1 vwCl (wC γ a so r0 r1 r2 rw re tn se sv sk sd ++ wM γ am sm sq) H) (hS : va_S (fun q : Nat => s.heap.size ≤ q) s.heap H locs) (kk : LK p l e s m below meth c γ a am b cells slots ls (B + 26000) Q) : W p l e room_1 s m #[Value.ref b] below meth c H locs cells slots Q (F0 m 694 ls []) := by
  obtain ⟨C0, hX, hbl, hD, hl, hi, hR1⟩ := C
  obtain ⟨hx, hb, hml, hown, hts, -, -, hK, hE, hA⟩ := id C0
  have hbA : ¬ (fun q : Nat => s.heap.size ≤ q) b := Nat.not_le.mpr hbl
  obtain ⟨X, hf, Y, hg, hR⟩ := sim_peakOf I (xs (nI i + 1).toNatClampNeg) (xs (nI i + 2).toNatClampNeg)
  obtain ⟨rv, so1⟩ := X
  obtain ⟨rv7, sm1⟩ := Y
  have he : rv = rv7 := hR.1
  have hI : Inv B so1 r0 r1 rw re sv sm1 sq := hR.2
  refine lv_aload_n hx hb dL_law_694 rfl (lv_at hl 1 rfl) ?_
  refine law_rd (k := 1) (lv := [(0, .ref b), (1, .ref (a 0 0)), (2, .ref (am 0)), (3, .int (nI i))]) hx hb hl hX hbl hbA hS (law_in 1 hi.1 hi.2 (by decide)) rfl rfl dL_law_695 dL_law_696 dL_law_697 dL_law_698 dL_law_699 (by decide) ?_
  refine law_rd (k := 2) (lv := [(0, .ref b), (1, .ref (a 0 0)), (2, .ref (am 0)), (3, .int (nI i))]) hx hb hl hX hbl hbA hS (law_in 2 hi.1 hi.2 (by decide)) rfl rfl dL_law_700 dL_law_701 dL_law_702 dL_law_703 dL_law_704 (by decide) ?_
  refine kt_VG (As := [.int (xs (nI i + 1).toNatClampNeg), .int (xs (nI i + 2).toNatClampNeg)]) (rest := []) (st1 := [.int rv]) (b := a 0 0) (wc' := wC γ a so1 r0 r1 r2 rw re tn se sv sk sd ++ wM γ am sm sq) C0 (c_X6_peakOf l γ a hf) (cxV (nA := 2) hts goodU0 U533 U534 U535 U84 U536 (by decide +kernel) ⟨Nat.le_of_ble_eq_true rfl, Nat.le_of_ble_eq_true rfl⟩) hP (hD _ _ _ _ _ _ _ _ _ _ _ _ _) hS hl dL_law_705 hR1 focA1 0 6 rfl rfl rfl rfl (Nat.le_of_ble_eq_true rfl) rfl rfl (fun H locs hP hS => ?_)
  refine lv_aload_n hx hb dL_law_708 rfl (lv_at hl 2 rfl) ?_
  refine law_rd (k := 1) (lv := [(0, .ref b), (1, .ref (a 0 0)), (2, .ref (am 0)), (3, .int (nI i))]) hx hb hl hX hbl hbA hS (law_in 1 hi.1 hi.2 (by decide)) rfl rfl dL_law_709 dL_law_710 dL_law_711 dL_law_712 dL_law_713 (by decide) ?_
  refine law_rd (k := 2) (lv := [(0, .ref b), (1, .ref (a 0 0)), (2, .ref (am 0)), (3, .int (nI i))]) hx hb hl hX hbl hbA hS (law_in 2 hi.1 hi.2 (by decide)) rfl rfl dL_law_714 dL_law_715 dL_law_716 dL_law_717 dL_law_718 (by decide) ?_
  refine kt_VG (As := [.int (xs (nI i + 1).toNatClampNeg), .int (xs (nI i + 2).toNatClampNeg)]) (rest := [.int rv]) (st1 := [.int rv7, .int rv]) (b := am 0) (wc' := wC γ a so1 r0 r1 r2 rw re tn se sv sk sd ++ wM γ am sm1 sq) C0 (c_X7_peakOf l γ am hg) (cxV (nA := 2) hts goodU0 U1212 U1213 U1214 U91 U1215 (by decide +kernel) ⟨Nat.le_of_ble_eq_true rfl, Nat.le_of_ble_eq_true rfl⟩) hP (hD _ _ _ _ _ _ _ _ _ _ _ _ _) hS hl dL_law_719 hR1 focA2 0 7 rfl rfl rfl rfl (Nat.le_of_ble_eq_true rfl) rfl rfl (fun H locs hP hS => ?_)
  refine lv_icmp_eq (tgt := 1563) hx hb dL_law_722 (by decide) (fun _ => ?_) (fun h9 => absurd he h9)
  exact kk _ _ _ _ _ _ _ _ _ _ _ _ _ _ _ (Inv_mono hI (by omega) (by omega)) hP hS
set_option maxHeartbeats 2000000 in
set_option maxRecDepth 100000 in
theorem law_c12 (C : LC p s m meth c γ a am b L xs i ls cells slots) (I : Inv B so r0 r1 rw re sv sm sq) (hB : B ≤ 13400000) (hP : va_P γ.1 vwCl (wC γ a so r0 r1 r2 rw re tn se sv sk sd ++ wM γ am sm sq) H) (hS : va_S (fun q : Nat => s.heap.size ≤ q) s.heap H locs) (kk : LK p l e s m below meth c γ a am b cells slots ls (B + 26000) Q) : W p l e room_1 s m #[Value.ref b] below meth c H locs cells slots Q (F0 m 727 ls []) := by
  obtain ⟨C0, hX, hbl, hD, hl, hi, hR1⟩ := C
  obtain ⟨hx, hb, hml, hown, hts, -, -, hK, hE, hA⟩ := id C0
  have hbA : ¬ (fun q : Nat => s.heap.size ≤ q) b := Nat.not_le.mpr hbl
  obtain ⟨X, hf, Y, hg, hR⟩ := sim_valleyOf I (xs (nI i + 1).toNatClampNeg) (xs (nI i + 2).toNatClampNeg)
  obtain ⟨rv, so1⟩ := X
  obtain ⟨rv7, sm1⟩ := Y
  have he : rv = rv7 := hR.1
  have hI : Inv B so1 r0 r1 rw re sv sm1 sq := hR.2
  refine lv_aload_n hx hb dL_law_727 rfl (lv_at hl 1 rfl) ?_
  refine law_rd (k := 1) (lv := [(0, .ref b), (1, .ref (a 0 0)), (2, .ref (am 0)), (3, .int (nI i))]) hx hb hl hX hbl hbA hS (law_in 1 hi.1 hi.2 (by decide)) rfl rfl dL_law_728 dL_law_729 dL_law_730 dL_law_731 dL_law_732 (by decide) ?_
  refine law_rd (k := 2) (lv := [(0, .ref b), (1, .ref (a 0 0)), (2, .ref (am 0)), (3, .int (nI i))]) hx hb hl hX hbl hbA hS (law_in 2 hi.1 hi.2 (by decide)) rfl rfl dL_law_733 dL_law_734 dL_law_735 dL_law_736 dL_law_737 (by decide) ?_
  refine kt_VG (As := [.int (xs (nI i + 1).toNatClampNeg), .int (xs (nI i + 2).toNatClampNeg)]) (rest := []) (st1 := [.int rv]) (b := a 0 0) (wc' := wC γ a so1 r0 r1 r2 rw re tn se sv sk sd ++ wM γ am sm sq) C0 (c_X6_valleyOf l γ a hf) (cxV (nA := 2) hts goodU0 U537 U538 U539 U84 U540 (by decide +kernel) ⟨Nat.le_of_ble_eq_true rfl, Nat.le_of_ble_eq_true rfl⟩) hP (hD _ _ _ _ _ _ _ _ _ _ _ _ _) hS hl dL_law_738 hR1 focA1 0 6 rfl rfl rfl rfl (Nat.le_of_ble_eq_true rfl) rfl rfl (fun H locs hP hS => ?_)
  refine lv_aload_n hx hb dL_law_741 rfl (lv_at hl 2 rfl) ?_
  refine law_rd (k := 1) (lv := [(0, .ref b), (1, .ref (a 0 0)), (2, .ref (am 0)), (3, .int (nI i))]) hx hb hl hX hbl hbA hS (law_in 1 hi.1 hi.2 (by decide)) rfl rfl dL_law_742 dL_law_743 dL_law_744 dL_law_745 dL_law_746 (by decide) ?_
  refine law_rd (k := 2) (lv := [(0, .ref b), (1, .ref (a 0 0)), (2, .ref (am 0)), (3, .int (nI i))]) hx hb hl hX hbl hbA hS (law_in 2 hi.1 hi.2 (by decide)) rfl rfl dL_law_747 dL_law_748 dL_law_749 dL_law_750 dL_law_751 (by decide) ?_
  refine kt_VG (As := [.int (xs (nI i + 1).toNatClampNeg), .int (xs (nI i + 2).toNatClampNeg)]) (rest := [.int rv]) (st1 := [.int rv7, .int rv]) (b := am 0) (wc' := wC γ a so1 r0 r1 r2 rw re tn se sv sk sd ++ wM γ am sm1 sq) C0 (c_X7_valleyOf l γ am hg) (cxV (nA := 2) hts goodU0 U1216 U1217 U1218 U91 U1219 (by decide +kernel) ⟨Nat.le_of_ble_eq_true rfl, Nat.le_of_ble_eq_true rfl⟩) hP (hD _ _ _ _ _ _ _ _ _ _ _ _ _) hS hl dL_law_752 hR1 focA2 0 7 rfl rfl rfl rfl (Nat.le_of_ble_eq_true rfl) rfl rfl (fun H locs hP hS => ?_)
  refine lv_icmp_eq (tgt := 1563) hx hb dL_law_755 (by decide) (fun _ => ?_) (fun h9 => absurd he h9)
  exact kk _ _ _ _ _ _ _ _ _ _ _ _ _ _ _ (Inv_mono hI (by omega) (by omega)) hP hS
set_option maxHeartbeats 2000000 in
set_option maxRecDepth 100000 in
theorem law_c13 (C : LC p s m meth c γ a am b L xs i ls cells slots) (I : Inv B so r0 r1 rw re sv sm sq) (hB : B ≤ 13400000) (hP : va_P γ.1 vwCl (wC γ a so r0 r1 r2 rw re tn se sv sk sd ++ wM γ am sm sq) H) (hS : va_S (fun q : Nat => s.heap.size ≤ q) s.heap H locs) (kk : LK p l e s m below meth c γ a am b cells slots ls (B + 26000) Q) : W p l e room_1 s m #[Value.ref b] below meth c H locs cells slots Q (F0 m 760 ls []) := by
  obtain ⟨C0, hX, hbl, hD, hl, hi, hR1⟩ := C
  obtain ⟨hx, hb, hml, hown, hts, -, -, hK, hE, hA⟩ := id C0
  have hbA : ¬ (fun q : Nat => s.heap.size ≤ q) b := Nat.not_le.mpr hbl
  obtain ⟨X, hf, Y, hg, hR⟩ := sim_range I (by omega) r2 se tn (xs (nI i + 1).toNatClampNeg)
  obtain ⟨rv, so1, r01, r21, tn1, se1⟩ := X
  obtain ⟨rv7, sm1⟩ := Y
  have he : rv = rv7 := hR.1
  have hI : Inv (B + 26000) so1 r01 r1 rw re sv sm1 sq := hR.2
  refine lv_aload_n hx hb dL_law_760 rfl (lv_at hl 1 rfl) ?_
  refine law_rd (k := 1) (lv := [(0, .ref b), (1, .ref (a 0 0)), (2, .ref (am 0)), (3, .int (nI i))]) hx hb hl hX hbl hbA hS (law_in 1 hi.1 hi.2 (by decide)) rfl rfl dL_law_761 dL_law_762 dL_law_763 dL_law_764 dL_law_765 (by decide) ?_
  refine kt_VG (As := [.int (xs (nI i + 1).toNatClampNeg)]) (rest := []) (st1 := [.int rv]) (b := a 0 0) (wc' := wC γ a so1 r01 r1 r21 rw re tn1 se1 sv sk sd ++ wM γ am sm sq) C0 (c_X6_range l γ a hf) (cxV (nA := 1) hts goodU0 U545 U546 U547 U84 U548 (by decide +kernel) ⟨Nat.le_of_ble_eq_true rfl, Nat.le_of_ble_eq_true rfl⟩) hP (hD _ _ _ _ _ _ _ _ _ _ _ _ _) hS hl dL_law_766 hR1 focA1 0 6 rfl rfl rfl rfl (Nat.le_of_ble_eq_true rfl) rfl rfl (fun H locs hP hS => ?_)
  refine lv_aload_n hx hb dL_law_769 rfl (lv_at hl 2 rfl) ?_
  refine law_rd (k := 1) (lv := [(0, .ref b), (1, .ref (a 0 0)), (2, .ref (am 0)), (3, .int (nI i))]) hx hb hl hX hbl hbA hS (law_in 1 hi.1 hi.2 (by decide)) rfl rfl dL_law_770 dL_law_771 dL_law_772 dL_law_773 dL_law_774 (by decide) ?_
  refine kt_VG (As := [.int (xs (nI i + 1).toNatClampNeg)]) (rest := [.int rv]) (st1 := [.int rv7, .int rv]) (b := am 0) (wc' := wC γ a so1 r01 r1 r21 rw re tn1 se1 sv sk sd ++ wM γ am sm1 sq) C0 (c_X7_range l γ am hg) (cxV (nA := 1) hts goodU0 U1224 U1225 U1226 U91 U1227 (by decide +kernel) ⟨Nat.le_of_ble_eq_true rfl, Nat.le_of_ble_eq_true rfl⟩) hP (hD _ _ _ _ _ _ _ _ _ _ _ _ _) hS hl dL_law_775 hR1 focA2 0 7 rfl rfl rfl rfl (Nat.le_of_ble_eq_true rfl) rfl rfl (fun H locs hP hS => ?_)
  refine lv_icmp_eq (tgt := 1563) hx hb dL_law_778 (by decide) (fun _ => ?_) (fun h9 => absurd he h9)
  exact kk _ _ _ _ _ _ _ _ _ _ _ _ _ _ _ (Inv_mono hI (by omega) (by omega)) hP hS
set_option maxHeartbeats 2000000 in
set_option maxRecDepth 100000 in
theorem law_c14 (C : LC p s m meth c γ a am b L xs i ls cells slots) (I : Inv B so r0 r1 rw re sv sm sq) (hB : B ≤ 13400000) (hP : va_P γ.1 vwCl (wC γ a so r0 r1 r2 rw re tn se sv sk sd ++ wM γ am sm sq) H) (hS : va_S (fun q : Nat => s.heap.size ≤ q) s.heap H locs) (kk : LK p l e s m below meth c γ a am b cells slots ls (B + 26000) Q) : W p l e room_1 s m #[Value.ref b] below meth c H locs cells slots Q (F0 m 783 ls []) := by
  obtain ⟨C0, hX, hbl, hD, hl, hi, hR1⟩ := C
  obtain ⟨hx, hb, hml, hown, hts, -, -, hK, hE, hA⟩ := id C0
  have hbA : ¬ (fun q : Nat => s.heap.size ≤ q) b := Nat.not_le.mpr hbl
  obtain ⟨X, hf, Y, hg, hR⟩ := sim_fault I 
  obtain ⟨rv, erv⟩ : ∃ q, q = X := ⟨X, rfl⟩
  rw [← erv] at hf hR
  obtain ⟨rv7, erv7⟩ : ∃ q, q = Y := ⟨Y, rfl⟩
  rw [← erv7] at hg hR
  have he : rv = rv7 := hR
  have hI : Inv B so r0 r1 rw re sv sm sq := I
  refine lv_aload_n hx hb dL_law_783 rfl (lv_at hl 1 rfl) ?_
  refine kt_VG (As := []) (rest := []) (st1 := [.int rv]) (b := a 0 0) (wc' := wC γ a so r0 r1 r2 rw re tn se sv sk sd ++ wM γ am sm sq) C0 (c_X6_fault l γ a hf) (cxV (nA := 0) hts goodU0 U705 U706 U707 U84 U708 (by decide +kernel) ⟨Nat.le_of_ble_eq_true rfl, Nat.le_of_ble_eq_true rfl⟩) hP (hD _ _ _ _ _ _ _ _ _ _ _ _ _) hS hl dL_law_784 hR1 focA1 0 6 rfl rfl rfl rfl (Nat.le_of_ble_eq_true rfl) rfl rfl (fun H locs hP hS => ?_)
  refine lv_aload_n hx hb dL_law_787 rfl (lv_at hl 2 rfl) ?_
  refine kt_VG (As := []) (rest := [.int rv]) (st1 := [.int rv7, .int rv]) (b := am 0) (wc' := wC γ a so r0 r1 r2 rw re tn se sv sk sd ++ wM γ am sm sq) C0 (c_X7_fault l γ am hg) (cxV (nA := 0) hts goodU0 U1284 U1285 U1286 U91 U1287 (by decide +kernel) ⟨Nat.le_of_ble_eq_true rfl, Nat.le_of_ble_eq_true rfl⟩) hP (hD _ _ _ _ _ _ _ _ _ _ _ _ _) hS hl dL_law_788 hR1 focA2 0 7 rfl rfl rfl rfl (Nat.le_of_ble_eq_true rfl) rfl rfl (fun H locs hP hS => ?_)
  refine lv_icmp_eq (tgt := 1563) hx hb dL_law_791 (by decide) (fun _ => ?_) (fun h9 => absurd he h9)
  exact kk _ _ _ _ _ _ _ _ _ _ _ _ _ _ _ (Inv_mono hI (by omega) (by omega)) hP hS
set_option maxHeartbeats 2000000 in
set_option maxRecDepth 100000 in
theorem law_c15 (C : LC p s m meth c γ a am b L xs i ls cells slots) (I : Inv B so r0 r1 rw re sv sm sq) (hB : B ≤ 13400000) (hP : va_P γ.1 vwCl (wC γ a so r0 r1 r2 rw re tn se sv sk sd ++ wM γ am sm sq) H) (hS : va_S (fun q : Nat => s.heap.size ≤ q) s.heap H locs) (kk : LK p l e s m below meth c γ a am b cells slots ls (B + 26000) Q) : W p l e room_1 s m #[Value.ref b] below meth c H locs cells slots Q (F0 m 796 ls []) := by
  obtain ⟨C0, hX, hbl, hD, hl, hi, hR1⟩ := C
  obtain ⟨hx, hb, hml, hown, hts, -, -, hK, hE, hA⟩ := id C0
  have hbA : ¬ (fun q : Nat => s.heap.size ≤ q) b := Nat.not_le.mpr hbl
  obtain ⟨X, hf, Y, hg, hR⟩ := sim_since I (xs (nI i + 1).toNatClampNeg) (xs (nI i + 2).toNatClampNeg)
  obtain ⟨rv, so1⟩ := X
  obtain ⟨rv7, sm1⟩ := Y
  have he : rv = rv7 := hR.1
  have hI : Inv B so1 r0 r1 rw re sv sm1 sq := hR.2
  refine lv_aload_n hx hb dL_law_796 rfl (lv_at hl 1 rfl) ?_
  refine law_rd (k := 1) (lv := [(0, .ref b), (1, .ref (a 0 0)), (2, .ref (am 0)), (3, .int (nI i))]) hx hb hl hX hbl hbA hS (law_in 1 hi.1 hi.2 (by decide)) rfl rfl dL_law_797 dL_law_798 dL_law_799 dL_law_800 dL_law_801 (by decide) ?_
  refine law_rd (k := 2) (lv := [(0, .ref b), (1, .ref (a 0 0)), (2, .ref (am 0)), (3, .int (nI i))]) hx hb hl hX hbl hbA hS (law_in 2 hi.1 hi.2 (by decide)) rfl rfl dL_law_802 dL_law_803 dL_law_804 dL_law_805 dL_law_806 (by decide) ?_
  refine kt_VG (As := [.int (xs (nI i + 1).toNatClampNeg), .int (xs (nI i + 2).toNatClampNeg)]) (rest := []) (st1 := [.int rv]) (b := a 0 0) (wc' := wC γ a so1 r0 r1 r2 rw re tn se sv sk sd ++ wM γ am sm sq) C0 (c_X6_since l γ a hf) (cxV (nA := 2) hts goodU0 U709 U710 U711 U84 U712 (by decide +kernel) ⟨Nat.le_of_ble_eq_true rfl, Nat.le_of_ble_eq_true rfl⟩) hP (hD _ _ _ _ _ _ _ _ _ _ _ _ _) hS hl dL_law_807 hR1 focA1 0 6 rfl rfl rfl rfl (Nat.le_of_ble_eq_true rfl) rfl rfl (fun H locs hP hS => ?_)
  refine lv_aload_n hx hb dL_law_810 rfl (lv_at hl 2 rfl) ?_
  refine law_rd (k := 1) (lv := [(0, .ref b), (1, .ref (a 0 0)), (2, .ref (am 0)), (3, .int (nI i))]) hx hb hl hX hbl hbA hS (law_in 1 hi.1 hi.2 (by decide)) rfl rfl dL_law_811 dL_law_812 dL_law_813 dL_law_814 dL_law_815 (by decide) ?_
  refine law_rd (k := 2) (lv := [(0, .ref b), (1, .ref (a 0 0)), (2, .ref (am 0)), (3, .int (nI i))]) hx hb hl hX hbl hbA hS (law_in 2 hi.1 hi.2 (by decide)) rfl rfl dL_law_816 dL_law_817 dL_law_818 dL_law_819 dL_law_820 (by decide) ?_
  refine kt_VG (As := [.int (xs (nI i + 1).toNatClampNeg), .int (xs (nI i + 2).toNatClampNeg)]) (rest := [.int rv]) (st1 := [.int rv7, .int rv]) (b := am 0) (wc' := wC γ a so1 r0 r1 r2 rw re tn se sv sk sd ++ wM γ am sm1 sq) C0 (c_X7_since l γ am hg) (cxV (nA := 2) hts goodU0 U1288 U1289 U1290 U91 U1291 (by decide +kernel) ⟨Nat.le_of_ble_eq_true rfl, Nat.le_of_ble_eq_true rfl⟩) hP (hD _ _ _ _ _ _ _ _ _ _ _ _ _) hS hl dL_law_821 hR1 focA2 0 7 rfl rfl rfl rfl (Nat.le_of_ble_eq_true rfl) rfl rfl (fun H locs hP hS => ?_)
  refine lv_icmp_eq (tgt := 1563) hx hb dL_law_824 (by decide) (fun _ => ?_) (fun h9 => absurd he h9)
  exact kk _ _ _ _ _ _ _ _ _ _ _ _ _ _ _ (Inv_mono hI (by omega) (by omega)) hP hS
set_option maxHeartbeats 2000000 in
set_option maxRecDepth 100000 in
theorem law_c16 (C : LC p s m meth c γ a am b L xs i ls cells slots) (I : Inv B so r0 r1 rw re sv sm sq) (hB : B ≤ 13400000) (hP : va_P γ.1 vwCl (wC γ a so r0 r1 r2 rw re tn se sv sk sd ++ wM γ am sm sq) H) (hS : va_S (fun q : Nat => s.heap.size ≤ q) s.heap H locs) (kk : LK p l e s m below meth c γ a am b cells slots ls (B + 26000) Q) : W p l e room_1 s m #[Value.ref b] below meth c H locs cells slots Q (F0 m 829 ls []) := by
  obtain ⟨C0, hX, hbl, hD, hl, hi, hR1⟩ := C
  obtain ⟨hx, hb, hml, hown, hts, -, -, hK, hE, hA⟩ := id C0
  have hbA : ¬ (fun q : Nat => s.heap.size ≤ q) b := Nat.not_le.mpr hbl
  obtain ⟨X, hf, Y, hg, hR⟩ := sim_black I (by omega) (xs (nI i + 1).toNatClampNeg) (xs (nI i + 2).toNatClampNeg)
  obtain ⟨rv, so1⟩ := X
  obtain ⟨rv7, sm1⟩ := Y
  have he : rv = rv7 := hR.1
  have hI : Inv B so1 r0 r1 rw re sv sm1 sq := hR.2
  refine lv_aload_n hx hb dL_law_829 rfl (lv_at hl 1 rfl) ?_
  refine law_rd (k := 1) (lv := [(0, .ref b), (1, .ref (a 0 0)), (2, .ref (am 0)), (3, .int (nI i))]) hx hb hl hX hbl hbA hS (law_in 1 hi.1 hi.2 (by decide)) rfl rfl dL_law_830 dL_law_831 dL_law_832 dL_law_833 dL_law_834 (by decide) ?_
  refine law_rd (k := 2) (lv := [(0, .ref b), (1, .ref (a 0 0)), (2, .ref (am 0)), (3, .int (nI i))]) hx hb hl hX hbl hbA hS (law_in 2 hi.1 hi.2 (by decide)) rfl rfl dL_law_835 dL_law_836 dL_law_837 dL_law_838 dL_law_839 (by decide) ?_
  refine kt_VG (As := [.int (xs (nI i + 1).toNatClampNeg), .int (xs (nI i + 2).toNatClampNeg)]) (rest := []) (st1 := [.int rv]) (b := a 0 0) (wc' := wC γ a so1 r0 r1 r2 rw re tn se sv sk sd ++ wM γ am sm sq) C0 (c_X6_black l γ a hf) (cxV (nA := 2) hts goodU0 U715 U716 U717 U84 U718 (by decide +kernel) ⟨Nat.le_of_ble_eq_true rfl, Nat.le_of_ble_eq_true rfl⟩) hP (hD _ _ _ _ _ _ _ _ _ _ _ _ _) hS hl dL_law_840 hR1 focA1 0 6 rfl rfl rfl rfl (Nat.le_of_ble_eq_true rfl) rfl rfl (fun H locs hP hS => ?_)
  refine lv_aload_n hx hb dL_law_843 rfl (lv_at hl 2 rfl) ?_
  refine law_rd (k := 1) (lv := [(0, .ref b), (1, .ref (a 0 0)), (2, .ref (am 0)), (3, .int (nI i))]) hx hb hl hX hbl hbA hS (law_in 1 hi.1 hi.2 (by decide)) rfl rfl dL_law_844 dL_law_845 dL_law_846 dL_law_847 dL_law_848 (by decide) ?_
  refine law_rd (k := 2) (lv := [(0, .ref b), (1, .ref (a 0 0)), (2, .ref (am 0)), (3, .int (nI i))]) hx hb hl hX hbl hbA hS (law_in 2 hi.1 hi.2 (by decide)) rfl rfl dL_law_849 dL_law_850 dL_law_851 dL_law_852 dL_law_853 (by decide) ?_
  refine kt_VG (As := [.int (xs (nI i + 1).toNatClampNeg), .int (xs (nI i + 2).toNatClampNeg)]) (rest := [.int rv]) (st1 := [.int rv7, .int rv]) (b := am 0) (wc' := wC γ a so1 r0 r1 r2 rw re tn se sv sk sd ++ wM γ am sm1 sq) C0 (c_X7_black l γ am hg) (cxV (nA := 2) hts goodU0 U1296 U1297 U1298 U91 U1299 (by decide +kernel) ⟨Nat.le_of_ble_eq_true rfl, Nat.le_of_ble_eq_true rfl⟩) hP (hD _ _ _ _ _ _ _ _ _ _ _ _ _) hS hl dL_law_854 hR1 focA2 0 7 rfl rfl rfl rfl (Nat.le_of_ble_eq_true rfl) rfl rfl (fun H locs hP hS => ?_)
  refine lv_icmp_eq (tgt := 1563) hx hb dL_law_857 (by decide) (fun _ => ?_) (fun h9 => absurd he h9)
  exact kk _ _ _ _ _ _ _ _ _ _ _ _ _ _ _ (Inv_mono hI (by omega) (by omega)) hP hS
set_option maxHeartbeats 2000000 in
set_option maxRecDepth 100000 in
theorem law_c17 (C : LC p s m meth c γ a am b L xs i ls cells slots) (I : Inv B so r0 r1 rw re sv sm sq) (hB : B ≤ 13400000) (hP : va_P γ.1 vwCl (wC γ a so r0 r1 r2 rw re tn se sv sk sd ++ wM γ am sm sq) H) (hS : va_S (fun q : Nat => s.heap.size ≤ q) s.heap H locs) (kk : LK p l e s m below meth c γ a am b cells slots ls (B + 26000) Q) : W p l e room_1 s m #[Value.ref b] below meth c H locs cells slots Q (F0 m 862 ls []) := by
  obtain ⟨C0, hX, hbl, hD, hl, hi, hR1⟩ := C
  obtain ⟨hx, hb, hml, hown, hts, -, -, hK, hE, hA⟩ := id C0
  have hbA : ¬ (fun q : Nat => s.heap.size ≤ q) b := Nat.not_le.mpr hbl
  obtain ⟨X, hf, Y, hg, hR⟩ := sim_behind I (by omega) (xs (nI i + 1).toNatClampNeg) (xs (nI i + 2).toNatClampNeg)
  obtain ⟨rv, so1⟩ := X
  obtain ⟨rv7, sm1⟩ := Y
  have he : rv = rv7 := hR.1
  have hI : Inv B so1 r0 r1 rw re sv sm1 sq := hR.2
  refine lv_aload_n hx hb dL_law_862 rfl (lv_at hl 1 rfl) ?_
  refine law_rd (k := 1) (lv := [(0, .ref b), (1, .ref (a 0 0)), (2, .ref (am 0)), (3, .int (nI i))]) hx hb hl hX hbl hbA hS (law_in 1 hi.1 hi.2 (by decide)) rfl rfl dL_law_863 dL_law_864 dL_law_865 dL_law_866 dL_law_867 (by decide) ?_
  refine law_rd (k := 2) (lv := [(0, .ref b), (1, .ref (a 0 0)), (2, .ref (am 0)), (3, .int (nI i))]) hx hb hl hX hbl hbA hS (law_in 2 hi.1 hi.2 (by decide)) rfl rfl dL_law_868 dL_law_869 dL_law_870 dL_law_871 dL_law_872 (by decide) ?_
  refine kt_VG (As := [.int (xs (nI i + 1).toNatClampNeg), .int (xs (nI i + 2).toNatClampNeg)]) (rest := []) (st1 := [.int rv]) (b := a 0 0) (wc' := wC γ a so1 r0 r1 r2 rw re tn se sv sk sd ++ wM γ am sm sq) C0 (c_X6_behind l γ a hf) (cxV (nA := 2) hts goodU0 U719 U720 U721 U84 U722 (by decide +kernel) ⟨Nat.le_of_ble_eq_true rfl, Nat.le_of_ble_eq_true rfl⟩) hP (hD _ _ _ _ _ _ _ _ _ _ _ _ _) hS hl dL_law_873 hR1 focA1 0 6 rfl rfl rfl rfl (Nat.le_of_ble_eq_true rfl) rfl rfl (fun H locs hP hS => ?_)
  refine lv_aload_n hx hb dL_law_876 rfl (lv_at hl 2 rfl) ?_
  refine law_rd (k := 1) (lv := [(0, .ref b), (1, .ref (a 0 0)), (2, .ref (am 0)), (3, .int (nI i))]) hx hb hl hX hbl hbA hS (law_in 1 hi.1 hi.2 (by decide)) rfl rfl dL_law_877 dL_law_878 dL_law_879 dL_law_880 dL_law_881 (by decide) ?_
  refine law_rd (k := 2) (lv := [(0, .ref b), (1, .ref (a 0 0)), (2, .ref (am 0)), (3, .int (nI i))]) hx hb hl hX hbl hbA hS (law_in 2 hi.1 hi.2 (by decide)) rfl rfl dL_law_882 dL_law_883 dL_law_884 dL_law_885 dL_law_886 (by decide) ?_
  refine kt_VG (As := [.int (xs (nI i + 1).toNatClampNeg), .int (xs (nI i + 2).toNatClampNeg)]) (rest := [.int rv]) (st1 := [.int rv7, .int rv]) (b := am 0) (wc' := wC γ a so1 r0 r1 r2 rw re tn se sv sk sd ++ wM γ am sm1 sq) C0 (c_X7_behind l γ am hg) (cxV (nA := 2) hts goodU0 U1307 U1308 U1309 U91 U1310 (by decide +kernel) ⟨Nat.le_of_ble_eq_true rfl, Nat.le_of_ble_eq_true rfl⟩) hP (hD _ _ _ _ _ _ _ _ _ _ _ _ _) hS hl dL_law_887 hR1 focA2 0 7 rfl rfl rfl rfl (Nat.le_of_ble_eq_true rfl) rfl rfl (fun H locs hP hS => ?_)
  refine lv_icmp_eq (tgt := 1563) hx hb dL_law_890 (by decide) (fun _ => ?_) (fun h9 => absurd he h9)
  exact kk _ _ _ _ _ _ _ _ _ _ _ _ _ _ _ (Inv_mono hI (by omega) (by omega)) hP hS
set_option maxHeartbeats 2000000 in
set_option maxRecDepth 100000 in
theorem law_c18 (C : LC p s m meth c γ a am b L xs i ls cells slots) (I : Inv B so r0 r1 rw re sv sm sq) (hB : B ≤ 13400000) (hP : va_P γ.1 vwCl (wC γ a so r0 r1 r2 rw re tn se sv sk sd ++ wM γ am sm sq) H) (hS : va_S (fun q : Nat => s.heap.size ≤ q) s.heap H locs) (kk : LK p l e s m below meth c γ a am b cells slots ls (B + 26000) Q) : W p l e room_1 s m #[Value.ref b] below meth c H locs cells slots Q (F0 m 895 ls []) := by
  obtain ⟨C0, hX, hbl, hD, hl, hi, hR1⟩ := C
  obtain ⟨hx, hb, hml, hown, hts, -, -, hK, hE, hA⟩ := id C0
  have hbA : ¬ (fun q : Nat => s.heap.size ≤ q) b := Nat.not_le.mpr hbl
  obtain ⟨X, hf, Y, hg, hR⟩ := sim_white I (by omega) 
  obtain ⟨rv, erv⟩ : ∃ q, q = X := ⟨X, rfl⟩
  rw [← erv] at hf hR
  obtain ⟨rv7, sm1⟩ := Y
  have he : rv = rv7 := hR.1
  have hI : Inv B so r0 r1 rw re sv sm1 sq := hR.2
  refine lv_aload_n hx hb dL_law_895 rfl (lv_at hl 1 rfl) ?_
  refine kt_VG (As := []) (rest := []) (st1 := [.int rv]) (b := a 0 0) (wc' := wC γ a so r0 r1 r2 rw re tn se sv sk sd ++ wM γ am sm sq) C0 (c_X6_white l γ a hf) (cxV (nA := 0) hts goodU0 U728 U729 U730 U84 U731 (by decide +kernel) ⟨Nat.le_of_ble_eq_true rfl, Nat.le_of_ble_eq_true rfl⟩) hP (hD _ _ _ _ _ _ _ _ _ _ _ _ _) hS hl dL_law_896 hR1 focA1 0 6 rfl rfl rfl rfl (Nat.le_of_ble_eq_true rfl) rfl rfl (fun H locs hP hS => ?_)
  refine lv_aload_n hx hb dL_law_899 rfl (lv_at hl 2 rfl) ?_
  refine kt_VG (As := []) (rest := [.int rv]) (st1 := [.int rv7, .int rv]) (b := am 0) (wc' := wC γ a so r0 r1 r2 rw re tn se sv sk sd ++ wM γ am sm1 sq) C0 (c_X7_white l γ am hg) (cxV (nA := 0) hts goodU0 U1315 U1316 U1317 U91 U1318 (by decide +kernel) ⟨Nat.le_of_ble_eq_true rfl, Nat.le_of_ble_eq_true rfl⟩) hP (hD _ _ _ _ _ _ _ _ _ _ _ _ _) hS hl dL_law_900 hR1 focA2 0 7 rfl rfl rfl rfl (Nat.le_of_ble_eq_true rfl) rfl rfl (fun H locs hP hS => ?_)
  refine lv_icmp_eq (tgt := 1563) hx hb dL_law_903 (by decide) (fun _ => ?_) (fun h9 => absurd he h9)
  exact kk _ _ _ _ _ _ _ _ _ _ _ _ _ _ _ (Inv_mono hI (by omega) (by omega)) hP hS
set_option maxHeartbeats 2000000 in
set_option maxRecDepth 100000 in
theorem law_c19 (C : LC p s m meth c γ a am b L xs i ls cells slots) (I : Inv B so r0 r1 rw re sv sm sq) (hB : B ≤ 13400000) (hP : va_P γ.1 vwCl (wC γ a so r0 r1 r2 rw re tn se sv sk sd ++ wM γ am sm sq) H) (hS : va_S (fun q : Nat => s.heap.size ≤ q) s.heap H locs) (kk : LK p l e s m below meth c γ a am b cells slots ls (B + 26000) Q) : W p l e room_1 s m #[Value.ref b] below meth c H locs cells slots Q (F0 m 908 ls []) := by
  obtain ⟨C0, hX, hbl, hD, hl, hi, hR1⟩ := C
  obtain ⟨hx, hb, hml, hown, hts, -, -, hK, hE, hA⟩ := id C0
  have hbA : ¬ (fun q : Nat => s.heap.size ≤ q) b := Nat.not_le.mpr hbl
  obtain ⟨X, hf, Y, hg, hR⟩ := sim_yields I (by omega) sk (xs (nI i + 1).toNatClampNeg)
  obtain ⟨rv, so1, sk1⟩ := X
  obtain ⟨rv7, sm1⟩ := Y
  have he : rv = rv7 := hR.1
  have hI : Inv B so1 r0 r1 rw re sv sm1 sq := hR.2
  refine lv_aload_n hx hb dL_law_908 rfl (lv_at hl 1 rfl) ?_
  refine law_rd (k := 1) (lv := [(0, .ref b), (1, .ref (a 0 0)), (2, .ref (am 0)), (3, .int (nI i))]) hx hb hl hX hbl hbA hS (law_in 1 hi.1 hi.2 (by decide)) rfl rfl dL_law_909 dL_law_910 dL_law_911 dL_law_912 dL_law_913 (by decide) ?_
  refine kt_VG (As := [.int (xs (nI i + 1).toNatClampNeg)]) (rest := []) (st1 := [.int rv]) (b := a 0 0) (wc' := wC γ a so1 r0 r1 r2 rw re tn se sv sk1 sd ++ wM γ am sm sq) C0 (c_X6_yields l γ a hf) (cxV (nA := 1) hts goodU0 U737 U738 U739 U84 U740 (by decide +kernel) ⟨Nat.le_of_ble_eq_true rfl, Nat.le_of_ble_eq_true rfl⟩) hP (hD _ _ _ _ _ _ _ _ _ _ _ _ _) hS hl dL_law_914 hR1 focA1 0 6 rfl rfl rfl rfl (Nat.le_of_ble_eq_true rfl) rfl rfl (fun H locs hP hS => ?_)
  refine lv_aload_n hx hb dL_law_917 rfl (lv_at hl 2 rfl) ?_
  refine law_rd (k := 1) (lv := [(0, .ref b), (1, .ref (a 0 0)), (2, .ref (am 0)), (3, .int (nI i))]) hx hb hl hX hbl hbA hS (law_in 1 hi.1 hi.2 (by decide)) rfl rfl dL_law_918 dL_law_919 dL_law_920 dL_law_921 dL_law_922 (by decide) ?_
  refine kt_VG (As := [.int (xs (nI i + 1).toNatClampNeg)]) (rest := [.int rv]) (st1 := [.int rv7, .int rv]) (b := am 0) (wc' := wC γ a so1 r0 r1 r2 rw re tn se sv sk1 sd ++ wM γ am sm1 sq) C0 (c_X7_yields l γ am hg) (cxV (nA := 1) hts goodU0 U1319 U1320 U1321 U91 U1322 (by decide +kernel) ⟨Nat.le_of_ble_eq_true rfl, Nat.le_of_ble_eq_true rfl⟩) hP (hD _ _ _ _ _ _ _ _ _ _ _ _ _) hS hl dL_law_923 hR1 focA2 0 7 rfl rfl rfl rfl (Nat.le_of_ble_eq_true rfl) rfl rfl (fun H locs hP hS => ?_)
  refine lv_icmp_eq (tgt := 1563) hx hb dL_law_926 (by decide) (fun _ => ?_) (fun h9 => absurd he h9)
  exact kk _ _ _ _ _ _ _ _ _ _ _ _ _ _ _ (Inv_mono hI (by omega) (by omega)) hP hS
set_option maxHeartbeats 2000000 in
set_option maxRecDepth 100000 in
theorem law_c20 (C : LC p s m meth c γ a am b L xs i ls cells slots) (I : Inv B so r0 r1 rw re sv sm sq) (hB : B ≤ 13400000) (hP : va_P γ.1 vwCl (wC γ a so r0 r1 r2 rw re tn se sv sk sd ++ wM γ am sm sq) H) (hS : va_S (fun q : Nat => s.heap.size ≤ q) s.heap H locs) (kk : LK p l e s m below meth c γ a am b cells slots ls (B + 26000) Q) : W p l e room_1 s m #[Value.ref b] below meth c H locs cells slots Q (F0 m 931 ls []) := by
  obtain ⟨C0, hX, hbl, hD, hl, hi, hR1⟩ := C
  obtain ⟨hx, hb, hml, hown, hts, -, -, hK, hE, hA⟩ := id C0
  have hbA : ¬ (fun q : Nat => s.heap.size ≤ q) b := Nat.not_le.mpr hbl
  obtain ⟨X, hf, Y, hg, hR⟩ := sim_grief I (xs (nI i + 1).toNatClampNeg)
  obtain ⟨rv, so1⟩ := X
  obtain ⟨rv7, sm1⟩ := Y
  have he : rv = rv7 := hR.1
  have hI : Inv B so1 r0 r1 rw re sv sm1 sq := hR.2
  refine lv_aload_n hx hb dL_law_931 rfl (lv_at hl 1 rfl) ?_
  refine law_rd (k := 1) (lv := [(0, .ref b), (1, .ref (a 0 0)), (2, .ref (am 0)), (3, .int (nI i))]) hx hb hl hX hbl hbA hS (law_in 1 hi.1 hi.2 (by decide)) rfl rfl dL_law_932 dL_law_933 dL_law_934 dL_law_935 dL_law_936 (by decide) ?_
  refine kt_VG (As := [.int (xs (nI i + 1).toNatClampNeg)]) (rest := []) (st1 := [.int rv]) (b := a 0 0) (wc' := wC γ a so1 r0 r1 r2 rw re tn se sv sk sd ++ wM γ am sm sq) C0 (c_X6_grief l γ a hf) (cxV (nA := 1) hts goodU0 U751 U752 U753 U84 U754 (by decide +kernel) ⟨Nat.le_of_ble_eq_true rfl, Nat.le_of_ble_eq_true rfl⟩) hP (hD _ _ _ _ _ _ _ _ _ _ _ _ _) hS hl dL_law_937 hR1 focA1 0 6 rfl rfl rfl rfl (Nat.le_of_ble_eq_true rfl) rfl rfl (fun H locs hP hS => ?_)
  refine lv_aload_n hx hb dL_law_940 rfl (lv_at hl 2 rfl) ?_
  refine law_rd (k := 1) (lv := [(0, .ref b), (1, .ref (a 0 0)), (2, .ref (am 0)), (3, .int (nI i))]) hx hb hl hX hbl hbA hS (law_in 1 hi.1 hi.2 (by decide)) rfl rfl dL_law_941 dL_law_942 dL_law_943 dL_law_944 dL_law_945 (by decide) ?_
  refine kt_VG (As := [.int (xs (nI i + 1).toNatClampNeg)]) (rest := [.int rv]) (st1 := [.int rv7, .int rv]) (b := am 0) (wc' := wC γ a so1 r0 r1 r2 rw re tn se sv sk sd ++ wM γ am sm1 sq) C0 (c_X7_grief l γ am hg) (cxV (nA := 1) hts goodU0 U1327 U1328 U1329 U91 U1330 (by decide +kernel) ⟨Nat.le_of_ble_eq_true rfl, Nat.le_of_ble_eq_true rfl⟩) hP (hD _ _ _ _ _ _ _ _ _ _ _ _ _) hS hl dL_law_946 hR1 focA2 0 7 rfl rfl rfl rfl (Nat.le_of_ble_eq_true rfl) rfl rfl (fun H locs hP hS => ?_)
  refine lv_icmp_eq (tgt := 1563) hx hb dL_law_949 (by decide) (fun _ => ?_) (fun h9 => absurd he h9)
  exact kk _ _ _ _ _ _ _ _ _ _ _ _ _ _ _ (Inv_mono hI (by omega) (by omega)) hP hS
set_option maxHeartbeats 2000000 in
set_option maxRecDepth 100000 in
theorem law_c21 (C : LC p s m meth c γ a am b L xs i ls cells slots) (I : Inv B so r0 r1 rw re sv sm sq) (hB : B ≤ 13400000) (hP : va_P γ.1 vwCl (wC γ a so r0 r1 r2 rw re tn se sv sk sd ++ wM γ am sm sq) H) (hS : va_S (fun q : Nat => s.heap.size ≤ q) s.heap H locs) (kk : LK p l e s m below meth c γ a am b cells slots ls (B + 26000) Q) : W p l e room_1 s m #[Value.ref b] below meth c H locs cells slots Q (F0 m 954 ls []) := by
  obtain ⟨C0, hX, hbl, hD, hl, hi, hR1⟩ := C
  obtain ⟨hx, hb, hml, hown, hts, -, -, hK, hE, hA⟩ := id C0
  have hbA : ¬ (fun q : Nat => s.heap.size ≤ q) b := Nat.not_le.mpr hbl
  obtain ⟨X, hf, Y, hg, hR⟩ := sim_least I 
  obtain ⟨rv, erv⟩ : ∃ q, q = X := ⟨X, rfl⟩
  rw [← erv] at hf hR
  obtain ⟨rv7, sm1⟩ := Y
  have he : rv = rv7 := hR.1
  have hI : Inv B so r0 r1 rw re sv sm1 sq := hR.2
  refine lv_aload_n hx hb dL_law_954 rfl (lv_at hl 1 rfl) ?_
  refine kt_VG (As := []) (rest := []) (st1 := [.int rv]) (b := a 0 0) (wc' := wC γ a so r0 r1 r2 rw re tn se sv sk sd ++ wM γ am sm sq) C0 (c_X6_least l γ a hf) (cxV (nA := 0) hts goodU0 U757 U758 U759 U84 U760 (by decide +kernel) ⟨Nat.le_of_ble_eq_true rfl, Nat.le_of_ble_eq_true rfl⟩) hP (hD _ _ _ _ _ _ _ _ _ _ _ _ _) hS hl dL_law_955 hR1 focA1 0 6 rfl rfl rfl rfl (Nat.le_of_ble_eq_true rfl) rfl rfl (fun H locs hP hS => ?_)
  refine lv_aload_n hx hb dL_law_958 rfl (lv_at hl 2 rfl) ?_
  refine kt_VG (As := []) (rest := [.int rv]) (st1 := [.int rv7, .int rv]) (b := am 0) (wc' := wC γ a so r0 r1 r2 rw re tn se sv sk sd ++ wM γ am sm1 sq) C0 (c_X7_least l γ am hg) (cxV (nA := 0) hts goodU0 U1335 U1336 U1337 U91 U1338 (by decide +kernel) ⟨Nat.le_of_ble_eq_true rfl, Nat.le_of_ble_eq_true rfl⟩) hP (hD _ _ _ _ _ _ _ _ _ _ _ _ _) hS hl dL_law_959 hR1 focA2 0 7 rfl rfl rfl rfl (Nat.le_of_ble_eq_true rfl) rfl rfl (fun H locs hP hS => ?_)
  refine lv_icmp_eq (tgt := 1563) hx hb dL_law_962 (by decide) (fun _ => ?_) (fun h9 => absurd he h9)
  exact kk _ _ _ _ _ _ _ _ _ _ _ _ _ _ _ (Inv_mono hI (by omega) (by omega)) hP hS
set_option maxHeartbeats 2000000 in
set_option maxRecDepth 100000 in
theorem law_c22 (C : LC p s m meth c γ a am b L xs i ls cells slots) (I : Inv B so r0 r1 rw re sv sm sq) (hB : B ≤ 13400000) (hP : va_P γ.1 vwCl (wC γ a so r0 r1 r2 rw re tn se sv sk sd ++ wM γ am sm sq) H) (hS : va_S (fun q : Nat => s.heap.size ≤ q) s.heap H locs) (kk : LK p l e s m below meth c γ a am b cells slots ls (B + 26000) Q) : W p l e room_1 s m #[Value.ref b] below meth c H locs cells slots Q (F0 m 967 ls []) := by
  obtain ⟨C0, hX, hbl, hD, hl, hi, hR1⟩ := C
  obtain ⟨hx, hb, hml, hown, hts, -, -, hK, hE, hA⟩ := id C0
  have hbA : ¬ (fun q : Nat => s.heap.size ≤ q) b := Nat.not_le.mpr hbl
  obtain ⟨X, hf, Y, hg, hR⟩ := sim_order I sd (xs (nI i + 1).toNatClampNeg) (xs (nI i + 2).toNatClampNeg)
  obtain ⟨rv, so1, sd1⟩ := X
  obtain ⟨rv7, sm1⟩ := Y
  have he : rv = rv7 := hR.1
  have hI : Inv B so1 r0 r1 rw re sv sm1 sq := hR.2
  refine lv_aload_n hx hb dL_law_967 rfl (lv_at hl 1 rfl) ?_
  refine law_rd (k := 1) (lv := [(0, .ref b), (1, .ref (a 0 0)), (2, .ref (am 0)), (3, .int (nI i))]) hx hb hl hX hbl hbA hS (law_in 1 hi.1 hi.2 (by decide)) rfl rfl dL_law_968 dL_law_969 dL_law_970 dL_law_971 dL_law_972 (by decide) ?_
  refine law_rd (k := 2) (lv := [(0, .ref b), (1, .ref (a 0 0)), (2, .ref (am 0)), (3, .int (nI i))]) hx hb hl hX hbl hbA hS (law_in 2 hi.1 hi.2 (by decide)) rfl rfl dL_law_973 dL_law_974 dL_law_975 dL_law_976 dL_law_977 (by decide) ?_
  refine kt_VG (As := [.int (xs (nI i + 1).toNatClampNeg), .int (xs (nI i + 2).toNatClampNeg)]) (rest := []) (st1 := [.int rv]) (b := a 0 0) (wc' := wC γ a so1 r0 r1 r2 rw re tn se sv sk sd1 ++ wM γ am sm sq) C0 (c_X6_order l γ a hf) (cxV (nA := 2) hts goodU0 U761 U762 U763 U84 U764 (by decide +kernel) ⟨Nat.le_of_ble_eq_true rfl, Nat.le_of_ble_eq_true rfl⟩) hP (hD _ _ _ _ _ _ _ _ _ _ _ _ _) hS hl dL_law_978 hR1 focA1 0 6 rfl rfl rfl rfl (Nat.le_of_ble_eq_true rfl) rfl rfl (fun H locs hP hS => ?_)
  refine lv_aload_n hx hb dL_law_981 rfl (lv_at hl 2 rfl) ?_
  refine law_rd (k := 1) (lv := [(0, .ref b), (1, .ref (a 0 0)), (2, .ref (am 0)), (3, .int (nI i))]) hx hb hl hX hbl hbA hS (law_in 1 hi.1 hi.2 (by decide)) rfl rfl dL_law_982 dL_law_983 dL_law_984 dL_law_985 dL_law_986 (by decide) ?_
  refine law_rd (k := 2) (lv := [(0, .ref b), (1, .ref (a 0 0)), (2, .ref (am 0)), (3, .int (nI i))]) hx hb hl hX hbl hbA hS (law_in 2 hi.1 hi.2 (by decide)) rfl rfl dL_law_987 dL_law_988 dL_law_989 dL_law_990 dL_law_991 (by decide) ?_
  refine kt_VG (As := [.int (xs (nI i + 1).toNatClampNeg), .int (xs (nI i + 2).toNatClampNeg)]) (rest := [.int rv]) (st1 := [.int rv7, .int rv]) (b := am 0) (wc' := wC γ a so1 r0 r1 r2 rw re tn se sv sk sd1 ++ wM γ am sm1 sq) C0 (c_X7_order l γ am hg) (cxV (nA := 2) hts goodU0 U1339 U1340 U1341 U91 U1342 (by decide +kernel) ⟨Nat.le_of_ble_eq_true rfl, Nat.le_of_ble_eq_true rfl⟩) hP (hD _ _ _ _ _ _ _ _ _ _ _ _ _) hS hl dL_law_992 hR1 focA2 0 7 rfl rfl rfl rfl (Nat.le_of_ble_eq_true rfl) rfl rfl (fun H locs hP hS => ?_)
  refine lv_icmp_eq (tgt := 1563) hx hb dL_law_995 (by decide) (fun _ => ?_) (fun h9 => absurd he h9)
  exact kk _ _ _ _ _ _ _ _ _ _ _ _ _ _ _ (Inv_mono hI (by omega) (by omega)) hP hS
set_option maxHeartbeats 2000000 in
set_option maxRecDepth 100000 in
theorem law_c23 (C : LC p s m meth c γ a am b L xs i ls cells slots) (I : Inv B so r0 r1 rw re sv sm sq) (hB : B ≤ 13400000) (hP : va_P γ.1 vwCl (wC γ a so r0 r1 r2 rw re tn se sv sk sd ++ wM γ am sm sq) H) (hS : va_S (fun q : Nat => s.heap.size ≤ q) s.heap H locs) (kk : LK p l e s m below meth c γ a am b cells slots ls (B + 26000) Q) : W p l e room_1 s m #[Value.ref b] below meth c H locs cells slots Q (F0 m 1000 ls []) := by
  obtain ⟨C0, hX, hbl, hD, hl, hi, hR1⟩ := C
  obtain ⟨hx, hb, hml, hown, hts, -, -, hK, hE, hA⟩ := id C0
  have hbA : ¬ (fun q : Nat => s.heap.size ≤ q) b := Nat.not_le.mpr hbl
  obtain ⟨X, hf, Y, hg, hR⟩ := sim_cost (r2 := r2) I (by omega) sk (xs (nI i + 1).toNatClampNeg)
  obtain ⟨rv, so1, r21, sk1⟩ := X
  obtain ⟨rv7, sm1⟩ := Y
  have he : rv = rv7 := hR.1
  have hI : Inv B so1 r0 r1 rw re sv sm1 sq := hR.2
  refine lv_aload_n hx hb dL_law_1000 rfl (lv_at hl 1 rfl) ?_
  refine law_rd (k := 1) (lv := [(0, .ref b), (1, .ref (a 0 0)), (2, .ref (am 0)), (3, .int (nI i))]) hx hb hl hX hbl hbA hS (law_in 1 hi.1 hi.2 (by decide)) rfl rfl dL_law_1001 dL_law_1002 dL_law_1003 dL_law_1004 dL_law_1005 (by decide) ?_
  refine kt_VG (As := [.int (xs (nI i + 1).toNatClampNeg)]) (rest := []) (st1 := [.int rv]) (b := a 0 0) (wc' := wC γ a so1 r0 r1 r21 rw re tn se sv sk1 sd ++ wM γ am sm sq) C0 (c_X6_cost l γ a hf) (cxV (nA := 1) hts goodU0 U790 U791 U792 U84 U793 (by decide +kernel) ⟨Nat.le_of_ble_eq_true rfl, Nat.le_of_ble_eq_true rfl⟩) hP (hD _ _ _ _ _ _ _ _ _ _ _ _ _) hS hl dL_law_1006 hR1 focA1 0 6 rfl rfl rfl rfl (Nat.le_of_ble_eq_true rfl) rfl rfl (fun H locs hP hS => ?_)
  refine lv_aload_n hx hb dL_law_1009 rfl (lv_at hl 2 rfl) ?_
  refine law_rd (k := 1) (lv := [(0, .ref b), (1, .ref (a 0 0)), (2, .ref (am 0)), (3, .int (nI i))]) hx hb hl hX hbl hbA hS (law_in 1 hi.1 hi.2 (by decide)) rfl rfl dL_law_1010 dL_law_1011 dL_law_1012 dL_law_1013 dL_law_1014 (by decide) ?_
  refine kt_VG (As := [.int (xs (nI i + 1).toNatClampNeg)]) (rest := [.int rv]) (st1 := [.int rv7, .int rv]) (b := am 0) (wc' := wC γ a so1 r0 r1 r21 rw re tn se sv sk1 sd ++ wM γ am sm1 sq) C0 (c_X7_cost l γ am hg) (cxV (nA := 1) hts goodU0 U1347 U1348 U1349 U91 U1350 (by decide +kernel) ⟨Nat.le_of_ble_eq_true rfl, Nat.le_of_ble_eq_true rfl⟩) hP (hD _ _ _ _ _ _ _ _ _ _ _ _ _) hS hl dL_law_1015 hR1 focA2 0 7 rfl rfl rfl rfl (Nat.le_of_ble_eq_true rfl) rfl rfl (fun H locs hP hS => ?_)
  refine lv_icmp_eq (tgt := 1563) hx hb dL_law_1018 (by decide) (fun _ => ?_) (fun h9 => absurd he h9)
  exact kk _ _ _ _ _ _ _ _ _ _ _ _ _ _ _ (Inv_mono hI (by omega) (by omega)) hP hS
set_option maxHeartbeats 2000000 in
set_option maxRecDepth 100000 in
theorem law_c24 (C : LC p s m meth c γ a am b L xs i ls cells slots) (I : Inv B so r0 r1 rw re sv sm sq) (hB : B ≤ 13400000) (hP : va_P γ.1 vwCl (wC γ a so r0 r1 r2 rw re tn se sv sk sd ++ wM γ am sm sq) H) (hS : va_S (fun q : Nat => s.heap.size ≤ q) s.heap H locs) (kk : LK p l e s m below meth c γ a am b cells slots ls (B + 26000) Q) : W p l e room_1 s m #[Value.ref b] below meth c H locs cells slots Q (F0 m 1023 ls []) := by
  obtain ⟨C0, hX, hbl, hD, hl, hi, hR1⟩ := C
  obtain ⟨hx, hb, hml, hown, hts, -, -, hK, hE, hA⟩ := id C0
  have hbA : ¬ (fun q : Nat => s.heap.size ≤ q) b := Nat.not_le.mpr hbl
  obtain ⟨X, hf, Y, hg, hR⟩ := sim_screened I (xs (nI i + 1).toNatClampNeg) (xs (nI i + 2).toNatClampNeg) (xs (nI i + 3).toNatClampNeg)
  obtain ⟨rv, so1⟩ := X
  obtain ⟨rv7, sm1⟩ := Y
  have he : rv = rv7 := hR.1
  have hI : Inv B so1 r0 r1 rw re sv sm1 sq := hR.2
  refine lv_aload_n hx hb dL_law_1023 rfl (lv_at hl 1 rfl) ?_
  refine law_rd (k := 1) (lv := [(0, .ref b), (1, .ref (a 0 0)), (2, .ref (am 0)), (3, .int (nI i))]) hx hb hl hX hbl hbA hS (law_in 1 hi.1 hi.2 (by decide)) rfl rfl dL_law_1024 dL_law_1025 dL_law_1026 dL_law_1027 dL_law_1028 (by decide) ?_
  refine law_rd (k := 2) (lv := [(0, .ref b), (1, .ref (a 0 0)), (2, .ref (am 0)), (3, .int (nI i))]) hx hb hl hX hbl hbA hS (law_in 2 hi.1 hi.2 (by decide)) rfl rfl dL_law_1029 dL_law_1030 dL_law_1031 dL_law_1032 dL_law_1033 (by decide) ?_
  refine law_rd (k := 3) (lv := [(0, .ref b), (1, .ref (a 0 0)), (2, .ref (am 0)), (3, .int (nI i))]) hx hb hl hX hbl hbA hS (law_in 3 hi.1 hi.2 (by decide)) rfl rfl dL_law_1034 dL_law_1035 dL_law_1036 dL_law_1037 dL_law_1038 (by decide) ?_
  refine kt_VG (As := [.int (xs (nI i + 1).toNatClampNeg), .int (xs (nI i + 2).toNatClampNeg), .int (xs (nI i + 3).toNatClampNeg)]) (rest := []) (st1 := [.int rv]) (b := a 0 0) (wc' := wC γ a so1 r0 r1 r2 rw re tn se sv sk sd ++ wM γ am sm sq) C0 (c_X6_screened l γ a hf) (cxV (nA := 3) hts goodU0 U796 U797 U798 U84 U799 (by decide +kernel) ⟨Nat.le_of_ble_eq_true rfl, Nat.le_of_ble_eq_true rfl⟩) hP (hD _ _ _ _ _ _ _ _ _ _ _ _ _) hS hl dL_law_1039 hR1 focA1 0 6 rfl rfl rfl rfl (Nat.le_of_ble_eq_true rfl) rfl rfl (fun H locs hP hS => ?_)
  refine lv_aload_n hx hb dL_law_1042 rfl (lv_at hl 2 rfl) ?_
  refine law_rd (k := 1) (lv := [(0, .ref b), (1, .ref (a 0 0)), (2, .ref (am 0)), (3, .int (nI i))]) hx hb hl hX hbl hbA hS (law_in 1 hi.1 hi.2 (by decide)) rfl rfl dL_law_1043 dL_law_1044 dL_law_1045 dL_law_1046 dL_law_1047 (by decide) ?_
  refine law_rd (k := 2) (lv := [(0, .ref b), (1, .ref (a 0 0)), (2, .ref (am 0)), (3, .int (nI i))]) hx hb hl hX hbl hbA hS (law_in 2 hi.1 hi.2 (by decide)) rfl rfl dL_law_1048 dL_law_1049 dL_law_1050 dL_law_1051 dL_law_1052 (by decide) ?_
  refine law_rd (k := 3) (lv := [(0, .ref b), (1, .ref (a 0 0)), (2, .ref (am 0)), (3, .int (nI i))]) hx hb hl hX hbl hbA hS (law_in 3 hi.1 hi.2 (by decide)) rfl rfl dL_law_1053 dL_law_1054 dL_law_1055 dL_law_1056 dL_law_1057 (by decide) ?_
  refine kt_VG (As := [.int (xs (nI i + 1).toNatClampNeg), .int (xs (nI i + 2).toNatClampNeg), .int (xs (nI i + 3).toNatClampNeg)]) (rest := [.int rv]) (st1 := [.int rv7, .int rv]) (b := am 0) (wc' := wC γ a so1 r0 r1 r2 rw re tn se sv sk sd ++ wM γ am sm1 sq) C0 (c_X7_screened l γ am hg) (cxV (nA := 3) hts goodU0 U1352 U1353 U1354 U91 U1355 (by decide +kernel) ⟨Nat.le_of_ble_eq_true rfl, Nat.le_of_ble_eq_true rfl⟩) hP (hD _ _ _ _ _ _ _ _ _ _ _ _ _) hS hl dL_law_1058 hR1 focA2 0 7 rfl rfl rfl rfl (Nat.le_of_ble_eq_true rfl) rfl rfl (fun H locs hP hS => ?_)
  refine lv_icmp_eq (tgt := 1563) hx hb dL_law_1061 (by decide) (fun _ => ?_) (fun h9 => absurd he h9)
  exact kk _ _ _ _ _ _ _ _ _ _ _ _ _ _ _ (Inv_mono hI (by omega) (by omega)) hP hS
set_option maxHeartbeats 2000000 in
set_option maxRecDepth 100000 in
theorem law_c25 (C : LC p s m meth c γ a am b L xs i ls cells slots) (I : Inv B so r0 r1 rw re sv sm sq) (hB : B ≤ 13400000) (hP : va_P γ.1 vwCl (wC γ a so r0 r1 r2 rw re tn se sv sk sd ++ wM γ am sm sq) H) (hS : va_S (fun q : Nat => s.heap.size ≤ q) s.heap H locs) (kk : LK p l e s m below meth c γ a am b cells slots ls (B + 26000) Q) : W p l e room_1 s m #[Value.ref b] below meth c H locs cells slots Q (F0 m 1066 ls []) := by
  obtain ⟨C0, hX, hbl, hD, hl, hi, hR1⟩ := C
  obtain ⟨hx, hb, hml, hown, hts, -, -, hK, hE, hA⟩ := id C0
  have hbA : ¬ (fun q : Nat => s.heap.size ≤ q) b := Nat.not_le.mpr hbl
  obtain ⟨X, hf, Y, hg, hR⟩ := sim_hide I (xs (nI i + 1).toNatClampNeg) (xs (nI i + 2).toNatClampNeg)
  obtain ⟨rv, so1⟩ := X
  obtain ⟨rv7, sm1⟩ := Y
  have he : rv = rv7 := hR.1
  have hI : Inv B so1 r0 r1 rw re sv sm1 sq := hR.2
  refine lv_aload_n hx hb dL_law_1066 rfl (lv_at hl 1 rfl) ?_
  refine law_rd (k := 1) (lv := [(0, .ref b), (1, .ref (a 0 0)), (2, .ref (am 0)), (3, .int (nI i))]) hx hb hl hX hbl hbA hS (law_in 1 hi.1 hi.2 (by decide)) rfl rfl dL_law_1067 dL_law_1068 dL_law_1069 dL_law_1070 dL_law_1071 (by decide) ?_
  refine law_rd (k := 2) (lv := [(0, .ref b), (1, .ref (a 0 0)), (2, .ref (am 0)), (3, .int (nI i))]) hx hb hl hX hbl hbA hS (law_in 2 hi.1 hi.2 (by decide)) rfl rfl dL_law_1072 dL_law_1073 dL_law_1074 dL_law_1075 dL_law_1076 (by decide) ?_
  refine kt_VG (As := [.int (xs (nI i + 1).toNatClampNeg), .int (xs (nI i + 2).toNatClampNeg)]) (rest := []) (st1 := [.int rv]) (b := a 0 0) (wc' := wC γ a so1 r0 r1 r2 rw re tn se sv sk sd ++ wM γ am sm sq) C0 (c_X6_hide l γ a hf) (cxV (nA := 2) hts goodU0 U804 U805 U806 U84 U807 (by decide +kernel) ⟨Nat.le_of_ble_eq_true rfl, Nat.le_of_ble_eq_true rfl⟩) hP (hD _ _ _ _ _ _ _ _ _ _ _ _ _) hS hl dL_law_1077 hR1 focA1 0 6 rfl rfl rfl rfl (Nat.le_of_ble_eq_true rfl) rfl rfl (fun H locs hP hS => ?_)
  refine lv_aload_n hx hb dL_law_1080 rfl (lv_at hl 2 rfl) ?_
  refine law_rd (k := 1) (lv := [(0, .ref b), (1, .ref (a 0 0)), (2, .ref (am 0)), (3, .int (nI i))]) hx hb hl hX hbl hbA hS (law_in 1 hi.1 hi.2 (by decide)) rfl rfl dL_law_1081 dL_law_1082 dL_law_1083 dL_law_1084 dL_law_1085 (by decide) ?_
  refine law_rd (k := 2) (lv := [(0, .ref b), (1, .ref (a 0 0)), (2, .ref (am 0)), (3, .int (nI i))]) hx hb hl hX hbl hbA hS (law_in 2 hi.1 hi.2 (by decide)) rfl rfl dL_law_1086 dL_law_1087 dL_law_1088 dL_law_1089 dL_law_1090 (by decide) ?_
  refine kt_VG (As := [.int (xs (nI i + 1).toNatClampNeg), .int (xs (nI i + 2).toNatClampNeg)]) (rest := [.int rv]) (st1 := [.int rv7, .int rv]) (b := am 0) (wc' := wC γ a so1 r0 r1 r2 rw re tn se sv sk sd ++ wM γ am sm1 sq) C0 (c_X7_hide l γ am hg) (cxV (nA := 2) hts goodU0 U1360 U1361 U1362 U91 U1363 (by decide +kernel) ⟨Nat.le_of_ble_eq_true rfl, Nat.le_of_ble_eq_true rfl⟩) hP (hD _ _ _ _ _ _ _ _ _ _ _ _ _) hS hl dL_law_1091 hR1 focA2 0 7 rfl rfl rfl rfl (Nat.le_of_ble_eq_true rfl) rfl rfl (fun H locs hP hS => ?_)
  refine lv_icmp_eq (tgt := 1563) hx hb dL_law_1094 (by decide) (fun _ => ?_) (fun h9 => absurd he h9)
  exact kk _ _ _ _ _ _ _ _ _ _ _ _ _ _ _ (Inv_mono hI (by omega) (by omega)) hP hS
set_option maxHeartbeats 2000000 in
set_option maxRecDepth 100000 in
theorem law_c26 (C : LC p s m meth c γ a am b L xs i ls cells slots) (I : Inv B so r0 r1 rw re sv sm sq) (hB : B ≤ 13400000) (hP : va_P γ.1 vwCl (wC γ a so r0 r1 r2 rw re tn se sv sk sd ++ wM γ am sm sq) H) (hS : va_S (fun q : Nat => s.heap.size ≤ q) s.heap H locs) (kk : LK p l e s m below meth c γ a am b cells slots ls (B + 26000) Q) : W p l e room_1 s m #[Value.ref b] below meth c H locs cells slots Q (F0 m 1099 ls []) := by
  obtain ⟨C0, hX, hbl, hD, hl, hi, hR1⟩ := C
  obtain ⟨hx, hb, hml, hown, hts, -, -, hK, hE, hA⟩ := id C0
  have hbA : ¬ (fun q : Nat => s.heap.size ≤ q) b := Nat.not_le.mpr hbl
  obtain ⟨X, hf, Y, hg, hR⟩ := sim_fits I (xs (nI i + 1).toNatClampNeg)
  obtain ⟨rv, so1⟩ := X
  obtain ⟨rv7, sm1⟩ := Y
  have he : rv = rv7 := hR.1
  have hI : Inv B so1 r0 r1 rw re sv sm1 sq := hR.2
  refine lv_aload_n hx hb dL_law_1099 rfl (lv_at hl 1 rfl) ?_
  refine law_rd (k := 1) (lv := [(0, .ref b), (1, .ref (a 0 0)), (2, .ref (am 0)), (3, .int (nI i))]) hx hb hl hX hbl hbA hS (law_in 1 hi.1 hi.2 (by decide)) rfl rfl dL_law_1100 dL_law_1101 dL_law_1102 dL_law_1103 dL_law_1104 (by decide) ?_
  refine kt_VG (As := [.int (xs (nI i + 1).toNatClampNeg)]) (rest := []) (st1 := [.int rv]) (b := a 0 0) (wc' := wC γ a so1 r0 r1 r2 rw re tn se sv sk sd ++ wM γ am sm sq) C0 (c_X6_fits l γ a hf) (cxV (nA := 1) hts goodU0 U812 U813 U814 U84 U815 (by decide +kernel) ⟨Nat.le_of_ble_eq_true rfl, Nat.le_of_ble_eq_true rfl⟩) hP (hD _ _ _ _ _ _ _ _ _ _ _ _ _) hS hl dL_law_1105 hR1 focA1 0 6 rfl rfl rfl rfl (Nat.le_of_ble_eq_true rfl) rfl rfl (fun H locs hP hS => ?_)
  refine lv_aload_n hx hb dL_law_1108 rfl (lv_at hl 2 rfl) ?_
  refine law_rd (k := 1) (lv := [(0, .ref b), (1, .ref (a 0 0)), (2, .ref (am 0)), (3, .int (nI i))]) hx hb hl hX hbl hbA hS (law_in 1 hi.1 hi.2 (by decide)) rfl rfl dL_law_1109 dL_law_1110 dL_law_1111 dL_law_1112 dL_law_1113 (by decide) ?_
  refine kt_VG (As := [.int (xs (nI i + 1).toNatClampNeg)]) (rest := [.int rv]) (st1 := [.int rv7, .int rv]) (b := am 0) (wc' := wC γ a so1 r0 r1 r2 rw re tn se sv sk sd ++ wM γ am sm1 sq) C0 (c_X7_fits l γ am hg) (cxV (nA := 1) hts goodU0 U1368 U1369 U1370 U91 U1371 (by decide +kernel) ⟨Nat.le_of_ble_eq_true rfl, Nat.le_of_ble_eq_true rfl⟩) hP (hD _ _ _ _ _ _ _ _ _ _ _ _ _) hS hl dL_law_1114 hR1 focA2 0 7 rfl rfl rfl rfl (Nat.le_of_ble_eq_true rfl) rfl rfl (fun H locs hP hS => ?_)
  refine lv_icmp_eq (tgt := 1563) hx hb dL_law_1117 (by decide) (fun _ => ?_) (fun h9 => absurd he h9)
  exact kk _ _ _ _ _ _ _ _ _ _ _ _ _ _ _ (Inv_mono hI (by omega) (by omega)) hP hS
set_option maxHeartbeats 2000000 in
set_option maxRecDepth 100000 in
theorem law_c27 (C : LC p s m meth c γ a am b L xs i ls cells slots) (I : Inv B so r0 r1 rw re sv sm sq) (hB : B ≤ 13400000) (hP : va_P γ.1 vwCl (wC γ a so r0 r1 r2 rw re tn se sv sk sd ++ wM γ am sm sq) H) (hS : va_S (fun q : Nat => s.heap.size ≤ q) s.heap H locs) (kk : LK p l e s m below meth c γ a am b cells slots ls (B + 26000) Q) : W p l e room_1 s m #[Value.ref b] below meth c H locs cells slots Q (F0 m 1122 ls []) := by
  obtain ⟨C0, hX, hbl, hD, hl, hi, hR1⟩ := C
  obtain ⟨hx, hb, hml, hown, hts, -, -, hK, hE, hA⟩ := id C0
  have hbA : ¬ (fun q : Nat => s.heap.size ≤ q) b := Nat.not_le.mpr hbl
  obtain ⟨X, hf, Y, hg, hR⟩ := sim_fires I (xs (nI i + 1).toNatClampNeg)
  obtain ⟨rv, so1⟩ := X
  obtain ⟨rv7, sm1⟩ := Y
  have he : rv = rv7 := hR.1
  have hI : Inv B so1 r0 r1 rw re sv sm1 sq := hR.2
  refine lv_aload_n hx hb dL_law_1122 rfl (lv_at hl 1 rfl) ?_
  refine law_rd (k := 1) (lv := [(0, .ref b), (1, .ref (a 0 0)), (2, .ref (am 0)), (3, .int (nI i))]) hx hb hl hX hbl hbA hS (law_in 1 hi.1 hi.2 (by decide)) rfl rfl dL_law_1123 dL_law_1124 dL_law_1125 dL_law_1126 dL_law_1127 (by decide) ?_
  refine kt_VG (As := [.int (xs (nI i + 1).toNatClampNeg)]) (rest := []) (st1 := [.int rv]) (b := a 0 0) (wc' := wC γ a so1 r0 r1 r2 rw re tn se sv sk sd ++ wM γ am sm sq) C0 (c_X6_fires l γ a hf) (cxV (nA := 1) hts goodU0 U822 U823 U824 U84 U825 (by decide +kernel) ⟨Nat.le_of_ble_eq_true rfl, Nat.le_of_ble_eq_true rfl⟩) hP (hD _ _ _ _ _ _ _ _ _ _ _ _ _) hS hl dL_law_1128 hR1 focA1 0 6 rfl rfl rfl rfl (Nat.le_of_ble_eq_true rfl) rfl rfl (fun H locs hP hS => ?_)
  refine lv_aload_n hx hb dL_law_1131 rfl (lv_at hl 2 rfl) ?_
  refine law_rd (k := 1) (lv := [(0, .ref b), (1, .ref (a 0 0)), (2, .ref (am 0)), (3, .int (nI i))]) hx hb hl hX hbl hbA hS (law_in 1 hi.1 hi.2 (by decide)) rfl rfl dL_law_1132 dL_law_1133 dL_law_1134 dL_law_1135 dL_law_1136 (by decide) ?_
  refine kt_VG (As := [.int (xs (nI i + 1).toNatClampNeg)]) (rest := [.int rv]) (st1 := [.int rv7, .int rv]) (b := am 0) (wc' := wC γ a so1 r0 r1 r2 rw re tn se sv sk sd ++ wM γ am sm1 sq) C0 (c_X7_fires l γ am hg) (cxV (nA := 1) hts goodU0 U1376 U1377 U1378 U91 U1379 (by decide +kernel) ⟨Nat.le_of_ble_eq_true rfl, Nat.le_of_ble_eq_true rfl⟩) hP (hD _ _ _ _ _ _ _ _ _ _ _ _ _) hS hl dL_law_1137 hR1 focA2 0 7 rfl rfl rfl rfl (Nat.le_of_ble_eq_true rfl) rfl rfl (fun H locs hP hS => ?_)
  refine lv_icmp_eq (tgt := 1563) hx hb dL_law_1140 (by decide) (fun _ => ?_) (fun h9 => absurd he h9)
  exact kk _ _ _ _ _ _ _ _ _ _ _ _ _ _ _ (Inv_mono hI (by omega) (by omega)) hP hS
set_option maxHeartbeats 2000000 in
set_option maxRecDepth 100000 in
theorem law_c28 (C : LC p s m meth c γ a am b L xs i ls cells slots) (I : Inv B so r0 r1 rw re sv sm sq) (hB : B ≤ 13400000) (hP : va_P γ.1 vwCl (wC γ a so r0 r1 r2 rw re tn se sv sk sd ++ wM γ am sm sq) H) (hS : va_S (fun q : Nat => s.heap.size ≤ q) s.heap H locs) (kk : LK p l e s m below meth c γ a am b cells slots ls (B + 26000) Q) : W p l e room_1 s m #[Value.ref b] below meth c H locs cells slots Q (F0 m 1145 ls []) := by
  obtain ⟨C0, hX, hbl, hD, hl, hi, hR1⟩ := C
  obtain ⟨hx, hb, hml, hown, hts, -, -, hK, hE, hA⟩ := id C0
  have hbA : ¬ (fun q : Nat => s.heap.size ≤ q) b := Nat.not_le.mpr hbl
  obtain ⟨X, hf, Y, hg, hR⟩ := sim_send I 
  obtain ⟨rv, erv⟩ : ∃ q, q = X := ⟨X, rfl⟩
  rw [← erv] at hf hR
  obtain ⟨rv7, erv7⟩ : ∃ q, q = Y := ⟨Y, rfl⟩
  rw [← erv7] at hg hR
  have he : rv = rv7 := hR
  have hI : Inv B so r0 r1 rw re sv sm sq := I
  refine lv_aload_n hx hb dL_law_1145 rfl (lv_at hl 1 rfl) ?_
  refine kt_VG (As := []) (rest := []) (st1 := [.int rv]) (b := a 0 0) (wc' := wC γ a so r0 r1 r2 rw re tn se sv sk sd ++ wM γ am sm sq) C0 (c_X6_send l γ a hf) (cxV (nA := 0) hts goodU0 U830 U831 U832 U84 U833 (by decide +kernel) ⟨Nat.le_of_ble_eq_true rfl, Nat.le_of_ble_eq_true rfl⟩) hP (hD _ _ _ _ _ _ _ _ _ _ _ _ _) hS hl dL_law_1146 hR1 focA1 0 6 rfl rfl rfl rfl (Nat.le_of_ble_eq_true rfl) rfl rfl (fun H locs hP hS => ?_)
  refine lv_aload_n hx hb dL_law_1149 rfl (lv_at hl 2 rfl) ?_
  refine kt_VG (As := []) (rest := [.int rv]) (st1 := [.int rv7, .int rv]) (b := am 0) (wc' := wC γ a so r0 r1 r2 rw re tn se sv sk sd ++ wM γ am sm sq) C0 (c_X7_send l γ am hg) (cxV (nA := 0) hts goodU0 U1389 U1390 U1391 U91 U1392 (by decide +kernel) ⟨Nat.le_of_ble_eq_true rfl, Nat.le_of_ble_eq_true rfl⟩) hP (hD _ _ _ _ _ _ _ _ _ _ _ _ _) hS hl dL_law_1150 hR1 focA2 0 7 rfl rfl rfl rfl (Nat.le_of_ble_eq_true rfl) rfl rfl (fun H locs hP hS => ?_)
  refine lv_icmp_eq (tgt := 1563) hx hb dL_law_1153 (by decide) (fun _ => ?_) (fun h9 => absurd he h9)
  exact kk _ _ _ _ _ _ _ _ _ _ _ _ _ _ _ (Inv_mono hI (by omega) (by omega)) hP hS
set_option maxHeartbeats 2000000 in
set_option maxRecDepth 100000 in
theorem law_c29 (C : LC p s m meth c γ a am b L xs i ls cells slots) (I : Inv B so r0 r1 rw re sv sm sq) (hB : B ≤ 13400000) (hP : va_P γ.1 vwCl (wC γ a so r0 r1 r2 rw re tn se sv sk sd ++ wM γ am sm sq) H) (hS : va_S (fun q : Nat => s.heap.size ≤ q) s.heap H locs) (kk : LK p l e s m below meth c γ a am b cells slots ls (B + 26000) Q) : W p l e room_1 s m #[Value.ref b] below meth c H locs cells slots Q (F0 m 1158 ls []) := by
  obtain ⟨C0, hX, hbl, hD, hl, hi, hR1⟩ := C
  obtain ⟨hx, hb, hml, hown, hts, -, -, hK, hE, hA⟩ := id C0
  have hbA : ¬ (fun q : Nat => s.heap.size ≤ q) b := Nat.not_le.mpr hbl
  obtain ⟨X, hf, Y, hg, hR⟩ := sim_chain I (xs (nI i + 1).toNatClampNeg) (xs (nI i + 2).toNatClampNeg)
  obtain ⟨rv, so1⟩ := X
  obtain ⟨rv7, sm1⟩ := Y
  have he : rv = rv7 := hR.1
  have hI : Inv B so1 r0 r1 rw re sv sm1 sq := hR.2
  refine lv_aload_n hx hb dL_law_1158 rfl (lv_at hl 1 rfl) ?_
  refine law_rd (k := 1) (lv := [(0, .ref b), (1, .ref (a 0 0)), (2, .ref (am 0)), (3, .int (nI i))]) hx hb hl hX hbl hbA hS (law_in 1 hi.1 hi.2 (by decide)) rfl rfl dL_law_1159 dL_law_1160 dL_law_1161 dL_law_1162 dL_law_1163 (by decide) ?_
  refine law_rd (k := 2) (lv := [(0, .ref b), (1, .ref (a 0 0)), (2, .ref (am 0)), (3, .int (nI i))]) hx hb hl hX hbl hbA hS (law_in 2 hi.1 hi.2 (by decide)) rfl rfl dL_law_1164 dL_law_1165 dL_law_1166 dL_law_1167 dL_law_1168 (by decide) ?_
  refine kt_VG (As := [.int (xs (nI i + 1).toNatClampNeg), .int (xs (nI i + 2).toNatClampNeg)]) (rest := []) (st1 := [.int rv]) (b := a 0 0) (wc' := wC γ a so1 r0 r1 r2 rw re tn se sv sk sd ++ wM γ am sm sq) C0 (c_X6_chain l γ a hf) (cxV (nA := 2) hts goodU0 U838 U839 U840 U84 U841 (by decide +kernel) ⟨Nat.le_of_ble_eq_true rfl, Nat.le_of_ble_eq_true rfl⟩) hP (hD _ _ _ _ _ _ _ _ _ _ _ _ _) hS hl dL_law_1169 hR1 focA1 0 6 rfl rfl rfl rfl (Nat.le_of_ble_eq_true rfl) rfl rfl (fun H locs hP hS => ?_)
  refine lv_aload_n hx hb dL_law_1172 rfl (lv_at hl 2 rfl) ?_
  refine law_rd (k := 1) (lv := [(0, .ref b), (1, .ref (a 0 0)), (2, .ref (am 0)), (3, .int (nI i))]) hx hb hl hX hbl hbA hS (law_in 1 hi.1 hi.2 (by decide)) rfl rfl dL_law_1173 dL_law_1174 dL_law_1175 dL_law_1176 dL_law_1177 (by decide) ?_
  refine law_rd (k := 2) (lv := [(0, .ref b), (1, .ref (a 0 0)), (2, .ref (am 0)), (3, .int (nI i))]) hx hb hl hX hbl hbA hS (law_in 2 hi.1 hi.2 (by decide)) rfl rfl dL_law_1178 dL_law_1179 dL_law_1180 dL_law_1181 dL_law_1182 (by decide) ?_
  refine kt_VG (As := [.int (xs (nI i + 1).toNatClampNeg), .int (xs (nI i + 2).toNatClampNeg)]) (rest := [.int rv]) (st1 := [.int rv7, .int rv]) (b := am 0) (wc' := wC γ a so1 r0 r1 r2 rw re tn se sv sk sd ++ wM γ am sm1 sq) C0 (c_X7_chain l γ am hg) (cxV (nA := 2) hts goodU0 U1397 U1398 U1399 U91 U1400 (by decide +kernel) ⟨Nat.le_of_ble_eq_true rfl, Nat.le_of_ble_eq_true rfl⟩) hP (hD _ _ _ _ _ _ _ _ _ _ _ _ _) hS hl dL_law_1183 hR1 focA2 0 7 rfl rfl rfl rfl (Nat.le_of_ble_eq_true rfl) rfl rfl (fun H locs hP hS => ?_)
  refine lv_icmp_eq (tgt := 1563) hx hb dL_law_1186 (by decide) (fun _ => ?_) (fun h9 => absurd he h9)
  exact kk _ _ _ _ _ _ _ _ _ _ _ _ _ _ _ (Inv_mono hI (by omega) (by omega)) hP hS
set_option maxHeartbeats 2000000 in
set_option maxRecDepth 100000 in
theorem law_c30 (C : LC p s m meth c γ a am b L xs i ls cells slots) (I : Inv B so r0 r1 rw re sv sm sq) (hB : B ≤ 13400000) (hP : va_P γ.1 vwCl (wC γ a so r0 r1 r2 rw re tn se sv sk sd ++ wM γ am sm sq) H) (hS : va_S (fun q : Nat => s.heap.size ≤ q) s.heap H locs) (kk : LK p l e s m below meth c γ a am b cells slots ls (B + 26000) Q) : W p l e room_1 s m #[Value.ref b] below meth c H locs cells slots Q (F0 m 1191 ls []) := by
  obtain ⟨C0, hX, hbl, hD, hl, hi, hR1⟩ := C
  obtain ⟨hx, hb, hml, hown, hts, -, -, hK, hE, hA⟩ := id C0
  have hbA : ¬ (fun q : Nat => s.heap.size ≤ q) b := Nat.not_le.mpr hbl
  obtain ⟨X, hf, Y, hg, hR⟩ := sim_lacks I (by omega) sk (xs (nI i + 1).toNatClampNeg)
  obtain ⟨rv, so1, sk1⟩ := X
  obtain ⟨rv7, sm1⟩ := Y
  have he : rv = rv7 := hR.1
  have hI : Inv B so1 r0 r1 rw re sv sm1 sq := hR.2
  refine lv_aload_n hx hb dL_law_1191 rfl (lv_at hl 1 rfl) ?_
  refine law_rd (k := 1) (lv := [(0, .ref b), (1, .ref (a 0 0)), (2, .ref (am 0)), (3, .int (nI i))]) hx hb hl hX hbl hbA hS (law_in 1 hi.1 hi.2 (by decide)) rfl rfl dL_law_1192 dL_law_1193 dL_law_1194 dL_law_1195 dL_law_1196 (by decide) ?_
  refine kt_VG (As := [.int (xs (nI i + 1).toNatClampNeg)]) (rest := []) (st1 := [.int rv]) (b := a 0 0) (wc' := wC γ a so1 r0 r1 r2 rw re tn se sv sk1 sd ++ wM γ am sm sq) C0 (c_X6_lacks l γ a hf) (cxV (nA := 1) hts goodU0 U842 U843 U844 U84 U845 (by decide +kernel) ⟨Nat.le_of_ble_eq_true rfl, Nat.le_of_ble_eq_true rfl⟩) hP (hD _ _ _ _ _ _ _ _ _ _ _ _ _) hS hl dL_law_1197 hR1 focA1 0 6 rfl rfl rfl rfl (Nat.le_of_ble_eq_true rfl) rfl rfl (fun H locs hP hS => ?_)
  refine lv_aload_n hx hb dL_law_1200 rfl (lv_at hl 2 rfl) ?_
  refine law_rd (k := 1) (lv := [(0, .ref b), (1, .ref (a 0 0)), (2, .ref (am 0)), (3, .int (nI i))]) hx hb hl hX hbl hbA hS (law_in 1 hi.1 hi.2 (by decide)) rfl rfl dL_law_1201 dL_law_1202 dL_law_1203 dL_law_1204 dL_law_1205 (by decide) ?_
  refine kt_VG (As := [.int (xs (nI i + 1).toNatClampNeg)]) (rest := [.int rv]) (st1 := [.int rv7, .int rv]) (b := am 0) (wc' := wC γ a so1 r0 r1 r2 rw re tn se sv sk1 sd ++ wM γ am sm1 sq) C0 (c_X7_lacks l γ am hg) (cxV (nA := 1) hts goodU0 U1401 U1402 U1403 U91 U1404 (by decide +kernel) ⟨Nat.le_of_ble_eq_true rfl, Nat.le_of_ble_eq_true rfl⟩) hP (hD _ _ _ _ _ _ _ _ _ _ _ _ _) hS hl dL_law_1206 hR1 focA2 0 7 rfl rfl rfl rfl (Nat.le_of_ble_eq_true rfl) rfl rfl (fun H locs hP hS => ?_)
  refine lv_icmp_eq (tgt := 1563) hx hb dL_law_1209 (by decide) (fun _ => ?_) (fun h9 => absurd he h9)
  exact kk _ _ _ _ _ _ _ _ _ _ _ _ _ _ _ (Inv_mono hI (by omega) (by omega)) hP hS
set_option maxHeartbeats 2000000 in
set_option maxRecDepth 100000 in
theorem law_c31 (C : LC p s m meth c γ a am b L xs i ls cells slots) (I : Inv B so r0 r1 rw re sv sm sq) (hB : B ≤ 13400000) (hP : va_P γ.1 vwCl (wC γ a so r0 r1 r2 rw re tn se sv sk sd ++ wM γ am sm sq) H) (hS : va_S (fun q : Nat => s.heap.size ≤ q) s.heap H locs) (kk : LK p l e s m below meth c γ a am b cells slots ls (B + 26000) Q) : W p l e room_1 s m #[Value.ref b] below meth c H locs cells slots Q (F0 m 1214 ls []) := by
  obtain ⟨C0, hX, hbl, hD, hl, hi, hR1⟩ := C
  obtain ⟨hx, hb, hml, hown, hts, -, -, hK, hE, hA⟩ := id C0
  have hbA : ¬ (fun q : Nat => s.heap.size ≤ q) b := Nat.not_le.mpr hbl
  obtain ⟨X, hf, Y, hg, hR⟩ := sim_spared I (by omega) (xs (nI i + 1).toNatClampNeg) (xs (nI i + 2).toNatClampNeg)
  obtain ⟨rv, so1⟩ := X
  obtain ⟨rv7, sm1⟩ := Y
  have he : rv = rv7 := hR.1
  have hI : Inv B so1 r0 r1 rw re sv sm1 sq := hR.2
  refine lv_aload_n hx hb dL_law_1214 rfl (lv_at hl 1 rfl) ?_
  refine law_rd (k := 1) (lv := [(0, .ref b), (1, .ref (a 0 0)), (2, .ref (am 0)), (3, .int (nI i))]) hx hb hl hX hbl hbA hS (law_in 1 hi.1 hi.2 (by decide)) rfl rfl dL_law_1215 dL_law_1216 dL_law_1217 dL_law_1218 dL_law_1219 (by decide) ?_
  refine law_rd (k := 2) (lv := [(0, .ref b), (1, .ref (a 0 0)), (2, .ref (am 0)), (3, .int (nI i))]) hx hb hl hX hbl hbA hS (law_in 2 hi.1 hi.2 (by decide)) rfl rfl dL_law_1220 dL_law_1221 dL_law_1222 dL_law_1223 dL_law_1224 (by decide) ?_
  refine kt_VG (As := [.int (xs (nI i + 1).toNatClampNeg), .int (xs (nI i + 2).toNatClampNeg)]) (rest := []) (st1 := [.int rv]) (b := a 0 0) (wc' := wC γ a so1 r0 r1 r2 rw re tn se sv sk sd ++ wM γ am sm sq) C0 (c_X6_spared l γ a hf) (cxV (nA := 2) hts goodU0 U860 U861 U862 U84 U863 (by decide +kernel) ⟨Nat.le_of_ble_eq_true rfl, Nat.le_of_ble_eq_true rfl⟩) hP (hD _ _ _ _ _ _ _ _ _ _ _ _ _) hS hl dL_law_1225 hR1 focA1 0 6 rfl rfl rfl rfl (Nat.le_of_ble_eq_true rfl) rfl rfl (fun H locs hP hS => ?_)
  refine lv_aload_n hx hb dL_law_1228 rfl (lv_at hl 2 rfl) ?_
  refine law_rd (k := 1) (lv := [(0, .ref b), (1, .ref (a 0 0)), (2, .ref (am 0)), (3, .int (nI i))]) hx hb hl hX hbl hbA hS (law_in 1 hi.1 hi.2 (by decide)) rfl rfl dL_law_1229 dL_law_1230 dL_law_1231 dL_law_1232 dL_law_1233 (by decide) ?_
  refine law_rd (k := 2) (lv := [(0, .ref b), (1, .ref (a 0 0)), (2, .ref (am 0)), (3, .int (nI i))]) hx hb hl hX hbl hbA hS (law_in 2 hi.1 hi.2 (by decide)) rfl rfl dL_law_1234 dL_law_1235 dL_law_1236 dL_law_1237 dL_law_1238 (by decide) ?_
  refine kt_VG (As := [.int (xs (nI i + 1).toNatClampNeg), .int (xs (nI i + 2).toNatClampNeg)]) (rest := [.int rv]) (st1 := [.int rv7, .int rv]) (b := am 0) (wc' := wC γ a so1 r0 r1 r2 rw re tn se sv sk sd ++ wM γ am sm1 sq) C0 (c_X7_spared l γ am hg) (cxV (nA := 2) hts goodU0 U1413 U1414 U1415 U91 U1416 (by decide +kernel) ⟨Nat.le_of_ble_eq_true rfl, Nat.le_of_ble_eq_true rfl⟩) hP (hD _ _ _ _ _ _ _ _ _ _ _ _ _) hS hl dL_law_1239 hR1 focA2 0 7 rfl rfl rfl rfl (Nat.le_of_ble_eq_true rfl) rfl rfl (fun H locs hP hS => ?_)
  refine lv_icmp_eq (tgt := 1563) hx hb dL_law_1242 (by decide) (fun _ => ?_) (fun h9 => absurd he h9)
  exact kk _ _ _ _ _ _ _ _ _ _ _ _ _ _ _ (Inv_mono hI (by omega) (by omega)) hP hS
set_option maxHeartbeats 2000000 in
set_option maxRecDepth 100000 in
theorem law_c32 (C : LC p s m meth c γ a am b L xs i ls cells slots) (I : Inv B so r0 r1 rw re sv sm sq) (hB : B ≤ 13400000) (hP : va_P γ.1 vwCl (wC γ a so r0 r1 r2 rw re tn se sv sk sd ++ wM γ am sm sq) H) (hS : va_S (fun q : Nat => s.heap.size ≤ q) s.heap H locs) (kk : LK p l e s m below meth c γ a am b cells slots ls (B + 26000) Q) : W p l e room_1 s m #[Value.ref b] below meth c H locs cells slots Q (F0 m 1247 ls []) := by
  obtain ⟨C0, hX, hbl, hD, hl, hi, hR1⟩ := C
  obtain ⟨hx, hb, hml, hown, hts, -, -, hK, hE, hA⟩ := id C0
  have hbA : ¬ (fun q : Nat => s.heap.size ≤ q) b := Nat.not_le.mpr hbl
  obtain ⟨X, hf, Y, hg, hR⟩ := sim_judge I (by omega) (xs (nI i + 1).toNatClampNeg) (xs (nI i + 2).toNatClampNeg)
  obtain ⟨rv, so1⟩ := X
  obtain ⟨rv7, sm1⟩ := Y
  have he : rv = rv7 := hR.1
  have hI : Inv B so1 r0 r1 rw re sv sm1 sq := hR.2
  refine lv_aload_n hx hb dL_law_1247 rfl (lv_at hl 1 rfl) ?_
  refine law_rd (k := 1) (lv := [(0, .ref b), (1, .ref (a 0 0)), (2, .ref (am 0)), (3, .int (nI i))]) hx hb hl hX hbl hbA hS (law_in 1 hi.1 hi.2 (by decide)) rfl rfl dL_law_1248 dL_law_1249 dL_law_1250 dL_law_1251 dL_law_1252 (by decide) ?_
  refine law_rd (k := 2) (lv := [(0, .ref b), (1, .ref (a 0 0)), (2, .ref (am 0)), (3, .int (nI i))]) hx hb hl hX hbl hbA hS (law_in 2 hi.1 hi.2 (by decide)) rfl rfl dL_law_1253 dL_law_1254 dL_law_1255 dL_law_1256 dL_law_1257 (by decide) ?_
  refine kt_VG (As := [.int (xs (nI i + 1).toNatClampNeg), .int (xs (nI i + 2).toNatClampNeg)]) (rest := []) (st1 := [.int rv]) (b := a 0 0) (wc' := wC γ a so1 r0 r1 r2 rw re tn se sv sk sd ++ wM γ am sm sq) C0 (c_X6_judge l γ a hf) (cxV (nA := 2) hts goodU0 U864 U865 U866 U84 U867 (by decide +kernel) ⟨Nat.le_of_ble_eq_true rfl, Nat.le_of_ble_eq_true rfl⟩) hP (hD _ _ _ _ _ _ _ _ _ _ _ _ _) hS hl dL_law_1258 hR1 focA1 0 6 rfl rfl rfl rfl (Nat.le_of_ble_eq_true rfl) rfl rfl (fun H locs hP hS => ?_)
  refine lv_aload_n hx hb dL_law_1261 rfl (lv_at hl 2 rfl) ?_
  refine law_rd (k := 1) (lv := [(0, .ref b), (1, .ref (a 0 0)), (2, .ref (am 0)), (3, .int (nI i))]) hx hb hl hX hbl hbA hS (law_in 1 hi.1 hi.2 (by decide)) rfl rfl dL_law_1262 dL_law_1263 dL_law_1264 dL_law_1265 dL_law_1266 (by decide) ?_
  refine law_rd (k := 2) (lv := [(0, .ref b), (1, .ref (a 0 0)), (2, .ref (am 0)), (3, .int (nI i))]) hx hb hl hX hbl hbA hS (law_in 2 hi.1 hi.2 (by decide)) rfl rfl dL_law_1267 dL_law_1268 dL_law_1269 dL_law_1270 dL_law_1271 (by decide) ?_
  refine kt_VG (As := [.int (xs (nI i + 1).toNatClampNeg), .int (xs (nI i + 2).toNatClampNeg)]) (rest := [.int rv]) (st1 := [.int rv7, .int rv]) (b := am 0) (wc' := wC γ a so1 r0 r1 r2 rw re tn se sv sk sd ++ wM γ am sm1 sq) C0 (c_X7_judge l γ am hg) (cxV (nA := 2) hts goodU0 U1417 U1418 U1419 U91 U1420 (by decide +kernel) ⟨Nat.le_of_ble_eq_true rfl, Nat.le_of_ble_eq_true rfl⟩) hP (hD _ _ _ _ _ _ _ _ _ _ _ _ _) hS hl dL_law_1272 hR1 focA2 0 7 rfl rfl rfl rfl (Nat.le_of_ble_eq_true rfl) rfl rfl (fun H locs hP hS => ?_)
  refine lv_icmp_eq (tgt := 1563) hx hb dL_law_1275 (by decide) (fun _ => ?_) (fun h9 => absurd he h9)
  exact kk _ _ _ _ _ _ _ _ _ _ _ _ _ _ _ (Inv_mono hI (by omega) (by omega)) hP hS
set_option maxHeartbeats 2000000 in
set_option maxRecDepth 100000 in
theorem law_c33 (C : LC p s m meth c γ a am b L xs i ls cells slots) (I : Inv B so r0 r1 rw re sv sm sq) (hB : B ≤ 13400000) (hP : va_P γ.1 vwCl (wC γ a so r0 r1 r2 rw re tn se sv sk sd ++ wM γ am sm sq) H) (hS : va_S (fun q : Nat => s.heap.size ≤ q) s.heap H locs) (kk : LK p l e s m below meth c γ a am b cells slots ls (B + 26000) Q) : W p l e room_1 s m #[Value.ref b] below meth c H locs cells slots Q (F0 m 1280 ls []) := by
  obtain ⟨C0, hX, hbl, hD, hl, hi, hR1⟩ := C
  obtain ⟨hx, hb, hml, hown, hts, -, -, hK, hE, hA⟩ := id C0
  have hbA : ¬ (fun q : Nat => s.heap.size ≤ q) b := Nat.not_le.mpr hbl
  obtain ⟨X, hf, Y, hg, hR⟩ := sim_told (r2 := r2) I (by omega) (xs (nI i + 1).toNatClampNeg) (xs (nI i + 2).toNatClampNeg) (xs (nI i + 3).toNatClampNeg)
  obtain ⟨rv, so1, r21⟩ := X
  obtain ⟨rv7, sm1⟩ := Y
  have he : rv = rv7 := hR.1
  have hI : Inv B so1 r0 r1 rw re sv sm1 sq := hR.2
  refine lv_aload_n hx hb dL_law_1280 rfl (lv_at hl 1 rfl) ?_
  refine law_rd (k := 1) (lv := [(0, .ref b), (1, .ref (a 0 0)), (2, .ref (am 0)), (3, .int (nI i))]) hx hb hl hX hbl hbA hS (law_in 1 hi.1 hi.2 (by decide)) rfl rfl dL_law_1281 dL_law_1282 dL_law_1283 dL_law_1284 dL_law_1285 (by decide) ?_
  refine law_rd (k := 2) (lv := [(0, .ref b), (1, .ref (a 0 0)), (2, .ref (am 0)), (3, .int (nI i))]) hx hb hl hX hbl hbA hS (law_in 2 hi.1 hi.2 (by decide)) rfl rfl dL_law_1286 dL_law_1287 dL_law_1288 dL_law_1289 dL_law_1290 (by decide) ?_
  refine law_rd (k := 3) (lv := [(0, .ref b), (1, .ref (a 0 0)), (2, .ref (am 0)), (3, .int (nI i))]) hx hb hl hX hbl hbA hS (law_in 3 hi.1 hi.2 (by decide)) rfl rfl dL_law_1291 dL_law_1292 dL_law_1293 dL_law_1294 dL_law_1295 (by decide) ?_
  refine kt_VG (As := [.int (xs (nI i + 1).toNatClampNeg), .int (xs (nI i + 2).toNatClampNeg), .int (xs (nI i + 3).toNatClampNeg)]) (rest := []) (st1 := [.int rv]) (b := a 0 0) (wc' := wC γ a so1 r0 r1 r21 rw re tn se sv sk sd ++ wM γ am sm sq) C0 (c_X6_told l γ a hf) (cxV (nA := 3) hts goodU0 U876 U877 U878 U84 U879 (by decide +kernel) ⟨Nat.le_of_ble_eq_true rfl, Nat.le_of_ble_eq_true rfl⟩) hP (hD _ _ _ _ _ _ _ _ _ _ _ _ _) hS hl dL_law_1296 hR1 focA1 0 6 rfl rfl rfl rfl (Nat.le_of_ble_eq_true rfl) rfl rfl (fun H locs hP hS => ?_)
  refine lv_aload_n hx hb dL_law_1299 rfl (lv_at hl 2 rfl) ?_
  refine law_rd (k := 1) (lv := [(0, .ref b), (1, .ref (a 0 0)), (2, .ref (am 0)), (3, .int (nI i))]) hx hb hl hX hbl hbA hS (law_in 1 hi.1 hi.2 (by decide)) rfl rfl dL_law_1300 dL_law_1301 dL_law_1302 dL_law_1303 dL_law_1304 (by decide) ?_
  refine law_rd (k := 2) (lv := [(0, .ref b), (1, .ref (a 0 0)), (2, .ref (am 0)), (3, .int (nI i))]) hx hb hl hX hbl hbA hS (law_in 2 hi.1 hi.2 (by decide)) rfl rfl dL_law_1305 dL_law_1306 dL_law_1307 dL_law_1308 dL_law_1309 (by decide) ?_
  refine law_rd (k := 3) (lv := [(0, .ref b), (1, .ref (a 0 0)), (2, .ref (am 0)), (3, .int (nI i))]) hx hb hl hX hbl hbA hS (law_in 3 hi.1 hi.2 (by decide)) rfl rfl dL_law_1310 dL_law_1311 dL_law_1312 dL_law_1313 dL_law_1314 (by decide) ?_
  refine kt_VG (As := [.int (xs (nI i + 1).toNatClampNeg), .int (xs (nI i + 2).toNatClampNeg), .int (xs (nI i + 3).toNatClampNeg)]) (rest := [.int rv]) (st1 := [.int rv7, .int rv]) (b := am 0) (wc' := wC γ a so1 r0 r1 r21 rw re tn se sv sk sd ++ wM γ am sm1 sq) C0 (c_X7_told_ l γ am hg) (cxV (nA := 3) hts goodU0 U1429 U1430 U1431 U91 U1432 (by decide +kernel) ⟨Nat.le_of_ble_eq_true rfl, Nat.le_of_ble_eq_true rfl⟩) hP (hD _ _ _ _ _ _ _ _ _ _ _ _ _) hS hl dL_law_1315 hR1 focA2 0 7 rfl rfl rfl rfl (Nat.le_of_ble_eq_true rfl) rfl rfl (fun H locs hP hS => ?_)
  refine lv_icmp_eq (tgt := 1563) hx hb dL_law_1318 (by decide) (fun _ => ?_) (fun h9 => absurd he h9)
  exact kk _ _ _ _ _ _ _ _ _ _ _ _ _ _ _ (Inv_mono hI (by omega) (by omega)) hP hS
set_option maxHeartbeats 2000000 in
set_option maxRecDepth 100000 in
theorem law_c34 (C : LC p s m meth c γ a am b L xs i ls cells slots) (I : Inv B so r0 r1 rw re sv sm sq) (hB : B ≤ 13400000) (hP : va_P γ.1 vwCl (wC γ a so r0 r1 r2 rw re tn se sv sk sd ++ wM γ am sm sq) H) (hS : va_S (fun q : Nat => s.heap.size ≤ q) s.heap H locs) (kk : LK p l e s m below meth c γ a am b cells slots ls (B + 26000) Q) : W p l e room_1 s m #[Value.ref b] below meth c H locs cells slots Q (F0 m 1323 ls []) := by
  obtain ⟨C0, hX, hbl, hD, hl, hi, hR1⟩ := C
  obtain ⟨hx, hb, hml, hown, hts, -, -, hK, hE, hA⟩ := id C0
  have hbA : ¬ (fun q : Nat => s.heap.size ≤ q) b := Nat.not_le.mpr hbl
  obtain ⟨X, hf, Y, hg, hR⟩ := sim_done I (by omega) (xs (nI i + 1).toNatClampNeg) (xs (nI i + 2).toNatClampNeg)
  obtain ⟨rv, so1, r01⟩ := X
  obtain ⟨rv7, sm1⟩ := Y
  have he : rv = rv7 := hR.1
  have hI : Inv (B + 2000) so1 r01 r1 rw re sv sm1 sq := hR.2
  refine lv_aload_n hx hb dL_law_1323 rfl (lv_at hl 1 rfl) ?_
  refine law_rd (k := 1) (lv := [(0, .ref b), (1, .ref (a 0 0)), (2, .ref (am 0)), (3, .int (nI i))]) hx hb hl hX hbl hbA hS (law_in 1 hi.1 hi.2 (by decide)) rfl rfl dL_law_1324 dL_law_1325 dL_law_1326 dL_law_1327 dL_law_1328 (by decide) ?_
  refine law_rd (k := 2) (lv := [(0, .ref b), (1, .ref (a 0 0)), (2, .ref (am 0)), (3, .int (nI i))]) hx hb hl hX hbl hbA hS (law_in 2 hi.1 hi.2 (by decide)) rfl rfl dL_law_1329 dL_law_1330 dL_law_1331 dL_law_1332 dL_law_1333 (by decide) ?_
  refine kt_VG (As := [.int (xs (nI i + 1).toNatClampNeg), .int (xs (nI i + 2).toNatClampNeg)]) (rest := []) (st1 := [.int rv]) (b := a 0 0) (wc' := wC γ a so1 r01 r1 r2 rw re tn se sv sk sd ++ wM γ am sm sq) C0 (c_X6_done l γ a hf) (cxV (nA := 2) hts goodU0 U886 U887 U888 U84 U889 (by decide +kernel) ⟨Nat.le_of_ble_eq_true rfl, Nat.le_of_ble_eq_true rfl⟩) hP (hD _ _ _ _ _ _ _ _ _ _ _ _ _) hS hl dL_law_1334 hR1 focA1 0 6 rfl rfl rfl rfl (Nat.le_of_ble_eq_true rfl) rfl rfl (fun H locs hP hS => ?_)
  refine lv_aload_n hx hb dL_law_1337 rfl (lv_at hl 2 rfl) ?_
  refine law_rd (k := 1) (lv := [(0, .ref b), (1, .ref (a 0 0)), (2, .ref (am 0)), (3, .int (nI i))]) hx hb hl hX hbl hbA hS (law_in 1 hi.1 hi.2 (by decide)) rfl rfl dL_law_1338 dL_law_1339 dL_law_1340 dL_law_1341 dL_law_1342 (by decide) ?_
  refine law_rd (k := 2) (lv := [(0, .ref b), (1, .ref (a 0 0)), (2, .ref (am 0)), (3, .int (nI i))]) hx hb hl hX hbl hbA hS (law_in 2 hi.1 hi.2 (by decide)) rfl rfl dL_law_1343 dL_law_1344 dL_law_1345 dL_law_1346 dL_law_1347 (by decide) ?_
  refine kt_VG (As := [.int (xs (nI i + 1).toNatClampNeg), .int (xs (nI i + 2).toNatClampNeg)]) (rest := [.int rv]) (st1 := [.int rv7, .int rv]) (b := am 0) (wc' := wC γ a so1 r01 r1 r2 rw re tn se sv sk sd ++ wM γ am sm1 sq) C0 (c_X7_done l γ am hg) (cxV (nA := 2) hts goodU0 U1433 U1434 U1435 U91 U1436 (by decide +kernel) ⟨Nat.le_of_ble_eq_true rfl, Nat.le_of_ble_eq_true rfl⟩) hP (hD _ _ _ _ _ _ _ _ _ _ _ _ _) hS hl dL_law_1348 hR1 focA2 0 7 rfl rfl rfl rfl (Nat.le_of_ble_eq_true rfl) rfl rfl (fun H locs hP hS => ?_)
  refine lv_icmp_eq (tgt := 1563) hx hb dL_law_1351 (by decide) (fun _ => ?_) (fun h9 => absurd he h9)
  exact kk _ _ _ _ _ _ _ _ _ _ _ _ _ _ _ (Inv_mono hI (by omega) (by omega)) hP hS
set_option maxHeartbeats 2000000 in
set_option maxRecDepth 100000 in
theorem law_c35 (C : LC p s m meth c γ a am b L xs i ls cells slots) (I : Inv B so r0 r1 rw re sv sm sq) (hB : B ≤ 13400000) (hP : va_P γ.1 vwCl (wC γ a so r0 r1 r2 rw re tn se sv sk sd ++ wM γ am sm sq) H) (hS : va_S (fun q : Nat => s.heap.size ≤ q) s.heap H locs) (kk : LK p l e s m below meth c γ a am b cells slots ls (B + 26000) Q) : W p l e room_1 s m #[Value.ref b] below meth c H locs cells slots Q (F0 m 1356 ls []) := by
  obtain ⟨C0, hX, hbl, hD, hl, hi, hR1⟩ := C
  obtain ⟨hx, hb, hml, hown, hts, -, -, hK, hE, hA⟩ := id C0
  have hbA : ¬ (fun q : Nat => s.heap.size ≤ q) b := Nat.not_le.mpr hbl
  obtain ⟨X, hf, Y, hg, hR⟩ := sim_take I (xs (nI i + 1).toNatClampNeg)
  obtain ⟨rv, so1, r01⟩ := X
  obtain ⟨rv7, sm1⟩ := Y
  have he : rv = rv7 := hR.1
  have hI : Inv B so1 r01 r1 rw re sv sm1 sq := hR.2
  refine lv_aload_n hx hb dL_law_1356 rfl (lv_at hl 1 rfl) ?_
  refine law_rd (k := 1) (lv := [(0, .ref b), (1, .ref (a 0 0)), (2, .ref (am 0)), (3, .int (nI i))]) hx hb hl hX hbl hbA hS (law_in 1 hi.1 hi.2 (by decide)) rfl rfl dL_law_1357 dL_law_1358 dL_law_1359 dL_law_1360 dL_law_1361 (by decide) ?_
  refine kt_VG (As := [.int (xs (nI i + 1).toNatClampNeg)]) (rest := []) (st1 := [.int rv]) (b := a 0 0) (wc' := wC γ a so1 r01 r1 r2 rw re tn se sv sk sd ++ wM γ am sm sq) C0 (c_X6_take l γ a hf) (cxV (nA := 1) hts goodU0 U890 U891 U892 U84 U893 (by decide +kernel) ⟨Nat.le_of_ble_eq_true rfl, Nat.le_of_ble_eq_true rfl⟩) hP (hD _ _ _ _ _ _ _ _ _ _ _ _ _) hS hl dL_law_1362 hR1 focA1 0 6 rfl rfl rfl rfl (Nat.le_of_ble_eq_true rfl) rfl rfl (fun H locs hP hS => ?_)
  refine lv_aload_n hx hb dL_law_1365 rfl (lv_at hl 2 rfl) ?_
  refine law_rd (k := 1) (lv := [(0, .ref b), (1, .ref (a 0 0)), (2, .ref (am 0)), (3, .int (nI i))]) hx hb hl hX hbl hbA hS (law_in 1 hi.1 hi.2 (by decide)) rfl rfl dL_law_1366 dL_law_1367 dL_law_1368 dL_law_1369 dL_law_1370 (by decide) ?_
  refine kt_VG (As := [.int (xs (nI i + 1).toNatClampNeg)]) (rest := [.int rv]) (st1 := [.int rv7, .int rv]) (b := am 0) (wc' := wC γ a so1 r01 r1 r2 rw re tn se sv sk sd ++ wM γ am sm1 sq) C0 (c_X7_take l γ am hg) (cxV (nA := 1) hts goodU0 U1437 U1438 U1439 U91 U1440 (by decide +kernel) ⟨Nat.le_of_ble_eq_true rfl, Nat.le_of_ble_eq_true rfl⟩) hP (hD _ _ _ _ _ _ _ _ _ _ _ _ _) hS hl dL_law_1371 hR1 focA2 0 7 rfl rfl rfl rfl (Nat.le_of_ble_eq_true rfl) rfl rfl (fun H locs hP hS => ?_)
  refine lv_icmp_eq (tgt := 1563) hx hb dL_law_1374 (by decide) (fun _ => ?_) (fun h9 => absurd he h9)
  exact kk _ _ _ _ _ _ _ _ _ _ _ _ _ _ _ (Inv_mono hI (by omega) (by omega)) hP hS
set_option maxHeartbeats 2000000 in
set_option maxRecDepth 100000 in
theorem law_c36 (C : LC p s m meth c γ a am b L xs i ls cells slots) (I : Inv B so r0 r1 rw re sv sm sq) (hB : B ≤ 13400000) (hP : va_P γ.1 vwCl (wC γ a so r0 r1 r2 rw re tn se sv sk sd ++ wM γ am sm sq) H) (hS : va_S (fun q : Nat => s.heap.size ≤ q) s.heap H locs) (kk : LK p l e s m below meth c γ a am b cells slots ls (B + 26000) Q) : W p l e room_1 s m #[Value.ref b] below meth c H locs cells slots Q (F0 m 1379 ls []) := by
  obtain ⟨C0, hX, hbl, hD, hl, hi, hR1⟩ := C
  obtain ⟨hx, hb, hml, hown, hts, -, -, hK, hE, hA⟩ := id C0
  have hbA : ¬ (fun q : Nat => s.heap.size ≤ q) b := Nat.not_le.mpr hbl
  obtain ⟨X, hf, Y, hg, hR⟩ := sim_years I (by omega) (xs (nI i + 1).toNatClampNeg)
  obtain ⟨rv, so1, r01⟩ := X
  obtain ⟨rv7, sm1⟩ := Y
  have he : rv = rv7 := hR.1
  have hI : Inv (B + 999) so1 r01 r1 rw re sv sm1 sq := hR.2
  refine lv_aload_n hx hb dL_law_1379 rfl (lv_at hl 1 rfl) ?_
  refine law_rd (k := 1) (lv := [(0, .ref b), (1, .ref (a 0 0)), (2, .ref (am 0)), (3, .int (nI i))]) hx hb hl hX hbl hbA hS (law_in 1 hi.1 hi.2 (by decide)) rfl rfl dL_law_1380 dL_law_1381 dL_law_1382 dL_law_1383 dL_law_1384 (by decide) ?_
  refine kt_VG (As := [.int (xs (nI i + 1).toNatClampNeg)]) (rest := []) (st1 := [.int rv]) (b := a 0 0) (wc' := wC γ a so1 r01 r1 r2 rw re tn se sv sk sd ++ wM γ am sm sq) C0 (c_X6_years l γ a hf) (cxV (nA := 1) hts goodU0 U894 U895 U896 U84 U897 (by decide +kernel) ⟨Nat.le_of_ble_eq_true rfl, Nat.le_of_ble_eq_true rfl⟩) hP (hD _ _ _ _ _ _ _ _ _ _ _ _ _) hS hl dL_law_1385 hR1 focA1 0 6 rfl rfl rfl rfl (Nat.le_of_ble_eq_true rfl) rfl rfl (fun H locs hP hS => ?_)
  refine lv_aload_n hx hb dL_law_1388 rfl (lv_at hl 2 rfl) ?_
  refine law_rd (k := 1) (lv := [(0, .ref b), (1, .ref (a 0 0)), (2, .ref (am 0)), (3, .int (nI i))]) hx hb hl hX hbl hbA hS (law_in 1 hi.1 hi.2 (by decide)) rfl rfl dL_law_1389 dL_law_1390 dL_law_1391 dL_law_1392 dL_law_1393 (by decide) ?_
  refine kt_VG (As := [.int (xs (nI i + 1).toNatClampNeg)]) (rest := [.int rv]) (st1 := [.int rv7, .int rv]) (b := am 0) (wc' := wC γ a so1 r01 r1 r2 rw re tn se sv sk sd ++ wM γ am sm1 sq) C0 (c_X7_years l γ am hg) (cxV (nA := 1) hts goodU0 U1441 U1442 U1443 U91 U1444 (by decide +kernel) ⟨Nat.le_of_ble_eq_true rfl, Nat.le_of_ble_eq_true rfl⟩) hP (hD _ _ _ _ _ _ _ _ _ _ _ _ _) hS hl dL_law_1394 hR1 focA2 0 7 rfl rfl rfl rfl (Nat.le_of_ble_eq_true rfl) rfl rfl (fun H locs hP hS => ?_)
  refine lv_icmp_eq (tgt := 1563) hx hb dL_law_1397 (by decide) (fun _ => ?_) (fun h9 => absurd he h9)
  exact kk _ _ _ _ _ _ _ _ _ _ _ _ _ _ _ (Inv_mono hI (by omega) (by omega)) hP hS
set_option maxHeartbeats 2000000 in
set_option maxRecDepth 100000 in
theorem law_c37 (C : LC p s m meth c γ a am b L xs i ls cells slots) (I : Inv B so r0 r1 rw re sv sm sq) (hB : B ≤ 13400000) (hP : va_P γ.1 vwCl (wC γ a so r0 r1 r2 rw re tn se sv sk sd ++ wM γ am sm sq) H) (hS : va_S (fun q : Nat => s.heap.size ≤ q) s.heap H locs) (kk : LK p l e s m below meth c γ a am b cells slots ls (B + 26000) Q) : W p l e room_1 s m #[Value.ref b] below meth c H locs cells slots Q (F0 m 1402 ls []) := by
  obtain ⟨C0, hX, hbl, hD, hl, hi, hR1⟩ := C
  obtain ⟨hx, hb, hml, hown, hts, -, -, hK, hE, hA⟩ := id C0
  have hbA : ¬ (fun q : Nat => s.heap.size ≤ q) b := Nat.not_le.mpr hbl
  obtain ⟨X, hf, Y, hg, hR⟩ := sim_ages I (by omega) (xs (nI i + 1).toNatClampNeg)
  obtain ⟨rv, so1, r01⟩ := X
  obtain ⟨rv7, sm1⟩ := Y
  have he : rv = rv7 := hR.1
  have hI : Inv (B + 200) so1 r01 r1 rw re sv sm1 sq := hR.2
  refine lv_aload_n hx hb dL_law_1402 rfl (lv_at hl 1 rfl) ?_
  refine law_rd (k := 1) (lv := [(0, .ref b), (1, .ref (a 0 0)), (2, .ref (am 0)), (3, .int (nI i))]) hx hb hl hX hbl hbA hS (law_in 1 hi.1 hi.2 (by decide)) rfl rfl dL_law_1403 dL_law_1404 dL_law_1405 dL_law_1406 dL_law_1407 (by decide) ?_
  refine kt_VG (As := [.int (xs (nI i + 1).toNatClampNeg)]) (rest := []) (st1 := [.int rv]) (b := a 0 0) (wc' := wC γ a so1 r01 r1 r2 rw re tn se sv sk sd ++ wM γ am sm sq) C0 (c_X6_ages l γ a hf) (cxV (nA := 1) hts goodU0 U898 U899 U900 U84 U901 (by decide +kernel) ⟨Nat.le_of_ble_eq_true rfl, Nat.le_of_ble_eq_true rfl⟩) hP (hD _ _ _ _ _ _ _ _ _ _ _ _ _) hS hl dL_law_1408 hR1 focA1 0 6 rfl rfl rfl rfl (Nat.le_of_ble_eq_true rfl) rfl rfl (fun H locs hP hS => ?_)
  refine lv_aload_n hx hb dL_law_1411 rfl (lv_at hl 2 rfl) ?_
  refine law_rd (k := 1) (lv := [(0, .ref b), (1, .ref (a 0 0)), (2, .ref (am 0)), (3, .int (nI i))]) hx hb hl hX hbl hbA hS (law_in 1 hi.1 hi.2 (by decide)) rfl rfl dL_law_1412 dL_law_1413 dL_law_1414 dL_law_1415 dL_law_1416 (by decide) ?_
  refine kt_VG (As := [.int (xs (nI i + 1).toNatClampNeg)]) (rest := [.int rv]) (st1 := [.int rv7, .int rv]) (b := am 0) (wc' := wC γ a so1 r01 r1 r2 rw re tn se sv sk sd ++ wM γ am sm1 sq) C0 (c_X7_ages l γ am hg) (cxV (nA := 1) hts goodU0 U1445 U1446 U1447 U91 U1448 (by decide +kernel) ⟨Nat.le_of_ble_eq_true rfl, Nat.le_of_ble_eq_true rfl⟩) hP (hD _ _ _ _ _ _ _ _ _ _ _ _ _) hS hl dL_law_1417 hR1 focA2 0 7 rfl rfl rfl rfl (Nat.le_of_ble_eq_true rfl) rfl rfl (fun H locs hP hS => ?_)
  refine lv_icmp_eq (tgt := 1563) hx hb dL_law_1420 (by decide) (fun _ => ?_) (fun h9 => absurd he h9)
  exact kk _ _ _ _ _ _ _ _ _ _ _ _ _ _ _ (Inv_mono hI (by omega) (by omega)) hP hS
set_option maxHeartbeats 2000000 in
set_option maxRecDepth 100000 in
theorem law_c38 (C : LC p s m meth c γ a am b L xs i ls cells slots) (I : Inv B so r0 r1 rw re sv sm sq) (hB : B ≤ 13400000) (hP : va_P γ.1 vwCl (wC γ a so r0 r1 r2 rw re tn se sv sk sd ++ wM γ am sm sq) H) (hS : va_S (fun q : Nat => s.heap.size ≤ q) s.heap H locs) (kk : LK p l e s m below meth c γ a am b cells slots ls (B + 26000) Q) : W p l e room_1 s m #[Value.ref b] below meth c H locs cells slots Q (F0 m 1425 ls []) := by
  obtain ⟨C0, hX, hbl, hD, hl, hi, hR1⟩ := C
  obtain ⟨hx, hb, hml, hown, hts, -, -, hK, hE, hA⟩ := id C0
  have hbA : ¬ (fun q : Nat => s.heap.size ≤ q) b := Nat.not_le.mpr hbl
  obtain ⟨X, hf, Y, hg, hR⟩ := sim_seed I (xs (nI i + 1).toNatClampNeg)
  obtain ⟨rv, r01⟩ := X
  obtain ⟨rv7, sm1⟩ := Y
  have he : rv = rv7 := hR.1
  have hI : Inv B so r01 r1 rw re sv sm1 sq := hR.2
  refine lv_aload_n hx hb dL_law_1425 rfl (lv_at hl 1 rfl) ?_
  refine law_rd (k := 1) (lv := [(0, .ref b), (1, .ref (a 0 0)), (2, .ref (am 0)), (3, .int (nI i))]) hx hb hl hX hbl hbA hS (law_in 1 hi.1 hi.2 (by decide)) rfl rfl dL_law_1426 dL_law_1427 dL_law_1428 dL_law_1429 dL_law_1430 (by decide) ?_
  refine kt_VG (As := [.int (xs (nI i + 1).toNatClampNeg)]) (rest := []) (st1 := [.int rv]) (b := a 0 0) (wc' := wC γ a so r01 r1 r2 rw re tn se sv sk sd ++ wM γ am sm sq) C0 (c_X6_seed l γ a hf) (cxV (nA := 1) hts goodU0 U911 U912 U913 U84 U914 (by decide +kernel) ⟨Nat.le_of_ble_eq_true rfl, Nat.le_of_ble_eq_true rfl⟩) hP (hD _ _ _ _ _ _ _ _ _ _ _ _ _) hS hl dL_law_1431 hR1 focA1 0 6 rfl rfl rfl rfl (Nat.le_of_ble_eq_true rfl) rfl rfl (fun H locs hP hS => ?_)
  refine lv_aload_n hx hb dL_law_1434 rfl (lv_at hl 2 rfl) ?_
  refine law_rd (k := 1) (lv := [(0, .ref b), (1, .ref (a 0 0)), (2, .ref (am 0)), (3, .int (nI i))]) hx hb hl hX hbl hbA hS (law_in 1 hi.1 hi.2 (by decide)) rfl rfl dL_law_1435 dL_law_1436 dL_law_1437 dL_law_1438 dL_law_1439 (by decide) ?_
  refine kt_VG (As := [.int (xs (nI i + 1).toNatClampNeg)]) (rest := [.int rv]) (st1 := [.int rv7, .int rv]) (b := am 0) (wc' := wC γ a so r01 r1 r2 rw re tn se sv sk sd ++ wM γ am sm1 sq) C0 (c_X7_seed l γ am hg) (cxV (nA := 1) hts goodU0 U1458 U1459 U1460 U91 U1461 (by decide +kernel) ⟨Nat.le_of_ble_eq_true rfl, Nat.le_of_ble_eq_true rfl⟩) hP (hD _ _ _ _ _ _ _ _ _ _ _ _ _) hS hl dL_law_1440 hR1 focA2 0 7 rfl rfl rfl rfl (Nat.le_of_ble_eq_true rfl) rfl rfl (fun H locs hP hS => ?_)
  refine lv_icmp_eq (tgt := 1563) hx hb dL_law_1443 (by decide) (fun _ => ?_) (fun h9 => absurd he h9)
  exact kk _ _ _ _ _ _ _ _ _ _ _ _ _ _ _ (Inv_mono hI (by omega) (by omega)) hP hS
set_option maxHeartbeats 2000000 in
set_option maxRecDepth 100000 in
theorem law_c39 (C : LC p s m meth c γ a am b L xs i ls cells slots) (I : Inv B so r0 r1 rw re sv sm sq) (hB : B ≤ 13400000) (hP : va_P γ.1 vwCl (wC γ a so r0 r1 r2 rw re tn se sv sk sd ++ wM γ am sm sq) H) (hS : va_S (fun q : Nat => s.heap.size ≤ q) s.heap H locs) (kk : LK p l e s m below meth c γ a am b cells slots ls (B + 26000) Q) : W p l e room_1 s m #[Value.ref b] below meth c H locs cells slots Q (F0 m 1448 ls []) := by
  obtain ⟨C0, hX, hbl, hD, hl, hi, hR1⟩ := C
  obtain ⟨hx, hb, hml, hown, hts, -, -, hK, hE, hA⟩ := id C0
  have hbA : ¬ (fun q : Nat => s.heap.size ≤ q) b := Nat.not_le.mpr hbl
  obtain ⟨X, hf, Y, hg, hR⟩ := sim_act I (xs (nI i + 1).toNatClampNeg) (xs (nI i + 2).toNatClampNeg) (xs (nI i + 3).toNatClampNeg)
  obtain ⟨rv, sv1⟩ := X
  obtain ⟨rv7, sm1⟩ := Y
  have he : rv = rv7 := hR.1
  have hI : Inv B so r0 r1 rw re sv1 sm1 sq := hR.2
  refine lv_aload_n hx hb dL_law_1448 rfl (lv_at hl 1 rfl) ?_
  refine law_rd (k := 1) (lv := [(0, .ref b), (1, .ref (a 0 0)), (2, .ref (am 0)), (3, .int (nI i))]) hx hb hl hX hbl hbA hS (law_in 1 hi.1 hi.2 (by decide)) rfl rfl dL_law_1449 dL_law_1450 dL_law_1451 dL_law_1452 dL_law_1453 (by decide) ?_
  refine law_rd (k := 2) (lv := [(0, .ref b), (1, .ref (a 0 0)), (2, .ref (am 0)), (3, .int (nI i))]) hx hb hl hX hbl hbA hS (law_in 2 hi.1 hi.2 (by decide)) rfl rfl dL_law_1454 dL_law_1455 dL_law_1456 dL_law_1457 dL_law_1458 (by decide) ?_
  refine law_rd (k := 3) (lv := [(0, .ref b), (1, .ref (a 0 0)), (2, .ref (am 0)), (3, .int (nI i))]) hx hb hl hX hbl hbA hS (law_in 3 hi.1 hi.2 (by decide)) rfl rfl dL_law_1459 dL_law_1460 dL_law_1461 dL_law_1462 dL_law_1463 (by decide) ?_
  refine kt_VG (As := [.int (xs (nI i + 1).toNatClampNeg), .int (xs (nI i + 2).toNatClampNeg), .int (xs (nI i + 3).toNatClampNeg)]) (rest := []) (st1 := [.int rv]) (b := a 0 0) (wc' := wC γ a so r0 r1 r2 rw re tn se sv1 sk sd ++ wM γ am sm sq) C0 (c_X6_act l γ a hf) (cxV (nA := 3) hts goodU0 U915 U916 U917 U84 U918 (by decide +kernel) ⟨Nat.le_of_ble_eq_true rfl, Nat.le_of_ble_eq_true rfl⟩) hP (hD _ _ _ _ _ _ _ _ _ _ _ _ _) hS hl dL_law_1464 hR1 focA1 0 6 rfl rfl rfl rfl (Nat.le_of_ble_eq_true rfl) rfl rfl (fun H locs hP hS => ?_)
  refine lv_aload_n hx hb dL_law_1467 rfl (lv_at hl 2 rfl) ?_
  refine law_rd (k := 1) (lv := [(0, .ref b), (1, .ref (a 0 0)), (2, .ref (am 0)), (3, .int (nI i))]) hx hb hl hX hbl hbA hS (law_in 1 hi.1 hi.2 (by decide)) rfl rfl dL_law_1468 dL_law_1469 dL_law_1470 dL_law_1471 dL_law_1472 (by decide) ?_
  refine law_rd (k := 2) (lv := [(0, .ref b), (1, .ref (a 0 0)), (2, .ref (am 0)), (3, .int (nI i))]) hx hb hl hX hbl hbA hS (law_in 2 hi.1 hi.2 (by decide)) rfl rfl dL_law_1473 dL_law_1474 dL_law_1475 dL_law_1476 dL_law_1477 (by decide) ?_
  refine law_rd (k := 3) (lv := [(0, .ref b), (1, .ref (a 0 0)), (2, .ref (am 0)), (3, .int (nI i))]) hx hb hl hX hbl hbA hS (law_in 3 hi.1 hi.2 (by decide)) rfl rfl dL_law_1478 dL_law_1479 dL_law_1480 dL_law_1481 dL_law_1482 (by decide) ?_
  refine kt_VG (As := [.int (xs (nI i + 1).toNatClampNeg), .int (xs (nI i + 2).toNatClampNeg), .int (xs (nI i + 3).toNatClampNeg)]) (rest := [.int rv]) (st1 := [.int rv7, .int rv]) (b := am 0) (wc' := wC γ a so r0 r1 r2 rw re tn se sv1 sk sd ++ wM γ am sm1 sq) C0 (c_X7_act l γ am hg) (cxV (nA := 3) hts goodU0 U1462 U1463 U1464 U91 U1465 (by decide +kernel) ⟨Nat.le_of_ble_eq_true rfl, Nat.le_of_ble_eq_true rfl⟩) hP (hD _ _ _ _ _ _ _ _ _ _ _ _ _) hS hl dL_law_1483 hR1 focA2 0 7 rfl rfl rfl rfl (Nat.le_of_ble_eq_true rfl) rfl rfl (fun H locs hP hS => ?_)
  refine lv_icmp_eq (tgt := 1563) hx hb dL_law_1486 (by decide) (fun _ => ?_) (fun h9 => absurd he h9)
  exact kk _ _ _ _ _ _ _ _ _ _ _ _ _ _ _ (Inv_mono hI (by omega) (by omega)) hP hS
set_option maxHeartbeats 2000000 in
set_option maxRecDepth 100000 in
theorem law_c40 (C : LC p s m meth c γ a am b L xs i ls cells slots) (I : Inv B so r0 r1 rw re sv sm sq) (hB : B ≤ 13400000) (hP : va_P γ.1 vwCl (wC γ a so r0 r1 r2 rw re tn se sv sk sd ++ wM γ am sm sq) H) (hS : va_S (fun q : Nat => s.heap.size ≤ q) s.heap H locs) (kk : LK p l e s m below meth c γ a am b cells slots ls (B + 26000) Q) : W p l e room_1 s m #[Value.ref b] below meth c H locs cells slots Q (F0 m 1491 ls []) := by
  obtain ⟨C0, hX, hbl, hD, hl, hi, hR1⟩ := C
  obtain ⟨hx, hb, hml, hown, hts, -, -, hK, hE, hA⟩ := id C0
  have hbA : ¬ (fun q : Nat => s.heap.size ≤ q) b := Nat.not_le.mpr hbl
  obtain ⟨X, hf, Y, hg, hR⟩ := sim_trace I (xs (nI i + 1).toNatClampNeg)
  obtain ⟨rv, erv⟩ : ∃ q, q = X := ⟨X, rfl⟩
  rw [← erv] at hf hR
  obtain ⟨rv7, erv7⟩ : ∃ q, q = Y := ⟨Y, rfl⟩
  rw [← erv7] at hg hR
  have he : rv = rv7 := hR
  have hI : Inv B so r0 r1 rw re sv sm sq := I
  refine lv_aload_n hx hb dL_law_1491 rfl (lv_at hl 1 rfl) ?_
  refine law_rd (k := 1) (lv := [(0, .ref b), (1, .ref (a 0 0)), (2, .ref (am 0)), (3, .int (nI i))]) hx hb hl hX hbl hbA hS (law_in 1 hi.1 hi.2 (by decide)) rfl rfl dL_law_1492 dL_law_1493 dL_law_1494 dL_law_1495 dL_law_1496 (by decide) ?_
  refine kt_VG (As := [.int (xs (nI i + 1).toNatClampNeg)]) (rest := []) (st1 := [.int rv]) (b := a 0 0) (wc' := wC γ a so r0 r1 r2 rw re tn se sv sk sd ++ wM γ am sm sq) C0 (c_X6_trace l γ a hf) (cxV (nA := 1) hts goodU0 U947 U948 U949 U84 U950 (by decide +kernel) ⟨Nat.le_of_ble_eq_true rfl, Nat.le_of_ble_eq_true rfl⟩) hP (hD _ _ _ _ _ _ _ _ _ _ _ _ _) hS hl dL_law_1497 hR1 focA1 0 6 rfl rfl rfl rfl (Nat.le_of_ble_eq_true rfl) rfl rfl (fun H locs hP hS => ?_)
  refine lv_aload_n hx hb dL_law_1500 rfl (lv_at hl 2 rfl) ?_
  refine law_rd (k := 1) (lv := [(0, .ref b), (1, .ref (a 0 0)), (2, .ref (am 0)), (3, .int (nI i))]) hx hb hl hX hbl hbA hS (law_in 1 hi.1 hi.2 (by decide)) rfl rfl dL_law_1501 dL_law_1502 dL_law_1503 dL_law_1504 dL_law_1505 (by decide) ?_
  refine kt_VG (As := [.int (xs (nI i + 1).toNatClampNeg)]) (rest := [.int rv]) (st1 := [.int rv7, .int rv]) (b := am 0) (wc' := wC γ a so r0 r1 r2 rw re tn se sv sk sd ++ wM γ am sm sq) C0 (c_X7_trace l γ am hg) (cxV (nA := 1) hts goodU0 U1482 U1483 U1484 U91 U1485 (by decide +kernel) ⟨Nat.le_of_ble_eq_true rfl, Nat.le_of_ble_eq_true rfl⟩) hP (hD _ _ _ _ _ _ _ _ _ _ _ _ _) hS hl dL_law_1506 hR1 focA2 0 7 rfl rfl rfl rfl (Nat.le_of_ble_eq_true rfl) rfl rfl (fun H locs hP hS => ?_)
  refine lv_icmp_eq (tgt := 1563) hx hb dL_law_1509 (by decide) (fun _ => ?_) (fun h9 => absurd he h9)
  exact kk _ _ _ _ _ _ _ _ _ _ _ _ _ _ _ (Inv_mono hI (by omega) (by omega)) hP hS
set_option maxHeartbeats 2000000 in
set_option maxRecDepth 100000 in
theorem law_c41 (C : LC p s m meth c γ a am b L xs i ls cells slots) (I : Inv B so r0 r1 rw re sv sm sq) (hB : B ≤ 13400000) (hP : va_P γ.1 vwCl (wC γ a so r0 r1 r2 rw re tn se sv sk sd ++ wM γ am sm sq) H) (hS : va_S (fun q : Nat => s.heap.size ≤ q) s.heap H locs) (kk : LK p l e s m below meth c γ a am b cells slots ls (B + 26000) Q) : W p l e room_1 s m #[Value.ref b] below meth c H locs cells slots Q (F0 m 1514 ls []) := by
  obtain ⟨C0, hX, hbl, hD, hl, hi, hR1⟩ := C
  obtain ⟨hx, hb, hml, hown, hts, -, -, hK, hE, hA⟩ := id C0
  have hbA : ¬ (fun q : Nat => s.heap.size ≤ q) b := Nat.not_le.mpr hbl
  obtain ⟨X, hf, Y, hg, hR⟩ := sim_image I 
  obtain ⟨rv, so1, r11⟩ := X
  obtain ⟨rv7, sm1⟩ := Y
  have he : rv = rv7 := hR.1
  have hI : Inv B so1 r0 r11 rw re sv sm1 sq := hR.2
  refine lv_aload_n hx hb dL_law_1514 rfl (lv_at hl 1 rfl) ?_
  refine kt_VG (As := []) (rest := []) (st1 := [.int rv]) (b := a 0 0) (wc' := wC γ a so1 r0 r11 r2 rw re tn se sv sk sd ++ wM γ am sm sq) C0 (c_X6_image l γ a hf) (cxV (nA := 0) hts goodU0 U951 U952 U953 U84 U954 (by decide +kernel) ⟨Nat.le_of_ble_eq_true rfl, Nat.le_of_ble_eq_true rfl⟩) hP (hD _ _ _ _ _ _ _ _ _ _ _ _ _) hS hl dL_law_1515 hR1 focA1 0 6 rfl rfl rfl rfl (Nat.le_of_ble_eq_true rfl) rfl rfl (fun H locs hP hS => ?_)
  refine lv_aload_n hx hb dL_law_1518 rfl (lv_at hl 2 rfl) ?_
  refine kt_VG (As := []) (rest := [.int rv]) (st1 := [.int rv7, .int rv]) (b := am 0) (wc' := wC γ a so1 r0 r11 r2 rw re tn se sv sk sd ++ wM γ am sm1 sq) C0 (c_X7_image l γ am hg) (cxV (nA := 0) hts goodU0 U1486 U1487 U1488 U91 U1489 (by decide +kernel) ⟨Nat.le_of_ble_eq_true rfl, Nat.le_of_ble_eq_true rfl⟩) hP (hD _ _ _ _ _ _ _ _ _ _ _ _ _) hS hl dL_law_1519 hR1 focA2 0 7 rfl rfl rfl rfl (Nat.le_of_ble_eq_true rfl) rfl rfl (fun H locs hP hS => ?_)
  refine lv_icmp_eq (tgt := 1563) hx hb dL_law_1522 (by decide) (fun _ => ?_) (fun h9 => absurd he h9)
  exact kk _ _ _ _ _ _ _ _ _ _ _ _ _ _ _ (Inv_mono hI (by omega) (by omega)) hP hS
set_option maxHeartbeats 2000000 in
set_option maxRecDepth 100000 in
theorem law_c42 (C : LC p s m meth c γ a am b L xs i ls cells slots) (I : Inv B so r0 r1 rw re sv sm sq) (hB : B ≤ 13400000) (hP : va_P γ.1 vwCl (wC γ a so r0 r1 r2 rw re tn se sv sk sd ++ wM γ am sm sq) H) (hS : va_S (fun q : Nat => s.heap.size ≤ q) s.heap H locs) (kk : LK p l e s m below meth c γ a am b cells slots ls (B + 26000) Q) : W p l e room_1 s m #[Value.ref b] below meth c H locs cells slots Q (F0 m 1527 ls []) := by
  obtain ⟨C0, hX, hbl, hD, hl, hi, hR1⟩ := C
  obtain ⟨hx, hb, hml, hown, hts, -, -, hK, hE, hA⟩ := id C0
  have hbA : ¬ (fun q : Nat => s.heap.size ≤ q) b := Nat.not_le.mpr hbl
  obtain ⟨X, hf, Y, hg, hR⟩ := sim_restore I 
  obtain ⟨rv, so1, r01⟩ := X
  obtain ⟨rv7, sm1⟩ := Y
  have he : rv = rv7 := hR.1
  have hI : Inv B so1 r01 r1 rw re sv sm1 sq := hR.2
  refine lv_aload_n hx hb dL_law_1527 rfl (lv_at hl 1 rfl) ?_
  refine kt_VG (As := []) (rest := []) (st1 := [.int rv]) (b := a 0 0) (wc' := wC γ a so1 r01 r1 r2 rw re tn se sv sk sd ++ wM γ am sm sq) C0 (c_X6_restore l γ a hf) (cxV (nA := 0) hts goodU0 U955 U956 U957 U84 U958 (by decide +kernel) ⟨Nat.le_of_ble_eq_true rfl, Nat.le_of_ble_eq_true rfl⟩) hP (hD _ _ _ _ _ _ _ _ _ _ _ _ _) hS hl dL_law_1528 hR1 focA1 0 6 rfl rfl rfl rfl (Nat.le_of_ble_eq_true rfl) rfl rfl (fun H locs hP hS => ?_)
  refine lv_aload_n hx hb dL_law_1531 rfl (lv_at hl 2 rfl) ?_
  refine kt_VG (As := []) (rest := [.int rv]) (st1 := [.int rv7, .int rv]) (b := am 0) (wc' := wC γ a so1 r01 r1 r2 rw re tn se sv sk sd ++ wM γ am sm1 sq) C0 (c_X7_restore l γ am hg) (cxV (nA := 0) hts goodU0 U1490 U1491 U1492 U91 U1493 (by decide +kernel) ⟨Nat.le_of_ble_eq_true rfl, Nat.le_of_ble_eq_true rfl⟩) hP (hD _ _ _ _ _ _ _ _ _ _ _ _ _) hS hl dL_law_1532 hR1 focA2 0 7 rfl rfl rfl rfl (Nat.le_of_ble_eq_true rfl) rfl rfl (fun H locs hP hS => ?_)
  refine lv_icmp_eq (tgt := 1563) hx hb dL_law_1535 (by decide) (fun _ => ?_) (fun h9 => absurd he h9)
  exact kk _ _ _ _ _ _ _ _ _ _ _ _ _ _ _ (Inv_mono hI (by omega) (by omega)) hP hS
set_option maxHeartbeats 2000000 in
set_option maxRecDepth 100000 in
theorem law_c43 (C : LC p s m meth c γ a am b L xs i ls cells slots) (I : Inv B so r0 r1 rw re sv sm sq) (hB : B ≤ 13400000) (hP : va_P γ.1 vwCl (wC γ a so r0 r1 r2 rw re tn se sv sk sd ++ wM γ am sm sq) H) (hS : va_S (fun q : Nat => s.heap.size ≤ q) s.heap H locs) (kk : LK p l e s m below meth c γ a am b cells slots ls (B + 26000) Q) : W p l e room_1 s m #[Value.ref b] below meth c H locs cells slots Q (F0 m 1540 ls []) := by
  obtain ⟨C0, hX, hbl, hD, hl, hi, hR1⟩ := C
  obtain ⟨hx, hb, hml, hown, hts, -, -, hK, hE, hA⟩ := id C0
  have hbA : ¬ (fun q : Nat => s.heap.size ≤ q) b := Nat.not_le.mpr hbl
  obtain ⟨X, hf, Y, hg, hR⟩ := sim_status I (xs (nI i + 1).toNatClampNeg)
  obtain ⟨rv, erv⟩ : ∃ q, q = X := ⟨X, rfl⟩
  rw [← erv] at hf hR
  obtain ⟨rv7, erv7⟩ : ∃ q, q = Y := ⟨Y, rfl⟩
  rw [← erv7] at hg hR
  have he : rv = rv7 := hR
  have hI : Inv B so r0 r1 rw re sv sm sq := I
  refine lv_aload_n hx hb dL_law_1540 rfl (lv_at hl 1 rfl) ?_
  refine law_rd (k := 1) (lv := [(0, .ref b), (1, .ref (a 0 0)), (2, .ref (am 0)), (3, .int (nI i))]) hx hb hl hX hbl hbA hS (law_in 1 hi.1 hi.2 (by decide)) rfl rfl dL_law_1541 dL_law_1542 dL_law_1543 dL_law_1544 dL_law_1545 (by decide) ?_
  refine kt_VG (As := [.int (xs (nI i + 1).toNatClampNeg)]) (rest := []) (st1 := [.int rv]) (b := a 0 0) (wc' := wC γ a so r0 r1 r2 rw re tn se sv sk sd ++ wM γ am sm sq) C0 (c_X6_status l γ a hf) (cxV (nA := 1) hts goodU0 U959 U960 U961 U84 U962 (by decide +kernel) ⟨Nat.le_of_ble_eq_true rfl, Nat.le_of_ble_eq_true rfl⟩) hP (hD _ _ _ _ _ _ _ _ _ _ _ _ _) hS hl dL_law_1546 hR1 focA1 0 6 rfl rfl rfl rfl (Nat.le_of_ble_eq_true rfl) rfl rfl (fun H locs hP hS => ?_)
  refine lv_aload_n hx hb dL_law_1549 rfl (lv_at hl 2 rfl) ?_
  refine law_rd (k := 1) (lv := [(0, .ref b), (1, .ref (a 0 0)), (2, .ref (am 0)), (3, .int (nI i))]) hx hb hl hX hbl hbA hS (law_in 1 hi.1 hi.2 (by decide)) rfl rfl dL_law_1550 dL_law_1551 dL_law_1552 dL_law_1553 dL_law_1554 (by decide) ?_
  refine kt_VG (As := [.int (xs (nI i + 1).toNatClampNeg)]) (rest := [.int rv]) (st1 := [.int rv7, .int rv]) (b := am 0) (wc' := wC γ a so r0 r1 r2 rw re tn se sv sk sd ++ wM γ am sm sq) C0 (c_X7_status l γ am hg) (cxV (nA := 1) hts goodU0 U1494 U1495 U1496 U91 U1497 (by decide +kernel) ⟨Nat.le_of_ble_eq_true rfl, Nat.le_of_ble_eq_true rfl⟩) hP (hD _ _ _ _ _ _ _ _ _ _ _ _ _) hS hl dL_law_1555 hR1 focA2 0 7 rfl rfl rfl rfl (Nat.le_of_ble_eq_true rfl) rfl rfl (fun H locs hP hS => ?_)
  refine lv_icmp_eq (tgt := 1563) hx hb dL_law_1558 (by decide) (fun _ => ?_) (fun h9 => absurd he h9)
  exact kk _ _ _ _ _ _ _ _ _ _ _ _ _ _ _ (Inv_mono hI (by omega) (by omega)) hP hS
end LAWC
