set_option maxHeartbeats 4000000 in
theorem foc_rw_rw (γ : Gm) (a : Nat → Nat → Nat) (so : GS) (r0 : GS) (r1 : GS) (r2 : GS) (rw : Nat → GS) (re : Nat → Nat → Int64) (tn : Option Nat) (se : GS) (sv : GS) (sk : GS) (sd : GS) {nq np : Nat} (hq : nq < 8) (hp : np < 8) (hne : nq ≠ np) (f : Nat → Int64) : FocP (wC γ a so r0 r1 r2 rw re tn se sv sk sd) (wW γ (a (8 + nq)) (rw nq) (re nq) ++ wW γ (a (8 + np)) (rw np) (re np)) (wC γ a so r0 r1 r2 rw (va_up re nq f) tn se sv sk sd) (wW γ (a (8 + nq)) (rw nq) f ++ wW γ (a (8 + np)) (rw np) (re np)) := by
  match nq, np, hq, hp, hne with
  | 0, 1, _, _, _ => exact foc2 (l1 := [_, _, _, _, _, _, _, _]) (l2 := []) (l3 := [_, _, _, _, _, _])
  | 0, 2, _, _, _ => exact foc2 (l1 := [_, _, _, _, _, _, _, _]) (l2 := [_]) (l3 := [_, _, _, _, _])
  | 0, 3, _, _, _ => exact foc2 (l1 := [_, _, _, _, _, _, _, _]) (l2 := [_, _]) (l3 := [_, _, _, _])
  | 0, 4, _, _, _ => exact foc2 (l1 := [_, _, _, _, _, _, _, _]) (l2 := [_, _, _]) (l3 := [_, _, _])
  | 0, 5, _, _, _ => exact foc2 (l1 := [_, _, _, _, _, _, _, _]) (l2 := [_, _, _, _]) (l3 := [_, _])
  | 0, 6, _, _, _ => exact foc2 (l1 := [_, _, _, _, _, _, _, _]) (l2 := [_, _, _, _, _]) (l3 := [_])
  | 0, 7, _, _, _ => exact foc2 (l1 := [_, _, _, _, _, _, _, _]) (l2 := [_, _, _, _, _, _]) (l3 := [])
  | 0, 0, _, _, h => exact absurd rfl h
  | 1, 0, _, _, _ => exact foc2r (l1 := [_, _, _, _, _, _, _, _]) (l2 := []) (l3 := [_, _, _, _, _, _])
  | 1, 2, _, _, _ => exact foc2 (l1 := [_, _, _, _, _, _, _, _, _]) (l2 := []) (l3 := [_, _, _, _, _])
  | 1, 3, _, _, _ => exact foc2 (l1 := [_, _, _, _, _, _, _, _, _]) (l2 := [_]) (l3 := [_, _, _, _])
  | 1, 4, _, _, _ => exact foc2 (l1 := [_, _, _, _, _, _, _, _, _]) (l2 := [_, _]) (l3 := [_, _, _])
  | 1, 5, _, _, _ => exact foc2 (l1 := [_, _, _, _, _, _, _, _, _]) (l2 := [_, _, _]) (l3 := [_, _])
  | 1, 6, _, _, _ => exact foc2 (l1 := [_, _, _, _, _, _, _, _, _]) (l2 := [_, _, _, _]) (l3 := [_])
  | 1, 7, _, _, _ => exact foc2 (l1 := [_, _, _, _, _, _, _, _, _]) (l2 := [_, _, _, _, _]) (l3 := [])
  | 1, 1, _, _, h => exact absurd rfl h
  | 2, 0, _, _, _ => exact foc2r (l1 := [_, _, _, _, _, _, _, _]) (l2 := [_]) (l3 := [_, _, _, _, _])
  | 2, 1, _, _, _ => exact foc2r (l1 := [_, _, _, _, _, _, _, _, _]) (l2 := []) (l3 := [_, _, _, _, _])
  | 2, 3, _, _, _ => exact foc2 (l1 := [_, _, _, _, _, _, _, _, _, _]) (l2 := []) (l3 := [_, _, _, _])
  | 2, 4, _, _, _ => exact foc2 (l1 := [_, _, _, _, _, _, _, _, _, _]) (l2 := [_]) (l3 := [_, _, _])
  | 2, 5, _, _, _ => exact foc2 (l1 := [_, _, _, _, _, _, _, _, _, _]) (l2 := [_, _]) (l3 := [_, _])
  | 2, 6, _, _, _ => exact foc2 (l1 := [_, _, _, _, _, _, _, _, _, _]) (l2 := [_, _, _]) (l3 := [_])
  | 2, 7, _, _, _ => exact foc2 (l1 := [_, _, _, _, _, _, _, _, _, _]) (l2 := [_, _, _, _]) (l3 := [])
  | 2, 2, _, _, h => exact absurd rfl h
  | 3, 0, _, _, _ => exact foc2r (l1 := [_, _, _, _, _, _, _, _]) (l2 := [_, _]) (l3 := [_, _, _, _])
  | 3, 1, _, _, _ => exact foc2r (l1 := [_, _, _, _, _, _, _, _, _]) (l2 := [_]) (l3 := [_, _, _, _])
  | 3, 2, _, _, _ => exact foc2r (l1 := [_, _, _, _, _, _, _, _, _, _]) (l2 := []) (l3 := [_, _, _, _])
  | 3, 4, _, _, _ => exact foc2 (l1 := [_, _, _, _, _, _, _, _, _, _, _]) (l2 := []) (l3 := [_, _, _])
  | 3, 5, _, _, _ => exact foc2 (l1 := [_, _, _, _, _, _, _, _, _, _, _]) (l2 := [_]) (l3 := [_, _])
  | 3, 6, _, _, _ => exact foc2 (l1 := [_, _, _, _, _, _, _, _, _, _, _]) (l2 := [_, _]) (l3 := [_])
  | 3, 7, _, _, _ => exact foc2 (l1 := [_, _, _, _, _, _, _, _, _, _, _]) (l2 := [_, _, _]) (l3 := [])
  | 3, 3, _, _, h => exact absurd rfl h
  | 4, 0, _, _, _ => exact foc2r (l1 := [_, _, _, _, _, _, _, _]) (l2 := [_, _, _]) (l3 := [_, _, _])
  | 4, 1, _, _, _ => exact foc2r (l1 := [_, _, _, _, _, _, _, _, _]) (l2 := [_, _]) (l3 := [_, _, _])
  | 4, 2, _, _, _ => exact foc2r (l1 := [_, _, _, _, _, _, _, _, _, _]) (l2 := [_]) (l3 := [_, _, _])
  | 4, 3, _, _, _ => exact foc2r (l1 := [_, _, _, _, _, _, _, _, _, _, _]) (l2 := []) (l3 := [_, _, _])
  | 4, 5, _, _, _ => exact foc2 (l1 := [_, _, _, _, _, _, _, _, _, _, _, _]) (l2 := []) (l3 := [_, _])
  | 4, 6, _, _, _ => exact foc2 (l1 := [_, _, _, _, _, _, _, _, _, _, _, _]) (l2 := [_]) (l3 := [_])
  | 4, 7, _, _, _ => exact foc2 (l1 := [_, _, _, _, _, _, _, _, _, _, _, _]) (l2 := [_, _]) (l3 := [])
  | 4, 4, _, _, h => exact absurd rfl h
  | 5, 0, _, _, _ => exact foc2r (l1 := [_, _, _, _, _, _, _, _]) (l2 := [_, _, _, _]) (l3 := [_, _])
  | 5, 1, _, _, _ => exact foc2r (l1 := [_, _, _, _, _, _, _, _, _]) (l2 := [_, _, _]) (l3 := [_, _])
  | 5, 2, _, _, _ => exact foc2r (l1 := [_, _, _, _, _, _, _, _, _, _]) (l2 := [_, _]) (l3 := [_, _])
  | 5, 3, _, _, _ => exact foc2r (l1 := [_, _, _, _, _, _, _, _, _, _, _]) (l2 := [_]) (l3 := [_, _])
  | 5, 4, _, _, _ => exact foc2r (l1 := [_, _, _, _, _, _, _, _, _, _, _, _]) (l2 := []) (l3 := [_, _])
  | 5, 6, _, _, _ => exact foc2 (l1 := [_, _, _, _, _, _, _, _, _, _, _, _, _]) (l2 := []) (l3 := [_])
  | 5, 7, _, _, _ => exact foc2 (l1 := [_, _, _, _, _, _, _, _, _, _, _, _, _]) (l2 := [_]) (l3 := [])
  | 5, 5, _, _, h => exact absurd rfl h
  | 6, 0, _, _, _ => exact foc2r (l1 := [_, _, _, _, _, _, _, _]) (l2 := [_, _, _, _, _]) (l3 := [_])
  | 6, 1, _, _, _ => exact foc2r (l1 := [_, _, _, _, _, _, _, _, _]) (l2 := [_, _, _, _]) (l3 := [_])
  | 6, 2, _, _, _ => exact foc2r (l1 := [_, _, _, _, _, _, _, _, _, _]) (l2 := [_, _, _]) (l3 := [_])
  | 6, 3, _, _, _ => exact foc2r (l1 := [_, _, _, _, _, _, _, _, _, _, _]) (l2 := [_, _]) (l3 := [_])
  | 6, 4, _, _, _ => exact foc2r (l1 := [_, _, _, _, _, _, _, _, _, _, _, _]) (l2 := [_]) (l3 := [_])
  | 6, 5, _, _, _ => exact foc2r (l1 := [_, _, _, _, _, _, _, _, _, _, _, _, _]) (l2 := []) (l3 := [_])
  | 6, 7, _, _, _ => exact foc2 (l1 := [_, _, _, _, _, _, _, _, _, _, _, _, _, _]) (l2 := []) (l3 := [])
  | 6, 6, _, _, h => exact absurd rfl h
  | 7, 0, _, _, _ => exact foc2r (l1 := [_, _, _, _, _, _, _, _]) (l2 := [_, _, _, _, _, _]) (l3 := [])
  | 7, 1, _, _, _ => exact foc2r (l1 := [_, _, _, _, _, _, _, _, _]) (l2 := [_, _, _, _, _]) (l3 := [])
  | 7, 2, _, _, _ => exact foc2r (l1 := [_, _, _, _, _, _, _, _, _, _]) (l2 := [_, _, _, _]) (l3 := [])
  | 7, 3, _, _, _ => exact foc2r (l1 := [_, _, _, _, _, _, _, _, _, _, _]) (l2 := [_, _, _]) (l3 := [])
  | 7, 4, _, _, _ => exact foc2r (l1 := [_, _, _, _, _, _, _, _, _, _, _, _]) (l2 := [_, _]) (l3 := [])
  | 7, 5, _, _, _ => exact foc2r (l1 := [_, _, _, _, _, _, _, _, _, _, _, _, _]) (l2 := [_]) (l3 := [])
  | 7, 6, _, _, _ => exact foc2r (l1 := [_, _, _, _, _, _, _, _, _, _, _, _, _, _]) (l2 := []) (l3 := [])
  | 7, 7, _, _, h => exact absurd rfl h
theorem foc_rw1 (γ : Gm) (a : Nat → Nat → Nat) (so : GS) (r0 : GS) (r1 : GS) (r2 : GS) (rw : Nat → GS) (re : Nat → Nat → Int64) (tn : Option Nat) (se : GS) (sv : GS) (sk : GS) (sd : GS) {n : Nat} (h : n < 8) (f : Nat → Int64) : FocP (wC γ a so r0 r1 r2 rw re tn se sv sk sd) (wW γ (a (8 + n)) (rw n) (re n)) (wC γ a so r0 r1 r2 rw (va_up re n f) tn se sv sk sd) (wW γ (a (8 + n)) (rw n) f) := by
  have h1 := foc_rw γ a so r0 r1 r2 rw re tn se sv sk sd h (rw n) f
  rw [up_id] at h1
  exact h1
set_option maxHeartbeats 4000000 in
theorem kt_fill (γ : Gm) (a : Nat → Nat → Nat) {p : Program} {l : Launch} {e : Env} {R : Room} {s : State} {m : MethodId} {args : Array Value} {below : List Frame} {meth : Method} {c : Code} {H : Heap} {locs : List Loc} {Q : State → Prop} {A : Nat → Prop} {cc : ByteArray} {maxL pc idx : Nat} {ret : Option FieldType} {ts : List Cond} {own : String} {ls : Array Slot} {lv : List (Nat × Value)} {rest : List Value} (C0 : Cx p R s m args meth c γ A cc maxL ret ts own) {so : GS} {r0 : GS} {r1 : GS} {r2 : GS} {rw : Nat → GS} {re : Nat → Nat → Int64} {tn : Option Nat} {se : GS} {sv : GS} {sk : GS} {sd : GS} {nq np : Nat} (hq : nq < 8) (hp : np < 8) {x y z : Int32} {re' : Nat → Nat → Int64} (hg : fillRows re nq np x y z = some re') (cw : CallW R s args own RX5 idx yX5_fillFrom cX5_fillFrom 5 none (Cond.code yX5_fillFrom cX5_fillFrom 5 none :: U) (rmK 1 60) 0 0 4) (hP : va_P γ.1 vwCl (wC γ a so r0 r1 r2 rw re tn se sv sk sd) H) (hD : va_D A (wC γ a so r0 r1 r2 rw re tn se sv sk sd)) (hS : va_S A s.heap H locs) (hl : lv_has ls maxL lv) (hdg : decode cc pc = .ok (.invokevirtual idx, 3)) (hrest : (rest.map fun v => v.category).sum ≤ 8)
    (kk : ∀ (H1 : Heap) (locs1 : List Loc), va_P γ.1 vwCl (wC γ a so r0 r1 r2 rw re' tn se sv sk sd) H1 → va_S A s.heap H1 locs1 → W p l e R s m args below meth c H1 locs1 0 0 Q (F0 m (pc + 3) ls rest)) : W p l e R s m args below meth c H locs 0 0 Q (F0 m pc ls (.int z :: .int y :: .int x :: .ref (a (8 + np) 0) :: .ref (a (8 + nq) 0) :: rest)) := by
  unfold fillRows at hg
  by_cases hne : nq = np
  · subst hne
    rw [if_pos rfl] at hg
    obtain ⟨f, hg1, hg2⟩ := bd_of hg
    obtain rfl := Option.some.inj hg2
    exact kt_VF (As := [.ref (a (8 + nq) 0), .int x, .int y, .int z]) (rest := rest) (st1 := rest) (b := a (8 + nq) 0) (wc' := wC γ a so r0 r1 r2 rw (va_up re nq f) tn se sv sk sd) C0 (c_X5_fillFromS l γ (a (8 + nq)) (sw := rw nq) hg1) cw hP hD hS hl hdg (foc_rw1 γ a so r0 r1 r2 rw re tn se sv sk sd hq f) 0 5 rfl rfl rfl rfl hrest rfl rfl kk
  · rw [if_neg hne] at hg
    obtain ⟨f, hg1, hg2⟩ := bd_of hg
    obtain rfl := Option.some.inj hg2
    exact kt_VF (As := [.ref (a (8 + np) 0), .int x, .int y, .int z]) (rest := rest) (st1 := rest) (b := a (8 + nq) 0) (wc' := wC γ a so r0 r1 r2 rw (va_up re nq f) tn se sv sk sd) C0 (c_X5_fillFrom l γ (a (8 + nq)) (a (8 + np)) (sw := rw nq) (swx := rw np) hg1) cw hP hD hS hl hdg (foc_rw_rw γ a so r0 r1 r2 rw re tn se sv sk sd hq hp hne f) 0 5 rfl rfl rfl rfl hrest rfl rfl kk
