/-! ===== what the cells are: a list for each kind of object, with its arrays ===== -/
def unF (ad : Nat → Nat) : Nat → Option Nat := fun j => if j < 4 then some (ad (10 + j)) else none
theorem unF_at (ad : Nat → Nat) {n : Nat} (h : n < 4) : va_rf (unF ad n) = .ref (ad (10 + n)) := by unfold unF; rw [if_pos h]; rfl
def rowF (a : Nat → Nat → Nat) : Nat → Option Nat := fun j => if j < 8 then some (a (8 + j) 0) else none
theorem rowF_at (a : Nat → Nat → Nat) {n : Nat} (h : n < 8) : va_rf (rowF a n) = .ref (a (8 + n) 0) := by unfold rowF; rw [if_pos h]; rfl
def wK (γ : Gm) (ad : Nat → Nat) (sk : GS) : va_W := [(ad 0, .inr (0, [.ref (ad 1)])), (ad 1, .inl (γ.2.1 0, 200, .inl (sk 1)))]
def wV (γ : Gm) (ad : Nat → Nat) (sv : GS) : va_W := [(ad 0, .inr (1, [.int (sv 0 0), .ref (ad 2), .int (sv 0 2), .int (sv 0 3), .int (sv 0 4)])), (ad 2, .inl (γ.2.1 0, 20, .inl (sv 2)))]
def wD (γ : Gm) (ad : Nat → Nat) (sd : GS) : va_W := [(ad 0, .inr (2, [.int (sd 0 0), .ref (ad 2), .ref (ad 3), .ref (ad 4), .int (sd 0 4)])), (ad 2, .inl (γ.2.1 0, 3, .inl (sd 2))), (ad 3, .inl (γ.2.1 0, 3, .inl (sd 3))), (ad 4, .inl (γ.2.1 3, 4, .inr (.inr (.inr (.inr (unF ad)))))), (ad 10, .inl (γ.2.1 0, 10, .inl (sd 10))), (ad 11, .inl (γ.2.1 0, 10, .inl (sd 11))), (ad 12, .inl (γ.2.1 0, 10, .inl (sd 12))), (ad 13, .inl (γ.2.1 0, 10, .inl (sd 13)))]
def wR (γ : Gm) (ad : Nat → Nat) (sr : GS) : va_W := [(ad 0, .inr (3, [.int (sr 0 0), .int (sr 0 1), .ref (ad 3), .ref (ad 4), .ref (ad 5), .ref (ad 6), .ref (ad 7), .ref (ad 8), .ref (ad 9), .ref (ad 10), .int (sr 0 10), .ref (ad 12), .ref (ad 13), .int (sr 0 13), .ref (ad 15), .ref (ad 16), .int (sr 0 16), .int (sr 0 17)])), (ad 3, .inl (γ.2.1 0, 10, .inl (sr 3))), (ad 4, .inl (γ.2.1 0, 10, .inl (sr 4))), (ad 5, .inl (γ.2.1 0, 10, .inl (sr 5))), (ad 6, .inl (γ.2.1 0, 10, .inl (sr 6))), (ad 7, .inl (γ.2.1 0, 10, .inl (sr 7))), (ad 8, .inl (γ.2.1 0, 10, .inl (sr 8))), (ad 9, .inl (γ.2.1 0, 100, .inl (sr 9))), (ad 10, .inl (γ.2.1 0, 10, .inl (sr 10))), (ad 12, .inl (γ.2.1 0, 6, .inl (sr 12))), (ad 13, .inl (γ.2.1 0, 6, .inl (sr 13))), (ad 15, .inl (γ.2.1 0, 8, .inl (sr 15))), (ad 16, .inl (γ.2.1 0, 8, .inl (sr 16)))]
def wE (γ : Gm) (ad : Nat → Nat) (tx : Value) (se : GS) : va_W := [(ad 0, .inr (4, [tx, .int (se 0 1), .int (se 0 2), .int (se 0 3), .ref (ad 5)])), (ad 5, .inl (γ.2.1 0, 4, .inl (se 5)))]
def wW (γ : Gm) (ad : Nat → Nat) (sw : GS) (sl : Nat → Int64) : va_W := [(ad 0, .inr (5, [.ref (ad 1), .int (sw 0 1), .int (sw 0 2)])), (ad 1, .inl (γ.2.1 1, 160, .inr (.inl sl)))]
def wM (γ : Gm) (ad : Nat → Nat) (sm : GS) (sq : Nat → Int64) : va_W := [(ad 0, .inr (7, [.ref (ad 1), .ref (ad 2), .ref (ad 3), .int (sm 0 3), .ref (ad 5), .ref (ad 6), .ref (ad 7), .ref (ad 8), .ref (ad 9), .ref (ad 10), .ref (ad 11), .int (sm 0 11), .ref (ad 13), .ref (ad 14), .int (sm 0 14), .ref (ad 16), .ref (ad 17), .int (sm 0 17), .int (sm 0 18), .int (sm 0 19), .ref (ad 21), .int (sm 0 21), .ref (ad 23), .int (sm 0 23), .ref (ad 25), .ref (ad 26), .ref (ad 27), .ref (ad 28), .ref (ad 29), .ref (ad 30), .ref (ad 31), .int (sm 0 31), .int (sm 0 32), .ref (ad 34), .int (sm 0 34)])), (ad 1, .inl (γ.2.1 0, 8, .inl (sm 1))), (ad 2, .inl (γ.2.1 0, 8, .inl (sm 2))), (ad 3, .inl (γ.2.1 1, 1280, .inr (.inl sq))), (ad 5, .inl (γ.2.1 0, 10, .inl (sm 5))), (ad 6, .inl (γ.2.1 0, 10, .inl (sm 6))), (ad 7, .inl (γ.2.1 0, 10, .inl (sm 7))), (ad 8, .inl (γ.2.1 0, 10, .inl (sm 8))), (ad 9, .inl (γ.2.1 0, 10, .inl (sm 9))), (ad 10, .inl (γ.2.1 0, 10, .inl (sm 10))), (ad 11, .inl (γ.2.1 0, 100, .inl (sm 11))), (ad 13, .inl (γ.2.1 0, 6, .inl (sm 13))), (ad 14, .inl (γ.2.1 0, 6, .inl (sm 14))), (ad 16, .inl (γ.2.1 0, 8, .inl (sm 16))), (ad 17, .inl (γ.2.1 0, 8, .inl (sm 17))), (ad 21, .inl (γ.2.1 0, 8, .inl (sm 21))), (ad 23, .inl (γ.2.1 0, 20, .inl (sm 23))), (ad 25, .inl (γ.2.1 0, 193, .inl (sm 25))), (ad 26, .inl (γ.2.1 0, 193, .inl (sm 26))), (ad 27, .inl (γ.2.1 0, 193, .inl (sm 27))), (ad 28, .inl (γ.2.1 0, 193, .inl (sm 28))), (ad 29, .inl (γ.2.1 0, 3, .inl (sm 29))), (ad 30, .inl (γ.2.1 0, 3, .inl (sm 30))), (ad 31, .inl (γ.2.1 0, 10, .inl (sm 31))), (ad 34, .inl (γ.2.1 0, 4, .inl (sm 34)))]
def txV (a : Nat → Nat → Nat) (tn : Option Nat) : Value := match tn with
  | none => .null
  | some n => .ref (a (8 + n) 0)
def wO (γ : Gm) (a : Nat → Nat → Nat) (o : GS) : va_W := [(a 0 0, .inr (6, [.ref (a 1 0), .ref (a 2 0), .ref (a 3 0), .int (o 0 3), .ref (a 0 5), .ref (a 0 6), .ref (a 0 7), .int (o 0 7), .ref (a 4 0), .ref (a 5 0), .ref (a 6 0), .ref (a 7 0)])), (a 0 5, .inl (γ.2.1 2, 8, .inr (.inr (.inr (.inr (rowF a)))))), (a 0 6, .inl (γ.2.1 0, 8, .inl (o 6))), (a 0 7, .inl (γ.2.1 0, 8, .inl (o 7)))]
def wRows (γ : Gm) (a : Nat → Nat → Nat) (rw : Nat → GS) (re : Nat → Nat → Int64) : va_W := wW γ (a 8) (rw 0) (re 0) ++ wW γ (a 9) (rw 1) (re 1) ++ wW γ (a 10) (rw 2) (re 2) ++ wW γ (a 11) (rw 3) (re 3) ++ wW γ (a 12) (rw 4) (re 4) ++ wW γ (a 13) (rw 5) (re 5) ++ wW γ (a 14) (rw 6) (re 6) ++ wW γ (a 15) (rw 7) (re 7)
def segC (γ : Gm) (a : Nat → Nat → Nat) (so : GS) (r0 : GS) (r1 : GS) (r2 : GS) (rw : Nat → GS) (re : Nat → Nat → Int64) (tn : Option Nat) (se : GS) (sv : GS) (sk : GS) (sd : GS) : List va_W := [wO γ a so, wR γ (a 1) r0, wR γ (a 2) r1, wR γ (a 3) r2, wE γ (a 4) (txV a tn) se, wV γ (a 5) sv, wK γ (a 6) sk, wD γ (a 7) sd, wW γ (a 8) (rw 0) (re 0), wW γ (a 9) (rw 1) (re 1), wW γ (a 10) (rw 2) (re 2), wW γ (a 11) (rw 3) (re 3), wW γ (a 12) (rw 4) (re 4), wW γ (a 13) (rw 5) (re 5), wW γ (a 14) (rw 6) (re 6), wW γ (a 15) (rw 7) (re 7)]
def wC (γ : Gm) (a : Nat → Nat → Nat) (so : GS) (r0 : GS) (r1 : GS) (r2 : GS) (rw : Nat → GS) (re : Nat → Nat → Int64) (tn : Option Nat) (se : GS) (sv : GS) (sk : GS) (sd : GS) : va_W := (segC γ a so r0 r1 r2 rw re tn se sv sk sd).flatten
theorem perm_flat {l1 l2 : List va_W} (h : l1.Perm l2) : l1.flatten.Perm l2.flatten := by
  induction h with
  | nil => exact List.Perm.refl _
  | cons x _ ih => rw [List.flatten_cons, List.flatten_cons]; exact List.Perm.append_left x ih
  | swap x y l =>
    rw [List.flatten_cons, List.flatten_cons, List.flatten_cons, List.flatten_cons, ← List.append_assoc, ← List.append_assoc]
    exact List.Perm.append_right _ List.perm_append_comm
  | trans _ _ h1 h2 => exact h1.trans h2
theorem foc1 {l1 l2 : List va_W} {x x' : va_W} : FocP (l1 ++ x :: l2).flatten x (l1 ++ x' :: l2).flatten x' := ⟨(l1 ++ l2).flatten, perm_flat List.perm_middle, perm_flat List.perm_middle⟩
theorem foc2a {l1 l2 l3 : List va_W} {x y : va_W} : (l1 ++ x :: (l2 ++ y :: l3)).flatten.Perm ((x ++ y) ++ (l1 ++ (l2 ++ l3)).flatten) := by
  have h : (l1 ++ x :: (l2 ++ y :: l3)).Perm (x :: y :: (l1 ++ (l2 ++ l3))) := by
    refine List.perm_middle.trans (List.Perm.cons x ?_)
    rw [← List.append_assoc]
    refine List.perm_middle.trans (List.Perm.cons y ?_)
    rw [List.append_assoc]
  have h2 := perm_flat h
  rw [List.flatten_cons (l := x), List.flatten_cons (l := y), ← List.append_assoc] at h2
  exact h2
theorem foc2 {l1 l2 l3 : List va_W} {x y x' y' : va_W} : FocP (l1 ++ x :: (l2 ++ y :: l3)).flatten (x ++ y) (l1 ++ x' :: (l2 ++ y' :: l3)).flatten (x' ++ y') := ⟨_, foc2a, foc2a⟩
theorem foc2r {l1 l2 l3 : List va_W} {x y x' y' : va_W} : FocP (l1 ++ y :: (l2 ++ x :: l3)).flatten (x ++ y) (l1 ++ y' :: (l2 ++ x' :: l3)).flatten (x' ++ y') := ⟨_, foc2a.trans (List.Perm.append_right _ List.perm_append_comm), foc2a.trans (List.Perm.append_right _ List.perm_append_comm)⟩
theorem foc3a {l1 l2 l3 l4 : List va_W} {x y z : va_W} : (l1 ++ z :: (l2 ++ x :: (l3 ++ y :: l4))).flatten.Perm ((x ++ (y ++ z)) ++ (l1 ++ (l2 ++ (l3 ++ l4))).flatten) := by
  have h : (l1 ++ z :: (l2 ++ x :: (l3 ++ y :: l4))).Perm (z :: x :: y :: (l1 ++ (l2 ++ (l3 ++ l4)))) := by
    refine List.perm_middle.trans (List.Perm.cons z ?_)
    rw [← List.append_assoc]
    refine List.perm_middle.trans (List.Perm.cons x ?_)
    rw [← List.append_assoc]
    refine List.perm_middle.trans (List.Perm.cons y ?_)
    rw [List.append_assoc, List.append_assoc]
  have h2 := perm_flat h
  rw [List.flatten_cons (l := z), List.flatten_cons (l := x), List.flatten_cons (l := y)] at h2
  refine h2.trans ?_
  have h3 : (z ++ (x ++ (y ++ (l1 ++ (l2 ++ (l3 ++ l4))).flatten))) = (z ++ (x ++ y)) ++ (l1 ++ (l2 ++ (l3 ++ l4))).flatten := by simp only [List.append_assoc]
  rw [h3]
  refine List.Perm.append_right _ ?_
  refine List.perm_append_comm.trans ?_
  rw [List.append_assoc]
theorem foc3 {l1 l2 l3 l4 : List va_W} {x y z x' y' z' : va_W} : FocP (l1 ++ z :: (l2 ++ x :: (l3 ++ y :: l4))).flatten (x ++ (y ++ z)) (l1 ++ z' :: (l2 ++ x' :: (l3 ++ y' :: l4))).flatten (x' ++ (y' ++ z')) := ⟨_, foc3a, foc3a⟩
theorem foc_r0 (γ : Gm) (a : Nat → Nat → Nat) (so : GS) (r0 : GS) (r1 : GS) (r2 : GS) (rw : Nat → GS) (re : Nat → Nat → Int64) (tn : Option Nat) (se : GS) (sv : GS) (sk : GS) (sd : GS) (r0' : GS) : FocP (wC γ a so r0 r1 r2 rw re tn se sv sk sd) (wR γ (a 1) r0) (wC γ a so r0' r1 r2 rw re tn se sv sk sd) (wR γ (a 1) r0') := foc1 (l1 := [_]) (l2 := [_, _, _, _, _, _, _, _, _, _, _, _, _, _])
theorem foc_r1 (γ : Gm) (a : Nat → Nat → Nat) (so : GS) (r0 : GS) (r1 : GS) (r2 : GS) (rw : Nat → GS) (re : Nat → Nat → Int64) (tn : Option Nat) (se : GS) (sv : GS) (sk : GS) (sd : GS) (r1' : GS) : FocP (wC γ a so r0 r1 r2 rw re tn se sv sk sd) (wR γ (a 2) r1) (wC γ a so r0 r1' r2 rw re tn se sv sk sd) (wR γ (a 2) r1') := foc1 (l1 := [_, _]) (l2 := [_, _, _, _, _, _, _, _, _, _, _, _, _])
theorem foc_r2 (γ : Gm) (a : Nat → Nat → Nat) (so : GS) (r0 : GS) (r1 : GS) (r2 : GS) (rw : Nat → GS) (re : Nat → Nat → Int64) (tn : Option Nat) (se : GS) (sv : GS) (sk : GS) (sd : GS) (r2' : GS) : FocP (wC γ a so r0 r1 r2 rw re tn se sv sk sd) (wR γ (a 3) r2) (wC γ a so r0 r1 r2' rw re tn se sv sk sd) (wR γ (a 3) r2') := foc1 (l1 := [_, _, _]) (l2 := [_, _, _, _, _, _, _, _, _, _, _, _])
theorem foc_se (γ : Gm) (a : Nat → Nat → Nat) (so : GS) (r0 : GS) (r1 : GS) (r2 : GS) (rw : Nat → GS) (re : Nat → Nat → Int64) (tn : Option Nat) (se : GS) (sv : GS) (sk : GS) (sd : GS) (se' : GS) : FocP (wC γ a so r0 r1 r2 rw re tn se sv sk sd) (wE γ (a 4) (txV a tn) se) (wC γ a so r0 r1 r2 rw re tn se' sv sk sd) (wE γ (a 4) (txV a tn) se') := foc1 (l1 := [_, _, _, _]) (l2 := [_, _, _, _, _, _, _, _, _, _, _])
theorem foc_sv (γ : Gm) (a : Nat → Nat → Nat) (so : GS) (r0 : GS) (r1 : GS) (r2 : GS) (rw : Nat → GS) (re : Nat → Nat → Int64) (tn : Option Nat) (se : GS) (sv : GS) (sk : GS) (sd : GS) (sv' : GS) : FocP (wC γ a so r0 r1 r2 rw re tn se sv sk sd) (wV γ (a 5) sv) (wC γ a so r0 r1 r2 rw re tn se sv' sk sd) (wV γ (a 5) sv') := foc1 (l1 := [_, _, _, _, _]) (l2 := [_, _, _, _, _, _, _, _, _, _])
theorem foc_sk (γ : Gm) (a : Nat → Nat → Nat) (so : GS) (r0 : GS) (r1 : GS) (r2 : GS) (rw : Nat → GS) (re : Nat → Nat → Int64) (tn : Option Nat) (se : GS) (sv : GS) (sk : GS) (sd : GS) (sk' : GS) : FocP (wC γ a so r0 r1 r2 rw re tn se sv sk sd) (wK γ (a 6) sk) (wC γ a so r0 r1 r2 rw re tn se sv sk' sd) (wK γ (a 6) sk') := foc1 (l1 := [_, _, _, _, _, _]) (l2 := [_, _, _, _, _, _, _, _, _])
theorem foc_sd (γ : Gm) (a : Nat → Nat → Nat) (so : GS) (r0 : GS) (r1 : GS) (r2 : GS) (rw : Nat → GS) (re : Nat → Nat → Int64) (tn : Option Nat) (se : GS) (sv : GS) (sk : GS) (sd : GS) (sd' : GS) : FocP (wC γ a so r0 r1 r2 rw re tn se sv sk sd) (wD γ (a 7) sd) (wC γ a so r0 r1 r2 rw re tn se sv sk sd') (wD γ (a 7) sd') := foc1 (l1 := [_, _, _, _, _, _, _]) (l2 := [_, _, _, _, _, _, _, _])
theorem foc_rw (γ : Gm) (a : Nat → Nat → Nat) (so : GS) (r0 : GS) (r1 : GS) (r2 : GS) (rw : Nat → GS) (re : Nat → Nat → Int64) (tn : Option Nat) (se : GS) (sv : GS) (sk : GS) (sd : GS) {n : Nat} (h : n < 8) (g : GS) (f : Nat → Int64) : FocP (wC γ a so r0 r1 r2 rw re tn se sv sk sd) (wW γ (a (8 + n)) (rw n) (re n)) (wC γ a so r0 r1 r2 (va_up rw n g) (va_up re n f) tn se sv sk sd) (wW γ (a (8 + n)) g f) := by
  match n, h with
  | 0, _ => exact foc1 (l1 := [_, _, _, _, _, _, _, _]) (l2 := [_, _, _, _, _, _, _])
  | 1, _ => exact foc1 (l1 := [_, _, _, _, _, _, _, _, _]) (l2 := [_, _, _, _, _, _])
  | 2, _ => exact foc1 (l1 := [_, _, _, _, _, _, _, _, _, _]) (l2 := [_, _, _, _, _])
  | 3, _ => exact foc1 (l1 := [_, _, _, _, _, _, _, _, _, _, _]) (l2 := [_, _, _, _])
  | 4, _ => exact foc1 (l1 := [_, _, _, _, _, _, _, _, _, _, _, _]) (l2 := [_, _, _])
  | 5, _ => exact foc1 (l1 := [_, _, _, _, _, _, _, _, _, _, _, _, _]) (l2 := [_, _])
  | 6, _ => exact foc1 (l1 := [_, _, _, _, _, _, _, _, _, _, _, _, _, _]) (l2 := [_])
  | 7, _ => exact foc1 (l1 := [_, _, _, _, _, _, _, _, _, _, _, _, _, _, _]) (l2 := [])
theorem foc_r0_rw (γ : Gm) (a : Nat → Nat → Nat) (so : GS) (r0 : GS) (r1 : GS) (r2 : GS) (rw : Nat → GS) (re : Nat → Nat → Int64) (tn : Option Nat) (se : GS) (sv : GS) (sk : GS) (sd : GS) (r0' : GS) {n : Nat} (h : n < 8) (g : GS) (f : Nat → Int64) : FocP (wC γ a so r0 r1 r2 rw re tn se sv sk sd) (wR γ (a 1) r0 ++ wW γ (a (8 + n)) (rw n) (re n)) (wC γ a so r0' r1 r2 (va_up rw n g) (va_up re n f) tn se sv sk sd) (wR γ (a 1) r0' ++ wW γ (a (8 + n)) g f) := by
  match n, h with
  | 0, _ => exact foc2 (l1 := [_]) (l2 := [_, _, _, _, _, _]) (l3 := [_, _, _, _, _, _, _])
  | 1, _ => exact foc2 (l1 := [_]) (l2 := [_, _, _, _, _, _, _]) (l3 := [_, _, _, _, _, _])
  | 2, _ => exact foc2 (l1 := [_]) (l2 := [_, _, _, _, _, _, _, _]) (l3 := [_, _, _, _, _])
  | 3, _ => exact foc2 (l1 := [_]) (l2 := [_, _, _, _, _, _, _, _, _]) (l3 := [_, _, _, _])
  | 4, _ => exact foc2 (l1 := [_]) (l2 := [_, _, _, _, _, _, _, _, _, _]) (l3 := [_, _, _])
  | 5, _ => exact foc2 (l1 := [_]) (l2 := [_, _, _, _, _, _, _, _, _, _, _]) (l3 := [_, _])
  | 6, _ => exact foc2 (l1 := [_]) (l2 := [_, _, _, _, _, _, _, _, _, _, _, _]) (l3 := [_])
  | 7, _ => exact foc2 (l1 := [_]) (l2 := [_, _, _, _, _, _, _, _, _, _, _, _, _]) (l3 := [])
theorem foc_r2_rw (γ : Gm) (a : Nat → Nat → Nat) (so : GS) (r0 : GS) (r1 : GS) (r2 : GS) (rw : Nat → GS) (re : Nat → Nat → Int64) (tn : Option Nat) (se : GS) (sv : GS) (sk : GS) (sd : GS) (r2' : GS) {n : Nat} (h : n < 8) (g : GS) (f : Nat → Int64) : FocP (wC γ a so r0 r1 r2 rw re tn se sv sk sd) (wR γ (a 3) r2 ++ wW γ (a (8 + n)) (rw n) (re n)) (wC γ a so r0 r1 r2' (va_up rw n g) (va_up re n f) tn se sv sk sd) (wR γ (a 3) r2' ++ wW γ (a (8 + n)) g f) := by
  match n, h with
  | 0, _ => exact foc2 (l1 := [_, _, _]) (l2 := [_, _, _, _]) (l3 := [_, _, _, _, _, _, _])
  | 1, _ => exact foc2 (l1 := [_, _, _]) (l2 := [_, _, _, _, _]) (l3 := [_, _, _, _, _, _])
  | 2, _ => exact foc2 (l1 := [_, _, _]) (l2 := [_, _, _, _, _, _]) (l3 := [_, _, _, _, _])
  | 3, _ => exact foc2 (l1 := [_, _, _]) (l2 := [_, _, _, _, _, _, _]) (l3 := [_, _, _, _])
  | 4, _ => exact foc2 (l1 := [_, _, _]) (l2 := [_, _, _, _, _, _, _, _]) (l3 := [_, _, _])
  | 5, _ => exact foc2 (l1 := [_, _, _]) (l2 := [_, _, _, _, _, _, _, _, _]) (l3 := [_, _])
  | 6, _ => exact foc2 (l1 := [_, _, _]) (l2 := [_, _, _, _, _, _, _, _, _, _]) (l3 := [_])
  | 7, _ => exact foc2 (l1 := [_, _, _]) (l2 := [_, _, _, _, _, _, _, _, _, _, _]) (l3 := [])
theorem foc_se_rw (γ : Gm) (a : Nat → Nat → Nat) (so : GS) (r0 : GS) (r1 : GS) (r2 : GS) (rw : Nat → GS) (re : Nat → Nat → Int64) (se : GS) (sv : GS) (sk : GS) (sd : GS) (se' : GS) {n : Nat} (h : n < 8) (g : GS) (f : Nat → Int64) : FocP (wC γ a so r0 r1 r2 rw re (some n) se sv sk sd) (wE γ (a 4) (.ref (a (8 + n) 0)) se ++ wW γ (a (8 + n)) (rw n) (re n)) (wC γ a so r0 r1 r2 (va_up rw n g) (va_up re n f) (some n) se' sv sk sd) (wE γ (a 4) (.ref (a (8 + n) 0)) se' ++ wW γ (a (8 + n)) g f) := by
  match n, h with
  | 0, _ => exact foc2 (l1 := [_, _, _, _]) (l2 := [_, _, _]) (l3 := [_, _, _, _, _, _, _])
  | 1, _ => exact foc2 (l1 := [_, _, _, _]) (l2 := [_, _, _, _]) (l3 := [_, _, _, _, _, _])
  | 2, _ => exact foc2 (l1 := [_, _, _, _]) (l2 := [_, _, _, _, _]) (l3 := [_, _, _, _, _])
  | 3, _ => exact foc2 (l1 := [_, _, _, _]) (l2 := [_, _, _, _, _, _]) (l3 := [_, _, _, _])
  | 4, _ => exact foc2 (l1 := [_, _, _, _]) (l2 := [_, _, _, _, _, _, _]) (l3 := [_, _, _])
  | 5, _ => exact foc2 (l1 := [_, _, _, _]) (l2 := [_, _, _, _, _, _, _, _]) (l3 := [_, _])
  | 6, _ => exact foc2 (l1 := [_, _, _, _]) (l2 := [_, _, _, _, _, _, _, _, _]) (l3 := [_])
  | 7, _ => exact foc2 (l1 := [_, _, _, _]) (l2 := [_, _, _, _, _, _, _, _, _, _]) (l3 := [])
theorem foc_se_rw_r2 (γ : Gm) (a : Nat → Nat → Nat) (so : GS) (r0 : GS) (r1 : GS) (r2 : GS) (rw : Nat → GS) (re : Nat → Nat → Int64) (se : GS) (sv : GS) (sk : GS) (sd : GS) (se' : GS) (r2' : GS) {n : Nat} (h : n < 8) (g : GS) (f : Nat → Int64) : FocP (wC γ a so r0 r1 r2 rw re (some n) se sv sk sd) (wE γ (a 4) (.ref (a (8 + n) 0)) se ++ (wW γ (a (8 + n)) (rw n) (re n) ++ wR γ (a 3) r2)) (wC γ a so r0 r1 r2' (va_up rw n g) (va_up re n f) (some n) se' sv sk sd) (wE γ (a 4) (.ref (a (8 + n) 0)) se' ++ (wW γ (a (8 + n)) g f ++ wR γ (a 3) r2')) := by
  match n, h with
  | 0, _ => exact foc3 (l1 := [_, _, _]) (l2 := []) (l3 := [_, _, _]) (l4 := [_, _, _, _, _, _, _])
  | 1, _ => exact foc3 (l1 := [_, _, _]) (l2 := []) (l3 := [_, _, _, _]) (l4 := [_, _, _, _, _, _])
  | 2, _ => exact foc3 (l1 := [_, _, _]) (l2 := []) (l3 := [_, _, _, _, _]) (l4 := [_, _, _, _, _])
  | 3, _ => exact foc3 (l1 := [_, _, _]) (l2 := []) (l3 := [_, _, _, _, _, _]) (l4 := [_, _, _, _])
  | 4, _ => exact foc3 (l1 := [_, _, _]) (l2 := []) (l3 := [_, _, _, _, _, _, _]) (l4 := [_, _, _])
  | 5, _ => exact foc3 (l1 := [_, _, _]) (l2 := []) (l3 := [_, _, _, _, _, _, _, _]) (l4 := [_, _])
  | 6, _ => exact foc3 (l1 := [_, _, _]) (l2 := []) (l3 := [_, _, _, _, _, _, _, _, _]) (l4 := [_])
  | 7, _ => exact foc3 (l1 := [_, _, _]) (l2 := []) (l3 := [_, _, _, _, _, _, _, _, _, _]) (l4 := [])
theorem foc_se_r2 (γ : Gm) (a : Nat → Nat → Nat) (so : GS) (r0 : GS) (r1 : GS) (r2 : GS) (rw : Nat → GS) (re : Nat → Nat → Int64) (tn : Option Nat) (se : GS) (sv : GS) (sk : GS) (sd : GS) (se' : GS) (r2' : GS) : FocP (wC γ a so r0 r1 r2 rw re tn se sv sk sd) (wE γ (a 4) (txV a tn) se ++ wR γ (a 3) r2) (wC γ a so r0 r1 r2' rw re tn se' sv sk sd) (wE γ (a 4) (txV a tn) se' ++ wR γ (a 3) r2') := foc2r (l1 := [_, _, _]) (l2 := []) (l3 := [_, _, _, _, _, _, _, _, _, _, _])
theorem foc_sk_r0 (γ : Gm) (a : Nat → Nat → Nat) (so : GS) (r0 : GS) (r1 : GS) (r2 : GS) (rw : Nat → GS) (re : Nat → Nat → Int64) (tn : Option Nat) (se : GS) (sv : GS) (sk : GS) (sd : GS) (sk' : GS) (r0' : GS) : FocP (wC γ a so r0 r1 r2 rw re tn se sv sk sd) (wK γ (a 6) sk ++ wR γ (a 1) r0) (wC γ a so r0' r1 r2 rw re tn se sv sk' sd) (wK γ (a 6) sk' ++ wR γ (a 1) r0') := foc2r (l1 := [_]) (l2 := [_, _, _, _]) (l3 := [_, _, _, _, _, _, _, _, _])
theorem foc_sk_r2 (γ : Gm) (a : Nat → Nat → Nat) (so : GS) (r0 : GS) (r1 : GS) (r2 : GS) (rw : Nat → GS) (re : Nat → Nat → Int64) (tn : Option Nat) (se : GS) (sv : GS) (sk : GS) (sd : GS) (sk' : GS) (r2' : GS) : FocP (wC γ a so r0 r1 r2 rw re tn se sv sk sd) (wK γ (a 6) sk ++ wR γ (a 3) r2) (wC γ a so r0 r1 r2' rw re tn se sv sk' sd) (wK γ (a 6) sk' ++ wR γ (a 3) r2') := foc2r (l1 := [_, _, _]) (l2 := [_, _]) (l3 := [_, _, _, _, _, _, _, _, _])
theorem foc_sd_r0 (γ : Gm) (a : Nat → Nat → Nat) (so : GS) (r0 : GS) (r1 : GS) (r2 : GS) (rw : Nat → GS) (re : Nat → Nat → Int64) (tn : Option Nat) (se : GS) (sv : GS) (sk : GS) (sd : GS) (sd' : GS) (r0' : GS) : FocP (wC γ a so r0 r1 r2 rw re tn se sv sk sd) (wD γ (a 7) sd ++ wR γ (a 1) r0) (wC γ a so r0' r1 r2 rw re tn se sv sk sd') (wD γ (a 7) sd' ++ wR γ (a 1) r0') := foc2r (l1 := [_]) (l2 := [_, _, _, _, _]) (l3 := [_, _, _, _, _, _, _, _])
theorem foc_sv_r0 (γ : Gm) (a : Nat → Nat → Nat) (so : GS) (r0 : GS) (r1 : GS) (r2 : GS) (rw : Nat → GS) (re : Nat → Nat → Int64) (tn : Option Nat) (se : GS) (sv : GS) (sk : GS) (sd : GS) (sv' : GS) (r0' : GS) : FocP (wC γ a so r0 r1 r2 rw re tn se sv sk sd) (wV γ (a 5) sv ++ wR γ (a 1) r0) (wC γ a so r0' r1 r2 rw re tn se sv' sk sd) (wV γ (a 5) sv' ++ wR γ (a 1) r0') := foc2r (l1 := [_]) (l2 := [_, _, _]) (l3 := [_, _, _, _, _, _, _, _, _, _])
theorem foc_r0_r2 (γ : Gm) (a : Nat → Nat → Nat) (so : GS) (r0 : GS) (r1 : GS) (r2 : GS) (rw : Nat → GS) (re : Nat → Nat → Int64) (tn : Option Nat) (se : GS) (sv : GS) (sk : GS) (sd : GS) (r0' : GS) (r2' : GS) : FocP (wC γ a so r0 r1 r2 rw re tn se sv sk sd) (wR γ (a 1) r0 ++ wR γ (a 3) r2) (wC γ a so r0' r1 r2' rw re tn se sv sk sd) (wR γ (a 1) r0' ++ wR γ (a 3) r2') := foc2 (l1 := [_]) (l2 := [_]) (l3 := [_, _, _, _, _, _, _, _, _, _, _, _])
theorem foc_r2_r0 (γ : Gm) (a : Nat → Nat → Nat) (so : GS) (r0 : GS) (r1 : GS) (r2 : GS) (rw : Nat → GS) (re : Nat → Nat → Int64) (tn : Option Nat) (se : GS) (sv : GS) (sk : GS) (sd : GS) (r2' : GS) (r0' : GS) : FocP (wC γ a so r0 r1 r2 rw re tn se sv sk sd) (wR γ (a 3) r2 ++ wR γ (a 1) r0) (wC γ a so r0' r1 r2' rw re tn se sv sk sd) (wR γ (a 3) r2' ++ wR γ (a 1) r0') := foc2r (l1 := [_]) (l2 := [_]) (l3 := [_, _, _, _, _, _, _, _, _, _, _, _])
theorem foc_r0_r1 (γ : Gm) (a : Nat → Nat → Nat) (so : GS) (r0 : GS) (r1 : GS) (r2 : GS) (rw : Nat → GS) (re : Nat → Nat → Int64) (tn : Option Nat) (se : GS) (sv : GS) (sk : GS) (sd : GS) (r0' : GS) (r1' : GS) : FocP (wC γ a so r0 r1 r2 rw re tn se sv sk sd) (wR γ (a 1) r0 ++ wR γ (a 2) r1) (wC γ a so r0' r1' r2 rw re tn se sv sk sd) (wR γ (a 1) r0' ++ wR γ (a 2) r1') := foc2 (l1 := [_]) (l2 := []) (l3 := [_, _, _, _, _, _, _, _, _, _, _, _, _])
theorem foc_r1_r0 (γ : Gm) (a : Nat → Nat → Nat) (so : GS) (r0 : GS) (r1 : GS) (r2 : GS) (rw : Nat → GS) (re : Nat → Nat → Int64) (tn : Option Nat) (se : GS) (sv : GS) (sk : GS) (sd : GS) (r1' : GS) (r0' : GS) : FocP (wC γ a so r0 r1 r2 rw re tn se sv sk sd) (wR γ (a 2) r1 ++ wR γ (a 1) r0) (wC γ a so r0' r1' r2 rw re tn se sv sk sd) (wR γ (a 2) r1' ++ wR γ (a 1) r0') := foc2r (l1 := [_]) (l2 := []) (l3 := [_, _, _, _, _, _, _, _, _, _, _, _, _])
theorem foc_beg (γ : Gm) (a : Nat → Nat → Nat) (so : GS) (r0 : GS) (r1 : GS) (r2 : GS) (rw : Nat → GS) (re : Nat → Nat → Int64) (tn : Option Nat) (se : GS) (sv : GS) (sk : GS) (sd : GS) (se' : GS) (n : Nat) : FocP (wC γ a so r0 r1 r2 rw re tn se sv sk sd) (wE γ (a 4) (txV a tn) se) (wC γ a so r0 r1 r2 rw re (some n) se' sv sk sd) (wE γ (a 4) (.ref (a (8 + n) 0)) se') := foc1 (l1 := [_, _, _, _]) (l2 := [_, _, _, _, _, _, _, _, _, _, _])
theorem row_at (γ : Gm) (a : Nat → Nat → Nat) (so : GS) (r0 : GS) (r1 : GS) (r2 : GS) (rw : Nat → GS) (re : Nat → Nat → Int64) (tn : Option Nat) (se : GS) (sv : GS) (sk : GS) (sd : GS) {n : Nat} (h : n < 8) : (wC γ a so r0 r1 r2 rw re tn se sv sk sd)[57 + 2 * n]? = some (a (8 + n) 0, .inr (5, [.ref (a (8 + n) 1), .int (rw n 0 1), .int (rw n 0 2)])) := by
  match n, h with
  | 0, _ => rfl
  | 1, _ => rfl
  | 2, _ => rfl
  | 3, _ => rfl
  | 4, _ => rfl
  | 5, _ => rfl
  | 6, _ => rfl
  | 7, _ => rfl
theorem un_at {ad : Nat → Nat} {d : GS} {w : va_W} (γ : Gm) {n : Nat} (h : n < 4) : (wD γ ad d ++ w)[4 + n]? = some (ad (10 + n), .inl (γ.2.1 0, 10, .inl (d (10 + n)))) := by
  match n, h with
  | 0, _ => rfl
  | 1, _ => rfl
  | 2, _ => rfl
  | 3, _ => rfl
theorem un_set {ad : Nat → Nat} {d : GS} {w : va_W} (γ : Gm) {n : Nat} (h : n < 4) {f : Nat → Int32} : (wD γ ad d ++ w).set (4 + n) (ad (10 + n), .inl (γ.2.1 0, 10, .inl f)) = wD γ ad (s2 d (10 + n) f) ++ w := by
  match n, h with
  | 0, _ => rfl
  | 1, _ => rfl
  | 2, _ => rfl
  | 3, _ => rfl
def cpB (sp dp n : Int32) (n0 n1 : Nat) : Bool := decide (¬ sp < 0) && (decide (¬ dp < 0) && (decide (¬ n < 0) && (decide (sp.toNatClampNeg + n.toNatClampNeg ≤ n0) && decide (dp.toNatClampNeg + n.toNatClampNeg ≤ n1))))
section CPB
variable {sp dp n : Int32} {n0 n1 : Nat}
theorem cpB_all (h : cpB sp dp n n0 n1 = true) : ¬ sp < 0 ∧ ¬ dp < 0 ∧ ¬ n < 0 ∧ sp.toNatClampNeg + n.toNatClampNeg ≤ n0 ∧ dp.toNatClampNeg + n.toNatClampNeg ≤ n1 := by
  unfold cpB at h
  simp only [Bool.and_eq_true, decide_eq_true_eq] at h
  exact h
theorem cpB1 (h : cpB sp dp n n0 n1 = true) : ¬ sp < 0 := (cpB_all h).1
theorem cpB2 (h : cpB sp dp n n0 n1 = true) : ¬ dp < 0 := (cpB_all h).2.1
theorem cpB3 (h : cpB sp dp n n0 n1 = true) : ¬ n < 0 := (cpB_all h).2.2.1
theorem cpB4 (h : cpB sp dp n n0 n1 = true) : sp.toNatClampNeg + n.toNatClampNeg ≤ n0 := (cpB_all h).2.2.2.1
theorem cpB5 (h : cpB sp dp n n0 n1 = true) : dp.toNatClampNeg + n.toNatClampNeg ≤ n1 := (cpB_all h).2.2.2.2
end CPB
