-- the mathematical value of a range, and how each side holds it
abbrev AG : Type := Nat → Nat → Nat
abbrev aP (g : AG) : Nat := g 0 0
abbrev aS (g : AG) : Nat := g 0 1
abbrev aV (g : AG) : Nat := g 0 2
abbrev aY (g : AG) : Nat := g 0 3
abbrev aW (g : AG) : Nat := g 6 0
abbrev stB (g : AG) (i : Nat) : Bool := (aW g).testBit i
abbrev seB (g : AG) (i j : Nat) : Bool := (g 7 i).testBit j
-- something of a height stands between two, on or above their line
def blk (g : AG) (l r : Nat) (at_ top : Nat) : Bool := decide (g 3 l < at_) && (decide (at_ < g 3 r) && decide (g 4 l * (g 3 r - at_) + g 4 r * (at_ - g 3 l) ≤ top * (g 3 r - g 3 l)))
def freeB (g : AG) (l r : Nat) : Bool := !(anyF (fun p => stB g p && blk g l r (g 3 p) (g 4 p)) (aP g)) && !(anyF (fun i => blk g l r (g 9 i) (g 10 i)) (aS g))
def farK (k : Nat) : Bool := k == 4 || k == 6
def nearB (g : AG) (i j : Nat) : Bool := !farK (g 1 i) || decide ((if g 3 i < g 3 j then g 3 j - g 3 i else g 3 i - g 3 j) ≤ 10 * g 2 i + 10)
def visB (g : AG) (i j : Nat) : Bool := (stB g i && stB g j) && (if g 3 i < g 3 j then freeB g i j && nearB g i j else if g 3 j < g 3 i then freeB g j i && nearB g i j else false)
def RepR (g : AG) (r : GS) : Prop :=
  (r 0 0 = nI (aP g) ∧ r 0 1 = nI (aW g) ∧ r 0 10 = nI (aS g) ∧ r 0 13 = nI (aV g) ∧ r 0 16 = nI (aY g)) ∧
  (∀ i, i < aP g → r 3 i = nI (g 1 i) ∧ r 4 i = nI (g 2 i) ∧ r 5 i = nI (g 3 i) ∧ r 6 i = nI (g 4 i) ∧ r 7 i = nI (g 5 i) ∧ r 8 i = nI (g 7 i)) ∧
  (∀ i j, i < aP g → j < aP g → seB g i j = true → r 9 (10 * i + j) = nI (g 8 (10 * i + j))) ∧
  (∀ i, i < aS g → r 12 i = nI (g 9 i) ∧ r 13 i = nI (g 10 i)) ∧
  (∀ i, i < aV g → r 15 i = nI (g 11 i) ∧ r 16 i = nI (g 12 i))
def RepM (g : AG) (s : GS) : Prop :=
  (s 0 3 = nI (aP g) ∧ s 0 11 = nI (aS g) ∧ s 0 14 = nI (aV g) ∧ s 0 17 = nI (aY g)) ∧
  (∀ i, i < aP g → s 5 i = nI (g 1 i) ∧ s 6 i = nI (g 2 i) ∧ s 7 i = nI (g 3 i) ∧ s 8 i = nI (g 4 i) ∧ s 10 i = nI (g 5 i) ∧ s 9 i = bI (stB g i)) ∧
  (∀ i j, i < aP g → j < aP g → s 11 (10 * i + j) = if seB g i j = true then nI (g 8 (10 * i + j)) else -1) ∧
  (∀ i, i < aS g → s 13 i = nI (g 9 i) ∧ s 14 i = nI (g 10 i)) ∧
  (∀ i, i < aV g → s 16 i = nI (g 11 i) ∧ s 17 i = nI (g 12 i))
-- numbers in their bounds (B: no year lies beyond)
def WfN (B : Nat) (g : AG) : Prop :=
  (aP g ≤ 10 ∧ aS g ≤ 6 ∧ aV g ≤ 8 ∧ aY g ≤ B ∧ B ≤ 20000000 ∧ aW g < 2 ^ aP g) ∧
  (∀ i, i < aP g → g 1 i < 7 ∧ g 2 i < 10 ∧ g 3 i < 100 ∧ (1 ≤ g 4 i ∧ g 4 i < 1000) ∧ g 5 i ≤ 3 * B ∧ g 7 i < 2 ^ aP g) ∧
  (∀ i j, i < aP g → j < aP g → seB g i j = true → g 8 (10 * i + j) ≤ aY g) ∧
  (∀ i, i < aS g → g 9 i < 100 ∧ (1 ≤ g 10 i ∧ g 10 i < 1000)) ∧
  (∀ i, i < aV g → g 11 i < 1000 ∧ g 12 i < 2 ^ aP g) ∧
  (∀ i j, i < aP g → j < aP g → g 3 i = g 3 j → i = j)
-- who sees whom is as it must be
def WfV (g : AG) : Prop := ∀ i j, i < aP g → j < aP g → seB g i j = visB g i j
def Wf (B : Nat) (g : AG) : Prop := WfN B g ∧ WfV g
def isIx (x : Int32) (n : Nat) : Bool := decide (¬ x < 0) && decide (x < nI n)
theorem isIx_n {i n : Nat} (hi : i < 2147483648) (hn : n < 2147483648) : isIx (nI i) n = decide (i < n) := by
  unfold isIx
  simp only [n_neg hi, n_lt hi hn, not_false_eq_true, decide_true, Bool.true_and]
theorem isIx_of {x : Int32} {n : Nat} (hn : n < 2147483648) (h : isIx x n = true) : ∃ i, i < n ∧ x = nI i := by
  unfold isIx at h
  rw [Bool.and_eq_true, decide_eq_true_eq, decide_eq_true_eq] at h
  rcases pk_ix x hn with h1 | h1 | h1
  · exact absurd h1 h.1
  · exact absurd h.2 (Int32.not_lt.mpr h1)
  · exact h1
section WF
variable {B : Nat} {g : AG}
theorem Wf.p10 (h : WfN B g) : aP g ≤ 10 := h.1.1
theorem Wf.wlt (h : WfN B g) : aW g < 1073741825 := lt31 h.1.2.2.2.2.2 (by have := h.1.1; omega)
theorem Wf.slt (h : WfN B g) {i : Nat} (hi : i < aP g) : g 7 i < 1073741825 := lt31 (h.2.1 i hi).2.2.2.2.2 (by have := h.1.1; omega)
theorem Wf.ult (h : WfN B g) {i : Nat} (hi : i < aV g) : g 12 i < 1073741825 := lt31 (h.2.2.2.2.1 i hi).2 (by have := h.1.1; omega)
theorem Wf.st_lt (h : WfN B g) {i : Nat} (hs : stB g i = true) : i < aP g := by
  by_cases hi : i < aP g
  · exact hi
  · have h2 : stB g i = false := tb_hi h.1.2.2.2.2.2 (by omega)
    rw [h2] at hs; cases hs
theorem Wf.se_lt (h : WfN B g) {i j : Nat} (hi : i < aP g) (hs : seB g i j = true) : j < aP g := by
  by_cases hj : j < aP g
  · exact hj
  · have h2 : seB g i j = false := tb_hi (h.2.1 i hi).2.2.2.2.2 (by omega)
    rw [h2] at hs; cases hs
end WF
