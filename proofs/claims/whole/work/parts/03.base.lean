-- ===== the state words, the contract of a method that makes no cells, its calls =====
abbrev Gm : Type := va_G × (Nat → ClassId) × (Nat → Nat)
abbrev GS : Type := Nat → Nat → Int32
def TY (γ : Gm) : List (ClassId × FieldType) := [(γ.2.1 0, .int), (γ.2.1 1, .long), (γ.2.1 2, .object RX5), (γ.2.1 3, .array .int)]
def s2 (σ : GS) (k : Nat) (f : Nat → Int32) : GS := fun j => if j = k then f else σ j
theorem s2_eq (σ : GS) (k : Nat) (f : Nat → Int32) : s2 σ k f k = f := if_pos rfl
theorem s2_ne {σ : GS} {k j : Nat} {f : Nat → Int32} (h : j ≠ k) : s2 σ k f j = σ j := if_neg h
def nmd {α β : Type} (e : α) (k : α → β) : β := k e
theorem nm_of {α β : Type} {e : α} {k : α → β} {z : β} (h : nmd e k = z) : ∃ x, x = e ∧ k x = z := ⟨e, rfl, h⟩
def gd {α : Type} (b : Bool) (a : Option α) : Option α := if b = true then a else none
theorem gd_of {α : Type} {b : Bool} {a : Option α} {z : α} (h : gd b a = some z) : b = true ∧ a = some z := by
  unfold gd at h
  by_cases hb : b = true
  · rw [if_pos hb] at h; exact ⟨hb, h⟩
  · rw [if_neg hb] at h; cases h
def bd {α β : Type} (e : Option α) (k : α → Option β) : Option β := match e with
  | none => none
  | some x => k x
theorem bd_of {α β : Type} {e : Option α} {k : α → Option β} {z : β} (h : bd e k = some z) : ∃ x, e = some x ∧ k x = some z := by
  cases e with
  | none => cases h
  | some x => exact ⟨x, rfl, h⟩
def bd2 {t1 t2 δ : Type} (e : Option (t1 × t2)) (k : t1 → t2 → Option δ) : Option δ := match e with
  | none => none
  | some x => k (x.1) (x.2)
theorem bd2_of {t1 t2 δ : Type} {e : Option (t1 × t2)} {k : t1 → t2 → Option δ} {z : δ} (h : bd2 e k = some z) : ∃ x1 x2, e = some (x1, x2) ∧ k x1 x2 = some z := by
  cases e with
  | none => cases h
  | some x => exact ⟨x.1, x.2, rfl, h⟩
theorem rt2 {t1 t2 : Type} {x1 y1 : t1} {x2 y2 : t2} (h : some (x1, x2) = some (y1, y2)) : x1 = y1 ∧ x2 = y2 := by
  cases h
  exact ⟨rfl, rfl⟩
def bd3 {t1 t2 t3 δ : Type} (e : Option (t1 × t2 × t3)) (k : t1 → t2 → t3 → Option δ) : Option δ := match e with
  | none => none
  | some x => k (x.1) (x.2.1) (x.2.2)
theorem bd3_of {t1 t2 t3 δ : Type} {e : Option (t1 × t2 × t3)} {k : t1 → t2 → t3 → Option δ} {z : δ} (h : bd3 e k = some z) : ∃ x1 x2 x3, e = some (x1, x2, x3) ∧ k x1 x2 x3 = some z := by
  cases e with
  | none => cases h
  | some x => exact ⟨x.1, x.2.1, x.2.2, rfl, h⟩
theorem rt3 {t1 t2 t3 : Type} {x1 y1 : t1} {x2 y2 : t2} {x3 y3 : t3} (h : some (x1, x2, x3) = some (y1, y2, y3)) : x1 = y1 ∧ x2 = y2 ∧ x3 = y3 := by
  cases h
  exact ⟨rfl, rfl, rfl⟩
def bd4 {t1 t2 t3 t4 δ : Type} (e : Option (t1 × t2 × t3 × t4)) (k : t1 → t2 → t3 → t4 → Option δ) : Option δ := match e with
  | none => none
  | some x => k (x.1) (x.2.1) (x.2.2.1) (x.2.2.2)
theorem bd4_of {t1 t2 t3 t4 δ : Type} {e : Option (t1 × t2 × t3 × t4)} {k : t1 → t2 → t3 → t4 → Option δ} {z : δ} (h : bd4 e k = some z) : ∃ x1 x2 x3 x4, e = some (x1, x2, x3, x4) ∧ k x1 x2 x3 x4 = some z := by
  cases e with
  | none => cases h
  | some x => exact ⟨x.1, x.2.1, x.2.2.1, x.2.2.2, rfl, h⟩
theorem rt4 {t1 t2 t3 t4 : Type} {x1 y1 : t1} {x2 y2 : t2} {x3 y3 : t3} {x4 y4 : t4} (h : some (x1, x2, x3, x4) = some (y1, y2, y3, y4)) : x1 = y1 ∧ x2 = y2 ∧ x3 = y3 ∧ x4 = y4 := by
  cases h
  exact ⟨rfl, rfl, rfl, rfl⟩
def bd5 {t1 t2 t3 t4 t5 δ : Type} (e : Option (t1 × t2 × t3 × t4 × t5)) (k : t1 → t2 → t3 → t4 → t5 → Option δ) : Option δ := match e with
  | none => none
  | some x => k (x.1) (x.2.1) (x.2.2.1) (x.2.2.2.1) (x.2.2.2.2)
theorem bd5_of {t1 t2 t3 t4 t5 δ : Type} {e : Option (t1 × t2 × t3 × t4 × t5)} {k : t1 → t2 → t3 → t4 → t5 → Option δ} {z : δ} (h : bd5 e k = some z) : ∃ x1 x2 x3 x4 x5, e = some (x1, x2, x3, x4, x5) ∧ k x1 x2 x3 x4 x5 = some z := by
  cases e with
  | none => cases h
  | some x => exact ⟨x.1, x.2.1, x.2.2.1, x.2.2.2.1, x.2.2.2.2, rfl, h⟩
theorem rt5 {t1 t2 t3 t4 t5 : Type} {x1 y1 : t1} {x2 y2 : t2} {x3 y3 : t3} {x4 y4 : t4} {x5 y5 : t5} (h : some (x1, x2, x3, x4, x5) = some (y1, y2, y3, y4, y5)) : x1 = y1 ∧ x2 = y2 ∧ x3 = y3 ∧ x4 = y4 ∧ x5 = y5 := by
  cases h
  exact ⟨rfl, rfl, rfl, rfl, rfl⟩
def bd6 {t1 t2 t3 t4 t5 t6 δ : Type} (e : Option (t1 × t2 × t3 × t4 × t5 × t6)) (k : t1 → t2 → t3 → t4 → t5 → t6 → Option δ) : Option δ := match e with
  | none => none
  | some x => k (x.1) (x.2.1) (x.2.2.1) (x.2.2.2.1) (x.2.2.2.2.1) (x.2.2.2.2.2)
theorem bd6_of {t1 t2 t3 t4 t5 t6 δ : Type} {e : Option (t1 × t2 × t3 × t4 × t5 × t6)} {k : t1 → t2 → t3 → t4 → t5 → t6 → Option δ} {z : δ} (h : bd6 e k = some z) : ∃ x1 x2 x3 x4 x5 x6, e = some (x1, x2, x3, x4, x5, x6) ∧ k x1 x2 x3 x4 x5 x6 = some z := by
  cases e with
  | none => cases h
  | some x => exact ⟨x.1, x.2.1, x.2.2.1, x.2.2.2.1, x.2.2.2.2.1, x.2.2.2.2.2, rfl, h⟩
theorem rt6 {t1 t2 t3 t4 t5 t6 : Type} {x1 y1 : t1} {x2 y2 : t2} {x3 y3 : t3} {x4 y4 : t4} {x5 y5 : t5} {x6 y6 : t6} (h : some (x1, x2, x3, x4, x5, x6) = some (y1, y2, y3, y4, y5, y6)) : x1 = y1 ∧ x2 = y2 ∧ x3 = y3 ∧ x4 = y4 ∧ x5 = y5 ∧ x6 = y6 := by
  cases h
  exact ⟨rfl, rfl, rfl, rfl, rfl, rfl⟩
def bd7 {t1 t2 t3 t4 t5 t6 t7 δ : Type} (e : Option (t1 × t2 × t3 × t4 × t5 × t6 × t7)) (k : t1 → t2 → t3 → t4 → t5 → t6 → t7 → Option δ) : Option δ := match e with
  | none => none
  | some x => k (x.1) (x.2.1) (x.2.2.1) (x.2.2.2.1) (x.2.2.2.2.1) (x.2.2.2.2.2.1) (x.2.2.2.2.2.2)
theorem bd7_of {t1 t2 t3 t4 t5 t6 t7 δ : Type} {e : Option (t1 × t2 × t3 × t4 × t5 × t6 × t7)} {k : t1 → t2 → t3 → t4 → t5 → t6 → t7 → Option δ} {z : δ} (h : bd7 e k = some z) : ∃ x1 x2 x3 x4 x5 x6 x7, e = some (x1, x2, x3, x4, x5, x6, x7) ∧ k x1 x2 x3 x4 x5 x6 x7 = some z := by
  cases e with
  | none => cases h
  | some x => exact ⟨x.1, x.2.1, x.2.2.1, x.2.2.2.1, x.2.2.2.2.1, x.2.2.2.2.2.1, x.2.2.2.2.2.2, rfl, h⟩
theorem rt7 {t1 t2 t3 t4 t5 t6 t7 : Type} {x1 y1 : t1} {x2 y2 : t2} {x3 y3 : t3} {x4 y4 : t4} {x5 y5 : t5} {x6 y6 : t6} {x7 y7 : t7} (h : some (x1, x2, x3, x4, x5, x6, x7) = some (y1, y2, y3, y4, y5, y6, y7)) : x1 = y1 ∧ x2 = y2 ∧ x3 = y3 ∧ x4 = y4 ∧ x5 = y5 ∧ x6 = y6 ∧ x7 = y7 := by
  cases h
  exact ⟨rfl, rfl, rfl, rfl, rfl, rfl, rfl⟩
def bd8 {t1 t2 t3 t4 t5 t6 t7 t8 δ : Type} (e : Option (t1 × t2 × t3 × t4 × t5 × t6 × t7 × t8)) (k : t1 → t2 → t3 → t4 → t5 → t6 → t7 → t8 → Option δ) : Option δ := match e with
  | none => none
  | some x => k (x.1) (x.2.1) (x.2.2.1) (x.2.2.2.1) (x.2.2.2.2.1) (x.2.2.2.2.2.1) (x.2.2.2.2.2.2.1) (x.2.2.2.2.2.2.2)
theorem bd8_of {t1 t2 t3 t4 t5 t6 t7 t8 δ : Type} {e : Option (t1 × t2 × t3 × t4 × t5 × t6 × t7 × t8)} {k : t1 → t2 → t3 → t4 → t5 → t6 → t7 → t8 → Option δ} {z : δ} (h : bd8 e k = some z) : ∃ x1 x2 x3 x4 x5 x6 x7 x8, e = some (x1, x2, x3, x4, x5, x6, x7, x8) ∧ k x1 x2 x3 x4 x5 x6 x7 x8 = some z := by
  cases e with
  | none => cases h
  | some x => exact ⟨x.1, x.2.1, x.2.2.1, x.2.2.2.1, x.2.2.2.2.1, x.2.2.2.2.2.1, x.2.2.2.2.2.2.1, x.2.2.2.2.2.2.2, rfl, h⟩
theorem rt8 {t1 t2 t3 t4 t5 t6 t7 t8 : Type} {x1 y1 : t1} {x2 y2 : t2} {x3 y3 : t3} {x4 y4 : t4} {x5 y5 : t5} {x6 y6 : t6} {x7 y7 : t7} {x8 y8 : t8} (h : some (x1, x2, x3, x4, x5, x6, x7, x8) = some (y1, y2, y3, y4, y5, y6, y7, y8)) : x1 = y1 ∧ x2 = y2 ∧ x3 = y3 ∧ x4 = y4 ∧ x5 = y5 ∧ x6 = y6 ∧ x7 = y7 ∧ x8 = y8 := by
  cases h
  exact ⟨rfl, rfl, rfl, rfl, rfl, rfl, rfl, rfl⟩
def bd9 {t1 t2 t3 t4 t5 t6 t7 t8 t9 δ : Type} (e : Option (t1 × t2 × t3 × t4 × t5 × t6 × t7 × t8 × t9)) (k : t1 → t2 → t3 → t4 → t5 → t6 → t7 → t8 → t9 → Option δ) : Option δ := match e with
  | none => none
  | some x => k (x.1) (x.2.1) (x.2.2.1) (x.2.2.2.1) (x.2.2.2.2.1) (x.2.2.2.2.2.1) (x.2.2.2.2.2.2.1) (x.2.2.2.2.2.2.2.1) (x.2.2.2.2.2.2.2.2)
theorem bd9_of {t1 t2 t3 t4 t5 t6 t7 t8 t9 δ : Type} {e : Option (t1 × t2 × t3 × t4 × t5 × t6 × t7 × t8 × t9)} {k : t1 → t2 → t3 → t4 → t5 → t6 → t7 → t8 → t9 → Option δ} {z : δ} (h : bd9 e k = some z) : ∃ x1 x2 x3 x4 x5 x6 x7 x8 x9, e = some (x1, x2, x3, x4, x5, x6, x7, x8, x9) ∧ k x1 x2 x3 x4 x5 x6 x7 x8 x9 = some z := by
  cases e with
  | none => cases h
  | some x => exact ⟨x.1, x.2.1, x.2.2.1, x.2.2.2.1, x.2.2.2.2.1, x.2.2.2.2.2.1, x.2.2.2.2.2.2.1, x.2.2.2.2.2.2.2.1, x.2.2.2.2.2.2.2.2, rfl, h⟩
theorem rt9 {t1 t2 t3 t4 t5 t6 t7 t8 t9 : Type} {x1 y1 : t1} {x2 y2 : t2} {x3 y3 : t3} {x4 y4 : t4} {x5 y5 : t5} {x6 y6 : t6} {x7 y7 : t7} {x8 y8 : t8} {x9 y9 : t9} (h : some (x1, x2, x3, x4, x5, x6, x7, x8, x9) = some (y1, y2, y3, y4, y5, y6, y7, y8, y9)) : x1 = y1 ∧ x2 = y2 ∧ x3 = y3 ∧ x4 = y4 ∧ x5 = y5 ∧ x6 = y6 ∧ x7 = y7 ∧ x8 = y8 ∧ x9 = y9 := by
  cases h
  exact ⟨rfl, rfl, rfl, rfl, rfl, rfl, rfl, rfl, rfl⟩
def bd10 {t1 t2 t3 t4 t5 t6 t7 t8 t9 t10 δ : Type} (e : Option (t1 × t2 × t3 × t4 × t5 × t6 × t7 × t8 × t9 × t10)) (k : t1 → t2 → t3 → t4 → t5 → t6 → t7 → t8 → t9 → t10 → Option δ) : Option δ := match e with
  | none => none
  | some x => k (x.1) (x.2.1) (x.2.2.1) (x.2.2.2.1) (x.2.2.2.2.1) (x.2.2.2.2.2.1) (x.2.2.2.2.2.2.1) (x.2.2.2.2.2.2.2.1) (x.2.2.2.2.2.2.2.2.1) (x.2.2.2.2.2.2.2.2.2)
theorem bd10_of {t1 t2 t3 t4 t5 t6 t7 t8 t9 t10 δ : Type} {e : Option (t1 × t2 × t3 × t4 × t5 × t6 × t7 × t8 × t9 × t10)} {k : t1 → t2 → t3 → t4 → t5 → t6 → t7 → t8 → t9 → t10 → Option δ} {z : δ} (h : bd10 e k = some z) : ∃ x1 x2 x3 x4 x5 x6 x7 x8 x9 x10, e = some (x1, x2, x3, x4, x5, x6, x7, x8, x9, x10) ∧ k x1 x2 x3 x4 x5 x6 x7 x8 x9 x10 = some z := by
  cases e with
  | none => cases h
  | some x => exact ⟨x.1, x.2.1, x.2.2.1, x.2.2.2.1, x.2.2.2.2.1, x.2.2.2.2.2.1, x.2.2.2.2.2.2.1, x.2.2.2.2.2.2.2.1, x.2.2.2.2.2.2.2.2.1, x.2.2.2.2.2.2.2.2.2, rfl, h⟩
theorem rt10 {t1 t2 t3 t4 t5 t6 t7 t8 t9 t10 : Type} {x1 y1 : t1} {x2 y2 : t2} {x3 y3 : t3} {x4 y4 : t4} {x5 y5 : t5} {x6 y6 : t6} {x7 y7 : t7} {x8 y8 : t8} {x9 y9 : t9} {x10 y10 : t10} (h : some (x1, x2, x3, x4, x5, x6, x7, x8, x9, x10) = some (y1, y2, y3, y4, y5, y6, y7, y8, y9, y10)) : x1 = y1 ∧ x2 = y2 ∧ x3 = y3 ∧ x4 = y4 ∧ x5 = y5 ∧ x6 = y6 ∧ x7 = y7 ∧ x8 = y8 ∧ x9 = y9 ∧ x10 = y10 := by
  cases h
  exact ⟨rfl, rfl, rfl, rfl, rfl, rfl, rfl, rfl, rfl, rfl⟩
theorem ite_p {c : Prop} [Decidable c] {α : Type} {a b z : α} (h : c) (hf : (if c then a else b) = z) : a = z := by rw [if_pos h] at hf; exact hf
theorem ite_n {c : Prop} [Decidable c] {α : Type} {a b z : α} (h : ¬ c) (hf : (if c then a else b) = z) : b = z := by rw [if_neg h] at hf; exact hf
theorem nm_y {α β : Type} {e y : α} {k : α → β} {z : β} (h : nmd e k = z) (he : y = e) : k y = z := by rw [he]; exact h
def tLen : List Nat := [4, 6, 6, 5, 5, 4]
def tByt : List (List Int32) := [[112, 101, 97, 107], [115, 99, 114, 101, 101, 110], [118, 97, 108, 108, 101, 121], [117, 110, 100, 101, 114], [121, 101, 97, 114, 115], [116, 97, 107, 101]]
def tLn (i : Nat) : Int32 := Int32.ofNat (tLen.getD i 0)
def tCh (i : Nat) (j : Int32) : Int32 := (tByt.getD i []).getD j.toNatClampNeg 0
def jmax (x y : Int32) : Int32 := if x < y then y else x
def jmin (x y : Int32) : Int32 := if y < x then y else x
def jabs (x : Int32) : Int32 := if 0 ≤ x then x else 0 - x
theorem up_id {α : Type} (f : Nat → α) (n : Nat) : va_up f n (f n) = f := by
  funext j
  unfold va_up
  by_cases h : j = n
  · subst h; exact if_pos rfl
  · exact if_neg h
def FU : Nat := 2000
def inB (i : Int32) (n : Nat) : Bool := decide (0 ≤ i.toInt) && decide (i.toInt < (n : Int))
theorem inB_vp {i : Int32} {n : Nat} (h : inB i n = true) : vp_in i n := by
  unfold inB at h
  rw [Bool.and_eq_true, decide_eq_true_eq, decide_eq_true_eq] at h
  exact vp_in_iff.mpr h
theorem inB_lt {i : Int32} {n : Nat} (h : inB i n = true) : i.toNatClampNeg < n := by
  have h2 := inB_vp h
  exact Nat.not_le.mp fun q => h2 (Or.inr q)
def isZ (v : Int32) : Bool := decide (v = 0) || decide (v = 1)
theorem isZ_nar {v : Int32} (h : isZ v = true) : narrow .boolean (.int v) = .int v := by
  unfold isZ at h
  rw [Bool.or_eq_true, decide_eq_true_eq, decide_eq_true_eq] at h
  rcases h with rfl | rfl <;> decide
def neB (v : Int32) : Bool := decide (¬ v = 0)
theorem neB_of {v : Int32} (h : neB v = true) : ¬ v = 0 := of_decide_eq_true h
def va_AOA (ty : FieldType) (U : State) : Prop := (Cond.arrayOver (.array ty)).before #[] U = true
theorem va_AOA.spec {t : FieldType} {s : State} (h : va_AOA t s) : ∃ comp c k, s.vm.findClass (FieldType.array t).toString = some comp ∧ (s.vm.classes.findIdx? fun x => match x.kind with | .array component _ => component == comp | _ => false) = some c ∧ s.vm.classes[c]? = some k ∧ k.kind = .array comp (.array t) ∧ s.vm.findClass ("[" ++ (FieldType.array t).toString) = some c := by
  unfold va_AOA Cond.before Cond.holds at h
  simp only [Cond.value, beq_iff_eq] at h
  cases hf : s.vm.findClass (FieldType.array t).toString with
  | none => simp [hf] at h
  | some comp =>
    simp only [hf, Option.bind_some, Option.bind_eq_some_iff, Option.map_eq_some_iff] at h
    obtain ⟨c, h1, k, h2, h3⟩ := h
    have h4 := (Array.findIdx?_eq_some_iff_getElem.mp h1).2.1
    rw [(Array.getElem?_eq_some_iff.mp h2).2] at h4
    cases hk : k.kind with
    | array co ty =>
      rw [hk] at h3 h4
      simp at h3 h4
      exact ⟨comp, c, k, rfl, h1, h2, by rw [hk, h4, h3.1], h3.2⟩
    | _ => rw [hk] at h3; simp at h3
theorem va_AOA.moved {ty : FieldType} {u U : State} (hvm : u.vm.Alike U.vm) (h : va_AOA ty u) : va_AOA ty U := by
  obtain ⟨comp, c, k, h1, h2, h3, h4, h5⟩ := va_AOA.spec h
  obtain ⟨k', hk', he⟩ := hvm.2.2 _ _ h3
  have hi : (U.vm.classes.findIdx? fun (x : Class) => match x.kind with | .array component _ => component == comp | _ => false) = some c := by
    exact (hvm.findIdx?_eqK _ (fun _ => rfl)).trans h2
  have hkind : k'.kind = .array comp (.array ty) := by rw [he]; exact h4
  have f1 : U.vm.findClass (FieldType.array ty).toString = some comp := by rw [hvm.findClass]; exact h1
  have f2 : U.vm.findClass ("[" ++ (FieldType.array ty).toString) = some c := by rw [hvm.findClass]; exact h5
  unfold va_AOA Cond.before Cond.holds
  simp only [Cond.value, f1, Option.bind_some, beq_iff_eq]
  rw [Option.bind_eq_some_iff]
  refine ⟨c, hi, ?_⟩
  simp [hk', hkind, f2]
-- what nobody writes: static tables, String constants
def tbAbove (j : Nat) : Int32 := ([-1, 0, 0, 1, 0, 2, 4] : List Int32).getD j 0
def tbNums (j : Nat) : Int32 := ([4, 2, 1, 2, 1, 1] : List Int32).getD j 0
def tbBodies (j : Nat) : Int32 := ([10, 20, 10, 20, 51, 10, 70, 11, 11, 30, 40, 11, 30, 71, 12, 12, 12, 12, 50, 60, 50] : List Int32).getD j 0
def txOf (i : Nat) : String := (["peak", "screen", "valley", "under", "years", "take"] : List String).getD i ""
def kX4 (i : Nat) : Nat := ([71, 73, 75, 77, 79, 81] : List Nat).getD i 0
def kX7 (i : Nat) : Nat := ([192, 203, 205, 207, 208, 213] : List Nat).getD i 0
abbrev sad (γ : Gm) (i : Nat) : Nat := γ.2.2 (10 + i)
abbrev sav (γ : Gm) (i : Nat) : Nat := γ.2.2 (20 + i)
def Ev (γ : Gm) (A : Nat → Prop) (U : State) (H : Heap) : Prop :=
  (va_Z "MountainsInMourning" "ABOVE" "[I" (.ref (γ.2.2 0)) A U H ∧ va_T .int (γ.2.2 0) 7 (fun j => .int (tbAbove j)) A U H) ∧
  (va_Z "MountainsInMourning$Reader" "NUMBERS_BEHIND" "[I" (.ref (γ.2.2 1)) A U H ∧ va_T .int (γ.2.2 1) 6 (fun j => .int (tbNums j)) A U H) ∧
  (va_Z "MountainsInMourning$Mover" "BODIES" "[I" (.ref (γ.2.2 2)) A U H ∧ va_T .int (γ.2.2 2) 21 (fun j => .int (tbBodies j)) A U H) ∧
  (vk_S 6 tLen tByt (sad γ) (sav γ) A U H ∧ va_Z "java/lang/String" "COMPACT_STRINGS" "Z" (.int 1) A U H ∧ va_Zq "jdk/internal/util/Preconditions" "SIOOBE_FORMATTER" "Ljava/util/function/BiFunction;" A U H) ∧
  (∀ i : Nat, i < 6 → vk_R RX4 (kX4 i) (txOf i) (sad γ i) U ∧ vk_R RX7 (kX7 i) (txOf i) (sad γ i) U) ∧
  (∀ w ∈ NW, va_Nw w U) ∧ va_AO RX5 U ∧ va_AOA .int U
theorem Ev.go {γ : Gm} {A B : Nat → Prop} {s U : State} {H : Heap} {locs : List Loc} (h : Ev γ A s s.heap) (hS : va_S A s.heap H locs) (hU : U.heap = H) (hW : s.WarmedH U.vm) (hAB : ∀ q, B q → A q) : Ev γ B U U.heap := by
  rw [hU]
  have q : ∀ a : Nat, a < s.heap.size → ¬ A a → H[a]? = s.heap[a]? := hS.2.1
  have m := hW.alike
  obtain ⟨⟨a1, a2⟩, ⟨b1, b2⟩, ⟨c1, c2⟩, ⟨d1, d2, d3⟩, e1, f1, g1, g2⟩ := h
  exact ⟨⟨((a1.moved m).kept q).narrow hAB, ((a2.moved m).kept q).narrow hAB⟩, ⟨((b1.moved m).kept q).narrow hAB, ((b2.moved m).kept q).narrow hAB⟩, ⟨((c1.moved m).kept q).narrow hAB, ((c2.moved m).kept q).narrow hAB⟩, ⟨((d1.moved m).kept q).narrow hAB, ((d2.moved m).kept q).narrow hAB, ((d3.moved m).kept q).narrow hAB⟩, fun i hi => ⟨(e1 i hi).1.warm hW, (e1 i hi).2.warm hW⟩, fun w hw => nest_warm (NW_nest w hw) hW (f1 w hw), g1.moved m, g2.moved m⟩
theorem Ev.calling {γ : Gm} {A : Nat → Prop} {U : State} {g : JFrame} {mk : MethodId} {a : Array Value} (h : Ev γ A U U.heap) : Ev γ A (U.calling g mk a) (U.calling g mk a).heap := by
  have m : U.vm.Alike (U.calling g mk a).vm := Vm.Alike.refl U.vm
  obtain ⟨⟨a1, a2⟩, ⟨b1, b2⟩, ⟨c1, c2⟩, ⟨d1, d2, d3⟩, e1, f1, g1, g2⟩ := h
  exact ⟨⟨a1.moved m, a2.moved m⟩, ⟨b1.moved m, b2.moved m⟩, ⟨c1.moved m, c2.moved m⟩, ⟨d1.moved m, d2.moved m, d3.moved m⟩, fun i hi => ⟨vk_R.same (u := U) rfl (e1 i hi).1, vk_R.same (u := U) rfl (e1 i hi).2⟩, fun w hw => va_Nw.same (nest_tab (NW_nest w hw)) (u := U) rfl (f1 w hw), g1.moved m, g2.moved m⟩
-- ---- worlds: a part of the cells is given back at its places ----
def putW : va_W → List Nat → va_W → va_W
  | ws, i :: is, x :: xs => putW (ws.set i x) is xs
  | ws, [], _ => ws
  | ws, _ :: _, [] => ws
theorem putW_get : ∀ (is : List Nat) (ws xs : va_W) (k : Nat) (q : Nat × va_E), is.length = xs.length → (putW ws is xs)[k]? = some q → (∃ j : Nat, is[j]? = some k ∧ xs[j]? = some q) ∨ (k ∉ is ∧ ws[k]? = some q)
  | [], ws, xs, k, q, _, h => Or.inr ⟨List.not_mem_nil, by cases xs <;> exact h⟩
  | i :: is, ws, [], k, q, hl, _ => by cases hl
  | i :: is, ws, x :: xs, k, q, hl, h => by
    have hl2 : is.length = xs.length := Nat.succ.inj hl
    rcases putW_get is (ws.set i x) xs k q hl2 h with ⟨j, h1, h2⟩ | ⟨h1, h2⟩
    · exact Or.inl ⟨j + 1, h1, h2⟩
    · by_cases hk : i = k
      · subst hk
        have hlt : i < ws.length := by
          have := (List.getElem?_eq_some_iff.mp h2).1
          rw [List.length_set] at this
          exact this
        rw [List.getElem?_set_self hlt] at h2
        cases h2
        exact Or.inl ⟨0, rfl, rfl⟩
      · rw [List.getElem?_set_ne hk] at h2
        refine Or.inr ⟨fun hm => ?_, h2⟩
        rcases List.mem_cons.mp hm with e | e
        · exact hk e.symm
        · exact h1 e
theorem fst_at {w w' : va_W} (h : w'.map Prod.fst = w.map Prod.fst) {j : Nat} {q : Nat × va_E} (hq : w'[j]? = some q) : ∃ e, w[j]? = some (q.1, e) := by
  have h1 : (w'.map Prod.fst)[j]? = some q.1 := by rw [List.getElem?_map, hq]; rfl
  rw [h, List.getElem?_map] at h1
  cases hw : w[j]? with
  | none => rw [hw] at h1; cases h1
  | some x =>
    rw [hw] at h1
    obtain ⟨x1, x2⟩ := x
    cases h1
    exact ⟨x2, rfl⟩
theorem mapC_at {is : List Nat} {ws w : va_W} (hs : is.map (fun i => ws[i]?) = w.map some) {j : Nat} {q : Nat × va_E} (hq : w[j]? = some q) : ∃ i, is[j]? = some i ∧ ws[i]? = some q := by
  have h1 : (is.map (fun i => ws[i]?))[j]? = some (some q) := by rw [hs, List.getElem?_map, hq]; rfl
  rw [List.getElem?_map] at h1
  cases hi : is[j]? with
  | none => rw [hi] at h1; cases h1
  | some i => rw [hi] at h1; exact ⟨i, rfl, Option.some.inj h1⟩
theorem mapC_to {is : List Nat} {ws w : va_W} (hs : is.map (fun i => ws[i]?) = w.map some) {j i : Nat} (hj : is[j]? = some i) : ∃ q, w[j]? = some q ∧ ws[i]? = some q := by
  have h1 : (is.map (fun i => ws[i]?))[j]? = some (ws[i]?) := by rw [List.getElem?_map, hj]; rfl
  rw [hs, List.getElem?_map] at h1
  cases hq : w[j]? with
  | none => rw [hq] at h1; cases h1
  | some q => rw [hq] at h1; exact ⟨q, rfl, (Option.some.inj h1).symm⟩
theorem mapC_len {is : List Nat} {ws w : va_W} (hs : is.map (fun i => ws[i]?) = w.map some) : is.length = w.length := by
  have := congrArg List.length hs
  rw [List.length_map, List.length_map] at this
  exact this
theorem fst_len {w w' : va_W} (h : w'.map Prod.fst = w.map Prod.fst) : w'.length = w.length := by
  have := congrArg List.length h
  rw [List.length_map, List.length_map] at this
  exact this
theorem putW_old {is : List Nat} {ws w w' : va_W} (hs : is.map (fun i => ws[i]?) = w.map some) (hf : w'.map Prod.fst = w.map Prod.fst) {k : Nat} {q : Nat × va_E} (h : (putW ws is w')[k]? = some q) : ∃ e, ws[k]? = some (q.1, e) := by
  rcases putW_get is ws w' k q ((mapC_len hs).trans (fst_len hf).symm) h with ⟨j, h1, h2⟩ | ⟨-, h2⟩
  · obtain ⟨e, he⟩ := fst_at hf h2
    obtain ⟨i, h3, h4⟩ := mapC_at hs he
    rw [h1] at h3
    cases h3
    exact ⟨e, h4⟩
  · exact ⟨q.2, h2⟩
theorem va_D.old {A : Nat → Prop} {ws ws' : va_W} (hD : va_D A ws) (h : ∀ (k : Nat) (q : Nat × va_E), ws'[k]? = some q → ∃ e, ws[k]? = some (q.1, e)) : va_D A ws' := by
  refine ⟨fun i j p q hi hj e => ?_, fun k q hk => ?_⟩
  · obtain ⟨e1, h1⟩ := h i p hi
    obtain ⟨e2, h2⟩ := h j q hj
    exact hD.1 i j _ _ h1 h2 e
  · obtain ⟨e1, h1⟩ := h k q hk
    exact (show A (q.1, e1).1 from hD.2 k (q.1, e1) h1)
theorem va_D.fst {A : Nat → Prop} {w w' : va_W} (hD : va_D A w) (h : w'.map Prod.fst = w.map Prod.fst) : va_D A w' := hD.old fun _ _ hq => fst_at h hq
theorem putW_P {A : Nat → Prop} {D : va_G} {cl : List vw_C} {is : List Nat} {ws w w' : va_W} {H H1 : Heap} (hP : va_P D cl ws H) (hD : va_D A ws) (hs : is.map (fun i => ws[i]?) = w.map some) (hf : w'.map Prod.fst = w.map Prod.fst) (hP1 : va_P D cl w' H1) (hk : ∀ q : Nat, q < H.size → ¬ va_A w H.size q → H1[q]? = H[q]?) : va_P D cl (putW ws is w') H1 := by
  intro k q hq
  rcases putW_get is ws w' k q ((mapC_len hs).trans (fst_len hf).symm) hq with ⟨j, h1, h2⟩ | ⟨h1, h2⟩
  · exact hP1 j q h2
  · refine (hP k q h2).kept (hk q.1 (hP k q h2).lt fun z => ?_)
    rcases z with ⟨j, e, he⟩ | z
    · obtain ⟨i, h3, h4⟩ := mapC_at hs he
      have := hD.1 k i _ _ h2 h4 rfl
      subst this
      exact h1 (List.mem_of_getElem? h3)
    · exact absurd (hP k q h2).lt (Nat.not_lt.mpr z)
theorem rest_P {A : Nat → Prop} {D : va_G} {cl : List vw_C} {is : List Nat} {ws w : va_W} {H H1 : Heap} (hP : va_P D cl ws H) (hD : va_D A ws) (hs : is.map (fun i => ws[i]?) = w.map some) (hP1 : va_P D cl w H1) (hk : ∀ q : Nat, q < H.size → ¬ va_A w H.size q → H1[q]? = H[q]?) : va_P D cl ws H1 := by
  intro k q hq
  by_cases hm : ∃ j : Nat, is[j]? = some k
  · obtain ⟨j, hj⟩ := hm
    obtain ⟨q', h1, h2⟩ := mapC_to hs hj
    rw [hq] at h2
    cases h2
    exact hP1 j q h1
  · refine (hP k q hq).kept (hk q.1 (hP k q hq).lt fun z => ?_)
    rcases z with ⟨j, e, he⟩ | z
    · obtain ⟨i, h3, h4⟩ := mapC_at hs he
      have := hD.1 k i _ _ hq h4 rfl
      subst this
      exact hm ⟨j, h3⟩
    · exact absurd (hP k q hq).lt (Nat.not_lt.mpr z)
-- ---- the contract ----
def KB (γ : Gm) (w : va_W) (sz : Nat) (U : State) : Prop := U.heap.size = sz ∧ va_P γ.1 vwCl w U.heap ∧ va_K γ.1 vwCl (TY γ) U ∧ va_D (fun _ => True) w ∧ Ev γ (va_A w sz) U U.heap
def KQ (γ : Gm) (A : Nat → Prop) (r : Option Value) (w' : va_W) : Array Value → State → Outcome → State → Prop := fun _ st oc t => (oc = .returned r ∧ va_P γ.1 vwCl w' t.heap) ∧ va_F A st t
abbrev rmK (fr lo : Nat) : Room := { frames := fr, cells := 0, slots := 0, locals := lo }
def Kt (l : Launch) (γ : Gm) (y : MethodName) (ws : List Cond) (fr lo : Nat) (As : List Value) (w : va_W) (r : Option Value) (w' : va_W) : Prop :=
  w'.map Prod.fst = w.map Prod.fst ∧ ∀ sz : Nat, Met l y ws (rmK fr lo) (va_Pc As (KB γ w sz)) (KQ γ (va_A w sz) r w') 0 0 (va_A w sz)
theorem KB.blind {γ : Gm} {As : List Value} {w : va_W} {sz : Nat} : FrameBlind (va_Pc As (KB γ w sz)) := by
  intro a U g mk q
  obtain ⟨q0, q1, qP, qK, qD, qE⟩ := q
  exact ⟨q0, q1, qP, va_K.moved (u := U) (U := U.calling g mk a) (Vm.Alike.refl U.vm) qK, qD, qE.calling⟩
theorem cxV {R : Room} {s : State} {args : Array Value} {own C : String} {idx maxLy nA fr lo : Nat} {y : MethodName} {bytes : ByteArray} {rety : Option FieldType} {ts : List Cond} (hts : ∀ w ∈ ts, w.before args s = true) (hT : GoodIn ts U) (h1 : Cond.methodLink own idx y ∈ U) (h2 : Cond.instanceMethod y ∈ U) (h3 : Cond.selects C y y ∈ U) (h4 : Cond.initialized C ∈ U) (h5 : Cond.code y bytes maxLy rety ∈ U) (hd : y.cls = C ∧ y.cls ≠ "java/lang/invoke/MethodHandle" ∧ y.cls ≠ "java/lang/invoke/VarHandle" ∧ (parseMethodDescriptor y.desc).map (fun d => d.parameters.length) = some nA) (hR : fr + 1 ≤ R.frames ∧ 8 + (maxLy + 11) + lo ≤ R.locals) : CallW R s args own C idx y bytes maxLy rety (Cond.code y bytes maxLy rety :: U) (rmK fr lo) 0 0 nA :=
  cwV nA hts (gV hT h1 h2 h3 h4 h5) rfl rfl rfl hd hR
theorem cxS {R : Room} {s : State} {args : Array Value} {own : String} {idx maxLy nA fr lo : Nat} {y : MethodName} {bytes : ByteArray} {rety : Option FieldType} {ts : List Cond} (hts : ∀ w ∈ ts, w.before args s = true) (hT : GoodIn ts U) (h1 : Cond.methodLink own idx y ∈ U) (h2 : Cond.static y ∈ U) (h4 : Cond.initialized y.cls ∈ U) (h5 : Cond.code y bytes maxLy rety ∈ U) (hd : y.cls ≠ "java/lang/invoke/MethodHandle" ∧ y.cls ≠ "java/lang/invoke/VarHandle" ∧ (parseMethodDescriptor y.desc).map (fun d => d.parameters.length) = some nA) (hR : fr + 1 ≤ R.frames ∧ 8 + (maxLy + 11) + lo ≤ R.locals) : CallB R s args own idx y bytes maxLy rety (Cond.code y bytes maxLy rety :: U) (rmK fr lo) 0 0 nA ∧ (Cond.static y).before args s = true :=
  va_cwS nA hts (gS hT h1 h2 h4 h5) rfl rfl rfl hd hR
theorem cxN {R : Room} {s : State} {args : Array Value} {own host : String} {idx maxLy nA fr lo : Nat} {y : MethodName} {bytes : ByteArray} {rety : Option FieldType} {ts : List Cond} {γ : Gm} {A : Nat → Prop} {H : Heap} (hts : ∀ w ∈ ts, w.before args s = true) (hT : GoodIn ts U) (hE : Ev γ A s H) (h1 : Cond.methodLinkNest own idx y host ∈ NW) (h2 : Cond.static y ∈ U) (h4 : Cond.initialized y.cls ∈ U) (h5 : Cond.code y bytes maxLy rety ∈ U) (hd : y.cls ≠ "java/lang/invoke/MethodHandle" ∧ y.cls ≠ "java/lang/invoke/VarHandle" ∧ (parseMethodDescriptor y.desc).map (fun d => d.parameters.length) = some nA) (hR : fr + 1 ≤ R.frames ∧ 8 + (maxLy + 11) + lo ≤ R.locals) : va_CN R s args own idx y host bytes maxLy rety (Cond.code y bytes maxLy rety :: U) (rmK fr lo) 0 0 nA ∧ (Cond.static y).before args s = true ∧ True :=
  ⟨va_cnB nA hts (goodc hT h5) rfl rfl rfl (hE.2.2.2.2.2.1 _ h1) (hts _ (hT _ h4).1) hd hR, hts _ (hT _ h2).1, trivial⟩
section KTA
variable {p : Program} {l : Launch} {e : Env} {R : Room} {s : State} {m : MethodId} {args : Array Value} {below : List Frame} {meth : Method} {c : Code} {H : Heap} {locs : List Loc} {cells slots : Nat} {Q : State → Prop}
variable {cc : ByteArray} {pc : Nat} {ls : Array Slot} {rest : List Value} {D : va_G} {cl : List vw_C} {A : Nat → Prop} {a : Nat} {tys : List (ClassId × FieldType)} {ws : va_W} {H0 : Heap}
theorem va_aldA (hexec : p.tables.exec = Jvm.exec) (hb : c.code = cc) (hK : va_K D cl tys s) (hP : va_P D cl ws H) (q0 t0 : Nat) {cA : ClassId} {C : FieldType} {n : Nat} {f : Nat → Option Nat} (ha : ws[q0]? = some (a, .inl (cA, n, .inr (.inr (.inr (.inr f)))))) (ht : tys[t0]? = some (cA, .array C)) {i : Int32} (hin : vp_in i n) (hdg : decode cc pc = .ok (.aaload, 1))
    (kk : W p l e R s m args below meth c H locs cells slots Q (F0 m (pc + 1) ls (va_rf (f i.toNatClampNeg) :: rest))) : W p l e R s m args below meth c H locs cells slots Q (F0 m pc ls (.int i :: .ref a :: rest)) := by
  have hlt : i.toNatClampNeg < n := Nat.not_le.mp fun q => hin (Or.inr q)
  exact W.aald (v := va_rf (f i.toNatClampNeg)) (ty := .array C) hexec hb (hP q0 _ ha) ((hK.2 t0 _ ht).1 n (fun j => va_rf (f j))) rfl (fun q => by cases q) (by show ¬ (i < 0 ∨ (arrV _ _ _).slots.size ≤ _); rw [arrV_size]; exact hin) (by show (arrV _ _ _).slots[_]? = _; rw [arrV_read _ _ hlt]) rfl rfl hdg kk
end KTA
section KT
variable {p : Program} {l : Launch} {e : Env} {R : Room} {s : State} {m : MethodId} {args : Array Value} {below : List Frame} {meth : Method} {c : Code} {H : Heap} {locs : List Loc} {Q : State → Prop} {γ : Gm} {A : Nat → Prop}
-- what a body knows all along
def Cx (p : Program) (R : Room) (s : State) (m : MethodId) (args : Array Value) (meth : Method) (c : Code) (γ : Gm) (A : Nat → Prop) (cc : ByteArray) (maxL : Nat) (ret : Option FieldType) (ws : List Cond) (own : String) : Prop :=
  p.tables.exec = Jvm.exec ∧ c.code = cc ∧ c.maxLocals = maxL ∧ s.vm.findClass own = some m.cls ∧ (∀ w ∈ ws, w.before args s = true) ∧ meth.sig.returnType = ret ∧ meth.locks = false ∧ va_K γ.1 vwCl (TY γ) s ∧ Ev γ A s s.heap ∧ (∀ q : Nat, s.heap.size ≤ q → A q)
theorem Kt.of {y : MethodName} {ws ws' : List Cond} {cc : ByteArray} {maxL : Nat} {ret : Option FieldType} {fr lo : Nat} {As : List Value} {w w' : va_W} {r : Option Value} (hy : plainName y.cls = true) (hw : ws = Cond.code y cc maxL ret :: ws') (hlen : (lg_sl As).length ≤ maxL) (hf : w'.map Prod.fst = w.map Prod.fst)
    (body : ∀ (p : Program) (e : Env) (s : State) (m : MethodId) (below : List Frame) (meth : Method) (c : Code) (A : Nat → Prop) (ls : Array Slot), Cx p (rmK fr lo) s m As.toArray meth c γ A cc maxL ret ws y.cls → va_P γ.1 vwCl w s.heap → va_D A w → va_S A s.heap s.heap [] → lv_has ls maxL (lv_args 0 As) →
      W p l e (rmK fr lo) s m As.toArray below meth c s.heap [] 0 0 (MQ below (KQ γ A r w') As.toArray s 0 0 A) (F0 m 0 ls [])) : Kt l γ y ws fr lo As w r w' := by
  refine ⟨hf, fun sz => Met.ofW hy hw ?_⟩
  intro p e s m args below meth c s₁ B hml hv
  obtain ⟨rfl, hsz, hP, hK, hD0, hE⟩ := hv
  subst hsz
  rw [lg_entry_eq]
  exact body p e s m below meth c _ _ ⟨B.exec, B.bytes, hml, findClass_of_methodNamed B.named, atoms_spec (ws := ws) B.pre, B.returns, B.notSynchronized, hK, hE, fun q h => Or.inr h⟩ hP hD0.self va_S.rf (lv_entry As hlen)
theorem kt_run {pc : Nat} {ls : Array Slot} {rest st0 : List Value} {a : Array Value} {A1 : Nat → Prop} {r : Option Value} {w' : va_W} (hr : va_Run p l e R s m args below meth c H locs 0 0 0 0 (F0 m pc ls st0) rest (KQ γ A1 r w' a) A1) (hS : va_S A s.heap H locs) (hf : ∀ q, A1 q → A q)
    (kk : ∀ (H1 : Heap) (locs1 : List Loc), va_P γ.1 vwCl w' H1 → (∀ q : Nat, q < H.size → ¬ A1 q → H1[q]? = H[q]?) → va_S A s.heap H1 locs1 → W p l e R s m args below meth c H1 locs1 0 0 Q (F0 m (pc + 3) ls (r.toList ++ rest))) : W p l e R s m args below meth c H locs 0 0 Q (F0 m pc ls st0) := by
  intro T hT X
  obtain ⟨v, st₀, t, T', L, h0, X', hL, e1, e2, ⟨⟨hv, hp⟩, hz, hk⟩, st⟩ := hr T hT X
  cases hv
  rw [h0] at hz hk
  obtain ⟨t2, a1, b1⟩ := kk T'.heap (locs ++ L) (by rw [e1]; exact hp) (fun q h1 h2 => by rw [e1]; exact hk q h1 h2)
    ⟨Nat.le_trans hS.1 (by rw [e1]; exact hz), fun q h1 h2 => by rw [e1, hk q (Nat.lt_of_lt_of_le h1 hS.1) (fun z => h2 (hf q z))]; exact hS.2.1 q h1 h2, fun q hq => by
      rcases List.mem_append.mp hq with h | h
      · exact hS.2.2 q h
      · exact hf _ (hL q h)⟩ T' rfl X'
  exact ⟨t2, st t2 a1, b1⟩
theorem sub_free {w wc : va_W} {is : List Nat} (hD : va_D A wc) (hs : is.map (fun i => wc[i]?) = w.map some) (hA : ∀ q : Nat, s.heap.size ≤ q → A q) (hS : va_S A s.heap H locs) : ∀ q, va_A w H.size q → A q := fun q z => by
  rcases z with ⟨j, e, he⟩ | z
  · obtain ⟨i, h3, h4⟩ := mapC_at hs he
    exact hD.2 i _ h4
  · exact hA q (Nat.le_trans hS.1 z)
theorem sub_D {w wc : va_W} {is : List Nat} (hD : va_D A wc) (hn : va_nd is = true) (hs : is.map (fun i => wc[i]?) = w.map some) : va_D (fun _ => True) w := (hD.sub is hn hs).weaken fun _ _ _ _ => trivial
theorem kb_pre {cc : ByteArray} {maxL : Nat} {ret : Option FieldType} {ts : List Cond} {own : String} {w wc : va_W} {is : List Nat} {As : List Value} (C0 : Cx p R s m args meth c γ A cc maxL ret ts own) (hP : va_P γ.1 vwCl wc H) (hD : va_D A wc) (hS : va_S A s.heap H locs) (hn : va_nd is = true) (hs : is.map (fun i => wc[i]?) = w.map some) : PreS s H (va_Pc As (KB γ w H.size)) As := by
  obtain ⟨-, -, -, -, -, -, -, hK, hE, hA⟩ := C0
  refine ⟨KB.blind, fun U hU hW => ⟨rfl, by rw [hU], ?_, va_K.moved hW.alike hK, sub_D hD hn hs, hE.go hS hU hW (sub_free hD hs hA hS)⟩⟩
  rw [hU]
  intro j q hq
  obtain ⟨i, h3, h4⟩ := mapC_at hs hq
  exact hP i q h4
variable {cc bytes : ByteArray} {maxL maxLy nA pc idx : Nat} {ret rety : Option FieldType} {ts wsy : List Cond} {own C : String} {y : MethodName} {fr lo : Nat} {As rest : List Value} {b : Nat} {w w' wc : va_W} {r : Option Value} {ls : Array Slot} {lv : List (Nat × Value)}
-- a call of an object's method: its world lies at places of the caller's
theorem kt_V (C0 : Cx p R s m args meth c γ A cc maxL ret ts own) (hM : Kt l γ y wsy fr lo (.ref b :: As) w r w') (cw : CallW R s args own C idx y bytes maxLy rety wsy (rmK fr lo) 0 0 nA) (hP : va_P γ.1 vwCl wc H) (hD : va_D A wc) (hS : va_S A s.heap H locs) (hl : lv_has ls maxL lv) (hdg : decode cc pc = .ok (.invokevirtual idx, 3)) (is : List Nat) (hn : va_nd is = true) (hs : is.map (fun i => wc[i]?) = w.map some) (q0 ci : Nat) {fs : List Value} {cq : vw_C} (hq : wc[q0]? = some (b, .inr (ci, fs))) (hc : vwCl[ci]? = some cq) (hcq : cq.1 = C) (hnA : As.length = nA) (hrest : (rest.map fun v => v.category).sum ≤ 8) {st0 st1 : List Value} (hst0 : As.reverse ++ .ref b :: rest = st0) (hst1 : r.toList ++ rest = st1)
    (kk : ∀ (H1 : Heap) (locs1 : List Loc), va_P γ.1 vwCl (putW wc is w') H1 → va_D A (putW wc is w') → va_S A s.heap H1 locs1 → W p l e R s m args below meth c H1 locs1 0 0 Q (F0 m (pc + 3) ls st1)) : W p l e R s m args below meth c H locs 0 0 Q (F0 m pc ls st0) := by
  subst hst0
  subst hst1
  have hpre := kb_pre (As := .ref b :: As) C0 hP hD hS hn hs
  obtain ⟨hx, hb, hml, hown, hts, -, -, hK, hE, hA⟩ := C0
  have hrun := va_runV (locs := locs) (cells := 0) (slots := 0) (below := below) (meth := meth) (l := l) (e := e) (g := F0 m pc ls (As.reverse ++ .ref b :: rest)) (rest := rest) (As := As) (b := b) ⟨hx, hb, hml, hown, hts⟩ (hM.2 H.size) cw ⟨hpre.1, by rw [← hcq]; exact va_recv hK hP hc hq, hpre.2⟩ rfl hnA hl.1 rfl (lv_room hrest) hdg ⟨Nat.zero_le _, Nat.zero_le _⟩
  refine kt_run hrun hS (sub_free hD hs hA hS) fun H1 locs1 hP1 hk hS1 => kk H1 locs1 (putW_P hP hD hs hM.1 hP1 hk) (hD.old fun k q h => putW_old hs hM.1 h) hS1
-- the same, of a method that changes nothing
theorem kt_Vr (C0 : Cx p R s m args meth c γ A cc maxL ret ts own) (hM : Kt l γ y wsy fr lo (.ref b :: As) w r w) (cw : CallW R s args own C idx y bytes maxLy rety wsy (rmK fr lo) 0 0 nA) (hP : va_P γ.1 vwCl wc H) (hD : va_D A wc) (hS : va_S A s.heap H locs) (hl : lv_has ls maxL lv) (hdg : decode cc pc = .ok (.invokevirtual idx, 3)) (is : List Nat) (hn : va_nd is = true) (hs : is.map (fun i => wc[i]?) = w.map some) (q0 ci : Nat) {fs : List Value} {cq : vw_C} (hq : wc[q0]? = some (b, .inr (ci, fs))) (hc : vwCl[ci]? = some cq) (hcq : cq.1 = C) (hnA : As.length = nA) (hrest : (rest.map fun v => v.category).sum ≤ 8) {st0 st1 : List Value} (hst0 : As.reverse ++ .ref b :: rest = st0) (hst1 : r.toList ++ rest = st1)
    (kk : ∀ (H1 : Heap) (locs1 : List Loc), va_P γ.1 vwCl wc H1 → va_S A s.heap H1 locs1 → W p l e R s m args below meth c H1 locs1 0 0 Q (F0 m (pc + 3) ls st1)) : W p l e R s m args below meth c H locs 0 0 Q (F0 m pc ls st0) := by
  subst hst0
  subst hst1
  have hpre := kb_pre (As := .ref b :: As) C0 hP hD hS hn hs
  obtain ⟨hx, hb, hml, hown, hts, -, -, hK, hE, hA⟩ := C0
  have hrun := va_runV (locs := locs) (cells := 0) (slots := 0) (below := below) (meth := meth) (l := l) (e := e) (g := F0 m pc ls (As.reverse ++ .ref b :: rest)) (rest := rest) (As := As) (b := b) ⟨hx, hb, hml, hown, hts⟩ (hM.2 H.size) cw ⟨hpre.1, by rw [← hcq]; exact va_recv hK hP hc hq, hpre.2⟩ rfl hnA hl.1 rfl (lv_room hrest) hdg ⟨Nat.zero_le _, Nat.zero_le _⟩
  exact kt_run hrun hS (sub_free hD hs hA hS) fun H1 locs1 hP1 hk hS1 => kk H1 locs1 (rest_P hP hD hs hP1 hk) hS1
-- a call of a static method
theorem kt_S (C0 : Cx p R s m args meth c γ A cc maxL ret ts own) (hM : Kt l γ y wsy fr lo As w r w') (cw : CallB R s args own idx y bytes maxLy rety wsy (rmK fr lo) 0 0 nA ∧ (Cond.static y).before args s = true) (hP : va_P γ.1 vwCl wc H) (hD : va_D A wc) (hS : va_S A s.heap H locs) (hl : lv_has ls maxL lv) (hdg : decode cc pc = .ok (.invokestatic idx, 3)) (is : List Nat) (hn : va_nd is = true) (hs : is.map (fun i => wc[i]?) = w.map some) (hnA : As.length = nA) (hrest : (rest.map fun v => v.category).sum ≤ 8) {st0 st1 : List Value} (hst0 : As.reverse ++ rest = st0) (hst1 : r.toList ++ rest = st1)
    (kk : ∀ (H1 : Heap) (locs1 : List Loc), va_P γ.1 vwCl (putW wc is w') H1 → va_D A (putW wc is w') → va_S A s.heap H1 locs1 → W p l e R s m args below meth c H1 locs1 0 0 Q (F0 m (pc + 3) ls st1)) : W p l e R s m args below meth c H locs 0 0 Q (F0 m pc ls st0) := by
  subst hst0
  subst hst1
  have hpre := kb_pre (As := As) C0 hP hD hS hn hs
  obtain ⟨hx, hb, hml, hown, hts, -, -, hK, hE, hA⟩ := C0
  have hrun := va_runS (locs := locs) (cells := 0) (slots := 0) (below := below) (meth := meth) (l := l) (e := e) (g := F0 m pc ls (As.reverse ++ rest)) (rest := rest) (As := As) ⟨hx, hb, hml, hown, hts⟩ (hM.2 H.size) cw hpre rfl hnA hl.1 rfl (lv_room hrest) hdg ⟨Nat.zero_le _, Nat.zero_le _⟩
  refine kt_run hrun hS (sub_free hD hs hA hS) fun H1 locs1 hP1 hk hS1 => kk H1 locs1 (putW_P hP hD hs hM.1 hP1 hk) (hD.old fun k q h => putW_old hs hM.1 h) hS1
theorem kt_Sr (C0 : Cx p R s m args meth c γ A cc maxL ret ts own) (hM : Kt l γ y wsy fr lo As w r w) (cw : CallB R s args own idx y bytes maxLy rety wsy (rmK fr lo) 0 0 nA ∧ (Cond.static y).before args s = true) (hP : va_P γ.1 vwCl wc H) (hD : va_D A wc) (hS : va_S A s.heap H locs) (hl : lv_has ls maxL lv) (hdg : decode cc pc = .ok (.invokestatic idx, 3)) (is : List Nat) (hn : va_nd is = true) (hs : is.map (fun i => wc[i]?) = w.map some) (hnA : As.length = nA) (hrest : (rest.map fun v => v.category).sum ≤ 8) {st0 st1 : List Value} (hst0 : As.reverse ++ rest = st0) (hst1 : r.toList ++ rest = st1)
    (kk : ∀ (H1 : Heap) (locs1 : List Loc), va_P γ.1 vwCl wc H1 → va_S A s.heap H1 locs1 → W p l e R s m args below meth c H1 locs1 0 0 Q (F0 m (pc + 3) ls st1)) : W p l e R s m args below meth c H locs 0 0 Q (F0 m pc ls st0) := by
  subst hst0
  subst hst1
  have hpre := kb_pre (As := As) C0 hP hD hS hn hs
  obtain ⟨hx, hb, hml, hown, hts, -, -, hK, hE, hA⟩ := C0
  have hrun := va_runS (locs := locs) (cells := 0) (slots := 0) (below := below) (meth := meth) (l := l) (e := e) (g := F0 m pc ls (As.reverse ++ rest)) (rest := rest) (As := As) ⟨hx, hb, hml, hown, hts⟩ (hM.2 H.size) cw hpre rfl hnA hl.1 rfl (lv_room hrest) hdg ⟨Nat.zero_le _, Nat.zero_le _⟩
  exact kt_run hrun hS (sub_free hD hs hA hS) fun H1 locs1 hP1 hk hS1 => kk H1 locs1 (rest_P hP hD hs hP1 hk) hS1
-- a call of a nest mate's static method, that reads no cell of ours
theorem kt_SN {host : String} (C0 : Cx p R s m args meth c γ A cc maxL ret ts own) (hM : Kt l γ y wsy fr lo As [] r []) (cw : va_CN R s args own idx y host bytes maxLy rety wsy (rmK fr lo) 0 0 nA ∧ (Cond.static y).before args s = true ∧ True) (hP : va_P γ.1 vwCl wc H) (hD : va_D A wc) (hS : va_S A s.heap H locs) (hl : lv_has ls maxL lv) (hdg : decode cc pc = .ok (.invokestatic idx, 3)) (hnA : As.length = nA) (hrest : (rest.map fun v => v.category).sum ≤ 8) {st0 st1 : List Value} (hst0 : As.reverse ++ rest = st0) (hst1 : r.toList ++ rest = st1)
    (kk : ∀ (H1 : Heap) (locs1 : List Loc), va_P γ.1 vwCl wc H1 → va_S A s.heap H1 locs1 → W p l e R s m args below meth c H1 locs1 0 0 Q (F0 m (pc + 3) ls st1)) : W p l e R s m args below meth c H locs 0 0 Q (F0 m pc ls st0) := by
  subst hst0
  subst hst1
  have hs : ([] : List Nat).map (fun i => wc[i]?) = ([] : va_W).map some := rfl
  have hpre := kb_pre (As := As) C0 hP hD hS (is := []) rfl hs
  obtain ⟨hx, hb, hml, hown, hts, -, -, hK, hE, hA⟩ := C0
  have hrun := va_runSN (locs := locs) (cells := 0) (slots := 0) (below := below) (meth := meth) (l := l) (e := e) (g := F0 m pc ls (As.reverse ++ rest)) (rest := rest) (As := As) ⟨hx, hb, hml, hown, hts⟩ (hM.2 H.size) cw hpre rfl hnA hl.1 rfl (lv_room hrest) hdg ⟨Nat.zero_le _, Nat.zero_le _⟩
  exact kt_run hrun hS (sub_free hD hs hA hS) fun H1 locs1 hP1 hk hS1 => kk H1 locs1 (rest_P hP hD hs hP1 hk) hS1
-- the whole world of the caller is the callee's
theorem kt_V0 (C0 : Cx p R s m args meth c γ A cc maxL ret ts own) (hM : Kt l γ y wsy fr lo (.ref b :: As) wc r w') (cw : CallW R s args own C idx y bytes maxLy rety wsy (rmK fr lo) 0 0 nA) (hP : va_P γ.1 vwCl wc H) (hD : va_D A wc) (hS : va_S A s.heap H locs) (hl : lv_has ls maxL lv) (hdg : decode cc pc = .ok (.invokevirtual idx, 3)) (q0 ci : Nat) {fs : List Value} {cq : vw_C} (hq : wc[q0]? = some (b, .inr (ci, fs))) (hc : vwCl[ci]? = some cq) (hcq : cq.1 = C) (hnA : As.length = nA) (hrest : (rest.map fun v => v.category).sum ≤ 8) {st0 st1 : List Value} (hst0 : As.reverse ++ .ref b :: rest = st0) (hst1 : r.toList ++ rest = st1)
    (kk : ∀ (H1 : Heap) (locs1 : List Loc), va_P γ.1 vwCl w' H1 → va_S A s.heap H1 locs1 → W p l e R s m args below meth c H1 locs1 0 0 Q (F0 m (pc + 3) ls st1)) : W p l e R s m args below meth c H locs 0 0 Q (F0 m pc ls st0) := by
  subst hst0
  subst hst1
  obtain ⟨hx, hb, hml, hown, hts, -, -, hK, hE, hA⟩ := C0
  have hfree : ∀ q, va_A wc H.size q → A q := fun q z => by
    rcases z with ⟨j, e, he⟩ | z
    · exact hD.2 j _ he
    · exact hA q (Nat.le_trans hS.1 z)
  have hrun := va_runV (locs := locs) (cells := 0) (slots := 0) (below := below) (meth := meth) (l := l) (e := e) (g := F0 m pc ls (As.reverse ++ .ref b :: rest)) (rest := rest) (As := As) (b := b) ⟨hx, hb, hml, hown, hts⟩ (hM.2 H.size) cw ⟨KB.blind, by rw [← hcq]; exact va_recv hK hP hc hq, fun U hU hW => ⟨rfl, by rw [hU], by rw [hU]; exact hP, va_K.moved hW.alike hK, hD.weaken (fun _ _ _ _ => trivial), hE.go hS hU hW hfree⟩⟩ rfl hnA hl.1 rfl (lv_room hrest) hdg ⟨Nat.zero_le _, Nat.zero_le _⟩
  exact kt_run hrun hS hfree fun H1 locs1 hP1 hk hS1 => kk H1 locs1 hP1 hS1
-- calls by focus: the callee's world is a part of the caller's, up to order
def FocP (wc w wc' w' : va_W) : Prop := ∃ rest : va_W, wc.Perm (w ++ rest) ∧ wc'.Perm (w' ++ rest)
theorem foc_ro {wc w wc' w' : va_W} (h : FocP wc w wc' w') : FocP wc w wc w := by
  obtain ⟨r, h1, -⟩ := h
  exact ⟨r, h1, h1⟩
theorem va_P_mem {D : va_G} {cl : List vw_C} {ws : va_W} {H : Heap} : va_P D cl ws H ↔ ∀ q ∈ ws, va_at D cl q H := by
  constructor
  · intro h q hq
    obtain ⟨k, hk⟩ := List.getElem?_of_mem hq
    exact h k q hk
  · intro h k q hk
    exact h q (List.mem_of_getElem? hk)
theorem va_D_nd {A : Nat → Prop} {ws : va_W} : va_D A ws ↔ (ws.map Prod.fst).Nodup ∧ ∀ q ∈ ws, A q.1 := by
  constructor
  · intro h
    refine ⟨?_, fun q hq => ?_⟩
    · rw [List.nodup_iff_pairwise_ne, List.pairwise_map, List.pairwise_iff_getElem]
      intro i j hi hj hij e
      exact absurd (h.1 i j _ _ (List.getElem?_eq_getElem hi) (List.getElem?_eq_getElem hj) e) (Nat.ne_of_lt hij)
    · obtain ⟨k, hk⟩ := List.getElem?_of_mem hq
      exact h.2 k q hk
  · intro h
    refine ⟨fun i j p q hi hj e => ?_, fun k q hk => h.2 q (List.mem_of_getElem? hk)⟩
    have h1 := h.1
    rw [List.nodup_iff_pairwise_ne, List.pairwise_map, List.pairwise_iff_getElem] at h1
    obtain ⟨hi1, hi2⟩ := List.getElem?_eq_some_iff.mp hi
    obtain ⟨hj1, hj2⟩ := List.getElem?_eq_some_iff.mp hj
    rcases Nat.lt_trichotomy i j with hlt | heq | hlt
    · exact absurd (by rw [hi2, hj2]; exact e) (h1 i j hi1 hj1 hlt)
    · exact heq
    · exact absurd (by rw [hi2, hj2]; exact e.symm) (h1 j i hj1 hi1 hlt)
theorem foc_split {wc w rest : va_W} {D : va_G} {cl : List vw_C} (hp : wc.Perm (w ++ rest)) (hP : va_P D cl wc H) : va_P D cl w H ∧ va_P D cl rest H :=
  ⟨va_P_mem.mpr fun q hq => va_P_mem.mp hP q (hp.mem_iff.mpr (List.mem_append_left _ hq)), va_P_mem.mpr fun q hq => va_P_mem.mp hP q (hp.mem_iff.mpr (List.mem_append_right _ hq))⟩
theorem foc_D {wc w rest : va_W} (hp : wc.Perm (w ++ rest)) (hD : va_D A wc) : va_D A w ∧ ∀ p ∈ w, ∀ q ∈ rest, p.1 ≠ q.1 := by
  obtain ⟨h1, h2⟩ := va_D_nd.mp hD
  have h3 := ((hp.map Prod.fst).nodup_iff).mp h1
  rw [List.map_append, List.nodup_append] at h3
  refine ⟨va_D_nd.mpr ⟨h3.1, fun q hq => h2 q (hp.mem_iff.mpr (List.mem_append_left _ hq))⟩, fun p hp1 q hq => ?_⟩
  exact h3.2.2 p.1 (List.mem_map_of_mem hp1) q.1 (List.mem_map_of_mem hq)
theorem foc_free {wc w rest : va_W} (hp : wc.Perm (w ++ rest)) (hD : va_D A wc) (hA : ∀ q : Nat, s.heap.size ≤ q → A q) (hS : va_S A s.heap H locs) : ∀ q, va_A w H.size q → A q := fun q z => by
  rcases z with ⟨j, e, he⟩ | z
  · exact (foc_D hp hD).1.2 j _ he
  · exact hA q (Nat.le_trans hS.1 z)
theorem foc_back {wc w rest wc' w' : va_W} {H1 : Heap} {D : va_G} {cl : List vw_C} (hp : wc.Perm (w ++ rest)) (hp' : wc'.Perm (w' ++ rest)) (hD : va_D A wc) (hP : va_P D cl wc H) (hP1 : va_P D cl w' H1) (hk : ∀ q : Nat, q < H.size → ¬ va_A w H.size q → H1[q]? = H[q]?) : va_P D cl wc' H1 := by
  refine va_P_mem.mpr fun q hq => ?_
  rcases List.mem_append.mp (hp'.mem_iff.mp hq) with h | h
  · exact va_P_mem.mp hP1 q h
  · have h1 := va_P_mem.mp (foc_split hp hP).2 q h
    refine h1.kept (hk q.1 h1.lt fun z => ?_)
    rcases z with ⟨j, e, he⟩ | z
    · exact (foc_D hp hD).2 (q.1, e) (List.mem_of_getElem? he) q h rfl
    · exact absurd h1.lt (Nat.not_lt.mpr z)
theorem kt_VF {wc' : va_W} (C0 : Cx p R s m args meth c γ A cc maxL ret ts own) (hM : Kt l γ y wsy fr lo (.ref b :: As) w r w') (cw : CallW R s args own C idx y bytes maxLy rety wsy (rmK fr lo) 0 0 nA) (hP : va_P γ.1 vwCl wc H) (hD : va_D A wc) (hS : va_S A s.heap H locs) (hl : lv_has ls maxL lv) (hdg : decode cc pc = .ok (.invokevirtual idx, 3)) (hF : FocP wc w wc' w') (q0 ci : Nat) {fs : List Value} {cq : vw_C} (hq : w[q0]? = some (b, .inr (ci, fs))) (hc : vwCl[ci]? = some cq) (hcq : cq.1 = C) (hnA : As.length = nA) (hrest : (rest.map fun v => v.category).sum ≤ 8) {st0 st1 : List Value} (hst0 : As.reverse ++ .ref b :: rest = st0) (hst1 : r.toList ++ rest = st1)
    (kk : ∀ (H1 : Heap) (locs1 : List Loc), va_P γ.1 vwCl wc' H1 → va_S A s.heap H1 locs1 → W p l e R s m args below meth c H1 locs1 0 0 Q (F0 m (pc + 3) ls st1)) : W p l e R s m args below meth c H locs 0 0 Q (F0 m pc ls st0) := by
  subst hst0
  subst hst1
  obtain ⟨rst, hp, hp'⟩ := hF
  obtain ⟨hx, hb, hml, hown, hts, -, -, hK, hE, hA⟩ := C0
  have hPw := (foc_split hp hP).1
  have hfree := foc_free (w := w) hp hD hA hS
  have hrun := va_runV (locs := locs) (cells := 0) (slots := 0) (below := below) (meth := meth) (l := l) (e := e) (g := F0 m pc ls (As.reverse ++ .ref b :: rest)) (rest := rest) (As := As) (b := b) ⟨hx, hb, hml, hown, hts⟩ (hM.2 H.size) cw ⟨KB.blind, by rw [← hcq]; exact va_recv hK hPw hc hq, fun U hU hW => ⟨rfl, by rw [hU], by rw [hU]; exact hPw, va_K.moved hW.alike hK, (foc_D hp hD).1.weaken (fun _ _ _ _ => trivial), hE.go hS hU hW hfree⟩⟩ rfl hnA hl.1 rfl (lv_room hrest) hdg ⟨Nat.zero_le _, Nat.zero_le _⟩
  exact kt_run hrun hS hfree fun H1 locs1 hP1 hk hS1 => kk H1 locs1 (foc_back hp hp' hD hP hP1 hk) hS1
theorem kt_SF {wc' : va_W} (C0 : Cx p R s m args meth c γ A cc maxL ret ts own) (hM : Kt l γ y wsy fr lo As w r w') (cw : CallB R s args own idx y bytes maxLy rety wsy (rmK fr lo) 0 0 nA ∧ (Cond.static y).before args s = true) (hP : va_P γ.1 vwCl wc H) (hD : va_D A wc) (hS : va_S A s.heap H locs) (hl : lv_has ls maxL lv) (hdg : decode cc pc = .ok (.invokestatic idx, 3)) (hF : FocP wc w wc' w') (hnA : As.length = nA) (hrest : (rest.map fun v => v.category).sum ≤ 8) {st0 st1 : List Value} (hst0 : As.reverse ++ rest = st0) (hst1 : r.toList ++ rest = st1)
    (kk : ∀ (H1 : Heap) (locs1 : List Loc), va_P γ.1 vwCl wc' H1 → va_S A s.heap H1 locs1 → W p l e R s m args below meth c H1 locs1 0 0 Q (F0 m (pc + 3) ls st1)) : W p l e R s m args below meth c H locs 0 0 Q (F0 m pc ls st0) := by
  subst hst0
  subst hst1
  obtain ⟨rst, hp, hp'⟩ := hF
  obtain ⟨hx, hb, hml, hown, hts, -, -, hK, hE, hA⟩ := C0
  have hPw := (foc_split hp hP).1
  have hfree := foc_free (w := w) hp hD hA hS
  have hrun := va_runS (locs := locs) (cells := 0) (slots := 0) (below := below) (meth := meth) (l := l) (e := e) (g := F0 m pc ls (As.reverse ++ rest)) (rest := rest) (As := As) ⟨hx, hb, hml, hown, hts⟩ (hM.2 H.size) cw ⟨KB.blind, fun U hU hW => ⟨rfl, by rw [hU], by rw [hU]; exact hPw, va_K.moved hW.alike hK, (foc_D hp hD).1.weaken (fun _ _ _ _ => trivial), hE.go hS hU hW hfree⟩⟩ rfl hnA hl.1 rfl (lv_room hrest) hdg ⟨Nat.zero_le _, Nat.zero_le _⟩
  exact kt_run hrun hS hfree fun H1 locs1 hP1 hk hS1 => kk H1 locs1 (foc_back hp hp' hD hP hP1 hk) hS1
theorem foc_all {x x' : va_W} : FocP x x x' x' := ⟨[], by rw [List.append_nil], by rw [List.append_nil]⟩
theorem foc_nil {x : va_W} : FocP x [] x [] := ⟨x, List.Perm.refl _, List.Perm.refl _⟩
theorem focA1 {x y x' : va_W} : FocP (x ++ y) x (x' ++ y) x' := ⟨y, List.Perm.refl _, List.Perm.refl _⟩
theorem focA2 {x y y' : va_W} : FocP (x ++ y) y (x ++ y') y' := ⟨x, List.perm_append_comm, List.perm_append_comm⟩
theorem focA12 {x y x' y' : va_W} : FocP (x ++ y) (x ++ y) (x' ++ y') (x' ++ y') := foc_all
theorem focB1 {x y z x' : va_W} : FocP (x ++ (y ++ z)) x (x' ++ (y ++ z)) x' := ⟨y ++ z, List.Perm.refl _, List.Perm.refl _⟩
theorem focB12 {x y z x' y' : va_W} : FocP (x ++ (y ++ z)) (x ++ y) (x' ++ (y' ++ z)) (x' ++ y') := ⟨z, by rw [List.append_assoc], by rw [List.append_assoc]⟩
theorem permB2 {x y z : va_W} : (x ++ (y ++ z)).Perm (y ++ (x ++ z)) := by
  rw [← List.append_assoc, ← List.append_assoc]
  exact List.Perm.append_right _ List.perm_append_comm
theorem focB2 {x y z y' : va_W} : FocP (x ++ (y ++ z)) y (x ++ (y' ++ z)) y' := ⟨x ++ z, permB2, permB2⟩
theorem permB13 {x y z : va_W} : (x ++ (y ++ z)).Perm ((x ++ z) ++ y) := by
  rw [List.append_assoc]
  exact List.Perm.append_left _ List.perm_append_comm
theorem focB13 {x y z x' z' : va_W} : FocP (x ++ (y ++ z)) (x ++ z) (x' ++ (y ++ z')) (x' ++ z') := ⟨y, permB13, permB13⟩
theorem focB3 {x y z z' : va_W} : FocP (x ++ (y ++ z)) z (x ++ (y ++ z')) z' := ⟨x ++ y, by rw [← List.append_assoc]; exact List.perm_append_comm, by rw [← List.append_assoc]; exact List.perm_append_comm⟩
theorem focB23 {x y z y' z' : va_W} : FocP (x ++ (y ++ z)) (y ++ z) (x ++ (y' ++ z')) (y' ++ z') := ⟨x, List.perm_append_comm, List.perm_append_comm⟩
theorem focB123 {x y z x' y' z' : va_W} : FocP (x ++ (y ++ z)) (x ++ (y ++ z)) (x' ++ (y' ++ z')) (x' ++ (y' ++ z')) := foc_all
-- a call of a String constant's method
theorem kt_str {i : Nat} (C0 : Cx p R s m args meth c γ A cc maxL ret ts own) (hM : Kt l γ y wsy fr lo (.ref (sad γ i) :: As) [] r []) (cw : CallW R s args own "java/lang/String" idx y bytes maxLy rety wsy (rmK fr lo) 0 0 nA) (hi : i < 6) (hP : va_P γ.1 vwCl wc H) (hD : va_D A wc) (hS : va_S A s.heap H locs) (hl : lv_has ls maxL lv) (hdg : decode cc pc = .ok (.invokevirtual idx, 3)) (hnA : As.length = nA) (hrest : (rest.map fun v => v.category).sum ≤ 8) {st0 st1 : List Value} (hst0 : As.reverse ++ .ref (sad γ i) :: rest = st0) (hst1 : r.toList ++ rest = st1)
    (kk : ∀ (H1 : Heap) (locs1 : List Loc), va_P γ.1 vwCl wc H1 → va_S A s.heap H1 locs1 → W p l e R s m args below meth c H1 locs1 0 0 Q (F0 m (pc + 3) ls st1)) : W p l e R s m args below meth c H locs 0 0 Q (F0 m pc ls st0) := by
  subst hst0
  subst hst1
  have hs : ([] : List Nat).map (fun i => wc[i]?) = ([] : va_W).map some := rfl
  have hpre := kb_pre (As := .ref (sad γ i) :: As) C0 hP hD hS (is := []) rfl hs
  obtain ⟨hx, hb, hml, hown, hts, -, -, hK, hE, hA⟩ := C0
  have hrun := va_runV (locs := locs) (cells := 0) (slots := 0) (below := below) (meth := meth) (l := l) (e := e) (g := F0 m pc ls (As.reverse ++ .ref (sad γ i) :: rest)) (rest := rest) (As := As) (b := sad γ i) ⟨hx, hb, hml, hown, hts⟩ (hM.2 H.size) cw ⟨hpre.1, vk_recv hE.2.2.2.1.1 hi hS, hpre.2⟩ rfl hnA hl.1 rfl (lv_room hrest) hdg ⟨Nat.zero_le _, Nat.zero_le _⟩
  exact kt_run hrun hS (sub_free hD hs hA hS) fun H1 locs1 hP1 hk hS1 => kk H1 locs1 (rest_P hP hD hs hP1 hk) hS1
-- ---- ends ----
theorem kt_iret {r : Int32} (C0 : Cx p R s m args meth c γ A cc maxL (some .int) ts own) (hP : va_P γ.1 vwCl w' H) (hS : va_S A s.heap H locs) (hdg : decode cc pc = .ok (.ireturn, 1)) : W p l e R s m args below meth c H locs 0 0 (MQ below (KQ γ A (some (.int r)) w') args s 0 0 A) (F0 m pc ls [.int r]) :=
  W.iret C0.1 C0.2.1 C0.2.2.2.2.2.1 (fun t ht _ => ⟨⟨rfl, by rw [ht]; exact hP⟩, hS.F ht⟩) hS.2.2 hdg C0.2.2.2.2.2.2.1
theorem kt_zret {r : Int32} (C0 : Cx p R s m args meth c γ A cc maxL (some .boolean) ts own) (hz : narrow .boolean (.int r) = .int r) (hP : va_P γ.1 vwCl w' H) (hS : va_S A s.heap H locs) (hdg : decode cc pc = .ok (.ireturn, 1)) : W p l e R s m args below meth c H locs 0 0 (MQ below (KQ γ A (some (.int r)) w') args s 0 0 A) (F0 m pc ls [.int r]) :=
  W.zret C0.1 C0.2.1 C0.2.2.2.2.2.1 hz (fun t ht _ => ⟨⟨rfl, by rw [ht]; exact hP⟩, hS.F ht⟩) hS.2.2 hdg C0.2.2.2.2.2.2.1
theorem kt_vret (C0 : Cx p R s m args meth c γ A cc maxL none ts own) (hP : va_P γ.1 vwCl w' H) (hS : va_S A s.heap H locs) (hdg : decode cc pc = .ok (.return_, 1)) : W p l e R s m args below meth c H locs 0 0 (MQ below (KQ γ A none w') args s 0 0 A) (F0 m pc ls []) :=
  W.vret C0.1 C0.2.1 C0.2.2.2.2.2.1 (fun t ht _ => ⟨⟨rfl, by rw [ht]; exact hP⟩, hS.F ht⟩) hS.2.2 hdg C0.2.2.2.2.2.2.1
theorem kt_lret {r : Int64} (C0 : Cx p R s m args meth c γ A cc maxL (some .long) ts own) (hP : va_P γ.1 vwCl w' H) (hS : va_S A s.heap H locs) (hdg : decode cc pc = .ok (.lreturn, 1)) : W p l e R s m args below meth c H locs 0 0 (MQ below (KQ γ A (some (.long r)) w') args s 0 0 A) (F0 m pc ls [.long r]) :=
  W.lret C0.1 C0.2.1 C0.2.2.2.2.2.1 (fun t ht _ => ⟨⟨rfl, by rw [ht]; exact hP⟩, hS.F ht⟩) hS.2.2 hdg C0.2.2.2.2.2.2.1
theorem kt_aret {r : Nat} {rt : String} (C0 : Cx p R s m args meth c γ A cc maxL (some (.object rt)) ts own) (hP : va_P γ.1 vwCl w' H) (hS : va_S A s.heap H locs) (hdg : decode cc pc = .ok (.areturn, 1)) : W p l e R s m args below meth c H locs 0 0 (MQ below (KQ γ A (some (.ref r)) w') args s 0 0 A) (F0 m pc ls [.ref r]) :=
  W.aret C0.1 C0.2.1 C0.2.2.2.2.2.1 (Or.inl ⟨_, rfl⟩) (Or.inr ⟨_, rfl⟩) (fun t ht _ => ⟨⟨rfl, by rw [ht]; exact hP⟩, hS.F ht⟩) hS.2.2 hdg C0.2.2.2.2.2.2.1
end KT
theorem sw_out {x : Int32} {lo hi : Int} (h : ∀ k : Int, lo ≤ k → k ≤ hi → ¬ x.toInt = k) : x.toInt < lo ∨ hi < x.toInt := by
  by_cases h1 : x.toInt < lo
  · exact Or.inl h1
  · by_cases h2 : hi < x.toInt
    · exact Or.inr h2
    · exact absurd rfl (h x.toInt (by omega) (by omega))
