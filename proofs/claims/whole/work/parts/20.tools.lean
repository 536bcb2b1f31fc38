-- numbers, bits, loops: tools of the pure part
def bI (b : Bool) : Int32 := if b = true then 1 else 0
theorem bI_t : bI true = 1 := rfl
theorem bI_f : bI false = 0 := rfl
theorem gd_t {α : Type} {b : Bool} {a : Option α} (h : b = true) : gd b a = a := by unfold gd; exact if_pos h
theorem ifc {c d : Prop} [Decidable c] [Decidable d] {α : Type} {a b : α} (h : c = d) : (if c then a else b) = (if d then a else b) := by
  by_cases hc : c
  · rw [if_pos hc, if_pos (h ▸ hc)]
  · rw [if_neg hc, if_neg (h ▸ hc)]
theorem bd_s {α β : Type} {x : α} {k : α → Option β} : bd (some x) k = k x := rfl
theorem bd2_s {α β δ : Type} {x : α} {y : β} {k : α → β → Option δ} : bd2 (some (x, y)) k = k x y := rfl
theorem bd3_s {α β γ δ : Type} {x : α} {y : β} {z : γ} {k : α → β → γ → Option δ} : bd3 (some (x, y, z)) k = k x y z := rfl
theorem bd4_s {α β γ ε δ : Type} {x : α} {y : β} {z : γ} {u : ε} {k : α → β → γ → ε → Option δ} : bd4 (some (x, y, z, u)) k = k x y z u := rfl
theorem nm_s {α β : Type} {e : α} {k : α → β} : nmd e k = k e := rfl
theorem n_tn {n : Nat} (h : n < 2147483648) : (nI n).toNatClampNeg = n := nI_clamp h
theorem n_toInt {n : Nat} (h : n < 2147483648) : (nI n).toInt = (n : Int) := nI_toInt h
theorem n_inB {i n : Nat} (h : i < n) (hn : n < 2147483648) : inB (nI i) n = true := by
  unfold inB
  rw [n_toInt (by omega), Bool.and_eq_true, decide_eq_true_eq, decide_eq_true_eq]
  omega
theorem n_le {a b : Nat} (ha : a < 2147483648) (hb : b < 2147483648) : (nI a ≤ nI b) = (a ≤ b) := propext (nI_leI ha hb)
theorem n_lt {a b : Nat} (ha : a < 2147483648) (hb : b < 2147483648) : (nI a < nI b) = (a < b) := propext (nI_ltI ha hb)
theorem n_eq {a b : Nat} (ha : a < 2147483648) (hb : b < 2147483648) : (nI a = nI b) = (a = b) := propext (nI_eq ha hb)
theorem n_neg {n : Nat} (h : n < 2147483648) : (nI n < 0) = False := propext ⟨fun q => nI_pos h q, False.elim⟩
theorem n_pos {n : Nat} (h : n < 2147483648) : ((0 : Int32) ≤ nI n) = True := propext ⟨fun _ => trivial, fun _ => nI_pos' h⟩
theorem n_z {n : Nat} (h : n < 2147483648) : (nI n = 0) = (n = 0) := n_eq (b := 0) h (by omega)
theorem n_le0 {n : Nat} (h : n < 2147483648) : (nI n ≤ 0) = (n = 0) := by
  rw [show (0 : Int32) = nI 0 from rfl, n_le h (by omega)]
  exact propext (by omega)
theorem n_lt0 {n : Nat} (h : n < 2147483648) : ((0 : Int32) < nI n) = (0 < n) := n_lt (a := 0) (by omega) h
theorem n_m1 {n : Nat} (h : n < 2147483648) : (nI n = -1) = False := propext ⟨fun q => by
  have h1 := congrArg Int32.toInt q
  rw [n_toInt h] at h1
  have h2 : (-1 : Int32).toInt = -1 := rfl
  omega, False.elim⟩
theorem n_add (a b : Nat) : nI a + nI b = nI (a + b) := nI_add a b
theorem n_mul (a b : Nat) : nI a * nI b = nI (a * b) := pk_mul a b
theorem n_sub {a b : Nat} (h : b ≤ a) : nI a - nI b = nI (a - b) := pk_sub h
theorem n_s (a : Nat) : nI a + 1 = nI (a + 1) := nI_1 a
theorem bI_0 (b : Bool) : (bI b = 0) = (b = false) := by cases b <;> simp [bI]
theorem bI_1 (b : Bool) : (bI b = 1) = (b = true) := by cases b <;> simp [bI]
theorem bI_z (b : Bool) : isZ (bI b) = true := by cases b <;> rfl
-- bits
theorem s_l31 : ∀ n, n < 32 → ((nI n &&& 31).toBitVec.smod 32).toNat = n := by decide +kernel
theorem n_shr {w i : Nat} (hw : w < 2147483648) (hi : i < 32) : nI w >>> (nI i &&& 31) = nI (w / 2 ^ i) := pk_shrN hw _ _ (s_l31 i hi)
theorem n_and1 {w : Nat} (hw : w < 4294967296) : nI w &&& 1 = nI (w % 2) := pk_andN hw (m := 1) 1 rfl
theorem n_bit {w i : Nat} (hw : w < 2147483648) (hi : i < 32) : ((nI w >>> (nI i &&& 31)) &&& (1 : Int32)) = bI (w.testBit i) := by
  rw [n_shr hw hi, n_and1 (by have := Nat.div_le_self w (2 ^ i); omega)]
  rw [Nat.testBit_eq_decide_div_mod_eq]
  have h : w / 2 ^ i % 2 < 2 := Nat.mod_lt _ (by omega)
  unfold bI
  by_cases hc : w / 2 ^ i % 2 = 1
  · rw [hc]; simp; rfl
  · have h0 : w / 2 ^ i % 2 = 0 := by omega
    rw [h0]; simp; rfl
theorem n_shl {i : Nat} (hi : i < 31) : (1 : Int32) <<< (nI i &&& 31) = nI (2 ^ i) := by
  have h := pk_shlN (n := 1) (nI i &&& 31) i (s_l31 i (by omega)) (by
    have : 2 ^ i ≤ 2 ^ 30 := Nat.pow_le_pow_right (by omega) (by omega)
    omega)
  rw [Nat.one_mul] at h
  exact h
theorem n_or (a b : Nat) : nI a ||| nI b = nI (a ||| b) := by
  apply Int32.toBitVec_inj.mp
  show (BitVec.ofNat 32 a ||| BitVec.ofNat 32 b) = BitVec.ofNat 32 (a ||| b)
  exact (BitVec.ofNat_or ..).symm
theorem n_and (a b : Nat) : nI a &&& nI b = nI (a &&& b) := by
  apply Int32.toBitVec_inj.mp
  show (BitVec.ofNat 32 a &&& BitVec.ofNat 32 b) = BitVec.ofNat 32 (a &&& b)
  exact (BitVec.ofNat_and ..).symm
theorem n_xor (a b : Nat) : nI a ^^^ nI b = nI (a ^^^ b) := by
  apply Int32.toBitVec_inj.mp
  show (BitVec.ofNat 32 a ^^^ BitVec.ofNat 32 b) = BitVec.ofNat 32 (a ^^^ b)
  exact (BitVec.ofNat_xor ..).symm
-- w without the bits of m
def clr (w m : Nat) : Nat := w ^^^ (w &&& m)
theorem clr_bit (w m i : Nat) : (clr w m).testBit i = (w.testBit i && !m.testBit i) := by
  unfold clr
  rw [Nat.testBit_xor, Nat.testBit_and]
  cases w.testBit i <;> cases m.testBit i <;> rfl
theorem n_clr (w m : Nat) : nI w &&& (nI m ^^^ (-1 : Int32)) = nI (clr w m) := by
  apply Int32.toBitVec_inj.mp
  show (BitVec.ofNat 32 w &&& (BitVec.ofNat 32 m ^^^ BitVec.allOnes 32)) = BitVec.ofNat 32 (clr w m)
  apply BitVec.eq_of_getLsbD_eq
  intro i hi
  rw [BitVec.getLsbD_and, BitVec.getLsbD_xor, BitVec.getLsbD_ofNat, BitVec.getLsbD_ofNat, BitVec.getLsbD_ofNat, BitVec.getLsbD_allOnes, clr_bit]
  simp [hi]
theorem clr_lt {w m b : Nat} (h : w < b) : clr w m ≤ w := by
  unfold clr
  have h1 : w ^^^ (w &&& m) = w &&& (w ^^^ (w &&& m)) := by
    apply Nat.eq_of_testBit_eq
    intro i
    rw [Nat.testBit_and, Nat.testBit_xor, Nat.testBit_and]
    cases w.testBit i <;> cases m.testBit i <;> rfl
  rw [h1]
  exact Nat.and_le_left
theorem or_lt {a b k : Nat} (ha : a < 2 ^ k) (hb : b < 2 ^ k) : a ||| b < 2 ^ k := Nat.or_lt_two_pow ha hb
theorem two_lt {i k : Nat} (h : i < k) : 2 ^ i < 2 ^ k := Nat.pow_lt_pow_right (by omega) h
theorem lt31 {w k : Nat} (h : w < 2 ^ k) (hk : k ≤ 30) : w < 1073741825 := by
  have : 2 ^ k ≤ 2 ^ 30 := Nat.pow_le_pow_right (by omega) hk
  omega
theorem tb_hi {w k i : Nat} (h : w < 2 ^ k) (hi : k ≤ i) : w.testBit i = false := Nat.testBit_lt_two_pow (Nat.lt_of_lt_of_le h (Nat.pow_le_pow_right (by omega) hi))
theorem tb_two (i j : Nat) : (2 ^ i).testBit j = decide (i = j) := Nat.testBit_two_pow ..
-- any of the first n
def anyF (f : Nat → Bool) : Nat → Bool
  | 0 => false
  | n + 1 => anyF f n || f n
theorem anyF_iff {f : Nat → Bool} : ∀ {n : Nat}, anyF f n = true ↔ ∃ i, i < n ∧ f i = true
  | 0 => by simp [anyF]
  | n + 1 => by
    rw [anyF, Bool.or_eq_true, anyF_iff]
    constructor
    · rintro (⟨i, h1, h2⟩ | h)
      · exact ⟨i, by omega, h2⟩
      · exact ⟨n, by omega, h⟩
    · rintro ⟨i, h1, h2⟩
      by_cases hi : i = n
      · subst hi; exact Or.inr h2
      · exact Or.inl ⟨i, by omega, h2⟩
theorem anyF_no {f : Nat → Bool} {n : Nat} (h : ∀ i, i < n → f i = false) : anyF f n = false := by
  cases hc : anyF f n with
  | false => rfl
  | true => obtain ⟨i, h1, h2⟩ := anyF_iff.mp hc; rw [h i h1] at h2; cases h2
theorem anyF_yes {f : Nat → Bool} {n i : Nat} (h : i < n) (hf : f i = true) : anyF f n = true := anyF_iff.mpr ⟨i, h, hf⟩
theorem anyF_congr {f g : Nat → Bool} {n : Nat} (h : ∀ i, i < n → f i = g i) : anyF f n = anyF g n := by
  cases hg : anyF g n with
  | false =>
    refine anyF_no fun i hi => ?_
    rw [h i hi]
    cases hgi : g i with
    | false => rfl
    | true => rw [anyF_yes hi hgi] at hg; cases hg
  | true =>
    obtain ⟨i, h1, h2⟩ := anyF_iff.mp hg
    exact anyF_yes h1 (by rw [h i h1]; exact h2)
-- the mask of the first n
def msk (f : Nat → Bool) : Nat → Nat
  | 0 => 0
  | n + 1 => msk f n ||| (if f n = true then 2 ^ n else 0)
theorem msk_bit (f : Nat → Bool) : ∀ (n i : Nat), (msk f n).testBit i = (decide (i < n) && f i)
  | 0, i => by simp [msk]
  | n + 1, i => by
    rw [msk, Nat.testBit_or, msk_bit f n i]
    by_cases hf : f n = true
    · rw [if_pos hf, tb_two]
      by_cases hi : n = i
      · subst hi; simp [hf]
      · have : decide (i < n + 1) = decide (i < n) := by simp; omega
        rw [this]; simp [hi]
    · rw [if_neg hf, Nat.zero_testBit, Bool.or_false]
      by_cases hi : i = n
      · subst hi
        have hff : f i = false := by cases hx : f i <;> simp_all
        simp [hff]
      · have : decide (i < n + 1) = decide (i < n) := by simp; omega
        rw [this]
theorem msk_lt (f : Nat → Bool) : ∀ n : Nat, msk f n < 2 ^ n
  | 0 => by simp [msk]
  | n + 1 => by
    rw [msk]
    refine or_lt (Nat.lt_of_lt_of_le (msk_lt f n) (Nat.pow_le_pow_right (by omega) (by omega))) ?_
    by_cases hf : f n = true
    · rw [if_pos hf]; exact two_lt (by omega)
    · rw [if_neg hf]; exact Nat.two_pow_pos _
theorem msk_s {f : Nat → Bool} {n : Nat} (h : f n = true) : msk f n ||| 2 ^ n = msk f (n + 1) := by rw [msk, if_pos h]
theorem msk_n {f : Nat → Bool} {n : Nat} (h : f n = false) : msk f n = msk f (n + 1) := by rw [msk, if_neg (by rw [h]; decide), Nat.or_zero]
theorem msk_congr {f g : Nat → Bool} {n : Nat} (h : ∀ i, i < n → f i = g i) : msk f n = msk g n := by
  apply Nat.eq_of_testBit_eq
  intro i
  rw [msk_bit, msk_bit]
  by_cases hi : i < n
  · rw [h i hi]
  · simp [hi]
theorem msk_of {w n : Nat} (h : w < 2 ^ n) : msk w.testBit n = w := by
  apply Nat.eq_of_testBit_eq
  intro i
  rw [msk_bit]
  by_cases hi : i < n
  · simp [hi]
  · rw [tb_hi h (by omega)]; simp
theorem and_zero_iff {a b n : Nat} (h : a < 2 ^ n) : (a &&& b = 0) = (anyF (fun i => a.testBit i && b.testBit i) n = false) := by
  apply propext
  constructor
  · intro hz
    refine anyF_no fun i _ => ?_
    rw [← Nat.testBit_and, hz, Nat.zero_testBit]
  · intro ha
    apply Nat.eq_of_testBit_eq
    intro i
    rw [Nat.testBit_and, Nat.zero_testBit]
    by_cases hi : i < n
    · cases hx : (a.testBit i && b.testBit i) with
      | false => rfl
      | true => rw [anyF_yes (f := fun i => a.testBit i && b.testBit i) hi hx] at ha; cases ha
    · rw [tb_hi h (by omega)]; rfl
-- sums of the first n
def sumF (f : Nat → Nat) : Nat → Nat
  | 0 => 0
  | n + 1 => sumF f n + f n
theorem sumF_congr {f g : Nat → Nat} : ∀ {n : Nat}, (∀ i, i < n → f i = g i) → sumF f n = sumF g n
  | 0, _ => rfl
  | n + 1, h => by rw [sumF, sumF, sumF_congr (fun i hi => h i (by omega)), h n (by omega)]
theorem sumF_le {f : Nat → Nat} {b : Nat} : ∀ {n : Nat}, (∀ i, i < n → f i ≤ b) → sumF f n ≤ n * b
  | 0, _ => by simp [sumF]
  | n + 1, h => by
    rw [sumF, Nat.succ_mul]
    exact Nat.add_le_add (sumF_le fun i hi => h i (by omega)) (h n (by omega))
def cntF (f : Nat → Bool) (n : Nat) : Nat := sumF (fun i => if f i = true then 1 else 0) n
-- the first of n
def fstF (f : Nat → Bool) : Nat → Nat → Nat
  | _, 0 => 0
  | i, n + 1 => if f i = true then i else fstF f (i + 1) n
theorem n_e1 {a : Nat} (ha : a < 2147483648) : (nI a = (1 : Int32)) = (a = 1) := n_eq (b := 1) ha (by omega)
theorem n_le1 {a : Nat} (ha : a < 2147483648) : (nI a ≤ (1 : Int32)) = (a ≤ 1) := n_le (b := 1) ha (by omega)
theorem n_lt1 {a : Nat} (ha : a < 2147483648) : (nI a < (1 : Int32)) = (a < 1) := n_lt (b := 1) ha (by omega)
theorem n_1le {a : Nat} (ha : a < 2147483648) : ((1 : Int32) ≤ nI a) = (1 ≤ a) := n_le (a := 1) (by omega) ha
theorem n_1lt {a : Nat} (ha : a < 2147483648) : ((1 : Int32) < nI a) = (1 < a) := n_lt (a := 1) (by omega) ha
theorem n_e2 {a : Nat} (ha : a < 2147483648) : (nI a = (2 : Int32)) = (a = 2) := n_eq (b := 2) ha (by omega)
theorem n_le2 {a : Nat} (ha : a < 2147483648) : (nI a ≤ (2 : Int32)) = (a ≤ 2) := n_le (b := 2) ha (by omega)
theorem n_lt2 {a : Nat} (ha : a < 2147483648) : (nI a < (2 : Int32)) = (a < 2) := n_lt (b := 2) ha (by omega)
theorem n_2le {a : Nat} (ha : a < 2147483648) : ((2 : Int32) ≤ nI a) = (2 ≤ a) := n_le (a := 2) (by omega) ha
theorem n_2lt {a : Nat} (ha : a < 2147483648) : ((2 : Int32) < nI a) = (2 < a) := n_lt (a := 2) (by omega) ha
theorem n_e3 {a : Nat} (ha : a < 2147483648) : (nI a = (3 : Int32)) = (a = 3) := n_eq (b := 3) ha (by omega)
theorem n_le3 {a : Nat} (ha : a < 2147483648) : (nI a ≤ (3 : Int32)) = (a ≤ 3) := n_le (b := 3) ha (by omega)
theorem n_lt3 {a : Nat} (ha : a < 2147483648) : (nI a < (3 : Int32)) = (a < 3) := n_lt (b := 3) ha (by omega)
theorem n_3le {a : Nat} (ha : a < 2147483648) : ((3 : Int32) ≤ nI a) = (3 ≤ a) := n_le (a := 3) (by omega) ha
theorem n_3lt {a : Nat} (ha : a < 2147483648) : ((3 : Int32) < nI a) = (3 < a) := n_lt (a := 3) (by omega) ha
theorem n_e4 {a : Nat} (ha : a < 2147483648) : (nI a = (4 : Int32)) = (a = 4) := n_eq (b := 4) ha (by omega)
theorem n_le4 {a : Nat} (ha : a < 2147483648) : (nI a ≤ (4 : Int32)) = (a ≤ 4) := n_le (b := 4) ha (by omega)
theorem n_lt4 {a : Nat} (ha : a < 2147483648) : (nI a < (4 : Int32)) = (a < 4) := n_lt (b := 4) ha (by omega)
theorem n_4le {a : Nat} (ha : a < 2147483648) : ((4 : Int32) ≤ nI a) = (4 ≤ a) := n_le (a := 4) (by omega) ha
theorem n_4lt {a : Nat} (ha : a < 2147483648) : ((4 : Int32) < nI a) = (4 < a) := n_lt (a := 4) (by omega) ha
theorem n_e5 {a : Nat} (ha : a < 2147483648) : (nI a = (5 : Int32)) = (a = 5) := n_eq (b := 5) ha (by omega)
theorem n_le5 {a : Nat} (ha : a < 2147483648) : (nI a ≤ (5 : Int32)) = (a ≤ 5) := n_le (b := 5) ha (by omega)
theorem n_lt5 {a : Nat} (ha : a < 2147483648) : (nI a < (5 : Int32)) = (a < 5) := n_lt (b := 5) ha (by omega)
theorem n_5le {a : Nat} (ha : a < 2147483648) : ((5 : Int32) ≤ nI a) = (5 ≤ a) := n_le (a := 5) (by omega) ha
theorem n_5lt {a : Nat} (ha : a < 2147483648) : ((5 : Int32) < nI a) = (5 < a) := n_lt (a := 5) (by omega) ha
theorem n_e6 {a : Nat} (ha : a < 2147483648) : (nI a = (6 : Int32)) = (a = 6) := n_eq (b := 6) ha (by omega)
theorem n_le6 {a : Nat} (ha : a < 2147483648) : (nI a ≤ (6 : Int32)) = (a ≤ 6) := n_le (b := 6) ha (by omega)
theorem n_lt6 {a : Nat} (ha : a < 2147483648) : (nI a < (6 : Int32)) = (a < 6) := n_lt (b := 6) ha (by omega)
theorem n_6le {a : Nat} (ha : a < 2147483648) : ((6 : Int32) ≤ nI a) = (6 ≤ a) := n_le (a := 6) (by omega) ha
theorem n_6lt {a : Nat} (ha : a < 2147483648) : ((6 : Int32) < nI a) = (6 < a) := n_lt (a := 6) (by omega) ha
theorem n_e7 {a : Nat} (ha : a < 2147483648) : (nI a = (7 : Int32)) = (a = 7) := n_eq (b := 7) ha (by omega)
theorem n_le7 {a : Nat} (ha : a < 2147483648) : (nI a ≤ (7 : Int32)) = (a ≤ 7) := n_le (b := 7) ha (by omega)
theorem n_lt7 {a : Nat} (ha : a < 2147483648) : (nI a < (7 : Int32)) = (a < 7) := n_lt (b := 7) ha (by omega)
theorem n_7le {a : Nat} (ha : a < 2147483648) : ((7 : Int32) ≤ nI a) = (7 ≤ a) := n_le (a := 7) (by omega) ha
theorem n_7lt {a : Nat} (ha : a < 2147483648) : ((7 : Int32) < nI a) = (7 < a) := n_lt (a := 7) (by omega) ha
theorem n_e8 {a : Nat} (ha : a < 2147483648) : (nI a = (8 : Int32)) = (a = 8) := n_eq (b := 8) ha (by omega)
theorem n_le8 {a : Nat} (ha : a < 2147483648) : (nI a ≤ (8 : Int32)) = (a ≤ 8) := n_le (b := 8) ha (by omega)
theorem n_lt8 {a : Nat} (ha : a < 2147483648) : (nI a < (8 : Int32)) = (a < 8) := n_lt (b := 8) ha (by omega)
theorem n_8le {a : Nat} (ha : a < 2147483648) : ((8 : Int32) ≤ nI a) = (8 ≤ a) := n_le (a := 8) (by omega) ha
theorem n_8lt {a : Nat} (ha : a < 2147483648) : ((8 : Int32) < nI a) = (8 < a) := n_lt (a := 8) (by omega) ha
theorem n_e9 {a : Nat} (ha : a < 2147483648) : (nI a = (9 : Int32)) = (a = 9) := n_eq (b := 9) ha (by omega)
theorem n_le9 {a : Nat} (ha : a < 2147483648) : (nI a ≤ (9 : Int32)) = (a ≤ 9) := n_le (b := 9) ha (by omega)
theorem n_lt9 {a : Nat} (ha : a < 2147483648) : (nI a < (9 : Int32)) = (a < 9) := n_lt (b := 9) ha (by omega)
theorem n_9le {a : Nat} (ha : a < 2147483648) : ((9 : Int32) ≤ nI a) = (9 ≤ a) := n_le (a := 9) (by omega) ha
theorem n_9lt {a : Nat} (ha : a < 2147483648) : ((9 : Int32) < nI a) = (9 < a) := n_lt (a := 9) (by omega) ha
theorem n_e10 {a : Nat} (ha : a < 2147483648) : (nI a = (10 : Int32)) = (a = 10) := n_eq (b := 10) ha (by omega)
theorem n_le10 {a : Nat} (ha : a < 2147483648) : (nI a ≤ (10 : Int32)) = (a ≤ 10) := n_le (b := 10) ha (by omega)
theorem n_lt10 {a : Nat} (ha : a < 2147483648) : (nI a < (10 : Int32)) = (a < 10) := n_lt (b := 10) ha (by omega)
theorem n_10le {a : Nat} (ha : a < 2147483648) : ((10 : Int32) ≤ nI a) = (10 ≤ a) := n_le (a := 10) (by omega) ha
theorem n_10lt {a : Nat} (ha : a < 2147483648) : ((10 : Int32) < nI a) = (10 < a) := n_lt (a := 10) (by omega) ha
theorem n_e11 {a : Nat} (ha : a < 2147483648) : (nI a = (11 : Int32)) = (a = 11) := n_eq (b := 11) ha (by omega)
theorem n_le11 {a : Nat} (ha : a < 2147483648) : (nI a ≤ (11 : Int32)) = (a ≤ 11) := n_le (b := 11) ha (by omega)
theorem n_lt11 {a : Nat} (ha : a < 2147483648) : (nI a < (11 : Int32)) = (a < 11) := n_lt (b := 11) ha (by omega)
theorem n_11le {a : Nat} (ha : a < 2147483648) : ((11 : Int32) ≤ nI a) = (11 ≤ a) := n_le (a := 11) (by omega) ha
theorem n_11lt {a : Nat} (ha : a < 2147483648) : ((11 : Int32) < nI a) = (11 < a) := n_lt (a := 11) (by omega) ha
theorem n_e12 {a : Nat} (ha : a < 2147483648) : (nI a = (12 : Int32)) = (a = 12) := n_eq (b := 12) ha (by omega)
theorem n_le12 {a : Nat} (ha : a < 2147483648) : (nI a ≤ (12 : Int32)) = (a ≤ 12) := n_le (b := 12) ha (by omega)
theorem n_lt12 {a : Nat} (ha : a < 2147483648) : (nI a < (12 : Int32)) = (a < 12) := n_lt (b := 12) ha (by omega)
theorem n_12le {a : Nat} (ha : a < 2147483648) : ((12 : Int32) ≤ nI a) = (12 ≤ a) := n_le (a := 12) (by omega) ha
theorem n_12lt {a : Nat} (ha : a < 2147483648) : ((12 : Int32) < nI a) = (12 < a) := n_lt (a := 12) (by omega) ha
theorem n_e13 {a : Nat} (ha : a < 2147483648) : (nI a = (13 : Int32)) = (a = 13) := n_eq (b := 13) ha (by omega)
theorem n_le13 {a : Nat} (ha : a < 2147483648) : (nI a ≤ (13 : Int32)) = (a ≤ 13) := n_le (b := 13) ha (by omega)
theorem n_lt13 {a : Nat} (ha : a < 2147483648) : (nI a < (13 : Int32)) = (a < 13) := n_lt (b := 13) ha (by omega)
theorem n_13le {a : Nat} (ha : a < 2147483648) : ((13 : Int32) ≤ nI a) = (13 ≤ a) := n_le (a := 13) (by omega) ha
theorem n_13lt {a : Nat} (ha : a < 2147483648) : ((13 : Int32) < nI a) = (13 < a) := n_lt (a := 13) (by omega) ha
theorem n_e14 {a : Nat} (ha : a < 2147483648) : (nI a = (14 : Int32)) = (a = 14) := n_eq (b := 14) ha (by omega)
theorem n_le14 {a : Nat} (ha : a < 2147483648) : (nI a ≤ (14 : Int32)) = (a ≤ 14) := n_le (b := 14) ha (by omega)
theorem n_lt14 {a : Nat} (ha : a < 2147483648) : (nI a < (14 : Int32)) = (a < 14) := n_lt (b := 14) ha (by omega)
theorem n_14le {a : Nat} (ha : a < 2147483648) : ((14 : Int32) ≤ nI a) = (14 ≤ a) := n_le (a := 14) (by omega) ha
theorem n_14lt {a : Nat} (ha : a < 2147483648) : ((14 : Int32) < nI a) = (14 < a) := n_lt (a := 14) (by omega) ha
theorem n_e15 {a : Nat} (ha : a < 2147483648) : (nI a = (15 : Int32)) = (a = 15) := n_eq (b := 15) ha (by omega)
theorem n_le15 {a : Nat} (ha : a < 2147483648) : (nI a ≤ (15 : Int32)) = (a ≤ 15) := n_le (b := 15) ha (by omega)
theorem n_lt15 {a : Nat} (ha : a < 2147483648) : (nI a < (15 : Int32)) = (a < 15) := n_lt (b := 15) ha (by omega)
theorem n_15le {a : Nat} (ha : a < 2147483648) : ((15 : Int32) ≤ nI a) = (15 ≤ a) := n_le (a := 15) (by omega) ha
theorem n_15lt {a : Nat} (ha : a < 2147483648) : ((15 : Int32) < nI a) = (15 < a) := n_lt (a := 15) (by omega) ha
theorem n_e16 {a : Nat} (ha : a < 2147483648) : (nI a = (16 : Int32)) = (a = 16) := n_eq (b := 16) ha (by omega)
theorem n_le16 {a : Nat} (ha : a < 2147483648) : (nI a ≤ (16 : Int32)) = (a ≤ 16) := n_le (b := 16) ha (by omega)
theorem n_lt16 {a : Nat} (ha : a < 2147483648) : (nI a < (16 : Int32)) = (a < 16) := n_lt (b := 16) ha (by omega)
theorem n_16le {a : Nat} (ha : a < 2147483648) : ((16 : Int32) ≤ nI a) = (16 ≤ a) := n_le (a := 16) (by omega) ha
theorem n_16lt {a : Nat} (ha : a < 2147483648) : ((16 : Int32) < nI a) = (16 < a) := n_lt (a := 16) (by omega) ha
theorem n_e17 {a : Nat} (ha : a < 2147483648) : (nI a = (17 : Int32)) = (a = 17) := n_eq (b := 17) ha (by omega)
theorem n_le17 {a : Nat} (ha : a < 2147483648) : (nI a ≤ (17 : Int32)) = (a ≤ 17) := n_le (b := 17) ha (by omega)
theorem n_lt17 {a : Nat} (ha : a < 2147483648) : (nI a < (17 : Int32)) = (a < 17) := n_lt (b := 17) ha (by omega)
theorem n_17le {a : Nat} (ha : a < 2147483648) : ((17 : Int32) ≤ nI a) = (17 ≤ a) := n_le (a := 17) (by omega) ha
theorem n_17lt {a : Nat} (ha : a < 2147483648) : ((17 : Int32) < nI a) = (17 < a) := n_lt (a := 17) (by omega) ha
theorem n_e18 {a : Nat} (ha : a < 2147483648) : (nI a = (18 : Int32)) = (a = 18) := n_eq (b := 18) ha (by omega)
theorem n_le18 {a : Nat} (ha : a < 2147483648) : (nI a ≤ (18 : Int32)) = (a ≤ 18) := n_le (b := 18) ha (by omega)
theorem n_lt18 {a : Nat} (ha : a < 2147483648) : (nI a < (18 : Int32)) = (a < 18) := n_lt (b := 18) ha (by omega)
theorem n_18le {a : Nat} (ha : a < 2147483648) : ((18 : Int32) ≤ nI a) = (18 ≤ a) := n_le (a := 18) (by omega) ha
theorem n_18lt {a : Nat} (ha : a < 2147483648) : ((18 : Int32) < nI a) = (18 < a) := n_lt (a := 18) (by omega) ha
theorem n_e19 {a : Nat} (ha : a < 2147483648) : (nI a = (19 : Int32)) = (a = 19) := n_eq (b := 19) ha (by omega)
theorem n_le19 {a : Nat} (ha : a < 2147483648) : (nI a ≤ (19 : Int32)) = (a ≤ 19) := n_le (b := 19) ha (by omega)
theorem n_lt19 {a : Nat} (ha : a < 2147483648) : (nI a < (19 : Int32)) = (a < 19) := n_lt (b := 19) ha (by omega)
theorem n_19le {a : Nat} (ha : a < 2147483648) : ((19 : Int32) ≤ nI a) = (19 ≤ a) := n_le (a := 19) (by omega) ha
theorem n_19lt {a : Nat} (ha : a < 2147483648) : ((19 : Int32) < nI a) = (19 < a) := n_lt (a := 19) (by omega) ha
theorem n_e20 {a : Nat} (ha : a < 2147483648) : (nI a = (20 : Int32)) = (a = 20) := n_eq (b := 20) ha (by omega)
theorem n_le20 {a : Nat} (ha : a < 2147483648) : (nI a ≤ (20 : Int32)) = (a ≤ 20) := n_le (b := 20) ha (by omega)
theorem n_lt20 {a : Nat} (ha : a < 2147483648) : (nI a < (20 : Int32)) = (a < 20) := n_lt (b := 20) ha (by omega)
theorem n_20le {a : Nat} (ha : a < 2147483648) : ((20 : Int32) ≤ nI a) = (20 ≤ a) := n_le (a := 20) (by omega) ha
theorem n_20lt {a : Nat} (ha : a < 2147483648) : ((20 : Int32) < nI a) = (20 < a) := n_lt (a := 20) (by omega) ha
theorem n_e21 {a : Nat} (ha : a < 2147483648) : (nI a = (21 : Int32)) = (a = 21) := n_eq (b := 21) ha (by omega)
theorem n_le21 {a : Nat} (ha : a < 2147483648) : (nI a ≤ (21 : Int32)) = (a ≤ 21) := n_le (b := 21) ha (by omega)
theorem n_lt21 {a : Nat} (ha : a < 2147483648) : (nI a < (21 : Int32)) = (a < 21) := n_lt (b := 21) ha (by omega)
theorem n_21le {a : Nat} (ha : a < 2147483648) : ((21 : Int32) ≤ nI a) = (21 ≤ a) := n_le (a := 21) (by omega) ha
theorem n_21lt {a : Nat} (ha : a < 2147483648) : ((21 : Int32) < nI a) = (21 < a) := n_lt (a := 21) (by omega) ha
theorem n_e30 {a : Nat} (ha : a < 2147483648) : (nI a = (30 : Int32)) = (a = 30) := n_eq (b := 30) ha (by omega)
theorem n_le30 {a : Nat} (ha : a < 2147483648) : (nI a ≤ (30 : Int32)) = (a ≤ 30) := n_le (b := 30) ha (by omega)
theorem n_lt30 {a : Nat} (ha : a < 2147483648) : (nI a < (30 : Int32)) = (a < 30) := n_lt (b := 30) ha (by omega)
theorem n_30le {a : Nat} (ha : a < 2147483648) : ((30 : Int32) ≤ nI a) = (30 ≤ a) := n_le (a := 30) (by omega) ha
theorem n_30lt {a : Nat} (ha : a < 2147483648) : ((30 : Int32) < nI a) = (30 < a) := n_lt (a := 30) (by omega) ha
theorem n_e40 {a : Nat} (ha : a < 2147483648) : (nI a = (40 : Int32)) = (a = 40) := n_eq (b := 40) ha (by omega)
theorem n_le40 {a : Nat} (ha : a < 2147483648) : (nI a ≤ (40 : Int32)) = (a ≤ 40) := n_le (b := 40) ha (by omega)
theorem n_lt40 {a : Nat} (ha : a < 2147483648) : (nI a < (40 : Int32)) = (a < 40) := n_lt (b := 40) ha (by omega)
theorem n_40le {a : Nat} (ha : a < 2147483648) : ((40 : Int32) ≤ nI a) = (40 ≤ a) := n_le (a := 40) (by omega) ha
theorem n_40lt {a : Nat} (ha : a < 2147483648) : ((40 : Int32) < nI a) = (40 < a) := n_lt (a := 40) (by omega) ha
theorem n_e50 {a : Nat} (ha : a < 2147483648) : (nI a = (50 : Int32)) = (a = 50) := n_eq (b := 50) ha (by omega)
theorem n_le50 {a : Nat} (ha : a < 2147483648) : (nI a ≤ (50 : Int32)) = (a ≤ 50) := n_le (b := 50) ha (by omega)
theorem n_lt50 {a : Nat} (ha : a < 2147483648) : (nI a < (50 : Int32)) = (a < 50) := n_lt (b := 50) ha (by omega)
theorem n_50le {a : Nat} (ha : a < 2147483648) : ((50 : Int32) ≤ nI a) = (50 ≤ a) := n_le (a := 50) (by omega) ha
theorem n_50lt {a : Nat} (ha : a < 2147483648) : ((50 : Int32) < nI a) = (50 < a) := n_lt (a := 50) (by omega) ha
theorem n_e51 {a : Nat} (ha : a < 2147483648) : (nI a = (51 : Int32)) = (a = 51) := n_eq (b := 51) ha (by omega)
theorem n_le51 {a : Nat} (ha : a < 2147483648) : (nI a ≤ (51 : Int32)) = (a ≤ 51) := n_le (b := 51) ha (by omega)
theorem n_lt51 {a : Nat} (ha : a < 2147483648) : (nI a < (51 : Int32)) = (a < 51) := n_lt (b := 51) ha (by omega)
theorem n_51le {a : Nat} (ha : a < 2147483648) : ((51 : Int32) ≤ nI a) = (51 ≤ a) := n_le (a := 51) (by omega) ha
theorem n_51lt {a : Nat} (ha : a < 2147483648) : ((51 : Int32) < nI a) = (51 < a) := n_lt (a := 51) (by omega) ha
theorem n_e60 {a : Nat} (ha : a < 2147483648) : (nI a = (60 : Int32)) = (a = 60) := n_eq (b := 60) ha (by omega)
theorem n_le60 {a : Nat} (ha : a < 2147483648) : (nI a ≤ (60 : Int32)) = (a ≤ 60) := n_le (b := 60) ha (by omega)
theorem n_lt60 {a : Nat} (ha : a < 2147483648) : (nI a < (60 : Int32)) = (a < 60) := n_lt (b := 60) ha (by omega)
theorem n_60le {a : Nat} (ha : a < 2147483648) : ((60 : Int32) ≤ nI a) = (60 ≤ a) := n_le (a := 60) (by omega) ha
theorem n_60lt {a : Nat} (ha : a < 2147483648) : ((60 : Int32) < nI a) = (60 < a) := n_lt (a := 60) (by omega) ha
theorem n_e70 {a : Nat} (ha : a < 2147483648) : (nI a = (70 : Int32)) = (a = 70) := n_eq (b := 70) ha (by omega)
theorem n_le70 {a : Nat} (ha : a < 2147483648) : (nI a ≤ (70 : Int32)) = (a ≤ 70) := n_le (b := 70) ha (by omega)
theorem n_lt70 {a : Nat} (ha : a < 2147483648) : (nI a < (70 : Int32)) = (a < 70) := n_lt (b := 70) ha (by omega)
theorem n_70le {a : Nat} (ha : a < 2147483648) : ((70 : Int32) ≤ nI a) = (70 ≤ a) := n_le (a := 70) (by omega) ha
theorem n_70lt {a : Nat} (ha : a < 2147483648) : ((70 : Int32) < nI a) = (70 < a) := n_lt (a := 70) (by omega) ha
theorem n_e71 {a : Nat} (ha : a < 2147483648) : (nI a = (71 : Int32)) = (a = 71) := n_eq (b := 71) ha (by omega)
theorem n_le71 {a : Nat} (ha : a < 2147483648) : (nI a ≤ (71 : Int32)) = (a ≤ 71) := n_le (b := 71) ha (by omega)
theorem n_lt71 {a : Nat} (ha : a < 2147483648) : (nI a < (71 : Int32)) = (a < 71) := n_lt (b := 71) ha (by omega)
theorem n_71le {a : Nat} (ha : a < 2147483648) : ((71 : Int32) ≤ nI a) = (71 ≤ a) := n_le (a := 71) (by omega) ha
theorem n_71lt {a : Nat} (ha : a < 2147483648) : ((71 : Int32) < nI a) = (71 < a) := n_lt (a := 71) (by omega) ha
theorem n_e99 {a : Nat} (ha : a < 2147483648) : (nI a = (99 : Int32)) = (a = 99) := n_eq (b := 99) ha (by omega)
theorem n_le99 {a : Nat} (ha : a < 2147483648) : (nI a ≤ (99 : Int32)) = (a ≤ 99) := n_le (b := 99) ha (by omega)
theorem n_lt99 {a : Nat} (ha : a < 2147483648) : (nI a < (99 : Int32)) = (a < 99) := n_lt (b := 99) ha (by omega)
theorem n_99le {a : Nat} (ha : a < 2147483648) : ((99 : Int32) ≤ nI a) = (99 ≤ a) := n_le (a := 99) (by omega) ha
theorem n_99lt {a : Nat} (ha : a < 2147483648) : ((99 : Int32) < nI a) = (99 < a) := n_lt (a := 99) (by omega) ha
theorem n_e100 {a : Nat} (ha : a < 2147483648) : (nI a = (100 : Int32)) = (a = 100) := n_eq (b := 100) ha (by omega)
theorem n_le100 {a : Nat} (ha : a < 2147483648) : (nI a ≤ (100 : Int32)) = (a ≤ 100) := n_le (b := 100) ha (by omega)
theorem n_lt100 {a : Nat} (ha : a < 2147483648) : (nI a < (100 : Int32)) = (a < 100) := n_lt (b := 100) ha (by omega)
theorem n_100le {a : Nat} (ha : a < 2147483648) : ((100 : Int32) ≤ nI a) = (100 ≤ a) := n_le (a := 100) (by omega) ha
theorem n_100lt {a : Nat} (ha : a < 2147483648) : ((100 : Int32) < nI a) = (100 < a) := n_lt (a := 100) (by omega) ha
theorem n_e101 {a : Nat} (ha : a < 2147483648) : (nI a = (101 : Int32)) = (a = 101) := n_eq (b := 101) ha (by omega)
theorem n_le101 {a : Nat} (ha : a < 2147483648) : (nI a ≤ (101 : Int32)) = (a ≤ 101) := n_le (b := 101) ha (by omega)
theorem n_lt101 {a : Nat} (ha : a < 2147483648) : (nI a < (101 : Int32)) = (a < 101) := n_lt (b := 101) ha (by omega)
theorem n_101le {a : Nat} (ha : a < 2147483648) : ((101 : Int32) ≤ nI a) = (101 ≤ a) := n_le (a := 101) (by omega) ha
theorem n_101lt {a : Nat} (ha : a < 2147483648) : ((101 : Int32) < nI a) = (101 < a) := n_lt (a := 101) (by omega) ha
theorem n_e160 {a : Nat} (ha : a < 2147483648) : (nI a = (160 : Int32)) = (a = 160) := n_eq (b := 160) ha (by omega)
theorem n_le160 {a : Nat} (ha : a < 2147483648) : (nI a ≤ (160 : Int32)) = (a ≤ 160) := n_le (b := 160) ha (by omega)
theorem n_lt160 {a : Nat} (ha : a < 2147483648) : (nI a < (160 : Int32)) = (a < 160) := n_lt (b := 160) ha (by omega)
theorem n_160le {a : Nat} (ha : a < 2147483648) : ((160 : Int32) ≤ nI a) = (160 ≤ a) := n_le (a := 160) (by omega) ha
theorem n_160lt {a : Nat} (ha : a < 2147483648) : ((160 : Int32) < nI a) = (160 < a) := n_lt (a := 160) (by omega) ha
theorem n_e199 {a : Nat} (ha : a < 2147483648) : (nI a = (199 : Int32)) = (a = 199) := n_eq (b := 199) ha (by omega)
theorem n_le199 {a : Nat} (ha : a < 2147483648) : (nI a ≤ (199 : Int32)) = (a ≤ 199) := n_le (b := 199) ha (by omega)
theorem n_lt199 {a : Nat} (ha : a < 2147483648) : (nI a < (199 : Int32)) = (a < 199) := n_lt (b := 199) ha (by omega)
theorem n_199le {a : Nat} (ha : a < 2147483648) : ((199 : Int32) ≤ nI a) = (199 ≤ a) := n_le (a := 199) (by omega) ha
theorem n_199lt {a : Nat} (ha : a < 2147483648) : ((199 : Int32) < nI a) = (199 < a) := n_lt (a := 199) (by omega) ha
theorem n_e200 {a : Nat} (ha : a < 2147483648) : (nI a = (200 : Int32)) = (a = 200) := n_eq (b := 200) ha (by omega)
theorem n_le200 {a : Nat} (ha : a < 2147483648) : (nI a ≤ (200 : Int32)) = (a ≤ 200) := n_le (b := 200) ha (by omega)
theorem n_lt200 {a : Nat} (ha : a < 2147483648) : (nI a < (200 : Int32)) = (a < 200) := n_lt (b := 200) ha (by omega)
theorem n_200le {a : Nat} (ha : a < 2147483648) : ((200 : Int32) ≤ nI a) = (200 ≤ a) := n_le (a := 200) (by omega) ha
theorem n_200lt {a : Nat} (ha : a < 2147483648) : ((200 : Int32) < nI a) = (200 < a) := n_lt (a := 200) (by omega) ha
theorem n_e999 {a : Nat} (ha : a < 2147483648) : (nI a = (999 : Int32)) = (a = 999) := n_eq (b := 999) ha (by omega)
theorem n_le999 {a : Nat} (ha : a < 2147483648) : (nI a ≤ (999 : Int32)) = (a ≤ 999) := n_le (b := 999) ha (by omega)
theorem n_lt999 {a : Nat} (ha : a < 2147483648) : (nI a < (999 : Int32)) = (a < 999) := n_lt (b := 999) ha (by omega)
theorem n_999le {a : Nat} (ha : a < 2147483648) : ((999 : Int32) ≤ nI a) = (999 ≤ a) := n_le (a := 999) (by omega) ha
theorem n_999lt {a : Nat} (ha : a < 2147483648) : ((999 : Int32) < nI a) = (999 < a) := n_lt (a := 999) (by omega) ha
theorem n_e1000 {a : Nat} (ha : a < 2147483648) : (nI a = (1000 : Int32)) = (a = 1000) := n_eq (b := 1000) ha (by omega)
theorem n_le1000 {a : Nat} (ha : a < 2147483648) : (nI a ≤ (1000 : Int32)) = (a ≤ 1000) := n_le (b := 1000) ha (by omega)
theorem n_lt1000 {a : Nat} (ha : a < 2147483648) : (nI a < (1000 : Int32)) = (a < 1000) := n_lt (b := 1000) ha (by omega)
theorem n_1000le {a : Nat} (ha : a < 2147483648) : ((1000 : Int32) ≤ nI a) = (1000 ≤ a) := n_le (a := 1000) (by omega) ha
theorem n_1000lt {a : Nat} (ha : a < 2147483648) : ((1000 : Int32) < nI a) = (1000 < a) := n_lt (a := 1000) (by omega) ha
theorem FU_def : FU = 2000 := rfl
