theorem nw_at {args : Array Value} {s : State} (hgv : (Jvm.Cond.and given_1 narrow_1).before args s = true) {w : Cond} (n : Nat) (h : (flatC (Jvm.Cond.and given_1 narrow_1))[n]? = some w) : w.before args s = true := flat_of_before _ hgv _ (List.mem_of_getElem? h)
theorem law_arr {args : Array Value} {s : State} {ty : FieldType} (h : (Cond.arrayClass ty).before args s = true) : ∃ cA : ClassId, ArrOfT s cA ty ∧ s.vm.findClass ("[" ++ ty.toString) = some cA := by
  obtain ⟨cA, kC, cc', hcomp', hkC, hkindC⟩ := Cond.arrayClass_spec h
  exact ⟨cA, fun N z => ⟨(fun k h => by cases h), kC, hkC, cc', hkindC⟩, hcomp'⟩
theorem law_arrR {s : State} {C : String} (h : va_AO C s) : ∃ cA : ClassId, ArrOfT s cA (.object C) ∧ va_RA s cA (.object C) := by
  obtain ⟨comp, cA, kA, hcomp, hidx, hkA, hkindA, hnameA⟩ := Cond.arrayOver_spec (va_AO.use (A := #[]) h)
  exact ⟨cA, fun N z => ⟨(fun k h => by cases h), kA, hkA, comp, hkindA⟩, kA, comp, hkA, hkindA, hcomp, hnameA⟩
theorem law_arrA {s : State} {t : FieldType} (h : va_AOA t s) : ∃ cA : ClassId, ArrOfT s cA (.array t) ∧ va_RA s cA (.array t) := by
  obtain ⟨comp, cA, kA, hcomp, hidx, hkA, hkindA, hnameA⟩ := va_AOA.spec h
  exact ⟨cA, fun N z => ⟨(fun k h => by cases h), kA, hkA, comp, hkindA⟩, hnameA⟩
set_option maxRecDepth 100000 in
theorem law_ttbAbove {s : State} {b : Nat} (hts : ∀ w ∈ lw_tbl, w.before #[Value.ref b] s = true) (hgv : (Jvm.Cond.and given_1 narrow_1).before #[Value.ref b] s = true) : ∃ t : Nat, va_Z "MountainsInMourning" "ABOVE" "[I" (.ref t) (fun q : Nat => s.heap.size ≤ q) s s.heap ∧ va_T .int t 7 (fun j => .int (tbAbove j)) (fun q : Nat => s.heap.size ≤ q) s s.heap := by
  have hA : ∀ a : Nat, a < s.heap.size → ¬ (fun q : Nat => s.heap.size ≤ q) a := fun a h => Nat.not_le.mpr h
  have hel : ∀ j : Nat, j < 7 → (Cond.eq (.elem (.static "MountainsInMourning" "ABOVE" "[I") (.int (Int32.ofNat j))) (.int (tbAbove j))).before #[Value.ref b] s = true := by
    intro j hj
    match j, hj with
    | 0, _ => exact (nw_at hgv 7 (by decide +kernel))
    | 1, _ => exact (nw_at hgv 8 (by decide +kernel))
    | 2, _ => exact (nw_at hgv 9 (by decide +kernel))
    | 3, _ => exact (nw_at hgv 10 (by decide +kernel))
    | 4, _ => exact (nw_at hgv 11 (by decide +kernel))
    | 5, _ => exact (nw_at hgv 12 (by decide +kernel))
    | 6, _ => exact (nw_at hgv 13 (by decide +kernel))
    | j + 7, hj => exact absurd hj (by omega)
  obtain ⟨t, ht, hT⟩ := va_Tof (args := #[Value.ref b]) (s := s) (tm := .static "MountainsInMourning" "ABOVE" "[I") (ty := .int) (N := 7) (f := fun j => .int (tbAbove j)) (A := (fun q : Nat => s.heap.size ≤ q)) (by decide) (nw_at hgv 5 (by decide +kernel)) (va_eqt (nw_at hgv 6 (by decide +kernel))) (fun j hj => va_eqt (hel j hj)) hA
  exact ⟨t, va_Zref (hts _ (List.mem_of_getElem? (i := 422) (by decide +kernel))) (hts _ (List.mem_of_getElem? (i := 84) (by decide +kernel))) ht hA, hT⟩
set_option maxRecDepth 100000 in
theorem law_ttbNums {s : State} {b : Nat} (hts : ∀ w ∈ lw_tbl, w.before #[Value.ref b] s = true) (hgv : (Jvm.Cond.and given_1 narrow_1).before #[Value.ref b] s = true) : ∃ t : Nat, va_Z "MountainsInMourning$Reader" "NUMBERS_BEHIND" "[I" (.ref t) (fun q : Nat => s.heap.size ≤ q) s s.heap ∧ va_T .int t 6 (fun j => .int (tbNums j)) (fun q : Nat => s.heap.size ≤ q) s s.heap := by
  have hA : ∀ a : Nat, a < s.heap.size → ¬ (fun q : Nat => s.heap.size ≤ q) a := fun a h => Nat.not_le.mpr h
  have hel : ∀ j : Nat, j < 6 → (Cond.eq (.elem (.static "MountainsInMourning$Reader" "NUMBERS_BEHIND" "[I") (.int (Int32.ofNat j))) (.int (tbNums j))).before #[Value.ref b] s = true := by
    intro j hj
    match j, hj with
    | 0, _ => exact (nw_at hgv 22 (by decide +kernel))
    | 1, _ => exact (nw_at hgv 23 (by decide +kernel))
    | 2, _ => exact (nw_at hgv 24 (by decide +kernel))
    | 3, _ => exact (nw_at hgv 25 (by decide +kernel))
    | 4, _ => exact (nw_at hgv 26 (by decide +kernel))
    | 5, _ => exact (nw_at hgv 27 (by decide +kernel))
    | j + 6, hj => exact absurd hj (by omega)
  obtain ⟨t, ht, hT⟩ := va_Tof (args := #[Value.ref b]) (s := s) (tm := .static "MountainsInMourning$Reader" "NUMBERS_BEHIND" "[I") (ty := .int) (N := 6) (f := fun j => .int (tbNums j)) (A := (fun q : Nat => s.heap.size ≤ q)) (by decide) (nw_at hgv 20 (by decide +kernel)) (va_eqt (nw_at hgv 21 (by decide +kernel))) (fun j hj => va_eqt (hel j hj)) hA
  exact ⟨t, va_Zref (hts _ (List.mem_of_getElem? (i := 644) (by decide +kernel))) (hts _ (List.mem_of_getElem? (i := 86) (by decide +kernel))) ht hA, hT⟩
set_option maxRecDepth 100000 in
theorem law_ttbBodies {s : State} {b : Nat} (hts : ∀ w ∈ lw_tbl, w.before #[Value.ref b] s = true) (hgv : (Jvm.Cond.and given_1 narrow_1).before #[Value.ref b] s = true) : ∃ t : Nat, va_Z "MountainsInMourning$Mover" "BODIES" "[I" (.ref t) (fun q : Nat => s.heap.size ≤ q) s s.heap ∧ va_T .int t 21 (fun j => .int (tbBodies j)) (fun q : Nat => s.heap.size ≤ q) s s.heap := by
  have hA : ∀ a : Nat, a < s.heap.size → ¬ (fun q : Nat => s.heap.size ≤ q) a := fun a h => Nat.not_le.mpr h
  have hel : ∀ j : Nat, j < 21 → (Cond.eq (.elem (.static "MountainsInMourning$Mover" "BODIES" "[I") (.int (Int32.ofNat j))) (.int (tbBodies j))).before #[Value.ref b] s = true := by
    intro j hj
    match j, hj with
    | 0, _ => exact (nw_at hgv 31 (by decide +kernel))
    | 1, _ => exact (nw_at hgv 32 (by decide +kernel))
    | 2, _ => exact (nw_at hgv 33 (by decide +kernel))
    | 3, _ => exact (nw_at hgv 34 (by decide +kernel))
    | 4, _ => exact (nw_at hgv 35 (by decide +kernel))
    | 5, _ => exact (nw_at hgv 36 (by decide +kernel))
    | 6, _ => exact (nw_at hgv 37 (by decide +kernel))
    | 7, _ => exact (nw_at hgv 38 (by decide +kernel))
    | 8, _ => exact (nw_at hgv 39 (by decide +kernel))
    | 9, _ => exact (nw_at hgv 40 (by decide +kernel))
    | 10, _ => exact (nw_at hgv 41 (by decide +kernel))
    | 11, _ => exact (nw_at hgv 42 (by decide +kernel))
    | 12, _ => exact (nw_at hgv 43 (by decide +kernel))
    | 13, _ => exact (nw_at hgv 44 (by decide +kernel))
    | 14, _ => exact (nw_at hgv 45 (by decide +kernel))
    | 15, _ => exact (nw_at hgv 46 (by decide +kernel))
    | 16, _ => exact (nw_at hgv 47 (by decide +kernel))
    | 17, _ => exact (nw_at hgv 48 (by decide +kernel))
    | 18, _ => exact (nw_at hgv 49 (by decide +kernel))
    | 19, _ => exact (nw_at hgv 50 (by decide +kernel))
    | 20, _ => exact (nw_at hgv 51 (by decide +kernel))
    | j + 21, hj => exact absurd hj (by omega)
  obtain ⟨t, ht, hT⟩ := va_Tof (args := #[Value.ref b]) (s := s) (tm := .static "MountainsInMourning$Mover" "BODIES" "[I") (ty := .int) (N := 21) (f := fun j => .int (tbBodies j)) (A := (fun q : Nat => s.heap.size ≤ q)) (by decide) (nw_at hgv 29 (by decide +kernel)) (va_eqt (nw_at hgv 30 (by decide +kernel))) (fun j hj => va_eqt (hel j hj)) hA
  exact ⟨t, va_Zref (hts _ (List.mem_of_getElem? (i := 937) (by decide +kernel))) (hts _ (List.mem_of_getElem? (i := 87) (by decide +kernel))) ht hA, hT⟩
set_option maxRecDepth 100000 in
theorem law_str {s : State} {b : Nat} (hts : ∀ w ∈ lw_tbl, w.before #[Value.ref b] s = true) (hgv : (Jvm.Cond.and given_1 narrow_1).before #[Value.ref b] s = true) : ∃ adK adV : Nat → Nat, vk_S 6 tLen tByt adK adV (fun q : Nat => s.heap.size ≤ q) s s.heap ∧ ∀ i : Nat, i < 6 → vk_R RX4 (kX4 i) (txOf i) (adK i) s ∧ vk_R RX7 (kX7 i) (txOf i) (adK i) s := by
  have hA : ∀ a : Nat, a < s.heap.size → ¬ (fun q : Nat => s.heap.size ≤ q) a := fun a h => Nat.not_le.mpr h
  have hex : ∀ i : Nat, i < 6 → (Cond.exactly (Term.string RX4 (kX4 i)) "java/lang/String").before #[Value.ref b] s = true := by
    intro i hi
    match i, hi with
    | 0, _ => exact (nw_at hgv 52 (by decide +kernel))
    | 1, _ => exact (nw_at hgv 60 (by decide +kernel))
    | 2, _ => exact (nw_at hgv 71 (by decide +kernel))
    | 3, _ => exact (nw_at hgv 83 (by decide +kernel))
    | 4, _ => exact (nw_at hgv 95 (by decide +kernel))
    | 5, _ => exact (nw_at hgv 108 (by decide +kernel))
    | i + 6, hi => exact absurd hi (by omega)
  have hco : ∀ i : Nat, i < 6 → (Cond.eq (.field (Term.string RX4 (kX4 i)) "java/lang/String" "coder" "B") (.int 0)).before #[Value.ref b] s = true := by
    intro i hi
    match i, hi with
    | 0, _ => exact (nw_at hgv 53 (by decide +kernel))
    | 1, _ => exact (nw_at hgv 61 (by decide +kernel))
    | 2, _ => exact (nw_at hgv 72 (by decide +kernel))
    | 3, _ => exact (nw_at hgv 84 (by decide +kernel))
    | 4, _ => exact (nw_at hgv 96 (by decide +kernel))
    | 5, _ => exact (nw_at hgv 109 (by decide +kernel))
    | i + 6, hi => exact absurd hi (by omega)
  have har : ∀ i : Nat, i < 6 → (Cond.arrayOf (.field (Term.string RX4 (kX4 i)) "java/lang/String" "value" "[B") .byte).before #[Value.ref b] s = true := by
    intro i hi
    match i, hi with
    | 0, _ => exact (nw_at hgv 54 (by decide +kernel))
    | 1, _ => exact (nw_at hgv 62 (by decide +kernel))
    | 2, _ => exact (nw_at hgv 73 (by decide +kernel))
    | 3, _ => exact (nw_at hgv 85 (by decide +kernel))
    | 4, _ => exact (nw_at hgv 97 (by decide +kernel))
    | 5, _ => exact (nw_at hgv 110 (by decide +kernel))
    | i + 6, hi => exact absurd hi (by omega)
  have hle : ∀ i : Nat, i < 6 → (Cond.eq (.length (.field (Term.string RX4 (kX4 i)) "java/lang/String" "value" "[B")) (.int (Int32.ofNat (tLen.getD i 0)))).before #[Value.ref b] s = true := by
    intro i hi
    match i, hi with
    | 0, _ => exact (nw_at hgv 55 (by decide +kernel))
    | 1, _ => exact (nw_at hgv 63 (by decide +kernel))
    | 2, _ => exact (nw_at hgv 74 (by decide +kernel))
    | 3, _ => exact (nw_at hgv 86 (by decide +kernel))
    | 4, _ => exact (nw_at hgv 98 (by decide +kernel))
    | 5, _ => exact (nw_at hgv 111 (by decide +kernel))
    | i + 6, hi => exact absurd hi (by omega)
  have hel : ∀ i : Nat, i < 6 → ∀ j : Nat, j < tLen.getD i 0 → (Cond.eq (.elem (.field (Term.string RX4 (kX4 i)) "java/lang/String" "value" "[B") (.int (Int32.ofNat j))) (.int ((tByt.getD i []).getD j 0))).before #[Value.ref b] s = true := by
    intro i hi
    match i, hi with
    | 0, _ =>
      intro j hj
      have hj : j < 4 := hj
      match j, hj with
      | 0, _ => exact (nw_at hgv 56 (by decide +kernel))
      | 1, _ => exact (nw_at hgv 57 (by decide +kernel))
      | 2, _ => exact (nw_at hgv 58 (by decide +kernel))
      | 3, _ => exact (nw_at hgv 59 (by decide +kernel))
      | j + 4, hj => exact absurd hj (by omega)
    | 1, _ =>
      intro j hj
      have hj : j < 6 := hj
      match j, hj with
      | 0, _ => exact (nw_at hgv 64 (by decide +kernel))
      | 1, _ => exact (nw_at hgv 65 (by decide +kernel))
      | 2, _ => exact (nw_at hgv 66 (by decide +kernel))
      | 3, _ => exact (nw_at hgv 67 (by decide +kernel))
      | 4, _ => exact (nw_at hgv 68 (by decide +kernel))
      | 5, _ => exact (nw_at hgv 69 (by decide +kernel))
      | j + 6, hj => exact absurd hj (by omega)
    | 2, _ =>
      intro j hj
      have hj : j < 6 := hj
      match j, hj with
      | 0, _ => exact (nw_at hgv 75 (by decide +kernel))
      | 1, _ => exact (nw_at hgv 76 (by decide +kernel))
      | 2, _ => exact (nw_at hgv 77 (by decide +kernel))
      | 3, _ => exact (nw_at hgv 78 (by decide +kernel))
      | 4, _ => exact (nw_at hgv 79 (by decide +kernel))
      | 5, _ => exact (nw_at hgv 80 (by decide +kernel))
      | j + 6, hj => exact absurd hj (by omega)
    | 3, _ =>
      intro j hj
      have hj : j < 5 := hj
      match j, hj with
      | 0, _ => exact (nw_at hgv 87 (by decide +kernel))
      | 1, _ => exact (nw_at hgv 88 (by decide +kernel))
      | 2, _ => exact (nw_at hgv 89 (by decide +kernel))
      | 3, _ => exact (nw_at hgv 90 (by decide +kernel))
      | 4, _ => exact (nw_at hgv 91 (by decide +kernel))
      | j + 5, hj => exact absurd hj (by omega)
    | 4, _ =>
      intro j hj
      have hj : j < 5 := hj
      match j, hj with
      | 0, _ => exact (nw_at hgv 99 (by decide +kernel))
      | 1, _ => exact (nw_at hgv 100 (by decide +kernel))
      | 2, _ => exact (nw_at hgv 101 (by decide +kernel))
      | 3, _ => exact (nw_at hgv 102 (by decide +kernel))
      | 4, _ => exact (nw_at hgv 103 (by decide +kernel))
      | j + 5, hj => exact absurd hj (by omega)
    | 5, _ =>
      intro j hj
      have hj : j < 4 := hj
      match j, hj with
      | 0, _ => exact (nw_at hgv 112 (by decide +kernel))
      | 1, _ => exact (nw_at hgv 113 (by decide +kernel))
      | 2, _ => exact (nw_at hgv 114 (by decide +kernel))
      | 3, _ => exact (nw_at hgv 115 (by decide +kernel))
      | j + 4, hj => exact absurd hj (by omega)
    | i + 6, hi => exact absurd hi (by omega)
  have key : ∀ i j : Nat, i < j → j < 6 → (Cond.not (Cond.eq (Term.string RX4 (kX4 i)) (Term.string RX4 (kX4 j)))).before #[Value.ref b] s = true := by
    intro i j h1 h2
    have hc : (i = 0 ∧ j = 1) ∨ (i = 0 ∧ j = 2) ∨ (i = 0 ∧ j = 3) ∨ (i = 0 ∧ j = 4) ∨ (i = 0 ∧ j = 5) ∨ (i = 1 ∧ j = 2) ∨ (i = 1 ∧ j = 3) ∨ (i = 1 ∧ j = 4) ∨ (i = 1 ∧ j = 5) ∨ (i = 2 ∧ j = 3) ∨ (i = 2 ∧ j = 4) ∨ (i = 2 ∧ j = 5) ∨ (i = 3 ∧ j = 4) ∨ (i = 3 ∧ j = 5) ∨ (i = 4 ∧ j = 5) := by omega
    rcases hc with ⟨rfl, rfl⟩ | ⟨rfl, rfl⟩ | ⟨rfl, rfl⟩ | ⟨rfl, rfl⟩ | ⟨rfl, rfl⟩ | ⟨rfl, rfl⟩ | ⟨rfl, rfl⟩ | ⟨rfl, rfl⟩ | ⟨rfl, rfl⟩ | ⟨rfl, rfl⟩ | ⟨rfl, rfl⟩ | ⟨rfl, rfl⟩ | ⟨rfl, rfl⟩ | ⟨rfl, rfl⟩ | ⟨rfl, rfl⟩
    · exact (nw_at hgv 70 (by decide +kernel))
    · exact (nw_at hgv 81 (by decide +kernel))
    · exact (nw_at hgv 92 (by decide +kernel))
    · exact (nw_at hgv 104 (by decide +kernel))
    · exact (nw_at hgv 116 (by decide +kernel))
    · exact (nw_at hgv 82 (by decide +kernel))
    · exact (nw_at hgv 93 (by decide +kernel))
    · exact (nw_at hgv 105 (by decide +kernel))
    · exact (nw_at hgv 117 (by decide +kernel))
    · exact (nw_at hgv 94 (by decide +kernel))
    · exact (nw_at hgv 106 (by decide +kernel))
    · exact (nw_at hgv 118 (by decide +kernel))
    · exact (nw_at hgv 107 (by decide +kernel))
    · exact (nw_at hgv 119 (by decide +kernel))
    · exact (nw_at hgv 120 (by decide +kernel))
  obtain ⟨adK, adV, hS, hev⟩ := vk_Sof (args := #[Value.ref b]) (s := s) (N := 6) (tm := fun i => Term.string RX4 (kX4 i)) (len := tLen) (byt := tByt) (A := (fun q : Nat => s.heap.size ≤ q)) (by decide) hex hco har hle hel (fun i j hi hj hij => by
    rcases Nat.lt_or_gt_of_ne hij with h | h
    · exact Or.inl (key i j h hj)
    · exact Or.inr (key j i h hi)) hA
  have h4 : ∀ i : Nat, i < 6 → (Cond.stringRef RX4 (kX4 i) (txOf i)).before #[Value.ref b] s = true := by
    intro i hi
    match i, hi with
    | 0, _ => exact (hts _ (List.mem_of_getElem? (i := 577) (by decide +kernel)))
    | 1, _ => exact (hts _ (List.mem_of_getElem? (i := 578) (by decide +kernel)))
    | 2, _ => exact (hts _ (List.mem_of_getElem? (i := 579) (by decide +kernel)))
    | 3, _ => exact (hts _ (List.mem_of_getElem? (i := 580) (by decide +kernel)))
    | 4, _ => exact (hts _ (List.mem_of_getElem? (i := 581) (by decide +kernel)))
    | 5, _ => exact (hts _ (List.mem_of_getElem? (i := 582) (by decide +kernel)))
    | i + 6, hi => exact absurd hi (by omega)
  have h7 : ∀ i : Nat, i < 6 → (Cond.stringRef RX7 (kX7 i) (txOf i)).before #[Value.ref b] s = true := by
    intro i hi
    match i, hi with
    | 0, _ => exact (hts _ (List.mem_of_getElem? (i := 1240) (by decide +kernel)))
    | 1, _ => exact (hts _ (List.mem_of_getElem? (i := 1263) (by decide +kernel)))
    | 2, _ => exact (hts _ (List.mem_of_getElem? (i := 1264) (by decide +kernel)))
    | 3, _ => exact (hts _ (List.mem_of_getElem? (i := 1265) (by decide +kernel)))
    | 4, _ => exact (hts _ (List.mem_of_getElem? (i := 1266) (by decide +kernel)))
    | 5, _ => exact (hts _ (List.mem_of_getElem? (i := 1267) (by decide +kernel)))
    | i + 6, hi => exact absurd hi (by omega)
  have he : ∀ i : Nat, i < 6 → (Cond.eq (Term.string RX4 (kX4 i)) (Term.string RX7 (kX7 i))).before #[Value.ref b] s = true := by
    intro i hi
    match i, hi with
    | 0, _ => exact (nw_at hgv 129 (by decide +kernel))
    | 1, _ => exact (nw_at hgv 146 (by decide +kernel))
    | 2, _ => exact (nw_at hgv 164 (by decide +kernel))
    | 3, _ => exact (nw_at hgv 182 (by decide +kernel))
    | 4, _ => exact (nw_at hgv 201 (by decide +kernel))
    | 5, _ => exact (nw_at hgv 220 (by decide +kernel))
    | i + 6, hi => exact absurd hi (by omega)
  exact ⟨adK, adV, hS, fun i hi => ⟨vk_R.of (h4 i hi) (hev i hi), vk_R.of (h7 i hi) (va_eqR (he i hi) (hev i hi))⟩⟩
set_option maxRecDepth 100000 in
theorem law_ev {s : State} {b : Nat} (hts : ∀ w ∈ lw_tbl, w.before #[Value.ref b] s = true) (hgv : (Jvm.Cond.and given_1 narrow_1).before #[Value.ref b] s = true) : ∃ γ : Gm, va_K γ.1 vwCl (TY γ) s ∧ Ev γ (fun q : Nat => s.heap.size ≤ q) s s.heap := by
  have hA : ∀ a : Nat, a < s.heap.size → ¬ (fun q : Nat => s.heap.size ≤ q) a := fun a h => Nat.not_le.mpr h
  have hU : ∀ w ∈ U, w.before #[Value.ref b] s = true := fun w h => hts w (List.mem_filter.mp h).1
  obtain ⟨c0, i0, hk0⟩ := u_known (C := RX0) (T := TX0) (N := 1) (n := 1) hU uin0 (hU _ U246)
  obtain ⟨c1, i1, hk1⟩ := u_known (C := RX1) (T := TX1) (N := 5) (n := 5) hU uin1 (hU _ U222)
  obtain ⟨c2, i2, hk2⟩ := u_known (C := RX2) (T := TX2) (N := 5) (n := 5) hU uin2 (hU _ U256)
  obtain ⟨c3, i3, hk3⟩ := u_known (C := RX3) (T := TX3) (N := 18) (n := 18) hU uin3 (hU _ U108)
  obtain ⟨c4, i4, hk4⟩ := u_known (C := RX4) (T := TX4) (N := 5) (n := 5) hU uin4 (hU _ U199)
  obtain ⟨c5, i5, hk5⟩ := u_known (C := RX5) (T := TX5) (N := 3) (n := 3) hU uin5 (hU _ U281)
  obtain ⟨c6, i6, hk6⟩ := u_known (C := RX6) (T := TX6) (N := 12) (n := 12) hU uin6 (hU _ U100)
  obtain ⟨c7, i7, hk7⟩ := u_known (C := RX7) (T := TX7) (N := 35) (n := 35) hU uin7 (hU _ U964)
  have hao : va_AO RX5 s := va_AO.of (hts _ (List.mem_of_getElem? (i := 197) (by decide +kernel)))
  have haoa : va_AOA .int s := (show (Cond.arrayOver (.array .int)).before #[Value.ref b] s = true from (hts _ (List.mem_of_getElem? (i := 262) (by decide +kernel))))
  obtain ⟨a0, ho0, hn0⟩ := law_arr (hU _ U195)
  obtain ⟨a1, ho1, hn1⟩ := law_arr (hU _ U298)
  obtain ⟨a2, ho2, hn2⟩ := law_arrR hao
  obtain ⟨a3, ho3, hn3⟩ := law_arrA haoa
  obtain ⟨t0, hz0, hT0⟩ := law_ttbAbove hts hgv
  obtain ⟨t1, hz1, hT1⟩ := law_ttbNums hts hgv
  obtain ⟨t2, hz2, hT2⟩ := law_ttbBodies hts hgv
  obtain ⟨adK, adV, hS, hR⟩ := law_str hts hgv
  have hKK : ∀ i : Nat, i < 6 → (if 10 + i < 10 then ([t0, t1, t2] : List Nat).getD (10 + i) 0 else if 10 + i < 20 then adK (10 + i - 10) else adV (10 + i - 20)) = adK i := fun i hi => by
    rw [if_neg (by omega), if_pos (by omega), Nat.add_sub_cancel_left]
  have hVV : ∀ i : Nat, i < 6 → (if 20 + i < 10 then ([t0, t1, t2] : List Nat).getD (20 + i) 0 else if 20 + i < 20 then adK (20 + i - 10) else adV (20 + i - 20)) = adV i := fun i hi => by
    rw [if_neg (by omega), if_neg (by omega), Nat.add_sub_cancel_left]
  refine ⟨((fun k => ([c0, c1, c2, c3, c4, c5, c6, c7] : List Nat).getD k 0, fun k => match k with | 0 => i0 | 1 => i1 | 2 => i2 | 3 => i3 | 4 => i4 | 5 => i5 | 6 => i6 | _ => i7), fun k => ([a0, a1, a2, a3] : List Nat).getD k 0, fun k => if k < 10 then ([t0, t1, t2] : List Nat).getD k 0 else if k < 20 then adK (k - 10) else adV (k - 20)), ⟨fun k q hq => ?_, fun k q hq => ?_⟩, ⟨hz0, hT0⟩, ⟨hz1, hT1⟩, ⟨hz2, hT2⟩, ⟨⟨fun i hi => ?_, fun i j hi hj e => ?_⟩, ?_, ?_⟩, fun i hi => ?_, fun w hw => va_Nw.of (nest_tab (NW_nest w hw)) (hts _ (NW_in w hw)), hao, haoa⟩
  · match k, hq with
    | 0, hq => cases hq; exact hk0
    | 1, hq => cases hq; exact hk1
    | 2, hq => cases hq; exact hk2
    | 3, hq => cases hq; exact hk3
    | 4, hq => cases hq; exact hk4
    | 5, hq => cases hq; exact hk5
    | 6, hq => cases hq; exact hk6
    | 7, hq => cases hq; exact hk7
    | k + 8, hq => cases hq
  · match k, hq with
    | 0, hq => cases hq; exact ⟨ho0, hn0⟩
    | 1, hq => cases hq; exact ⟨ho1, hn1⟩
    | 2, hq => cases hq; exact ⟨ho2, hn2⟩
    | 3, hq => cases hq; exact ⟨ho3, hn3⟩
    | k + 4, hq => cases hq
  · have h := hS.1 i hi
    rw [← hKK i hi, ← hVV i hi] at h
    exact h
  · have e : (if 10 + i < 10 then ([t0, t1, t2] : List Nat).getD (10 + i) 0 else if 10 + i < 20 then adK (10 + i - 10) else adV (10 + i - 20)) = (if 10 + j < 10 then ([t0, t1, t2] : List Nat).getD (10 + j) 0 else if 10 + j < 20 then adK (10 + j - 10) else adV (10 + j - 20)) := e
    rw [hKK i hi, hKK j hj] at e
    exact hS.2 i j hi hj e
  · exact va_Zof (hts _ (List.mem_of_getElem? (i := 592) (by decide +kernel))) (hts _ (List.mem_of_getElem? (i := 94) (by decide +kernel))) (va_eqi (nw_at hgv 14 (by decide +kernel))) hA
  · exact va_Zqof (hts _ (List.mem_of_getElem? (i := 600) (by decide +kernel))) (hts _ (List.mem_of_getElem? (i := 96) (by decide +kernel))) (nw_at hgv 15 (by decide +kernel)) hA
  · have h := hR i hi
    rw [← hKK i hi] at h
    exact h
