-- 'new int[4][10]', made cell by cell: my own row, of these two lengths only
def ma_f (h i : Nat) : Nat → Option Nat := fun j => if j < i then some (h + 1 + j) else none
def ma_o (cA : ClassId) (h i : Nat) : Cell := arrV cA 4 (fun j => va_rf (ma_f h i j))
def ma_i (cI : ClassId) : Cell := arrV cI 10 (fun _ => .int 0)
def ma_st (T : State) (cA cI : ClassId) : Nat → State
  | 0 => T.pushCell (ma_o cA T.heap.size 0)
  | i + 1 => ((ma_st T cA cI i).pushCell (ma_i cI)).setCell T.heap.size (ma_o cA T.heap.size (i + 1))
theorem ma_next (cA : ClassId) (h i : Nat) : (ma_o cA h i).setSlot i (.ref (h + 1 + i)) = ma_o cA h (i + 1) := by
  unfold ma_o
  rw [arrV_store]
  congr 1
  funext j
  unfold updV ma_f
  by_cases e : j = i
  · subst e
    rw [if_pos rfl, if_pos (Nat.lt_succ_self _)]
    rfl
  · rw [if_neg e]
    show va_rf (if j < i then some (h + 1 + j) else none) = va_rf (if j < i + 1 then some (h + 1 + j) else none)
    by_cases hj : j < i
    · rw [if_pos hj, if_pos (Nat.lt_succ_of_lt hj)]
    · rw [if_neg hj, if_neg (by omega)]
theorem ma_is (T : State) (cA cI : ClassId) : ∀ i : Nat, (ma_st T cA cI i).heap.size = T.heap.size + 1 + i ∧ (ma_st T cA cI i).heap[T.heap.size]? = some (ma_o cA T.heap.size i) ∧ (ma_st T cA cI i).vm = T.vm ∧ (ma_st T cA cI i).slotsUsed = T.slotsUsed + 4 + i * 10
  | 0 => ⟨by simp [ma_st], by simp [ma_st], rfl, by simp [ma_st, ma_o, arrV_size]⟩
  | i + 1 => by
    obtain ⟨h1, h2, h3, h4⟩ := ma_is T cA cI i
    have hl : T.heap.size < (ma_st T cA cI i).heap.size := by omega
    refine ⟨?_, State.heap_setCell_self (by rw [State.heap_pushCell_of_lt (h := hl)]; exact h2), by simp [ma_st, h3], ?_⟩
    · simp [ma_st, State.setCell, h1]; omega
    · simp [ma_st, h4, ma_i, arrV_size]; omega
theorem ma_top (T : State) (f : JFrame) (cA cI : ClassId) : ∀ i : Nat, ma_st (T.setTop f) cA cI i = (ma_st T cA cI i).setTop f
  | 0 => rfl
  | i + 1 => by simp only [ma_st, ma_top T f cA cI i, State.heap_setTop, State.pushCell_setTop, State.setCell_setTop]
theorem ma_before (T : State) (cA cI : ClassId) {q : Nat} (hq : q < T.heap.size) : ∀ i : Nat, (ma_st T cA cI i).heap[q]? = T.heap[q]?
  | 0 => State.heap_pushCell_of_lt _ _ hq
  | i + 1 => by
    have h1 := (ma_is T cA cI i).1
    show (((ma_st T cA cI i).pushCell (ma_i cI)).setCell T.heap.size _).heap[q]? = _
    have hl : q < (ma_st T cA cI i).heap.size := by omega
    rw [State.heap_setCell_other (Nat.ne_of_gt hq), State.heap_pushCell_of_lt (h := hl)]
    exact ma_before T cA cI hq i
theorem ma_in (T : State) (cA cI : ClassId) : ∀ i j : Nat, j < i → (ma_st T cA cI i).heap[T.heap.size + 1 + j]? = some (ma_i cI)
  | 0, _, h => absurd h (Nat.not_lt_zero _)
  | i + 1, j, h => by
    have h1 := (ma_is T cA cI i).1
    show (((ma_st T cA cI i).pushCell (ma_i cI)).setCell T.heap.size _).heap[T.heap.size + 1 + j]? = _
    rw [State.heap_setCell_other (show T.heap.size ≠ T.heap.size + 1 + j by omega)]
    by_cases hj : j < i
    · have hl : T.heap.size + 1 + j < (ma_st T cA cI i).heap.size := by omega
      rw [State.heap_pushCell_of_lt (h := hl)]
      exact ma_in T cA cI i j hj
    · rw [show j = i by omega, ← h1]
      exact State.heap_pushCell_size _ _
section MA
variable {E : CtlPost} {e : Env} {d : Bool} {acts : List Action} {s : State}
theorem ma_new1 {c comp : ClassId} {k : Class} {type : FieldType} {n : Nat} {v : Value} (hk : s.vm.classes[c]? = some k) (hkind : k.kind = .array comp type) (hl : ¬ n > e.platform.arrayLengthLimit) (hh : ¬ n * componentBytes type > e.platform.maxHeapBytes)
    (hfit : fits type v = true) (hdef : v.isDefault = true) {Q : Addr → Pre} (h1 : s.heap.size < e.platform.maxCells) (h2 : s.slotsUsed + n ≤ e.platform.maxSlots) (hq : Q s.heap.size d acts (s.pushCell (arrV c n (fun _ => v)))) : wp (Jvm.newArray c n v) Q E e d acts s := by
  have hslots : ∀ i w, (Array.replicate n v)[i]? = some w → s.fitsSlot c .none i w = true := fun i w hw => by
    rw [Array.getElem?_replicate] at hw
    split at hw
    · cases hw
      simp [State.fitsSlot, State.slotType?, hk, hkind, hfit]
    · cases hw
  have hacts : allocActs (Array.replicate n v) s.heap.size acts = acts := by
    have : ((Array.replicate n v).all (·.isDefault)) = true := by rw [Array.all_replicate]; split <;> simp [hdef]
    unfold allocActs
    rw [if_pos this]
  rw [← arrV_new] at hq
  simp only [Jvm.newArray, Jvm.arrayFits, wp_bind', W.ask, W.ite, hl, if_false, wp_pure', W.theClass, hk, hkind, hh, W.alloc, W.stop, Option.some.injEq, exists_eq_left', Array.size_replicate, hacts]
  rw [if_neg (by omega)]
  exact ⟨h1, h2, hslots, hq⟩
theorem ma_inner {comp cc : ClassId} {kc : Class} (hkc : s.vm.classes[comp]? = some kc) (hkind : kc.kind = .array cc .int) (hl : ¬ 10 > e.platform.arrayLengthLimit) (hh : ¬ 10 * 4 > e.platform.maxHeapBytes)
    (h1 : s.heap.size < e.platform.maxCells) (h2 : s.slotsUsed + 10 ≤ e.platform.maxSlots) {Q : Addr → Pre} (hq : Q s.heap.size d acts (s.pushCell (ma_i comp))) : wp (multianewarray.make comp [10]) Q E e d acts s := by
  rw [multianewarray.make]
  simp only [wp_bind', W.ite, show ¬ ((10 : Int32) < 0) by decide, if_false, wp_pure', W.theClass, hkc, hkind, Option.some.injEq, exists_eq_left']
  exact ma_new1 (n := 10) hkc hkind hl hh rfl rfl h1 h2 hq
theorem ma_make {c comp cc : ClassId} {k kc : Class} (hk : s.vm.classes[c]? = some k) (hkind : k.kind = .array comp (.array .int)) (hkc : s.vm.classes[comp]? = some kc) (hkindc : kc.kind = .array cc .int) (hlim : e.platform.arrayLengthLimit = 2147483645) (hheap : e.platform.maxHeapBytes = 536870912)
    (h1 : s.heap.size + 5 ≤ e.platform.maxCells) (h2 : s.slotsUsed + 44 ≤ e.platform.maxSlots) {Q : Addr → Pre} (hq : ∀ d' acts', Q s.heap.size d' acts' (ma_st s c comp 4)) : wp (multianewarray.make c [4, 10]) Q E e d acts s := by
  have hfit : ∀ v : Value, (v = .null ∨ ∃ a, v = .ref a) → fits (.array .int) v = true := fun v hv => by
    rcases hv with rfl | ⟨a, rfl⟩ <;> rfl
  rw [multianewarray.make]
  simp only [wp_bind', W.ite, show ¬ ((4 : Int32) < 0) by decide, if_false, wp_pure', W.theClass, hk, hkind, Option.some.injEq, exists_eq_left']
  refine ma_new1 (n := 4) hk hkind (by rw [hlim]; decide) (by rw [hheap]; decide) (hfit _ (Or.inl rfl)) rfl (by omega) (by omega) ?_
  simp only [show ([10].find? (fun x : Int32 => decide (x < 0))) = none by decide]
  rw [ite_self, wp_bind', Std.Legacy.Range.forIn_eq_forIn_range']
  show wp (forIn (List.range' 0 4 1) PUnit.unit _) _ E e d acts _
  refine wp_forIn_inv (fun rest s' => ∃ i, i ≤ 4 ∧ rest = List.range' i (4 - i) ∧ s' = ma_st s c comp i) _ _ ⟨0, Nat.zero_le _, rfl, rfl⟩ ?_ ?_
  · rintro x rest s' d' acts' Q' ⟨i, hi, hl, rfl⟩ hnext
    have hlt : i < 4 := by
      by_cases h : i < 4
      · exact h
      · rw [show 4 - i = 0 by omega] at hl; simp at hl
    rw [show 4 - i = (4 - (i + 1)) + 1 by omega, List.range'_succ] at hl
    obtain ⟨rfl, hrest⟩ := List.cons.inj hl
    obtain ⟨f1, f2, f3, f4⟩ := ma_is s c comp x
    simp only [wp_bind']
    refine ma_inner (by rw [f3]; exact hkc) hkindc (by rw [hlim]; decide) (by rw [hheap]; decide) (by omega) (by omega) ?_
    have hl0 : s.heap.size < (ma_st s c comp x).heap.size := by omega
    simp only [wp_bind', W.writeLoc, wp_pure']
    refine ⟨ma_o c s.heap.size x, by rw [State.heap_pushCell_of_lt (h := hl0)]; exact f2, (by intro h; cases h), by rw [show (ma_o c s.heap.size x).slots.size = 4 from arrV_size _ _ _]; exact hlt, ?_, hnext _ _ _ ⟨x + 1, hlt, hrest, ?_⟩⟩
    · show State.fitsSlot _ c .none x _ = true
      simp [State.fitsSlot, State.slotType?, f3, hk, hkind, hfit _ (Or.inr ⟨_, rfl⟩)]
    · rw [f1, ma_next]; rfl
  · rintro s' d' acts' ⟨i, hi, hl, rfl⟩
    have hi4 : i = 4 := by
      by_cases h : i < 4
      · rw [show 4 - i = (4 - (i + 1)) + 1 by omega, List.range'_succ] at hl; cases hl
      · omega
    subst hi4
    simp only [wp_pure']
    exact hq _ _
end MA
section MB
variable {p : Program} {l : Launch} {e : Env} {R : Room} {s : State} {m : MethodId} {args : Array Value} {below : List Frame} {meth : Method} {c : Code} {T : State} {H : Heap} {locs : List Loc} {Q : State → Prop} {γ : Gm} {A : Nat → Prop} {cells slots : Nat}
variable {cc : ByteArray} {maxL pc idx : Nat} {ret : Option FieldType} {ts : List Cond} {own : String} {rest : List Value} {ws : va_W} {ls : Array Slot}
theorem ma_stand (X : Stand p l e R s m args below meth c T locs cells slots) (cA cI : ClassId) : ∀ i : Nat, ∃ lo : List Loc, (∀ x ∈ lo, x.base = T.heap.size) ∧ Stand p l e R s m args below meth c (ma_st T cA cI i) (locs ++ lo) (cells + 1 + i) (slots + 4 + i * 10)
  | 0 => by
    have h := X.pushed (ma_o cA T.heap.size 0)
    rw [show (ma_o cA T.heap.size 0).slots.size = 4 from arrV_size _ _ _] at h
    exact ⟨[], fun x hx => absurd hx List.not_mem_nil, by rw [List.append_nil]; simpa [ma_st] using h⟩
  | i + 1 => by
    obtain ⟨lo, hlo, X1⟩ := ma_stand X cA cI i
    obtain ⟨h1, h2, h3, h4⟩ := ma_is T cA cI i
    have hl : T.heap.size < (ma_st T cA cI i).heap.size := by omega
    have h := (X1.pushed (ma_i cI)).stored (show ((ma_st T cA cI i).pushCell (ma_i cI)).heap[T.heap.size]? = some (ma_o cA T.heap.size i) by rw [State.heap_pushCell_of_lt (h := hl)]; exact h2) i (.ref (T.heap.size + 1 + i))
    rw [ma_next, show (ma_i cI).slots.size = 10 from arrV_size _ _ _] at h
    refine ⟨lo ++ [⟨T.heap.size, i⟩], fun x hx => ?_, ?_⟩
    · rcases List.mem_append.mp hx with hx | hx
      · exact hlo x hx
      · rw [List.mem_singleton.mp hx]
    · rw [← List.append_assoc, show cells + 1 + (i + 1) = cells + 1 + i + 1 by omega, show slots + 4 + (i + 1) * 10 = slots + 4 + i * 10 + 10 by omega]
      exact h
theorem kn_ma {g : JFrame} (C0 : Cx p R s m args meth c γ A cc maxL ret ts own) (hcl : (Cond.classLink own idx "[[I").before args s = true) (harr : (Cond.arrayClass .int).before args s = true) (hg : g.method = m) (hdg : decode c.code g.pc = .ok (.multianewarray idx 2, 4)) (hstack : g.stack = .int 10 :: .int 4 :: rest)
    (X : Stand p l e R s m args below meth c T locs cells slots) (hcells : cells + 5 ≤ R.cells) (hslots : slots + 44 ≤ R.slots) :
    ∃ (vm₁ : Vm) (lo : List Loc), s.WarmedH vm₁ ∧ (∀ x ∈ lo, x.base = T.heap.size) ∧ Stand p l e R s m args below meth c (ma_st (T.setVm vm₁) (γ.2.1 3) (γ.2.1 0) 4) (locs ++ lo) (cells + 5) (slots + 44) ∧
      ∀ target, Steps p.tables e below ((ma_st (T.setVm vm₁) (γ.2.1 3) (γ.2.1 0) 4).setTop { g with pc := g.pc + 4, stack := .ref T.heap.size :: rest }) target → Steps p.tables e below (T.setTop g) target := by
  obtain ⟨hx, hb, hml, hown, hts, -, -, hK, hE, hA⟩ := C0
  subst hg
  have hpl : e.platform.magicAccessors = ({} : Platform).magicAccessors := by rw [X.admits.platform]
  obtain ⟨comp, cA, kA, hcomp, -, hkA, hkindA, hnameA⟩ := va_AOA.spec hE.2.2.2.2.2.2.2
  obtain ⟨comp', kC, cc', hcomp', hkC, hkindC⟩ := Cond.arrayClass_spec harr
  have e1 : comp' = comp := Option.some.inj (hcomp'.symm.trans hcomp)
  subst e1
  have e2 : comp' = γ.2.1 0 := Option.some.inj (hcomp'.symm.trans (hK.2 0 (γ.2.1 0, .int) rfl).2)
  subst e2
  have e3 : cA = γ.2.1 3 := Option.some.inj (hnameA.symm.trans (hK.2 3 (γ.2.1 3, .array .int) rfl).2)
  subst e3
  obtain ⟨c0, hfc0, hclE⟩ := Cond.classLink_spec hown hcl e.platform hpl
  cases hnameA.symm.trans hfc0
  obtain ⟨hg₁, hwarm₁, hready₁⟩ := State.classEntry (e := e) X.warmed hclE
  generalize T.vm.noted g.method.cls idx (.cls (γ.2.1 3)) = vm₁ at hg₁ hwarm₁ hready₁
  have hal : s.vm.Alike vm₁ := hwarm₁.alike
  obtain ⟨kA₁, hkA₁, heA⟩ := hal.2.2 _ _ hkA
  obtain ⟨kC₁, hkC₁, heC⟩ := hal.2.2 _ _ hkC
  have hkindA₁ : kA₁.kind = .array (γ.2.1 0) (.array .int) := by rw [heA]; exact hkindA
  have hkindC₁ : kC₁.kind = .array cc' .int := by rw [heC]; exact hkindC
  have X₁ := X.noted hwarm₁
  obtain ⟨hr1, hr2⟩ := X.roomAbove hcells hslots
  obtain ⟨lo, hlo, XF⟩ := ma_stand X₁ (γ.2.1 3) (γ.2.1 0) 4
  refine ⟨vm₁, lo, hwarm₁, hlo, XF, fun target hrest => ?_⟩
  have hlim : e.platform.arrayLengthLimit = 2147483645 := Launch.admits_arrayLengthLimit X.admits
  have hheap : e.platform.maxHeapBytes = 536870912 := Launch.admits_maxHeapBytes X.admits
  jvm_step X.here [hx, hdg]
  simp only [multianewarray.sem, wp_bind', W.resolveClassAt_links (State.method?_setTop g X.here.top) hg₁]
  rw [W.popN, if_neg (by decide)]
  refine ⟨g, State.topJava?_setTop' (s := T.setVm vm₁) g X.here.top, [.int 4, .int 10], rest, rfl, hstack, ?_⟩
  simp only [List.mapM_cons, List.mapM_nil, wp_bind', wp_pure']
  refine ma_make (k := kA₁) (kc := kC₁) (cc := cc') hkA₁ hkindA₁ hkC₁ hkindC₁ hlim hheap (by show T.heap.size + 5 ≤ _; omega) (by show T.slotsUsed + 44 ≤ _; omega) (fun d' acts' => ?_)
  have eS : ((T.setTop g).setVm vm₁).setTop { g with stack := rest } = (T.setVm vm₁).setTop { g with stack := rest } := by
    show ((T.setVm vm₁).setTop g).setTop _ = _
    rw [State.setTop_setTop]
  rw [eS, ma_top]
  simp only [wp_bind', W.mark, W.pushRef, State.topJava?_setTop' _ XF.here.top, Option.some.injEq, exists_eq_left', State.setTop_setTop, State.heap_setTop]
  intro acts
  simp [jvm, XF.here.top]
  exact hrest
theorem kn_new2 (C0 : Cx p R s m args meth c γ A cc maxL ret ts own) (hcl : (Cond.classLink own idx "[[I").before args s = true) (harr : (Cond.arrayClass .int).before args s = true) (hP : va_P γ.1 vwCl ws H) (hD : va_D A ws) (hS : va_S A s.heap H locs) (hcells : cells + 5 ≤ R.cells) (hslots : slots + 44 ≤ R.slots) (hdg : decode cc pc = .ok (.multianewarray idx 2, 4))
    (kk : ∀ (q : Nat) (H1 : Heap) (locs1 : List Loc), va_P γ.1 vwCl (ws ++ [(q, .inl (γ.2.1 3, 4, .inr (.inr (.inr (.inr (ma_f q 4)))))), (q + 1 + 0, .inl (γ.2.1 0, 10, .inl (fun _ => 0))), (q + 1 + 1, .inl (γ.2.1 0, 10, .inl (fun _ => 0))), (q + 1 + 2, .inl (γ.2.1 0, 10, .inl (fun _ => 0))), (q + 1 + 3, .inl (γ.2.1 0, 10, .inl (fun _ => 0)))]) H1 →
      va_D A (ws ++ [(q, .inl (γ.2.1 3, 4, .inr (.inr (.inr (.inr (ma_f q 4)))))), (q + 1 + 0, .inl (γ.2.1 0, 10, .inl (fun _ => 0))), (q + 1 + 1, .inl (γ.2.1 0, 10, .inl (fun _ => 0))), (q + 1 + 2, .inl (γ.2.1 0, 10, .inl (fun _ => 0))), (q + 1 + 3, .inl (γ.2.1 0, 10, .inl (fun _ => 0)))]) → va_S A s.heap H1 locs1 →
      W p l e R s m args below meth c H1 locs1 (cells + 5) (slots + 44) Q (F0 m (pc + 4) ls (.ref q :: rest))) : W p l e R s m args below meth c H locs cells slots Q (F0 m pc ls (.int 10 :: .int 4 :: rest)) := by
  intro T hT X
  obtain ⟨vm₁, lo, hW, hlo, XF, st⟩ := kn_ma (g := F0 m pc ls (.int 10 :: .int 4 :: rest)) C0 hcl harr rfl (by rw [C0.2.1]; exact hdg) rfl X hcells hslots
  have hA : ∀ q : Nat, s.heap.size ≤ q → A q := C0.2.2.2.2.2.2.2.2.2
  have hsz : (T.setVm vm₁).heap.size = H.size := by rw [← hT]; rfl
  obtain ⟨z1, z2, -, -⟩ := ma_is (T.setVm vm₁) (γ.2.1 3) (γ.2.1 0) 4
  have hold : ∀ q : Nat, q < H.size → (ma_st (T.setVm vm₁) (γ.2.1 3) (γ.2.1 0) 4).heap[q]? = H[q]? := fun q hq => by
    rw [ma_before _ _ _ (by rw [hsz]; exact hq), ← hT]; rfl
  have hin := fun j hj => ma_in (T.setVm vm₁) (γ.2.1 3) (γ.2.1 0) 4 j hj
  rw [hsz] at z1 z2
  have hin : ∀ j : Nat, j < 4 → (ma_st (T.setVm vm₁) (γ.2.1 3) (γ.2.1 0) 4).heap[H.size + 1 + j]? = some (ma_i (γ.2.1 0)) := fun j hj => by
    rw [← hsz]; exact hin j hj
  have hnew : ∀ (k : Nat) (x : Nat × va_E), ([(H.size, .inl (γ.2.1 3, 4, .inr (.inr (.inr (.inr (ma_f H.size 4)))))), (H.size + 1 + 0, .inl (γ.2.1 0, 10, .inl (fun _ => 0))), (H.size + 1 + 1, .inl (γ.2.1 0, 10, .inl (fun _ => 0))), (H.size + 1 + 2, .inl (γ.2.1 0, 10, .inl (fun _ => 0))), (H.size + 1 + 3, .inl (γ.2.1 0, 10, .inl (fun _ => 0)))] : va_W)[k]? = some x → x.1 = H.size + k ∧ va_at γ.1 vwCl x (ma_st (T.setVm vm₁) (γ.2.1 3) (γ.2.1 0) 4).heap := fun k x hx => by
    match k, hx with
    | 0, hx => cases hx; exact ⟨rfl, z2⟩
    | 1, hx => cases hx; exact ⟨rfl, hin 0 (by decide)⟩
    | 2, hx => cases hx; exact ⟨rfl, hin 1 (by decide)⟩
    | 3, hx => cases hx; exact ⟨rfl, hin 2 (by decide)⟩
    | 4, hx => cases hx; exact ⟨rfl, hin 3 (by decide)⟩
    | k + 5, hx => cases hx
  have hD1 : va_D A (ws ++ [(H.size, .inl (γ.2.1 3, 4, .inr (.inr (.inr (.inr (ma_f H.size 4)))))), (H.size + 1 + 0, .inl (γ.2.1 0, 10, .inl (fun _ => 0))), (H.size + 1 + 1, .inl (γ.2.1 0, 10, .inl (fun _ => 0))), (H.size + 1 + 2, .inl (γ.2.1 0, 10, .inl (fun _ => 0))), (H.size + 1 + 3, .inl (γ.2.1 0, 10, .inl (fun _ => 0)))]) := by
    refine va_D_nd.mpr ⟨?_, fun x hx => ?_⟩
    · rw [List.map_append, List.nodup_append]
      refine ⟨(va_D_nd.mp hD).1, ?_, fun a ha b hb hab => ?_⟩
      · show [H.size, H.size + 1 + 0, H.size + 1 + 1, H.size + 1 + 2, H.size + 1 + 3].Nodup
        simp
        omega
      · obtain ⟨x, hx, rfl⟩ := List.mem_map.mp ha
        obtain ⟨y, hy, rfl⟩ := List.mem_map.mp hb
        obtain ⟨k, hk⟩ := List.getElem?_of_mem hx
        obtain ⟨j, hj⟩ := List.getElem?_of_mem hy
        have h1 := (hP k x hk).lt
        have h2 := (hnew j y hj).1
        omega
    · rcases List.mem_append.mp hx with hx | hx
      · exact (va_D_nd.mp hD).2 x hx
      · obtain ⟨j, hj⟩ := List.getElem?_of_mem hx
        refine hA _ ?_
        have h2 := (hnew j x hj).1
        have h3 := hS.1
        omega
  have hL1 : ∀ x ∈ locs ++ lo, A x.base := fun x hx => by
    rcases List.mem_append.mp hx with hx | hx
    · exact hS.2.2 x hx
    · rw [hlo x hx]
      refine hA _ ?_
      rw [hT]
      exact hS.1
  have hT1 : T.heap.size = H.size := by rw [hT]
  obtain ⟨t', a1, b1⟩ := kk H.size (ma_st (T.setVm vm₁) (γ.2.1 3) (γ.2.1 0) 4).heap (locs ++ lo) ((hP.kept (fun k x hx => hold x.1 ((hP k x hx).lt))).app (fun k x hx => (hnew k x hx).2)) hD1 ⟨by rw [z1]; exact Nat.le_trans hS.1 (by omega), fun q h1 h2 => (hold q (Nat.lt_of_lt_of_le h1 hS.1)).trans (hS.2.1 q h1 h2), hL1⟩ (ma_st (T.setVm vm₁) (γ.2.1 3) (γ.2.1 0) 4) rfl XF
  refine ⟨t', st t' ?_, b1⟩
  rw [hT1]
  exact a1
end MB
theorem ma_un (h0 q0 q1 q : Nat) : ma_f q 4 = unF (fun j => ([h0, 0, q0, q1, q, 0, 0, 0, 0, 0, q + 1 + 0, q + 1 + 1, q + 1 + 2, q + 1 + 3] : List Nat).getD j 0) := by
  funext j
  show (if j < 4 then some (q + 1 + j) else none) = (if j < 4 then some _ else none)
  by_cases hj : j < 4
  · rw [if_pos hj, if_pos hj]
    match j, hj with
    | 0, _ => rfl
    | 1, _ => rfl
    | 2, _ => rfl
    | 3, _ => rfl
  · rw [if_neg hj, if_neg hj]
set_option maxHeartbeats 4000000 in
set_option maxRecDepth 100000 in
theorem c_X2_init (l : Launch) (γ : Gm) (h0 : Nat) : KtN l γ yX2_init (Cond.code yX2_init cX2_init 1 none :: U) 1 12 7 50 [.ref h0] [(h0, .inr (2, [.int 0, .null, .null, .null, .int 0]))] (fun w => ∃ ad : Nat → Nat, ad 0 = h0 ∧ w = wD γ ad z0) := by
  refine KtN.of (by decide) rfl rfl (Nat.le_of_ble_eq_true rfl) ?_
  intro p e s m below meth c A ls hin C0 hP hD hS hl
  obtain ⟨hx, hb, hml, hown, hts, hr, hlocks, hK, hE, hA⟩ := id C0
  have hU : ∀ w ∈ U, w.before _ s = true := fun w h => hts w (List.mem_cons_of_mem _ h)
  have hl : lv_has ls 1 [(0, .ref h0)] := hl
  refine lv_aload_n hx hb dX2_init_0 rfl (lv_at hl 0 rfl) ?_
  refine W.objInit hx hb hown (hU _ U260) (hU _ U105) (hU _ U106) rfl (by rw [hml]; exact hl.1) rfl dX2_init_1 (Nat.le_of_ble_eq_true rfl) (Nat.le_of_ble_eq_true rfl) ?_
  refine W.eq (g2 := F0 m 4 ls []) rfl ?_
  refine lv_aload_n hx hb dX2_init_4 rfl (lv_at hl 0 rfl) ?_
  refine lv_iconst (v := 3) hx hb dX2_init_5 (by decide) ?_
  refine kn_newi (N' := 3) C0 (hU _ U195) hP hD hS (by decide) rfl (Nat.le_of_ble_eq_true rfl) (Nat.le_of_ble_eq_true rfl) (Nat.le_of_ble_eq_true rfl) dX2_init_6 (fun q0 H hP hD hS => ?_)
  have hP : va_P γ.1 vwCl [(h0, .inr (2, [.int 0, .null, .null, .null, .int 0])), (q0, .inl (γ.2.1 0, 3, .inl (fun _ => 0)))] H := hP
  have hD : va_D A [(h0, .inr (2, [.int 0, .null, .null, .null, .int 0])), (q0, .inl (γ.2.1 0, 3, .inl (fun _ => 0)))] := hD
  refine va_putF (D := γ.1) (ci := 2) (v := .ref q0) (ty := .array .int) (C := RX2) (T := TX2) (N := 5) hx hb hU uin2 tyX2 tyX2_ok nmX2 hown hK hP hD hS 0 rfl rfl 1 (by decide) (hU _ U265) (fun _ h9 => h9) rfl hin rfl (by decide +kernel) rfl rfl (Nat.le_of_ble_eq_true rfl) dX2_init_8 (fun H locs hP hD hS => ?_)
  have hP : va_P γ.1 vwCl [(h0, .inr (2, [.int 0, .ref q0, .null, .null, .int 0])), (q0, .inl (γ.2.1 0, 3, .inl (fun _ => 0)))] H := hP
  have hD : va_D A [(h0, .inr (2, [.int 0, .ref q0, .null, .null, .int 0])), (q0, .inl (γ.2.1 0, 3, .inl (fun _ => 0)))] := hD
  refine lv_aload_n hx hb dX2_init_11 rfl (lv_at hl 0 rfl) ?_
  refine lv_iconst (v := 3) hx hb dX2_init_12 (by decide) ?_
  refine kn_newi (N' := 3) C0 (hU _ U195) hP hD hS (by decide) rfl (Nat.le_of_ble_eq_true rfl) (Nat.le_of_ble_eq_true rfl) (Nat.le_of_ble_eq_true rfl) dX2_init_13 (fun q1 H hP hD hS => ?_)
  have hP : va_P γ.1 vwCl [(h0, .inr (2, [.int 0, .ref q0, .null, .null, .int 0])), (q0, .inl (γ.2.1 0, 3, .inl (fun _ => 0))), (q1, .inl (γ.2.1 0, 3, .inl (fun _ => 0)))] H := hP
  have hD : va_D A [(h0, .inr (2, [.int 0, .ref q0, .null, .null, .int 0])), (q0, .inl (γ.2.1 0, 3, .inl (fun _ => 0))), (q1, .inl (γ.2.1 0, 3, .inl (fun _ => 0)))] := hD
  refine va_putF (D := γ.1) (ci := 2) (v := .ref q1) (ty := .array .int) (C := RX2) (T := TX2) (N := 5) hx hb hU uin2 tyX2 tyX2_ok nmX2 hown hK hP hD hS 0 rfl rfl 2 (by decide) (hU _ U267) (fun _ h9 => h9) rfl hin rfl (by decide +kernel) rfl rfl (Nat.le_of_ble_eq_true rfl) dX2_init_15 (fun H locs hP hD hS => ?_)
  have hP : va_P γ.1 vwCl [(h0, .inr (2, [.int 0, .ref q0, .ref q1, .null, .int 0])), (q0, .inl (γ.2.1 0, 3, .inl (fun _ => 0))), (q1, .inl (γ.2.1 0, 3, .inl (fun _ => 0)))] H := hP
  have hD : va_D A [(h0, .inr (2, [.int 0, .ref q0, .ref q1, .null, .int 0])), (q0, .inl (γ.2.1 0, 3, .inl (fun _ => 0))), (q1, .inl (γ.2.1 0, 3, .inl (fun _ => 0)))] := hD
  refine lv_aload_n hx hb dX2_init_18 rfl (lv_at hl 0 rfl) ?_
  refine lv_iconst (v := 4) hx hb dX2_init_19 (by decide) ?_
  refine lv_bipush (v := 10) hx hb dX2_init_20 (by decide) ?_
  refine kn_new2 C0 (hU _ U261) (hU _ U195) hP hD hS (Nat.le_of_ble_eq_true rfl) (Nat.le_of_ble_eq_true rfl) dX2_init_22 (fun q H locs hP hD hS => ?_)
  rw [ma_un h0 q0 q1 q] at hP hD
  have hP : va_P γ.1 vwCl [(h0, .inr (2, [.int 0, .ref q0, .ref q1, .null, .int 0])), (q0, .inl (γ.2.1 0, 3, .inl (fun _ => 0))), (q1, .inl (γ.2.1 0, 3, .inl (fun _ => 0))), (q, .inl (γ.2.1 3, 4, .inr (.inr (.inr (.inr (unF (fun j => ([h0, 0, q0, q1, q, 0, 0, 0, 0, 0, q + 1 + 0, q + 1 + 1, q + 1 + 2, q + 1 + 3] : List Nat).getD j 0))))))), (q + 1 + 0, .inl (γ.2.1 0, 10, .inl (fun _ => 0))), (q + 1 + 1, .inl (γ.2.1 0, 10, .inl (fun _ => 0))), (q + 1 + 2, .inl (γ.2.1 0, 10, .inl (fun _ => 0))), (q + 1 + 3, .inl (γ.2.1 0, 10, .inl (fun _ => 0)))] H := hP
  have hD : va_D A [(h0, .inr (2, [.int 0, .ref q0, .ref q1, .null, .int 0])), (q0, .inl (γ.2.1 0, 3, .inl (fun _ => 0))), (q1, .inl (γ.2.1 0, 3, .inl (fun _ => 0))), (q, .inl (γ.2.1 3, 4, .inr (.inr (.inr (.inr (unF (fun j => ([h0, 0, q0, q1, q, 0, 0, 0, 0, 0, q + 1 + 0, q + 1 + 1, q + 1 + 2, q + 1 + 3] : List Nat).getD j 0))))))), (q + 1 + 0, .inl (γ.2.1 0, 10, .inl (fun _ => 0))), (q + 1 + 1, .inl (γ.2.1 0, 10, .inl (fun _ => 0))), (q + 1 + 2, .inl (γ.2.1 0, 10, .inl (fun _ => 0))), (q + 1 + 3, .inl (γ.2.1 0, 10, .inl (fun _ => 0)))] := hD
  refine va_putF (D := γ.1) (ci := 2) (v := .ref q) (ty := .array (.array .int)) (C := RX2) (T := TX2) (N := 5) hx hb hU uin2 tyX2 tyX2_ok nmX2 hown hK hP hD hS 0 rfl rfl 3 (by decide) (hU _ U268) (fun _ h9 => h9) rfl hin rfl (by decide +kernel) rfl rfl (Nat.le_of_ble_eq_true rfl) dX2_init_26 (fun H locs hP hD hS => ?_)
  have hP : va_P γ.1 vwCl (wD γ (fun j => ([h0, 0, q0, q1, q, 0, 0, 0, 0, 0, q + 1 + 0, q + 1 + 1, q + 1 + 2, q + 1 + 3] : List Nat).getD j 0) z0) H := hP
  have hD : va_D A (wD γ (fun j => ([h0, 0, q0, q1, q, 0, 0, 0, 0, 0, q + 1 + 0, q + 1 + 1, q + 1 + 2, q + 1 + 3] : List Nat).getD j 0) z0) := hD
  exact kn_vret C0 ⟨_, rfl, rfl⟩ hP hD hS dX2_init_29
