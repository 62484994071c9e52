/-! nine rows of 401 ints, made at once -/
theorem va_MZ.moved {u U : State} (hvm : u.vm.Alike U.vm) (h : va_MZ u) : va_MZ U := by
  obtain ⟨cA, kA, cC, h1, h2, h3, h4⟩ := h
  obtain ⟨k', hk', he⟩ := hvm.2.2 _ _ h2
  exact ⟨cA, k', cC, by rw [hvm.findClass]; exact h1, hk', by rw [he]; exact h3, by rw [hvm.findClass]; exact h4⟩
/-- a row of 401 zeros; the row of rows when i of them stand in it -/
def mz_i (cC : ClassId) : Cell := { cls := cC, slots := Array.replicate 401 (.int 0), vm := .none }
def mz_o (cA : ClassId) (b : Nat) : Nat → Cell
  | 0 => { cls := cA, slots := Array.replicate 9 .null, vm := .none }
  | i + 1 => (mz_o cA b i).setSlot i (.ref (b + 1 + i))
def mz_S (T : State) (cA cC : ClassId) : Nat → State
  | 0 => T.pushCell (mz_o cA T.heap.size 0)
  | i + 1 => ((mz_S T cA cC i).pushCell (mz_i cC)).setCell T.heap.size (mz_o cA T.heap.size (i + 1))
theorem mz_o_f {cA : ClassId} {b : Nat} : ∀ i, (mz_o cA b i).cls = cA ∧ (mz_o cA b i).vm = .none ∧ (mz_o cA b i).slots.size = 9
  | 0 => ⟨rfl, rfl, by simp [mz_o]⟩
  | i + 1 => by
    obtain ⟨h1, h2, h3⟩ := mz_o_f (cA := cA) (b := b) i
    refine ⟨?_, ?_, ?_⟩ <;> simp [mz_o, Cell.setSlot, h1, h2, h3]
theorem mz_o_v {cA : ClassId} {b : Nat} : ∀ i, mz_o cA b i = arrV cA 9 (fun j => va_rf (if j < i then some (b + 1 + j) else none))
  | 0 => by
    show ({ cls := cA, slots := Array.replicate 9 .null, vm := .none } : Cell) = _
    rw [arrV_new]
    exact congrArg (arrV cA 9) (funext fun j => by simp [va_rf])
  | i + 1 => by
    show (mz_o cA b i).setSlot i (.ref (b + 1 + i)) = _
    rw [mz_o_v i, arrV_store]
    refine congrArg (arrV cA 9) (funext fun j => ?_)
    by_cases e : j = i
    · subst e
      simp [updV, va_rf]
    · by_cases q : j < i
      · simp [updV, e, q, Nat.lt_succ_of_lt q]
      · simp [updV, e, q, show ¬ j < i + 1 by omega]
theorem mz_f (T : State) (cA cC : ClassId) : ∀ i, (mz_S T cA cC i).heap.size = T.heap.size + 1 + i ∧ (mz_S T cA cC i).heap[T.heap.size]? = some (mz_o cA T.heap.size i) ∧ (mz_S T cA cC i).vm = T.vm ∧ (mz_S T cA cC i).slotsUsed = T.slotsUsed + 9 + i * 401
  | 0 => ⟨by simp [mz_S], by simp [mz_S], rfl, by simp [mz_S, mz_o]⟩
  | i + 1 => by
    obtain ⟨h1, h2, h3, h4⟩ := mz_f T cA cC i
    have hlt : T.heap.size < (mz_S T cA cC i).heap.size := by omega
    have h5 : ((mz_S T cA cC i).pushCell (mz_i cC)).heap[T.heap.size]? = some (mz_o cA T.heap.size i) := (State.heap_pushCell_of_lt _ _ hlt).trans h2
    refine ⟨?_, State.heap_setCell_self h5, ?_, ?_⟩
    · simp [mz_S, State.setCell, h1]
      omega
    · simp [mz_S, h3]
    · simp [mz_S, h4, mz_i]
      omega
theorem mz_top (T : State) (f : JFrame) (cA cC : ClassId) : ∀ i, mz_S (T.setTop f) cA cC i = (mz_S T cA cC i).setTop f
  | 0 => rfl
  | i + 1 => by
    simp only [mz_S, mz_top T f cA cC i, State.heap_setTop, State.pushCell_setTop, State.setCell_setTop]
theorem mz_old (T : State) (cA cC : ClassId) {x : Nat} (hx : x < T.heap.size) : ∀ i, (mz_S T cA cC i).heap[x]? = T.heap[x]?
  | 0 => State.heap_pushCell_of_lt _ _ hx
  | i + 1 => by
    have h1 := (mz_f T cA cC i).1
    show (((mz_S T cA cC i).pushCell (mz_i cC)).setCell T.heap.size _).heap[x]? = _
    have hlt : x < (mz_S T cA cC i).heap.size := by omega
    rw [State.heap_setCell_other (Nat.ne_of_gt hx), State.heap_pushCell_of_lt (h := hlt)]
    exact mz_old T cA cC hx i
theorem mz_in (T : State) (cA cC : ClassId) : ∀ i j, j < i → (mz_S T cA cC i).heap[T.heap.size + 1 + j]? = some (mz_i cC)
  | 0, _, h => absurd h (Nat.not_lt_zero _)
  | i + 1, j, h => by
    have h1 := (mz_f T cA cC i).1
    show (((mz_S T cA cC i).pushCell (mz_i cC)).setCell T.heap.size _).heap[T.heap.size + 1 + j]? = _
    rw [State.heap_setCell_other (show T.heap.size ≠ T.heap.size + 1 + j by omega)]
    rcases Nat.lt_succ_iff_lt_or_eq.mp h with q | rfl
    · have hlt : T.heap.size + 1 + j < (mz_S T cA cC i).heap.size := by omega
      rw [State.heap_pushCell_of_lt (h := hlt)]
      exact mz_in T cA cC i j q
    · rw [← h1]
      exact State.heap_pushCell_size _ _
section
variable {E : CtlPost} {e : Env} {d : Bool} {acts : List Action} {s : State}
theorem mz_arr {cA : ClassId} {comp : ClassId} {k : Class} {ty : FieldType} {n : Nat} {v : Value} (hk : s.vm.classes[cA]? = some k) (hkd : k.kind = .array comp ty) (h1 : ¬ n > e.platform.arrayLengthLimit) (h2 : ¬ n * componentBytes ty > e.platform.maxHeapBytes) (hf : fits ty v = true) (hd : v.isDefault = true) {Q : Addr → Pre}
    (h3 : s.heap.size < e.platform.maxCells) (h4 : s.slotsUsed + n ≤ e.platform.maxSlots) (hq : Q s.heap.size d acts (s.pushCell { cls := cA, slots := Array.replicate n v, vm := .none })) : wp (Jvm.newArray cA n v) Q E e d acts s := by
  have hfit : ∀ i w, (Array.replicate n v)[i]? = some w → s.fitsSlot cA .none i w = true := fun i w hw => by
    simp only [Array.getElem?_replicate] at hw
    split at hw
    · cases hw
      simp [State.fitsSlot, State.slotType?, hk, hkd, hf]
    · cases hw
  have hact : allocActs (Array.replicate n v) s.heap.size acts = acts := by
    have hall : ((Array.replicate n v).all (·.isDefault)) = true := by
      rw [Array.all_replicate]
      split <;> simp [hd]
    unfold allocActs
    rw [if_pos hall]
  simp only [Jvm.newArray, Jvm.arrayFits, wp_bind', W.ask, W.ite, h1, if_false, wp_pure', W.theClass, hk, hkd, h2, W.alloc, W.stop, Option.some.injEq, exists_eq_left', Array.size_replicate, hact]
  rw [if_neg (by omega)]
  exact ⟨h3, h4, hfit, hq⟩
theorem mz_row1 {cC cc : ClassId} {kC : Class} (hk : s.vm.classes[cC]? = some kC) (hkd : kC.kind = .array cc .int) (h1 : ¬ 401 > e.platform.arrayLengthLimit) (h2 : ¬ 401 * 4 > e.platform.maxHeapBytes) (h3 : s.heap.size < e.platform.maxCells) (h4 : s.slotsUsed + 401 ≤ e.platform.maxSlots) {Q : Addr → Pre} (hq : Q s.heap.size d acts (s.pushCell (mz_i cC))) :
    wp (multianewarray.make cC [401]) Q E e d acts s := by
  rw [multianewarray.make]
  simp only [wp_bind', W.ite, show ¬ (401 : Int32) < 0 from by decide, if_false, wp_pure', W.theClass, hk, hkd, Option.some.injEq, exists_eq_left']
  exact mz_arr hk hkd h1 h2 rfl rfl h3 h4 hq
theorem mz_all {cA cC cc : ClassId} {kA kC : Class} (hkA : s.vm.classes[cA]? = some kA) (hdA : kA.kind = .array cC (.array .int)) (hkC : s.vm.classes[cC]? = some kC) (hdC : kC.kind = .array cc .int) (l1 : ¬ 9 > e.platform.arrayLengthLimit) (l2 : ¬ 9 * 4 > e.platform.maxHeapBytes) (l3 : ¬ 401 > e.platform.arrayLengthLimit) (l4 : ¬ 401 * 4 > e.platform.maxHeapBytes)
    (hc : s.heap.size + 10 ≤ e.platform.maxCells) (hs : s.slotsUsed + 3618 ≤ e.platform.maxSlots) {Q : Addr → Pre} (hq : ∀ d' acts', Q s.heap.size d' acts' (mz_S s cA cC 9)) : wp (multianewarray.make cA [9, 401]) Q E e d acts s := by
  rw [multianewarray.make]
  simp only [wp_bind', W.ite, show ¬ (9 : Int32) < 0 from by decide, if_false, wp_pure', W.theClass, hkA, hdA, Option.some.injEq, exists_eq_left']
  refine mz_arr hkA hdA l1 l2 rfl rfl (by omega) (by show s.slotsUsed + 9 ≤ _; omega) ?_
  simp only [show ((9 : Int32) == 0) = false from by decide, Bool.false_eq_true, if_false]
  rw [wp_bind', Std.Legacy.Range.forIn_eq_forIn_range']
  rw [show ([:(9 : Int32).toNatClampNeg] : Std.Legacy.Range).size = 9 from rfl]
  show wp (forIn (List.range' 0 9 1) PUnit.unit _) _ E e d acts _
  refine wp_forIn_inv (fun rest s' => ∃ i, i ≤ 9 ∧ rest = List.range' i (9 - i) ∧ s' = mz_S s cA cC i) _ _ ⟨0, by decide, rfl, rfl⟩ ?_ ?_
  · rintro x rest s' d' acts' Q' ⟨i, hi, hl, rfl⟩ hnext
    have hlt : i < 9 := by
      rcases Nat.lt_or_ge i 9 with q | q
      · exact q
      · rw [show 9 - i = 0 by omega] at hl
        simp at hl
    rw [show 9 - i = (9 - (i + 1)) + 1 by omega, List.range'_succ] at hl
    obtain ⟨rfl, hrest⟩ := List.cons.inj hl
    obtain ⟨f1, f2, f3, f4⟩ := mz_f s cA cC x
    obtain ⟨o1, o2, o3⟩ := mz_o_f (cA := cA) (b := s.heap.size) x
    simp only [wp_bind']
    refine mz_row1 (by rw [f3]; exact hkC) hdC l3 l4 (by omega) (by omega) ?_
    simp only [wp_bind', W.writeLoc, wp_pure']
    have hl0 : s.heap.size < (mz_S s cA cC x).heap.size := by omega
    refine ⟨mz_o cA s.heap.size x, by rw [State.heap_pushCell_of_lt (h := hl0)]; exact f2, by rw [o2]; simp, by rw [o3]; exact hlt, ?_, hnext _ _ _ ⟨x + 1, hlt, hrest, ?_⟩⟩
    · rw [o1, o2]
      simp [State.fitsSlot, State.slotType?, f3, hkA, hdA, fits]
    · rw [f1]
      rfl
  · rintro s' d' acts' ⟨i, hi, hl, rfl⟩
    have hi9 : i = 9 := by
      rcases Nat.lt_or_ge i 9 with q | q
      · rw [show 9 - i = (9 - (i + 1)) + 1 by omega, List.range'_succ] at hl
        cases hl
      · omega
    subst hi9
    simp only [wp_pure']
    exact hq _ _
end
section
variable {p : Program} {l : Launch} {e : Env} {R : Room} {s : State} {m : MethodId} {args : Array Value} {below : List Frame} {meth : Method} {c : Code} {T : State} {locs : List Loc} {cells slots : Nat}
theorem mz_st (X : Stand p l e R s m args below meth c T locs cells slots) (cA cC : ClassId) : ∀ i, Stand p l e R s m args below meth c (mz_S T cA cC i) (locs ++ (List.range i).map fun j => ⟨T.heap.size, j⟩) (cells + 1 + i) (slots + 9 + i * 401)
  | 0 => by
    have q := X.pushed (mz_o cA T.heap.size 0)
    rw [(mz_o_f (cA := cA) (b := T.heap.size) 0).2.2] at q
    simpa [mz_S] using q
  | i + 1 => by
    obtain ⟨f1, f2, f3, f4⟩ := mz_f T cA cC i
    have hc : ((mz_S T cA cC i).pushCell (mz_i cC)).heap[T.heap.size]? = some (mz_o cA T.heap.size i) := by
      have hl0 : T.heap.size < (mz_S T cA cC i).heap.size := by omega
      rw [State.heap_pushCell_of_lt (h := hl0)]
      exact f2
    have q := ((mz_st X cA cC i).pushed (mz_i cC)).stored hc i (.ref (T.heap.size + 1 + i))
    rw [show (mz_i cC).slots.size = 401 from by simp [mz_i]] at q
    rw [show (locs ++ (List.range (i + 1)).map fun j => (⟨T.heap.size, j⟩ : Loc)) = (locs ++ (List.range i).map fun j => (⟨T.heap.size, j⟩ : Loc)) ++ [⟨T.heap.size, i⟩] from by simp [List.range_succ, List.append_assoc], show slots + 9 + (i + 1) * 401 = slots + 9 + i * 401 + 401 by omega]
    exact q
theorem mz_step (X : Stand p l e R s m args below meth c T locs cells slots) (hexec : p.tables.exec = Jvm.exec) {own : String} {idx : Nat} (hown : s.vm.findClass own = some m.cls) (hcl : (Cond.classLink own idx "[[I").before args s = true) (hmz : va_MZ s) {cA cC cc : ClassId} {kC : Class} (hA : s.vm.findClass "[[I" = some cA) (hC : s.vm.findClass "[I" = some cC) (hkC : s.vm.classes[cC]? = some kC) (hdC : kC.kind = .array cc .int)
    {g : JFrame} (hg : g.method = m) (hdg : decode c.code g.pc = .ok (.multianewarray idx 2, 4)) {rest : List Value} (hst : g.stack = .int 401 :: .int 9 :: rest) (hcells : cells + 10 ≤ R.cells) (hslots : slots + 3618 ≤ R.slots) :
    ∃ vm₁ : Vm, s.WarmedH vm₁ ∧ Stand p l e R s m args below meth c (mz_S (T.setVm vm₁) cA cC 9) locs (cells + 10) (slots + 3618) ∧
      ∀ target, Steps p.tables e below ((mz_S (T.setVm vm₁) cA cC 9).setTop { g with pc := g.pc + 4, stack := .ref T.heap.size :: rest }) target → Steps p.tables e below (T.setTop g) target := by
  subst hg
  obtain ⟨cA', kA, cC', m1, m2, m3, m4⟩ := hmz
  cases Option.some.inj (m4.symm.trans hA)
  cases Option.some.inj (m1.symm.trans hC)
  have hpl : e.platform.magicAccessors = ({} : Platform).magicAccessors := by rw [X.admits.platform]
  obtain ⟨c0, hf0, hlk⟩ := Cond.classLink_spec hown hcl e.platform hpl
  cases Option.some.inj (hA.symm.trans hf0)
  obtain ⟨hg₁, hw₁, -⟩ := State.classEntry (e := e) X.warmed hlk
  generalize T.vm.noted g.method.cls idx (.cls cA) = vm₁ at hg₁ hw₁
  obtain ⟨kA₁, hkA₁, eA⟩ := hw₁.alike.2.2 _ _ m2
  obtain ⟨kC₁, hkC₁, eC⟩ := hw₁.alike.2.2 _ _ hkC
  have X₁ := X.noted hw₁
  obtain ⟨r1, r2⟩ := X.roomAbove hcells hslots
  have hlim : e.platform.arrayLengthLimit = 2147483647 ∨ 401 ≤ e.platform.arrayLengthLimit := by
    right
    rw [Launch.admits_arrayLengthLimit X.admits]
    omega
  have XF := mz_st X₁ cA cC 9
  refine ⟨vm₁, hw₁, ?_, fun target hrest => ?_⟩
  · have XG := XF.dropFresh (fun x hx => by
      obtain ⟨j, -, rfl⟩ := List.mem_map.mp hx
      exact X.heapGrown)
    exact XG
  · have l3 : ¬ 401 > e.platform.arrayLengthLimit := by
      rw [Launch.admits_arrayLengthLimit X.admits]
      omega
    have l4 : ¬ 401 * 4 > e.platform.maxHeapBytes := by
      rw [Launch.admits_maxHeapBytes X.admits]
      omega
    jvm_step X.here [hexec, hdg]
    simp only [multianewarray.sem, wp_bind', W.resolveClassAt_links (State.method?_setTop g X.here.top) hg₁]
    rw [W.popN, if_neg (by decide)]
    refine ⟨g, State.topJava?_setTop' (s := T.setVm vm₁) g X.here.top, [.int 9, .int 401], rest, rfl, hst, ?_⟩
    simp only [List.mapM_cons, List.mapM_nil, wp_bind', wp_pure']
    refine mz_all (kA := kA₁) (kC := kC₁) (cC := cC) (cc := cc) hkA₁ (by rw [eA]; exact m3) hkC₁ (by rw [eC]; exact hdC) (by omega) (by omega) l3 l4 (by show T.heap.size + 10 ≤ _; omega) (by show T.slotsUsed + 3618 ≤ _; omega) (fun d' acts' => ?_)
    have eS : ((T.setTop g).setVm vm₁).setTop { g with stack := rest } = (T.setVm vm₁).setTop { g with stack := rest } := by
      show ((T.setVm vm₁).setTop g).setTop _ = _
      rw [State.setTop_setTop]
    rw [eS, mz_top]
    simp only [wp_bind', W.mark, W.pushRef, State.topJava?_setTop' _ XF.here.top, Option.some.injEq, exists_eq_left', State.setTop_setTop, State.heap_setTop]
    intro acts
    simp [jvm, XF.here.top]
    exact hrest
end
