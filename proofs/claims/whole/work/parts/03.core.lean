/-! THE CORE: abstract heaps, how a heap holds one, the judgement q_Ex (a method's frame at pc runs to its end with an answer and an abstract heap), contracts q_Ct -/
/-- the words of the tables that keep -/
def q_tab : List Cond := lw_tbl.filter goodWord
abbrev q_MI : Type := MethodName × ByteArray × Nat × Option FieldType
abbrev q_GP : Type := Nat × va_G × (Nat → ClassId) × (Nat → Nat) × (State → Prop)
abbrev q_H : Type := (Nat → Nat → Int32) × (Nat → Nat → Int64) × (Nat → Nat → Option Nat) × (Nat → Nat) × (Nat → Nat) × Nat × Nat
def q_B (g : q_GP) : Nat := g.1
def q_D (g : q_GP) : va_G := g.2.1
def q_C (g : q_GP) : Nat → ClassId := g.2.2.1
def q_SA (g : q_GP) : Nat → Nat := g.2.2.2.1
def q_X (g : q_GP) : State → Prop := g.2.2.2.2
def q_A (g : q_GP) : Nat → Prop := fun q => q_B g ≤ q
/-- the address of a cell's number; numbers from 10^9 on are cells of the world outside -/
def q_ad (g : q_GP) (r : Nat) : Nat := if r < 1000000000 then q_B g + r else q_SA g (r - 1000000000)
def q_cv (g : q_GP) : Value → Value
  | .ref r => .ref (q_ad g r)
  | .int x => .int x
  | .long x => .long x
  | v => v
def q_I (h : q_H) : Nat → Nat → Int32 := h.1
def q_J (h : q_H) : Nat → Nat → Int64 := h.2.1
def q_P (h : q_H) : Nat → Nat → Option Nat := h.2.2.1
def q_T (h : q_H) : Nat → Nat := h.2.2.2.1
def q_L (h : q_H) : Nat → Nat := h.2.2.2.2.1
def q_N (h : q_H) : Nat := h.2.2.2.2.2.1
def q_K (h : q_H) : Nat := h.2.2.2.2.2.2
def q_wI (h : q_H) (r : Nat) (f : Nat → Int32) : q_H := (fun r' => if r' = r then f else h.1 r', h.2)
def q_wJ (h : q_H) (r : Nat) (f : Nat → Int64) : q_H := (h.1, fun r' => if r' = r then f else h.2.1 r', h.2.2)
def q_wP (h : q_H) (r : Nat) (f : Nat → Option Nat) : q_H := (h.1, h.2.1, fun r' => if r' = r then f else h.2.2.1 r', h.2.2.2)
/-- a new cell, of the next number: its kind, its length, all 0 -/
def q_new (h : q_H) (t n : Nat) : q_H := (fun r' => if r' = q_N h then (fun _ => 0) else h.1 r', fun r' => if r' = q_N h then (fun _ => 0) else h.2.1 r', fun r' => if r' = q_N h then (fun _ => none) else h.2.2.1 r', fun r' => if r' = q_N h then t else q_T h r', fun r' => if r' = q_N h then n else q_L h r', q_N h + 1, q_K h + n)
/-- cell r: its kind (below 100: an object's), how many it holds -/
def q_Sh (h : q_H) (r t n : Nat) : Prop := r < q_N h ∧ q_T h r = t ∧ q_L h r = n
def q_ty (ci : Nat) : Nat → FieldType := match ci with
  | 0 => tyX0 | 1 => tyX1 | 2 => tyX2 | 3 => tyX3 | 4 => tyX4 | 5 => tyX5 | 6 => tyX6 | 7 => tyX7 | 8 => tyX8 | 9 => tyX9 | _ => tyX10
def q_isR : FieldType → Bool
  | .array _ => true
  | .object _ => true
  | _ => false
def q_fld (g : q_GP) (h : q_H) (r k : Nat) : Value := if q_isR (q_ty (q_T h r) k) = true then va_rf ((q_P h r k).map (q_ad g)) else .int (q_I h r k)
def q_row (g : q_GP) (h : q_H) (r : Nat) : vp_A := (q_L h r, if q_T h r < 103 then .inl (q_I h r) else if q_T h r = 103 then .inr (.inl (q_J h r)) else .inr (.inr (.inr (.inr (fun i => (q_P h r i).map (q_ad g))))))
def q_ent (g : q_GP) (h : q_H) (r : Nat) : va_E := if q_T h r < 100 then .inr (q_T h r, (List.range (q_L h r)).map (q_fld g h r)) else .inl (q_C g (q_T h r), q_row g h r)
def q_ws (g : q_GP) (h : q_H) : va_W := (List.range (q_N h)).map (fun r => (q_B g + r, q_ent g h r))
def q_tys (g : q_GP) : List (ClassId × FieldType) := [(q_C g 100, .int), (q_C g 101, .byte), (q_C g 102, .boolean), (q_C g 103, .long), (q_C g 104, .object RX0), (q_C g 105, .object RX6), (q_C g 106, .array .int)]
def q_WH (g : q_GP) (h : q_H) (H : Heap) : Prop := H.size = q_B g + q_N h ∧ q_N h ≤ 1000000000 ∧ va_P (q_D g) vwCl (q_ws g h) H
def q_GOK (g : q_GP) : Prop := (∀ (U : State) (f : JFrame) (mk : MethodId) (a : Array Value), q_X g U → q_X g (U.calling f mk a)) ∧ ∀ s U : State, q_X g s → s.WarmedH U.vm → (∀ q : Nat, q < q_B g → U.heap[q]? = s.heap[q]?) → q_X g U
def q_MC (g : q_GP) (d : Nat) (y : q_MI) (p : Program) (R : Room) (s : State) (m : MethodId) (args : Array Value) (meth : Method) (c : Code) : Prop :=
  p.tables.exec = Jvm.exec ∧ c.code = y.2.1 ∧ meth.sig.returnType = y.2.2.2 ∧ c.maxLocals = y.2.2.1 ∧ s.vm.findClass y.1.cls = some m.cls ∧ (∀ w ∈ q_tab, w.before args s = true) ∧ meth.locks = false ∧ meth.name = y.1.name ∧ d ≤ R.frames ∧ 64 * d ≤ R.locals ∧ va_K (q_D g) vwCl (q_tys g) s ∧ q_X g s ∧ q_GOK g ∧ q_B g ≤ s.heap.size
def q_lv (g : q_GP) (n : Nat) (L : List (Nat × Value)) (ls : Array Slot) : Prop := ls.size = n ∧ lv_wf ls ∧ ∀ (i : Nat) (v : Value), L.lookup i = some v → ls[i]? = some (.val (q_cv g v))
def q_QR (g : q_GP) (r : Option Value) (h' : q_H) : Array Value → State → Outcome → State → Prop := fun _ st o t => o = .returned (r.map (q_cv g)) ∧ q_WH g h' t.heap ∧ va_F (q_A g) st t
def q_Go (l : Launch) (g : q_GP) (d : Nat) (y : q_MI) (r : Option Value) (h' : q_H) (pc : Nat) (L : List (Nat × Value)) (S : List Value) (h : q_H) : Prop :=
  ∀ (p : Program) (e : Env) (R : Room) (s : State) (m : MethodId) (args : Array Value) (below : List Frame) (meth : Method) (c : Code) (H : Heap) (locs : List Loc) (ls : Array Slot) (cells slots : Nat),
    q_MC g d y p R s m args meth c → q_lv g y.2.2.1 L ls → q_WH g h H → va_S (q_A g) s.heap H locs → cells + (q_N h' - q_N h) ≤ R.cells → slots + (q_K h' - q_K h) ≤ R.slots →
    W p l e R s m args below meth c H locs cells slots (MQ below (q_QR g r h') args s (cells + (q_N h' - q_N h)) (slots + (q_K h' - q_K h)) (q_A g)) (F0 m pc ls (S.map (q_cv g)))
/-- method y's frame at pc, with locals L (the first of a number counts), stack S and the abstract heap h, runs to its end; answer and heap then have Q; d frames are enough -/
def q_Ex (l : Launch) (g : q_GP) (d : Nat) (y : q_MI) (pc : Nat) (L : List (Nat × Value)) (S : List Value) (h : q_H) (Q : Option Value → q_H → Prop) : Prop :=
  ∃ (r : Option Value) (h' : q_H), Q r h' ∧ q_N h ≤ q_N h' ∧ q_K h ≤ q_K h' ∧ q_Go l g d y r h' pc L S h
def q_wy (y : q_MI) : List Cond := Cond.code y.1 y.2.1 y.2.2.1 y.2.2.2 :: q_tab
def q_Rm (d mc ms : Nat) : Room := { frames := d, cells := mc, slots := ms, locals := 64 * d }
def q_Ct (l : Launch) (g : q_GP) (d : Nat) (y : q_MI) (as : List Value) (h : q_H) (Q : Option Value → q_H → Prop) : Prop :=
  ∃ (r : Option Value) (h' : q_H), Q r h' ∧ q_N h ≤ q_N h' ∧ q_K h ≤ q_K h' ∧ Met l y.1 (q_wy y) (q_Rm d (q_N h' - q_N h) (q_K h' - q_K h)) (va_Pc (as.map (q_cv g)) (fun U => q_WH g h U.heap ∧ va_K (q_D g) vwCl (q_tys g) U ∧ q_X g U ∧ q_GOK g)) (q_QR g r h') (q_N h' - q_N h) (q_K h' - q_K h) (q_A g)

theorem q_cv_cat (g : q_GP) (v : Value) : (q_cv g v).category = v.category := by cases v <;> rfl
theorem q_law_in {w : Cond} (h : w ∈ q_tab) : (w.onTables && w.keeps) = true ∨ ∃ ty, w = .arrayClass ty := good_of_word (List.mem_filter.mp h).2
theorem q_ws_at {g : q_GP} {h : q_H} {r : Nat} (hr : r < q_N h) : (q_ws g h)[r]? = some (q_B g + r, q_ent g h r) := by
  simp [q_ws, hr]
theorem q_ws_len (g : q_GP) (h : q_H) : (q_ws g h).length = q_N h := by simp [q_ws]
theorem q_ws_inv {g : q_GP} {h : q_H} {k : Nat} {q : Nat × va_E} (hk : (q_ws g h)[k]? = some q) : k < q_N h ∧ q = (q_B g + k, q_ent g h k) := by
  have hl : k < q_N h := by
    have := (List.getElem?_eq_some_iff.mp hk).1
    rwa [q_ws_len] at this
  rw [q_ws_at hl] at hk
  exact ⟨hl, (Option.some.inj hk).symm⟩
theorem q_ws_D (g : q_GP) (h : q_H) : va_D (q_A g) (q_ws g h) := by
  refine ⟨fun i j p q hi hj hpq => ?_, fun k q hk => ?_⟩
  · obtain ⟨-, rfl⟩ := q_ws_inv hi
    obtain ⟨-, rfl⟩ := q_ws_inv hj
    have : q_B g + i = q_B g + j := hpq
    omega
  · obtain ⟨-, rfl⟩ := q_ws_inv hk
    show q_B g ≤ q_B g + k
    omega
/-- another world that differs at one number alone -/
theorem q_ws_set {g : q_GP} {h h2 : q_H} {r : Nat} {e : va_E} (hN : q_N h2 = q_N h) (hr : r < q_N h) (he : q_ent g h2 r = e) (ho : ∀ k, k ≠ r → q_ent g h2 k = q_ent g h k) : (q_ws g h).set r (q_B g + r, e) = q_ws g h2 := by
  apply List.ext_getElem?
  intro k
  by_cases hkr : k = r
  · subst hkr
    rw [List.getElem?_set_self (by rw [q_ws_len]; exact hr), q_ws_at (by rw [hN]; exact hr), he]
  · rw [List.getElem?_set_ne (Ne.symm hkr)]
    by_cases hk : k < q_N h
    · rw [q_ws_at hk, q_ws_at (by rw [hN]; exact hk), ho k hkr]
    · rw [List.getElem?_eq_none (by rw [q_ws_len]; omega), List.getElem?_eq_none (by rw [q_ws_len, hN]; omega)]
theorem q_ad_lt {g : q_GP} {h : q_H} {H : Heap} {r : Nat} (hW : q_WH g h H) (hr : r < q_N h) : q_ad g r = q_B g + r := by
  unfold q_ad
  rw [if_pos (Nat.lt_of_lt_of_le hr hW.2.1)]
theorem q_lv_at {g : q_GP} {n : Nat} {L : List (Nat × Value)} {ls : Array Slot} (h : q_lv g n L ls) {i : Nat} {v : Value} (hi : L.lookup i = some v) : ls[i]? = some (.val (q_cv g v)) := h.2.2 i v hi
def q_dd (g : q_GP) (n : Nat) (L : List (Nat × Value)) : List (Nat × Value) := (List.range n).filterMap (fun i => (L.lookup i).map (fun v => (i, q_cv g v)))
theorem q_dd_mem {g : q_GP} {n : Nat} {L : List (Nat × Value)} {q : Nat × Value} : q ∈ q_dd g n L ↔ q.1 < n ∧ ∃ v, L.lookup q.1 = some v ∧ q.2 = q_cv g v := by
  unfold q_dd
  rw [List.mem_filterMap]
  constructor
  · rintro ⟨i, hi, he⟩
    rw [Option.map_eq_some_iff] at he
    obtain ⟨v, hv, rfl⟩ := he
    exact ⟨List.mem_range.mp hi, v, hv, rfl⟩
  · rintro ⟨h1, v, h2, h3⟩
    refine ⟨q.1, List.mem_range.mpr h1, ?_⟩
    rw [h2, Option.map_some, ← h3]
theorem q_lv_has {g : q_GP} {n : Nat} {L : List (Nat × Value)} {ls : Array Slot} (h : q_lv g n L ls) : lv_has ls n (q_dd g n L) := by
  refine ⟨h.1, h.2.1, fun q hq => ?_⟩
  obtain ⟨-, v, h1, h2⟩ := q_dd_mem.mp hq
  rw [h2]
  exact h.2.2 _ _ h1
theorem q_lv_lt {g : q_GP} {n : Nat} {L : List (Nat × Value)} {ls : Array Slot} (h : q_lv g n L ls) {i : Nat} {v : Value} (hi : L.lookup i = some v) : i < n := by
  have h1 := (Array.getElem?_eq_some_iff.mp (h.2.2 i v hi)).1
  rw [h.1] at h1
  exact h1
/-- nothing long ends at i -/
def q_ok1 (L : List (Nat × Value)) (i : Nat) : Bool := match i with
  | 0 => true
  | k + 1 => match L.lookup k with
    | none => true
    | some v => v.category == 1
theorem q_lookup_ne {L : List (Nat × Value)} {i j : Nat} {v : Value} (h : j ≠ i) : List.lookup j ((i, v) :: L) = L.lookup j := by
  have hb : (j == i) = false := by simpa using h
  rw [List.lookup_cons, hb]
theorem q_lookup_eq {L : List (Nat × Value)} {i : Nat} {v : Value} : List.lookup i ((i, v) :: L) = some v := by
  rw [List.lookup_cons, beq_self_eq_true]
theorem q_lv_st1 {g : q_GP} {n i : Nat} {L : List (Nat × Value)} {v w : Value} {ls ls' : Array Slot} (hL : q_lv g n L ls) (hw : w = q_cv g v) (ho : q_ok1 L i = true)
    (h' : lv_has ls' n ((i, w) :: (q_dd g n L).filter (fun q => !(q.1 == i) && !(q.1 + 1 == i && q.2.category == 2)))) : q_lv g n ((i, v) :: L) ls' := by
  subst hw
  refine ⟨h'.1, h'.2.1, fun j u hj => ?_⟩
  by_cases hji : j = i
  · subst hji
    rw [q_lookup_eq] at hj
    cases hj
    exact h'.2.2 _ List.mem_cons_self
  · rw [q_lookup_ne hji] at hj
    refine h'.2.2 (j, q_cv g u) (List.mem_cons_of_mem _ (List.mem_filter.mpr ⟨q_dd_mem.mpr ⟨q_lv_lt hL hj, u, hj, rfl⟩, ?_⟩))
    have h1 : (j == i) = false := by simpa using hji
    have h2 : (j + 1 == i && (q_cv g u).category == 2) = false := by
      by_cases h3 : j + 1 = i
      · subst h3
        simp only [q_ok1, hj] at ho
        have h4 : u.category = 1 := by simpa using ho
        rw [q_cv_cat, h4]
        simp
      · have h5 : (j + 1 == i) = false := by simpa using h3
        rw [h5]
        rfl
    show (!(j == i) && !(j + 1 == i && (q_cv g u).category == 2)) = true
    rw [h1, h2]
    rfl
theorem q_lv_st2 {g : q_GP} {n i : Nat} {L : List (Nat × Value)} {v w : Value} {ls ls' : Array Slot} (hL : q_lv g n L ls) (hw : w = q_cv g v) (ho : q_ok1 L i = true) (h2 : L.lookup (i + 1) = none)
    (h' : lv_has ls' n ((i, w) :: (q_dd g n L).filter (fun q => !(q.1 == i) && (!(q.1 == i + 1) && !(q.1 + 1 == i && q.2.category == 2))))) : q_lv g n ((i, v) :: L) ls' := by
  subst hw
  refine ⟨h'.1, h'.2.1, fun j u hj => ?_⟩
  by_cases hji : j = i
  · subst hji
    rw [q_lookup_eq] at hj
    cases hj
    exact h'.2.2 _ List.mem_cons_self
  · rw [q_lookup_ne hji] at hj
    have hj2 : j ≠ i + 1 := fun q => by
      rw [q, h2] at hj
      cases hj
    refine h'.2.2 (j, q_cv g u) (List.mem_cons_of_mem _ (List.mem_filter.mpr ⟨q_dd_mem.mpr ⟨q_lv_lt hL hj, u, hj, rfl⟩, ?_⟩))
    have h1 : (j == i) = false := by simpa using hji
    have h11 : (j == i + 1) = false := by simpa using hj2
    have h2 : (j + 1 == i && (q_cv g u).category == 2) = false := by
      by_cases h3 : j + 1 = i
      · subst h3
        simp only [q_ok1, hj] at ho
        have h4 : u.category = 1 := by simpa using ho
        rw [q_cv_cat, h4]
        simp
      · have h5 : (j + 1 == i) = false := by simpa using h3
        rw [h5]
        rfl
    show (!(j == i) && (!(j == i + 1) && !(j + 1 == i && (q_cv g u).category == 2))) = true
    rw [h1, h11, h2]
    rfl
theorem q_args_map (g : q_GP) : ∀ (vs : List Value) (i j : Nat) (v : Value), (lv_args i vs).lookup j = some v → (j, q_cv g v) ∈ lv_args i (vs.map (q_cv g))
  | [], i, j, v, h => by simp [lv_args] at h
  | u :: vs, i, j, v, h => by
    show (j, q_cv g v) ∈ (i, q_cv g u) :: lv_args (if (q_cv g u).category = 2 then i + 2 else i + 1) (vs.map (q_cv g))
    rw [q_cv_cat]
    have h : List.lookup j ((i, u) :: lv_args (if u.category = 2 then i + 2 else i + 1) vs) = some v := h
    by_cases hj : j = i
    · subst hj
      rw [q_lookup_eq] at h
      cases h
      exact List.mem_cons_self
    · rw [q_lookup_ne hj] at h
      exact List.mem_cons_of_mem _ (q_args_map g vs _ j v h)
theorem q_sl_map (g : q_GP) : ∀ vs : List Value, (lg_sl (vs.map (q_cv g))).length = (lg_sl vs).length
  | [] => rfl
  | v :: vs => by
    have ih := q_sl_map g vs
    unfold lg_sl at ih ⊢
    rw [List.map_cons, List.flatMap_cons, List.flatMap_cons, List.length_append, List.length_append, ih, q_cv_cat]
    by_cases h : v.category = 2
    · rw [if_pos h, if_pos h]; rfl
    · rw [if_neg h, if_neg h]; rfl
