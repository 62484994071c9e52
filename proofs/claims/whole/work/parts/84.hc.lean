/-! a heap while the constructors run: the first i cells are there, the first j references are set -/
def q_PSl : List ((Nat × Nat) × Nat) := [((1, 0), 2), ((1, 2), 3), ((1, 3), 4), ((1, 4), 5), ((1, 5), 6), ((0, 0), 1), ((7, 0), 8), ((7, 1), 9), ((0, 1), 7), ((10, 0), 11), ((10, 1), 12), ((10, 7), 13), ((10, 8), 14), ((10, 9), 15), ((10, 10), 16), ((10, 11), 17), ((10, 12), 18), ((10, 13), 19), ((10, 14), 20), ((10, 15), 21), ((0, 2), 10), ((22, 0), 23), ((22, 1), 24), ((22, 7), 25), ((22, 8), 26), ((22, 9), 27), ((22, 10), 28), ((22, 11), 29), ((22, 12), 30), ((22, 13), 31), ((22, 14), 32), ((22, 15), 33), ((0, 3), 22), ((34, 0), 35), ((34, 1), 36), ((34, 2), 37), ((34, 3), 38), ((34, 4), 39), ((0, 4), 34), ((0, 5), 40), ((0, 6), 41), ((42, 0), 43), ((44, 0), 45), ((43, 0), 44), ((46, 0), 47), ((43, 1), 46), ((48, 0), 49), ((43, 2), 48), ((50, 0), 51), ((43, 3), 50), ((52, 0), 53), ((43, 4), 52), ((54, 0), 55), ((43, 5), 54), ((56, 0), 57), ((43, 6), 56), ((58, 0), 59), ((43, 7), 58), ((60, 0), 61), ((43, 8), 60), ((62, 0), 63), ((43, 9), 62), ((64, 0), 65), ((43, 10), 64), ((66, 0), 67), ((43, 11), 66), ((68, 0), 69), ((43, 12), 68), ((70, 0), 71), ((43, 13), 70), ((72, 0), 73), ((43, 14), 72), ((74, 0), 75), ((43, 15), 74), ((76, 0), 77), ((43, 16), 76), ((78, 0), 79), ((43, 17), 78), ((80, 0), 81), ((43, 18), 80), ((82, 0), 83), ((43, 19), 82), ((84, 0), 85), ((43, 20), 84), ((86, 0), 87), ((43, 21), 86), ((88, 0), 89), ((43, 22), 88), ((90, 0), 91), ((43, 23), 90), ((92, 0), 93), ((43, 24), 92), ((0, 7), 42), ((94, 0), 95), ((94, 1), 96), ((94, 2), 97), ((0, 8), 94), ((98, 0), 99), ((98, 1), 100), ((101, 0), 102), ((101, 1), 103), ((101, 2), 104), ((101, 3), 105), ((101, 4), 106), ((101, 5), 107), ((101, 6), 108), ((101, 7), 109), ((101, 8), 110), ((98, 2), 101), ((98, 3), 111), ((98, 4), 112), ((98, 5), 113), ((98, 6), 114), ((98, 7), 115), ((0, 9), 98), ((116, 0), 117), ((116, 1), 118), ((116, 2), 119), ((0, 10), 116), ((0, 11), 120), ((0, 12), 121), ((0, 13), 122), ((0, 14), 123), ((124, 1), 125), ((124, 3), 126), ((124, 5), 127), ((124, 6), 128), ((124, 7), 129), ((124, 8), 130), ((124, 9), 131), ((124, 21), 132), ((124, 22), 133), ((124, 23), 134), ((124, 24), 135), ((124, 25), 136), ((124, 26), 137), ((124, 27), 138), ((124, 28), 139), ((124, 29), 140), ((124, 30), 141), ((124, 31), 142), ((124, 32), 143), ((124, 34), 144), ((124, 35), 145), ((124, 36), 146), ((124, 37), 147), ((124, 38), 148), ((124, 40), 149), ((124, 41), 150), ((124, 42), 151), ((124, 44), 152), ((124, 45), 153), ((124, 47), 154), ((124, 48), 155), ((124, 49), 156), ((124, 50), 157), ((124, 52), 158), ((124, 53), 159), ((124, 54), 160), ((124, 55), 161), ((124, 56), 162), ((124, 57), 163), ((124, 58), 164), ((124, 59), 165), ((124, 63), 166), ((124, 64), 167), ((124, 65), 168), ((124, 66), 169)]
def hc_s (i : Nat) : Nat := ((q_sh0.take i).map (fun x => x.2)).sum
def hc_p (j r k : Nat) : Option Nat := (q_PSl.take j).lookup (r, k)
def q_hc (I : Nat → Nat → Int32) (J : Nat → Nat → Int64) (i j : Nat) : q_H := (I, J, hc_p j, fun r => if r < i then (q_sh0.getD r (0, 0)).1 else 0, fun r => if r < i then (q_sh0.getD r (0, 0)).2 else 0, i, hc_s i)
theorem hc_N {I : Nat → Nat → Int32} {J : Nat → Nat → Int64} {i j : Nat} : q_N (q_hc I J i j) = i := rfl
theorem hc_Sh {I : Nat → Nat → Int32} {J : Nat → Nat → Int64} {i j r t n : Nat} (h : r < i) (he : q_sh0[r]? = some (t, n)) : q_Sh (q_hc I J i j) r t n := by
  have e : q_sh0.getD r (0, 0) = (t, n) := by rw [List.getD_eq_getElem?_getD, he, Option.getD_some]
  refine ⟨h, ?_, ?_⟩
  · show (if r < i then (q_sh0.getD r (0, 0)).1 else 0) = t
    rw [if_pos h, e]
  · show (if r < i then (q_sh0.getD r (0, 0)).2 else 0) = n
    rw [if_pos h, e]
theorem hc_s1 {i t n : Nat} (he : q_sh0[i]? = some (t, n)) : hc_s (i + 1) = hc_s i + n := by
  unfold hc_s
  rw [List.take_add_one, he, Option.toList_some, List.map_append, List.sum_append]
  rfl
/-- no reference is set in cell i -/
def hc_no (i j : Nat) : Bool := (q_PSl.take j).all (fun e => !(e.1.1 == i))
theorem hc_no_p {i j : Nat} (h : hc_no i j = true) (k : Nat) : hc_p j i k = none := by
  unfold hc_p
  rw [List.lookup_eq_none_iff]
  intro e he
  have h1 := List.all_eq_true.mp h e he
  rw [Bool.not_eq_true', beq_eq_false_iff_ne] at h1
  rw [bne_iff_ne]
  intro q
  exact h1 (congrArg Prod.fst q).symm
theorem hc_new {I : Nat → Nat → Int32} {J : Nat → Nat → Int64} {i j t n : Nat} (he : q_sh0[i]? = some (t, n)) (hI : I i = fun _ => 0) (hJ : J i = fun _ => 0) (hp : hc_no i j = true) : q_new (q_hc I J i j) t n = q_hc I J (i + 1) j := by
  have e : q_sh0.getD i (0, 0) = (t, n) := by rw [List.getD_eq_getElem?_getD, he, Option.getD_some]
  have eI : (fun r' => if r' = i then (fun _ => 0) else I r') = I := by
    funext r'
    by_cases q : r' = i
    · rw [if_pos q, q, hI]
    · rw [if_neg q]
  have eJ : (fun r' => if r' = i then (fun _ => 0) else J r') = J := by
    funext r'
    by_cases q : r' = i
    · rw [if_pos q, q, hJ]
    · rw [if_neg q]
  have eP : (fun r' => if r' = i then (fun _ => none) else hc_p j r') = hc_p j := by
    funext r'
    by_cases q : r' = i
    · rw [if_pos q, q]
      funext k
      exact (hc_no_p hp k).symm
    · rw [if_neg q]
  have eT : (fun r' => if r' = i then t else if r' < i then (q_sh0.getD r' (0, 0)).1 else 0) = (fun r' => if r' < i + 1 then (q_sh0.getD r' (0, 0)).1 else 0) := by
    funext r'
    by_cases q : r' = i
    · rw [if_pos q, q, if_pos (Nat.lt_succ_self i), e]
    · rw [if_neg q]
      by_cases q2 : r' < i
      · rw [if_pos q2, if_pos (by omega)]
      · rw [if_neg q2, if_neg (by omega)]
  have eL : (fun r' => if r' = i then n else if r' < i then (q_sh0.getD r' (0, 0)).2 else 0) = (fun r' => if r' < i + 1 then (q_sh0.getD r' (0, 0)).2 else 0) := by
    funext r'
    by_cases q : r' = i
    · rw [if_pos q, q, if_pos (Nat.lt_succ_self i), e]
    · rw [if_neg q]
      by_cases q2 : r' < i
      · rw [if_pos q2, if_pos (by omega)]
      · rw [if_neg q2, if_neg (by omega)]
  show (_, _, _, _, _, i + 1, hc_s i + n) = _
  unfold q_hc
  rw [← hc_s1 he, ← eT, ← eL]
  refine congr (congrArg Prod.mk eI) (congr (congrArg Prod.mk eJ) (congr (congrArg Prod.mk eP) rfl))
theorem hc_P {I : Nat → Nat → Int32} {J : Nat → Nat → Int64} {i j r k a : Nat} (he : q_PSl[j]? = some ((r, k), a)) (hn : hc_p j r k = none) : q_wP (q_hc I J i j) r (va_up (q_P (q_hc I J i j) r) k (some a)) = q_hc I J i (j + 1) := by
  have eP : (fun r' => if r' = r then va_up (hc_p j r) k (some a) else hc_p j r') = hc_p (j + 1) := by
    funext r' k'
    unfold hc_p
    rw [List.take_add_one, he, Option.toList_some, List.lookup_append]
    by_cases q : r' = r
    · rw [if_pos q, q]
      by_cases q2 : k' = k
      · rw [q2, va_up_self]
        show some a = ((q_PSl.take j).lookup (r, k)).or _
        rw [show (q_PSl.take j).lookup (r, k) = none from hn]
        simp
      · rw [va_up_ne _ _ q2]
        show (q_PSl.take j).lookup (r, k') = _
        rw [show List.lookup (r, k') [((r, k), a)] = none from by rw [List.lookup_cons, show ((r, k') == (r, k)) = false from beq_eq_false_iff_ne.mpr (fun z => q2 (congrArg Prod.snd z))]; rfl]
        simp
    · rw [if_neg q]
      rw [show List.lookup (r', k') [((r, k), a)] = none from by rw [List.lookup_cons, show ((r', k') == (r, k)) = false from beq_eq_false_iff_ne.mpr (fun z => q (congrArg Prod.fst z))]; rfl]
      simp
  show (I, J, _, _) = _
  unfold q_hc
  exact congrArg (fun z => (I, J, z, _)) eP
theorem hc_get {I : Nat → Nat → Int32} {J : Nat → Nat → Int64} {i j r k a : Nat} (he : hc_p j r k = some a) : q_P (q_hc I J i j) r k = some a := he
/-- in the end all cells are what they are to be -/
def hc_chk : Bool := (q_pl.zipIdx).all (fun x => (x.1.zipIdx).all (fun y => match y.1 with
  | none => true
  | some a => q_PSl.lookup (x.2, y.2) == some a))
theorem hc_ok : hc_chk = true := by decide +kernel
theorem hc_Stat {I : Nat → Nat → Int32} {J : Nat → Nat → Int64} : q_Stat (q_hc I J 170 168) := by
  refine ⟨fun r t n e => hc_Sh ?_ e, fun r k a e => ?_⟩
  · have := (List.getElem?_eq_some_iff.mp e).1
    exact this
  · show hc_p 168 r k = some a
    unfold hc_p
    rw [List.take_of_length_le (by decide +kernel)]
    unfold q_p0 at e
    cases h1 : q_pl[r]? with
    | none =>
      rw [h1] at e
      cases e
    | some row =>
      rw [h1, Option.getD_some] at e
      cases h2 : row[k]? with
      | none =>
        rw [h2] at e
        cases e
      | some o =>
        rw [h2, Option.getD_some] at e
        subst e
        have c1 := List.all_eq_true.mp hc_ok (row, r) (List.mem_zipIdx_iff_getElem?.mpr h1)
        have c2 := List.all_eq_true.mp c1 (some a, k) (List.mem_zipIdx_iff_getElem?.mpr h2)
        exact eq_of_beq c2
