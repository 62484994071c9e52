/-! STEPS: an instruction, a row -/
section QS
variable {l : Launch} {g : q_GP} {d : Nat} {y : q_MI} {pc : Nat} {L : List (Nat × Value)} {S : List Value} {h : q_H} {Q : Option Value → q_H → Prop}
/-- a step that leaves the heap -/
theorem q_go1 {pc' : Nat} {L' : List (Nat × Value)} {S' : List Value}
    (hs : ∀ {p : Program} {e : Env} {R : Room} {s : State} {m : MethodId} {args : Array Value} {below : List Frame} {meth : Method} {c : Code} {H : Heap} {locs : List Loc} {ls : Array Slot} {cells slots : Nat} {Q' : State → Prop},
      q_MC g d y p R s m args meth c → q_lv g y.2.2.1 L ls → (∀ ls' : Array Slot, q_lv g y.2.2.1 L' ls' → W p l e R s m args below meth c H locs cells slots Q' (F0 m pc' ls' (S'.map (q_cv g)))) → W p l e R s m args below meth c H locs cells slots Q' (F0 m pc ls (S.map (q_cv g))))
    (K : q_Ex l g d y pc' L' S' h Q) : q_Ex l g d y pc L S h Q := by
  obtain ⟨r, h', q, n1, k1, G⟩ := K
  exact ⟨r, h', q, n1, k1, fun p e R s m args below meth c H locs ls cells slots M hL hW hS hc hk => hs M hL (fun ls' hL' => G p e R s m args below meth c H locs ls' cells slots M hL' hW hS hc hk)⟩
def q_sub (L : List (Nat × Value)) : List (Nat × Value) → Prop
  | [] => True
  | q :: r => L.lookup q.1 = some q.2 ∧ q_sub L r
theorem q_sub_all {L : List (Nat × Value)} : ∀ {L' : List (Nat × Value)}, q_sub L L' → ∀ q ∈ L', L.lookup q.1 = some q.2
  | [], _, q, hq => absurd hq List.not_mem_nil
  | a :: r, h, q, hq => by
    rcases List.mem_cons.mp hq with rfl | hq
    · exact h.1
    · exact q_sub_all h.2 q hq
theorem xe_locals {L' : List (Nat × Value)} (hL0 : q_sub L L') (K : q_Ex l g d y pc L' S h Q) : q_Ex l g d y pc L S h Q :=
  have hL := q_sub_all hL0
  q_go1 (fun M hl k => k _ ⟨hl.1, hl.2.1, fun i v hi => hl.2.2 i v (hL (i, v) (by
    have : ∀ (l : List (Nat × Value)), l.lookup i = some v → (i, v) ∈ l := by
      intro l
      induction l with
      | nil => intro h; simp at h
      | cons a t ih =>
        intro h
        obtain ⟨j, u⟩ := a
        by_cases hj : i = j
        · subst hj
          rw [q_lookup_eq] at h
          cases h
          exact List.mem_cons_self
        · rw [q_lookup_ne hj] at h
          exact List.mem_cons_of_mem _ (ih h)
    exact this L' hi))⟩) K
theorem xe_post {Q' : Option Value → q_H → Prop} (hq : ∀ r h', Q' r h' → Q r h') (K : q_Ex l g d y pc L S h Q') : q_Ex l g d y pc L S h Q := by
  obtain ⟨r, h', q, n1, k1, G⟩ := K
  exact ⟨r, h', hq r h' q, n1, k1, G⟩

theorem xe_iconst {n : Int} {v : Int32} (hd : decode y.2.1 pc = .ok (.iconst n, 1)) (hv : Int32.ofInt n = v) (K : q_Ex l g d y (pc + 1) L (.int v :: S) h Q) : q_Ex l g d y pc L S h Q :=
  q_go1 (fun M hl k => by
    obtain ⟨hx, hb, hr, hml, hown, hts, hlocks, hnm, hfr, hlo, hK, hX, hG, hB⟩ := M
    exact lv_iconst hx hb hd hv (k _ hl)) K
theorem xe_bipush {n : Int} {v : Int32} (hd : decode y.2.1 pc = .ok (.bipush n, 2)) (hv : (Int8.ofInt n).toInt32 = v) (K : q_Ex l g d y (pc + 2) L (.int v :: S) h Q) : q_Ex l g d y pc L S h Q :=
  q_go1 (fun M hl k => by
    obtain ⟨hx, hb, hr, hml, hown, hts, hlocks, hnm, hfr, hlo, hK, hX, hG, hB⟩ := M
    exact lv_bipush hx hb hd hv (k _ hl)) K
theorem xe_sipush {n : Int} {v : Int32} (hd : decode y.2.1 pc = .ok (.sipush n, 3)) (hv : (Int16.ofInt n).toInt32 = v) (K : q_Ex l g d y (pc + 3) L (.int v :: S) h Q) : q_Ex l g d y pc L S h Q :=
  q_go1 (fun M hl k => by
    obtain ⟨hx, hb, hr, hml, hown, hts, hlocks, hnm, hfr, hlo, hK, hX, hG, hB⟩ := M
    exact lv_sipush hx hb hd hv (k _ hl)) K
theorem xe_lconst {n : Fin 2} {v : Int64} (hd : decode y.2.1 pc = .ok (.lconst n, 1)) (hv : Int64.ofNat (n : Nat) = v) (K : q_Ex l g d y (pc + 1) L (.long v :: S) h Q) : q_Ex l g d y pc L S h Q :=
  q_go1 (fun M hl k => by
    obtain ⟨hx, hb, hr, hml, hown, hts, hlocks, hnm, hfr, hlo, hK, hX, hG, hB⟩ := M
    exact lv_lconst hx hb hd hv (k _ hl)) K
theorem xe_iload_n {n : Fin 4} {x : Int32} (hd : decode y.2.1 pc = .ok (.iload_n n, 1)) (hi : L.lookup (n : Nat) = some (.int x)) (K : q_Ex l g d y (pc + 1) L (.int x :: S) h Q) : q_Ex l g d y pc L S h Q :=
  q_go1 (fun M hl k => by
    obtain ⟨hx, hb, hr, hml, hown, hts, hlocks, hnm, hfr, hlo, hK, hX, hG, hB⟩ := M
    exact lv_iload_n hx hb hd rfl (q_lv_at hl hi) (k _ hl)) K
theorem xe_iload {n : Nat} {x : Int32} (hd : decode y.2.1 pc = .ok (.iload n, 2)) (hi : L.lookup n = some (.int x)) (K : q_Ex l g d y (pc + 2) L (.int x :: S) h Q) : q_Ex l g d y pc L S h Q :=
  q_go1 (fun M hl k => by
    obtain ⟨hx, hb, hr, hml, hown, hts, hlocks, hnm, hfr, hlo, hK, hX, hG, hB⟩ := M
    exact lv_iload hx hb hd (q_lv_at hl hi) (k _ hl)) K
theorem xe_lload_n {n : Fin 4} {x : Int64} (hd : decode y.2.1 pc = .ok (.lload_n n, 1)) (hi : L.lookup (n : Nat) = some (.long x)) (K : q_Ex l g d y (pc + 1) L (.long x :: S) h Q) : q_Ex l g d y pc L S h Q :=
  q_go1 (fun M hl k => by
    obtain ⟨hx, hb, hr, hml, hown, hts, hlocks, hnm, hfr, hlo, hK, hX, hG, hB⟩ := M
    exact lv_lload_n hx hb hd rfl (q_lv_at hl hi) (k _ hl)) K
theorem xe_lload {n : Nat} {x : Int64} (hd : decode y.2.1 pc = .ok (.lload n, 2)) (hi : L.lookup n = some (.long x)) (K : q_Ex l g d y (pc + 2) L (.long x :: S) h Q) : q_Ex l g d y pc L S h Q :=
  q_go1 (fun M hl k => by
    obtain ⟨hx, hb, hr, hml, hown, hts, hlocks, hnm, hfr, hlo, hK, hX, hG, hB⟩ := M
    exact lv_lload hx hb hd (q_lv_at hl hi) (k _ hl)) K
theorem xe_aload_n {n : Fin 4} {x : Nat} (hd : decode y.2.1 pc = .ok (.aload_n n, 1)) (hi : L.lookup (n : Nat) = some (.ref x)) (K : q_Ex l g d y (pc + 1) L (.ref x :: S) h Q) : q_Ex l g d y pc L S h Q :=
  q_go1 (fun M hl k => by
    obtain ⟨hx, hb, hr, hml, hown, hts, hlocks, hnm, hfr, hlo, hK, hX, hG, hB⟩ := M
    exact lv_aload_n hx hb hd rfl (q_lv_at hl hi) (k _ hl)) K
theorem xe_aload {n : Nat} {x : Nat} (hd : decode y.2.1 pc = .ok (.aload n, 2)) (hi : L.lookup n = some (.ref x)) (K : q_Ex l g d y (pc + 2) L (.ref x :: S) h Q) : q_Ex l g d y pc L S h Q :=
  q_go1 (fun M hl k => by
    obtain ⟨hx, hb, hr, hml, hown, hts, hlocks, hnm, hfr, hlo, hK, hX, hG, hB⟩ := M
    exact lv_aload hx hb hd (q_lv_at hl hi) (k _ hl)) K
theorem xe_ldc {n : Nat} {v : Int32} (hd : decode y.2.1 pc = .ok (.ldc n, 2)) (hv : Cond.constant y.1.cls n v ∈ q_tab) (K : q_Ex l g d y (pc + 2) L (.int v :: S) h Q) : q_Ex l g d y pc L S h Q :=
  q_go1 (fun M hl k => by
    obtain ⟨hx, hb, hr, hml, hown, hts, hlocks, hnm, hfr, hlo, hK, hX, hG, hB⟩ := M
    exact lv_ldc hx hb hown (hts _ hv) hd (k _ hl)) K
theorem xe_ldc_w {n : Nat} {v : Int32} (hd : decode y.2.1 pc = .ok (.ldc_w n, 3)) (hv : Cond.constant y.1.cls n v ∈ q_tab) (K : q_Ex l g d y (pc + 3) L (.int v :: S) h Q) : q_Ex l g d y pc L S h Q :=
  q_go1 (fun M hl k => by
    obtain ⟨hx, hb, hr, hml, hown, hts, hlocks, hnm, hfr, hlo, hK, hX, hG, hB⟩ := M
    exact lv_ldcw hx hb hown (hts _ hv) hd (k _ hl)) K
theorem xe_ldc2 {n : Nat} {v : Int64} (hd : decode y.2.1 pc = .ok (.ldc2_w n, 3)) (hv : Cond.constantLong y.1.cls n v ∈ q_tab) (K : q_Ex l g d y (pc + 3) L (.long v :: S) h Q) : q_Ex l g d y pc L S h Q :=
  q_go1 (fun M hl k => by
    obtain ⟨hx, hb, hr, hml, hown, hts, hlocks, hnm, hfr, hlo, hK, hX, hG, hB⟩ := M
    exact lv_ldc2 hx hb hown (hts _ hv) hd (k _ hl)) K
theorem xe_iadd {x z : Int32} (hd : decode y.2.1 pc = .ok (.iadd, 1)) (K : q_Ex l g d y (pc + 1) L (.int (x + z) :: S) h Q) : q_Ex l g d y pc L (.int z :: .int x :: S) h Q :=
  q_go1 (fun M hl k => by
    obtain ⟨hx, hb, hr, hml, hown, hts, hlocks, hnm, hfr, hlo, hK, hX, hG, hB⟩ := M
    exact lv_iadd hx hb hd  (k _ hl)) K
theorem xe_isub {x z : Int32} (hd : decode y.2.1 pc = .ok (.isub, 1)) (K : q_Ex l g d y (pc + 1) L (.int (x - z) :: S) h Q) : q_Ex l g d y pc L (.int z :: .int x :: S) h Q :=
  q_go1 (fun M hl k => by
    obtain ⟨hx, hb, hr, hml, hown, hts, hlocks, hnm, hfr, hlo, hK, hX, hG, hB⟩ := M
    exact lv_isub hx hb hd  (k _ hl)) K
theorem xe_imul {x z : Int32} (hd : decode y.2.1 pc = .ok (.imul, 1)) (K : q_Ex l g d y (pc + 1) L (.int (x * z) :: S) h Q) : q_Ex l g d y pc L (.int z :: .int x :: S) h Q :=
  q_go1 (fun M hl k => by
    obtain ⟨hx, hb, hr, hml, hown, hts, hlocks, hnm, hfr, hlo, hK, hX, hG, hB⟩ := M
    exact lv_imul hx hb hd  (k _ hl)) K
theorem xe_iand {x z : Int32} (hd : decode y.2.1 pc = .ok (.iand, 1)) (K : q_Ex l g d y (pc + 1) L (.int (x &&& z) :: S) h Q) : q_Ex l g d y pc L (.int z :: .int x :: S) h Q :=
  q_go1 (fun M hl k => by
    obtain ⟨hx, hb, hr, hml, hown, hts, hlocks, hnm, hfr, hlo, hK, hX, hG, hB⟩ := M
    exact lv_iand hx hb hd  (k _ hl)) K
theorem xe_ior {x z : Int32} (hd : decode y.2.1 pc = .ok (.ior, 1)) (K : q_Ex l g d y (pc + 1) L (.int (x ||| z) :: S) h Q) : q_Ex l g d y pc L (.int z :: .int x :: S) h Q :=
  q_go1 (fun M hl k => by
    obtain ⟨hx, hb, hr, hml, hown, hts, hlocks, hnm, hfr, hlo, hK, hX, hG, hB⟩ := M
    exact lv_ior hx hb hd  (k _ hl)) K
theorem xe_ixor {x z : Int32} (hd : decode y.2.1 pc = .ok (.ixor, 1)) (K : q_Ex l g d y (pc + 1) L (.int (x ^^^ z) :: S) h Q) : q_Ex l g d y pc L (.int z :: .int x :: S) h Q :=
  q_go1 (fun M hl k => by
    obtain ⟨hx, hb, hr, hml, hown, hts, hlocks, hnm, hfr, hlo, hK, hX, hG, hB⟩ := M
    exact lv_ixor hx hb hd  (k _ hl)) K
theorem xe_ishl {x z : Int32} (hd : decode y.2.1 pc = .ok (.ishl, 1)) (K : q_Ex l g d y (pc + 1) L (.int (x <<< (z &&& 31)) :: S) h Q) : q_Ex l g d y pc L (.int z :: .int x :: S) h Q :=
  q_go1 (fun M hl k => by
    obtain ⟨hx, hb, hr, hml, hown, hts, hlocks, hnm, hfr, hlo, hK, hX, hG, hB⟩ := M
    exact lv_ishl hx hb hd  (k _ hl)) K
theorem xe_ishr {x z : Int32} (hd : decode y.2.1 pc = .ok (.ishr, 1)) (K : q_Ex l g d y (pc + 1) L (.int (x >>> (z &&& 31)) :: S) h Q) : q_Ex l g d y pc L (.int z :: .int x :: S) h Q :=
  q_go1 (fun M hl k => by
    obtain ⟨hx, hb, hr, hml, hown, hts, hlocks, hnm, hfr, hlo, hK, hX, hG, hB⟩ := M
    exact lv_ishr hx hb hd  (k _ hl)) K
theorem xe_idiv {x z : Int32} (hd : decode y.2.1 pc = .ok (.idiv, 1)) (hz : ¬ z = 0) (K : q_Ex l g d y (pc + 1) L (.int (x / z) :: S) h Q) : q_Ex l g d y pc L (.int z :: .int x :: S) h Q :=
  q_go1 (fun M hl k => by
    obtain ⟨hx, hb, hr, hml, hown, hts, hlocks, hnm, hfr, hlo, hK, hX, hG, hB⟩ := M
    exact lv_idiv hx hb hd hz (k _ hl)) K
theorem xe_irem {x z : Int32} (hd : decode y.2.1 pc = .ok (.irem, 1)) (hz : ¬ z = 0) (K : q_Ex l g d y (pc + 1) L (.int (x - x / z * z) :: S) h Q) : q_Ex l g d y pc L (.int z :: .int x :: S) h Q :=
  q_go1 (fun M hl k => by
    obtain ⟨hx, hb, hr, hml, hown, hts, hlocks, hnm, hfr, hlo, hK, hX, hG, hB⟩ := M
    exact lv_irem hx hb hd hz (k _ hl)) K
theorem xe_ladd {x z : Int64} (hd : decode y.2.1 pc = .ok (.ladd, 1)) (K : q_Ex l g d y (pc + 1) L (.long (x + z) :: S) h Q) : q_Ex l g d y pc L (.long z :: .long x :: S) h Q :=
  q_go1 (fun M hl k => by
    obtain ⟨hx, hb, hr, hml, hown, hts, hlocks, hnm, hfr, hlo, hK, hX, hG, hB⟩ := M
    exact lv_ladd hx hb hd  (k _ hl)) K
theorem xe_lmul {x z : Int64} (hd : decode y.2.1 pc = .ok (.lmul, 1)) (K : q_Ex l g d y (pc + 1) L (.long (x * z) :: S) h Q) : q_Ex l g d y pc L (.long z :: .long x :: S) h Q :=
  q_go1 (fun M hl k => by
    obtain ⟨hx, hb, hr, hml, hown, hts, hlocks, hnm, hfr, hlo, hK, hX, hG, hB⟩ := M
    exact lv_lmul hx hb hd  (k _ hl)) K
theorem xe_lor {x z : Int64} (hd : decode y.2.1 pc = .ok (.lor, 1)) (K : q_Ex l g d y (pc + 1) L (.long (x ||| z) :: S) h Q) : q_Ex l g d y pc L (.long z :: .long x :: S) h Q :=
  q_go1 (fun M hl k => by
    obtain ⟨hx, hb, hr, hml, hown, hts, hlocks, hnm, hfr, hlo, hK, hX, hG, hB⟩ := M
    exact lv_lor hx hb hd  (k _ hl)) K
theorem xe_lshl {x v : Int64} {z : Int32} (hd : decode y.2.1 pc = .ok (.lshl, 1)) (hv : x <<< (z.toInt64 &&& 63) = v) (K : q_Ex l g d y (pc + 1) L (.long v :: S) h Q) : q_Ex l g d y pc L (.int z :: .long x :: S) h Q :=
  q_go1 (fun M hl k => by
    obtain ⟨hx, hb, hr, hml, hown, hts, hlocks, hnm, hfr, hlo, hK, hX, hG, hB⟩ := M
    exact lv_lshl hx hb hd hv (k _ hl)) K
theorem xe_i2l {x : Int32} {v : Int64} (hd : decode y.2.1 pc = .ok (.i2l, 1)) (hv : x.toInt64 = v) (K : q_Ex l g d y (pc + 1) L (.long v :: S) h Q) : q_Ex l g d y pc L (.int x :: S) h Q :=
  q_go1 (fun M hl k => by
    obtain ⟨hx, hb, hr, hml, hown, hts, hlocks, hnm, hfr, hlo, hK, hX, hG, hB⟩ := M
    exact lv_i2l hx hb hd hv (k _ hl)) K
theorem xe_l2i {x : Int64} {v : Int32} (hd : decode y.2.1 pc = .ok (.l2i, 1)) (hv : x.toInt32 = v) (K : q_Ex l g d y (pc + 1) L (.int v :: S) h Q) : q_Ex l g d y pc L (.long x :: S) h Q :=
  q_go1 (fun M hl k => by
    obtain ⟨hx, hb, hr, hml, hown, hts, hlocks, hnm, hfr, hlo, hK, hX, hG, hB⟩ := M
    exact lv_l2i hx hb hd hv (k _ hl)) K
theorem xe_i2b {x v : Int32} (hd : decode y.2.1 pc = .ok (.i2b, 1)) (hv : x.toInt8.toInt32 = v) (K : q_Ex l g d y (pc + 1) L (.int v :: S) h Q) : q_Ex l g d y pc L (.int x :: S) h Q :=
  q_go1 (fun M hl k => by
    obtain ⟨hx, hb, hr, hml, hown, hts, hlocks, hnm, hfr, hlo, hK, hX, hG, hB⟩ := M
    exact lv_i2b hx hb hd hv (k _ hl)) K
theorem xe_i2c {x v : Int32} (hd : decode y.2.1 pc = .ok (.i2c, 1)) (hv : (x.toUInt32 % 65536).toInt32 = v) (K : q_Ex l g d y (pc + 1) L (.int v :: S) h Q) : q_Ex l g d y pc L (.int x :: S) h Q :=
  q_go1 (fun M hl k => by
    obtain ⟨hx, hb, hr, hml, hown, hts, hlocks, hnm, hfr, hlo, hK, hX, hG, hB⟩ := M
    exact lv_i2c hx hb hd hv (k _ hl)) K
theorem xe_lcmp {x z : Int64} (hd : decode y.2.1 pc = .ok (.lcmp, 1)) (K : q_Ex l g d y (pc + 1) L (.int (lg_cmp x z) :: S) h Q) : q_Ex l g d y pc L (.long z :: .long x :: S) h Q :=
  q_go1 (fun M hl k => by
    obtain ⟨hx, hb, hr, hml, hown, hts, hlocks, hnm, hfr, hlo, hK, hX, hG, hB⟩ := M
    exact W.lcmp hx hb hd  (k _ hl)) K
theorem xe_dup {v : Value} (hd : decode y.2.1 pc = .ok (.dup, 1)) (hv : v.category = 1) (K : q_Ex l g d y (pc + 1) L (v :: v :: S) h Q) : q_Ex l g d y pc L (v :: S) h Q :=
  q_go1 (fun M hl k => by
    obtain ⟨hx, hb, hr, hml, hown, hts, hlocks, hnm, hfr, hlo, hK, hX, hG, hB⟩ := M
    exact lv_dup hx hb hd ((q_cv_cat g v).trans hv) (k _ hl)) K
theorem xe_dup2 {v w : Value} (hd : decode y.2.1 pc = .ok (.dup2, 1)) (hv : v.category = 1) (hw : w.category = 1) (K : q_Ex l g d y (pc + 1) L (v :: w :: v :: w :: S) h Q) : q_Ex l g d y pc L (v :: w :: S) h Q :=
  q_go1 (fun M hl k => by
    obtain ⟨hx, hb, hr, hml, hown, hts, hlocks, hnm, hfr, hlo, hK, hX, hG, hB⟩ := M
    exact lv_dup2_11 hx hb hd ((q_cv_cat g v).trans hv) ((q_cv_cat g w).trans hw) (k _ hl)) K
theorem xe_pop {v : Value} (hd : decode y.2.1 pc = .ok (.pop, 1)) (hv : v.category = 1) (K : q_Ex l g d y (pc + 1) L S h Q) : q_Ex l g d y pc L (v :: S) h Q :=
  q_go1 (fun M hl k => by
    obtain ⟨hx, hb, hr, hml, hown, hts, hlocks, hnm, hfr, hlo, hK, hX, hG, hB⟩ := M
    exact lv_pop hx hb hd ((q_cv_cat g v).trans hv) (k _ hl)) K
theorem xe_goto {off : Int} {tgt : Nat} (hd : decode y.2.1 pc = .ok (.goto off, 3)) (ht : (pc : Int) + off = (tgt : Int)) (K : q_Ex l g d y tgt L S h Q) : q_Ex l g d y pc L S h Q :=
  q_go1 (fun M hl k => by
    obtain ⟨hx, hb, hr, hml, hown, hts, hlocks, hnm, hfr, hlo, hK, hX, hG, hB⟩ := M
    exact lv_goto hx hb hd ht (k _ hl)) K
theorem xe_istore_n {n : Fin 4} {i : Nat} {x : Int32} (hd : decode y.2.1 pc = .ok (.istore_n n, 1)) (hi : (n : Nat) = i) (hn : i < y.2.2.1) (ho : q_ok1 L i = true) (K : q_Ex l g d y (pc + 1) ((i, .int x) :: L) S h Q) : q_Ex l g d y pc L (.int x :: S) h Q :=
  q_go1 (fun M hl k => by
    obtain ⟨hx, hb, hr, hml, hown, hts, hlocks, hnm, hfr, hlo, hK, hX, hG, hB⟩ := M
    exact lv_istore_n hx hb hd hi (q_lv_has hl) hn rfl (fun ls' h' => k ls' (q_lv_st1 hl rfl ho h'))) K
theorem xe_istore {n : Nat} {x : Int32} (hd : decode y.2.1 pc = .ok (.istore n, 2)) (hn : n < y.2.2.1) (ho : q_ok1 L n = true) (K : q_Ex l g d y (pc + 2) ((n, .int x) :: L) S h Q) : q_Ex l g d y pc L (.int x :: S) h Q :=
  q_go1 (fun M hl k => by
    obtain ⟨hx, hb, hr, hml, hown, hts, hlocks, hnm, hfr, hlo, hK, hX, hG, hB⟩ := M
    exact lv_istore hx hb hd (q_lv_has hl) hn rfl (fun ls' h' => k ls' (q_lv_st1 hl rfl ho h'))) K
theorem xe_astore_n {n : Fin 4} {i : Nat} {x : Nat} (hd : decode y.2.1 pc = .ok (.astore_n n, 1)) (hi : (n : Nat) = i) (hn : i < y.2.2.1) (ho : q_ok1 L i = true) (K : q_Ex l g d y (pc + 1) ((i, .ref x) :: L) S h Q) : q_Ex l g d y pc L (.ref x :: S) h Q :=
  q_go1 (fun M hl k => by
    obtain ⟨hx, hb, hr, hml, hown, hts, hlocks, hnm, hfr, hlo, hK, hX, hG, hB⟩ := M
    exact lv_astore_n hx hb hd hi (q_lv_has hl) hn rfl (fun ls' h' => k ls' (q_lv_st1 hl rfl ho h'))) K
theorem xe_astore {n : Nat} {x : Nat} (hd : decode y.2.1 pc = .ok (.astore n, 2)) (hn : n < y.2.2.1) (ho : q_ok1 L n = true) (K : q_Ex l g d y (pc + 2) ((n, .ref x) :: L) S h Q) : q_Ex l g d y pc L (.ref x :: S) h Q :=
  q_go1 (fun M hl k => by
    obtain ⟨hx, hb, hr, hml, hown, hts, hlocks, hnm, hfr, hlo, hK, hX, hG, hB⟩ := M
    exact lv_astore hx hb hd (q_lv_has hl) hn rfl (fun ls' h' => k ls' (q_lv_st1 hl rfl ho h'))) K
theorem xe_lstore_n {n : Fin 4} {i : Nat} {x : Int64} (hd : decode y.2.1 pc = .ok (.lstore_n n, 1)) (hi : (n : Nat) = i) (hn : i + 1 < y.2.2.1) (ho : q_ok1 L i = true) (h2 : L.lookup (i + 1) = none) (K : q_Ex l g d y (pc + 1) ((i, .long x) :: L) S h Q) : q_Ex l g d y pc L (.long x :: S) h Q :=
  q_go1 (fun M hl k => by
    obtain ⟨hx, hb, hr, hml, hown, hts, hlocks, hnm, hfr, hlo, hK, hX, hG, hB⟩ := M
    exact lv_lstore_n hx hb hd hi (q_lv_has hl) hn rfl (fun ls' h' => k ls' (q_lv_st2 hl rfl ho h2 h'))) K
theorem xe_lstore {n : Nat} {x : Int64} (hd : decode y.2.1 pc = .ok (.lstore n, 2)) (hn : n + 1 < y.2.2.1) (ho : q_ok1 L n = true) (h2 : L.lookup (n + 1) = none) (K : q_Ex l g d y (pc + 2) ((n, .long x) :: L) S h Q) : q_Ex l g d y pc L (.long x :: S) h Q :=
  q_go1 (fun M hl k => by
    obtain ⟨hx, hb, hr, hml, hown, hts, hlocks, hnm, hfr, hlo, hK, hX, hG, hB⟩ := M
    exact lv_lstore hx hb hd (q_lv_has hl) hn rfl (fun ls' h' => k ls' (q_lv_st2 hl rfl ho h2 h'))) K
theorem xe_iinc {i : Nat} {n : Int} {x v : Int32} (hd : decode y.2.1 pc = .ok (.iinc i n, 3)) (hi : L.lookup i = some (.int x)) (hv : x + Int32.ofInt n = v) (K : q_Ex l g d y (pc + 3) ((i, .int v) :: L) S h Q) : q_Ex l g d y pc L S h Q :=
  q_go1 (fun M hl k => by
    obtain ⟨hx, hb, hr, hml, hown, hts, hlocks, hnm, hfr, hlo, hK, hX, hG, hB⟩ := M
    have hm : (i, Value.int x) ∈ q_dd g y.2.2.1 L := q_dd_mem.mpr ⟨q_lv_lt hl hi, _, hi, rfl⟩
    obtain ⟨kk, hkk⟩ := List.getElem?_of_mem hm
    have ho : q_ok1 L i = true := by
      cases i with
      | zero => rfl
      | succ j =>
        show (match L.lookup j with | none => true | some v => v.category == 1) = true
        cases hj : L.lookup j with
        | none => rfl
        | some u =>
          show (u.category == 1) = true
          rcases lv_cat u with q | q
          · rw [q]; rfl
          · have e1 := hl.2.2 j u hj
            have e2 := hl.2.1.1 j _ e1 ((q_cv_cat g u).trans q)
            rw [hl.2.2 (j + 1) _ hi] at e2
            cases e2
    exact lv_iinc hx hb hd (q_lv_has hl) hkk hv (q_lv_lt hl hi) rfl (fun ls' h' => k ls' (q_lv_st1 hl rfl ho h'))) K
theorem q_go2 {p1 : Prop} {pc1 pc2 : Nat} {S' : List Value}
    (hs : ∀ {p : Program} {e : Env} {R : Room} {s : State} {m : MethodId} {args : Array Value} {below : List Frame} {meth : Method} {c : Code} {H : Heap} {locs : List Loc} {ls : Array Slot} {cells slots : Nat} {Q' : State → Prop},
      q_MC g d y p R s m args meth c → q_lv g y.2.2.1 L ls → (p1 → W p l e R s m args below meth c H locs cells slots Q' (F0 m pc1 ls (S'.map (q_cv g)))) → (¬ p1 → W p l e R s m args below meth c H locs cells slots Q' (F0 m pc2 ls (S'.map (q_cv g)))) → W p l e R s m args below meth c H locs cells slots Q' (F0 m pc ls (S.map (q_cv g))))
    (K1 : p1 → q_Ex l g d y pc1 L S' h Q) (K2 : ¬ p1 → q_Ex l g d y pc2 L S' h Q) : q_Ex l g d y pc L S h Q := by
  by_cases hp : p1
  · obtain ⟨r, h', q, n1, k1, G⟩ := K1 hp
    exact ⟨r, h', q, n1, k1, fun p e R s m args below meth c H locs ls cells slots M hL hW hS hc hk => hs M hL (fun _ => G p e R s m args below meth c H locs ls cells slots M hL hW hS hc hk) (fun z => absurd hp z)⟩
  · obtain ⟨r, h', q, n1, k1, G⟩ := K2 hp
    exact ⟨r, h', q, n1, k1, fun p e R s m args below meth c H locs ls cells slots M hL hW hS hc hk => hs M hL (fun z => absurd z hp) (fun _ => G p e R s m args below meth c H locs ls cells slots M hL hW hS hc hk)⟩
theorem xe_if_eq {x : Int32} {off : Int} {tgt : Nat} (hd : decode y.2.1 pc = .ok (.ifCond .eq off, 3)) (ht : (pc : Int) + off = (tgt : Int)) (K1 : x = 0 → q_Ex l g d y tgt L S h Q) (K2 : ¬ x = 0 → q_Ex l g d y (pc + 3) L S h Q) : q_Ex l g d y pc L (.int x :: S) h Q :=
  q_go2 (fun M hl k1 k2 => by
    obtain ⟨hx, hb, hr, hml, hown, hts, hlocks, hnm, hfr, hlo, hK, hX, hG, hB⟩ := M
    exact lv_if_eq hx hb hd ht k1 k2) K1 K2
theorem xe_icmp_eq {x z : Int32} {off : Int} {tgt : Nat} (hd : decode y.2.1 pc = .ok (.if_icmp .eq off, 3)) (ht : (pc : Int) + off = (tgt : Int)) (K1 : x = z → q_Ex l g d y tgt L S h Q) (K2 : ¬ x = z → q_Ex l g d y (pc + 3) L S h Q) : q_Ex l g d y pc L (.int z :: .int x :: S) h Q :=
  q_go2 (fun M hl k1 k2 => by
    obtain ⟨hx, hb, hr, hml, hown, hts, hlocks, hnm, hfr, hlo, hK, hX, hG, hB⟩ := M
    exact lv_icmp_eq hx hb hd ht k1 k2) K1 K2
theorem xe_if_ne {x : Int32} {off : Int} {tgt : Nat} (hd : decode y.2.1 pc = .ok (.ifCond .ne off, 3)) (ht : (pc : Int) + off = (tgt : Int)) (K1 : ¬ x = 0 → q_Ex l g d y tgt L S h Q) (K2 : x = 0 → q_Ex l g d y (pc + 3) L S h Q) : q_Ex l g d y pc L (.int x :: S) h Q :=
  q_go2 (p1 := x = 0) (fun M hl k1 k2 => by
    obtain ⟨hx, hb, hr, hml, hown, hts, hlocks, hnm, hfr, hlo, hK, hX, hG, hB⟩ := M
    exact lv_if_ne hx hb hd ht k2 k1) K2 K1
theorem xe_icmp_ne {x z : Int32} {off : Int} {tgt : Nat} (hd : decode y.2.1 pc = .ok (.if_icmp .ne off, 3)) (ht : (pc : Int) + off = (tgt : Int)) (K1 : ¬ x = z → q_Ex l g d y tgt L S h Q) (K2 : x = z → q_Ex l g d y (pc + 3) L S h Q) : q_Ex l g d y pc L (.int z :: .int x :: S) h Q :=
  q_go2 (p1 := x = z) (fun M hl k1 k2 => by
    obtain ⟨hx, hb, hr, hml, hown, hts, hlocks, hnm, hfr, hlo, hK, hX, hG, hB⟩ := M
    exact lv_icmp_ne hx hb hd ht k2 k1) K2 K1
theorem xe_if_lt {x : Int32} {off : Int} {tgt : Nat} (hd : decode y.2.1 pc = .ok (.ifCond .lt off, 3)) (ht : (pc : Int) + off = (tgt : Int)) (K1 : x < 0 → q_Ex l g d y tgt L S h Q) (K2 : ¬ x < 0 → q_Ex l g d y (pc + 3) L S h Q) : q_Ex l g d y pc L (.int x :: S) h Q :=
  q_go2 (fun M hl k1 k2 => by
    obtain ⟨hx, hb, hr, hml, hown, hts, hlocks, hnm, hfr, hlo, hK, hX, hG, hB⟩ := M
    exact lv_if_lt hx hb hd ht k1 k2) K1 K2
theorem xe_icmp_lt {x z : Int32} {off : Int} {tgt : Nat} (hd : decode y.2.1 pc = .ok (.if_icmp .lt off, 3)) (ht : (pc : Int) + off = (tgt : Int)) (K1 : x < z → q_Ex l g d y tgt L S h Q) (K2 : ¬ x < z → q_Ex l g d y (pc + 3) L S h Q) : q_Ex l g d y pc L (.int z :: .int x :: S) h Q :=
  q_go2 (fun M hl k1 k2 => by
    obtain ⟨hx, hb, hr, hml, hown, hts, hlocks, hnm, hfr, hlo, hK, hX, hG, hB⟩ := M
    exact lv_icmp_lt hx hb hd ht k1 k2) K1 K2
theorem xe_if_ge {x : Int32} {off : Int} {tgt : Nat} (hd : decode y.2.1 pc = .ok (.ifCond .ge off, 3)) (ht : (pc : Int) + off = (tgt : Int)) (K1 : 0 ≤ x → q_Ex l g d y tgt L S h Q) (K2 : ¬ 0 ≤ x → q_Ex l g d y (pc + 3) L S h Q) : q_Ex l g d y pc L (.int x :: S) h Q :=
  q_go2 (fun M hl k1 k2 => by
    obtain ⟨hx, hb, hr, hml, hown, hts, hlocks, hnm, hfr, hlo, hK, hX, hG, hB⟩ := M
    exact lv_if_ge hx hb hd ht k1 k2) K1 K2
theorem xe_icmp_ge {x z : Int32} {off : Int} {tgt : Nat} (hd : decode y.2.1 pc = .ok (.if_icmp .ge off, 3)) (ht : (pc : Int) + off = (tgt : Int)) (K1 : z ≤ x → q_Ex l g d y tgt L S h Q) (K2 : ¬ z ≤ x → q_Ex l g d y (pc + 3) L S h Q) : q_Ex l g d y pc L (.int z :: .int x :: S) h Q :=
  q_go2 (fun M hl k1 k2 => by
    obtain ⟨hx, hb, hr, hml, hown, hts, hlocks, hnm, hfr, hlo, hK, hX, hG, hB⟩ := M
    exact lv_icmp_ge hx hb hd ht k1 k2) K1 K2
theorem xe_if_gt {x : Int32} {off : Int} {tgt : Nat} (hd : decode y.2.1 pc = .ok (.ifCond .gt off, 3)) (ht : (pc : Int) + off = (tgt : Int)) (K1 : 0 < x → q_Ex l g d y tgt L S h Q) (K2 : ¬ 0 < x → q_Ex l g d y (pc + 3) L S h Q) : q_Ex l g d y pc L (.int x :: S) h Q :=
  q_go2 (fun M hl k1 k2 => by
    obtain ⟨hx, hb, hr, hml, hown, hts, hlocks, hnm, hfr, hlo, hK, hX, hG, hB⟩ := M
    exact lv_if_gt hx hb hd ht k1 k2) K1 K2
theorem xe_icmp_gt {x z : Int32} {off : Int} {tgt : Nat} (hd : decode y.2.1 pc = .ok (.if_icmp .gt off, 3)) (ht : (pc : Int) + off = (tgt : Int)) (K1 : z < x → q_Ex l g d y tgt L S h Q) (K2 : ¬ z < x → q_Ex l g d y (pc + 3) L S h Q) : q_Ex l g d y pc L (.int z :: .int x :: S) h Q :=
  q_go2 (fun M hl k1 k2 => by
    obtain ⟨hx, hb, hr, hml, hown, hts, hlocks, hnm, hfr, hlo, hK, hX, hG, hB⟩ := M
    exact lv_icmp_gt hx hb hd ht k1 k2) K1 K2
theorem xe_if_le {x : Int32} {off : Int} {tgt : Nat} (hd : decode y.2.1 pc = .ok (.ifCond .le off, 3)) (ht : (pc : Int) + off = (tgt : Int)) (K1 : x ≤ 0 → q_Ex l g d y tgt L S h Q) (K2 : ¬ x ≤ 0 → q_Ex l g d y (pc + 3) L S h Q) : q_Ex l g d y pc L (.int x :: S) h Q :=
  q_go2 (fun M hl k1 k2 => by
    obtain ⟨hx, hb, hr, hml, hown, hts, hlocks, hnm, hfr, hlo, hK, hX, hG, hB⟩ := M
    exact lv_if_le hx hb hd ht k1 k2) K1 K2
theorem xe_icmp_le {x z : Int32} {off : Int} {tgt : Nat} (hd : decode y.2.1 pc = .ok (.if_icmp .le off, 3)) (ht : (pc : Int) + off = (tgt : Int)) (K1 : x ≤ z → q_Ex l g d y tgt L S h Q) (K2 : ¬ x ≤ z → q_Ex l g d y (pc + 3) L S h Q) : q_Ex l g d y pc L (.int z :: .int x :: S) h Q :=
  q_go2 (fun M hl k1 k2 => by
    obtain ⟨hx, hb, hr, hml, hown, hts, hlocks, hnm, hfr, hlo, hK, hX, hG, hB⟩ := M
    exact lv_icmp_le hx hb hd ht k1 k2) K1 K2
theorem xe_tsw_in {dflt lo hi : Int} {offs : Array Int} {len : Nat} {x : Int32} {off : Int} {tgt : Nat} (hd : decode y.2.1 pc = .ok (.tableswitch dflt lo hi offs, len)) (h1 : ¬ x.toInt < lo) (h2 : ¬ hi < x.toInt) (ho : offs[(x.toInt - lo).toNat]? = some off) (ht : (pc : Int) + off = (tgt : Int)) (K : q_Ex l g d y tgt L S h Q) : q_Ex l g d y pc L (.int x :: S) h Q :=
  q_go1 (fun M hl k => by
    obtain ⟨hx, hb, hr, hml, hown, hts, hlocks, hnm, hfr, hlo, hK, hX, hG, hB⟩ := M
    exact lv_tableIn hx hb hd h1 h2 ho ht (k _ hl)) K
theorem xe_tsw_out {dflt lo hi : Int} {offs : Array Int} {len : Nat} {x : Int32} {tgt : Nat} (hd : decode y.2.1 pc = .ok (.tableswitch dflt lo hi offs, len)) (h1 : x.toInt < lo ∨ hi < x.toInt) (ht : (pc : Int) + dflt = (tgt : Int)) (K : q_Ex l g d y tgt L S h Q) : q_Ex l g d y pc L (.int x :: S) h Q :=
  q_go1 (fun M hl k => by
    obtain ⟨hx, hb, hr, hml, hown, hts, hlocks, hnm, hfr, hlo, hK, hX, hG, hB⟩ := M
    exact lv_tableOut hx hb hd h1 ht (k _ hl)) K
theorem xe_ifnonnull {x : Nat} {off : Int} {tgt : Nat} (hd : decode y.2.1 pc = .ok (.ifnonnull off, 3)) (ht : (pc : Int) + off = (tgt : Int)) (K : q_Ex l g d y tgt L S h Q) : q_Ex l g d y pc L (.ref x :: S) h Q :=
  q_go1 (fun M hl k => by
    obtain ⟨hx, hb, hr, hml, hown, hts, hlocks, hnm, hfr, hlo, hK, hX, hG, hB⟩ := M
    exact lv_ifnonnull hx hb hd ht (k _ hl)) K
theorem xe_ifnonnullN {off : Int} (hd : decode y.2.1 pc = .ok (.ifnonnull off, 3)) (K : q_Ex l g d y (pc + 3) L S h Q) : q_Ex l g d y pc L (.null :: S) h Q :=
  q_go1 (fun M hl k => by
    obtain ⟨hx, hb, hr, hml, hown, hts, hlocks, hnm, hfr, hlo, hK, hX, hG, hB⟩ := M
    exact lv_ifnonnullN hx hb hd (k _ hl)) K
end QS
section QR
variable {l : Launch} {g : q_GP} {d : Nat} {y : q_MI} {pc : Nat} {L : List (Nat × Value)} {h : q_H} {Q : Option Value → q_H → Prop}
theorem q_self_c (cells a : Nat) : cells + (a - a) = cells := by omega
theorem xe_ireturn {ty : FieldType} {v : Int32} (hd : decode y.2.1 pc = .ok (.ireturn, 1)) (hr : y.2.2.2 = some ty) (hn : narrow ty (.int v) = .int v) (hq : Q (some (.int v)) h) : q_Ex l g d y pc L [.int v] h Q := by
  refine ⟨some (.int v), h, hq, Nat.le_refl _, Nat.le_refl _, fun p e R s m args below meth c H locs ls cells slots M hL hW hS hc hk => ?_⟩
  obtain ⟨hx, hb, hret, hml, hown, hts, hlocks, hnm, hfr, hlo, hK, hX, hG, hB⟩ := M
  rw [q_self_c, q_self_c]
  exact W.zret hx hb (hret.trans hr) hn (fun t ht hWm => ⟨rfl, by rw [ht]; exact hW, hS.F ht⟩) hS.2.2 hd hlocks
theorem xe_return (hd : decode y.2.1 pc = .ok (.return_, 1)) (hr : y.2.2.2 = none) (hq : Q none h) : q_Ex l g d y pc L [] h Q := by
  refine ⟨none, h, hq, Nat.le_refl _, Nat.le_refl _, fun p e R s m args below meth c H locs ls cells slots M hL hW hS hc hk => ?_⟩
  obtain ⟨hx, hb, hret, hml, hown, hts, hlocks, hnm, hfr, hlo, hK, hX, hG, hB⟩ := M
  rw [q_self_c, q_self_c]
  exact W.vret hx hb (hret.trans hr) (fun t ht hWm => ⟨rfl, by rw [ht]; exact hW, hS.F ht⟩) hS.2.2 hd hlocks
theorem xe_lreturn {v : Int64} (hd : decode y.2.1 pc = .ok (.lreturn, 1)) (hr : y.2.2.2 = some .long) (hq : Q (some (.long v)) h) : q_Ex l g d y pc L [.long v] h Q := by
  refine ⟨some (.long v), h, hq, Nat.le_refl _, Nat.le_refl _, fun p e R s m args below meth c H locs ls cells slots M hL hW hS hc hk => ?_⟩
  obtain ⟨hx, hb, hret, hml, hown, hts, hlocks, hnm, hfr, hlo, hK, hX, hG, hB⟩ := M
  rw [q_self_c, q_self_c]
  exact W.lret hx hb (hret.trans hr) (fun t ht hWm => ⟨rfl, by rw [ht]; exact hW, hS.F ht⟩) hS.2.2 hd hlocks
theorem xe_areturn {v : Nat} {C : String} (hd : decode y.2.1 pc = .ok (.areturn, 1)) (hr : y.2.2.2 = some (.object C)) (hq : Q (some (.ref v)) h) : q_Ex l g d y pc L [.ref v] h Q := by
  refine ⟨some (.ref v), h, hq, Nat.le_refl _, Nat.le_refl _, fun p e R s m args below meth c H locs ls cells slots M hL hW hS hc hk => ?_⟩
  obtain ⟨hx, hb, hret, hml, hown, hts, hlocks, hnm, hfr, hlo, hK, hX, hG, hB⟩ := M
  rw [q_self_c, q_self_c]
  exact W.aret hx hb (hret.trans hr) (Or.inl ⟨_, rfl⟩) (Or.inr ⟨_, rfl⟩) (fun t ht hWm => ⟨rfl, by rw [ht]; exact hW, hS.F ht⟩) hS.2.2 hd hlocks
end QR
/-! the heap -/
def q_CK (ci : Nat) (C : String) (T : u_T) (N : Nat) : Prop := vwCl[ci]? = some (C, T, N) ∧ (∀ w ∈ u_ws C T N, w ∈ q_tab) ∧ (∀ k, k < N → parseFieldDescriptor (T k).2.2.1 = some (q_ty ci k)) ∧ (∀ a, a < N → ∀ b, b < N → a ≠ b → (T a).2.1 ≠ (T b).2.1) ∧ ci < 100
/-- entry idx of class own is field k of class ci (fin: whether it is final) -/
def q_FL (own : String) (idx ci k : Nat) (fin : Bool) : Prop := ∃ (C : String) (T : u_T) (N : Nat), q_CK ci C T N ∧ k < N ∧ Cond.fieldLink own idx (T k).1 (T k).2.1 (T k).2.2.1 ∈ q_tab ∧ (T k).2.2.2 = fin ∧ (T k).1 = C
section QH
variable {l : Launch} {g : q_GP} {d : Nat} {y : q_MI} {pc : Nat} {L : List (Nat × Value)} {S : List Value} {h : q_H} {Q : Option Value → q_H → Prop}
theorem q_ent_o {r : Nat} (ht : q_T h r < 100) : q_ent g h r = .inr (q_T h r, (List.range (q_L h r)).map (q_fld g h r)) := if_pos ht
theorem q_ent_a {r : Nat} (ht : ¬ q_T h r < 100) : q_ent g h r = .inl (q_C g (q_T h r), q_row g h r) := if_neg ht
theorem q_ad_sh {H : Heap} {r t n : Nat} (hW : q_WH g h H) (hs : q_Sh h r t n) : q_ad g r = q_B g + r := q_ad_lt hW hs.1
theorem q_cv_rf {x : Option Nat} : q_cv g (va_rf x) = va_rf (x.map (q_ad g)) := by cases x <;> rfl
/-- getfield, whatever the field is -/
theorem q_getF {idx ci k n r : Nat} {fin : Bool} {v : Value} (hd : decode y.2.1 pc = .ok (.getfield idx, 3)) (hF : q_FL y.1.cls idx ci k fin) (hs : q_Sh h r ci n) (hk : k < n) (hv : ∀ (g : q_GP), q_fld g h r k = q_cv g v) (K : q_Ex l g d y (pc + 3) L (v :: S) h Q) : q_Ex l g d y pc L (.ref r :: S) h Q := by
  obtain ⟨rv, h', q, n1, k1, G⟩ := K
  refine ⟨rv, h', q, n1, k1, fun p e R s m args below meth c H locs ls cells slots M hL hW hS hc hkk => ?_⟩
  have M0 := M
  obtain ⟨hx, hb, hret, hml, hown, hts, hlocks, hnm, hfr, hlo, hK, hX, hG, hB⟩ := M
  obtain ⟨C, T, N, ⟨c1, c2, c3, c4, c5⟩, hkN, hlk, hfin, hT⟩ := hF
  have he : (q_ws g h)[r]? = some (q_B g + r, .inr (ci, (List.range (q_L h r)).map (q_fld g h r))) := by
    rw [q_ws_at hs.1, q_ent_o (by rw [hs.2.1]; exact c5), hs.2.1]
  show W p l e R s m args below meth c H locs cells slots _ (F0 m pc ls (.ref (q_ad g r) :: S.map (q_cv g)))
  rw [q_ad_sh hW hs]
  refine va_get (D := q_D g) (v := q_cv g v) hx hb hts c2 hown hK hW.2.2 r he c1 k hkN (hts _ hlk) (fun _ h9 => h9) ?_ hd (G p e R s m args below meth c H locs ls cells slots M0 hL hW hS hc hkk)
  rw [List.getElem?_map, List.getElem?_range (by rw [hs.2.2]; exact hk), Option.map_some, hv g]
theorem xe_getI {idx ci k n r : Nat} {fin : Bool} (hd : decode y.2.1 pc = .ok (.getfield idx, 3)) (hF : q_FL y.1.cls idx ci k fin) (hs : q_Sh h r ci n) (hk : k < n) (hr : q_isR (q_ty ci k) = false) (K : q_Ex l g d y (pc + 3) L (.int (q_I h r k) :: S) h Q) : q_Ex l g d y pc L (.ref r :: S) h Q :=
  q_getF hd hF hs hk (fun g => by
    unfold q_fld
    rw [hs.2.1, hr]
    rfl) K
theorem xe_getP {idx ci k n r a : Nat} {fin : Bool} (hd : decode y.2.1 pc = .ok (.getfield idx, 3)) (hF : q_FL y.1.cls idx ci k fin) (hs : q_Sh h r ci n) (hk : k < n) (hr : q_isR (q_ty ci k) = true) (hp : q_P h r k = some a) (K : q_Ex l g d y (pc + 3) L (.ref a :: S) h Q) : q_Ex l g d y pc L (.ref r :: S) h Q :=
  q_getF hd hF hs hk (fun g => by
    unfold q_fld
    rw [hs.2.1, hr, hp]
    rfl) K
theorem q_wI_ne {r k : Nat} {f : Nat → Int32} (hkr : k ≠ r) : q_ent g (q_wI h r f) k = q_ent g h k := by
  have e1 : (q_wI h r f).1 k = h.1 k := if_neg hkr
  have e2 : q_fld g (q_wI h r f) k = q_fld g h k := by
    funext j
    unfold q_fld
    show (if q_isR (q_ty (q_T h k) j) = true then va_rf ((q_P h k j).map (q_ad g)) else .int ((q_wI h r f).1 k j)) = _
    rw [e1]
    rfl
  have e3 : q_row g (q_wI h r f) k = q_row g h k := by
    unfold q_row
    show (q_L h k, if q_T h k < 103 then Sum.inl ((q_wI h r f).1 k) else _) = _
    rw [e1]
    rfl
  unfold q_ent
  rw [e2, e3]
  rfl
theorem q_wJ_ne {r k : Nat} {f : Nat → Int64} (hkr : k ≠ r) : q_ent g (q_wJ h r f) k = q_ent g h k := by
  have e1 : (q_wJ h r f).2.1 k = h.2.1 k := if_neg hkr
  have e3 : q_row g (q_wJ h r f) k = q_row g h k := by
    unfold q_row
    show ((q_L h k, if q_T h k < 103 then Sum.inl (q_I h k) else if q_T h k = 103 then .inr (.inl ((q_wJ h r f).2.1 k)) else _) : vp_A) = _
    rw [e1]
    rfl
  unfold q_ent
  rw [e3]
  rfl
theorem q_wP_ne {r k : Nat} {f : Nat → Option Nat} (hkr : k ≠ r) : q_ent g (q_wP h r f) k = q_ent g h k := by
  have e1 : (q_wP h r f).2.2.1 k = h.2.2.1 k := if_neg hkr
  have e2 : q_fld g (q_wP h r f) k = q_fld g h k := by
    funext j
    unfold q_fld
    show (if q_isR (q_ty (q_T h k) j) = true then va_rf (((q_wP h r f).2.2.1 k j).map (q_ad g)) else .int (q_I h k j)) = _
    rw [e1]
    rfl
  have e3 : q_row g (q_wP h r f) k = q_row g h k := by
    unfold q_row
    show ((q_L h k, if q_T h k < 103 then Sum.inl (q_I h k) else if q_T h k = 103 then .inr (.inl (q_J h k)) else .inr (.inr (.inr (.inr (fun i => ((q_wP h r f).2.2.1 k i).map (q_ad g)))))) : vp_A) = _
    rw [e1]
    rfl
  unfold q_ent
  rw [e2, e3]
  rfl
theorem q_wI_eq {r : Nat} {f : Nat → Int32} : (q_wI h r f).1 r = f := if_pos rfl
theorem q_wJ_eq {r : Nat} {f : Nat → Int64} : (q_wJ h r f).2.1 r = f := if_pos rfl
theorem q_wP_eq {r : Nat} {f : Nat → Option Nat} : (q_wP h r f).2.2.1 r = f := if_pos rfl
/-- a world written at one number -/
theorem q_WH_set {h2 : q_H} {H1 : Heap} {r : Nat} {e : va_E} {H : Heap} {s : State} {locs1 : List Loc} (hW : q_WH g h H) (hz : H1.size = H.size) (hN : q_N h2 = q_N h) (hr : r < q_N h) (he : q_ent g h2 r = e) (ho : ∀ k, k ≠ r → q_ent g h2 k = q_ent g h k) (hP : va_P (q_D g) vwCl ((q_ws g h).set r (q_B g + r, e)) H1) : q_WH g h2 H1 := by
  refine ⟨by rw [hz, hN]; exact hW.1, by rw [hN]; exact hW.2.1, ?_⟩
  rw [← q_ws_set hN hr he ho]
  exact hP
end QH
