/-! the class: the state that is now (cell 34) -/
theorem c_X6_inRow (l : Launch) (g : q_GP) (h : q_H) (hs : q_Stat h) (x : Nat) (hx : x < 9) : q_Cd l g 0 mX6_inRow [.ref 34, .int (nI x)] h (some (.int (q_sum (fun k => q_I h 35 (x * 8 + k)) 8))) h := by
  refine q_CdV mvX6_inRow (Nat.le_of_ble_eq_true rfl) ?_
  refine xe_iconst dX6_inRow_0 kc_0 ?_
  refine xe_istore_n (i := 2) dX6_inRow_1 rfl (by decide) rfl ?_
  refine xe_iconst dX6_inRow_2 kc_0 ?_
  refine xe_istore_n (i := 3) dX6_inRow_3 rfl (by decide) rfl ?_
  refine xe_fin (L' := (fun (i1 : Nat) (s1 : Int32) => [(0, .ref 34), (1, .int (nI x)), (2, .int s1), (3, .int (nI i1))]) 0 (nI 0)) (h' := (fun (_ : Nat) (_ : Int32) => h) 0 (nI 0)) ?_ (And.intro rfl (And.intro rfl (And.intro rfl (And.intro rfl trivial)))) rfl
  refine xe_loopI (σ := Int32) (8) (fun i s => s = q_sum (fun k => q_I h 35 (x * 8 + k)) i) (fun (i1 : Nat) (s1 : Int32) => [(0, .ref 34), (1, .int (nI x)), (2, .int s1), (3, .int (nI i1))]) (fun (_ : Nat) (_ : Int32) => h) (nI 0) (rfl) (fun i1 hi1 s1 e1 K1 => ?_) (fun s1 e1 => ?_)
  · refine xe_iload_n dX6_inRow_4 rfl ?_
    refine xe_bipush dX6_inRow_5 kb_8 ?_
    refine xn_icmp_ge (tgt := 30) dX6_inRow_7 rfl (by omega) (by omega) (fun c2 => ?_) (fun c2 => ?_)
    · omega
    · refine xe_iload_n dX6_inRow_10 rfl ?_
      refine xe_aload_n dX6_inRow_11 rfl ?_
      refine xe_getP dX6_inRow_12 flX6_9 (st34 hs) (by decide) rfl (sp34_0 hs) ?_
      refine xe_iload_n dX6_inRow_15 rfl ?_
      refine xe_bipush dX6_inRow_16 kb_8 ?_
      refine xn_imul dX6_inRow_18 ?_
      refine xe_iload_n dX6_inRow_19 rfl ?_
      refine xn_iadd dX6_inRow_20 ?_
      refine xn_ialdv dX6_inRow_21 (st35 hs) (by omega) (by decide) (v := ((q_I h 35) ((x * 8) + i1))) (rfl) ?_
      refine xe_iadd dX6_inRow_22 ?_
      refine xe_istore_n (i := 2) dX6_inRow_23 rfl (by decide) rfl ?_
      refine xn_iinc dX6_inRow_24 rfl kc_1 ?_
      refine xe_goto (tgt := 4) dX6_inRow_27 rfl ?_
      exact xe_fin (K1 (s1 + ((q_I h 35) ((x * 8) + i1))) (by rw [e1]; rfl)) (And.intro rfl (And.intro rfl (And.intro rfl (And.intro rfl trivial)))) rfl
  · refine xe_iload_n dX6_inRow_4 rfl ?_
    refine xe_bipush dX6_inRow_5 kb_8 ?_
    refine xn_icmp_ge (tgt := 30) dX6_inRow_7 rfl (by omega) (by omega) (fun c3 => ?_) (fun c3 => ?_)
    · refine xe_iload_n dX6_inRow_30 rfl ?_
      refine xe_ireturn dX6_inRow_31 rfl (by first | rfl | decide +kernel) ?_
      exact ⟨congrArg (fun v => some (Value.int v)) e1, rfl⟩
    · omega
theorem c_X6_grownOn (l : Launch) (g : q_GP) (h : q_H) (hs : q_Stat h) (x : Nat) (hx : x < 8) : q_Cd l g 0 mX6_grownOn [.ref 34, .int (nI x)] h (some (.int (q_sum (fun k => q_I h 35 (k * 8 + x)) 9))) h := by
  refine q_CdV mvX6_grownOn (Nat.le_of_ble_eq_true rfl) ?_
  refine xe_iconst dX6_grownOn_0 kc_0 ?_
  refine xe_istore_n (i := 2) dX6_grownOn_1 rfl (by decide) rfl ?_
  refine xe_iconst dX6_grownOn_2 kc_0 ?_
  refine xe_istore_n (i := 3) dX6_grownOn_3 rfl (by decide) rfl ?_
  refine xe_fin (L' := (fun (i1 : Nat) (s1 : Int32) => [(0, .ref 34), (1, .int (nI x)), (2, .int s1), (3, .int (nI i1))]) 0 (nI 0)) (h' := (fun (_ : Nat) (_ : Int32) => h) 0 (nI 0)) ?_ (And.intro rfl (And.intro rfl (And.intro rfl (And.intro rfl trivial)))) rfl
  refine xe_loopI (σ := Int32) (9) (fun i s => s = q_sum (fun k => q_I h 35 (k * 8 + x)) i) (fun (i1 : Nat) (s1 : Int32) => [(0, .ref 34), (1, .int (nI x)), (2, .int s1), (3, .int (nI i1))]) (fun (_ : Nat) (_ : Int32) => h) (nI 0) (rfl) (fun i1 hi1 s1 e1 K1 => ?_) (fun s1 e1 => ?_)
  · refine xe_iload_n dX6_grownOn_4 rfl ?_
    refine xe_bipush dX6_grownOn_5 kb_9 ?_
    refine xn_icmp_ge (tgt := 30) dX6_grownOn_7 rfl (by omega) (by omega) (fun c2 => ?_) (fun c2 => ?_)
    · omega
    · refine xe_iload_n dX6_grownOn_10 rfl ?_
      refine xe_aload_n dX6_grownOn_11 rfl ?_
      refine xe_getP dX6_grownOn_12 flX6_9 (st34 hs) (by decide) rfl (sp34_0 hs) ?_
      refine xe_iload_n dX6_grownOn_15 rfl ?_
      refine xe_bipush dX6_grownOn_16 kb_8 ?_
      refine xn_imul dX6_grownOn_18 ?_
      refine xe_iload_n dX6_grownOn_19 rfl ?_
      refine xn_iadd dX6_grownOn_20 ?_
      refine xn_ialdv dX6_grownOn_21 (st35 hs) (by omega) (by decide) (v := ((q_I h 35) ((i1 * 8) + x))) (rfl) ?_
      refine xe_iadd dX6_grownOn_22 ?_
      refine xe_istore_n (i := 2) dX6_grownOn_23 rfl (by decide) rfl ?_
      refine xn_iinc dX6_grownOn_24 rfl kc_1 ?_
      refine xe_goto (tgt := 4) dX6_grownOn_27 rfl ?_
      exact xe_fin (K1 (s1 + ((q_I h 35) ((i1 * 8) + x))) (by rw [e1]; rfl)) (And.intro rfl (And.intro rfl (And.intro rfl (And.intro rfl trivial)))) rfl
  · refine xe_iload_n dX6_grownOn_4 rfl ?_
    refine xe_bipush dX6_grownOn_5 kb_9 ?_
    refine xn_icmp_ge (tgt := 30) dX6_grownOn_7 rfl (by omega) (by omega) (fun c3 => ?_) (fun c3 => ?_)
    · refine xe_iload_n dX6_grownOn_30 rfl ?_
      refine xe_ireturn dX6_grownOn_31 rfl (by first | rfl | decide +kernel) ?_
      exact ⟨congrArg (fun v => some (Value.int v)) e1, rfl⟩
    · omega
theorem c_X6_timesOf (l : Launch) (g : q_GP) (h : q_H) (hs : q_Stat h) (x : Nat) (hx : x < 8) : q_Cd l g 0 mX6_timesOf [.ref 34, .int (nI x)] h (some (.int (q_sum (fun k => q_I h 37 (x * 8 + k)) 8))) h := by
  refine q_CdV mvX6_timesOf (Nat.le_of_ble_eq_true rfl) ?_
  refine xe_iconst dX6_timesOf_0 kc_0 ?_
  refine xe_istore_n (i := 2) dX6_timesOf_1 rfl (by decide) rfl ?_
  refine xe_iconst dX6_timesOf_2 kc_0 ?_
  refine xe_istore_n (i := 3) dX6_timesOf_3 rfl (by decide) rfl ?_
  refine xe_fin (L' := (fun (i1 : Nat) (s1 : Int32) => [(0, .ref 34), (1, .int (nI x)), (2, .int s1), (3, .int (nI i1))]) 0 (nI 0)) (h' := (fun (_ : Nat) (_ : Int32) => h) 0 (nI 0)) ?_ (And.intro rfl (And.intro rfl (And.intro rfl (And.intro rfl trivial)))) rfl
  refine xe_loopI (σ := Int32) (8) (fun i s => s = q_sum (fun k => q_I h 37 (x * 8 + k)) i) (fun (i1 : Nat) (s1 : Int32) => [(0, .ref 34), (1, .int (nI x)), (2, .int s1), (3, .int (nI i1))]) (fun (_ : Nat) (_ : Int32) => h) (nI 0) (rfl) (fun i1 hi1 s1 e1 K1 => ?_) (fun s1 e1 => ?_)
  · refine xe_iload_n dX6_timesOf_4 rfl ?_
    refine xe_bipush dX6_timesOf_5 kb_8 ?_
    refine xn_icmp_ge (tgt := 30) dX6_timesOf_7 rfl (by omega) (by omega) (fun c2 => ?_) (fun c2 => ?_)
    · omega
    · refine xe_iload_n dX6_timesOf_10 rfl ?_
      refine xe_aload_n dX6_timesOf_11 rfl ?_
      refine xe_getP dX6_timesOf_12 flX6_18 (st34 hs) (by decide) rfl (sp34_2 hs) ?_
      refine xe_iload_n dX6_timesOf_15 rfl ?_
      refine xe_bipush dX6_timesOf_16 kb_8 ?_
      refine xn_imul dX6_timesOf_18 ?_
      refine xe_iload_n dX6_timesOf_19 rfl ?_
      refine xn_iadd dX6_timesOf_20 ?_
      refine xn_ialdv dX6_timesOf_21 (st37 hs) (by omega) (by decide) (v := ((q_I h 37) ((x * 8) + i1))) (rfl) ?_
      refine xe_iadd dX6_timesOf_22 ?_
      refine xe_istore_n (i := 2) dX6_timesOf_23 rfl (by decide) rfl ?_
      refine xn_iinc dX6_timesOf_24 rfl kc_1 ?_
      refine xe_goto (tgt := 4) dX6_timesOf_27 rfl ?_
      exact xe_fin (K1 (s1 + ((q_I h 37) ((x * 8) + i1))) (by rw [e1]; rfl)) (And.intro rfl (And.intro rfl (And.intro rfl (And.intro rfl trivial)))) rfl
  · refine xe_iload_n dX6_timesOf_4 rfl ?_
    refine xe_bipush dX6_timesOf_5 kb_8 ?_
    refine xn_icmp_ge (tgt := 30) dX6_timesOf_7 rfl (by omega) (by omega) (fun c3 => ?_) (fun c3 => ?_)
    · refine xe_iload_n dX6_timesOf_30 rfl ?_
      refine xe_ireturn dX6_timesOf_31 rfl (by first | rfl | decide +kernel) ?_
      exact ⟨congrArg (fun v => some (Value.int v)) e1, rfl⟩
    · omega
theorem c_X6_net (l : Launch) (g : q_GP) (h : q_H) (hs : q_Stat h) (x : Nat) (hx : x < 8) : q_Cd l g 0 mX6_net [.ref 34, .int (nI x)] h (some (.int (q_sum (fun k => q_I h 36 (k * 8 + x) - q_I h 36 (x * 8 + k)) 8))) h := by
  refine q_CdV mvX6_net (Nat.le_of_ble_eq_true rfl) ?_
  refine xe_iconst dX6_net_0 kc_0 ?_
  refine xe_istore_n (i := 2) dX6_net_1 rfl (by decide) rfl ?_
  refine xe_iconst dX6_net_2 kc_0 ?_
  refine xe_istore_n (i := 3) dX6_net_3 rfl (by decide) rfl ?_
  refine xe_fin (L' := (fun (i1 : Nat) (s1 : Int32) => [(0, .ref 34), (1, .int (nI x)), (2, .int s1), (3, .int (nI i1))]) 0 (nI 0)) (h' := (fun (_ : Nat) (_ : Int32) => h) 0 (nI 0)) ?_ (And.intro rfl (And.intro rfl (And.intro rfl (And.intro rfl trivial)))) rfl
  refine xe_loopI (σ := Int32) (8) (fun i s => s = q_sum (fun k => q_I h 36 (k * 8 + x) - q_I h 36 (x * 8 + k)) i) (fun (i1 : Nat) (s1 : Int32) => [(0, .ref 34), (1, .int (nI x)), (2, .int s1), (3, .int (nI i1))]) (fun (_ : Nat) (_ : Int32) => h) (nI 0) (rfl) (fun i1 hi1 s1 e1 K1 => ?_) (fun s1 e1 => ?_)
  · refine xe_iload_n dX6_net_4 rfl ?_
    refine xe_bipush dX6_net_5 kb_8 ?_
    refine xn_icmp_ge (tgt := 42) dX6_net_7 rfl (by omega) (by omega) (fun c2 => ?_) (fun c2 => ?_)
    · omega
    · refine xe_iload_n dX6_net_10 rfl ?_
      refine xe_aload_n dX6_net_11 rfl ?_
      refine xe_getP dX6_net_12 flX6_15 (st34 hs) (by decide) rfl (sp34_1 hs) ?_
      refine xe_iload_n dX6_net_15 rfl ?_
      refine xe_bipush dX6_net_16 kb_8 ?_
      refine xn_imul dX6_net_18 ?_
      refine xe_iload_n dX6_net_19 rfl ?_
      refine xn_iadd dX6_net_20 ?_
      refine xn_ialdv dX6_net_21 (st36 hs) (by omega) (by decide) (v := ((q_I h 36) ((i1 * 8) + x))) (rfl) ?_
      refine xe_aload_n dX6_net_22 rfl ?_
      refine xe_getP dX6_net_23 flX6_15 (st34 hs) (by decide) rfl (sp34_1 hs) ?_
      refine xe_iload_n dX6_net_26 rfl ?_
      refine xe_bipush dX6_net_27 kb_8 ?_
      refine xn_imul dX6_net_29 ?_
      refine xe_iload_n dX6_net_30 rfl ?_
      refine xn_iadd dX6_net_31 ?_
      refine xn_ialdv dX6_net_32 (st36 hs) (by omega) (by decide) (v := ((q_I h 36) ((x * 8) + i1))) (rfl) ?_
      refine xe_isub dX6_net_33 ?_
      refine xe_iadd dX6_net_34 ?_
      refine xe_istore_n (i := 2) dX6_net_35 rfl (by decide) rfl ?_
      refine xn_iinc dX6_net_36 rfl kc_1 ?_
      refine xe_goto (tgt := 4) dX6_net_39 rfl ?_
      exact xe_fin (K1 (s1 + (((q_I h 36) ((i1 * 8) + x)) - ((q_I h 36) ((x * 8) + i1)))) (by rw [e1]; rfl)) (And.intro rfl (And.intro rfl (And.intro rfl (And.intro rfl trivial)))) rfl
  · refine xe_iload_n dX6_net_4 rfl ?_
    refine xe_bipush dX6_net_5 kb_8 ?_
    refine xn_icmp_ge (tgt := 42) dX6_net_7 rfl (by omega) (by omega) (fun c3 => ?_) (fun c3 => ?_)
    · refine xe_iload_n dX6_net_42 rfl ?_
      refine xe_ireturn dX6_net_43 rfl (by first | rfl | decide +kernel) ?_
      exact ⟨congrArg (fun v => some (Value.int v)) e1, rfl⟩
    · omega
/-- as many of kind k as are left or are there go from row F to row T -/
def q_m1c (F T : Nat) (s : (Nat → Int32) × Int32) (k : Nat) : (Nat → Int32) × Int32 :=
  (upd (upd s.1 (F * 8 + k) (s.1 (F * 8 + k) - (if s.1 (F * 8 + k) < s.2 then s.1 (F * 8 + k) else s.2))) (T * 8 + k) (upd s.1 (F * 8 + k) (s.1 (F * 8 + k) - (if s.1 (F * 8 + k) < s.2 then s.1 (F * 8 + k) else s.2)) (T * 8 + k) + (if s.1 (F * 8 + k) < s.2 then s.1 (F * 8 + k) else s.2)), s.2 - (if s.1 (F * 8 + k) < s.2 then s.1 (F * 8 + k) else s.2))
def q_mvc (F T f : Nat) (R : Nat → Int32) (n : Int32) : Nat → (Nat → Int32) × Int32
  | 0 => (R, n)
  | i + 1 => q_m1c F T (q_mvc F T f R n i) (if i = 0 then f else i - 1)
theorem q_c9 : ∀ i : Fin 10, (nI 8 ≤ nI i.1 - nI 1) ↔ i.1 = 9 := by decide +kernel
theorem q_c1 : ∀ i : Fin 10, (nI i.1 - nI 1 = (-1)) ↔ i.1 = 0 := by decide +kernel
theorem q_c9n {i : Nat} (h : i < 9) : ¬ nI 8 ≤ nI i - nI 1 := fun q => by have := (q_c9 ⟨i, by omega⟩).mp q; simp at this; omega
theorem q_c1n {i : Nat} (h : i < 9) : nI i - nI 1 = (-1) ↔ i = 0 := q_c1 ⟨i, by omega⟩
theorem c_X6_move (l : Launch) (g : q_GP) (h : q_H) (hs : q_Stat h) (F T f : Nat) (n : Int32) (hF : F < 9) (hT : T < 9) (hf : f < 8) : q_Cd l g 1 mX6_move [.ref 34, .int (nI F), .int (nI T), .int (nI f), .int n] h (some (.int (n - (q_mvc F T f (q_I h 35) n 9).2))) (q_wI h 35 (q_mvc F T f (q_I h 35) n 9).1) := by
  refine q_CdV mvX6_move (Nat.le_of_ble_eq_true rfl) ?_
  refine xe_iload dX6_move_0 rfl ?_
  refine xe_istore dX6_move_2 (by decide) rfl ?_
  refine xe_iconst dX6_move_4 kc_m1 ?_
  refine xe_istore dX6_move_5 (by decide) rfl ?_
  refine xe_fin (L' := (fun (i : Nat) (s1 : (Nat → Int32) × Int32) => [(0, .ref 34), (1, .int (nI F)), (2, .int (nI T)), (3, .int (nI f)), (4, .int n), (5, .int s1.2), (6, .int (nI i - nI 1))]) 0 (q_I h 35, n)) (h' := (fun (i : Nat) (s1 : (Nat → Int32) × Int32) => (q_wI h 35 s1.1)) 0 (q_I h 35, n)) ?_ (And.intro rfl (And.intro rfl (And.intro rfl (And.intro rfl (And.intro rfl (And.intro rfl (And.intro (by exact congrArg (fun v => some (Value.int v)) (by decide +kernel : (-1 : Int32) = nI 0 - nI 1)) trivial))))))) (q_heq [35] (H := h) (by repeat (first | exact q_out_r | refine q_out_w rfl ?_)) (by repeat (first | exact q_out_r | refine q_out_w rfl ?_)) (And.intro rfl trivial))
  refine xe_loopI (σ := (Nat → Int32) × Int32) (9) (fun i s => s = q_mvc F T f (q_I h 35) n i) (fun (i : Nat) (s1 : (Nat → Int32) × Int32) => [(0, .ref 34), (1, .int (nI F)), (2, .int (nI T)), (3, .int (nI f)), (4, .int n), (5, .int s1.2), (6, .int (nI i - nI 1))]) (fun (i : Nat) (s1 : (Nat → Int32) × Int32) => (q_wI h 35 s1.1)) (q_I h 35, n) (rfl) (fun i hi s1 e1 K1 => ?_) (fun s1 e1 => ?_)
  · refine xe_iload dX6_move_7 rfl ?_
    refine xe_bipush dX6_move_9 kb_8 ?_
    refine xe_icmp_ge (tgt := 94) dX6_move_11 rfl (fun c2 => ?_) (fun c2 => ?_)
    · exact absurd c2 (q_c9n hi)
    · refine xe_iload dX6_move_14 rfl ?_
      refine xe_iconst dX6_move_16 kc_m1 ?_
      refine xe_icmp_ne (tgt := 24) dX6_move_17 rfl (fun c3 => ?_) (fun c3 => ?_)
      · have c_i : ¬ i = 0 := fun q => c3 ((q_c1n hi).mpr q)
        refine xe_locals (L' := [(0, .ref 34), (1, .int (nI F)), (2, .int (nI T)), (3, .int (nI f)), (4, .int n), (5, .int s1.2), (6, .int (nI (i - 1)))]) (And.intro rfl (And.intro rfl (And.intro rfl (And.intro rfl (And.intro rfl (And.intro rfl (And.intro (congrArg (fun v => some (Value.int v)) (pk_sub (by omega))) trivial))))))) ?_
        refine xe_iload dX6_move_24 rfl ?_
        refine xe_istore dX6_move_26 (by decide) rfl ?_
        refine xe_iload dX6_move_28 rfl ?_
        refine xe_aload_n dX6_move_30 rfl ?_
        refine xe_getP dX6_move_31 flX6_9 (st34 hs) (by decide) rfl (sp34_0 hs) ?_
        refine xe_iload_n dX6_move_34 rfl ?_
        refine xe_bipush dX6_move_35 kb_8 ?_
        refine xn_imul dX6_move_37 ?_
        refine xe_iload dX6_move_38 rfl ?_
        refine xn_iadd dX6_move_40 ?_
        refine xn_ialdv dX6_move_41 (st35 hs) (by omega) (by decide) (v := (s1.1 ((F * 8) + (i - 1)))) (rfl) ?_
        refine xe_min dX6_move_42 mlX6_44 q_mmin (by decide) (Nat.le_of_ble_eq_true rfl) ?_
        refine xe_istore dX6_move_45 (by decide) rfl ?_
        refine xe_aload_n dX6_move_47 rfl ?_
        refine xe_getP dX6_move_48 flX6_9 (st34 hs) (by decide) rfl (sp34_0 hs) ?_
        refine xe_iload_n dX6_move_51 rfl ?_
        refine xe_bipush dX6_move_52 kb_8 ?_
        refine xn_imul dX6_move_54 ?_
        refine xe_iload dX6_move_55 rfl ?_
        refine xn_iadd dX6_move_57 ?_
        refine xe_dup2 dX6_move_58 rfl rfl ?_
        refine xn_ialdv dX6_move_59 (st35 hs) (by omega) (by decide) (v := (s1.1 ((F * 8) + (i - 1)))) (rfl) ?_
        refine xe_iload dX6_move_60 rfl ?_
        refine xe_isub dX6_move_62 ?_
        refine xn_iast dX6_move_63 (st35 hs) (by omega) (by decide) ?_
        refine xe_aload_n dX6_move_64 rfl ?_
        refine xe_getP dX6_move_65 flX6_9 (st34 hs) (by decide) rfl (sp34_0 hs) ?_
        refine xe_iload_n dX6_move_68 rfl ?_
        refine xe_bipush dX6_move_69 kb_8 ?_
        refine xn_imul dX6_move_71 ?_
        refine xe_iload dX6_move_72 rfl ?_
        refine xn_iadd dX6_move_74 ?_
        refine xe_dup2 dX6_move_75 rfl rfl ?_
        refine xn_ialdv dX6_move_76 (st35 hs) (by omega) (by decide) (v := ((upd s1.1 ((F * 8) + (i - 1)) ((s1.1 ((F * 8) + (i - 1))) - (if (s1.1 ((F * 8) + (i - 1))) < s1.2 then (s1.1 ((F * 8) + (i - 1))) else s1.2))) ((T * 8) + (i - 1)))) (rfl) ?_
        refine xe_iload dX6_move_77 rfl ?_
        refine xe_iadd dX6_move_79 ?_
        refine xn_iast dX6_move_80 (st35 hs) (by omega) (by decide) ?_
        refine xe_iload dX6_move_81 rfl ?_
        refine xe_iload dX6_move_83 rfl ?_
        refine xe_isub dX6_move_85 ?_
        refine xe_istore dX6_move_86 (by decide) rfl ?_
        refine xn_iinc dX6_move_88 rfl kc_1 ?_
        refine xe_goto (tgt := 7) dX6_move_91 rfl ?_
        exact xe_fin (K1 (upd (upd s1.1 ((F * 8) + (i - 1)) ((s1.1 ((F * 8) + (i - 1))) - (if (s1.1 ((F * 8) + (i - 1))) < s1.2 then (s1.1 ((F * 8) + (i - 1))) else s1.2))) ((T * 8) + (i - 1)) (((upd s1.1 ((F * 8) + (i - 1)) ((s1.1 ((F * 8) + (i - 1))) - (if (s1.1 ((F * 8) + (i - 1))) < s1.2 then (s1.1 ((F * 8) + (i - 1))) else s1.2))) ((T * 8) + (i - 1))) + (if (s1.1 ((F * 8) + (i - 1))) < s1.2 then (s1.1 ((F * 8) + (i - 1))) else s1.2)), (s1.2 - (if (s1.1 ((F * 8) + (i - 1))) < s1.2 then (s1.1 ((F * 8) + (i - 1))) else s1.2))) (by rw [e1]; exact congrArg (q_m1c F T (q_mvc F T f (q_I h 35) n i)) (if_neg c_i).symm)) (And.intro rfl (And.intro rfl (And.intro rfl (And.intro rfl (And.intro rfl (And.intro rfl (And.intro (congrArg (fun v => some (Value.int v)) ((congrArg nI (by omega)).trans (pk_sub (by omega)).symm)) trivial))))))) (q_heq [35] (H := h) (by repeat (first | exact q_out_r | refine q_out_w rfl ?_)) (by repeat (first | exact q_out_r | refine q_out_w rfl ?_)) (And.intro rfl trivial))
      · have c_i : i = 0 := (q_c1n hi).mp c3
        refine xe_iload_n dX6_move_20 rfl ?_
        refine xe_goto (tgt := 26) dX6_move_21 rfl ?_
        refine xe_istore dX6_move_26 (by decide) rfl ?_
        refine xe_iload dX6_move_28 rfl ?_
        refine xe_aload_n dX6_move_30 rfl ?_
        refine xe_getP dX6_move_31 flX6_9 (st34 hs) (by decide) rfl (sp34_0 hs) ?_
        refine xe_iload_n dX6_move_34 rfl ?_
        refine xe_bipush dX6_move_35 kb_8 ?_
        refine xn_imul dX6_move_37 ?_
        refine xe_iload dX6_move_38 rfl ?_
        refine xn_iadd dX6_move_40 ?_
        refine xn_ialdv dX6_move_41 (st35 hs) (by omega) (by decide) (v := (s1.1 ((F * 8) + f))) (rfl) ?_
        refine xe_min dX6_move_42 mlX6_44 q_mmin (by decide) (Nat.le_of_ble_eq_true rfl) ?_
        refine xe_istore dX6_move_45 (by decide) rfl ?_
        refine xe_aload_n dX6_move_47 rfl ?_
        refine xe_getP dX6_move_48 flX6_9 (st34 hs) (by decide) rfl (sp34_0 hs) ?_
        refine xe_iload_n dX6_move_51 rfl ?_
        refine xe_bipush dX6_move_52 kb_8 ?_
        refine xn_imul dX6_move_54 ?_
        refine xe_iload dX6_move_55 rfl ?_
        refine xn_iadd dX6_move_57 ?_
        refine xe_dup2 dX6_move_58 rfl rfl ?_
        refine xn_ialdv dX6_move_59 (st35 hs) (by omega) (by decide) (v := (s1.1 ((F * 8) + f))) (rfl) ?_
        refine xe_iload dX6_move_60 rfl ?_
        refine xe_isub dX6_move_62 ?_
        refine xn_iast dX6_move_63 (st35 hs) (by omega) (by decide) ?_
        refine xe_aload_n dX6_move_64 rfl ?_
        refine xe_getP dX6_move_65 flX6_9 (st34 hs) (by decide) rfl (sp34_0 hs) ?_
        refine xe_iload_n dX6_move_68 rfl ?_
        refine xe_bipush dX6_move_69 kb_8 ?_
        refine xn_imul dX6_move_71 ?_
        refine xe_iload dX6_move_72 rfl ?_
        refine xn_iadd dX6_move_74 ?_
        refine xe_dup2 dX6_move_75 rfl rfl ?_
        refine xn_ialdv dX6_move_76 (st35 hs) (by omega) (by decide) (v := ((upd s1.1 ((F * 8) + f) ((s1.1 ((F * 8) + f)) - (if (s1.1 ((F * 8) + f)) < s1.2 then (s1.1 ((F * 8) + f)) else s1.2))) ((T * 8) + f))) (rfl) ?_
        refine xe_iload dX6_move_77 rfl ?_
        refine xe_iadd dX6_move_79 ?_
        refine xn_iast dX6_move_80 (st35 hs) (by omega) (by decide) ?_
        refine xe_iload dX6_move_81 rfl ?_
        refine xe_iload dX6_move_83 rfl ?_
        refine xe_isub dX6_move_85 ?_
        refine xe_istore dX6_move_86 (by decide) rfl ?_
        refine xe_iinc dX6_move_88 rfl rfl ?_
        refine xe_goto (tgt := 7) dX6_move_91 rfl ?_
        exact xe_fin (K1 (upd (upd s1.1 ((F * 8) + f) ((s1.1 ((F * 8) + f)) - (if (s1.1 ((F * 8) + f)) < s1.2 then (s1.1 ((F * 8) + f)) else s1.2))) ((T * 8) + f) (((upd s1.1 ((F * 8) + f) ((s1.1 ((F * 8) + f)) - (if (s1.1 ((F * 8) + f)) < s1.2 then (s1.1 ((F * 8) + f)) else s1.2))) ((T * 8) + f)) + (if (s1.1 ((F * 8) + f)) < s1.2 then (s1.1 ((F * 8) + f)) else s1.2)), (s1.2 - (if (s1.1 ((F * 8) + f)) < s1.2 then (s1.1 ((F * 8) + f)) else s1.2))) (by rw [e1]; subst c_i; rfl)) (And.intro rfl (And.intro rfl (And.intro rfl (And.intro rfl (And.intro rfl (And.intro rfl (And.intro (congrArg (fun v => some (Value.int v)) (by rw [c_i]; decide +kernel)) trivial))))))) (q_heq [35] (H := h) (by repeat (first | exact q_out_r | refine q_out_w rfl ?_)) (by repeat (first | exact q_out_r | refine q_out_w rfl ?_)) (And.intro rfl trivial))
  · refine xe_iload dX6_move_7 rfl ?_
    refine xe_bipush dX6_move_9 kb_8 ?_
    refine xe_icmp_ge (tgt := 94) dX6_move_11 rfl (fun c4 => ?_) (fun c4 => ?_)
    · refine xe_iload dX6_move_94 rfl ?_
      refine xe_iload dX6_move_96 rfl ?_
      refine xe_isub dX6_move_98 ?_
      refine xe_ireturn dX6_move_99 rfl (by first | rfl | decide +kernel) ?_
      subst e1
      exact ⟨rfl, rfl⟩
    · exact absurd ((q_c9 ⟨9, by decide⟩).mpr rfl) c4
theorem c_X6_pluck (l : Launch) (g : q_GP) (h : q_H) (hs : q_Stat h) (F T : Nat) (n : Int32) (hF : F < 8) (hT : T < 9) : q_Cd l g 2 mX6_pluck [.ref 34, .int (nI F), .int (nI T), .int n] h (some (.int (n - (q_mvc F T F (q_I h 35) n 9).2))) (q_wI h 35 (q_mvc F T F (q_I h 35) n 9).1) := by
  refine q_CdV mvX6_pluck (Nat.le_of_ble_eq_true rfl) ?_
  refine xe_aload_n dX6_pluck_0 rfl ?_
  refine xe_iload_n dX6_pluck_1 rfl ?_
  refine xe_iload_n dX6_pluck_2 rfl ?_
  refine xe_iload_n dX6_pluck_3 rfl ?_
  refine xe_iload_n dX6_pluck_4 rfl ?_
  refine xe_callVI (d' := 1) (y' := mX6_move) dX6_pluck_5 mlX6_40 mvX6_move rfl (st34 hs) (by decide) rfl (by decide) (by decide) (Nat.le_of_ble_eq_true rfl) (c_X6_move l g _ (by exact hs) _ _ _ _ (by omega) (by omega) (by omega)) rfl ?_
  refine xe_ireturn dX6_pluck_8 rfl (by first | rfl | decide +kernel) ?_
  exact ⟨rfl, rfl⟩
/-- the first E entries: man, deed, week, plucked, appealed -/
def rk_E (h : q_H) (E : Nat) (em ed ew ep ea : Nat → Nat) : Prop := ∀ i, i < E → q_I h 38 i = nI (ep i * 128 + ea i * 64 + em i * 8 + ed i) ∧ q_I h 39 i = nI (ew i) ∧ em i < 8 ∧ ed i < 8 ∧ ea i < 2 ∧ ep i ≤ 9999 ∧ ew i < 2 ^ 20
theorem c_X6_entryMan (l : Launch) (g : q_GP) (h : q_H) (hs : q_Stat h) {E : Nat} (hE2 : E ≤ 300) {em ed ew ep ea : Nat → Nat} (hE : rk_E h E em ed ew ep ea) {i : Nat} (hi : i < E) : q_Cd l g 0 mX6_entryMan [.ref 34, .int (nI i)] h (some (.int (nI (em i)))) h := by
  obtain ⟨o1, o2, o3, o4, o5, o6, o7⟩ := hE i hi
  refine q_CdV mvX6_entryMan (Nat.le_of_ble_eq_true rfl) ?_
  refine xe_aload_n dX6_entryMan_0 rfl ?_
  refine xe_getP dX6_entryMan_1 flX6_21 (st34 hs) (by decide) rfl (sp34_3 hs) ?_
  refine xe_iload_n dX6_entryMan_4 rfl ?_
  refine xn_ialdv dX6_entryMan_5 (st38 hs) (by omega) (by decide) (v := nI (ep i * 128 + ea i * 64 + em i * 8 + ed i)) (o1) ?_
  refine xe_bipush dX6_entryMan_6 kb_8 ?_
  refine xn_idiv dX6_entryMan_8 (by omega) (by omega) (by omega) ?_
  refine xe_bipush dX6_entryMan_9 kb_8 ?_
  refine xn_irem dX6_entryMan_11 (by omega) (by omega) (by omega) ?_
  refine xe_top (v' := nI (em i)) (congrArg nI (by omega)) ?_
  refine xe_ireturn dX6_entryMan_12 rfl (by first | rfl | decide +kernel) ?_
  exact ⟨rfl, rfl⟩
theorem c_X6_entryDeed (l : Launch) (g : q_GP) (h : q_H) (hs : q_Stat h) {E : Nat} (hE2 : E ≤ 300) {em ed ew ep ea : Nat → Nat} (hE : rk_E h E em ed ew ep ea) {i : Nat} (hi : i < E) : q_Cd l g 0 mX6_entryDeed [.ref 34, .int (nI i)] h (some (.int (nI (ed i)))) h := by
  obtain ⟨o1, o2, o3, o4, o5, o6, o7⟩ := hE i hi
  refine q_CdV mvX6_entryDeed (Nat.le_of_ble_eq_true rfl) ?_
  refine xe_aload_n dX6_entryDeed_0 rfl ?_
  refine xe_getP dX6_entryDeed_1 flX6_21 (st34 hs) (by decide) rfl (sp34_3 hs) ?_
  refine xe_iload_n dX6_entryDeed_4 rfl ?_
  refine xn_ialdv dX6_entryDeed_5 (st38 hs) (by omega) (by decide) (v := nI (ep i * 128 + ea i * 64 + em i * 8 + ed i)) (o1) ?_
  refine xe_bipush dX6_entryDeed_6 kb_8 ?_
  refine xn_irem dX6_entryDeed_8 (by omega) (by omega) (by omega) ?_
  refine xe_top (v' := nI (ed i)) (congrArg nI (by omega)) ?_
  refine xe_ireturn dX6_entryDeed_9 rfl (by first | rfl | decide +kernel) ?_
  exact ⟨rfl, rfl⟩
theorem c_X6_entryPlucked (l : Launch) (g : q_GP) (h : q_H) (hs : q_Stat h) {E : Nat} (hE2 : E ≤ 300) {em ed ew ep ea : Nat → Nat} (hE : rk_E h E em ed ew ep ea) {i : Nat} (hi : i < E) : q_Cd l g 0 mX6_entryPlucked [.ref 34, .int (nI i)] h (some (.int (nI (ep i)))) h := by
  obtain ⟨o1, o2, o3, o4, o5, o6, o7⟩ := hE i hi
  refine q_CdV mvX6_entryPlucked (Nat.le_of_ble_eq_true rfl) ?_
  refine xe_aload_n dX6_entryPlucked_0 rfl ?_
  refine xe_getP dX6_entryPlucked_1 flX6_21 (st34 hs) (by decide) rfl (sp34_3 hs) ?_
  refine xe_iload_n dX6_entryPlucked_4 rfl ?_
  refine xn_ialdv dX6_entryPlucked_5 (st38 hs) (by omega) (by decide) (v := nI (ep i * 128 + ea i * 64 + em i * 8 + ed i)) (o1) ?_
  refine xe_sipush dX6_entryPlucked_6 ks_128 ?_
  refine xn_idiv dX6_entryPlucked_9 (by omega) (by omega) (by omega) ?_
  refine xe_top (v' := nI (ep i)) (congrArg nI (by omega)) ?_
  refine xe_ireturn dX6_entryPlucked_10 rfl (by first | rfl | decide +kernel) ?_
  exact ⟨rfl, rfl⟩
theorem c_X6_isAppealed (l : Launch) (g : q_GP) (h : q_H) (hs : q_Stat h) {E : Nat} (hE2 : E ≤ 300) {em ed ew ep ea : Nat → Nat} (hE : rk_E h E em ed ew ep ea) {i : Nat} (hi : i < E) : q_Cd l g 0 mX6_isAppealed [.ref 34, .int (nI i)] h (some (.int (nI (ea i)))) h := by
  obtain ⟨o1, o2, o3, o4, o5, o6, o7⟩ := hE i hi
  refine q_CdV mvX6_isAppealed (Nat.le_of_ble_eq_true rfl) ?_
  refine xe_aload_n dX6_isAppealed_0 rfl ?_
  refine xe_getP dX6_isAppealed_1 flX6_21 (st34 hs) (by decide) rfl (sp34_3 hs) ?_
  refine xe_iload_n dX6_isAppealed_4 rfl ?_
  refine xn_ialdv dX6_isAppealed_5 (st38 hs) (by omega) (by decide) (v := nI (ep i * 128 + ea i * 64 + em i * 8 + ed i)) (o1) ?_
  refine xe_bipush dX6_isAppealed_6 kb_64 ?_
  refine xn_idiv dX6_isAppealed_8 (by omega) (by omega) (by omega) ?_
  refine xe_iconst dX6_isAppealed_9 kc_2 ?_
  refine xn_irem dX6_isAppealed_10 (by omega) (by omega) (by omega) ?_
  refine xe_top (v' := nI (ea i)) (congrArg nI (by omega)) ?_
  refine xe_iconst dX6_isAppealed_11 kc_1 ?_
  refine xn_icmp_ne (tgt := 19) dX6_isAppealed_12 rfl (by omega) (by omega) (fun c1 => ?_) (fun c1 => ?_)
  · refine xe_iconst dX6_isAppealed_19 kc_0 ?_
    refine xe_ireturn dX6_isAppealed_20 rfl (by first | rfl | decide +kernel) ?_
    exact ⟨congrArg (fun v => some (Value.int (nI v))) (by omega), rfl⟩
  · refine xe_iconst dX6_isAppealed_15 kc_1 ?_
    refine xe_goto (tgt := 20) dX6_isAppealed_16 rfl ?_
    refine xe_ireturn dX6_isAppealed_20 rfl (by first | rfl | decide +kernel) ?_
    exact ⟨congrArg (fun v => some (Value.int (nI v))) (by omega), rfl⟩
theorem q_m64 {a b : Nat} (h : b + 64 = a) : nI a + (-64) = nI b := by
  rw [← h, ← nI_add, Int32.add_assoc, show nI 64 + (-64) = 0 by decide +kernel, Int32.add_zero]
theorem c_X6_setAppealed_1 (l : Launch) (g : q_GP) (h : q_H) (hs : q_Stat h) {E : Nat} (hE2 : E ≤ 300) {em ed ew ep ea : Nat → Nat} (hE : rk_E h E em ed ew ep ea) {i : Nat} (hi : i < E) (h0 : ea i = 0) : q_Cd l g 1 mX6_setAppealed [.ref 34, .int (nI i), .int (nI 1)] h none (q_wI h 38 (upd (q_I h 38) i (nI (ep i * 128 + 1 * 64 + em i * 8 + ed i)))) := by
  obtain ⟨o1, o2, o3, o4, o5, o6, o7⟩ := hE i hi
  refine q_CdV mvX6_setAppealed (Nat.le_of_ble_eq_true rfl) ?_
  refine xe_aload_n dX6_setAppealed_0 rfl ?_
  refine xe_iload_n dX6_setAppealed_1 rfl ?_
  refine xe_callVI (d' := 0) (y' := mX6_isAppealed) dX6_setAppealed_2 mlX6_57 mvX6_isAppealed rfl (st34 hs) (by decide) rfl (by decide) (by decide) (Nat.le_of_ble_eq_true rfl) (c_X6_isAppealed l g _ (by exact hs) hE2 (by exact hE) (by omega)) rfl ?_
  refine xe_iload_n dX6_setAppealed_5 rfl ?_
  refine xn_icmp_eq (tgt := 29) dX6_setAppealed_6 rfl (by omega) (by omega) (fun c1 => ?_) (fun c1 => ?_)
  · omega
  · refine xe_aload_n dX6_setAppealed_9 rfl ?_
    refine xe_getP dX6_setAppealed_10 flX6_21 (st34 hs) (by decide) rfl (sp34_3 hs) ?_
    refine xe_iload_n dX6_setAppealed_13 rfl ?_
    refine xe_dup2 dX6_setAppealed_14 rfl rfl ?_
    refine xn_ialdv dX6_setAppealed_15 (st38 hs) (by omega) (by decide) (v := nI (ep i * 128 + ea i * 64 + em i * 8 + ed i)) (o1) ?_
    refine xe_iload_n dX6_setAppealed_16 rfl ?_
    refine xn_if_eq (tgt := 25) dX6_setAppealed_17 rfl (by omega) (fun c2 => ?_) (fun c2 => ?_)
    · omega
    · refine xe_bipush dX6_setAppealed_20 kb_64 ?_
      refine xe_goto (tgt := 27) dX6_setAppealed_22 rfl ?_
      refine xn_iadd dX6_setAppealed_27 ?_
      refine xe_top (v' := nI (ep i * 128 + 1 * 64 + em i * 8 + ed i)) (congrArg nI (by omega)) ?_
      refine xn_iast dX6_setAppealed_28 (st38 hs) (by omega) (by decide) ?_
      refine xe_return dX6_setAppealed_29 rfl ?_
      exact ⟨rfl, rfl⟩
theorem c_X6_setAppealed_0 (l : Launch) (g : q_GP) (h : q_H) (hs : q_Stat h) {E : Nat} (hE2 : E ≤ 300) {em ed ew ep ea : Nat → Nat} (hE : rk_E h E em ed ew ep ea) {i : Nat} (hi : i < E) (h0 : ea i = 1) : q_Cd l g 1 mX6_setAppealed [.ref 34, .int (nI i), .int (nI 0)] h none (q_wI h 38 (upd (q_I h 38) i (nI (ep i * 128 + 0 * 64 + em i * 8 + ed i)))) := by
  obtain ⟨o1, o2, o3, o4, o5, o6, o7⟩ := hE i hi
  refine q_CdV mvX6_setAppealed (Nat.le_of_ble_eq_true rfl) ?_
  refine xe_aload_n dX6_setAppealed_0 rfl ?_
  refine xe_iload_n dX6_setAppealed_1 rfl ?_
  refine xe_callVI (d' := 0) (y' := mX6_isAppealed) dX6_setAppealed_2 mlX6_57 mvX6_isAppealed rfl (st34 hs) (by decide) rfl (by decide) (by decide) (Nat.le_of_ble_eq_true rfl) (c_X6_isAppealed l g _ (by exact hs) hE2 (by exact hE) (by omega)) rfl ?_
  refine xe_iload_n dX6_setAppealed_5 rfl ?_
  refine xn_icmp_eq (tgt := 29) dX6_setAppealed_6 rfl (by omega) (by omega) (fun c1 => ?_) (fun c1 => ?_)
  · omega
  · refine xe_aload_n dX6_setAppealed_9 rfl ?_
    refine xe_getP dX6_setAppealed_10 flX6_21 (st34 hs) (by decide) rfl (sp34_3 hs) ?_
    refine xe_iload_n dX6_setAppealed_13 rfl ?_
    refine xe_dup2 dX6_setAppealed_14 rfl rfl ?_
    refine xn_ialdv dX6_setAppealed_15 (st38 hs) (by omega) (by decide) (v := nI (ep i * 128 + ea i * 64 + em i * 8 + ed i)) (o1) ?_
    refine xe_iload_n dX6_setAppealed_16 rfl ?_
    refine xn_if_eq (tgt := 25) dX6_setAppealed_17 rfl (by omega) (fun c2 => ?_) (fun c2 => ?_)
    · refine xe_bipush dX6_setAppealed_25 kb_m64 ?_
      refine xe_iadd dX6_setAppealed_27 ?_
      refine xe_top (v' := nI (ep i * 128 + 0 * 64 + em i * 8 + ed i)) (q_m64 (by omega)) ?_
      refine xn_iast dX6_setAppealed_28 (st38 hs) (by omega) (by decide) ?_
      refine xe_return dX6_setAppealed_29 rfl ?_
      exact ⟨rfl, rfl⟩
    · omega
theorem c_X6_writeDown (l : Launch) (g : q_GP) (h : q_H) (hs : q_Stat h) {E w : Nat} (hE2 : q_I h 34 5 = nI E) (hE3 : E < 300) (hw : q_I h 34 6 = nI w) (m d n : Nat) : q_Cd l g 0 mX6_writeDown [.ref 34, .int (nI m), .int (nI d), .int (nI n)] h none (q_wI (q_wI (q_wI h 34 (upd (q_I h 34) 5 (nI (E + 1)))) 38 (upd (q_I h 38) E (nI (n * 2 * 64 + m * 8 + d)))) 39 (upd (q_I h 39) E (nI w))) := by
  refine q_CdV mvX6_writeDown (Nat.le_of_ble_eq_true rfl) ?_
  refine xe_aload_n dX6_writeDown_0 rfl ?_
  refine xe_getIv dX6_writeDown_1 flX6_27 (st34 hs) (by decide) rfl (v := nI E) (hE2) ?_
  refine xe_sipush dX6_writeDown_4 ks_300 ?_
  refine xn_icmp_ge (tgt := 55) dX6_writeDown_7 rfl (by omega) (by omega) (fun c1 => ?_) (fun c1 => ?_)
  · omega
  · refine xe_aload_n dX6_writeDown_10 rfl ?_
    refine xe_getP dX6_writeDown_11 flX6_21 (st34 hs) (by decide) rfl (sp34_3 hs) ?_
    refine xe_aload_n dX6_writeDown_14 rfl ?_
    refine xe_getIv dX6_writeDown_15 flX6_27 (st34 hs) (by decide) rfl (v := nI E) (hE2) ?_
    refine xe_iload_n dX6_writeDown_18 rfl ?_
    refine xe_iconst dX6_writeDown_19 kc_2 ?_
    refine xn_imul dX6_writeDown_20 ?_
    refine xe_bipush dX6_writeDown_21 kb_64 ?_
    refine xn_imul dX6_writeDown_23 ?_
    refine xe_iload_n dX6_writeDown_24 rfl ?_
    refine xe_bipush dX6_writeDown_25 kb_8 ?_
    refine xn_imul dX6_writeDown_27 ?_
    refine xn_iadd dX6_writeDown_28 ?_
    refine xe_iload_n dX6_writeDown_29 rfl ?_
    refine xn_iadd dX6_writeDown_30 ?_
    refine xn_iast dX6_writeDown_31 (st38 hs) (by omega) (by decide) ?_
    refine xe_aload_n dX6_writeDown_32 rfl ?_
    refine xe_getP dX6_writeDown_33 flX6_24 (st34 hs) (by decide) rfl (sp34_4 hs) ?_
    refine xe_aload_n dX6_writeDown_36 rfl ?_
    refine xe_getIv dX6_writeDown_37 flX6_27 (st34 hs) (by decide) rfl (v := nI E) (hE2) ?_
    refine xe_aload_n dX6_writeDown_40 rfl ?_
    refine xe_getIv dX6_writeDown_41 flX6_31 (st34 hs) (by decide) rfl (v := nI w) (hw) ?_
    refine xn_iast dX6_writeDown_44 (st39 hs) (by omega) (by decide) ?_
    refine xe_aload_n dX6_writeDown_45 rfl ?_
    refine xe_dup dX6_writeDown_46 rfl ?_
    refine xe_getIv dX6_writeDown_47 flX6_27 (st34 hs) (by decide) rfl (v := nI E) (hE2) ?_
    refine xe_iconst dX6_writeDown_50 kc_1 ?_
    refine xn_iadd dX6_writeDown_51 ?_
    refine xe_putI dX6_writeDown_52 flX6_27 (st34 hs) (by decide) rfl (Or.inl rfl) rfl rfl ?_
    refine xe_return dX6_writeDown_55 rfl ?_
    exact ⟨rfl, (q_heq [34, 38, 39] (H := h) (by repeat (first | exact q_out_r | refine q_out_w rfl ?_)) (by repeat (first | exact q_out_r | refine q_out_w rfl ?_)) (And.intro (q_feq [5] (f := q_I h 34) (by repeat (first | exact q_fout_r | refine q_fout_w rfl ?_)) (by repeat (first | exact q_fout_r | refine q_fout_w rfl ?_)) (And.intro rfl trivial)) (And.intro rfl (And.intro rfl trivial))))⟩
/-- how often deed k of a man (row by row) stands among the first n entries since a week -/
def q_cnt (em ed ew : Nat → Nat) (since : Nat) : Nat → Nat → Nat
  | 0, _ => 0
  | n + 1, k => if since ≤ ew n ∧ em n * 8 + ed n = k then q_cnt em ed ew since n k + 1 else q_cnt em ed ew since n k
theorem c_X6_countTimes (l : Launch) (g : q_GP) (h : q_H) (hs : q_Stat h) {E : Nat} (hE1 : q_I h 34 5 = nI E) (hE2 : E ≤ 300) {em ed ew ep ea : Nat → Nat} (hE : rk_E h E em ed ew ep ea) (since : Nat) (hsi : since < 2 ^ 21) : q_Ct l g 1 mX6_countTimes [.ref 34, .int (nI since)] h (fun r h1 => r = none ∧ ∃ T, h1 = q_wI h 37 T ∧ ∀ k, k < 64 → T k = nI (q_cnt em ed ew since E k)) := by
  refine q_CtV mvX6_countTimes (Nat.le_of_ble_eq_true rfl) ?_
  refine xe_iconst dX6_countTimes_0 kc_0 ?_
  refine xe_istore_n (i := 2) dX6_countTimes_1 rfl (by decide) rfl ?_
  refine xe_fin (L' := (fun (i1 : Nat) (s1 : (Nat → Int32)) => [(0, .ref 34), (1, .int (nI since)), (2, .int (nI i1))]) 0 (q_I h 37)) (h' := (fun (i1 : Nat) (s1 : (Nat → Int32)) => (q_wI h 37 s1)) 0 (q_I h 37)) ?_ (And.intro rfl (And.intro rfl (And.intro rfl trivial))) (q_heq [37] (H := h) (by repeat (first | exact q_out_r | refine q_out_w rfl ?_)) (by repeat (first | exact q_out_r | refine q_out_w rfl ?_)) (And.intro rfl trivial))
  refine xe_loopI (σ := (Nat → Int32)) (64) (fun i s => ∀ k, k < i → s k = nI 0) (fun (i1 : Nat) (s1 : (Nat → Int32)) => [(0, .ref 34), (1, .int (nI since)), (2, .int (nI i1))]) (fun (i1 : Nat) (s1 : (Nat → Int32)) => (q_wI h 37 s1)) (q_I h 37) (fun _ q => absurd q (Nat.not_lt_zero _)) (fun i1 hi1 s1 e1 K1 => ?_) (fun s1 e1 => ?_)
  · refine xe_iload_n dX6_countTimes_2 rfl ?_
    refine xe_aload_n dX6_countTimes_3 rfl ?_
    refine xe_getP dX6_countTimes_4 flX6_18 (st34 hs) (by decide) rfl (sp34_2 hs) ?_
    refine xe_alen dX6_countTimes_7 (st37 hs) (by decide) ⟨0, _, rfl⟩ (v := nI 64) rfl ?_
    refine xn_icmp_ge (tgt := 24) dX6_countTimes_8 rfl (by omega) (by omega) (fun c2 => ?_) (fun c2 => ?_)
    · omega
    · refine xe_aload_n dX6_countTimes_11 rfl ?_
      refine xe_getP dX6_countTimes_12 flX6_18 (st34 hs) (by decide) rfl (sp34_2 hs) ?_
      refine xe_iload_n dX6_countTimes_15 rfl ?_
      refine xe_iconst dX6_countTimes_16 kc_0 ?_
      refine xn_iast dX6_countTimes_17 (st37 hs) (by omega) (by decide) ?_
      refine xn_iinc dX6_countTimes_18 rfl kc_1 ?_
      refine xe_goto (tgt := 2) dX6_countTimes_21 rfl ?_
      exact xe_fin (K1 (upd s1 i1 (nI 0)) (fun k q => q_updw (fun _ => rfl) (fun e => e1 k (by omega)))) (And.intro rfl (And.intro rfl (And.intro rfl trivial))) (q_heq [37] (H := h) (by repeat (first | exact q_out_r | refine q_out_w rfl ?_)) (by repeat (first | exact q_out_r | refine q_out_w rfl ?_)) (And.intro rfl trivial))
  · refine xe_iload_n dX6_countTimes_2 rfl ?_
    refine xe_aload_n dX6_countTimes_3 rfl ?_
    refine xe_getP dX6_countTimes_4 flX6_18 (st34 hs) (by decide) rfl (sp34_2 hs) ?_
    refine xe_alen dX6_countTimes_7 (st37 hs) (by decide) ⟨0, _, rfl⟩ (v := nI 64) rfl ?_
    refine xn_icmp_ge (tgt := 24) dX6_countTimes_8 rfl (by omega) (by omega) (fun c3 => ?_) (fun c3 => ?_)
    · refine xe_iconst dX6_countTimes_24 kc_0 ?_
      refine xe_istore_n (i := 2) dX6_countTimes_25 rfl (by decide) rfl ?_
      refine xe_fin (L' := (fun (i : Nat) (s4 : (Nat → Int32)) => [(0, .ref 34), (1, .int (nI since)), (2, .int (nI i))]) 0 s1) (h' := (fun (i : Nat) (s4 : (Nat → Int32)) => (q_wI h 37 s4)) 0 s1) ?_ (And.intro rfl (And.intro rfl (And.intro rfl trivial))) (q_heq [37] (H := h) (by repeat (first | exact q_out_r | refine q_out_w rfl ?_)) (by repeat (first | exact q_out_r | refine q_out_w rfl ?_)) (And.intro rfl trivial))
      refine xe_loopI (σ := (Nat → Int32)) (E) (fun i s => ∀ k, k < 64 → s k = nI (q_cnt em ed ew since i k)) (fun (i : Nat) (s4 : (Nat → Int32)) => [(0, .ref 34), (1, .int (nI since)), (2, .int (nI i))]) (fun (i : Nat) (s4 : (Nat → Int32)) => (q_wI h 37 s4)) s1 (fun k hk => e1 k hk) (fun i hi s4 e4 K4 => ?_) (fun s4 e4 => ?_)
      · obtain ⟨o1, o2, o3, o4, o5, o6, o7⟩ := hE i hi
        refine xe_iload_n dX6_countTimes_26 rfl ?_
        refine xe_aload_n dX6_countTimes_27 rfl ?_
        refine xe_getIv dX6_countTimes_28 flX6_27 (st34 hs) (by decide) rfl (v := nI E) (hE1) ?_
        refine xn_icmp_ge (tgt := 73) dX6_countTimes_31 rfl (by omega) (by omega) (fun c5 => ?_) (fun c5 => ?_)
        · omega
        · refine xe_aload_n dX6_countTimes_34 rfl ?_
          refine xe_getP dX6_countTimes_35 flX6_24 (st34 hs) (by decide) rfl (sp34_4 hs) ?_
          refine xe_iload_n dX6_countTimes_38 rfl ?_
          refine xn_ialdv dX6_countTimes_39 (st39 hs) (by omega) (by decide) (v := nI (ew i)) (o2) ?_
          refine xe_iload_n dX6_countTimes_40 rfl ?_
          refine xn_icmp_lt (tgt := 67) dX6_countTimes_41 rfl (by omega) (by omega) (fun c6 => ?_) (fun c6 => ?_)
          · refine xn_iinc dX6_countTimes_67 rfl kc_1 ?_
            refine xe_goto (tgt := 26) dX6_countTimes_70 rfl ?_
            exact xe_fin (K4 s4 (fun k hk => (e4 k hk).trans (congrArg nI (if_neg (fun q => absurd q.1 (by omega))).symm))) (And.intro rfl (And.intro rfl (And.intro rfl trivial))) (q_heq [37] (H := h) (by repeat (first | exact q_out_r | refine q_out_w rfl ?_)) (by repeat (first | exact q_out_r | refine q_out_w rfl ?_)) (And.intro rfl trivial))
          · refine xe_aload_n dX6_countTimes_44 rfl ?_
            refine xe_getP dX6_countTimes_45 flX6_18 (st34 hs) (by decide) rfl (sp34_2 hs) ?_
            refine xe_aload_n dX6_countTimes_48 rfl ?_
            refine xe_iload_n dX6_countTimes_49 rfl ?_
            refine xe_callVI (d' := 0) (y' := mX6_entryMan) dX6_countTimes_50 mlX6_50 mvX6_entryMan rfl (st34 hs) (by decide) rfl (by decide) (by decide) (Nat.le_of_ble_eq_true rfl) (c_X6_entryMan l g _ (by exact hs) hE2 (by exact hE) (by omega)) rfl ?_
            refine xe_bipush dX6_countTimes_53 kb_8 ?_
            refine xn_imul dX6_countTimes_55 ?_
            refine xe_aload_n dX6_countTimes_56 rfl ?_
            refine xe_iload_n dX6_countTimes_57 rfl ?_
            refine xe_callVI (d' := 0) (y' := mX6_entryDeed) dX6_countTimes_58 mlX6_54 mvX6_entryDeed rfl (st34 hs) (by decide) rfl (by decide) (by decide) (Nat.le_of_ble_eq_true rfl) (c_X6_entryDeed l g _ (by exact hs) hE2 (by exact hE) (by omega)) rfl ?_
            refine xn_iadd dX6_countTimes_61 ?_
            refine xe_dup2 dX6_countTimes_62 rfl rfl ?_
            refine xn_ialdv dX6_countTimes_63 (st37 hs) (by omega) (by decide) (v := nI (q_cnt em ed ew since i (em i * 8 + ed i))) (e4 _ (by omega)) ?_
            refine xe_iconst dX6_countTimes_64 kc_1 ?_
            refine xn_iadd dX6_countTimes_65 ?_
            refine xn_iast dX6_countTimes_66 (st37 hs) (by omega) (by decide) ?_
            refine xn_iinc dX6_countTimes_67 rfl kc_1 ?_
            refine xe_goto (tgt := 26) dX6_countTimes_70 rfl ?_
            exact xe_fin (K4 (upd s4 (((em i) * 8) + (ed i)) (nI ((q_cnt em ed ew since i (em i * 8 + ed i)) + 1))) (fun k hk => q_updw (fun q => by subst q; exact congrArg nI (if_pos (show since ≤ ew i ∧ em i * 8 + ed i = em i * 8 + ed i from ⟨by omega, rfl⟩)).symm) (fun q => (e4 k hk).trans (congrArg nI (if_neg (fun q2 => q q2.2.symm)).symm)))) (And.intro rfl (And.intro rfl (And.intro rfl trivial))) (q_heq [37] (H := h) (by repeat (first | exact q_out_r | refine q_out_w rfl ?_)) (by repeat (first | exact q_out_r | refine q_out_w rfl ?_)) (And.intro rfl trivial))
      · refine xe_iload_n dX6_countTimes_26 rfl ?_
        refine xe_aload_n dX6_countTimes_27 rfl ?_
        refine xe_getIv dX6_countTimes_28 flX6_27 (st34 hs) (by decide) rfl (v := nI E) (hE1) ?_
        refine xn_icmp_ge (tgt := 73) dX6_countTimes_31 rfl (by omega) (by omega) (fun c7 => ?_) (fun c7 => ?_)
        · refine xe_return dX6_countTimes_73 rfl ?_
          exact ⟨rfl, _, rfl, e4⟩
        · omega
    · omega
