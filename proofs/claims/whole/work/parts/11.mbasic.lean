/-! the reference: reads of its rows -/
def q_in (v a b : Int32) : Int32 := if v < a then nI 0 else if b < v then nI 0 else nI 1
theorem c_X10_in (l : Launch) (g : q_GP) (h : q_H) (v a b : Int32) : q_Cd l g 0 mX10_in [.int v, .int a, .int b] h (some (.int (q_in v a b))) h := by
  refine q_CdS msX10_in (Nat.le_of_ble_eq_true rfl) ?_
  refine xe_iload_n dX10_in_0 rfl ?_
  refine xe_iload_n dX10_in_1 rfl ?_
  refine xe_icmp_lt (tgt := 14) dX10_in_2 rfl (fun c1 => ?_) (fun c1 => ?_)
  · refine xe_iconst dX10_in_14 kc_0 ?_
    refine xe_ireturn dX10_in_15 rfl (by first | rfl | decide +kernel) ?_
    exact ⟨by simp only [q_in, *, if_true, if_false], rfl⟩
  · refine xe_iload_n dX10_in_5 rfl ?_
    refine xe_iload_n dX10_in_6 rfl ?_
    refine xe_icmp_gt (tgt := 14) dX10_in_7 rfl (fun c2 => ?_) (fun c2 => ?_)
    · refine xe_iconst dX10_in_14 kc_0 ?_
      refine xe_ireturn dX10_in_15 rfl (by first | rfl | decide +kernel) ?_
      exact ⟨by simp only [q_in, *, if_true, if_false], rfl⟩
    · refine xe_iconst dX10_in_10 kc_1 ?_
      refine xe_goto (tgt := 15) dX10_in_11 rfl ?_
      refine xe_ireturn dX10_in_15 rfl (by first | rfl | decide +kernel) ?_
      exact ⟨by simp only [q_in, *, if_true, if_false], rfl⟩
def q_held (v : Int32) : Int32 := if 0 ≤ v then (if v ≤ nI 999 then v else nI 999) else nI 0
theorem c_X10_held (l : Launch) (g : q_GP) (h : q_H) (v : Int32) : q_Cd l g 0 mX10_held [.int v] h (some (.int (q_held v))) h := by
  refine q_CdS msX10_held (Nat.le_of_ble_eq_true rfl) ?_
  refine xe_iload_n dX10_held_0 rfl ?_
  refine xe_if_ge (tgt := 8) dX10_held_1 rfl (fun c1 => ?_) (fun c1 => ?_)
  · refine xe_iload_n dX10_held_8 rfl ?_
    refine xe_sipush dX10_held_9 ks_999 ?_
    refine xe_icmp_le (tgt := 21) dX10_held_12 rfl (fun c2 => ?_) (fun c2 => ?_)
    · refine xe_iload_n dX10_held_21 rfl ?_
      refine xe_ireturn dX10_held_22 rfl (by first | rfl | decide +kernel) ?_
      exact ⟨by simp only [q_held, *, if_true, if_false], rfl⟩
    · refine xe_sipush dX10_held_15 ks_999 ?_
      refine xe_goto (tgt := 22) dX10_held_18 rfl ?_
      refine xe_ireturn dX10_held_22 rfl (by first | rfl | decide +kernel) ?_
      exact ⟨by simp only [q_held, *, if_true, if_false], rfl⟩
  · refine xe_iconst dX10_held_4 kc_0 ?_
    refine xe_goto (tgt := 22) dX10_held_5 rfl ?_
    refine xe_ireturn dX10_held_22 rfl (by first | rfl | decide +kernel) ?_
    exact ⟨by simp only [q_held, *, if_true, if_false], rfl⟩
theorem c_X10_haveOf (l : Launch) (g : q_GP) (h : q_H) (hs : q_Stat h) (x : Nat) (hx : x < 9) : q_Cd l g 0 mX10_haveOf [.ref 124, .int (nI x)] h (some (.int (q_sum (fun k => q_I h 155 (8 * x + k)) 8))) h := by
  refine q_CdV mvX10_haveOf (Nat.le_of_ble_eq_true rfl) ?_
  refine xe_iconst dX10_haveOf_0 kc_0 ?_
  refine xe_istore_n (i := 2) dX10_haveOf_1 rfl (by decide) rfl ?_
  refine xe_iconst dX10_haveOf_2 kc_0 ?_
  refine xe_istore_n (i := 3) dX10_haveOf_3 rfl (by decide) rfl ?_
  refine xe_locals (L' := (fun i => [(0, .ref 124), (1, .int (nI x)), (2, .int (q_sum (fun k => q_I h 155 (8 * x + k)) i)), (3, .int (nI i))]) 0) (And.intro rfl (And.intro rfl (And.intro rfl (And.intro rfl trivial)))) ?_
  refine xe_for 8 (fun i => [(0, .ref 124), (1, .int (nI x)), (2, .int (q_sum (fun k => q_I h 155 (8 * x + k)) i)), (3, .int (nI i))]) (fun _ => h) (fun i hi K => ?_) ?_
  · refine xe_iload_n dX10_haveOf_4 rfl ?_
    refine xe_bipush dX10_haveOf_5 kb_8 ?_
    refine xn_icmp_ge (tgt := 30) dX10_haveOf_7 rfl (by omega) (by omega) (fun c1 => ?_) (fun c1 => ?_)
    · omega
    · refine xe_iload_n dX10_haveOf_10 rfl ?_
      refine xe_aload_n dX10_haveOf_11 rfl ?_
      refine xe_getP dX10_haveOf_12 flX10_110 (st124 hs) (by decide) rfl (sp124_48 hs) ?_
      refine xe_bipush dX10_haveOf_15 kb_8 ?_
      refine xe_iload_n dX10_haveOf_17 rfl ?_
      refine xn_imul dX10_haveOf_18 ?_
      refine xe_iload_n dX10_haveOf_19 rfl ?_
      refine xn_iadd dX10_haveOf_20 ?_
      refine xn_iald dX10_haveOf_21 (st155 hs) (by omega) (by decide) ?_
      refine xe_iadd dX10_haveOf_22 ?_
      refine xe_istore_n (i := 2) dX10_haveOf_23 rfl (by decide) rfl ?_
      refine xn_iinc dX10_haveOf_24 rfl kc_1 ?_
      refine xe_goto (tgt := 4) dX10_haveOf_27 rfl ?_
      refine xe_locals (L' := (fun i => [(0, .ref 124), (1, .int (nI x)), (2, .int (q_sum (fun k => q_I h 155 (8 * x + k)) i)), (3, .int (nI i))]) (i + 1)) (And.intro rfl (And.intro rfl (And.intro rfl (And.intro rfl trivial)))) ?_
      exact K
  · refine xe_iload_n dX10_haveOf_4 rfl ?_
    refine xe_bipush dX10_haveOf_5 kb_8 ?_
    refine xn_icmp_ge (tgt := 30) dX10_haveOf_7 rfl (by omega) (by omega) (fun c2 => ?_) (fun c2 => ?_)
    · refine xe_iload_n dX10_haveOf_30 rfl ?_
      refine xe_ireturn dX10_haveOf_31 rfl (by first | rfl | decide +kernel) ?_
      exact ⟨rfl, rfl⟩
    · omega
theorem c_X10_timesOf (l : Launch) (g : q_GP) (h : q_H) (hs : q_Stat h) (x : Nat) (hx : x < 8) : q_Cd l g 0 mX10_timesOf [.ref 124, .int (nI x)] h (some (.int (q_sum (fun k => q_I h 155 (136 + 8 * x + k)) 8))) h := by
  refine q_CdV mvX10_timesOf (Nat.le_of_ble_eq_true rfl) ?_
  refine xe_iconst dX10_timesOf_0 kc_0 ?_
  refine xe_istore_n (i := 2) dX10_timesOf_1 rfl (by decide) rfl ?_
  refine xe_iconst dX10_timesOf_2 kc_0 ?_
  refine xe_istore_n (i := 3) dX10_timesOf_3 rfl (by decide) rfl ?_
  refine xe_locals (L' := (fun i => [(0, .ref 124), (1, .int (nI x)), (2, .int (q_sum (fun k => q_I h 155 (136 + 8 * x + k)) i)), (3, .int (nI i))]) 0) (And.intro rfl (And.intro rfl (And.intro rfl (And.intro rfl trivial)))) ?_
  refine xe_for 8 (fun i => [(0, .ref 124), (1, .int (nI x)), (2, .int (q_sum (fun k => q_I h 155 (136 + 8 * x + k)) i)), (3, .int (nI i))]) (fun _ => h) (fun i hi K => ?_) ?_
  · refine xe_iload_n dX10_timesOf_4 rfl ?_
    refine xe_bipush dX10_timesOf_5 kb_8 ?_
    refine xn_icmp_ge (tgt := 34) dX10_timesOf_7 rfl (by omega) (by omega) (fun c1 => ?_) (fun c1 => ?_)
    · omega
    · refine xe_iload_n dX10_timesOf_10 rfl ?_
      refine xe_aload_n dX10_timesOf_11 rfl ?_
      refine xe_getP dX10_timesOf_12 flX10_110 (st124 hs) (by decide) rfl (sp124_48 hs) ?_
      refine xe_sipush dX10_timesOf_15 ks_136 ?_
      refine xe_bipush dX10_timesOf_18 kb_8 ?_
      refine xe_iload_n dX10_timesOf_20 rfl ?_
      refine xn_imul dX10_timesOf_21 ?_
      refine xn_iadd dX10_timesOf_22 ?_
      refine xe_iload_n dX10_timesOf_23 rfl ?_
      refine xn_iadd dX10_timesOf_24 ?_
      refine xn_iald dX10_timesOf_25 (st155 hs) (by omega) (by decide) ?_
      refine xe_iadd dX10_timesOf_26 ?_
      refine xe_istore_n (i := 2) dX10_timesOf_27 rfl (by decide) rfl ?_
      refine xn_iinc dX10_timesOf_28 rfl kc_1 ?_
      refine xe_goto (tgt := 4) dX10_timesOf_31 rfl ?_
      refine xe_locals (L' := (fun i => [(0, .ref 124), (1, .int (nI x)), (2, .int (q_sum (fun k => q_I h 155 (136 + 8 * x + k)) i)), (3, .int (nI i))]) (i + 1)) (And.intro rfl (And.intro rfl (And.intro rfl (And.intro rfl trivial)))) ?_
      exact K
  · refine xe_iload_n dX10_timesOf_4 rfl ?_
    refine xe_bipush dX10_timesOf_5 kb_8 ?_
    refine xn_icmp_ge (tgt := 34) dX10_timesOf_7 rfl (by omega) (by omega) (fun c2 => ?_) (fun c2 => ?_)
    · refine xe_iload_n dX10_timesOf_34 rfl ?_
      refine xe_ireturn dX10_timesOf_35 rfl (by first | rfl | decide +kernel) ?_
      exact ⟨rfl, rfl⟩
    · omega
