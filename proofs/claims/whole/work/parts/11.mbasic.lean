/-! the reference: reads of its rows -/
def q_in (v a b : Int32) : Int32 := if v < a then nI 0 else if b < v then nI 0 else nI 1
theorem c_X10_in (l : Launch) (g : q_GP) (h : q_H) (v a b : Int32) : q_Cd l g 0 mX10_in [.int v, .int a, .int b] h (some (.int (q_in v a b))) h := by
  refine q_CdS msX10_in (Nat.le_of_ble_eq_true rfl) ?_
  refine xe_iload_n dX10_in_0 rfl ?_
  refine xe_iload_n dX10_in_1 rfl ?_
  refine xe_icmp_lt (tgt := 14) dX10_in_2 rfl (fun c1 => ?_) (fun c1 => ?_)
  · refine xe_iconst dX10_in_14 kc_0 ?_
    refine xe_ireturn dX10_in_15 rfl (by first | rfl | decide +kernel) ?_
    exact ⟨by simp only [q_in, *, if_true, if_false], rfl⟩
  · refine xe_iload_n dX10_in_5 rfl ?_
    refine xe_iload_n dX10_in_6 rfl ?_
    refine xe_icmp_gt (tgt := 14) dX10_in_7 rfl (fun c2 => ?_) (fun c2 => ?_)
    · refine xe_iconst dX10_in_14 kc_0 ?_
      refine xe_ireturn dX10_in_15 rfl (by first | rfl | decide +kernel) ?_
      exact ⟨by simp only [q_in, *, if_true, if_false], rfl⟩
    · refine xe_iconst dX10_in_10 kc_1 ?_
      refine xe_goto (tgt := 15) dX10_in_11 rfl ?_
      refine xe_ireturn dX10_in_15 rfl (by first | rfl | decide +kernel) ?_
      exact ⟨by simp only [q_in, *, if_true, if_false], rfl⟩
/-- 0 or 1 -/
def q_bl (v : Int32) : Prop := v = nI 0 ∨ v = nI 1
theorem q_nar {v : Int32} (h : q_bl v) : narrow .boolean (.int v) = .int v := by
  rcases h with rfl | rfl <;> decide +kernel
theorem q_in_bl (v a b : Int32) : q_bl (q_in v a b) := by
  unfold q_in q_bl
  split
  · exact Or.inl rfl
  · split
    · exact Or.inl rfl
    · exact Or.inr rfl
def q_held (v : Int32) : Int32 := if 0 ≤ v then (if v ≤ nI 999 then v else nI 999) else nI 0
theorem c_X10_held (l : Launch) (g : q_GP) (h : q_H) (v : Int32) : q_Cd l g 0 mX10_held [.int v] h (some (.int (q_held v))) h := by
  refine q_CdS msX10_held (Nat.le_of_ble_eq_true rfl) ?_
  refine xe_iload_n dX10_held_0 rfl ?_
  refine xe_if_ge (tgt := 8) dX10_held_1 rfl (fun c1 => ?_) (fun c1 => ?_)
  · refine xe_iload_n dX10_held_8 rfl ?_
    refine xe_sipush dX10_held_9 ks_999 ?_
    refine xe_icmp_le (tgt := 21) dX10_held_12 rfl (fun c2 => ?_) (fun c2 => ?_)
    · refine xe_iload_n dX10_held_21 rfl ?_
      refine xe_ireturn dX10_held_22 rfl (by first | rfl | decide +kernel) ?_
      exact ⟨by simp only [q_held, *, if_true, if_false], rfl⟩
    · refine xe_sipush dX10_held_15 ks_999 ?_
      refine xe_goto (tgt := 22) dX10_held_18 rfl ?_
      refine xe_ireturn dX10_held_22 rfl (by first | rfl | decide +kernel) ?_
      exact ⟨by simp only [q_held, *, if_true, if_false], rfl⟩
  · refine xe_iconst dX10_held_4 kc_0 ?_
    refine xe_goto (tgt := 22) dX10_held_5 rfl ?_
    refine xe_ireturn dX10_held_22 rfl (by first | rfl | decide +kernel) ?_
    exact ⟨by simp only [q_held, *, if_true, if_false], rfl⟩
/-- the sum of eight of a row -/
def q_s8 (f : Nat → Int32) (b : Nat) : Int32 := q_sum (fun k => f (b + k)) 8
theorem c_X10_haveOf (l : Launch) (g : q_GP) (h : q_H) (hs : q_Stat h) (x : Nat) (hx : x < 9) : q_Cd l g 0 mX10_haveOf [.ref 124, .int (nI x)] h (some (.int (q_s8 (q_I h 155) (8 * x)))) h := by
  refine q_CdV mvX10_haveOf (Nat.le_of_ble_eq_true rfl) ?_
  refine xe_iconst dX10_haveOf_0 kc_0 ?_
  refine xe_istore_n (i := 2) dX10_haveOf_1 rfl (by decide) rfl ?_
  refine xe_iconst dX10_haveOf_2 kc_0 ?_
  refine xe_istore_n (i := 3) dX10_haveOf_3 rfl (by decide) rfl ?_
  refine xe_locals (L' := (fun i => [(0, .ref 124), (1, .int (nI x)), (2, .int (q_sum (fun k => q_I h 155 (8 * x + k)) i)), (3, .int (nI i))]) 0) (And.intro rfl (And.intro rfl (And.intro rfl (And.intro rfl trivial)))) ?_
  refine xe_for 8 (fun i => [(0, .ref 124), (1, .int (nI x)), (2, .int (q_sum (fun k => q_I h 155 (8 * x + k)) i)), (3, .int (nI i))]) (fun _ => h) (fun i hi K => ?_) ?_
  · refine xe_iload_n dX10_haveOf_4 rfl ?_
    refine xe_bipush dX10_haveOf_5 kb_8 ?_
    refine xn_icmp_ge (tgt := 30) dX10_haveOf_7 rfl (by omega) (by omega) (fun c1 => ?_) (fun c1 => ?_)
    · omega
    · refine xe_iload_n dX10_haveOf_10 rfl ?_
      refine xe_aload_n dX10_haveOf_11 rfl ?_
      refine xe_getP dX10_haveOf_12 flX10_110 (st124 hs) (by decide) rfl (sp124_48 hs) ?_
      refine xe_bipush dX10_haveOf_15 kb_8 ?_
      refine xe_iload_n dX10_haveOf_17 rfl ?_
      refine xn_imul dX10_haveOf_18 ?_
      refine xe_iload_n dX10_haveOf_19 rfl ?_
      refine xn_iadd dX10_haveOf_20 ?_
      refine xn_ialdf dX10_haveOf_21 (st155 hs) (by omega) (by decide) (f := q_I h 155) rfl ?_
      refine xe_iadd dX10_haveOf_22 ?_
      refine xe_istore_n (i := 2) dX10_haveOf_23 rfl (by decide) rfl ?_
      refine xn_iinc dX10_haveOf_24 rfl kc_1 ?_
      refine xe_goto (tgt := 4) dX10_haveOf_27 rfl ?_
      refine xe_locals (L' := (fun i => [(0, .ref 124), (1, .int (nI x)), (2, .int (q_sum (fun k => q_I h 155 (8 * x + k)) i)), (3, .int (nI i))]) (i + 1)) (And.intro rfl (And.intro rfl (And.intro rfl (And.intro rfl trivial)))) ?_
      exact K
  · refine xe_iload_n dX10_haveOf_4 rfl ?_
    refine xe_bipush dX10_haveOf_5 kb_8 ?_
    refine xn_icmp_ge (tgt := 30) dX10_haveOf_7 rfl (by omega) (by omega) (fun c2 => ?_) (fun c2 => ?_)
    · refine xe_iload_n dX10_haveOf_30 rfl ?_
      refine xe_ireturn dX10_haveOf_31 rfl (by first | rfl | decide +kernel) ?_
      exact ⟨rfl, rfl⟩
    · omega
theorem c_X10_timesOf (l : Launch) (g : q_GP) (h : q_H) (hs : q_Stat h) (x : Nat) (hx : x < 8) : q_Cd l g 0 mX10_timesOf [.ref 124, .int (nI x)] h (some (.int (q_s8 (q_I h 155) (136 + 8 * x)))) h := by
  refine q_CdV mvX10_timesOf (Nat.le_of_ble_eq_true rfl) ?_
  refine xe_iconst dX10_timesOf_0 kc_0 ?_
  refine xe_istore_n (i := 2) dX10_timesOf_1 rfl (by decide) rfl ?_
  refine xe_iconst dX10_timesOf_2 kc_0 ?_
  refine xe_istore_n (i := 3) dX10_timesOf_3 rfl (by decide) rfl ?_
  refine xe_locals (L' := (fun i => [(0, .ref 124), (1, .int (nI x)), (2, .int (q_sum (fun k => q_I h 155 (136 + 8 * x + k)) i)), (3, .int (nI i))]) 0) (And.intro rfl (And.intro rfl (And.intro rfl (And.intro rfl trivial)))) ?_
  refine xe_for 8 (fun i => [(0, .ref 124), (1, .int (nI x)), (2, .int (q_sum (fun k => q_I h 155 (136 + 8 * x + k)) i)), (3, .int (nI i))]) (fun _ => h) (fun i hi K => ?_) ?_
  · refine xe_iload_n dX10_timesOf_4 rfl ?_
    refine xe_bipush dX10_timesOf_5 kb_8 ?_
    refine xn_icmp_ge (tgt := 34) dX10_timesOf_7 rfl (by omega) (by omega) (fun c1 => ?_) (fun c1 => ?_)
    · omega
    · refine xe_iload_n dX10_timesOf_10 rfl ?_
      refine xe_aload_n dX10_timesOf_11 rfl ?_
      refine xe_getP dX10_timesOf_12 flX10_110 (st124 hs) (by decide) rfl (sp124_48 hs) ?_
      refine xe_sipush dX10_timesOf_15 ks_136 ?_
      refine xe_bipush dX10_timesOf_18 kb_8 ?_
      refine xe_iload_n dX10_timesOf_20 rfl ?_
      refine xn_imul dX10_timesOf_21 ?_
      refine xn_iadd dX10_timesOf_22 ?_
      refine xe_iload_n dX10_timesOf_23 rfl ?_
      refine xn_iadd dX10_timesOf_24 ?_
      refine xn_ialdf dX10_timesOf_25 (st155 hs) (by omega) (by decide) (f := q_I h 155) rfl ?_
      refine xe_iadd dX10_timesOf_26 ?_
      refine xe_istore_n (i := 2) dX10_timesOf_27 rfl (by decide) rfl ?_
      refine xn_iinc dX10_timesOf_28 rfl kc_1 ?_
      refine xe_goto (tgt := 4) dX10_timesOf_31 rfl ?_
      refine xe_locals (L' := (fun i => [(0, .ref 124), (1, .int (nI x)), (2, .int (q_sum (fun k => q_I h 155 (136 + 8 * x + k)) i)), (3, .int (nI i))]) (i + 1)) (And.intro rfl (And.intro rfl (And.intro rfl (And.intro rfl trivial)))) ?_
      exact K
  · refine xe_iload_n dX10_timesOf_4 rfl ?_
    refine xe_bipush dX10_timesOf_5 kb_8 ?_
    refine xn_icmp_ge (tgt := 34) dX10_timesOf_7 rfl (by omega) (by omega) (fun c2 => ?_) (fun c2 => ?_)
    · refine xe_iload_n dX10_timesOf_34 rfl ?_
      refine xe_ireturn dX10_timesOf_35 rfl (by first | rfl | decide +kernel) ?_
      exact ⟨rfl, rfl⟩
    · omega
theorem c_X10_copies (l : Launch) (g : q_GP) (h : q_H) (hs : q_Stat h) : q_Cd l g 0 mX10_copies [.ref 124] h none (q_wI h 155 (q_cpy (q_I h 154) (q_I h 155) 210)) := by
  refine q_CdV mvX10_copies (Nat.le_of_ble_eq_true rfl) ?_
  refine xe_iconst dX10_copies_0 kc_0 ?_
  refine xe_istore_n (i := 1) dX10_copies_1 rfl (by decide) rfl ?_
  refine xe_locals (L' := (fun i => [(0, .ref 124), (1, .int (nI i))]) 0) (And.intro rfl (And.intro rfl trivial)) ?_
  refine xe_heap (h2 := q_wI h 155 (q_cpy (q_I h 154) (q_I h 155) 0)) (by rw [q_cpy0, q_wsI]) ?_
  refine xe_for 210 (fun i => [(0, .ref 124), (1, .int (nI i))]) (fun i => q_wI h 155 (q_cpy (q_I h 154) (q_I h 155) i)) (fun i hi K => ?_) ?_
  · refine xe_iload_n dX10_copies_2 rfl ?_
    refine xe_sipush dX10_copies_3 ks_210 ?_
    refine xn_icmp_ge (tgt := 27) dX10_copies_6 rfl (by omega) (by omega) (fun c1 => ?_) (fun c1 => ?_)
    · omega
    · refine xe_aload_n dX10_copies_9 rfl ?_
      refine xe_getP dX10_copies_10 flX10_110 (st124 hs) (by decide) rfl (sp124_48 hs) ?_
      refine xe_iload_n dX10_copies_13 rfl ?_
      refine xe_aload_n dX10_copies_14 rfl ?_
      refine xe_getP dX10_copies_15 flX10_107 (st124 hs) (by decide) rfl (sp124_47 hs) ?_
      refine xe_iload_n dX10_copies_18 rfl ?_
      refine xn_ialdf dX10_copies_19 (st154 hs) (by omega) (by decide) (f := q_I h 154) rfl ?_
      refine xn_iast dX10_copies_20 (st155 hs) (by omega) (by decide) ?_
      refine xn_iinc dX10_copies_21 rfl kc_1 ?_
      refine xe_goto (tgt := 2) dX10_copies_24 rfl ?_
      refine xe_heap (h2 := q_wI h 155 (q_cpy (q_I h 154) (q_I h 155) (i + 1))) (by rw [q_wup, q_cpyS]) ?_
      refine xe_locals (L' := (fun i => [(0, .ref 124), (1, .int (nI i))]) (i + 1)) (And.intro rfl (And.intro rfl trivial)) ?_
      exact K
  · refine xe_iload_n dX10_copies_2 rfl ?_
    refine xe_sipush dX10_copies_3 ks_210 ?_
    refine xn_icmp_ge (tgt := 27) dX10_copies_6 rfl (by omega) (by omega) (fun c2 => ?_) (fun c2 => ?_)
    · refine xe_return dX10_copies_27 rfl ?_
      exact ⟨rfl, rfl⟩
    · omega
theorem c_X10_copiesAll (l : Launch) (g : q_GP) (h : q_H) (hs : q_Stat h) : q_Cd l g 0 mX10_copiesAll [.ref 124] h none (q_wI h 155 (q_cpy (q_I h 154) (q_I h 155) 1720)) := by
  refine q_CdV mvX10_copiesAll (Nat.le_of_ble_eq_true rfl) ?_
  refine xe_iconst dX10_copiesAll_0 kc_0 ?_
  refine xe_istore_n (i := 1) dX10_copiesAll_1 rfl (by decide) rfl ?_
  refine xe_locals (L' := (fun i => [(0, .ref 124), (1, .int (nI i))]) 0) (And.intro rfl (And.intro rfl trivial)) ?_
  refine xe_heap (h2 := q_wI h 155 (q_cpy (q_I h 154) (q_I h 155) 0)) (by rw [q_cpy0, q_wsI]) ?_
  refine xe_for 1720 (fun i => [(0, .ref 124), (1, .int (nI i))]) (fun i => q_wI h 155 (q_cpy (q_I h 154) (q_I h 155) i)) (fun i hi K => ?_) ?_
  · refine xe_iload_n dX10_copiesAll_2 rfl ?_
    refine xe_sipush dX10_copiesAll_3 ks_1720 ?_
    refine xn_icmp_ge (tgt := 27) dX10_copiesAll_6 rfl (by omega) (by omega) (fun c1 => ?_) (fun c1 => ?_)
    · omega
    · refine xe_aload_n dX10_copiesAll_9 rfl ?_
      refine xe_getP dX10_copiesAll_10 flX10_110 (st124 hs) (by decide) rfl (sp124_48 hs) ?_
      refine xe_iload_n dX10_copiesAll_13 rfl ?_
      refine xe_aload_n dX10_copiesAll_14 rfl ?_
      refine xe_getP dX10_copiesAll_15 flX10_107 (st124 hs) (by decide) rfl (sp124_47 hs) ?_
      refine xe_iload_n dX10_copiesAll_18 rfl ?_
      refine xn_ialdf dX10_copiesAll_19 (st154 hs) (by omega) (by decide) (f := q_I h 154) rfl ?_
      refine xn_iast dX10_copiesAll_20 (st155 hs) (by omega) (by decide) ?_
      refine xn_iinc dX10_copiesAll_21 rfl kc_1 ?_
      refine xe_goto (tgt := 2) dX10_copiesAll_24 rfl ?_
      refine xe_heap (h2 := q_wI h 155 (q_cpy (q_I h 154) (q_I h 155) (i + 1))) (by rw [q_wup, q_cpyS]) ?_
      refine xe_locals (L' := (fun i => [(0, .ref 124), (1, .int (nI i))]) (i + 1)) (And.intro rfl (And.intro rfl trivial)) ?_
      exact K
  · refine xe_iload_n dX10_copiesAll_2 rfl ?_
    refine xe_sipush dX10_copiesAll_3 ks_1720 ?_
    refine xn_icmp_ge (tgt := 27) dX10_copiesAll_6 rfl (by omega) (by omega) (fun c2 => ?_) (fun c2 => ?_)
    · refine xe_return dX10_copiesAll_27 rfl ?_
      exact ⟨rfl, rfl⟩
    · omega
/-- the program that the reference goes by: which half, men, deeds, colds, moult -/
def rm_P (h : q_H) (lv nm nd nc mo : Nat) : Prop := q_I h 124 18 = nI lv ∧ lv < 2 ∧ q_I h 135 lv = nI nm ∧ nm ≤ 8 ∧ q_I h 137 lv = nI nd ∧ nd ≤ 8 ∧ q_I h 139 lv = nI nc ∧ nc ≤ 12 ∧ q_I h 141 lv = nI mo ∧ mo ≤ 99
/-- a number of a man, of a deed -/
def q_ltn (x : Int32) (n : Nat) : Int32 := q_in x (nI 0) (nI n - nI 1)
theorem c_X10_isMan (l : Launch) (g : q_GP) (h : q_H) (hs : q_Stat h) {lv nm nd nc mo : Nat} (hp : rm_P h lv nm nd nc mo) (x : Int32) : q_Cd l g 1 mX10_isMan [.ref 124, .int x] h (some (.int (q_ltn x nm))) h := by
  obtain ⟨p1, p2, p3, p4, p5, p6, p7, p8, p9, p10⟩ := id hp
  refine q_CdV mvX10_isMan (Nat.le_of_ble_eq_true rfl) ?_
  refine xe_iload_n dX10_isMan_0 rfl ?_
  refine xe_iconst dX10_isMan_1 kc_0 ?_
  refine xe_aload_n dX10_isMan_2 rfl ?_
  refine xe_getP dX10_isMan_3 flX10_49 (st124 hs) (by decide) rfl (sp124_24 hs) ?_
  refine xe_aload_n dX10_isMan_6 rfl ?_
  refine xe_getIv dX10_isMan_7 flX10_228 (st124 hs) (by decide) rfl (v := nI lv) (p1) ?_
  refine xn_ialdv dX10_isMan_10 (st135 hs) (by omega) (by decide) (v := nI nm) (p3) ?_
  refine xe_iconst dX10_isMan_11 kc_1 ?_
  refine xe_isub dX10_isMan_12 ?_
  refine xe_callSI (d' := 0) (y' := mX10_in) dX10_isMan_13 mlX10_312 msX10_in rfl (by decide) (by decide) (Nat.le_of_ble_eq_true rfl) (c_X10_in l g _ _ _ _) rfl ?_
  refine xe_ireturn dX10_isMan_16 rfl (q_nar (q_in_bl _ _ _)) ?_
  exact ⟨rfl, rfl⟩
theorem c_X10_isDeed (l : Launch) (g : q_GP) (h : q_H) (hs : q_Stat h) {lv nm nd nc mo : Nat} (hp : rm_P h lv nm nd nc mo) (x : Int32) : q_Cd l g 1 mX10_isDeed [.ref 124, .int x] h (some (.int (q_ltn x nd))) h := by
  obtain ⟨p1, p2, p3, p4, p5, p6, p7, p8, p9, p10⟩ := id hp
  refine q_CdV mvX10_isDeed (Nat.le_of_ble_eq_true rfl) ?_
  refine xe_iload_n dX10_isDeed_0 rfl ?_
  refine xe_iconst dX10_isDeed_1 kc_0 ?_
  refine xe_aload_n dX10_isDeed_2 rfl ?_
  refine xe_getP dX10_isDeed_3 flX10_55 (st124 hs) (by decide) rfl (sp124_26 hs) ?_
  refine xe_aload_n dX10_isDeed_6 rfl ?_
  refine xe_getIv dX10_isDeed_7 flX10_228 (st124 hs) (by decide) rfl (v := nI lv) (p1) ?_
  refine xn_ialdv dX10_isDeed_10 (st137 hs) (by omega) (by decide) (v := nI nd) (p5) ?_
  refine xe_iconst dX10_isDeed_11 kc_1 ?_
  refine xe_isub dX10_isDeed_12 ?_
  refine xe_callSI (d' := 0) (y' := mX10_in) dX10_isDeed_13 mlX10_312 msX10_in rfl (by decide) (by decide) (Nat.le_of_ble_eq_true rfl) (c_X10_in l g _ _ _ _) rfl ?_
  refine xe_ireturn dX10_isDeed_16 rfl (q_nar (q_in_bl _ _ _)) ?_
  exact ⟨rfl, rfl⟩
/-- cold of a week -/
def q_wind (C : Nat → Int32) (b nc w : Nat) : Int32 := if nc = 0 then nI 0 else C (b + w % nc)
theorem c_X10_windOn (l : Launch) (g : q_GP) (h : q_H) (hs : q_Stat h) {lv nm nd nc mo : Nat} (hp : rm_P h lv nm nd nc mo) (w : Nat) (hw : w < 2 ^ 20) : q_Cd l g 0 mX10_windOn [.ref 124, .int (nI w)] h (some (.int (q_wind (q_I h 140) (12 * lv) nc w))) h := by
  obtain ⟨p1, p2, p3, p4, p5, p6, p7, p8, p9, p10⟩ := id hp
  refine q_CdV mvX10_windOn (Nat.le_of_ble_eq_true rfl) ?_
  refine xe_aload_n dX10_windOn_0 rfl ?_
  refine xe_getP dX10_windOn_1 flX10_61 (st124 hs) (by decide) rfl (sp124_28 hs) ?_
  refine xe_aload_n dX10_windOn_4 rfl ?_
  refine xe_getIv dX10_windOn_5 flX10_228 (st124 hs) (by decide) rfl (v := nI lv) (p1) ?_
  refine xn_ialdv dX10_windOn_8 (st139 hs) (by omega) (by decide) (v := nI nc) (p7) ?_
  refine xn_if_ne (tgt := 16) dX10_windOn_9 rfl (by omega) (fun c1 => ?_) (fun c1 => ?_)
  · have c9 : w % nc < nc := Nat.mod_lt _ (by omega)
    refine xe_aload_n dX10_windOn_16 rfl ?_
    refine xe_getP dX10_windOn_17 flX10_64 (st124 hs) (by decide) rfl (sp124_29 hs) ?_
    refine xe_bipush dX10_windOn_20 kb_12 ?_
    refine xe_aload_n dX10_windOn_22 rfl ?_
    refine xe_getIv dX10_windOn_23 flX10_228 (st124 hs) (by decide) rfl (v := nI lv) (p1) ?_
    refine xn_imul dX10_windOn_26 ?_
    refine xe_iload_n dX10_windOn_27 rfl ?_
    refine xe_aload_n dX10_windOn_28 rfl ?_
    refine xe_getP dX10_windOn_29 flX10_61 (st124 hs) (by decide) rfl (sp124_28 hs) ?_
    refine xe_aload_n dX10_windOn_32 rfl ?_
    refine xe_getIv dX10_windOn_33 flX10_228 (st124 hs) (by decide) rfl (v := nI lv) (p1) ?_
    refine xn_ialdv dX10_windOn_36 (st139 hs) (by omega) (by decide) (v := nI nc) (p7) ?_
    refine xn_irem dX10_windOn_37 (by omega) (by omega) (by omega) ?_
    refine xn_iadd dX10_windOn_38 ?_
    refine xn_ialdf dX10_windOn_39 (st140 hs) (by omega) (by decide) (f := q_I h 140) rfl ?_
    refine xe_ireturn dX10_windOn_40 rfl (by first | rfl | decide +kernel) ?_
    exact ⟨by simp only [q_wind, *, if_true, if_false], rfl⟩
  · have c9 : nc = 0 := by omega
    refine xe_iconst dX10_windOn_12 kc_0 ?_
    refine xe_goto (tgt := 40) dX10_windOn_13 rfl ?_
    refine xe_ireturn dX10_windOn_40 rfl (by first | rfl | decide +kernel) ?_
    exact ⟨by simp only [q_wind, *, if_true, if_false], rfl⟩
/-- what a law sees, by its places -/
def q_v6 (f : Nat → Int32) (a b c d e k : Int32) : Nat → Int32 := upd (upd (upd (upd (upd (upd f 0 a) 1 b) 2 c) 3 d) 4 e) 5 k
theorem c_X10_setsOf (l : Launch) (g : q_GP) (h : q_H) (hs : q_Stat h) {lv nm nd nc mo : Nat} (hp : rm_P h lv nm nd nc mo) {w : Nat} (hw : q_I h 155 200 = nI w) (hw2 : w < 2 ^ 20) (a b c : Int32) : q_Cd l g 1 mX10_setsOf [.ref 124, .int a, .int b, .int c] h none (q_wI h 152 (q_v6 (q_I h 152) b c (nI w) (q_wind (q_I h 140) (12 * lv) nc w) (q_s8 (q_I h 155) 64) a)) := by
  obtain ⟨p1, p2, p3, p4, p5, p6, p7, p8, p9, p10⟩ := id hp
  refine q_CdV mvX10_setsOf (Nat.le_of_ble_eq_true rfl) ?_
  refine xe_aload_n dX10_setsOf_0 rfl ?_
  refine xe_getP dX10_setsOf_1 flX10_101 (st124 hs) (by decide) rfl (sp124_44 hs) ?_
  refine xe_iconst dX10_setsOf_4 kc_0 ?_
  refine xe_iload_n dX10_setsOf_5 rfl ?_
  refine xn_iast dX10_setsOf_6 (st152 hs) (by omega) (by decide) ?_
  refine xe_aload_n dX10_setsOf_7 rfl ?_
  refine xe_getP dX10_setsOf_8 flX10_101 (st124 hs) (by decide) rfl (sp124_44 hs) ?_
  refine xe_iconst dX10_setsOf_11 kc_1 ?_
  refine xe_iload_n dX10_setsOf_12 rfl ?_
  refine xn_iast dX10_setsOf_13 (st152 hs) (by omega) (by decide) ?_
  refine xe_aload_n dX10_setsOf_14 rfl ?_
  refine xe_getP dX10_setsOf_15 flX10_101 (st124 hs) (by decide) rfl (sp124_44 hs) ?_
  refine xe_iconst dX10_setsOf_18 kc_2 ?_
  refine xe_aload_n dX10_setsOf_19 rfl ?_
  refine xe_getP dX10_setsOf_20 flX10_110 (st124 hs) (by decide) rfl (sp124_48 hs) ?_
  refine xe_sipush dX10_setsOf_23 ks_200 ?_
  refine xn_ialdv dX10_setsOf_26 (st155 hs) (by omega) (by decide) (v := nI w) (hw) ?_
  refine xn_iast dX10_setsOf_27 (st152 hs) (by omega) (by decide) ?_
  refine xe_aload_n dX10_setsOf_28 rfl ?_
  refine xe_getP dX10_setsOf_29 flX10_101 (st124 hs) (by decide) rfl (sp124_44 hs) ?_
  refine xe_iconst dX10_setsOf_32 kc_3 ?_
  refine xe_aload_n dX10_setsOf_33 rfl ?_
  refine xe_aload_n dX10_setsOf_34 rfl ?_
  refine xe_getP dX10_setsOf_35 flX10_110 (st124 hs) (by decide) rfl (sp124_48 hs) ?_
  refine xe_sipush dX10_setsOf_38 ks_200 ?_
  refine xn_ialdv dX10_setsOf_41 (st155 hs) (by omega) (by decide) (v := nI w) (hw) ?_
  refine xe_callVI (d' := 0) (y' := mX10_windOn) dX10_setsOf_42 mlX10_316 mvX10_windOn rfl (st124 hs) (by decide) rfl (by decide) (by decide) (Nat.le_of_ble_eq_true rfl) (c_X10_windOn l g _ (by exact hs) (by exact hp) _ (by omega)) rfl ?_
  refine xn_iast dX10_setsOf_45 (st152 hs) (by omega) (by decide) ?_
  refine xe_aload_n dX10_setsOf_46 rfl ?_
  refine xe_getP dX10_setsOf_47 flX10_101 (st124 hs) (by decide) rfl (sp124_44 hs) ?_
  refine xe_iconst dX10_setsOf_50 kc_4 ?_
  refine xe_aload_n dX10_setsOf_51 rfl ?_
  refine xe_bipush dX10_setsOf_52 kb_8 ?_
  refine xe_callVI (d' := 0) (y' := mX10_haveOf) dX10_setsOf_54 mlX10_319 mvX10_haveOf rfl (st124 hs) (by decide) rfl (by decide) (by decide) (Nat.le_of_ble_eq_true rfl) (c_X10_haveOf l g _ (by exact hs) _ (by omega)) rfl ?_
  refine xn_iast dX10_setsOf_57 (st152 hs) (by omega) (by decide) ?_
  refine xe_aload_n dX10_setsOf_58 rfl ?_
  refine xe_getP dX10_setsOf_59 flX10_101 (st124 hs) (by decide) rfl (sp124_44 hs) ?_
  refine xe_iconst dX10_setsOf_62 kc_5 ?_
  refine xe_iload_n dX10_setsOf_63 rfl ?_
  refine xn_iast dX10_setsOf_64 (st152 hs) (by omega) (by decide) ?_
  refine xe_return dX10_setsOf_65 rfl ?_
  exact ⟨rfl, by simp only [q_wup, q_wwI, q_Iw]; rfl⟩
theorem c_X10_netOf (l : Launch) (g : q_GP) (h : q_H) (hs : q_Stat h) (x : Nat) (hx : x < 8) : q_Cd l g 0 mX10_netOf [.ref 124, .int (nI x)] h (some (.int (q_sum (fun k => q_I h 154 (72 + 8 * k + x) - q_I h 154 (72 + 8 * x + k)) 8))) h := by
  refine q_CdV mvX10_netOf (Nat.le_of_ble_eq_true rfl) ?_
  refine xe_iconst dX10_netOf_0 kc_0 ?_
  refine xe_istore_n (i := 2) dX10_netOf_1 rfl (by decide) rfl ?_
  refine xe_iconst dX10_netOf_2 kc_0 ?_
  refine xe_istore_n (i := 3) dX10_netOf_3 rfl (by decide) rfl ?_
  refine xe_locals (L' := (fun i => [(0, .ref 124), (1, .int (nI x)), (2, .int (q_sum (fun k => q_I h 154 (72 + 8 * k + x) - q_I h 154 (72 + 8 * x + k)) i)), (3, .int (nI i))]) 0) (And.intro rfl (And.intro rfl (And.intro rfl (And.intro rfl trivial)))) ?_
  refine xe_for 8 (fun i => [(0, .ref 124), (1, .int (nI x)), (2, .int (q_sum (fun k => q_I h 154 (72 + 8 * k + x) - q_I h 154 (72 + 8 * x + k)) i)), (3, .int (nI i))]) (fun _ => h) (fun i hi K => ?_) ?_
  · refine xe_iload_n dX10_netOf_4 rfl ?_
    refine xe_bipush dX10_netOf_5 kb_8 ?_
    refine xn_icmp_ge (tgt := 48) dX10_netOf_7 rfl (by omega) (by omega) (fun c1 => ?_) (fun c1 => ?_)
    · omega
    · refine xe_iload_n dX10_netOf_10 rfl ?_
      refine xe_aload_n dX10_netOf_11 rfl ?_
      refine xe_getP dX10_netOf_12 flX10_107 (st124 hs) (by decide) rfl (sp124_47 hs) ?_
      refine xe_bipush dX10_netOf_15 kb_72 ?_
      refine xe_bipush dX10_netOf_17 kb_8 ?_
      refine xe_iload_n dX10_netOf_19 rfl ?_
      refine xn_imul dX10_netOf_20 ?_
      refine xn_iadd dX10_netOf_21 ?_
      refine xe_iload_n dX10_netOf_22 rfl ?_
      refine xn_iadd dX10_netOf_23 ?_
      refine xn_ialdf dX10_netOf_24 (st154 hs) (by omega) (by decide) (f := q_I h 154) rfl ?_
      refine xe_aload_n dX10_netOf_25 rfl ?_
      refine xe_getP dX10_netOf_26 flX10_107 (st124 hs) (by decide) rfl (sp124_47 hs) ?_
      refine xe_bipush dX10_netOf_29 kb_72 ?_
      refine xe_bipush dX10_netOf_31 kb_8 ?_
      refine xe_iload_n dX10_netOf_33 rfl ?_
      refine xn_imul dX10_netOf_34 ?_
      refine xn_iadd dX10_netOf_35 ?_
      refine xe_iload_n dX10_netOf_36 rfl ?_
      refine xn_iadd dX10_netOf_37 ?_
      refine xn_ialdf dX10_netOf_38 (st154 hs) (by omega) (by decide) (f := q_I h 154) rfl ?_
      refine xe_isub dX10_netOf_39 ?_
      refine xe_iadd dX10_netOf_40 ?_
      refine xe_istore_n (i := 2) dX10_netOf_41 rfl (by decide) rfl ?_
      refine xn_iinc dX10_netOf_42 rfl kc_1 ?_
      refine xe_goto (tgt := 4) dX10_netOf_45 rfl ?_
      refine xe_locals (L' := (fun i => [(0, .ref 124), (1, .int (nI x)), (2, .int (q_sum (fun k => q_I h 154 (72 + 8 * k + x) - q_I h 154 (72 + 8 * x + k)) i)), (3, .int (nI i))]) (i + 1)) (And.intro rfl (And.intro rfl (And.intro rfl (And.intro rfl trivial)))) ?_
      exact K
  · refine xe_iload_n dX10_netOf_4 rfl ?_
    refine xe_bipush dX10_netOf_5 kb_8 ?_
    refine xn_icmp_ge (tgt := 48) dX10_netOf_7 rfl (by omega) (by omega) (fun c2 => ?_) (fun c2 => ?_)
    · refine xe_iload_n dX10_netOf_48 rfl ?_
      refine xe_ireturn dX10_netOf_49 rfl (by first | rfl | decide +kernel) ?_
      exact ⟨rfl, rfl⟩
    · omega
