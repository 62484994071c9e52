/-! the reference: votes -/
/-- what voter m's law tells of man o, of whose goose H has the feathers -/
def q_vv (R C H : Nat → Int32) (LW : q_LW) (lv nc w m o : Nat) : Int32 := q_tel (q_see R C lv nc w o (H o) (q_s8 R (136 + 8 * o))) (LW (8 + m)) (H o)
/-- whom he votes for, of the first n, and what that one is worth to him -/
def q_vb (f : Nat → Int32) : Nat → Nat × Int32
  | 0 => (0, nI 0)
  | i + 1 => if i ≠ 0 ∧ f i ≤ (q_vb f i).2 then q_vb f i else (i, f i)
theorem q_vb_lt (f : Nat → Int32) : ∀ n, (q_vb f n).1 < n + 1
  | 0 => Nat.zero_lt_one
  | n + 1 => by
    unfold q_vb
    have := q_vb_lt f n
    split
    · omega
    · show n < n + 1 + 1
      omega
theorem q_vb_lt2 (f : Nat → Int32) : ∀ n, 0 < n → (q_vb f n).1 < n
  | 1, _ => by
    unfold q_vb
    rw [if_neg (by simp)]
    exact Nat.zero_lt_one
  | n + 2, _ => by
    have := q_vb_lt2 f (n + 1) (by omega)
    rw [q_vb]
    split
    · omega
    · show n + 1 < n + 2
      omega
set_option maxHeartbeats 4000000 in
theorem c_X10_voteOf (l : Launch) (g : q_GP) (h : q_H) (hs : q_Stat h) {lv nm nd nc mo : Nat} (hp : rm_P h lv nm nd nc mo) {LW : q_LW} (hL : rm_L h lv LW) {w : Nat} (hw : q_I h 155 200 = nI w) (hw2 : w < 2 ^ 20) (m : Nat) (hm : m < 8) : q_Ct l g 2 mX10_voteOf [.ref 124, .int (nI m)] h (fun r h1 => r = some (.int (nI (q_vb (q_vv (q_I h 155) (q_I h 140) (q_I h 156) LW lv nc w m) nm).1)) ∧ ∃ V p b, h1 = q_s3 h V p b) := by
  obtain ⟨p1, p2, p3, p4, p5, p6, p7, p8, p9, p10⟩ := id hp
  refine q_CtV mvX10_voteOf (Nat.le_of_ble_eq_true rfl) ?_
  refine xe_iconst dX10_voteOf_0 kc_0 ?_
  refine xe_istore_n (i := 2) dX10_voteOf_1 rfl (by decide) rfl ?_
  refine xe_iconst dX10_voteOf_2 kc_0 ?_
  refine xe_istore_n (i := 3) dX10_voteOf_3 rfl (by decide) rfl ?_
  refine xe_iconst dX10_voteOf_4 kc_0 ?_
  refine xe_istore dX10_voteOf_5 (by decide) rfl ?_
  refine xe_locals (L' := (fun i => [(0, .ref 124), (1, .int (nI m)), (2, .int (nI (q_vb (q_vv (q_I h 155) (q_I h 140) (q_I h 156) LW lv nc w m) i).1)), (3, .int (q_vb (q_vv (q_I h 155) (q_I h 140) (q_I h 156) LW lv nc w m) i).2), (4, .int (nI i))]) 0) (And.intro rfl (And.intro rfl (And.intro rfl (And.intro rfl (And.intro rfl trivial))))) ?_
  refine xe_heap (h2 := q_h3 h (q_I h 152, q_I h 153, q_I h 124 46)) (q_h3_0 h).symm ?_
  refine xe_forE nm (fun i => [(0, .ref 124), (1, .int (nI m)), (2, .int (nI (q_vb (q_vv (q_I h 155) (q_I h 140) (q_I h 156) LW lv nc w m) i).1)), (3, .int (q_vb (q_vv (q_I h 155) (q_I h 140) (q_I h 156) LW lv nc w m) i).2), (4, .int (nI i))]) (fun i s => q_h3 h s) (fun i s hi K => ?_) (fun s => ?_) _
  · refine xe_iload dX10_voteOf_7 rfl ?_
    refine xe_aload_n dX10_voteOf_9 rfl ?_
    refine xe_getP dX10_voteOf_10 flX10_49 (st124 hs) (by decide) rfl (sp124_24 hs) ?_
    refine xe_aload_n dX10_voteOf_13 rfl ?_
    refine xe_getIv dX10_voteOf_14 flX10_228 (st124 hs) (by decide) rfl (v := nI lv) (p1) ?_
    refine xn_ialdv dX10_voteOf_17 (st135 hs) (by omega) (by decide) (v := nI nm) (p3) ?_
    refine xn_icmp_ge (tgt := 83) dX10_voteOf_18 rfl (by omega) (by omega) (fun c1 => ?_) (fun c1 => ?_)
    · omega
    · refine xe_aload_n dX10_voteOf_21 rfl ?_
      refine xe_iload dX10_voteOf_22 rfl ?_
      refine xe_aload_n dX10_voteOf_24 rfl ?_
      refine xe_getP dX10_voteOf_25 flX10_113 (st124 hs) (by decide) rfl (sp124_49 hs) ?_
      refine xe_iload dX10_voteOf_28 rfl ?_
      refine xn_ialdf dX10_voteOf_30 (st156 hs) (by omega) (by decide) (f := q_I h 156) rfl ?_
      refine xe_aload_n dX10_voteOf_31 rfl ?_
      refine xe_iload dX10_voteOf_32 rfl ?_
      refine xe_callVI (d' := 0) (y' := mX10_timesOf) dX10_voteOf_34 mlX10_334 mvX10_timesOf rfl (st124 hs) (by decide) rfl (by decide) (by decide) (Nat.le_of_ble_eq_true rfl) (c_X10_timesOf l g _ (by exact hs) _ (by omega)) rfl ?_
      refine xe_callVV (d' := 1) (y' := mX10_setsOf) dX10_voteOf_37 mlX10_325 mvX10_setsOf rfl (st124 hs) (by decide) rfl (by decide) (by decide) (Nat.le_of_ble_eq_true rfl) (c_X10_setsOf l g _ (by exact hs) (by exact hp) (by exact hw) (by omega) _ _ _) rfl ?_
      refine xe_aload_n dX10_voteOf_40 rfl ?_
      refine xe_bipush dX10_voteOf_41 kb_8 ?_
      refine xe_iload_n dX10_voteOf_43 rfl ?_
      refine xn_iadd dX10_voteOf_44 ?_
      refine xe_aload_n dX10_voteOf_45 rfl ?_
      refine xe_getP dX10_voteOf_46 flX10_113 (st124 hs) (by decide) rfl (sp124_49 hs) ?_
      refine xe_iload dX10_voteOf_49 rfl ?_
      refine xn_ialdf dX10_voteOf_51 (st156 hs) (by omega) (by decide) (f := q_I h 156) rfl ?_
      refine xe_callVIq (d' := 1) (y' := mX10_tells) dX10_voteOf_52 mlX10_328 mvX10_tells rfl (st124 hs) (by decide) rfl (by decide) (by decide) (Nat.le_of_ble_eq_true rfl) (c_X10_tellsq l g _ (by exact hs) (by exact hp) (by exact rm_L_of (h := h) ⟨rfl, rfl, rfl, rfl, rfl, rfl, rfl, rfl, rfl⟩ hL) _ (by omega) _) rfl (fun h1 hq => ?_)
      obtain ⟨p1, b1, rfl⟩ := hq
      refine xe_top (v' := q_vv (q_I h 155) (q_I h 140) (q_I h 156) LW lv nc w m i) (q_see_tel (hL (8 + m) (by omega)) _ (q_I h 155) (q_I h 140) _ _ _) ?_
      refine xe_istore dX10_voteOf_55 (by decide) rfl ?_
      refine xe_iload dX10_voteOf_57 rfl ?_
      refine xn_if_le (tgt := 71) dX10_voteOf_59 rfl (by omega) (fun c2 => ?_) (fun c2 => ?_)
      · refine xe_iload dX10_voteOf_71 rfl ?_
        refine xe_istore_n (i := 2) dX10_voteOf_73 rfl (by decide) rfl ?_
        refine xe_iload dX10_voteOf_74 rfl ?_
        refine xe_istore_n (i := 3) dX10_voteOf_76 rfl (by decide) rfl ?_
        refine xn_iinc dX10_voteOf_77 rfl kc_1 ?_
        refine xe_goto (tgt := 7) dX10_voteOf_80 rfl ?_
        have e : q_vb (q_vv (q_I h 155) (q_I h 140) (q_I h 156) LW lv nc w m) (i + 1) = (i, q_vv (q_I h 155) (q_I h 140) (q_I h 156) LW lv nc w m i) := by
          rw [q_vb]
          rw [if_neg (by omega)]
        refine xe_locals (L' := (fun i => [(0, .ref 124), (1, .int (nI m)), (2, .int (nI (q_vb (q_vv (q_I h 155) (q_I h 140) (q_I h 156) LW lv nc w m) i).1)), (3, .int (q_vb (q_vv (q_I h 155) (q_I h 140) (q_I h 156) LW lv nc w m) i).2), (4, .int (nI i))]) (i + 1)) (And.intro rfl (And.intro rfl (And.intro (by rw [e]; rfl) (And.intro (by rw [e]; rfl) (And.intro rfl trivial))))) ?_
        refine xe_heap (q_s3_s3 h s.1 _ s.2.1 p1 s.2.2 b1) ?_
        exact K (_, p1, b1)
      · have c_a := c2
        refine xe_iload dX10_voteOf_62 rfl ?_
        refine xe_iload_n dX10_voteOf_64 rfl ?_
        refine xe_icmp_gt (tgt := 71) dX10_voteOf_65 rfl (fun c3 => ?_) (fun c3 => ?_)
        · have c_b := c3
          refine xe_iload dX10_voteOf_71 rfl ?_
          refine xe_istore_n (i := 2) dX10_voteOf_73 rfl (by decide) rfl ?_
          refine xe_iload dX10_voteOf_74 rfl ?_
          refine xe_istore_n (i := 3) dX10_voteOf_76 rfl (by decide) rfl ?_
          refine xn_iinc dX10_voteOf_77 rfl kc_1 ?_
          refine xe_goto (tgt := 7) dX10_voteOf_80 rfl ?_
          have e : q_vb (q_vv (q_I h 155) (q_I h 140) (q_I h 156) LW lv nc w m) (i + 1) = (i, q_vv (q_I h 155) (q_I h 140) (q_I h 156) LW lv nc w m i) := by
            rw [q_vb]
            rw [if_neg (by intro q; exact absurd q.2 (Int32.not_le.mpr c_b))]
          refine xe_locals (L' := (fun i => [(0, .ref 124), (1, .int (nI m)), (2, .int (nI (q_vb (q_vv (q_I h 155) (q_I h 140) (q_I h 156) LW lv nc w m) i).1)), (3, .int (q_vb (q_vv (q_I h 155) (q_I h 140) (q_I h 156) LW lv nc w m) i).2), (4, .int (nI i))]) (i + 1)) (And.intro rfl (And.intro rfl (And.intro (by rw [e]; rfl) (And.intro (by rw [e]; rfl) (And.intro rfl trivial))))) ?_
          refine xe_heap (q_s3_s3 h s.1 _ s.2.1 p1 s.2.2 b1) ?_
          exact K (_, p1, b1)
        · have c_b := c3
          refine xe_goto (tgt := 77) dX10_voteOf_68 rfl ?_
          refine xn_iinc dX10_voteOf_77 rfl kc_1 ?_
          refine xe_goto (tgt := 7) dX10_voteOf_80 rfl ?_
          have e : q_vb (q_vv (q_I h 155) (q_I h 140) (q_I h 156) LW lv nc w m) (i + 1) = q_vb (q_vv (q_I h 155) (q_I h 140) (q_I h 156) LW lv nc w m) i := by
            rw [q_vb]
            rw [if_pos ⟨c_a, Int32.not_lt.mp c_b⟩]
          refine xe_locals (L' := (fun i => [(0, .ref 124), (1, .int (nI m)), (2, .int (nI (q_vb (q_vv (q_I h 155) (q_I h 140) (q_I h 156) LW lv nc w m) i).1)), (3, .int (q_vb (q_vv (q_I h 155) (q_I h 140) (q_I h 156) LW lv nc w m) i).2), (4, .int (nI i))]) (i + 1)) (And.intro rfl (And.intro rfl (And.intro (by rw [e]; rfl) (And.intro (by rw [e]; rfl) (And.intro rfl trivial))))) ?_
          refine xe_heap (q_s3_s3 h s.1 _ s.2.1 p1 s.2.2 b1) ?_
          exact K (_, p1, b1)
  · refine xe_iload dX10_voteOf_7 rfl ?_
    refine xe_aload_n dX10_voteOf_9 rfl ?_
    refine xe_getP dX10_voteOf_10 flX10_49 (st124 hs) (by decide) rfl (sp124_24 hs) ?_
    refine xe_aload_n dX10_voteOf_13 rfl ?_
    refine xe_getIv dX10_voteOf_14 flX10_228 (st124 hs) (by decide) rfl (v := nI lv) (p1) ?_
    refine xn_ialdv dX10_voteOf_17 (st135 hs) (by omega) (by decide) (v := nI nm) (p3) ?_
    refine xn_icmp_ge (tgt := 83) dX10_voteOf_18 rfl (by omega) (by omega) (fun c1 => ?_) (fun c1 => ?_)
    · refine xe_iload_n dX10_voteOf_83 rfl ?_
      refine xe_ireturn dX10_voteOf_84 rfl (by first | rfl | decide +kernel) ?_
      exact ⟨rfl, _, _, _, rfl⟩
    · omega
/-- the votes behind the first n voters -/
def q_vt (f : Nat → Nat) (V : Nat → Int32) : Nat → Nat → Int32
  | 0 => V
  | i + 1 => upd (q_vt f V i) (f i) (q_vt f V i (f i) + nI 1)
/-- who has most of the first n + 1, of alike ones the one with less, then the first -/
def q_el (V H : Nat → Int32) : Nat → Nat
  | 0 => 0
  | i + 1 => if V (q_el V H i) < V (i + 1) ∨ (V (i + 1) = V (q_el V H i) ∧ H (i + 1) < H (q_el V H i)) then i + 1 else q_el V H i
theorem q_el_lt (V H : Nat → Int32) : ∀ n, q_el V H n < n + 1
  | 0 => Nat.zero_lt_one
  | n + 1 => by
    have := q_el_lt V H n
    rw [q_el]
    split <;> omega
theorem q_s3_row7 (h : q_H) (R R' V p V' p' : Nat → Int32) (b b' : Int32) : q_wI (q_s3 (q_s3 (q_wI h 157 R) V p b) V' p' b') 157 R' = q_s3 (q_wI h 157 R') V' p' b' := by
  rw [q_s3_s3, q_s3_R _ _ _ _ _ (by decide) (by decide) (by decide), q_wwI]
set_option maxHeartbeats 4000000 in
theorem c_X10_electedNow (l : Launch) (g : q_GP) (h : q_H) (hs : q_Stat h) {lv nm nd nc mo : Nat} (hp : rm_P h lv nm nd nc mo) {LW : q_LW} (hL : rm_L h lv LW) {w : Nat} (hw : q_I h 155 200 = nI w) (hw2 : w < 2 ^ 20) : q_Ct l g 3 mX10_electedNow [.ref 124] h (fun r h1 => r = some (.int (nI (q_el (q_vt (fun m => (q_vb (q_vv (q_I h 155) (q_I h 140) (q_I h 156) LW lv nc w m) nm).1) (q_fil (fun _ => nI 0) (q_I h 157) 8) nm) (q_I h 156) (nm - 1)))) ∧ ∃ V p b, h1 = q_s3 (q_wI h 157 (q_vt (fun m => (q_vb (q_vv (q_I h 155) (q_I h 140) (q_I h 156) LW lv nc w m) nm).1) (q_fil (fun _ => nI 0) (q_I h 157) 8) nm)) V p b) := by
  obtain ⟨p1, p2, p3, p4, p5, p6, p7, p8, p9, p10⟩ := id hp
  refine q_CtV mvX10_electedNow (Nat.le_of_ble_eq_true rfl) ?_
  refine xe_iconst dX10_electedNow_0 kc_0 ?_
  refine xe_istore_n (i := 1) dX10_electedNow_1 rfl (by decide) rfl ?_
  refine xe_locals (L' := (fun i => [(0, .ref 124), (1, .int (nI i))]) 0) (And.intro rfl (And.intro rfl trivial)) ?_
  refine xe_heap (h2 := q_wI h 157 (q_fil (fun _ => nI 0) (q_I h 157) 0)) (by rw [q_fil0, q_wsI]) ?_
  refine xe_for 8 (fun i => [(0, .ref 124), (1, .int (nI i))]) (fun i => q_wI h 157 (q_fil (fun _ => nI 0) (q_I h 157) i)) (fun i hi K => ?_) ?_
  · refine xe_iload_n dX10_electedNow_2 rfl ?_
    refine xe_bipush dX10_electedNow_3 kb_8 ?_
    refine xn_icmp_ge (tgt := 21) dX10_electedNow_5 rfl (by omega) (by omega) (fun c1 => ?_) (fun c1 => ?_)
    · omega
    · refine xe_aload_n dX10_electedNow_8 rfl ?_
      refine xe_getP dX10_electedNow_9 flX10_116 (st124 hs) (by decide) rfl (sp124_50 hs) ?_
      refine xe_iload_n dX10_electedNow_12 rfl ?_
      refine xe_iconst dX10_electedNow_13 kc_0 ?_
      refine xn_iast dX10_electedNow_14 (st157 hs) (by omega) (by decide) ?_
      refine xn_iinc dX10_electedNow_15 rfl kc_1 ?_
      refine xe_goto (tgt := 2) dX10_electedNow_18 rfl ?_
      refine xe_heap (h2 := q_wI h 157 (q_fil (fun _ => nI 0) (q_I h 157) (i + 1))) (by rw [q_wup]; exact congrArg (q_wI h 157) (q_filS (fun _ => nI 0) (q_I h 157) i)) ?_
      refine xe_locals (L' := (fun i => [(0, .ref 124), (1, .int (nI i))]) (i + 1)) (And.intro rfl (And.intro rfl trivial)) ?_
      exact K
  · refine xe_iload_n dX10_electedNow_2 rfl ?_
    refine xe_bipush dX10_electedNow_3 kb_8 ?_
    refine xn_icmp_ge (tgt := 21) dX10_electedNow_5 rfl (by omega) (by omega) (fun c2 => ?_) (fun c2 => ?_)
    · refine xe_iconst dX10_electedNow_21 kc_0 ?_
      refine xe_istore_n (i := 1) dX10_electedNow_22 rfl (by decide) rfl ?_
      refine xe_locals (L' := (fun i => [(0, .ref 124), (1, .int (nI i))]) 0) (And.intro rfl (And.intro rfl trivial)) ?_
      refine xe_heap (h2 := q_h3 (q_wI h 157 (q_vt (fun m => (q_vb (q_vv (q_I h 155) (q_I h 140) (q_I h 156) LW lv nc w m) nm).1) (q_fil (fun _ => nI 0) (q_I h 157) 8) 0)) (q_I h 152, q_I h 153, q_I h 124 46)) (q_h3_0 (q_wI h 157 (q_vt (fun m => (q_vb (q_vv (q_I h 155) (q_I h 140) (q_I h 156) LW lv nc w m) nm).1) (q_fil (fun _ => nI 0) (q_I h 157) 8) 0))).symm ?_
      refine xe_forE nm (fun i => [(0, .ref 124), (1, .int (nI i))]) (fun i s => q_h3 (q_wI h 157 (q_vt (fun m => (q_vb (q_vv (q_I h 155) (q_I h 140) (q_I h 156) LW lv nc w m) nm).1) (q_fil (fun _ => nI 0) (q_I h 157) 8) i)) s) (fun i s hi K => ?_) (fun s => ?_) _
      · refine xe_iload_n dX10_electedNow_23 rfl ?_
        refine xe_aload_n dX10_electedNow_24 rfl ?_
        refine xe_getP dX10_electedNow_25 flX10_49 (st124 hs) (by decide) rfl (sp124_24 hs) ?_
        refine xe_aload_n dX10_electedNow_28 rfl ?_
        refine xe_getIv dX10_electedNow_29 flX10_228 (st124 hs) (by decide) rfl (v := nI lv) (p1) ?_
        refine xn_ialdv dX10_electedNow_32 (st135 hs) (by omega) (by decide) (v := nI nm) (p3) ?_
        refine xn_icmp_ge (tgt := 56) dX10_electedNow_33 rfl (by omega) (by omega) (fun c1 => ?_) (fun c1 => ?_)
        · omega
        · refine xe_aload_n dX10_electedNow_36 rfl ?_
          refine xe_getP dX10_electedNow_37 flX10_116 (st124 hs) (by decide) rfl (sp124_50 hs) ?_
          refine xe_aload_n dX10_electedNow_40 rfl ?_
          refine xe_iload_n dX10_electedNow_41 rfl ?_
          refine xe_callVIq (d' := 2) (y' := mX10_voteOf) dX10_electedNow_42 mlX10_337 mvX10_voteOf rfl (st124 hs) (by decide) rfl (by decide) (by decide) (Nat.le_of_ble_eq_true rfl) (c_X10_voteOf l g _ (by exact hs) (by exact hp) (by exact rm_L_of (h := h) ⟨rfl, rfl, rfl, rfl, rfl, rfl, rfl, rfl, rfl⟩ hL) (by exact hw) (by omega) _ (by omega)) rfl (fun h1 hq => ?_)
          obtain ⟨V1, p1, b1, rfl⟩ := hq
          refine xe_top (v' := nI (q_vb (q_vv (q_I h 155) (q_I h 140) (q_I h 156) LW lv nc w i) nm).1) rfl ?_
          have hvb := q_vb_lt2 (q_vv (q_I h 155) (q_I h 140) (q_I h 156) LW lv nc w i) nm (by omega)
          refine xe_dup2 dX10_electedNow_45 rfl rfl ?_
          refine xn_iald dX10_electedNow_46 (st157 hs) (by omega) (by decide) ?_
          refine xe_iconst dX10_electedNow_47 kc_1 ?_
          refine xe_iadd dX10_electedNow_48 ?_
          refine xn_iast dX10_electedNow_49 (st157 hs) (by omega) (by decide) ?_
          refine xn_iinc dX10_electedNow_50 rfl kc_1 ?_
          refine xe_goto (tgt := 23) dX10_electedNow_53 rfl ?_
          refine xe_locals (L' := (fun i => [(0, .ref 124), (1, .int (nI i))]) (i + 1)) (And.intro rfl (And.intro rfl trivial)) ?_
          refine xe_heap (q_s3_row7 h (q_vt (fun m => (q_vb (q_vv (q_I h 155) (q_I h 140) (q_I h 156) LW lv nc w m) nm).1) (q_fil (fun _ => nI 0) (q_I h 157) 8) i) _ s.1 s.2.1 _ p1 s.2.2 b1) ?_
          exact K (_, p1, b1)
      · refine xe_iload_n dX10_electedNow_23 rfl ?_
        refine xe_aload_n dX10_electedNow_24 rfl ?_
        refine xe_getP dX10_electedNow_25 flX10_49 (st124 hs) (by decide) rfl (sp124_24 hs) ?_
        refine xe_aload_n dX10_electedNow_28 rfl ?_
        refine xe_getIv dX10_electedNow_29 flX10_228 (st124 hs) (by decide) rfl (v := nI lv) (p1) ?_
        refine xn_ialdv dX10_electedNow_32 (st135 hs) (by omega) (by decide) (v := nI nm) (p3) ?_
        refine xn_icmp_ge (tgt := 56) dX10_electedNow_33 rfl (by omega) (by omega) (fun c1 => ?_) (fun c1 => ?_)
        · refine xe_iconst dX10_electedNow_56 kc_0 ?_
          refine xe_istore_n (i := 1) dX10_electedNow_57 rfl (by decide) rfl ?_
          refine xe_iconst dX10_electedNow_58 kc_1 ?_
          refine xe_istore_n (i := 2) dX10_electedNow_59 rfl (by decide) rfl ?_
          rcases Nat.eq_zero_or_pos nm with h0 | h0
          · refine xe_iload_n dX10_electedNow_60 rfl ?_
            refine xe_aload_n dX10_electedNow_61 rfl ?_
            refine xe_getP dX10_electedNow_62 flX10_49 (st124 hs) (by decide) rfl (sp124_24 hs) ?_
            refine xe_aload_n dX10_electedNow_65 rfl ?_
            refine xe_getIv dX10_electedNow_66 flX10_228 (st124 hs) (by decide) rfl (v := nI lv) (p1) ?_
            refine xn_ialdv dX10_electedNow_69 (st135 hs) (by omega) (by decide) (v := nI nm) (p3) ?_
            refine xn_icmp_ge (tgt := 126) dX10_electedNow_70 rfl (by omega) (by omega) (fun c1 => ?_) (fun c1 => ?_)
            · refine xe_iload_n dX10_electedNow_126 rfl ?_
              refine xe_ireturn dX10_electedNow_127 rfl (by first | rfl | decide +kernel) ?_
              refine ⟨?_, _, _, _, rfl⟩
              rw [h0]
              rfl
            · omega
          · refine xe_locals (L' := (fun i => [(0, .ref 124), (1, .int (nI (q_el (q_vt (fun m => (q_vb (q_vv (q_I h 155) (q_I h 140) (q_I h 156) LW lv nc w m) nm).1) (q_fil (fun _ => nI 0) (q_I h 157) 8) nm) (q_I h 156) i))), (2, .int (nI (i + 1)))]) 0) (And.intro rfl (And.intro rfl (And.intro rfl trivial))) ?_
            refine xe_for (nm - 1) (fun i => [(0, .ref 124), (1, .int (nI (q_el (q_vt (fun m => (q_vb (q_vv (q_I h 155) (q_I h 140) (q_I h 156) LW lv nc w m) nm).1) (q_fil (fun _ => nI 0) (q_I h 157) 8) nm) (q_I h 156) i))), (2, .int (nI (i + 1)))]) (fun _ => q_h3 (q_wI h 157 (q_vt (fun m => (q_vb (q_vv (q_I h 155) (q_I h 140) (q_I h 156) LW lv nc w m) nm).1) (q_fil (fun _ => nI 0) (q_I h 157) 8) nm)) s) (fun i hi K => ?_) ?_
            · have hel := q_el_lt (q_vt (fun m => (q_vb (q_vv (q_I h 155) (q_I h 140) (q_I h 156) LW lv nc w m) nm).1) (q_fil (fun _ => nI 0) (q_I h 157) 8) nm) (q_I h 156) i
              refine xe_iload_n dX10_electedNow_60 rfl ?_
              refine xe_aload_n dX10_electedNow_61 rfl ?_
              refine xe_getP dX10_electedNow_62 flX10_49 (st124 hs) (by decide) rfl (sp124_24 hs) ?_
              refine xe_aload_n dX10_electedNow_65 rfl ?_
              refine xe_getIv dX10_electedNow_66 flX10_228 (st124 hs) (by decide) rfl (v := nI lv) (p1) ?_
              refine xn_ialdv dX10_electedNow_69 (st135 hs) (by omega) (by decide) (v := nI nm) (p3) ?_
              refine xn_icmp_ge (tgt := 126) dX10_electedNow_70 rfl (by omega) (by omega) (fun c1 => ?_) (fun c1 => ?_)
              · omega
              · refine xe_aload_n dX10_electedNow_73 rfl ?_
                refine xe_getP dX10_electedNow_74 flX10_116 (st124 hs) (by decide) rfl (sp124_50 hs) ?_
                refine xe_iload_n dX10_electedNow_77 rfl ?_
                refine xn_ialdv dX10_electedNow_78 (st157 hs) (by omega) (by decide) (v := (q_vt (fun m => (q_vb (q_vv (q_I h 155) (q_I h 140) (q_I h 156) LW lv nc w m) nm).1) (q_fil (fun _ => nI 0) (q_I h 157) 8) nm) (i + 1)) (rfl) ?_
                refine xe_aload_n dX10_electedNow_79 rfl ?_
                refine xe_getP dX10_electedNow_80 flX10_116 (st124 hs) (by decide) rfl (sp124_50 hs) ?_
                refine xe_iload_n dX10_electedNow_83 rfl ?_
                refine xn_ialdv dX10_electedNow_84 (st157 hs) (by omega) (by decide) (v := (q_vt (fun m => (q_vb (q_vv (q_I h 155) (q_I h 140) (q_I h 156) LW lv nc w m) nm).1) (q_fil (fun _ => nI 0) (q_I h 157) 8) nm) (q_el (q_vt (fun m => (q_vb (q_vv (q_I h 155) (q_I h 140) (q_I h 156) LW lv nc w m) nm).1) (q_fil (fun _ => nI 0) (q_I h 157) 8) nm) (q_I h 156) i)) (rfl) ?_
                refine xe_icmp_gt (tgt := 118) dX10_electedNow_85 rfl (fun c2 => ?_) (fun c2 => ?_)
                · have c_a := c2
                  refine xe_iload_n dX10_electedNow_118 rfl ?_
                  refine xe_istore_n (i := 1) dX10_electedNow_119 rfl (by decide) rfl ?_
                  refine xn_iinc dX10_electedNow_120 rfl kc_1 ?_
                  refine xe_goto (tgt := 60) dX10_electedNow_123 rfl ?_
                  have e : q_el (q_vt (fun m => (q_vb (q_vv (q_I h 155) (q_I h 140) (q_I h 156) LW lv nc w m) nm).1) (q_fil (fun _ => nI 0) (q_I h 157) 8) nm) (q_I h 156) (i + 1) = i + 1 := by
                    rw [q_el]
                    rw [if_pos (Or.inl c_a)]
                  refine xe_locals (L' := (fun i => [(0, .ref 124), (1, .int (nI (q_el (q_vt (fun m => (q_vb (q_vv (q_I h 155) (q_I h 140) (q_I h 156) LW lv nc w m) nm).1) (q_fil (fun _ => nI 0) (q_I h 157) 8) nm) (q_I h 156) i))), (2, .int (nI (i + 1)))]) (i + 1)) (And.intro rfl (And.intro (by rw [e]; rfl) (And.intro rfl trivial))) ?_
                  exact K
                · have c_a := c2
                  refine xe_aload_n dX10_electedNow_88 rfl ?_
                  refine xe_getP dX10_electedNow_89 flX10_116 (st124 hs) (by decide) rfl (sp124_50 hs) ?_
                  refine xe_iload_n dX10_electedNow_92 rfl ?_
                  refine xn_ialdv dX10_electedNow_93 (st157 hs) (by omega) (by decide) (v := (q_vt (fun m => (q_vb (q_vv (q_I h 155) (q_I h 140) (q_I h 156) LW lv nc w m) nm).1) (q_fil (fun _ => nI 0) (q_I h 157) 8) nm) (i + 1)) (rfl) ?_
                  refine xe_aload_n dX10_electedNow_94 rfl ?_
                  refine xe_getP dX10_electedNow_95 flX10_116 (st124 hs) (by decide) rfl (sp124_50 hs) ?_
                  refine xe_iload_n dX10_electedNow_98 rfl ?_
                  refine xn_ialdv dX10_electedNow_99 (st157 hs) (by omega) (by decide) (v := (q_vt (fun m => (q_vb (q_vv (q_I h 155) (q_I h 140) (q_I h 156) LW lv nc w m) nm).1) (q_fil (fun _ => nI 0) (q_I h 157) 8) nm) (q_el (q_vt (fun m => (q_vb (q_vv (q_I h 155) (q_I h 140) (q_I h 156) LW lv nc w m) nm).1) (q_fil (fun _ => nI 0) (q_I h 157) 8) nm) (q_I h 156) i)) (rfl) ?_
                  refine xe_icmp_ne (tgt := 120) dX10_electedNow_100 rfl (fun c3 => ?_) (fun c3 => ?_)
                  · have c_b := c3
                    refine xn_iinc dX10_electedNow_120 rfl kc_1 ?_
                    refine xe_goto (tgt := 60) dX10_electedNow_123 rfl ?_
                    have e : q_el (q_vt (fun m => (q_vb (q_vv (q_I h 155) (q_I h 140) (q_I h 156) LW lv nc w m) nm).1) (q_fil (fun _ => nI 0) (q_I h 157) 8) nm) (q_I h 156) (i + 1) = q_el (q_vt (fun m => (q_vb (q_vv (q_I h 155) (q_I h 140) (q_I h 156) LW lv nc w m) nm).1) (q_fil (fun _ => nI 0) (q_I h 157) 8) nm) (q_I h 156) i := by
                      rw [q_el]
                      rw [if_neg (by rintro (q | q); exact c_a q; exact c_b q.1)]
                    refine xe_locals (L' := (fun i => [(0, .ref 124), (1, .int (nI (q_el (q_vt (fun m => (q_vb (q_vv (q_I h 155) (q_I h 140) (q_I h 156) LW lv nc w m) nm).1) (q_fil (fun _ => nI 0) (q_I h 157) 8) nm) (q_I h 156) i))), (2, .int (nI (i + 1)))]) (i + 1)) (And.intro rfl (And.intro (by rw [e]; rfl) (And.intro rfl trivial))) ?_
                    exact K
                  · have c_b := c3
                    refine xe_aload_n dX10_electedNow_103 rfl ?_
                    refine xe_getP dX10_electedNow_104 flX10_113 (st124 hs) (by decide) rfl (sp124_49 hs) ?_
                    refine xe_iload_n dX10_electedNow_107 rfl ?_
                    refine xn_ialdf dX10_electedNow_108 (st156 hs) (by omega) (by decide) (f := q_I h 156) rfl ?_
                    refine xe_aload_n dX10_electedNow_109 rfl ?_
                    refine xe_getP dX10_electedNow_110 flX10_113 (st124 hs) (by decide) rfl (sp124_49 hs) ?_
                    refine xe_iload_n dX10_electedNow_113 rfl ?_
                    refine xn_ialdf dX10_electedNow_114 (st156 hs) (by omega) (by decide) (f := q_I h 156) rfl ?_
                    refine xe_icmp_ge (tgt := 120) dX10_electedNow_115 rfl (fun c4 => ?_) (fun c4 => ?_)
                    · have c_c := c4
                      refine xn_iinc dX10_electedNow_120 rfl kc_1 ?_
                      refine xe_goto (tgt := 60) dX10_electedNow_123 rfl ?_
                      have e : q_el (q_vt (fun m => (q_vb (q_vv (q_I h 155) (q_I h 140) (q_I h 156) LW lv nc w m) nm).1) (q_fil (fun _ => nI 0) (q_I h 157) 8) nm) (q_I h 156) (i + 1) = q_el (q_vt (fun m => (q_vb (q_vv (q_I h 155) (q_I h 140) (q_I h 156) LW lv nc w m) nm).1) (q_fil (fun _ => nI 0) (q_I h 157) 8) nm) (q_I h 156) i := by
                        rw [q_el]
                        rw [if_neg (by rintro (q | q); exact c_a q; exact absurd q.2 (Int32.not_lt.mpr c_c))]
                      refine xe_locals (L' := (fun i => [(0, .ref 124), (1, .int (nI (q_el (q_vt (fun m => (q_vb (q_vv (q_I h 155) (q_I h 140) (q_I h 156) LW lv nc w m) nm).1) (q_fil (fun _ => nI 0) (q_I h 157) 8) nm) (q_I h 156) i))), (2, .int (nI (i + 1)))]) (i + 1)) (And.intro rfl (And.intro (by rw [e]; rfl) (And.intro rfl trivial))) ?_
                      exact K
                    · have c_c := c4
                      refine xe_iload_n dX10_electedNow_118 rfl ?_
                      refine xe_istore_n (i := 1) dX10_electedNow_119 rfl (by decide) rfl ?_
                      refine xn_iinc dX10_electedNow_120 rfl kc_1 ?_
                      refine xe_goto (tgt := 60) dX10_electedNow_123 rfl ?_
                      have e : q_el (q_vt (fun m => (q_vb (q_vv (q_I h 155) (q_I h 140) (q_I h 156) LW lv nc w m) nm).1) (q_fil (fun _ => nI 0) (q_I h 157) 8) nm) (q_I h 156) (i + 1) = i + 1 := by
                        rw [q_el]
                        rw [if_pos (Or.inr ⟨c_b, Int32.not_le.mp c_c⟩)]
                      refine xe_locals (L' := (fun i => [(0, .ref 124), (1, .int (nI (q_el (q_vt (fun m => (q_vb (q_vv (q_I h 155) (q_I h 140) (q_I h 156) LW lv nc w m) nm).1) (q_fil (fun _ => nI 0) (q_I h 157) 8) nm) (q_I h 156) i))), (2, .int (nI (i + 1)))]) (i + 1)) (And.intro rfl (And.intro (by rw [e]; rfl) (And.intro rfl trivial))) ?_
                      exact K
            · refine xe_iload_n dX10_electedNow_60 rfl ?_
              refine xe_aload_n dX10_electedNow_61 rfl ?_
              refine xe_getP dX10_electedNow_62 flX10_49 (st124 hs) (by decide) rfl (sp124_24 hs) ?_
              refine xe_aload_n dX10_electedNow_65 rfl ?_
              refine xe_getIv dX10_electedNow_66 flX10_228 (st124 hs) (by decide) rfl (v := nI lv) (p1) ?_
              refine xn_ialdv dX10_electedNow_69 (st135 hs) (by omega) (by decide) (v := nI nm) (p3) ?_
              refine xn_icmp_ge (tgt := 126) dX10_electedNow_70 rfl (by omega) (by omega) (fun c1 => ?_) (fun c1 => ?_)
              · refine xe_iload_n dX10_electedNow_126 rfl ?_
                refine xe_ireturn dX10_electedNow_127 rfl (by first | rfl | decide +kernel) ?_
                exact ⟨rfl, _, _, _, rfl⟩
              · omega
        · omega
    · omega
