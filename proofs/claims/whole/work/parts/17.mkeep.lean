/-! the reference: moves and keeps -/
/-- feathers of kind k go from row F to row T, as many as are left or are there -/
def q_m1 (F T : Nat) (s : (Nat → Int32) × Int32) (k : Nat) : (Nat → Int32) × Int32 :=
  let v := if s.2 ≤ s.1 (8 * F + k) then s.2 else s.1 (8 * F + k)
  (upd (upd s.1 (8 * F + k) (s.1 (8 * F + k) - v)) (8 * T + k) (upd s.1 (8 * F + k) (s.1 (8 * F + k) - v) (8 * T + k) + v), s.2 - v)
def q_mvs (F T f : Nat) (R : Nat → Int32) (n : Int32) : Nat → (Nat → Int32) × Int32
  | 0 => q_m1 F T (R, n) f
  | i + 1 => if i = f then q_mvs F T f R n i else q_m1 F T (q_mvs F T f R n i) i
theorem q_m1_a {F T k : Nat} {s : (Nat → Int32) × Int32} (h : s.2 ≤ s.1 (8 * F + k)) : q_m1 F T s k = (upd (upd s.1 (8 * F + k) (s.1 (8 * F + k) - s.2)) (8 * T + k) (upd s.1 (8 * F + k) (s.1 (8 * F + k) - s.2) (8 * T + k) + s.2), s.2 - s.2) := by
  unfold q_m1
  rw [if_pos h]
theorem q_m1_b {F T k : Nat} {s : (Nat → Int32) × Int32} (h : ¬ s.2 ≤ s.1 (8 * F + k)) : q_m1 F T s k = (upd (upd s.1 (8 * F + k) (s.1 (8 * F + k) - s.1 (8 * F + k))) (8 * T + k) (upd s.1 (8 * F + k) (s.1 (8 * F + k) - s.1 (8 * F + k)) (8 * T + k) + s.1 (8 * F + k)), s.2 - s.1 (8 * F + k)) := by
  unfold q_m1
  rw [if_neg h]
set_option maxHeartbeats 4000000 in
theorem c_X10_moves (l : Launch) (g : q_GP) (h : q_H) (hs : q_Stat h) (F T f : Nat) (n : Int32) (hF : F < 9) (hT : T < 9) (hf : f < 8) : q_Cd l g 0 mX10_moves [.ref 124, .int (nI F), .int (nI T), .int n, .int (nI f)] h none (q_wI h 155 (q_mvs F T f (q_I h 155) n 8).1) := by
  refine q_CdV mvX10_moves (Nat.le_of_ble_eq_true rfl) ?_
  have KL : q_Ex l g 0 mX10_moves 6 ((fun i => [(0, .ref 124), (1, .int (nI F)), (2, .int (nI T)), (4, .int (nI f)), (5, .int (q_mvs F T f (q_I h 155) n i).2), (6, .int (nI i))]) 0) [] (q_wI h 155 (q_mvs F T f (q_I h 155) n 0).1) (fun r1 h1 => r1 = none ∧ h1 = q_wI h 155 (q_mvs F T f (q_I h 155) n 8).1) := by
    refine xe_for 8 (fun i => [(0, .ref 124), (1, .int (nI F)), (2, .int (nI T)), (4, .int (nI f)), (5, .int (q_mvs F T f (q_I h 155) n i).2), (6, .int (nI i))]) (fun i => q_wI h 155 (q_mvs F T f (q_I h 155) n i).1) (fun i hi K => ?_) ?_
    · refine xe_iload dX10_moves_6 rfl ?_
      refine xe_bipush dX10_moves_8 kb_8 ?_
      refine xn_icmp_ge (tgt := 120) dX10_moves_10 rfl (by omega) (by omega) (fun c1 => ?_) (fun c1 => ?_)
      · omega
      · refine xe_iload dX10_moves_13 rfl ?_
        refine xe_iload dX10_moves_15 rfl ?_
        refine xn_icmp_ne (tgt := 23) dX10_moves_17 rfl (by omega) (by omega) (fun c2 => ?_) (fun c2 => ?_)
        · have c_k := c2
          refine xe_iload dX10_moves_23 rfl ?_
          refine xn_if_ge (tgt := 33) dX10_moves_25 rfl (by omega) ?_
          refine xe_iload dX10_moves_33 rfl ?_
          refine xe_istore dX10_moves_35 (by decide) rfl ?_
          refine xe_aload_n dX10_moves_37 rfl ?_
          refine xe_getP dX10_moves_38 flX10_110 (st124 hs) (by decide) rfl (sp124_48 hs) ?_
          refine xe_bipush dX10_moves_41 kb_8 ?_
          refine xe_iload_n dX10_moves_43 rfl ?_
          refine xn_imul dX10_moves_44 ?_
          refine xe_iload dX10_moves_45 rfl ?_
          refine xn_iadd dX10_moves_47 ?_
          refine xn_ialdv dX10_moves_48 (st155 hs) (by omega) (by decide) (v := (q_mvs F T f (q_I h 155) n i).1 (8 * F + i)) (rfl) ?_
          refine xe_iload dX10_moves_49 rfl ?_
          refine xe_icmp_ge (tgt := 69) dX10_moves_51 rfl (fun c4 => ?_) (fun c4 => ?_)
          · have c_v := c4
            refine xe_iload dX10_moves_69 rfl ?_
            refine xe_istore dX10_moves_71 (by decide) rfl ?_
            refine xe_aload_n dX10_moves_73 rfl ?_
            refine xe_getP dX10_moves_74 flX10_110 (st124 hs) (by decide) rfl (sp124_48 hs) ?_
            refine xe_bipush dX10_moves_77 kb_8 ?_
            refine xe_iload_n dX10_moves_79 rfl ?_
            refine xn_imul dX10_moves_80 ?_
            refine xe_iload dX10_moves_81 rfl ?_
            refine xn_iadd dX10_moves_83 ?_
            refine xe_dup2 dX10_moves_84 rfl rfl ?_
            refine xn_iald dX10_moves_85 (st155 hs) (by omega) (by decide) ?_
            refine xe_iload dX10_moves_86 rfl ?_
            refine xe_isub dX10_moves_88 ?_
            refine xn_iast dX10_moves_89 (st155 hs) (by omega) (by decide) ?_
            refine xe_aload_n dX10_moves_90 rfl ?_
            refine xe_getP dX10_moves_91 flX10_110 (st124 hs) (by decide) rfl (sp124_48 hs) ?_
            refine xe_bipush dX10_moves_94 kb_8 ?_
            refine xe_iload_n dX10_moves_96 rfl ?_
            refine xn_imul dX10_moves_97 ?_
            refine xe_iload dX10_moves_98 rfl ?_
            refine xn_iadd dX10_moves_100 ?_
            refine xe_dup2 dX10_moves_101 rfl rfl ?_
            refine xn_iald dX10_moves_102 (st155 hs) (by omega) (by decide) ?_
            refine xe_iload dX10_moves_103 rfl ?_
            refine xe_iadd dX10_moves_105 ?_
            refine xn_iast dX10_moves_106 (st155 hs) (by omega) (by decide) ?_
            refine xe_iload dX10_moves_107 rfl ?_
            refine xe_iload dX10_moves_109 rfl ?_
            refine xe_isub dX10_moves_111 ?_
            refine xe_istore dX10_moves_112 (by decide) rfl ?_
            refine xn_iinc dX10_moves_114 rfl kc_1 ?_
            refine xe_goto (tgt := 6) dX10_moves_117 rfl ?_
            have e : q_mvs F T f (q_I h 155) n (i + 1) = _ := (if_neg c_k).trans (q_m1_a (F := F) (T := T) (k := i) (s := q_mvs F T f (q_I h 155) n i) c_v)
            refine xe_locals (L' := (fun i => [(0, .ref 124), (1, .int (nI F)), (2, .int (nI T)), (4, .int (nI f)), (5, .int (q_mvs F T f (q_I h 155) n i).2), (6, .int (nI i))]) (i + 1)) (And.intro rfl (And.intro rfl (And.intro rfl (And.intro rfl (And.intro (by rw [e]; rfl) (And.intro rfl trivial)))))) ?_
            refine xe_heap (h2 := q_wI h 155 (q_mvs F T f (q_I h 155) n (i + 1)).1) (by rw [e]; simp only [q_wwI, q_Iw]) ?_
            exact K
          · have c_v := c4
            refine xe_aload_n dX10_moves_54 rfl ?_
            refine xe_getP dX10_moves_55 flX10_110 (st124 hs) (by decide) rfl (sp124_48 hs) ?_
            refine xe_bipush dX10_moves_58 kb_8 ?_
            refine xe_iload_n dX10_moves_60 rfl ?_
            refine xn_imul dX10_moves_61 ?_
            refine xe_iload dX10_moves_62 rfl ?_
            refine xn_iadd dX10_moves_64 ?_
            refine xn_ialdv dX10_moves_65 (st155 hs) (by omega) (by decide) (v := (q_mvs F T f (q_I h 155) n i).1 (8 * F + i)) (rfl) ?_
            refine xe_goto (tgt := 71) dX10_moves_66 rfl ?_
            refine xe_istore dX10_moves_71 (by decide) rfl ?_
            refine xe_aload_n dX10_moves_73 rfl ?_
            refine xe_getP dX10_moves_74 flX10_110 (st124 hs) (by decide) rfl (sp124_48 hs) ?_
            refine xe_bipush dX10_moves_77 kb_8 ?_
            refine xe_iload_n dX10_moves_79 rfl ?_
            refine xn_imul dX10_moves_80 ?_
            refine xe_iload dX10_moves_81 rfl ?_
            refine xn_iadd dX10_moves_83 ?_
            refine xe_dup2 dX10_moves_84 rfl rfl ?_
            refine xn_iald dX10_moves_85 (st155 hs) (by omega) (by decide) ?_
            refine xe_iload dX10_moves_86 rfl ?_
            refine xe_isub dX10_moves_88 ?_
            refine xn_iast dX10_moves_89 (st155 hs) (by omega) (by decide) ?_
            refine xe_aload_n dX10_moves_90 rfl ?_
            refine xe_getP dX10_moves_91 flX10_110 (st124 hs) (by decide) rfl (sp124_48 hs) ?_
            refine xe_bipush dX10_moves_94 kb_8 ?_
            refine xe_iload_n dX10_moves_96 rfl ?_
            refine xn_imul dX10_moves_97 ?_
            refine xe_iload dX10_moves_98 rfl ?_
            refine xn_iadd dX10_moves_100 ?_
            refine xe_dup2 dX10_moves_101 rfl rfl ?_
            refine xn_iald dX10_moves_102 (st155 hs) (by omega) (by decide) ?_
            refine xe_iload dX10_moves_103 rfl ?_
            refine xe_iadd dX10_moves_105 ?_
            refine xn_iast dX10_moves_106 (st155 hs) (by omega) (by decide) ?_
            refine xe_iload dX10_moves_107 rfl ?_
            refine xe_iload dX10_moves_109 rfl ?_
            refine xe_isub dX10_moves_111 ?_
            refine xe_istore dX10_moves_112 (by decide) rfl ?_
            refine xn_iinc dX10_moves_114 rfl kc_1 ?_
            refine xe_goto (tgt := 6) dX10_moves_117 rfl ?_
            have e : q_mvs F T f (q_I h 155) n (i + 1) = _ := (if_neg c_k).trans (q_m1_b (F := F) (T := T) (k := i) (s := q_mvs F T f (q_I h 155) n i) c_v)
            refine xe_locals (L' := (fun i => [(0, .ref 124), (1, .int (nI F)), (2, .int (nI T)), (4, .int (nI f)), (5, .int (q_mvs F T f (q_I h 155) n i).2), (6, .int (nI i))]) (i + 1)) (And.intro rfl (And.intro rfl (And.intro rfl (And.intro rfl (And.intro (by rw [e]; rfl) (And.intro rfl trivial)))))) ?_
            refine xe_heap (h2 := q_wI h 155 (q_mvs F T f (q_I h 155) n (i + 1)).1) (by rw [e]; simp only [q_wwI, q_Iw]) ?_
            exact K
        · have c_k := c2
          refine xe_goto (tgt := 114) dX10_moves_20 rfl ?_
          refine xn_iinc dX10_moves_114 rfl kc_1 ?_
          refine xe_goto (tgt := 6) dX10_moves_117 rfl ?_
          have e : q_mvs F T f (q_I h 155) n (i + 1) = q_mvs F T f (q_I h 155) n i := if_pos c_k
          refine xe_locals (L' := (fun i => [(0, .ref 124), (1, .int (nI F)), (2, .int (nI T)), (4, .int (nI f)), (5, .int (q_mvs F T f (q_I h 155) n i).2), (6, .int (nI i))]) (i + 1)) (And.intro rfl (And.intro rfl (And.intro rfl (And.intro rfl (And.intro (by rw [e]; rfl) (And.intro rfl trivial)))))) ?_
          refine xe_heap (h2 := q_wI h 155 (q_mvs F T f (q_I h 155) n (i + 1)).1) (by rw [e]) ?_
          exact K
    · refine xe_iload dX10_moves_6 rfl ?_
      refine xe_bipush dX10_moves_8 kb_8 ?_
      refine xn_icmp_ge (tgt := 120) dX10_moves_10 rfl (by omega) (by omega) (fun c1 => ?_) (fun c1 => ?_)
      · refine xe_return dX10_moves_120 rfl ?_
        exact ⟨rfl, rfl⟩
      · omega
  refine xe_iload_n dX10_moves_0 rfl ?_
  refine xe_istore dX10_moves_1 (by decide) rfl ?_
  refine xe_iconst dX10_moves_3 kc_m1 ?_
  refine xe_istore dX10_moves_4 (by decide) rfl ?_
  refine xe_iload dX10_moves_6 rfl ?_
  refine xe_bipush dX10_moves_8 kb_8 ?_
  refine xe_icmp_ge (tgt := 120) dX10_moves_10 rfl (fun c1 => ?_) (fun c1 => ?_)
  · exact absurd c1 (by decide)
  · refine xe_iload dX10_moves_13 rfl ?_
    refine xe_iload dX10_moves_15 rfl ?_
    refine xe_icmp_ne (tgt := 23) dX10_moves_17 rfl (fun c2 => ?_) (fun c2 => ?_)
    · have c_k := c2
      refine xe_iload dX10_moves_23 rfl ?_
      refine xe_if_ge (tgt := 33) dX10_moves_25 rfl (fun c3 => ?_) (fun c3 => ?_)
      · exact absurd c3 (by decide)
      · refine xe_iload dX10_moves_28 rfl ?_
        refine xe_goto (tgt := 35) dX10_moves_30 rfl ?_
        refine xe_istore dX10_moves_35 (by decide) rfl ?_
        refine xe_aload_n dX10_moves_37 rfl ?_
        refine xe_getP dX10_moves_38 flX10_110 (st124 hs) (by decide) rfl (sp124_48 hs) ?_
        refine xe_bipush dX10_moves_41 kb_8 ?_
        refine xe_iload_n dX10_moves_43 rfl ?_
        refine xn_imul dX10_moves_44 ?_
        refine xe_iload dX10_moves_45 rfl ?_
        refine xn_iadd dX10_moves_47 ?_
        refine xn_ialdf dX10_moves_48 (st155 hs) (by omega) (by decide) (f := q_I h 155) rfl ?_
        refine xe_iload dX10_moves_49 rfl ?_
        refine xe_icmp_ge (tgt := 69) dX10_moves_51 rfl (fun c4 => ?_) (fun c4 => ?_)
        · have c_v := c4
          refine xe_iload dX10_moves_69 rfl ?_
          refine xe_istore dX10_moves_71 (by decide) rfl ?_
          refine xe_aload_n dX10_moves_73 rfl ?_
          refine xe_getP dX10_moves_74 flX10_110 (st124 hs) (by decide) rfl (sp124_48 hs) ?_
          refine xe_bipush dX10_moves_77 kb_8 ?_
          refine xe_iload_n dX10_moves_79 rfl ?_
          refine xn_imul dX10_moves_80 ?_
          refine xe_iload dX10_moves_81 rfl ?_
          refine xn_iadd dX10_moves_83 ?_
          refine xe_dup2 dX10_moves_84 rfl rfl ?_
          refine xn_ialdf dX10_moves_85 (st155 hs) (by omega) (by decide) (f := q_I h 155) rfl ?_
          refine xe_iload dX10_moves_86 rfl ?_
          refine xe_isub dX10_moves_88 ?_
          refine xn_iast dX10_moves_89 (st155 hs) (by omega) (by decide) ?_
          refine xe_aload_n dX10_moves_90 rfl ?_
          refine xe_getP dX10_moves_91 flX10_110 (st124 hs) (by decide) rfl (sp124_48 hs) ?_
          refine xe_bipush dX10_moves_94 kb_8 ?_
          refine xe_iload_n dX10_moves_96 rfl ?_
          refine xn_imul dX10_moves_97 ?_
          refine xe_iload dX10_moves_98 rfl ?_
          refine xn_iadd dX10_moves_100 ?_
          refine xe_dup2 dX10_moves_101 rfl rfl ?_
          refine xn_iald dX10_moves_102 (st155 hs) (by omega) (by decide) ?_
          refine xe_iload dX10_moves_103 rfl ?_
          refine xe_iadd dX10_moves_105 ?_
          refine xn_iast dX10_moves_106 (st155 hs) (by omega) (by decide) ?_
          refine xe_iload dX10_moves_107 rfl ?_
          refine xe_iload dX10_moves_109 rfl ?_
          refine xe_isub dX10_moves_111 ?_
          refine xe_istore dX10_moves_112 (by decide) rfl ?_
          refine xe_iinc dX10_moves_114 rfl (v := nI 0) (by decide) ?_
          refine xe_goto (tgt := 6) dX10_moves_117 rfl ?_
          have e : q_mvs F T f (q_I h 155) n 0 = _ := q_m1_a (F := F) (T := T) (k := f) (s := (q_I h 155, n)) c_v
          refine xe_locals (L' := (fun i => [(0, .ref 124), (1, .int (nI F)), (2, .int (nI T)), (4, .int (nI f)), (5, .int (q_mvs F T f (q_I h 155) n i).2), (6, .int (nI i))]) 0) (And.intro rfl (And.intro rfl (And.intro rfl (And.intro rfl (And.intro (by rw [e]; rfl) (And.intro rfl trivial)))))) ?_
          refine xe_heap (h2 := q_wI h 155 (q_mvs F T f (q_I h 155) n 0).1) (by rw [e]; simp only [q_wwI, q_Iw]) ?_
          exact KL
        · have c_v := c4
          refine xe_aload_n dX10_moves_54 rfl ?_
          refine xe_getP dX10_moves_55 flX10_110 (st124 hs) (by decide) rfl (sp124_48 hs) ?_
          refine xe_bipush dX10_moves_58 kb_8 ?_
          refine xe_iload_n dX10_moves_60 rfl ?_
          refine xn_imul dX10_moves_61 ?_
          refine xe_iload dX10_moves_62 rfl ?_
          refine xn_iadd dX10_moves_64 ?_
          refine xn_ialdf dX10_moves_65 (st155 hs) (by omega) (by decide) (f := q_I h 155) rfl ?_
          refine xe_goto (tgt := 71) dX10_moves_66 rfl ?_
          refine xe_istore dX10_moves_71 (by decide) rfl ?_
          refine xe_aload_n dX10_moves_73 rfl ?_
          refine xe_getP dX10_moves_74 flX10_110 (st124 hs) (by decide) rfl (sp124_48 hs) ?_
          refine xe_bipush dX10_moves_77 kb_8 ?_
          refine xe_iload_n dX10_moves_79 rfl ?_
          refine xn_imul dX10_moves_80 ?_
          refine xe_iload dX10_moves_81 rfl ?_
          refine xn_iadd dX10_moves_83 ?_
          refine xe_dup2 dX10_moves_84 rfl rfl ?_
          refine xn_ialdf dX10_moves_85 (st155 hs) (by omega) (by decide) (f := q_I h 155) rfl ?_
          refine xe_iload dX10_moves_86 rfl ?_
          refine xe_isub dX10_moves_88 ?_
          refine xn_iast dX10_moves_89 (st155 hs) (by omega) (by decide) ?_
          refine xe_aload_n dX10_moves_90 rfl ?_
          refine xe_getP dX10_moves_91 flX10_110 (st124 hs) (by decide) rfl (sp124_48 hs) ?_
          refine xe_bipush dX10_moves_94 kb_8 ?_
          refine xe_iload_n dX10_moves_96 rfl ?_
          refine xn_imul dX10_moves_97 ?_
          refine xe_iload dX10_moves_98 rfl ?_
          refine xn_iadd dX10_moves_100 ?_
          refine xe_dup2 dX10_moves_101 rfl rfl ?_
          refine xn_iald dX10_moves_102 (st155 hs) (by omega) (by decide) ?_
          refine xe_iload dX10_moves_103 rfl ?_
          refine xe_iadd dX10_moves_105 ?_
          refine xn_iast dX10_moves_106 (st155 hs) (by omega) (by decide) ?_
          refine xe_iload dX10_moves_107 rfl ?_
          refine xe_iload dX10_moves_109 rfl ?_
          refine xe_isub dX10_moves_111 ?_
          refine xe_istore dX10_moves_112 (by decide) rfl ?_
          refine xe_iinc dX10_moves_114 rfl (v := nI 0) (by decide) ?_
          refine xe_goto (tgt := 6) dX10_moves_117 rfl ?_
          have e : q_mvs F T f (q_I h 155) n 0 = _ := q_m1_b (F := F) (T := T) (k := f) (s := (q_I h 155, n)) c_v
          refine xe_locals (L' := (fun i => [(0, .ref 124), (1, .int (nI F)), (2, .int (nI T)), (4, .int (nI f)), (5, .int (q_mvs F T f (q_I h 155) n i).2), (6, .int (nI i))]) 0) (And.intro rfl (And.intro rfl (And.intro rfl (And.intro rfl (And.intro (by rw [e]; rfl) (And.intro rfl trivial)))))) ?_
          refine xe_heap (h2 := q_wI h 155 (q_mvs F T f (q_I h 155) n 0).1) (by rw [e]; simp only [q_wwI, q_Iw]) ?_
          exact KL
    · exact absurd c2.symm (q_nIm1 (by omega))
/-- the shift of the history, n done -/
def q_shf (H : Nat → Int32) (n : Nat) : Nat → Int32 := fun k => if k < n then H (k + 1720) else H k
theorem q_shf0 (H : Nat → Int32) : q_shf H 0 = H := by
  funext k
  simp [q_shf]
theorem q_shfS (H : Nat → Int32) (n : Nat) : upd (q_shf H n) n (q_shf H n (n + 1720)) = q_shf H (n + 1) := by
  have e : q_shf H n (n + 1720) = H (n + 1720) := if_neg (by omega)
  rw [e]
  exact q_cpyS (fun k => H (k + 1720)) H n
/-- f written into H from b on -/
def q_put (H f : Nat → Int32) (b n : Nat) : Nat → Int32 := fun k => if b ≤ k ∧ k < b + n then f (k - b) else H k
theorem q_put0 (H f : Nat → Int32) (b : Nat) : q_put H f b 0 = H := by
  funext k
  unfold q_put
  rw [if_neg (by omega)]
theorem q_putS (H f : Nat → Int32) (b n : Nat) : upd (q_put H f b n) (b + n) (f n) = q_put H f b (n + 1) := by
  funext k
  unfold upd q_put
  by_cases h : k = b + n
  · rw [if_pos h, if_pos (by omega), show k - b = n by omega]
  · rw [if_neg h]
    by_cases h2 : b ≤ k ∧ k < b + n
    · rw [if_pos h2, if_pos (by omega)]
    · rw [if_neg h2, if_neg (by omega)]
theorem q_w2 (h : q_H) {r r' : Nat} (hr : r ≠ r') (X Y Z : Nat → Int32) : q_wI (q_wI (q_wI h r X) r' Y) r Z = q_wI (q_wI h r Z) r' Y := by
  rw [q_wcI _ (Ne.symm hr), q_wwI]
def q_kk (h : q_H) (S : Nat → Int32) (b : Nat) : q_H := q_wI (q_wI h 158 S) 124 (upd (q_I h 124) 51 (nI b))
theorem q_kk_H (h : q_H) (S Z : Nat → Int32) (b : Nat) : q_wI (q_kk h S b) 158 Z = q_kk h Z b := q_w2 h (by decide) _ _ _
theorem q_upd_same {f : Nat → Int32} {k : Nat} {v : Int32} (h : f k = v) : upd f k v = f := by
  funext j
  unfold upd
  split
  · next e => rw [e, h]
  · rfl
theorem q_upd_upd (f : Nat → Int32) (k : Nat) (v v' : Int32) : upd (upd f k v) k v' = upd f k v' := by
  funext j
  unfold upd
  split <;> rfl
theorem q_kk_b (h : q_H) (S : Nat → Int32) (b b' : Nat) : q_wI (q_kk h S b) 124 (upd (q_I (q_kk h S b) 124) 51 (nI b')) = q_kk h S b' := by
  unfold q_kk
  rw [q_Iw, q_wwI, q_upd_upd]
theorem q_kk_0 {h : q_H} {u : Nat} (hu : q_I h 124 51 = nI u) : h = q_kk h (q_I h 158) u := by
  unfold q_kk
  rw [q_wsI, q_upd_same hu, q_wsI]
def q_kf (h : q_H) (S : Nat → Int32) (b : Nat) : q_H := q_wI (q_kk h (q_put S (q_I h 154) (1720 * b) 1720) (b + 1)) 154 (q_cpy (q_I h 155) (q_I h 154) 1720)
/-- what is done is kept -/
def q_keep (h : q_H) (u : Nat) : q_H := if u = 25 then q_kf h (q_shf (q_I h 158) 41280) 24 else q_kf h (q_I h 158) u
set_option maxHeartbeats 4000000 in
theorem q_keeps2 (l : Launch) (g : q_GP) (h : q_H) (hs : q_Stat h) (S : Nat → Int32) (b : Nat) (hb : b ≤ 24) (L : List (Nat × Value)) (hL : q_sub L [(0, .ref 124)]) : q_Ex l g 0 mX10_keeps 50 L [] (q_kk h S b) (fun r1 h1 => r1 = none ∧ h1 = q_kf h S b) := by
  refine xe_locals (L' := [(0, .ref 124)]) hL ?_
  refine xe_iconst dX10_keeps_50 kc_0 ?_
  refine xe_istore_n (i := 1) dX10_keeps_51 rfl (by decide) rfl ?_
  refine xe_locals (L' := (fun i => [(0, .ref 124), (1, .int (nI i))]) 0) (And.intro rfl (And.intro rfl trivial)) ?_
  refine xe_heap (h2 := q_kk h (q_put S (q_I h 154) (1720 * b) 0) b) (by rw [q_put0]) ?_
  refine xe_for 1720 (fun i => [(0, .ref 124), (1, .int (nI i))]) (fun i => q_kk h (q_put S (q_I h 154) (1720 * b) i) b) (fun i hi K => ?_) ?_
  · refine xe_iload_n dX10_keeps_52 rfl ?_
    refine xe_sipush dX10_keeps_53 ks_1720 ?_
    refine xn_icmp_ge (tgt := 86) dX10_keeps_56 rfl (by omega) (by omega) (fun c1 => ?_) (fun c1 => ?_)
    · omega
    · refine xe_aload_n dX10_keeps_59 rfl ?_
      refine xe_getP dX10_keeps_60 flX10_120 (st124 hs) (by decide) rfl (sp124_52 hs) ?_
      refine xe_sipush dX10_keeps_63 ks_1720 ?_
      refine xe_aload_n dX10_keeps_66 rfl ?_
      refine xe_getIv dX10_keeps_67 flX10_246 (st124 hs) (by decide) rfl (v := nI b) (rfl) ?_
      refine xn_imul dX10_keeps_70 ?_
      refine xe_iload_n dX10_keeps_71 rfl ?_
      refine xn_iadd dX10_keeps_72 ?_
      refine xe_aload_n dX10_keeps_73 rfl ?_
      refine xe_getP dX10_keeps_74 flX10_107 (st124 hs) (by decide) rfl (sp124_47 hs) ?_
      refine xe_iload_n dX10_keeps_77 rfl ?_
      refine xn_ialdf dX10_keeps_78 (st154 hs) (by omega) (by decide) (f := q_I h 154) rfl ?_
      refine xn_iast dX10_keeps_79 (st158 hs) (by omega) (by decide) ?_
      refine xn_iinc dX10_keeps_80 rfl kc_1 ?_
      refine xe_goto (tgt := 52) dX10_keeps_83 rfl ?_
      refine xe_heap (h2 := q_kk h (q_put S (q_I h 154) (1720 * b) (i + 1)) b) (by rw [q_kk_H, ← q_putS]; rfl) ?_
      refine xe_locals (L' := (fun i => [(0, .ref 124), (1, .int (nI i))]) (i + 1)) (And.intro rfl (And.intro rfl trivial)) ?_
      exact K
  · refine xe_iload_n dX10_keeps_52 rfl ?_
    refine xe_sipush dX10_keeps_53 ks_1720 ?_
    refine xn_icmp_ge (tgt := 86) dX10_keeps_56 rfl (by omega) (by omega) (fun c2 => ?_) (fun c2 => ?_)
    · refine xe_aload_n dX10_keeps_86 rfl ?_
      refine xe_dup dX10_keeps_87 rfl ?_
      refine xe_getIv dX10_keeps_88 flX10_246 (st124 hs) (by decide) rfl (v := nI b) (rfl) ?_
      refine xe_iconst dX10_keeps_91 kc_1 ?_
      refine xn_iadd dX10_keeps_92 ?_
      refine xe_putI dX10_keeps_93 flX10_246 (st124 hs) (by decide) rfl (Or.inl rfl) rfl rfl ?_
      refine xe_iconst dX10_keeps_96 kc_0 ?_
      refine xe_istore_n (i := 1) dX10_keeps_97 rfl (by decide) rfl ?_
      refine xe_locals (L' := (fun i => [(0, .ref 124), (1, .int (nI i))]) 0) (And.intro rfl (And.intro rfl trivial)) ?_
      refine xe_heap (h2 := q_wI (q_kk h (q_put S (q_I h 154) (1720 * b) 1720) (b + 1)) 154 (q_cpy (q_I h 155) (q_I h 154) 0)) (by rw [q_cpy0]; exact (q_kk_b h _ b (b + 1)).trans (q_wsI _ 154).symm) ?_
      refine xe_for 1720 (fun i => [(0, .ref 124), (1, .int (nI i))]) (fun i => q_wI (q_kk h (q_put S (q_I h 154) (1720 * b) 1720) (b + 1)) 154 (q_cpy (q_I h 155) (q_I h 154) i)) (fun i hi K => ?_) ?_
      · refine xe_iload_n dX10_keeps_98 rfl ?_
        refine xe_sipush dX10_keeps_99 ks_1720 ?_
        refine xn_icmp_ge (tgt := 123) dX10_keeps_102 rfl (by omega) (by omega) (fun c3 => ?_) (fun c3 => ?_)
        · omega
        · refine xe_aload_n dX10_keeps_105 rfl ?_
          refine xe_getP dX10_keeps_106 flX10_107 (st124 hs) (by decide) rfl (sp124_47 hs) ?_
          refine xe_iload_n dX10_keeps_109 rfl ?_
          refine xe_aload_n dX10_keeps_110 rfl ?_
          refine xe_getP dX10_keeps_111 flX10_110 (st124 hs) (by decide) rfl (sp124_48 hs) ?_
          refine xe_iload_n dX10_keeps_114 rfl ?_
          refine xn_ialdf dX10_keeps_115 (st155 hs) (by omega) (by decide) (f := q_I h 155) rfl ?_
          refine xn_iast dX10_keeps_116 (st154 hs) (by omega) (by decide) ?_
          refine xn_iinc dX10_keeps_117 rfl kc_1 ?_
          refine xe_goto (tgt := 98) dX10_keeps_120 rfl ?_
          refine xe_heap (h2 := q_wI (q_kk h (q_put S (q_I h 154) (1720 * b) 1720) (b + 1)) 154 (q_cpy (q_I h 155) (q_I h 154) (i + 1))) (by rw [q_wup, ← q_cpyS]) ?_
          refine xe_locals (L' := (fun i => [(0, .ref 124), (1, .int (nI i))]) (i + 1)) (And.intro rfl (And.intro rfl trivial)) ?_
          exact K
      · refine xe_iload_n dX10_keeps_98 rfl ?_
        refine xe_sipush dX10_keeps_99 ks_1720 ?_
        refine xn_icmp_ge (tgt := 123) dX10_keeps_102 rfl (by omega) (by omega) (fun c4 => ?_) (fun c4 => ?_)
        · refine xe_return dX10_keeps_123 rfl ?_
          exact ⟨rfl, rfl⟩
        · omega
    · omega
set_option maxHeartbeats 4000000 in
theorem c_X10_keeps (l : Launch) (g : q_GP) (h : q_H) (hs : q_Stat h) (u : Nat) (hu : q_I h 124 51 = nI u) (hu2 : u ≤ 25) : q_Cd l g 0 mX10_keeps [.ref 124] h none (q_keep h u) := by
  refine q_CdV mvX10_keeps (Nat.le_of_ble_eq_true rfl) ?_
  unfold q_keep
  refine xe_aload_n dX10_keeps_0 rfl ?_
  refine xe_getIv dX10_keeps_1 flX10_246 (st124 hs) (by decide) rfl (v := nI u) (hu) ?_
  refine xe_bipush dX10_keeps_4 kb_25 ?_
  refine xn_icmp_ne (tgt := 50) dX10_keeps_6 rfl (by omega) (by omega) (fun c1 => ?_) (fun c1 => ?_)
  · have c_u : ¬ u = 25 := c1
    rw [if_neg c_u]
    refine xe_heap (q_kk_0 hu) ?_
    exact q_keeps2 l g h hs _ u (by omega) _ (And.intro rfl trivial)
  · have c_u : u = 25 := c1
    refine xe_iconst dX10_keeps_9 kc_0 ?_
    refine xe_istore_n (i := 1) dX10_keeps_10 rfl (by decide) rfl ?_
    refine xe_locals (L' := (fun i => [(0, .ref 124), (1, .int (nI i))]) 0) (And.intro rfl (And.intro rfl trivial)) ?_
    refine xe_heap (h2 := q_wI h 158 (q_shf (q_I h 158) 0)) (by rw [q_shf0, q_wsI]) ?_
    refine xe_for 41280 (fun i => [(0, .ref 124), (1, .int (nI i))]) (fun i => q_wI h 158 (q_shf (q_I h 158) i)) (fun i hi K => ?_) ?_
    · refine xe_iload_n dX10_keeps_11 rfl ?_
      refine xe_ldc_w dX10_keeps_12 coX10_365 ?_
      refine xe_top (v' := nI 41280) (by decide +kernel) ?_
      refine xn_icmp_ge (tgt := 40) dX10_keeps_15 rfl (by omega) (by omega) (fun c2 => ?_) (fun c2 => ?_)
      · omega
      · refine xe_aload_n dX10_keeps_18 rfl ?_
        refine xe_getP dX10_keeps_19 flX10_120 (st124 hs) (by decide) rfl (sp124_52 hs) ?_
        refine xe_iload_n dX10_keeps_22 rfl ?_
        refine xe_aload_n dX10_keeps_23 rfl ?_
        refine xe_getP dX10_keeps_24 flX10_120 (st124 hs) (by decide) rfl (sp124_52 hs) ?_
        refine xe_iload_n dX10_keeps_27 rfl ?_
        refine xe_sipush dX10_keeps_28 ks_1720 ?_
        refine xn_iadd dX10_keeps_31 ?_
        refine xn_iald dX10_keeps_32 (st158 hs) (by omega) (by decide) ?_
        refine xn_iast dX10_keeps_33 (st158 hs) (by omega) (by decide) ?_
        refine xn_iinc dX10_keeps_34 rfl kc_1 ?_
        refine xe_goto (tgt := 11) dX10_keeps_37 rfl ?_
        refine xe_heap (h2 := q_wI h 158 (q_shf (q_I h 158) (i + 1))) (by rw [q_wup, ← q_shfS]; rfl) ?_
        refine xe_locals (L' := (fun i => [(0, .ref 124), (1, .int (nI i))]) (i + 1)) (And.intro rfl (And.intro rfl trivial)) ?_
        exact K
    · refine xe_iload_n dX10_keeps_11 rfl ?_
      refine xe_ldc_w dX10_keeps_12 coX10_365 ?_
      refine xe_top (v' := nI 41280) (by decide +kernel) ?_
      refine xn_icmp_ge (tgt := 40) dX10_keeps_15 rfl (by omega) (by omega) (fun c3 => ?_) (fun c3 => ?_)
      · refine xe_aload_n dX10_keeps_40 rfl ?_
        refine xe_dup dX10_keeps_41 rfl ?_
        refine xe_getIv dX10_keeps_42 flX10_246 (st124 hs) (by decide) rfl (v := nI u) (hu) ?_
        refine xe_iconst dX10_keeps_45 kc_1 ?_
        refine xn_isub dX10_keeps_46 (by omega) ?_
        refine xe_putI dX10_keeps_47 flX10_246 (st124 hs) (by decide) rfl (Or.inl rfl) rfl rfl ?_
        rw [if_pos c_u]
        refine xe_heap (h2 := q_kk h (q_shf (q_I h 158) 41280) 24) ?_ ?_
        · unfold q_kk
          subst c_u
          rfl
        · exact q_keeps2 l g h hs _ 24 (by omega) _ (And.intro rfl trivial)
      · omega
