/-! the reference: the quilt -/
set_option maxHeartbeats 4000000 in
theorem c_X10_fillsComes (l : Launch) (g : q_GP) (h : q_H) (hs : q_Stat h) {lv nm nd nc mo : Nat} (hp : rm_P h lv nm nd nc mo) {LW : q_LW} (hL : rm_L h lv LW) {w : Nat} (hw : q_I h 155 200 = nI w) (hw2 : w < 2 ^ 20) {m hv : Nat} (hm : m < nm) (hhv : q_s8 (q_I h 155) (8 * m) = nI hv) (hv2 : hv < 2 ^ 30) : q_Ct l g 3 mX10_fillsComes [.ref 124, .int (nI m)] h (fun r h1 => r = none ∧ ∃ V p b FR CR, h1 = q_wI (q_wI (q_wI (q_wI (q_wI h 124 (upd (q_I h 124) 46 b)) 152 V) 153 p) 162 CR) 164 FR ∧ (∀ s2, s2 < 2 ^ nd → CR (256 * m + s2) = nI (q_cm (q_fi (q_I h 155) (q_I h 140) LW lv nc w m) hv nd s2)) ∧ ∀ k, k < 256 * m ∨ 256 * m + 2 ^ nd ≤ k → CR k = q_I h 162 k) := by
  obtain ⟨p1, p2, p3, p4, p5, p6, p7, p8, p9, p10⟩ := id hp
  have hpw : 2 ^ nd ≤ 256 := Nat.pow_le_pow_right (by decide) p6
  refine q_CtV mvX10_fillsComes (Nat.le_of_ble_eq_true rfl) ?_
  refine xe_aload_n dX10_fillsComes_0 rfl ?_
  refine xe_iload_n dX10_fillsComes_1 rfl ?_
  refine xe_callVI (d' := 0) (y' := mX10_haveOf) dX10_fillsComes_2 mlX10_319 mvX10_haveOf rfl (st124 hs) (by decide) rfl (by decide) (by decide) (Nat.le_of_ble_eq_true rfl) (c_X10_haveOf l g _ (by exact hs) _ (by omega)) rfl ?_
  refine xe_top (v' := nI hv) hhv ?_
  refine xe_istore_n (i := 2) dX10_fillsComes_5 rfl (by decide) rfl ?_
  refine xe_iconst dX10_fillsComes_6 kc_0 ?_
  refine xe_istore_n (i := 3) dX10_fillsComes_7 rfl (by decide) rfl ?_
  refine xe_fin (L' := (fun (i1 : Nat) (s1 : (Nat → Int32) × (Nat → Int32) × (Nat → Int32) × Int32) => [(0, .ref 124), (1, .int (nI m)), (2, .int (nI hv)), (3, .int (nI i1))]) 0 (q_I h 164, q_I h 152, q_I h 153, (q_I h 124 46))) (h' := (fun (i1 : Nat) (s1 : (Nat → Int32) × (Nat → Int32) × (Nat → Int32) × Int32) => (q_wI (q_wI (q_wI (q_wI h 124 (upd (q_I h 124) 46 s1.2.2.2)) 152 s1.2.1) 153 s1.2.2.1) 164 s1.1)) 0 (q_I h 164, q_I h 152, q_I h 153, (q_I h 124 46))) ?_ (And.intro rfl (And.intro rfl (And.intro rfl (And.intro rfl trivial)))) (q_heq [124, 152, 153, 164] (H := h) (by repeat (first | exact q_out_r | refine q_out_w rfl ?_)) (by repeat (first | exact q_out_r | refine q_out_w rfl ?_)) (And.intro (q_feq [46] (f := q_I h 124) (by repeat (first | exact q_fout_r | refine q_fout_w rfl ?_)) (by repeat (first | exact q_fout_r | refine q_fout_w rfl ?_)) (And.intro rfl trivial)) (And.intro rfl (And.intro rfl (And.intro rfl trivial)))))
  refine xe_loopI (σ := (Nat → Int32) × (Nat → Int32) × (Nat → Int32) × Int32) (nd) (fun i s => ∀ d, d < i → s.1 d = nI ((q_fi (q_I h 155) (q_I h 140) LW lv nc w m) d)) (fun (i1 : Nat) (s1 : (Nat → Int32) × (Nat → Int32) × (Nat → Int32) × Int32) => [(0, .ref 124), (1, .int (nI m)), (2, .int (nI hv)), (3, .int (nI i1))]) (fun (i1 : Nat) (s1 : (Nat → Int32) × (Nat → Int32) × (Nat → Int32) × Int32) => (q_wI (q_wI (q_wI (q_wI h 124 (upd (q_I h 124) 46 s1.2.2.2)) 152 s1.2.1) 153 s1.2.2.1) 164 s1.1)) (q_I h 164, q_I h 152, q_I h 153, (q_I h 124 46)) (fun d q => absurd q (Nat.not_lt_zero d)) (fun i1 hi1 s1 e1 K1 => ?_) (fun s1 e1 => ?_)
  · refine xe_iload_n dX10_fillsComes_8 rfl ?_
    refine xe_aload_n dX10_fillsComes_9 rfl ?_
    refine xe_getP dX10_fillsComes_10 flX10_55 (st124 hs) (by decide) rfl (sp124_26 hs) ?_
    refine xe_aload_n dX10_fillsComes_13 rfl ?_
    refine xe_getIv dX10_fillsComes_14 flX10_228 (st124 hs) (by decide) rfl (v := nI lv) (p1) ?_
    refine xn_ialdv dX10_fillsComes_17 (st137 hs) (by omega) (by decide) (v := nI nd) (p5) ?_
    refine xn_icmp_ge (tgt := 39) dX10_fillsComes_18 rfl (by omega) (by omega) (fun c2 => ?_) (fun c2 => ?_)
    · omega
    · refine xe_aload_n dX10_fillsComes_21 rfl ?_
      refine xe_getP dX10_fillsComes_22 flX10_138 (st124 hs) (by decide) rfl (sp124_58 hs) ?_
      refine xe_iload_n dX10_fillsComes_25 rfl ?_
      refine xe_aload_n dX10_fillsComes_26 rfl ?_
      refine xe_iload_n dX10_fillsComes_27 rfl ?_
      refine xe_iload_n dX10_fillsComes_28 rfl ?_
      refine xe_callVIq (d' := 2) (y' := mX10_fineOf) dX10_fillsComes_29 mlX10_362 mvX10_fineOf rfl (st124 hs) (by decide) rfl (by decide) (by decide) (Nat.le_of_ble_eq_true rfl) (c_X10_fineOf l g _ (by exact hs) (by exact hp) (by exact rm_L_of (h := h) ⟨rfl, rfl, rfl, rfl, rfl, rfl, rfl, rfl, rfl⟩ hL) (by exact hw) (by omega) _ _ (by omega) (by omega)) rfl (fun h3 hq3 => ?_)
      obtain ⟨V3, p3_, b3, rfl⟩ := hq3
      refine xn_iast dX10_fillsComes_32 (st164 hs) (by omega) (by decide) ?_
      refine xn_iinc dX10_fillsComes_33 rfl kc_1 ?_
      refine xe_goto (tgt := 8) dX10_fillsComes_36 rfl ?_
      exact xe_fin (K1 (upd s1.1 i1 (q_fin (q_I h 155) (q_I h 140) LW lv nc w m i1), V3, p3_, b3) (fun d q => q_updw (fun e => by subst e; exact (q_fi_eq _ _ _ _ _ _ _ _).1) (fun e => e1 d (by omega)))) (And.intro rfl (And.intro rfl (And.intro rfl (And.intro rfl trivial)))) (q_heq [124, 152, 153, 164] (H := h) (by repeat (first | exact q_out_r | refine q_out_w rfl ?_)) (by repeat (first | exact q_out_r | refine q_out_w rfl ?_)) (And.intro (q_feq [46] (f := q_I h 124) (by repeat (first | exact q_fout_r | refine q_fout_w rfl ?_)) (by repeat (first | exact q_fout_r | refine q_fout_w rfl ?_)) (And.intro rfl trivial)) (And.intro rfl (And.intro rfl (And.intro rfl trivial)))))
  · refine xe_iload_n dX10_fillsComes_8 rfl ?_
    refine xe_aload_n dX10_fillsComes_9 rfl ?_
    refine xe_getP dX10_fillsComes_10 flX10_55 (st124 hs) (by decide) rfl (sp124_26 hs) ?_
    refine xe_aload_n dX10_fillsComes_13 rfl ?_
    refine xe_getIv dX10_fillsComes_14 flX10_228 (st124 hs) (by decide) rfl (v := nI lv) (p1) ?_
    refine xn_ialdv dX10_fillsComes_17 (st137 hs) (by omega) (by decide) (v := nI nd) (p5) ?_
    refine xn_icmp_ge (tgt := 39) dX10_fillsComes_18 rfl (by omega) (by omega) (fun c4 => ?_) (fun c4 => ?_)
    · refine xe_iconst dX10_fillsComes_39 kc_0 ?_
      refine xe_istore_n (i := 3) dX10_fillsComes_40 rfl (by decide) rfl ?_
      refine xe_fin (L' := (fun (i5 : Nat) (s5 : (Nat → Int32)) => [(0, .ref 124), (1, .int (nI m)), (2, .int (nI hv)), (3, .int (nI i5))]) 0 (q_I h 162)) (h' := (fun (i5 : Nat) (s5 : (Nat → Int32)) => (q_wI (q_wI (q_wI (q_wI (q_wI h 124 (upd (q_I h 124) 46 s1.2.2.2)) 152 s1.2.1) 153 s1.2.2.1) 162 s5) 164 s1.1)) 0 (q_I h 162)) ?_ (And.intro rfl (And.intro rfl (And.intro rfl (And.intro rfl trivial)))) (q_heq [124, 152, 153, 162, 164] (H := h) (by repeat (first | exact q_out_r | refine q_out_w rfl ?_)) (by repeat (first | exact q_out_r | refine q_out_w rfl ?_)) (And.intro (q_feq [46] (f := q_I h 124) (by repeat (first | exact q_fout_r | refine q_fout_w rfl ?_)) (by repeat (first | exact q_fout_r | refine q_fout_w rfl ?_)) (And.intro rfl trivial)) (And.intro rfl (And.intro rfl (And.intro rfl (And.intro rfl trivial))))))
      refine xe_loopI (σ := (Nat → Int32)) (2 ^ nd) (fun i s => (∀ s2, s2 < i → s (256 * m + s2) = nI (q_cm (q_fi (q_I h 155) (q_I h 140) LW lv nc w m) hv nd s2)) ∧ ∀ k, k < 256 * m ∨ 256 * m + 2 ^ nd ≤ k → s k = q_I h 162 k) (fun (i5 : Nat) (s5 : (Nat → Int32)) => [(0, .ref 124), (1, .int (nI m)), (2, .int (nI hv)), (3, .int (nI i5))]) (fun (i5 : Nat) (s5 : (Nat → Int32)) => (q_wI (q_wI (q_wI (q_wI (q_wI h 124 (upd (q_I h 124) 46 s1.2.2.2)) 152 s1.2.1) 153 s1.2.2.1) 162 s5) 164 s1.1)) (q_I h 162) (⟨fun _ q => absurd q (Nat.not_lt_zero _), fun _ _ => rfl⟩) (fun i5 hi5 s5 e5 K5 => ?_) (fun s5 e5 => ?_)
      · refine xe_iload_n dX10_fillsComes_41 rfl ?_
        refine xe_iconst dX10_fillsComes_42 kc_1 ?_
        refine xe_aload_n dX10_fillsComes_43 rfl ?_
        refine xe_getP dX10_fillsComes_44 flX10_55 (st124 hs) (by decide) rfl (sp124_26 hs) ?_
        refine xe_aload_n dX10_fillsComes_47 rfl ?_
        refine xe_getIv dX10_fillsComes_48 flX10_228 (st124 hs) (by decide) rfl (v := nI lv) (p1) ?_
        refine xn_ialdv dX10_fillsComes_51 (st137 hs) (by omega) (by decide) (v := nI nd) (p5) ?_
        refine xe_ishl dX10_fillsComes_52 ?_
        refine xe_top (v' := nI (2 ^ nd)) (q_pow_k nd (by omega)) ?_
        refine xn_icmp_ge (tgt := 134) dX10_fillsComes_53 rfl (by omega) (by omega) (fun c6 => ?_) (fun c6 => ?_)
        · omega
        · refine xe_iconst dX10_fillsComes_56 kc_0 ?_
          refine xe_istore dX10_fillsComes_57 (by decide) rfl ?_
          refine xe_iconst dX10_fillsComes_59 kc_0 ?_
          refine xe_istore dX10_fillsComes_60 (by decide) rfl ?_
          refine xe_fin (L' := (fun (i7 : Nat) (s7 : Nat) => [(0, .ref 124), (1, .int (nI m)), (2, .int (nI hv)), (3, .int (nI i5)), (4, .int (nI s7)), (5, .int (nI i7))]) 0 0) (h' := (fun (i7 : Nat) (s7 : Nat) => (q_wI (q_wI (q_wI (q_wI (q_wI h 124 (upd (q_I h 124) 46 s1.2.2.2)) 152 s1.2.1) 153 s1.2.2.1) 162 s5) 164 s1.1)) 0 0) ?_ (And.intro rfl (And.intro rfl (And.intro rfl (And.intro rfl (And.intro rfl (And.intro rfl trivial)))))) (q_heq [124, 152, 153, 162, 164] (H := h) (by repeat (first | exact q_out_r | refine q_out_w rfl ?_)) (by repeat (first | exact q_out_r | refine q_out_w rfl ?_)) (And.intro (q_feq [46] (f := q_I h 124) (by repeat (first | exact q_fout_r | refine q_fout_w rfl ?_)) (by repeat (first | exact q_fout_r | refine q_fout_w rfl ?_)) (And.intro rfl trivial)) (And.intro rfl (And.intro rfl (And.intro rfl (And.intro rfl trivial))))))
          refine xe_loopI (σ := Nat) (nd) (fun j s => s = q_sb (q_fi (q_I h 155) (q_I h 140) LW lv nc w m) i5 j) (fun (i7 : Nat) (s7 : Nat) => [(0, .ref 124), (1, .int (nI m)), (2, .int (nI hv)), (3, .int (nI i5)), (4, .int (nI s7)), (5, .int (nI i7))]) (fun (i7 : Nat) (s7 : Nat) => (q_wI (q_wI (q_wI (q_wI (q_wI h 124 (upd (q_I h 124) 46 s1.2.2.2)) 152 s1.2.1) 153 s1.2.2.1) 162 s5) 164 s1.1)) 0 (rfl) (fun i7 hi7 s7 e7 K7 => ?_) (fun s7 e7 => ?_)
          · refine xe_iload dX10_fillsComes_62 rfl ?_
            refine xe_aload_n dX10_fillsComes_64 rfl ?_
            refine xe_getP dX10_fillsComes_65 flX10_55 (st124 hs) (by decide) rfl (sp124_26 hs) ?_
            refine xe_aload_n dX10_fillsComes_68 rfl ?_
            refine xe_getIv dX10_fillsComes_69 flX10_228 (st124 hs) (by decide) rfl (v := nI lv) (p1) ?_
            refine xn_ialdv dX10_fillsComes_72 (st137 hs) (by omega) (by decide) (v := nI nd) (p5) ?_
            refine xn_icmp_ge (tgt := 104) dX10_fillsComes_73 rfl (by omega) (by omega) (fun c8 => ?_) (fun c8 => ?_)
            · omega
            · refine xe_iload_n dX10_fillsComes_76 rfl ?_
              refine xe_iload dX10_fillsComes_77 rfl ?_
              refine xe_ishr dX10_fillsComes_79 ?_
              refine xe_iconst dX10_fillsComes_80 kc_1 ?_
              refine xe_iand dX10_fillsComes_81 ?_
              refine xe_iconst dX10_fillsComes_82 kc_1 ?_
              refine xe_icmp_ne (tgt := 98) dX10_fillsComes_83 rfl (fun c9 => ?_) (fun c9 => ?_)
              · refine xn_iinc dX10_fillsComes_98 rfl kc_1 ?_
                refine xe_goto (tgt := 62) dX10_fillsComes_101 rfl ?_
                exact xe_fin (K7 s7 (by rw [e7]; exact (q_sb_n (fun q => c9 ((q_tb (by omega) (by omega)).mpr q))).symm)) (And.intro rfl (And.intro rfl (And.intro rfl (And.intro rfl (And.intro rfl (And.intro rfl trivial)))))) (q_heq [124, 152, 153, 162, 164] (H := h) (by repeat (first | exact q_out_r | refine q_out_w rfl ?_)) (by repeat (first | exact q_out_r | refine q_out_w rfl ?_)) (And.intro (q_feq [46] (f := q_I h 124) (by repeat (first | exact q_fout_r | refine q_fout_w rfl ?_)) (by repeat (first | exact q_fout_r | refine q_fout_w rfl ?_)) (And.intro rfl trivial)) (And.intro rfl (And.intro rfl (And.intro rfl (And.intro rfl trivial))))))
              · refine xe_iload dX10_fillsComes_86 rfl ?_
                refine xe_aload_n dX10_fillsComes_88 rfl ?_
                refine xe_getP dX10_fillsComes_89 flX10_138 (st124 hs) (by decide) rfl (sp124_58 hs) ?_
                refine xe_iload dX10_fillsComes_92 rfl ?_
                refine xn_ialdv dX10_fillsComes_94 (st164 hs) (by omega) (by decide) (v := nI ((q_fi (q_I h 155) (q_I h 140) LW lv nc w m) i7)) (e1 _ (by omega)) ?_
                refine xn_iadd dX10_fillsComes_95 ?_
                refine xe_istore dX10_fillsComes_96 (by decide) rfl ?_
                refine xn_iinc dX10_fillsComes_98 rfl kc_1 ?_
                refine xe_goto (tgt := 62) dX10_fillsComes_101 rfl ?_
                exact xe_fin (K7 (s7 + ((q_fi (q_I h 155) (q_I h 140) LW lv nc w m) i7)) (by rw [e7]; exact (q_sb_y ((q_tb (by omega) (by omega)).mp c9)).symm)) (And.intro rfl (And.intro rfl (And.intro rfl (And.intro rfl (And.intro rfl (And.intro rfl trivial)))))) (q_heq [124, 152, 153, 162, 164] (H := h) (by repeat (first | exact q_out_r | refine q_out_w rfl ?_)) (by repeat (first | exact q_out_r | refine q_out_w rfl ?_)) (And.intro (q_feq [46] (f := q_I h 124) (by repeat (first | exact q_fout_r | refine q_fout_w rfl ?_)) (by repeat (first | exact q_fout_r | refine q_fout_w rfl ?_)) (And.intro rfl trivial)) (And.intro rfl (And.intro rfl (And.intro rfl (And.intro rfl trivial))))))
          · refine xe_iload dX10_fillsComes_62 rfl ?_
            refine xe_aload_n dX10_fillsComes_64 rfl ?_
            refine xe_getP dX10_fillsComes_65 flX10_55 (st124 hs) (by decide) rfl (sp124_26 hs) ?_
            refine xe_aload_n dX10_fillsComes_68 rfl ?_
            refine xe_getIv dX10_fillsComes_69 flX10_228 (st124 hs) (by decide) rfl (v := nI lv) (p1) ?_
            refine xn_ialdv dX10_fillsComes_72 (st137 hs) (by omega) (by decide) (v := nI nd) (p5) ?_
            refine xn_icmp_ge (tgt := 104) dX10_fillsComes_73 rfl (by omega) (by omega) (fun c10 => ?_) (fun c10 => ?_)
            · refine xe_aload_n dX10_fillsComes_104 rfl ?_
              refine xe_getP dX10_fillsComes_105 flX10_132 (st124 hs) (by decide) rfl (sp124_56 hs) ?_
              refine xe_sipush dX10_fillsComes_108 ks_256 ?_
              refine xe_iload_n dX10_fillsComes_111 rfl ?_
              refine xn_imul dX10_fillsComes_112 ?_
              refine xe_iload_n dX10_fillsComes_113 rfl ?_
              refine xn_iadd dX10_fillsComes_114 ?_
              refine xe_iload dX10_fillsComes_115 rfl ?_
              refine xe_iload_n dX10_fillsComes_117 rfl ?_
              have hb1 := q_sb_le (f := (q_fi (q_I h 155) (q_I h 140) LW lv nc w m)) (s := i5) (c := 999) nd (fun d _ => (q_fi_eq _ _ _ _ _ _ _ _).2)
              subst e7
              refine xn_icmp_ge (tgt := 126) dX10_fillsComes_118 rfl (by omega) (by omega) (fun c11 => ?_) (fun c11 => ?_)
              · refine xe_iload_n dX10_fillsComes_126 rfl ?_
                refine xn_iast dX10_fillsComes_127 (st162 hs) (by omega) (by decide) ?_
                refine xn_iinc dX10_fillsComes_128 rfl kc_1 ?_
                refine xe_goto (tgt := 41) dX10_fillsComes_131 rfl ?_
                exact xe_fin (K5 (upd s5 ((256 * m) + i5) (nI hv)) (⟨fun s2 q => q_updw (fun e => (by have q2 : s2 = i5 := (by omega); subst q2; exact congrArg nI (if_pos c11).symm)) (fun e => e5.1 s2 (by omega)), fun k q => (pk_un (by omega)).trans (e5.2 k q)⟩)) (And.intro rfl (And.intro rfl (And.intro rfl (And.intro rfl trivial)))) (q_heq [124, 152, 153, 162, 164] (H := h) (by repeat (first | exact q_out_r | refine q_out_w rfl ?_)) (by repeat (first | exact q_out_r | refine q_out_w rfl ?_)) (And.intro (q_feq [46] (f := q_I h 124) (by repeat (first | exact q_fout_r | refine q_fout_w rfl ?_)) (by repeat (first | exact q_fout_r | refine q_fout_w rfl ?_)) (And.intro rfl trivial)) (And.intro rfl (And.intro rfl (And.intro rfl (And.intro rfl trivial))))))
              · refine xe_iload dX10_fillsComes_121 rfl ?_
                refine xe_goto (tgt := 127) dX10_fillsComes_123 rfl ?_
                refine xn_iast dX10_fillsComes_127 (st162 hs) (by omega) (by decide) ?_
                refine xn_iinc dX10_fillsComes_128 rfl kc_1 ?_
                refine xe_goto (tgt := 41) dX10_fillsComes_131 rfl ?_
                exact xe_fin (K5 (upd s5 ((256 * m) + i5) (nI (q_sb (q_fi (q_I h 155) (q_I h 140) LW lv nc w m) i5 nd))) (⟨fun s2 q => q_updw (fun e => (by have q2 : s2 = i5 := (by omega); subst q2; exact congrArg nI (if_neg c11).symm)) (fun e => e5.1 s2 (by omega)), fun k q => (pk_un (by omega)).trans (e5.2 k q)⟩)) (And.intro rfl (And.intro rfl (And.intro rfl (And.intro rfl trivial)))) (q_heq [124, 152, 153, 162, 164] (H := h) (by repeat (first | exact q_out_r | refine q_out_w rfl ?_)) (by repeat (first | exact q_out_r | refine q_out_w rfl ?_)) (And.intro (q_feq [46] (f := q_I h 124) (by repeat (first | exact q_fout_r | refine q_fout_w rfl ?_)) (by repeat (first | exact q_fout_r | refine q_fout_w rfl ?_)) (And.intro rfl trivial)) (And.intro rfl (And.intro rfl (And.intro rfl (And.intro rfl trivial))))))
            · omega
      · refine xe_iload_n dX10_fillsComes_41 rfl ?_
        refine xe_iconst dX10_fillsComes_42 kc_1 ?_
        refine xe_aload_n dX10_fillsComes_43 rfl ?_
        refine xe_getP dX10_fillsComes_44 flX10_55 (st124 hs) (by decide) rfl (sp124_26 hs) ?_
        refine xe_aload_n dX10_fillsComes_47 rfl ?_
        refine xe_getIv dX10_fillsComes_48 flX10_228 (st124 hs) (by decide) rfl (v := nI lv) (p1) ?_
        refine xn_ialdv dX10_fillsComes_51 (st137 hs) (by omega) (by decide) (v := nI nd) (p5) ?_
        refine xe_ishl dX10_fillsComes_52 ?_
        refine xe_top (v' := nI (2 ^ nd)) (q_pow_k nd (by omega)) ?_
        refine xn_icmp_ge (tgt := 134) dX10_fillsComes_53 rfl (by omega) (by omega) (fun c12 => ?_) (fun c12 => ?_)
        · refine xe_return dX10_fillsComes_134 rfl ?_
          exact ⟨rfl, _, _, _, _, _, rfl, e5.1, e5.2⟩
        · omega
    · omega
theorem q_stw {n c : Nat} (hn : n < 2 ^ 30) (hc : c < 2 ^ 30) : (0 ≤ nI n - nI c ↔ c ≤ n) := by
  have h1 : (nI n).toInt = n := nI_toInt (by omega)
  have h2 : (nI c).toInt = c := nI_toInt (by omega)
  have h3 : (nI n - nI c).toInt = (n : Int) - c := by
    rw [Int32.toInt_sub, h1, h2]
    exact Int.bmod_eq_of_le (by omega) (by omega)
  rw [Int32.le_iff_toInt_le, h3]
  show (0 : Int) ≤ _ ↔ _
  omega
theorem c_X10_stillWanted (l : Launch) (g : q_GP) (h : q_H) (hs : q_Stat h) {n m s c : Nat} (hm : m < 8) (hs2 : s < 256) (hc : q_I h 162 (256 * m + s) = nI c) (hc2 : c < 2 ^ 30) (hn : n < 2 ^ 30) : q_Cd l g 0 mX10_stillWanted [.ref 124, .int (nI n), .int (nI m), .int (nI s)] h (some (.int (nI (n - c)))) h := by
  refine q_CdV mvX10_stillWanted (Nat.le_of_ble_eq_true rfl) ?_
  refine xe_iload_n dX10_stillWanted_0 rfl ?_
  refine xe_aload_n dX10_stillWanted_1 rfl ?_
  refine xe_getP dX10_stillWanted_2 flX10_132 (st124 hs) (by decide) rfl (sp124_56 hs) ?_
  refine xe_sipush dX10_stillWanted_5 ks_256 ?_
  refine xe_iload_n dX10_stillWanted_8 rfl ?_
  refine xn_imul dX10_stillWanted_9 ?_
  refine xe_iload_n dX10_stillWanted_10 rfl ?_
  refine xn_iadd dX10_stillWanted_11 ?_
  refine xn_ialdv dX10_stillWanted_12 (st162 hs) (by omega) (by decide) (v := nI c) (hc) ?_
  refine xe_isub dX10_stillWanted_13 ?_
  refine xe_istore dX10_stillWanted_14 (by decide) rfl ?_
  refine xe_iload dX10_stillWanted_16 rfl ?_
  refine xe_if_ge (tgt := 25) dX10_stillWanted_18 rfl (fun c1 => ?_) (fun c1 => ?_)
  · refine xe_iload dX10_stillWanted_25 rfl ?_
    refine xe_ireturn dX10_stillWanted_27 rfl (by first | rfl | decide +kernel) ?_
    exact ⟨congrArg (fun v => some (Value.int v)) (pk_sub ((q_stw hn hc2).mp c1)), rfl⟩
  · refine xe_iconst dX10_stillWanted_21 kc_0 ?_
    refine xe_goto (tgt := 27) dX10_stillWanted_22 rfl ?_
    refine xe_ireturn dX10_stillWanted_27 rfl (by first | rfl | decide +kernel) ?_
    exact ⟨congrArg (fun v => some (Value.int v)) (congrArg nI (show 0 = n - c by have q : ¬ c ≤ n := fun q => c1 ((q_stw hn hc2).mpr q); omega)), rfl⟩
set_option maxHeartbeats 8000000 in
theorem c_X10_fillsQuilt (l : Launch) (g : q_GP) (h : q_H) (hs : q_Stat h) {lv nm nd nc mo : Nat} (hp : rm_P h lv nm nd nc mo) {LW : q_LW} (hL : rm_L h lv LW) {w : Nat} (hw : q_I h 154 200 = nI w) (hw2 : w < 2 ^ 20) {gu hv : Nat → Nat} (hgu : ∀ d, d < nd → q_I h 138 (8 * lv + d) = nI (gu d) ∧ gu d ≤ 99) (hhv : ∀ m, m < nm → q_s8 (q_I h 154) (8 * m) = nI (hv m) ∧ hv m < 2 ^ 30) {n : Nat} (hn : n ≤ 400) : q_Ct l g 4 mX10_fillsQuilt [.ref 124, .int (nI n)] h (fun r h1 => q_mag h h1 ∧ ((q_lg nm (2 ^ nd) (fun s => q_sb gu s nd) (fun m => q_cm (q_fi (q_I h 154) (q_I h 140) LW lv nc w m) (hv m) nd) nm n < 1000000 ∧ r = some (.int (nI 1)) ∧ q_I h1 161 n = nI (q_lg nm (2 ^ nd) (fun s => q_sb gu s nd) (fun m => q_cm (q_fi (q_I h 154) (q_I h 140) LW lv nc w m) (hv m) nd) nm n) ∧ (∀ m, m < nm → q_I h1 165 m = nI (q_chs nm (2 ^ nd) (fun s => q_sb gu s nd) (fun m => q_cm (q_fi (q_I h 154) (q_I h 140) LW lv nc w m) (hv m) nd) n m)) ∧ ∀ m, m < nm → ∀ s2, s2 < 2 ^ nd → q_I h1 162 (256 * m + s2) = nI ((fun m => q_cm (q_fi (q_I h 154) (q_I h 140) LW lv nc w m) (hv m) nd) m s2)) ∨ (¬ q_lg nm (2 ^ nd) (fun s => q_sb gu s nd) (fun m => q_cm (q_fi (q_I h 154) (q_I h 140) LW lv nc w m) (hv m) nd) nm n < 1000000 ∧ r = some (.int (nI 0))))) := by
  obtain ⟨p1, p2, p3, p4, p5, p6, p7, p8, p9, p10⟩ := id hp
  have hpw : 2 ^ nd ≤ 256 := Nat.pow_le_pow_right (by decide) p6
  have hgsb : ∀ s, (fun s => q_sb gu s nd) s ≤ 99 * nd := fun s => q_sb_le nd (fun d hd => (hgu d hd).2)
  have hfi : ∀ m, m < nm → ∀ s, q_cm (q_fi (q_cpy (q_I h 154) (q_I h 155) 210) (q_I h 140) LW lv nc w m) (hv m) nd s = (fun m => q_cm (q_fi (q_I h 154) (q_I h 140) LW lv nc w m) (hv m) nd) m s := fun m hm s => q_cm_co (fun d hd => by
    show Int32.toNatClampNeg _ = Int32.toNatClampNeg _
    rw [q_fin_rq (q_req_cpy (q_I h 154) (q_I h 155) (n := 210) (by decide)) _ _ _ _ _ (by omega) (by omega)])
  have hcmb : ∀ m, m < nm → ∀ s, (fun m => q_cm (q_fi (q_I h 154) (q_I h 140) LW lv nc w m) (hv m) nd) m s < 2 ^ 30 := fun m hm s => by
    have := (hhv m hm).2
    show (if hv m ≤ _ then hv m else _) < 2 ^ 30
    split <;> omega
  refine q_CtV mvX10_fillsQuilt (Nat.le_of_ble_eq_true rfl) ?_
  refine xe_aload_n dX10_fillsQuilt_0 rfl ?_
  refine xe_callVV (d' := 0) (y' := mX10_copies) dX10_fillsQuilt_1 mlX10_343 mvX10_copies rfl (st124 hs) (by decide) rfl (by decide) (by decide) (Nat.le_of_ble_eq_true rfl) (c_X10_copies l g _ (by exact hs)) rfl ?_
  refine xe_iconst dX10_fillsQuilt_4 kc_0 ?_
  refine xe_istore_n (i := 2) dX10_fillsQuilt_5 rfl (by decide) rfl ?_
  refine xe_fin (L' := (fun (i1 : Nat) (s1 : (Nat → Int32)) => [(0, .ref 124), (1, .int (nI n)), (2, .int (nI i1))]) 0 (q_I h 163)) (h' := (fun (i1 : Nat) (s1 : (Nat → Int32)) => (q_wI (q_wI h 155 (q_cpy (q_I h 154) (q_I h 155) 210)) 163 s1)) 0 (q_I h 163)) ?_ (And.intro rfl (And.intro rfl (And.intro rfl trivial))) (q_heq [155, 163] (H := h) (by repeat (first | exact q_out_r | refine q_out_w rfl ?_)) (by repeat (first | exact q_out_r | refine q_out_w rfl ?_)) (And.intro rfl (And.intro rfl trivial)))
  refine xe_loopI (σ := (Nat → Int32)) (2 ^ nd) (fun i s => ∀ s2, s2 < i → s s2 = nI ((fun s => q_sb gu s nd) s2)) (fun (i1 : Nat) (s1 : (Nat → Int32)) => [(0, .ref 124), (1, .int (nI n)), (2, .int (nI i1))]) (fun (i1 : Nat) (s1 : (Nat → Int32)) => (q_wI (q_wI h 155 (q_cpy (q_I h 154) (q_I h 155) 210)) 163 s1)) (q_I h 163) (fun _ q => absurd q (Nat.not_lt_zero _)) (fun i1 hi1 s1 e1 K1 => ?_) (fun s1 e1 => ?_)
  · refine xe_iload_n dX10_fillsQuilt_6 rfl ?_
    refine xe_iconst dX10_fillsQuilt_7 kc_1 ?_
    refine xe_aload_n dX10_fillsQuilt_8 rfl ?_
    refine xe_getP dX10_fillsQuilt_9 flX10_55 (st124 hs) (by decide) rfl (sp124_26 hs) ?_
    refine xe_aload_n dX10_fillsQuilt_12 rfl ?_
    refine xe_getIv dX10_fillsQuilt_13 flX10_228 (st124 hs) (by decide) rfl (v := nI lv) (p1) ?_
    refine xn_ialdv dX10_fillsQuilt_16 (st137 hs) (by omega) (by decide) (v := nI nd) (p5) ?_
    refine xe_ishl dX10_fillsQuilt_17 ?_
    refine xe_top (v' := nI (2 ^ nd)) (q_pow_k nd (by omega)) ?_
    refine xn_icmp_ge (tgt := 87) dX10_fillsQuilt_18 rfl (by omega) (by omega) (fun c2 => ?_) (fun c2 => ?_)
    · omega
    · refine xe_aload_n dX10_fillsQuilt_21 rfl ?_
      refine xe_getP dX10_fillsQuilt_22 flX10_135 (st124 hs) (by decide) rfl (sp124_57 hs) ?_
      refine xe_iload_n dX10_fillsQuilt_25 rfl ?_
      refine xe_iconst dX10_fillsQuilt_26 kc_0 ?_
      refine xn_iast dX10_fillsQuilt_27 (st163 hs) (by omega) (by decide) ?_
      refine xe_iconst dX10_fillsQuilt_28 kc_0 ?_
      refine xe_istore_n (i := 3) dX10_fillsQuilt_29 rfl (by decide) rfl ?_
      refine xe_fin (L' := (fun (i3 : Nat) (s3 : (Nat → Int32)) => [(0, .ref 124), (1, .int (nI n)), (2, .int (nI i1)), (3, .int (nI i3))]) 0 (upd s1 i1 (nI 0))) (h' := (fun (i3 : Nat) (s3 : (Nat → Int32)) => (q_wI (q_wI h 155 (q_cpy (q_I h 154) (q_I h 155) 210)) 163 s3)) 0 (upd s1 i1 (nI 0))) ?_ (And.intro rfl (And.intro rfl (And.intro rfl (And.intro rfl trivial)))) (q_heq [155, 163] (H := h) (by repeat (first | exact q_out_r | refine q_out_w rfl ?_)) (by repeat (first | exact q_out_r | refine q_out_w rfl ?_)) (And.intro rfl (And.intro rfl trivial)))
      refine xe_loopI (σ := (Nat → Int32)) (nd) (fun j s => s i1 = nI (q_sb gu i1 j) ∧ ∀ s2, s2 < i1 → s s2 = nI ((fun s => q_sb gu s nd) s2)) (fun (i3 : Nat) (s3 : (Nat → Int32)) => [(0, .ref 124), (1, .int (nI n)), (2, .int (nI i1)), (3, .int (nI i3))]) (fun (i3 : Nat) (s3 : (Nat → Int32)) => (q_wI (q_wI h 155 (q_cpy (q_I h 154) (q_I h 155) 210)) 163 s3)) (upd s1 i1 (nI 0)) (⟨pk_us, fun s2 q => (pk_un (by omega)).trans (e1 s2 q)⟩) (fun i3 hi3 s3 e3 K3 => ?_) (fun s3 e3 => ?_)
      · refine xe_iload_n dX10_fillsQuilt_30 rfl ?_
        refine xe_aload_n dX10_fillsQuilt_31 rfl ?_
        refine xe_getP dX10_fillsQuilt_32 flX10_55 (st124 hs) (by decide) rfl (sp124_26 hs) ?_
        refine xe_aload_n dX10_fillsQuilt_35 rfl ?_
        refine xe_getIv dX10_fillsQuilt_36 flX10_228 (st124 hs) (by decide) rfl (v := nI lv) (p1) ?_
        refine xn_ialdv dX10_fillsQuilt_39 (st137 hs) (by omega) (by decide) (v := nI nd) (p5) ?_
        refine xn_icmp_ge (tgt := 81) dX10_fillsQuilt_40 rfl (by omega) (by omega) (fun c4 => ?_) (fun c4 => ?_)
        · omega
        · refine xe_iload_n dX10_fillsQuilt_43 rfl ?_
          refine xe_iload_n dX10_fillsQuilt_44 rfl ?_
          refine xe_ishr dX10_fillsQuilt_45 ?_
          refine xe_iconst dX10_fillsQuilt_46 kc_1 ?_
          refine xe_iand dX10_fillsQuilt_47 ?_
          refine xe_iconst dX10_fillsQuilt_48 kc_1 ?_
          refine xe_icmp_ne (tgt := 75) dX10_fillsQuilt_49 rfl (fun c5 => ?_) (fun c5 => ?_)
          · refine xn_iinc dX10_fillsQuilt_75 rfl kc_1 ?_
            refine xe_goto (tgt := 30) dX10_fillsQuilt_78 rfl ?_
            exact xe_fin (K3 s3 (⟨e3.1.trans (congrArg nI (q_sb_n (fun q => c5 ((q_tb (by omega) (by omega)).mpr q))).symm), e3.2⟩)) (And.intro rfl (And.intro rfl (And.intro rfl (And.intro rfl trivial)))) (q_heq [155, 163] (H := h) (by repeat (first | exact q_out_r | refine q_out_w rfl ?_)) (by repeat (first | exact q_out_r | refine q_out_w rfl ?_)) (And.intro rfl (And.intro rfl trivial)))
          · refine xe_aload_n dX10_fillsQuilt_52 rfl ?_
            refine xe_getP dX10_fillsQuilt_53 flX10_135 (st124 hs) (by decide) rfl (sp124_57 hs) ?_
            refine xe_iload_n dX10_fillsQuilt_56 rfl ?_
            refine xe_dup2 dX10_fillsQuilt_57 rfl rfl ?_
            refine xn_ialdv dX10_fillsQuilt_58 (st163 hs) (by omega) (by decide) (v := nI (q_sb gu i1 i3)) (e3.1) ?_
            refine xe_aload_n dX10_fillsQuilt_59 rfl ?_
            refine xe_getP dX10_fillsQuilt_60 flX10_58 (st124 hs) (by decide) rfl (sp124_27 hs) ?_
            refine xe_bipush dX10_fillsQuilt_63 kb_8 ?_
            refine xe_aload_n dX10_fillsQuilt_65 rfl ?_
            refine xe_getIv dX10_fillsQuilt_66 flX10_228 (st124 hs) (by decide) rfl (v := nI lv) (p1) ?_
            refine xn_imul dX10_fillsQuilt_69 ?_
            refine xe_iload_n dX10_fillsQuilt_70 rfl ?_
            refine xn_iadd dX10_fillsQuilt_71 ?_
            refine xn_ialdv dX10_fillsQuilt_72 (st138 hs) (by omega) (by decide) (v := nI (gu i3)) ((hgu _ (by omega)).1) ?_
            refine xn_iadd dX10_fillsQuilt_73 ?_
            refine xn_iast dX10_fillsQuilt_74 (st163 hs) (by omega) (by decide) ?_
            refine xn_iinc dX10_fillsQuilt_75 rfl kc_1 ?_
            refine xe_goto (tgt := 30) dX10_fillsQuilt_78 rfl ?_
            exact xe_fin (K3 (upd s3 i1 (nI ((q_sb gu i1 i3) + (gu i3)))) (⟨pk_us.trans (congrArg nI (q_sb_y ((q_tb (by omega) (by omega)).mp c5)).symm), fun s2 q => (pk_un (by omega)).trans (e3.2 s2 q)⟩)) (And.intro rfl (And.intro rfl (And.intro rfl (And.intro rfl trivial)))) (q_heq [155, 163] (H := h) (by repeat (first | exact q_out_r | refine q_out_w rfl ?_)) (by repeat (first | exact q_out_r | refine q_out_w rfl ?_)) (And.intro rfl (And.intro rfl trivial)))
      · refine xe_iload_n dX10_fillsQuilt_30 rfl ?_
        refine xe_aload_n dX10_fillsQuilt_31 rfl ?_
        refine xe_getP dX10_fillsQuilt_32 flX10_55 (st124 hs) (by decide) rfl (sp124_26 hs) ?_
        refine xe_aload_n dX10_fillsQuilt_35 rfl ?_
        refine xe_getIv dX10_fillsQuilt_36 flX10_228 (st124 hs) (by decide) rfl (v := nI lv) (p1) ?_
        refine xn_ialdv dX10_fillsQuilt_39 (st137 hs) (by omega) (by decide) (v := nI nd) (p5) ?_
        refine xn_icmp_ge (tgt := 81) dX10_fillsQuilt_40 rfl (by omega) (by omega) (fun c6 => ?_) (fun c6 => ?_)
        · refine xn_iinc dX10_fillsQuilt_81 rfl kc_1 ?_
          refine xe_goto (tgt := 6) dX10_fillsQuilt_84 rfl ?_
          exact xe_fin (K1 s3 (fun s2 q => if e : s2 = i1 then by subst e; exact e3.1 else e3.2 s2 (by omega))) (And.intro rfl (And.intro rfl (And.intro rfl trivial))) (q_heq [155, 163] (H := h) (by repeat (first | exact q_out_r | refine q_out_w rfl ?_)) (by repeat (first | exact q_out_r | refine q_out_w rfl ?_)) (And.intro rfl (And.intro rfl trivial)))
        · omega
  · refine xe_iload_n dX10_fillsQuilt_6 rfl ?_
    refine xe_iconst dX10_fillsQuilt_7 kc_1 ?_
    refine xe_aload_n dX10_fillsQuilt_8 rfl ?_
    refine xe_getP dX10_fillsQuilt_9 flX10_55 (st124 hs) (by decide) rfl (sp124_26 hs) ?_
    refine xe_aload_n dX10_fillsQuilt_12 rfl ?_
    refine xe_getIv dX10_fillsQuilt_13 flX10_228 (st124 hs) (by decide) rfl (v := nI lv) (p1) ?_
    refine xn_ialdv dX10_fillsQuilt_16 (st137 hs) (by omega) (by decide) (v := nI nd) (p5) ?_
    refine xe_ishl dX10_fillsQuilt_17 ?_
    refine xe_top (v' := nI (2 ^ nd)) (q_pow_k nd (by omega)) ?_
    refine xn_icmp_ge (tgt := 87) dX10_fillsQuilt_18 rfl (by omega) (by omega) (fun c7 => ?_) (fun c7 => ?_)
    · refine xe_aload_n dX10_fillsQuilt_87 rfl ?_
      refine xe_getP dX10_fillsQuilt_88 flX10_49 (st124 hs) (by decide) rfl (sp124_24 hs) ?_
      refine xe_aload_n dX10_fillsQuilt_91 rfl ?_
      refine xe_getIv dX10_fillsQuilt_92 flX10_228 (st124 hs) (by decide) rfl (v := nI lv) (p1) ?_
      refine xn_ialdv dX10_fillsQuilt_95 (st135 hs) (by omega) (by decide) (v := nI nm) (p3) ?_
      refine xe_istore_n (i := 2) dX10_fillsQuilt_96 rfl (by decide) rfl ?_
      refine xe_iconst dX10_fillsQuilt_97 kc_0 ?_
      refine xe_istore_n (i := 3) dX10_fillsQuilt_98 rfl (by decide) rfl ?_
      refine xe_fin (L' := (fun (i8 : Nat) (s8 : (Nat → Int32)) => [(0, .ref 124), (1, .int (nI n)), (2, .int (nI nm)), (3, .int (nI i8))]) 0 (q_I h 161)) (h' := (fun (i8 : Nat) (s8 : (Nat → Int32)) => (q_wI (q_wI (q_wI h 155 (q_cpy (q_I h 154) (q_I h 155) 210)) 161 s8) 163 s1)) 0 (q_I h 161)) ?_ (And.intro rfl (And.intro rfl (And.intro rfl (And.intro rfl trivial)))) (q_heq [155, 161, 163] (H := h) (by repeat (first | exact q_out_r | refine q_out_w rfl ?_)) (by repeat (first | exact q_out_r | refine q_out_w rfl ?_)) (And.intro rfl (And.intro rfl (And.intro rfl trivial))))
      refine xe_loopI (σ := (Nat → Int32)) (n + 1) (fun i s => ∀ k, k < i → s (401 * nm + k) = nI (q_lg nm (2 ^ nd) (fun s => q_sb gu s nd) (fun m => q_cm (q_fi (q_I h 154) (q_I h 140) LW lv nc w m) (hv m) nd) 0 k)) (fun (i8 : Nat) (s8 : (Nat → Int32)) => [(0, .ref 124), (1, .int (nI n)), (2, .int (nI nm)), (3, .int (nI i8))]) (fun (i8 : Nat) (s8 : (Nat → Int32)) => (q_wI (q_wI (q_wI h 155 (q_cpy (q_I h 154) (q_I h 155) 210)) 161 s8) 163 s1)) (q_I h 161) (fun _ q => absurd q (Nat.not_lt_zero _)) (fun i8 hi8 s8 e8 K8 => ?_) (fun s8 e8 => ?_)
      · refine xe_iload_n dX10_fillsQuilt_99 rfl ?_
        refine xe_iload_n dX10_fillsQuilt_100 rfl ?_
        refine xn_icmp_gt (tgt := 133) dX10_fillsQuilt_101 rfl (by omega) (by omega) (fun c9 => ?_) (fun c9 => ?_)
        · omega
        · refine xe_aload_n dX10_fillsQuilt_104 rfl ?_
          refine xe_getP dX10_fillsQuilt_105 flX10_129 (st124 hs) (by decide) rfl (sp124_55 hs) ?_
          refine xe_sipush dX10_fillsQuilt_108 ks_401 ?_
          refine xe_iload_n dX10_fillsQuilt_111 rfl ?_
          refine xn_imul dX10_fillsQuilt_112 ?_
          refine xe_iload_n dX10_fillsQuilt_113 rfl ?_
          refine xn_iadd dX10_fillsQuilt_114 ?_
          refine xe_iload_n dX10_fillsQuilt_115 rfl ?_
          refine xn_if_ne (tgt := 123) dX10_fillsQuilt_116 rfl (by omega) (fun c10 => ?_) (fun c10 => ?_)
          · refine xe_ldc_w dX10_fillsQuilt_123 coX10_385 ?_
            refine xe_top (v' := nI 1000000) (by decide +kernel) ?_
            refine xn_iast dX10_fillsQuilt_126 (st161 hs) (by omega) (by decide) ?_
            refine xn_iinc dX10_fillsQuilt_127 rfl kc_1 ?_
            refine xe_goto (tgt := 99) dX10_fillsQuilt_130 rfl ?_
            exact xe_fin (K8 (upd s8 ((401 * nm) + i8) (nI 1000000)) (fun k q => q_updw (fun e => by have q2 : k = i8 := (by omega); subst q2; exact congrArg nI (if_neg c10).symm) (fun e => e8 k (by omega)))) (And.intro rfl (And.intro rfl (And.intro rfl (And.intro rfl trivial)))) (q_heq [155, 161, 163] (H := h) (by repeat (first | exact q_out_r | refine q_out_w rfl ?_)) (by repeat (first | exact q_out_r | refine q_out_w rfl ?_)) (And.intro rfl (And.intro rfl (And.intro rfl trivial))))
          · refine xe_iconst dX10_fillsQuilt_119 kc_0 ?_
            refine xe_goto (tgt := 126) dX10_fillsQuilt_120 rfl ?_
            refine xn_iast dX10_fillsQuilt_126 (st161 hs) (by omega) (by decide) ?_
            refine xn_iinc dX10_fillsQuilt_127 rfl kc_1 ?_
            refine xe_goto (tgt := 99) dX10_fillsQuilt_130 rfl ?_
            exact xe_fin (K8 (upd s8 ((401 * nm) + i8) (nI 0)) (fun k q => q_updw (fun e => by have q2 : k = i8 := (by omega); subst q2; exact congrArg nI (if_pos c10).symm) (fun e => e8 k (by omega)))) (And.intro rfl (And.intro rfl (And.intro rfl (And.intro rfl trivial)))) (q_heq [155, 161, 163] (H := h) (by repeat (first | exact q_out_r | refine q_out_w rfl ?_)) (by repeat (first | exact q_out_r | refine q_out_w rfl ?_)) (And.intro rfl (And.intro rfl (And.intro rfl trivial))))
      · refine xe_iload_n dX10_fillsQuilt_99 rfl ?_
        refine xe_iload_n dX10_fillsQuilt_100 rfl ?_
        refine xn_icmp_gt (tgt := 133) dX10_fillsQuilt_101 rfl (by omega) (by omega) (fun c11 => ?_) (fun c11 => ?_)
        · refine xe_iload_n dX10_fillsQuilt_133 rfl ?_
          refine xe_iconst dX10_fillsQuilt_134 kc_1 ?_
          refine xe_isub dX10_fillsQuilt_135 ?_
          refine xe_istore_n (i := 3) dX10_fillsQuilt_136 rfl (by decide) rfl ?_
          refine xe_fin (L' := (fun (i_m : Nat) (s12 : (Nat → Int32) × (Nat → Int32) × (Nat → Int32) × (Nat → Int32) × (Nat → Int32) × Int32) => [(0, .ref 124), (1, .int (nI n)), (2, .int (nI nm)), (3, .int (nI (nm - i_m) - nI 1))]) 0 (s8, q_I h 162, q_I h 164, q_I h 152, q_I h 153, (q_I h 124 46))) (h' := (fun (i_m : Nat) (s12 : (Nat → Int32) × (Nat → Int32) × (Nat → Int32) × (Nat → Int32) × (Nat → Int32) × Int32) => (q_wI (q_wI (q_wI (q_wI (q_wI (q_wI (q_wI (q_wI h 124 (upd (q_I h 124) 46 s12.2.2.2.2.2)) 152 s12.2.2.2.1) 153 s12.2.2.2.2.1) 155 (q_cpy (q_I h 154) (q_I h 155) 210)) 161 s12.1) 162 s12.2.1) 163 s1) 164 s12.2.2.1)) 0 (s8, q_I h 162, q_I h 164, q_I h 152, q_I h 153, (q_I h 124 46))) ?_ (And.intro rfl (And.intro rfl (And.intro rfl (And.intro rfl trivial)))) (q_heq [124, 152, 153, 155, 161, 162, 163, 164] (H := h) (by repeat (first | exact q_out_r | refine q_out_w rfl ?_)) (by repeat (first | exact q_out_r | refine q_out_w rfl ?_)) (And.intro (q_feq [46] (f := q_I h 124) (by repeat (first | exact q_fout_r | refine q_fout_w rfl ?_)) (by repeat (first | exact q_fout_r | refine q_fout_w rfl ?_)) (And.intro rfl trivial)) (And.intro rfl (And.intro rfl (And.intro rfl (And.intro rfl (And.intro rfl (And.intro rfl (And.intro rfl trivial)))))))))
          refine xe_loopI (σ := (Nat → Int32) × (Nat → Int32) × (Nat → Int32) × (Nat → Int32) × (Nat → Int32) × Int32) (nm) (fun i s => (∀ j, j ≤ i → ∀ k, k ≤ n → s.1 (401 * (nm - j) + k) = nI (q_lg nm (2 ^ nd) (fun s => q_sb gu s nd) (fun m => q_cm (q_fi (q_I h 154) (q_I h 140) LW lv nc w m) (hv m) nd) j k)) ∧ ∀ m, m < nm → nm - i ≤ m → ∀ s2, s2 < 2 ^ nd → s.2.1 (256 * m + s2) = nI ((fun m => q_cm (q_fi (q_I h 154) (q_I h 140) LW lv nc w m) (hv m) nd) m s2)) (fun (i_m : Nat) (s12 : (Nat → Int32) × (Nat → Int32) × (Nat → Int32) × (Nat → Int32) × (Nat → Int32) × Int32) => [(0, .ref 124), (1, .int (nI n)), (2, .int (nI nm)), (3, .int (nI (nm - i_m) - nI 1))]) (fun (i_m : Nat) (s12 : (Nat → Int32) × (Nat → Int32) × (Nat → Int32) × (Nat → Int32) × (Nat → Int32) × Int32) => (q_wI (q_wI (q_wI (q_wI (q_wI (q_wI (q_wI (q_wI h 124 (upd (q_I h 124) 46 s12.2.2.2.2.2)) 152 s12.2.2.2.1) 153 s12.2.2.2.2.1) 155 (q_cpy (q_I h 154) (q_I h 155) 210)) 161 s12.1) 162 s12.2.1) 163 s1) 164 s12.2.2.1)) (s8, q_I h 162, q_I h 164, q_I h 152, q_I h 153, (q_I h 124 46)) (⟨fun j hj k hk => by obtain rfl : j = 0 := Nat.le_zero.mp hj; exact e8 k (by omega), fun m q1 q2 => absurd q1 (by omega)⟩) (fun i_m hi_m s12 e12 K12 => ?_) (fun s12 e12 => ?_)
          · refine xe_locals (L' := [(0, .ref 124), (1, .int (nI n)), (2, .int (nI nm)), (3, .int (nI (nm - 1 - i_m)))]) (And.intro rfl (And.intro rfl (And.intro rfl (And.intro (congrArg (fun v => some (Value.int v)) ((pk_sub (by omega)).trans (congrArg nI (by omega)))) trivial)))) ?_
            refine xe_iload_n dX10_fillsQuilt_137 rfl ?_
            refine xn_if_lt (tgt := 255) dX10_fillsQuilt_138 rfl (by omega) ?_
            refine xe_aload_n dX10_fillsQuilt_141 rfl ?_
            refine xe_iload_n dX10_fillsQuilt_142 rfl ?_
            refine xe_callVVq (d' := 3) (y' := mX10_fillsComes) dX10_fillsQuilt_143 mlX10_386 mvX10_fillsComes rfl (st124 hs) (by decide) rfl (by decide) (by decide) (Nat.le_of_ble_eq_true rfl) (c_X10_fillsComes l g _ (by exact hs) (by exact hp) (by exact rm_L_of (h := h) ⟨rfl, rfl, rfl, rfl, rfl, rfl, rfl, rfl, rfl⟩ hL) (by exact hw) (by omega) (m := nm - 1 - i_m) (hv := hv (nm - 1 - i_m)) (by omega) (by exact (q_s8_rq (q_req_cpy _ _ (by decide)) (by omega)).trans (hhv _ (by omega)).1) (hhv _ (by omega)).2) rfl (fun h14 hq14 => ?_)
            obtain ⟨V14, p14_, b14, FR14, CR14, rfl, hc1_14, hc2_14⟩ := hq14
            have hc3_14 : ∀ s2, s2 < 2 ^ nd → CR14 (256 * (nm - 1 - i_m) + s2) = nI ((fun m => q_cm (q_fi (q_I h 154) (q_I h 140) LW lv nc w m) (hv m) nd) (nm - 1 - i_m) s2) := fun s2 hs2 => (hc1_14 s2 hs2).trans (congrArg nI (hfi (nm - 1 - i_m) (by omega) s2))
            refine xe_iconst dX10_fillsQuilt_146 kc_0 ?_
            refine xe_istore dX10_fillsQuilt_147 (by decide) rfl ?_
            refine xe_fin (L' := (fun (k_ : Nat) (s15 : (Nat → Int32)) => [(0, .ref 124), (1, .int (nI n)), (2, .int (nI nm)), (3, .int (nI (nm - 1 - i_m))), (4, .int (nI k_))]) 0 s12.1) (h' := (fun (k_ : Nat) (s15 : (Nat → Int32)) => (q_wI (q_wI (q_wI (q_wI (q_wI (q_wI (q_wI (q_wI h 124 (upd (q_I h 124) 46 b14)) 152 V14) 153 p14_) 155 (q_cpy (q_I h 154) (q_I h 155) 210)) 161 s15) 162 CR14) 163 s1) 164 FR14)) 0 s12.1) ?_ (And.intro rfl (And.intro rfl (And.intro rfl (And.intro rfl (And.intro rfl trivial))))) (q_heq [124, 152, 153, 155, 161, 162, 163, 164] (H := h) (by repeat (first | exact q_out_r | refine q_out_w rfl ?_)) (by repeat (first | exact q_out_r | refine q_out_w rfl ?_)) (And.intro (q_feq [46] (f := q_I h 124) (by repeat (first | exact q_fout_r | refine q_fout_w rfl ?_)) (by repeat (first | exact q_fout_r | refine q_fout_w rfl ?_)) (And.intro rfl trivial)) (And.intro rfl (And.intro rfl (And.intro rfl (And.intro rfl (And.intro rfl (And.intro rfl (And.intro rfl trivial)))))))))
            refine xe_loopI (σ := (Nat → Int32)) (n + 1) (fun i s => (∀ j, j ≤ i_m → ∀ k, k ≤ n → s (401 * (nm - j) + k) = nI (q_lg nm (2 ^ nd) (fun s => q_sb gu s nd) (fun m => q_cm (q_fi (q_I h 154) (q_I h 140) LW lv nc w m) (hv m) nd) j k)) ∧ ∀ k, k < i → s (401 * (nm - 1 - i_m) + k) = nI (q_lg nm (2 ^ nd) (fun s => q_sb gu s nd) (fun m => q_cm (q_fi (q_I h 154) (q_I h 140) LW lv nc w m) (hv m) nd) (i_m + 1) k)) (fun (k_ : Nat) (s15 : (Nat → Int32)) => [(0, .ref 124), (1, .int (nI n)), (2, .int (nI nm)), (3, .int (nI (nm - 1 - i_m))), (4, .int (nI k_))]) (fun (k_ : Nat) (s15 : (Nat → Int32)) => (q_wI (q_wI (q_wI (q_wI (q_wI (q_wI (q_wI (q_wI h 124 (upd (q_I h 124) 46 b14)) 152 V14) 153 p14_) 155 (q_cpy (q_I h 154) (q_I h 155) 210)) 161 s15) 162 CR14) 163 s1) 164 FR14)) s12.1 (⟨e12.1, fun _ q => absurd q (Nat.not_lt_zero _)⟩) (fun k_ hk_ s15 e15 K15 => ?_) (fun s15 e15 => ?_)
            · refine xe_iload dX10_fillsQuilt_149 rfl ?_
              refine xe_iload_n dX10_fillsQuilt_151 rfl ?_
              refine xn_icmp_gt (tgt := 249) dX10_fillsQuilt_152 rfl (by omega) (by omega) (fun c16 => ?_) (fun c16 => ?_)
              · omega
              · refine xe_ldc_w dX10_fillsQuilt_155 coX10_385 ?_
                refine xe_top (v' := nI 1000000) (by decide +kernel) ?_
                refine xe_istore dX10_fillsQuilt_158 (by decide) rfl ?_
                refine xe_iconst dX10_fillsQuilt_160 kc_0 ?_
                refine xe_istore dX10_fillsQuilt_161 (by decide) rfl ?_
                refine xe_fin (L' := (fun (s_ : Nat) (s17 : Nat) => [(0, .ref 124), (1, .int (nI n)), (2, .int (nI nm)), (3, .int (nI (nm - 1 - i_m))), (4, .int (nI k_)), (5, .int (nI s17)), (6, .int (nI s_))]) 0 1000000) (h' := (fun (s_ : Nat) (s17 : Nat) => (q_wI (q_wI (q_wI (q_wI (q_wI (q_wI (q_wI (q_wI h 124 (upd (q_I h 124) 46 b14)) 152 V14) 153 p14_) 155 (q_cpy (q_I h 154) (q_I h 155) 210)) 161 s15) 162 CR14) 163 s1) 164 FR14)) 0 1000000) ?_ (And.intro rfl (And.intro rfl (And.intro rfl (And.intro rfl (And.intro rfl (And.intro rfl (And.intro rfl trivial))))))) (q_heq [124, 152, 153, 155, 161, 162, 163, 164] (H := h) (by repeat (first | exact q_out_r | refine q_out_w rfl ?_)) (by repeat (first | exact q_out_r | refine q_out_w rfl ?_)) (And.intro (q_feq [46] (f := q_I h 124) (by repeat (first | exact q_fout_r | refine q_fout_w rfl ?_)) (by repeat (first | exact q_fout_r | refine q_fout_w rfl ?_)) (And.intro rfl trivial)) (And.intro rfl (And.intro rfl (And.intro rfl (And.intro rfl (And.intro rfl (And.intro rfl (And.intro rfl trivial)))))))))
                refine xe_loopI (σ := Nat) (2 ^ nd) (fun i s => s = q_mn (fun s => (fun s => q_sb gu s nd) s + q_lg nm (2 ^ nd) (fun s => q_sb gu s nd) (fun m => q_cm (q_fi (q_I h 154) (q_I h 140) LW lv nc w m) (hv m) nd) i_m (k_ - (fun m => q_cm (q_fi (q_I h 154) (q_I h 140) LW lv nc w m) (hv m) nd) (nm - 1 - i_m) s)) i) (fun (s_ : Nat) (s17 : Nat) => [(0, .ref 124), (1, .int (nI n)), (2, .int (nI nm)), (3, .int (nI (nm - 1 - i_m))), (4, .int (nI k_)), (5, .int (nI s17)), (6, .int (nI s_))]) (fun (s_ : Nat) (s17 : Nat) => (q_wI (q_wI (q_wI (q_wI (q_wI (q_wI (q_wI (q_wI h 124 (upd (q_I h 124) 46 b14)) 152 V14) 153 p14_) 155 (q_cpy (q_I h 154) (q_I h 155) 210)) 161 s15) 162 CR14) 163 s1) 164 FR14)) 1000000 (rfl) (fun s_ hs_ s17 e17 K17 => ?_) (fun s17 e17 => ?_)
                · refine xe_iload dX10_fillsQuilt_163 rfl ?_
                  refine xe_iconst dX10_fillsQuilt_165 kc_1 ?_
                  refine xe_aload_n dX10_fillsQuilt_166 rfl ?_
                  refine xe_getP dX10_fillsQuilt_167 flX10_55 (st124 hs) (by decide) rfl (sp124_26 hs) ?_
                  refine xe_aload_n dX10_fillsQuilt_170 rfl ?_
                  refine xe_getIv dX10_fillsQuilt_171 flX10_228 (st124 hs) (by decide) rfl (v := nI lv) (p1) ?_
                  refine xn_ialdv dX10_fillsQuilt_174 (st137 hs) (by omega) (by decide) (v := nI nd) (p5) ?_
                  refine xe_ishl dX10_fillsQuilt_175 ?_
                  refine xe_top (v' := nI (2 ^ nd)) (q_pow_k nd (by omega)) ?_
                  refine xn_icmp_ge (tgt := 228) dX10_fillsQuilt_176 rfl (by omega) (by omega) (fun c18 => ?_) (fun c18 => ?_)
                  · omega
                  · refine xe_aload_n dX10_fillsQuilt_179 rfl ?_
                    refine xe_getP dX10_fillsQuilt_180 flX10_135 (st124 hs) (by decide) rfl (sp124_57 hs) ?_
                    refine xe_iload dX10_fillsQuilt_183 rfl ?_
                    refine xn_ialdv dX10_fillsQuilt_185 (st163 hs) (by omega) (by decide) (v := nI ((fun s => q_sb gu s nd) s_)) (e1 _ (by omega)) ?_
                    refine xe_aload_n dX10_fillsQuilt_186 rfl ?_
                    refine xe_getP dX10_fillsQuilt_187 flX10_129 (st124 hs) (by decide) rfl (sp124_55 hs) ?_
                    refine xe_sipush dX10_fillsQuilt_190 ks_401 ?_
                    refine xe_iload_n dX10_fillsQuilt_193 rfl ?_
                    refine xe_iconst dX10_fillsQuilt_194 kc_1 ?_
                    refine xn_iadd dX10_fillsQuilt_195 ?_
                    refine xn_imul dX10_fillsQuilt_196 ?_
                    refine xe_aload_n dX10_fillsQuilt_197 rfl ?_
                    refine xe_iload dX10_fillsQuilt_198 rfl ?_
                    refine xe_iload_n dX10_fillsQuilt_200 rfl ?_
                    refine xe_iload dX10_fillsQuilt_201 rfl ?_
                    refine xe_callVI (d' := 0) (y' := mX10_stillWanted) dX10_fillsQuilt_203 mlX10_389 mvX10_stillWanted rfl (st124 hs) (by decide) rfl (by decide) (by decide) (Nat.le_of_ble_eq_true rfl) (c_X10_stillWanted l g _ (by exact hs) (n := k_) (m := nm - 1 - i_m) (s := s_) (c := (fun m => q_cm (q_fi (q_I h 154) (q_I h 140) LW lv nc w m) (hv m) nd) (nm - 1 - i_m) s_) (by omega) (by omega) (hc3_14 _ (by omega)) (hcmb _ (by omega) _) (by omega)) rfl ?_
                    refine xn_iadd dX10_fillsQuilt_206 ?_
                    refine xn_ialdv dX10_fillsQuilt_207 (st161 hs) (by omega) (by decide) (v := nI (q_lg nm (2 ^ nd) (fun s => q_sb gu s nd) (fun m => q_cm (q_fi (q_I h 154) (q_I h 140) LW lv nc w m) (hv m) nd) i_m (k_ - (fun m => q_cm (q_fi (q_I h 154) (q_I h 140) LW lv nc w m) (hv m) nd) (nm - 1 - i_m) s_))) (by rw [show nm - 1 - i_m + 1 = nm - i_m by omega]; exact e15.1 i_m (Nat.le_refl _) _ (by omega)) ?_
                    refine xn_iadd dX10_fillsQuilt_208 ?_
                    refine xe_istore dX10_fillsQuilt_209 (by decide) rfl ?_
                    refine xe_iload dX10_fillsQuilt_211 rfl ?_
                    refine xe_iload dX10_fillsQuilt_213 rfl ?_
                    have b1_ := q_lg_le nm (2 ^ nd) (fun s => q_sb gu s nd) (fun m => q_cm (q_fi (q_I h 154) (q_I h 140) LW lv nc w m) (hv m) nd) i_m (k_ - (fun m => q_cm (q_fi (q_I h 154) (q_I h 140) LW lv nc w m) (hv m) nd) (nm - 1 - i_m) s_)
                    have b2_ := q_mn_le (fun s => (fun s => q_sb gu s nd) s + q_lg nm (2 ^ nd) (fun s => q_sb gu s nd) (fun m => q_cm (q_fi (q_I h 154) (q_I h 140) LW lv nc w m) (hv m) nd) i_m (k_ - (fun m => q_cm (q_fi (q_I h 154) (q_I h 140) LW lv nc w m) (hv m) nd) (nm - 1 - i_m) s)) s_
                    have b3_ := hgsb s_
                    refine xn_icmp_ge (tgt := 222) dX10_fillsQuilt_215 rfl (by omega) (by omega) (fun c19 => ?_) (fun c19 => ?_)
                    · refine xn_iinc dX10_fillsQuilt_222 rfl kc_1 ?_
                      refine xe_goto (tgt := 163) dX10_fillsQuilt_225 rfl ?_
                      exact xe_fin (K17 s17 (by rw [e17]; exact (if_neg (by rw [e17] at c19; exact Nat.not_lt.mpr c19)).symm)) (And.intro rfl (And.intro rfl (And.intro rfl (And.intro rfl (And.intro rfl (And.intro rfl (And.intro rfl trivial))))))) (q_heq [124, 152, 153, 155, 161, 162, 163, 164] (H := h) (by repeat (first | exact q_out_r | refine q_out_w rfl ?_)) (by repeat (first | exact q_out_r | refine q_out_w rfl ?_)) (And.intro (q_feq [46] (f := q_I h 124) (by repeat (first | exact q_fout_r | refine q_fout_w rfl ?_)) (by repeat (first | exact q_fout_r | refine q_fout_w rfl ?_)) (And.intro rfl trivial)) (And.intro rfl (And.intro rfl (And.intro rfl (And.intro rfl (And.intro rfl (And.intro rfl (And.intro rfl trivial)))))))))
                    · refine xe_iload dX10_fillsQuilt_218 rfl ?_
                      refine xe_istore dX10_fillsQuilt_220 (by decide) rfl ?_
                      refine xn_iinc dX10_fillsQuilt_222 rfl kc_1 ?_
                      refine xe_goto (tgt := 163) dX10_fillsQuilt_225 rfl ?_
                      exact xe_fin (K17 (((fun s => q_sb gu s nd) s_) + (q_lg nm (2 ^ nd) (fun s => q_sb gu s nd) (fun m => q_cm (q_fi (q_I h 154) (q_I h 140) LW lv nc w m) (hv m) nd) i_m (k_ - (fun m => q_cm (q_fi (q_I h 154) (q_I h 140) LW lv nc w m) (hv m) nd) (nm - 1 - i_m) s_))) ((if_pos (by rw [e17] at c19; exact Nat.not_le.mp c19)).symm)) (And.intro rfl (And.intro rfl (And.intro rfl (And.intro rfl (And.intro rfl (And.intro rfl (And.intro rfl trivial))))))) (q_heq [124, 152, 153, 155, 161, 162, 163, 164] (H := h) (by repeat (first | exact q_out_r | refine q_out_w rfl ?_)) (by repeat (first | exact q_out_r | refine q_out_w rfl ?_)) (And.intro (q_feq [46] (f := q_I h 124) (by repeat (first | exact q_fout_r | refine q_fout_w rfl ?_)) (by repeat (first | exact q_fout_r | refine q_fout_w rfl ?_)) (And.intro rfl trivial)) (And.intro rfl (And.intro rfl (And.intro rfl (And.intro rfl (And.intro rfl (And.intro rfl (And.intro rfl trivial)))))))))
                · refine xe_iload dX10_fillsQuilt_163 rfl ?_
                  refine xe_iconst dX10_fillsQuilt_165 kc_1 ?_
                  refine xe_aload_n dX10_fillsQuilt_166 rfl ?_
                  refine xe_getP dX10_fillsQuilt_167 flX10_55 (st124 hs) (by decide) rfl (sp124_26 hs) ?_
                  refine xe_aload_n dX10_fillsQuilt_170 rfl ?_
                  refine xe_getIv dX10_fillsQuilt_171 flX10_228 (st124 hs) (by decide) rfl (v := nI lv) (p1) ?_
                  refine xn_ialdv dX10_fillsQuilt_174 (st137 hs) (by omega) (by decide) (v := nI nd) (p5) ?_
                  refine xe_ishl dX10_fillsQuilt_175 ?_
                  refine xe_top (v' := nI (2 ^ nd)) (q_pow_k nd (by omega)) ?_
                  refine xn_icmp_ge (tgt := 228) dX10_fillsQuilt_176 rfl (by omega) (by omega) (fun c20 => ?_) (fun c20 => ?_)
                  · refine xe_aload_n dX10_fillsQuilt_228 rfl ?_
                    refine xe_getP dX10_fillsQuilt_229 flX10_129 (st124 hs) (by decide) rfl (sp124_55 hs) ?_
                    refine xe_sipush dX10_fillsQuilt_232 ks_401 ?_
                    refine xe_iload_n dX10_fillsQuilt_235 rfl ?_
                    refine xn_imul dX10_fillsQuilt_236 ?_
                    refine xe_iload dX10_fillsQuilt_237 rfl ?_
                    refine xn_iadd dX10_fillsQuilt_239 ?_
                    refine xe_iload dX10_fillsQuilt_240 rfl ?_
                    refine xn_iast dX10_fillsQuilt_242 (st161 hs) (by omega) (by decide) ?_
                    refine xn_iinc dX10_fillsQuilt_243 rfl kc_1 ?_
                    refine xe_goto (tgt := 149) dX10_fillsQuilt_246 rfl ?_
                    exact xe_fin (K15 (upd s15 ((401 * (nm - 1 - i_m)) + k_) (nI s17)) (⟨fun j hj k hk => (pk_un (by omega)).trans (e15.1 j hj k hk), fun k q => q_updw (fun e => by have q2 : k = k_ := (by omega); subst q2; rw [e17]; rfl) (fun e => e15.2 k (by omega))⟩)) (And.intro rfl (And.intro rfl (And.intro rfl (And.intro rfl (And.intro rfl trivial))))) (q_heq [124, 152, 153, 155, 161, 162, 163, 164] (H := h) (by repeat (first | exact q_out_r | refine q_out_w rfl ?_)) (by repeat (first | exact q_out_r | refine q_out_w rfl ?_)) (And.intro (q_feq [46] (f := q_I h 124) (by repeat (first | exact q_fout_r | refine q_fout_w rfl ?_)) (by repeat (first | exact q_fout_r | refine q_fout_w rfl ?_)) (And.intro rfl trivial)) (And.intro rfl (And.intro rfl (And.intro rfl (And.intro rfl (And.intro rfl (And.intro rfl (And.intro rfl trivial)))))))))
                  · omega
            · refine xe_iload dX10_fillsQuilt_149 rfl ?_
              refine xe_iload_n dX10_fillsQuilt_151 rfl ?_
              refine xn_icmp_gt (tgt := 249) dX10_fillsQuilt_152 rfl (by omega) (by omega) (fun c21 => ?_) (fun c21 => ?_)
              · refine xe_iinc dX10_fillsQuilt_249 rfl (v := (nI (nm - (i_m + 1)) - nI 1)) (by rw [show nm - (i_m + 1) = nm - 1 - i_m by omega]; exact q_decm _) ?_
                refine xe_goto (tgt := 137) dX10_fillsQuilt_252 rfl ?_
                exact xe_fin (K12 (s15, CR14, FR14, V14, p14_, b14) (⟨fun j hj k hk => if e : j ≤ i_m then e15.1 j e k hk else by have q2 : j = i_m + 1 := (by omega); subst q2; rw [show nm - (i_m + 1) = nm - 1 - i_m by omega]; exact e15.2 k (by omega), fun m q1 q2 s2 q3 => if e : m = nm - 1 - i_m then by subst e; exact hc3_14 s2 q3 else (hc2_14 _ (by omega)).trans (e12.2 m q1 (by omega) s2 q3)⟩)) (And.intro rfl (And.intro rfl (And.intro rfl (And.intro rfl trivial)))) (q_heq [124, 152, 153, 155, 161, 162, 163, 164] (H := h) (by repeat (first | exact q_out_r | refine q_out_w rfl ?_)) (by repeat (first | exact q_out_r | refine q_out_w rfl ?_)) (And.intro (q_feq [46] (f := q_I h 124) (by repeat (first | exact q_fout_r | refine q_fout_w rfl ?_)) (by repeat (first | exact q_fout_r | refine q_fout_w rfl ?_)) (And.intro rfl trivial)) (And.intro rfl (And.intro rfl (And.intro rfl (And.intro rfl (And.intro rfl (And.intro rfl (And.intro rfl trivial)))))))))
              · omega
          · refine xe_iload_n dX10_fillsQuilt_137 rfl ?_
            refine xe_if_lt (tgt := 255) dX10_fillsQuilt_138 rfl (fun c22 => ?_) (fun c22 => ?_)
            · refine xe_aload_n dX10_fillsQuilt_255 rfl ?_
              refine xe_getP dX10_fillsQuilt_256 flX10_129 (st124 hs) (by decide) rfl (sp124_55 hs) ?_
              refine xe_iload_n dX10_fillsQuilt_259 rfl ?_
              refine xn_ialdv dX10_fillsQuilt_260 (st161 hs) (by omega) (by decide) (v := nI (q_lg nm (2 ^ nd) (fun s => q_sb gu s nd) (fun m => q_cm (q_fi (q_I h 154) (q_I h 140) LW lv nc w m) (hv m) nd) nm n)) (by have q := e12.1 nm (Nat.le_refl _) n (Nat.le_refl _); rw [Nat.sub_self, Nat.mul_zero, Nat.zero_add] at q; exact q) ?_
              refine xe_ldc_w dX10_fillsQuilt_261 coX10_385 ?_
              refine xe_top (v' := nI 1000000) (by decide +kernel) ?_
              have b4_ := q_lg_le nm (2 ^ nd) (fun s => q_sb gu s nd) (fun m => q_cm (q_fi (q_I h 154) (q_I h 140) LW lv nc w m) (hv m) nd) nm n
              refine xn_icmp_lt (tgt := 269) dX10_fillsQuilt_264 rfl (by omega) (by omega) (fun c_lt => ?_) (fun c_lt => ?_)
              · refine xe_iload_n dX10_fillsQuilt_269 rfl ?_
                refine xe_istore_n (i := 3) dX10_fillsQuilt_270 rfl (by decide) rfl ?_
                refine xe_iconst dX10_fillsQuilt_271 kc_0 ?_
                refine xe_istore dX10_fillsQuilt_272 (by decide) rfl ?_
                refine xe_fin (L' := (fun (m_ : Nat) (s23 : Nat × (Nat → Int32)) => [(0, .ref 124), (1, .int (nI n)), (2, .int (nI nm)), (3, .int (nI s23.1)), (4, .int (nI m_))]) 0 (n, q_I h 165)) (h' := (fun (m_ : Nat) (s23 : Nat × (Nat → Int32)) => (q_wI (q_wI (q_wI (q_wI (q_wI (q_wI (q_wI (q_wI (q_wI h 124 (upd (q_I h 124) 46 s12.2.2.2.2.2)) 152 s12.2.2.2.1) 153 s12.2.2.2.2.1) 155 (q_cpy (q_I h 154) (q_I h 155) 210)) 161 s12.1) 162 s12.2.1) 163 s1) 164 s12.2.2.1) 165 s23.2)) 0 (n, q_I h 165)) ?_ (And.intro rfl (And.intro rfl (And.intro rfl (And.intro rfl (And.intro rfl trivial))))) (q_heq [124, 152, 153, 155, 161, 162, 163, 164, 165] (H := h) (by repeat (first | exact q_out_r | refine q_out_w rfl ?_)) (by repeat (first | exact q_out_r | refine q_out_w rfl ?_)) (And.intro (q_feq [46] (f := q_I h 124) (by repeat (first | exact q_fout_r | refine q_fout_w rfl ?_)) (by repeat (first | exact q_fout_r | refine q_fout_w rfl ?_)) (And.intro rfl trivial)) (And.intro rfl (And.intro rfl (And.intro rfl (And.intro rfl (And.intro rfl (And.intro rfl (And.intro rfl (And.intro rfl trivial))))))))))
                refine xe_loopI (σ := Nat × (Nat → Int32)) (nm) (fun i s => s.1 = q_lft nm (2 ^ nd) (fun s => q_sb gu s nd) (fun m => q_cm (q_fi (q_I h 154) (q_I h 140) LW lv nc w m) (hv m) nd) n i ∧ ∀ m, m < i → s.2 m = nI (q_chs nm (2 ^ nd) (fun s => q_sb gu s nd) (fun m => q_cm (q_fi (q_I h 154) (q_I h 140) LW lv nc w m) (hv m) nd) n m)) (fun (m_ : Nat) (s23 : Nat × (Nat → Int32)) => [(0, .ref 124), (1, .int (nI n)), (2, .int (nI nm)), (3, .int (nI s23.1)), (4, .int (nI m_))]) (fun (m_ : Nat) (s23 : Nat × (Nat → Int32)) => (q_wI (q_wI (q_wI (q_wI (q_wI (q_wI (q_wI (q_wI (q_wI h 124 (upd (q_I h 124) 46 s12.2.2.2.2.2)) 152 s12.2.2.2.1) 153 s12.2.2.2.2.1) 155 (q_cpy (q_I h 154) (q_I h 155) 210)) 161 s12.1) 162 s12.2.1) 163 s1) 164 s12.2.2.1) 165 s23.2)) (n, q_I h 165) (⟨rfl, fun _ q => absurd q (Nat.not_lt_zero _)⟩) (fun m_ hm_ s23 e23 K23 => ?_) (fun s23 e23 => ?_)
                · have hlf := q_lft_le nm (2 ^ nd) (fun s => q_sb gu s nd) (fun m => q_cm (q_fi (q_I h 154) (q_I h 140) LW lv nc w m) (hv m) nd) n m_
                  have hch := q_chs_lt (m := m_) hm_ c_lt
                  rw [← e23.1] at hlf
                  refine xe_iload dX10_fillsQuilt_274 rfl ?_
                  refine xe_iload_n dX10_fillsQuilt_276 rfl ?_
                  refine xn_icmp_ge (tgt := 361) dX10_fillsQuilt_277 rfl (by omega) (by omega) (fun c24 => ?_) (fun c24 => ?_)
                  · omega
                  · refine xe_iconst dX10_fillsQuilt_280 kc_0 ?_
                    refine xe_istore dX10_fillsQuilt_281 (by decide) rfl ?_
                    refine xe_fin (L' := (fun (t_ : Nat) (s25 : Unit) => [(0, .ref 124), (1, .int (nI n)), (2, .int (nI nm)), (3, .int (nI s23.1)), (4, .int (nI m_)), (5, .int (nI t_))]) 0 ()) (h' := (fun (t_ : Nat) (s25 : Unit) => (q_wI (q_wI (q_wI (q_wI (q_wI (q_wI (q_wI (q_wI (q_wI h 124 (upd (q_I h 124) 46 s12.2.2.2.2.2)) 152 s12.2.2.2.1) 153 s12.2.2.2.2.1) 155 (q_cpy (q_I h 154) (q_I h 155) 210)) 161 s12.1) 162 s12.2.1) 163 s1) 164 s12.2.2.1) 165 s23.2)) 0 ()) ?_ (And.intro rfl (And.intro rfl (And.intro rfl (And.intro rfl (And.intro rfl (And.intro rfl trivial)))))) (q_heq [124, 152, 153, 155, 161, 162, 163, 164, 165] (H := h) (by repeat (first | exact q_out_r | refine q_out_w rfl ?_)) (by repeat (first | exact q_out_r | refine q_out_w rfl ?_)) (And.intro (q_feq [46] (f := q_I h 124) (by repeat (first | exact q_fout_r | refine q_fout_w rfl ?_)) (by repeat (first | exact q_fout_r | refine q_fout_w rfl ?_)) (And.intro rfl trivial)) (And.intro rfl (And.intro rfl (And.intro rfl (And.intro rfl (And.intro rfl (And.intro rfl (And.intro rfl (And.intro rfl trivial))))))))))
                    refine xe_loopI (σ := Unit) (q_chs nm (2 ^ nd) (fun s => q_sb gu s nd) (fun m => q_cm (q_fi (q_I h 154) (q_I h 140) LW lv nc w m) (hv m) nd) n m_) (fun _ _ => True) (fun (t_ : Nat) (s25 : Unit) => [(0, .ref 124), (1, .int (nI n)), (2, .int (nI nm)), (3, .int (nI s23.1)), (4, .int (nI m_)), (5, .int (nI t_))]) (fun (t_ : Nat) (s25 : Unit) => (q_wI (q_wI (q_wI (q_wI (q_wI (q_wI (q_wI (q_wI (q_wI h 124 (upd (q_I h 124) 46 s12.2.2.2.2.2)) 152 s12.2.2.2.1) 153 s12.2.2.2.2.1) 155 (q_cpy (q_I h 154) (q_I h 155) 210)) 161 s12.1) 162 s12.2.1) 163 s1) 164 s12.2.2.1) 165 s23.2)) () (trivial) (fun t_ ht_ s25 e25 K25 => ?_) (fun s25 e25 => ?_)
                    · refine xe_aload_n dX10_fillsQuilt_283 rfl ?_
                      refine xe_getP dX10_fillsQuilt_284 flX10_135 (st124 hs) (by decide) rfl (sp124_57 hs) ?_
                      refine xe_iload dX10_fillsQuilt_287 rfl ?_
                      refine xn_ialdv dX10_fillsQuilt_289 (st163 hs) (by omega) (by decide) (v := nI ((fun s => q_sb gu s nd) t_)) (e1 _ (by omega)) ?_
                      refine xe_aload_n dX10_fillsQuilt_290 rfl ?_
                      refine xe_getP dX10_fillsQuilt_291 flX10_129 (st124 hs) (by decide) rfl (sp124_55 hs) ?_
                      refine xe_sipush dX10_fillsQuilt_294 ks_401 ?_
                      refine xe_iload dX10_fillsQuilt_297 rfl ?_
                      refine xe_iconst dX10_fillsQuilt_299 kc_1 ?_
                      refine xn_iadd dX10_fillsQuilt_300 ?_
                      refine xn_imul dX10_fillsQuilt_301 ?_
                      refine xe_aload_n dX10_fillsQuilt_302 rfl ?_
                      refine xe_iload_n dX10_fillsQuilt_303 rfl ?_
                      refine xe_iload dX10_fillsQuilt_304 rfl ?_
                      refine xe_iload dX10_fillsQuilt_306 rfl ?_
                      refine xe_callVI (d' := 0) (y' := mX10_stillWanted) dX10_fillsQuilt_308 mlX10_389 mvX10_stillWanted rfl (st124 hs) (by decide) rfl (by decide) (by decide) (Nat.le_of_ble_eq_true rfl) (c_X10_stillWanted l g _ (by exact hs) (n := s23.1) (m := m_) (s := t_) (c := (fun m => q_cm (q_fi (q_I h 154) (q_I h 140) LW lv nc w m) (hv m) nd) m_ t_) (by omega) (by omega) (e12.2 _ (by omega) (by omega) _ (by omega)) (hcmb _ (by omega) _) (by omega)) rfl ?_
                      refine xn_iadd dX10_fillsQuilt_311 ?_
                      refine xn_ialdv dX10_fillsQuilt_312 (st161 hs) (by omega) (by decide) (v := nI (q_lg nm (2 ^ nd) (fun s => q_sb gu s nd) (fun m => q_cm (q_fi (q_I h 154) (q_I h 140) LW lv nc w m) (hv m) nd) (nm - (m_ + 1)) (s23.1 - (fun m => q_cm (q_fi (q_I h 154) (q_I h 140) LW lv nc w m) (hv m) nd) m_ t_))) (by rw [show m_ + 1 = nm - (nm - (m_ + 1)) by omega]; exact (e12.1 _ (by omega) _ (by omega)).trans (by rw [show nm - (nm - (nm - (m_ + 1))) = nm - (m_ + 1) by omega])) ?_
                      refine xn_iadd dX10_fillsQuilt_313 ?_
                      refine xe_aload_n dX10_fillsQuilt_314 rfl ?_
                      refine xe_getP dX10_fillsQuilt_315 flX10_129 (st124 hs) (by decide) rfl (sp124_55 hs) ?_
                      refine xe_sipush dX10_fillsQuilt_318 ks_401 ?_
                      refine xe_iload dX10_fillsQuilt_321 rfl ?_
                      refine xn_imul dX10_fillsQuilt_323 ?_
                      refine xe_iload_n dX10_fillsQuilt_324 rfl ?_
                      refine xn_iadd dX10_fillsQuilt_325 ?_
                      refine xn_ialdv dX10_fillsQuilt_326 (st161 hs) (by omega) (by decide) (v := nI (q_lg nm (2 ^ nd) (fun s => q_sb gu s nd) (fun m => q_cm (q_fi (q_I h 154) (q_I h 140) LW lv nc w m) (hv m) nd) (nm - m_) s23.1)) (by have q := e12.1 (nm - m_) (by omega) _ hlf; rwa [show nm - (nm - m_) = m_ by omega] at q) ?_
                      have b5_ := hgsb t_
                      have b6_ := q_lg_le nm (2 ^ nd) (fun s => q_sb gu s nd) (fun m => q_cm (q_fi (q_I h 154) (q_I h 140) LW lv nc w m) (hv m) nd) (nm - (m_ + 1)) (s23.1 - (fun m => q_cm (q_fi (q_I h 154) (q_I h 140) LW lv nc w m) (hv m) nd) m_ t_)
                      have b7_ := q_lg_le nm (2 ^ nd) (fun s => q_sb gu s nd) (fun m => q_cm (q_fi (q_I h 154) (q_I h 140) LW lv nc w m) (hv m) nd) (nm - m_) s23.1
                      refine xn_icmp_eq (tgt := 336) dX10_fillsQuilt_327 rfl (by omega) (by omega) (fun c26 => ?_) (fun c26 => ?_)
                      · exact absurd (by rw [e23.1] at c26; exact c26) (q_chs_no ht_)
                      · refine xn_iinc dX10_fillsQuilt_330 rfl kc_1 ?_
                        refine xe_goto (tgt := 283) dX10_fillsQuilt_333 rfl ?_
                        exact xe_fin (K25 () (trivial)) (And.intro rfl (And.intro rfl (And.intro rfl (And.intro rfl (And.intro rfl (And.intro rfl trivial)))))) (q_heq [124, 152, 153, 155, 161, 162, 163, 164, 165] (H := h) (by repeat (first | exact q_out_r | refine q_out_w rfl ?_)) (by repeat (first | exact q_out_r | refine q_out_w rfl ?_)) (And.intro (q_feq [46] (f := q_I h 124) (by repeat (first | exact q_fout_r | refine q_fout_w rfl ?_)) (by repeat (first | exact q_fout_r | refine q_fout_w rfl ?_)) (And.intro rfl trivial)) (And.intro rfl (And.intro rfl (And.intro rfl (And.intro rfl (And.intro rfl (And.intro rfl (And.intro rfl (And.intro rfl trivial))))))))))
                    · refine xe_aload_n dX10_fillsQuilt_283 rfl ?_
                      refine xe_getP dX10_fillsQuilt_284 flX10_135 (st124 hs) (by decide) rfl (sp124_57 hs) ?_
                      refine xe_iload dX10_fillsQuilt_287 rfl ?_
                      refine xn_ialdv dX10_fillsQuilt_289 (st163 hs) (by omega) (by decide) (v := nI ((fun s => q_sb gu s nd) (q_chs nm (2 ^ nd) (fun s => q_sb gu s nd) (fun m => q_cm (q_fi (q_I h 154) (q_I h 140) LW lv nc w m) (hv m) nd) n m_))) (e1 _ (by omega)) ?_
                      refine xe_aload_n dX10_fillsQuilt_290 rfl ?_
                      refine xe_getP dX10_fillsQuilt_291 flX10_129 (st124 hs) (by decide) rfl (sp124_55 hs) ?_
                      refine xe_sipush dX10_fillsQuilt_294 ks_401 ?_
                      refine xe_iload dX10_fillsQuilt_297 rfl ?_
                      refine xe_iconst dX10_fillsQuilt_299 kc_1 ?_
                      refine xn_iadd dX10_fillsQuilt_300 ?_
                      refine xn_imul dX10_fillsQuilt_301 ?_
                      refine xe_aload_n dX10_fillsQuilt_302 rfl ?_
                      refine xe_iload_n dX10_fillsQuilt_303 rfl ?_
                      refine xe_iload dX10_fillsQuilt_304 rfl ?_
                      refine xe_iload dX10_fillsQuilt_306 rfl ?_
                      refine xe_callVI (d' := 0) (y' := mX10_stillWanted) dX10_fillsQuilt_308 mlX10_389 mvX10_stillWanted rfl (st124 hs) (by decide) rfl (by decide) (by decide) (Nat.le_of_ble_eq_true rfl) (c_X10_stillWanted l g _ (by exact hs) (n := s23.1) (m := m_) (s := q_chs nm (2 ^ nd) (fun s => q_sb gu s nd) (fun m => q_cm (q_fi (q_I h 154) (q_I h 140) LW lv nc w m) (hv m) nd) n m_) (c := (fun m => q_cm (q_fi (q_I h 154) (q_I h 140) LW lv nc w m) (hv m) nd) m_ (q_chs nm (2 ^ nd) (fun s => q_sb gu s nd) (fun m => q_cm (q_fi (q_I h 154) (q_I h 140) LW lv nc w m) (hv m) nd) n m_)) (by omega) (by omega) (e12.2 _ (by omega) (by omega) _ (by omega)) (hcmb _ (by omega) _) (by omega)) rfl ?_
                      refine xn_iadd dX10_fillsQuilt_311 ?_
                      refine xn_ialdv dX10_fillsQuilt_312 (st161 hs) (by omega) (by decide) (v := nI (q_lg nm (2 ^ nd) (fun s => q_sb gu s nd) (fun m => q_cm (q_fi (q_I h 154) (q_I h 140) LW lv nc w m) (hv m) nd) (nm - (m_ + 1)) (s23.1 - (fun m => q_cm (q_fi (q_I h 154) (q_I h 140) LW lv nc w m) (hv m) nd) m_ (q_chs nm (2 ^ nd) (fun s => q_sb gu s nd) (fun m => q_cm (q_fi (q_I h 154) (q_I h 140) LW lv nc w m) (hv m) nd) n m_)))) (by rw [show m_ + 1 = nm - (nm - (m_ + 1)) by omega]; exact (e12.1 _ (by omega) _ (by omega)).trans (by rw [show nm - (nm - (nm - (m_ + 1))) = nm - (m_ + 1) by omega])) ?_
                      refine xn_iadd dX10_fillsQuilt_313 ?_
                      refine xe_aload_n dX10_fillsQuilt_314 rfl ?_
                      refine xe_getP dX10_fillsQuilt_315 flX10_129 (st124 hs) (by decide) rfl (sp124_55 hs) ?_
                      refine xe_sipush dX10_fillsQuilt_318 ks_401 ?_
                      refine xe_iload dX10_fillsQuilt_321 rfl ?_
                      refine xn_imul dX10_fillsQuilt_323 ?_
                      refine xe_iload_n dX10_fillsQuilt_324 rfl ?_
                      refine xn_iadd dX10_fillsQuilt_325 ?_
                      refine xn_ialdv dX10_fillsQuilt_326 (st161 hs) (by omega) (by decide) (v := nI (q_lg nm (2 ^ nd) (fun s => q_sb gu s nd) (fun m => q_cm (q_fi (q_I h 154) (q_I h 140) LW lv nc w m) (hv m) nd) (nm - m_) s23.1)) (by have q := e12.1 (nm - m_) (by omega) _ hlf; rwa [show nm - (nm - m_) = m_ by omega] at q) ?_
                      have b5_ := hgsb (q_chs nm (2 ^ nd) (fun s => q_sb gu s nd) (fun m => q_cm (q_fi (q_I h 154) (q_I h 140) LW lv nc w m) (hv m) nd) n m_)
                      have b6_ := q_lg_le nm (2 ^ nd) (fun s => q_sb gu s nd) (fun m => q_cm (q_fi (q_I h 154) (q_I h 140) LW lv nc w m) (hv m) nd) (nm - (m_ + 1)) (s23.1 - (fun m => q_cm (q_fi (q_I h 154) (q_I h 140) LW lv nc w m) (hv m) nd) m_ (q_chs nm (2 ^ nd) (fun s => q_sb gu s nd) (fun m => q_cm (q_fi (q_I h 154) (q_I h 140) LW lv nc w m) (hv m) nd) n m_))
                      have b7_ := q_lg_le nm (2 ^ nd) (fun s => q_sb gu s nd) (fun m => q_cm (q_fi (q_I h 154) (q_I h 140) LW lv nc w m) (hv m) nd) (nm - m_) s23.1
                      refine xn_icmp_eq (tgt := 336) dX10_fillsQuilt_327 rfl (by omega) (by omega) (fun c27 => ?_) (fun c27 => ?_)
                      · refine xe_aload_n dX10_fillsQuilt_336 rfl ?_
                        refine xe_getP dX10_fillsQuilt_337 flX10_141 (st124 hs) (by decide) rfl (sp124_59 hs) ?_
                        refine xe_iload dX10_fillsQuilt_340 rfl ?_
                        refine xe_iload dX10_fillsQuilt_342 rfl ?_
                        refine xn_iast dX10_fillsQuilt_344 (st165 hs) (by omega) (by decide) ?_
                        refine xe_aload_n dX10_fillsQuilt_345 rfl ?_
                        refine xe_iload_n dX10_fillsQuilt_346 rfl ?_
                        refine xe_iload dX10_fillsQuilt_347 rfl ?_
                        refine xe_iload dX10_fillsQuilt_349 rfl ?_
                        refine xe_callVI (d' := 0) (y' := mX10_stillWanted) dX10_fillsQuilt_351 mlX10_389 mvX10_stillWanted rfl (st124 hs) (by decide) rfl (by decide) (by decide) (Nat.le_of_ble_eq_true rfl) (c_X10_stillWanted l g _ (by exact hs) (n := s23.1) (m := m_) (s := q_chs nm (2 ^ nd) (fun s => q_sb gu s nd) (fun m => q_cm (q_fi (q_I h 154) (q_I h 140) LW lv nc w m) (hv m) nd) n m_) (c := (fun m => q_cm (q_fi (q_I h 154) (q_I h 140) LW lv nc w m) (hv m) nd) m_ (q_chs nm (2 ^ nd) (fun s => q_sb gu s nd) (fun m => q_cm (q_fi (q_I h 154) (q_I h 140) LW lv nc w m) (hv m) nd) n m_)) (by omega) (by omega) (e12.2 _ (by omega) (by omega) _ (by omega)) (hcmb _ (by omega) _) (by omega)) rfl ?_
                        refine xe_istore_n (i := 3) dX10_fillsQuilt_354 rfl (by decide) rfl ?_
                        refine xn_iinc dX10_fillsQuilt_355 rfl kc_1 ?_
                        refine xe_goto (tgt := 274) dX10_fillsQuilt_358 rfl ?_
                        exact xe_fin (K23 (s23.1 - (fun m => q_cm (q_fi (q_I h 154) (q_I h 140) LW lv nc w m) (hv m) nd) m_ (q_chs nm (2 ^ nd) (fun s => q_sb gu s nd) (fun m => q_cm (q_fi (q_I h 154) (q_I h 140) LW lv nc w m) (hv m) nd) n m_), upd s23.2 m_ (nI (q_chs nm (2 ^ nd) (fun s => q_sb gu s nd) (fun m => q_cm (q_fi (q_I h 154) (q_I h 140) LW lv nc w m) (hv m) nd) n m_))) (⟨by rw [e23.1]; rfl, fun m q => q_updw (fun e => by subst e; rfl) (fun e => e23.2 m (by omega))⟩)) (And.intro rfl (And.intro rfl (And.intro rfl (And.intro rfl (And.intro rfl trivial))))) (q_heq [124, 152, 153, 155, 161, 162, 163, 164, 165] (H := h) (by repeat (first | exact q_out_r | refine q_out_w rfl ?_)) (by repeat (first | exact q_out_r | refine q_out_w rfl ?_)) (And.intro (q_feq [46] (f := q_I h 124) (by repeat (first | exact q_fout_r | refine q_fout_w rfl ?_)) (by repeat (first | exact q_fout_r | refine q_fout_w rfl ?_)) (And.intro rfl trivial)) (And.intro rfl (And.intro rfl (And.intro rfl (And.intro rfl (And.intro rfl (And.intro rfl (And.intro rfl (And.intro rfl trivial))))))))))
                      · exact absurd (by rw [e23.1]; exact q_chs_eq hm_ c_lt) c27
                · refine xe_iload dX10_fillsQuilt_274 rfl ?_
                  refine xe_iload_n dX10_fillsQuilt_276 rfl ?_
                  refine xn_icmp_ge (tgt := 361) dX10_fillsQuilt_277 rfl (by omega) (by omega) (fun c28 => ?_) (fun c28 => ?_)
                  · refine xe_iconst dX10_fillsQuilt_361 kc_1 ?_
                    refine xe_ireturn dX10_fillsQuilt_362 rfl (by first | rfl | decide +kernel) ?_
                    exact ⟨q_mag_o (ks := [124, 152, 153, 155, 161, 162, 163, 164, 165]) (by repeat (first | exact q_out_r | refine q_out_w rfl ?_)) rfl (fun k hk => by show (upd (q_I h 124) 46 s12.2.2.2.2.2) k = _; repeat (first | exact rfl | refine (q_mf_u hk rfl).trans ?_)), Or.inl ⟨c_lt, rfl, by have q := e12.1 nm (Nat.le_refl _) n (Nat.le_refl _); rw [Nat.sub_self, Nat.mul_zero, Nat.zero_add] at q; exact q, e23.2, fun m q1 s2 q2 => e12.2 m q1 (by omega) s2 q2⟩⟩
                  · omega
              · refine xe_iconst dX10_fillsQuilt_267 kc_0 ?_
                refine xe_ireturn dX10_fillsQuilt_268 rfl (by first | rfl | decide +kernel) ?_
                exact ⟨q_mag_o (ks := [124, 152, 153, 155, 161, 162, 163, 164]) (by repeat (first | exact q_out_r | refine q_out_w rfl ?_)) rfl (fun k hk => by show (upd (q_I h 124) 46 s12.2.2.2.2.2) k = _; repeat (first | exact rfl | refine (q_mf_u hk rfl).trans ?_)), Or.inr ⟨c_lt, rfl⟩⟩
            · exact absurd (by rw [Nat.sub_self]; decide) c22
        · omega
    · omega
theorem c_X10_fillsQuilt_y (l : Launch) (g : q_GP) (h : q_H) (hs : q_Stat h) {lv nm nd nc mo : Nat} (hp : rm_P h lv nm nd nc mo) {LW : q_LW} (hL : rm_L h lv LW) {w : Nat} (hw : q_I h 154 200 = nI w) (hw2 : w < 2 ^ 20) {gu hv : Nat → Nat} (hgu : ∀ d, d < nd → q_I h 138 (8 * lv + d) = nI (gu d) ∧ gu d ≤ 99) (hhv : ∀ m, m < nm → q_s8 (q_I h 154) (8 * m) = nI (hv m) ∧ hv m < 2 ^ 30) {n : Nat} (hn : n ≤ 400) (hc : q_lg nm (2 ^ nd) (fun s => q_sb gu s nd) (fun m => q_cm (q_fi (q_I h 154) (q_I h 140) LW lv nc w m) (hv m) nd) nm n < 1000000) : q_Ct l g 4 mX10_fillsQuilt [.ref 124, .int (nI n)] h (fun r h1 => r = some (.int (nI 1)) ∧ q_mag h h1 ∧ q_I h1 161 n = nI (q_lg nm (2 ^ nd) (fun s => q_sb gu s nd) (fun m => q_cm (q_fi (q_I h 154) (q_I h 140) LW lv nc w m) (hv m) nd) nm n) ∧ (∀ m, m < nm → q_I h1 165 m = nI (q_chs nm (2 ^ nd) (fun s => q_sb gu s nd) (fun m => q_cm (q_fi (q_I h 154) (q_I h 140) LW lv nc w m) (hv m) nd) n m)) ∧ ∀ m, m < nm → ∀ s2, s2 < 2 ^ nd → q_I h1 162 (256 * m + s2) = nI ((fun m => q_cm (q_fi (q_I h 154) (q_I h 140) LW lv nc w m) (hv m) nd) m s2)) :=
  q_Ct_post (fun r h1 q => by
    obtain ⟨q1, q2 | q2⟩ := q
    · exact ⟨q2.2.1, q1, q2.2.2.1, q2.2.2.2⟩
    · exact absurd hc q2.1) (c_X10_fillsQuilt l g h hs hp hL hw hw2 hgu hhv hn)
theorem c_X10_fillsQuilt_n (l : Launch) (g : q_GP) (h : q_H) (hs : q_Stat h) {lv nm nd nc mo : Nat} (hp : rm_P h lv nm nd nc mo) {LW : q_LW} (hL : rm_L h lv LW) {w : Nat} (hw : q_I h 154 200 = nI w) (hw2 : w < 2 ^ 20) {gu hv : Nat → Nat} (hgu : ∀ d, d < nd → q_I h 138 (8 * lv + d) = nI (gu d) ∧ gu d ≤ 99) (hhv : ∀ m, m < nm → q_s8 (q_I h 154) (8 * m) = nI (hv m) ∧ hv m < 2 ^ 30) {n : Nat} (hn : n ≤ 400) (hc : ¬ q_lg nm (2 ^ nd) (fun s => q_sb gu s nd) (fun m => q_cm (q_fi (q_I h 154) (q_I h 140) LW lv nc w m) (hv m) nd) nm n < 1000000) : q_Ct l g 4 mX10_fillsQuilt [.ref 124, .int (nI n)] h (fun r h1 => r = some (.int (nI 0)) ∧ q_mag h h1) :=
  q_Ct_post (fun r h1 q => by
    obtain ⟨q1, q2 | q2⟩ := q
    · exact absurd q2.1 hc
    · exact ⟨q2.2, q1⟩) (c_X10_fillsQuilt l g h hs hp hL hw hw2 hgu hhv hn)
theorem c_X10_quilt_n0 (l : Launch) (g : q_GP) (h : q_H) (hs : q_Stat h) {lv nm nd nc mo : Nat} (hp : rm_P h lv nm nd nc mo) {LW : q_LW} (hL : rm_L h lv LW) {w : Nat} (hw : q_I h 154 200 = nI w) (hw2 : w < 2 ^ 20) {gu hv : Nat → Nat} (hgu : ∀ d, d < nd → q_I h 138 (8 * lv + d) = nI (gu d) ∧ gu d ≤ 99) (hhv : ∀ m, m < nm → q_s8 (q_I h 154) (8 * m) = nI (hv m) ∧ hv m < 2 ^ 30) {n : Nat} (hn1 : 1 ≤ n) (hn : n ≤ 400) (hc : ¬ q_lg nm (2 ^ nd) (fun s => q_sb gu s nd) (fun m => q_cm (q_fi (q_I h 154) (q_I h 140) LW lv nc w m) (hv m) nd) nm n < 1000000) : q_Ct l g 5 mX10_quilt [.ref 124, .int (nI n), .int (nI 0)] h (fun r h1 => r = some (.int (-2)) ∧ q_mag h h1) := by
  obtain ⟨p1, p2, p3, p4, p5, p6, p7, p8, p9, p10⟩ := id hp
  refine q_CtV mvX10_quilt (Nat.le_of_ble_eq_true rfl) ?_
  refine xe_iload_n dX10_quilt_0 rfl ?_
  refine xe_iconst dX10_quilt_1 kc_1 ?_
  refine xe_sipush dX10_quilt_2 ks_400 ?_
  refine xe_callSI (d' := 0) (y' := mX10_in) dX10_quilt_5 mlX10_312 msX10_in rfl (by decide) (by decide) (Nat.le_of_ble_eq_true rfl) (c_X10_inv l g _ _ _ _ (q_in_t (a := 1) (by omega) (by omega) (by decide))) rfl ?_
  refine xn_if_eq (tgt := 20) dX10_quilt_8 rfl (by omega) (fun c1 => ?_) (fun c1 => ?_)
  · omega
  · refine xe_iload_n dX10_quilt_11 rfl ?_
    refine xe_iconst dX10_quilt_12 kc_0 ?_
    refine xe_iconst dX10_quilt_13 kc_1 ?_
    refine xe_callSI (d' := 0) (y' := mX10_in) dX10_quilt_14 mlX10_312 msX10_in rfl (by decide) (by decide) (Nat.le_of_ble_eq_true rfl) (c_X10_inv l g _ _ _ _ (q_in_t (k := 0) (by decide) (by decide) (by decide))) rfl ?_
    refine xn_if_ne (tgt := 22) dX10_quilt_17 rfl (by omega) (fun c2 => ?_) (fun c2 => ?_)
    · refine xe_aload_n dX10_quilt_22 rfl ?_
      refine xe_iload_n dX10_quilt_23 rfl ?_
      refine xe_callVIq (d' := 4) (y' := mX10_fillsQuilt) dX10_quilt_24 mlX10_392 mvX10_fillsQuilt rfl (st124 hs) (by decide) rfl (by decide) (by decide) (Nat.le_of_ble_eq_true rfl) (c_X10_fillsQuilt_n l g _ (by exact hs) (by exact hp) hL hw hw2 hgu hhv (by omega) hc) rfl (fun h1 hX => ?_)
      refine xn_if_ne (tgt := 33) dX10_quilt_27 rfl (by omega) (fun c3 => ?_) (fun c3 => ?_)
      · omega
      · refine xe_bipush dX10_quilt_30 kb_m2 ?_
        refine xe_ireturn dX10_quilt_32 rfl (by first | rfl | decide +kernel) ?_
        exact ⟨rfl, hX⟩
    · omega
theorem c_X10_quilt_n1 (l : Launch) (g : q_GP) (h : q_H) (hs : q_Stat h) {lv nm nd nc mo : Nat} (hp : rm_P h lv nm nd nc mo) {LW : q_LW} (hL : rm_L h lv LW) {w : Nat} (hw : q_I h 154 200 = nI w) (hw2 : w < 2 ^ 20) {gu hv : Nat → Nat} (hgu : ∀ d, d < nd → q_I h 138 (8 * lv + d) = nI (gu d) ∧ gu d ≤ 99) (hhv : ∀ m, m < nm → q_s8 (q_I h 154) (8 * m) = nI (hv m) ∧ hv m < 2 ^ 30) {n : Nat} (hn1 : 1 ≤ n) (hn : n ≤ 400) (hc : ¬ q_lg nm (2 ^ nd) (fun s => q_sb gu s nd) (fun m => q_cm (q_fi (q_I h 154) (q_I h 140) LW lv nc w m) (hv m) nd) nm n < 1000000) : q_Ct l g 5 mX10_quilt [.ref 124, .int (nI n), .int (nI 1)] h (fun r h1 => r = some (.int (-2)) ∧ q_mag h h1) := by
  obtain ⟨p1, p2, p3, p4, p5, p6, p7, p8, p9, p10⟩ := id hp
  refine q_CtV mvX10_quilt (Nat.le_of_ble_eq_true rfl) ?_
  refine xe_iload_n dX10_quilt_0 rfl ?_
  refine xe_iconst dX10_quilt_1 kc_1 ?_
  refine xe_sipush dX10_quilt_2 ks_400 ?_
  refine xe_callSI (d' := 0) (y' := mX10_in) dX10_quilt_5 mlX10_312 msX10_in rfl (by decide) (by decide) (Nat.le_of_ble_eq_true rfl) (c_X10_inv l g _ _ _ _ (q_in_t (a := 1) (by omega) (by omega) (by decide))) rfl ?_
  refine xn_if_eq (tgt := 20) dX10_quilt_8 rfl (by omega) (fun c1 => ?_) (fun c1 => ?_)
  · omega
  · refine xe_iload_n dX10_quilt_11 rfl ?_
    refine xe_iconst dX10_quilt_12 kc_0 ?_
    refine xe_iconst dX10_quilt_13 kc_1 ?_
    refine xe_callSI (d' := 0) (y' := mX10_in) dX10_quilt_14 mlX10_312 msX10_in rfl (by decide) (by decide) (Nat.le_of_ble_eq_true rfl) (c_X10_inv l g _ _ _ _ (q_in_t (k := 1) (by decide) (by decide) (by decide))) rfl ?_
    refine xn_if_ne (tgt := 22) dX10_quilt_17 rfl (by omega) (fun c2 => ?_) (fun c2 => ?_)
    · refine xe_aload_n dX10_quilt_22 rfl ?_
      refine xe_iload_n dX10_quilt_23 rfl ?_
      refine xe_callVIq (d' := 4) (y' := mX10_fillsQuilt) dX10_quilt_24 mlX10_392 mvX10_fillsQuilt rfl (st124 hs) (by decide) rfl (by decide) (by decide) (Nat.le_of_ble_eq_true rfl) (c_X10_fillsQuilt_n l g _ (by exact hs) (by exact hp) hL hw hw2 hgu hhv (by omega) hc) rfl (fun h1 hX => ?_)
      refine xn_if_ne (tgt := 33) dX10_quilt_27 rfl (by omega) (fun c3 => ?_) (fun c3 => ?_)
      · omega
      · refine xe_bipush dX10_quilt_30 kb_m2 ?_
        refine xe_ireturn dX10_quilt_32 rfl (by first | rfl | decide +kernel) ?_
        exact ⟨rfl, hX⟩
    · omega
theorem c_X10_quilt_0 (l : Launch) (g : q_GP) (h : q_H) (hs : q_Stat h) {lv nm nd nc mo : Nat} (hp : rm_P h lv nm nd nc mo) {LW : q_LW} (hL : rm_L h lv LW) {w : Nat} (hw : q_I h 154 200 = nI w) (hw2 : w < 2 ^ 20) {gu hv : Nat → Nat} (hgu : ∀ d, d < nd → q_I h 138 (8 * lv + d) = nI (gu d) ∧ gu d ≤ 99) (hhv : ∀ m, m < nm → q_s8 (q_I h 154) (8 * m) = nI (hv m) ∧ hv m < 2 ^ 30) {n : Nat} (hn1 : 1 ≤ n) (hn : n ≤ 400) (hc : q_lg nm (2 ^ nd) (fun s => q_sb gu s nd) (fun m => q_cm (q_fi (q_I h 154) (q_I h 140) LW lv nc w m) (hv m) nd) nm n < 1000000) : q_Ct l g 5 mX10_quilt [.ref 124, .int (nI n), .int (nI 0)] h (fun r h1 => r = some (.int (nI (q_lg nm (2 ^ nd) (fun s => q_sb gu s nd) (fun m => q_cm (q_fi (q_I h 154) (q_I h 140) LW lv nc w m) (hv m) nd) nm n))) ∧ q_mag h h1) := by
  obtain ⟨p1, p2, p3, p4, p5, p6, p7, p8, p9, p10⟩ := id hp
  refine q_CtV mvX10_quilt (Nat.le_of_ble_eq_true rfl) ?_
  refine xe_iload_n dX10_quilt_0 rfl ?_
  refine xe_iconst dX10_quilt_1 kc_1 ?_
  refine xe_sipush dX10_quilt_2 ks_400 ?_
  refine xe_callSI (d' := 0) (y' := mX10_in) dX10_quilt_5 mlX10_312 msX10_in rfl (by decide) (by decide) (Nat.le_of_ble_eq_true rfl) (c_X10_inv l g _ _ _ _ (q_in_t (a := 1) (by omega) (by omega) (by decide))) rfl ?_
  refine xn_if_eq (tgt := 20) dX10_quilt_8 rfl (by omega) (fun c1 => ?_) (fun c1 => ?_)
  · omega
  · refine xe_iload_n dX10_quilt_11 rfl ?_
    refine xe_iconst dX10_quilt_12 kc_0 ?_
    refine xe_iconst dX10_quilt_13 kc_1 ?_
    refine xe_callSI (d' := 0) (y' := mX10_in) dX10_quilt_14 mlX10_312 msX10_in rfl (by decide) (by decide) (Nat.le_of_ble_eq_true rfl) (c_X10_inv l g _ _ _ _ (q_in_t (k := 0) (by decide) (by decide) (by decide))) rfl ?_
    refine xn_if_ne (tgt := 22) dX10_quilt_17 rfl (by omega) (fun c2 => ?_) (fun c2 => ?_)
    · refine xe_aload_n dX10_quilt_22 rfl ?_
      refine xe_iload_n dX10_quilt_23 rfl ?_
      refine xe_callVIq (d' := 4) (y' := mX10_fillsQuilt) dX10_quilt_24 mlX10_392 mvX10_fillsQuilt rfl (st124 hs) (by decide) rfl (by decide) (by decide) (Nat.le_of_ble_eq_true rfl) (c_X10_fillsQuilt_y l g _ (by exact hs) (by exact hp) hL hw hw2 hgu hhv (by omega) hc) rfl (fun h1 hq => ?_)
      obtain ⟨hX, r1, r2, r3⟩ := hq
      have hs : q_Stat h1 := q_Stat_mag hX hs
      refine xn_if_ne (tgt := 33) dX10_quilt_27 rfl (by omega) (fun c3 => ?_) (fun c3 => ?_)
      · refine xe_iload_n dX10_quilt_33 rfl ?_
        refine xn_if_ne (tgt := 44) dX10_quilt_34 rfl (by omega) (fun c4 => ?_) (fun c4 => ?_)
        · omega
        · refine xe_aload_n dX10_quilt_37 rfl ?_
          refine xe_getP dX10_quilt_38 flX10_129 (st124 hs) (by decide) rfl (sp124_55 hs) ?_
          refine xe_iload_n dX10_quilt_41 rfl ?_
          refine xn_ialdv dX10_quilt_42 (st161 hs) (by omega) (by decide) (v := nI (q_lg nm (2 ^ nd) (fun s => q_sb gu s nd) (fun m => q_cm (q_fi (q_I h 154) (q_I h 140) LW lv nc w m) (hv m) nd) nm n)) (r1) ?_
          refine xe_ireturn dX10_quilt_43 rfl (by first | rfl | decide +kernel) ?_
          exact ⟨rfl, hX⟩
      · omega
    · omega
/-- the feathers that come for a quilt -/
def q_qsum (f : Nat → Nat) : Nat → Nat
  | 0 => 0
  | n + 1 => q_qsum f n + f n
theorem c_X10_quilt_1 (l : Launch) (g : q_GP) (h : q_H) (hs : q_Stat h) {lv nm nd nc mo : Nat} (hp : rm_P h lv nm nd nc mo) {LW : q_LW} (hL : rm_L h lv LW) {w : Nat} (hw : q_I h 154 200 = nI w) (hw2 : w < 2 ^ 20) {gu hv : Nat → Nat} (hgu : ∀ d, d < nd → q_I h 138 (8 * lv + d) = nI (gu d) ∧ gu d ≤ 99) (hhv : ∀ m, m < nm → q_s8 (q_I h 154) (8 * m) = nI (hv m) ∧ hv m < 2 ^ 30) {n : Nat} (hn1 : 1 ≤ n) (hn : n ≤ 400) (hc : q_lg nm (2 ^ nd) (fun s => q_sb gu s nd) (fun m => q_cm (q_fi (q_I h 154) (q_I h 140) LW lv nc w m) (hv m) nd) nm n < 1000000) : q_Ct l g 5 mX10_quilt [.ref 124, .int (nI n), .int (nI 1)] h (fun r h1 => r = some (.int (nI (q_qsum (fun m => (fun m => q_cm (q_fi (q_I h 154) (q_I h 140) LW lv nc w m) (hv m) nd) m (q_chs nm (2 ^ nd) (fun s => q_sb gu s nd) (fun m => q_cm (q_fi (q_I h 154) (q_I h 140) LW lv nc w m) (hv m) nd) n m)) nm))) ∧ q_mag h h1) := by
  obtain ⟨p1, p2, p3, p4, p5, p6, p7, p8, p9, p10⟩ := id hp
  have hpw : 2 ^ nd ≤ 256 := Nat.pow_le_pow_right (by decide) p6
  refine q_CtV mvX10_quilt (Nat.le_of_ble_eq_true rfl) ?_
  refine xe_iload_n dX10_quilt_0 rfl ?_
  refine xe_iconst dX10_quilt_1 kc_1 ?_
  refine xe_sipush dX10_quilt_2 ks_400 ?_
  refine xe_callSI (d' := 0) (y' := mX10_in) dX10_quilt_5 mlX10_312 msX10_in rfl (by decide) (by decide) (Nat.le_of_ble_eq_true rfl) (c_X10_inv l g _ _ _ _ (q_in_t (a := 1) (by omega) (by omega) (by decide))) rfl ?_
  refine xn_if_eq (tgt := 20) dX10_quilt_8 rfl (by omega) (fun c1 => ?_) (fun c1 => ?_)
  · omega
  · refine xe_iload_n dX10_quilt_11 rfl ?_
    refine xe_iconst dX10_quilt_12 kc_0 ?_
    refine xe_iconst dX10_quilt_13 kc_1 ?_
    refine xe_callSI (d' := 0) (y' := mX10_in) dX10_quilt_14 mlX10_312 msX10_in rfl (by decide) (by decide) (Nat.le_of_ble_eq_true rfl) (c_X10_inv l g _ _ _ _ (q_in_t (k := 1) (by decide) (by decide) (by decide))) rfl ?_
    refine xn_if_ne (tgt := 22) dX10_quilt_17 rfl (by omega) (fun c2 => ?_) (fun c2 => ?_)
    · refine xe_aload_n dX10_quilt_22 rfl ?_
      refine xe_iload_n dX10_quilt_23 rfl ?_
      refine xe_callVIq (d' := 4) (y' := mX10_fillsQuilt) dX10_quilt_24 mlX10_392 mvX10_fillsQuilt rfl (st124 hs) (by decide) rfl (by decide) (by decide) (Nat.le_of_ble_eq_true rfl) (c_X10_fillsQuilt_y l g _ (by exact hs) (by exact hp) hL hw hw2 hgu hhv (by omega) hc) rfl (fun h1 hq => ?_)
      obtain ⟨hX, r1, r2, r3⟩ := hq
      have hs : q_Stat h1 := q_Stat_mag hX hs
      refine xn_if_ne (tgt := 33) dX10_quilt_27 rfl (by omega) (fun c3 => ?_) (fun c3 => ?_)
      · refine xe_iload_n dX10_quilt_33 rfl ?_
        refine xn_if_ne (tgt := 44) dX10_quilt_34 rfl (by omega) (fun c4 => ?_) (fun c4 => ?_)
        · refine xe_iconst dX10_quilt_44 kc_0 ?_
          refine xe_istore_n (i := 3) dX10_quilt_45 rfl (by decide) rfl ?_
          refine xe_iconst dX10_quilt_46 kc_0 ?_
          refine xe_istore dX10_quilt_47 (by decide) rfl ?_
          refine xe_fin (L' := (fun (m_ : Nat) (s5 : Nat) => [(0, .ref 124), (1, .int (nI n)), (2, .int (nI 1)), (3, .int (nI s5)), (4, .int (nI m_))]) 0 0) (h' := (fun (_ : Nat) (_ : Nat) => h1) 0 0) ?_ (And.intro rfl (And.intro rfl (And.intro rfl (And.intro rfl (And.intro rfl trivial))))) rfl
          refine xe_loopI (σ := Nat) (nm) (fun i s => s = q_qsum (fun m => (fun m => q_cm (q_fi (q_I h 154) (q_I h 140) LW lv nc w m) (hv m) nd) m (q_chs nm (2 ^ nd) (fun s => q_sb gu s nd) (fun m => q_cm (q_fi (q_I h 154) (q_I h 140) LW lv nc w m) (hv m) nd) n m)) i) (fun (m_ : Nat) (s5 : Nat) => [(0, .ref 124), (1, .int (nI n)), (2, .int (nI 1)), (3, .int (nI s5)), (4, .int (nI m_))]) (fun (_ : Nat) (_ : Nat) => h1) 0 (rfl) (fun m_ hm_ s5 e5 K5 => ?_) (fun s5 e5 => ?_)
          · have hcl := q_chs_lt (m := m_) hm_ hc
            refine xe_iload dX10_quilt_49 rfl ?_
            refine xe_aload_n dX10_quilt_51 rfl ?_
            refine xe_getP dX10_quilt_52 flX10_49 (st124 hs) (by decide) rfl (sp124_24 hs) ?_
            refine xe_aload_n dX10_quilt_55 rfl ?_
            refine xe_getIv dX10_quilt_56 flX10_228 (st124 hs) (by decide) rfl (v := nI lv) ((hX.2.1 18 rfl).trans p1) ?_
            refine xn_ialdv dX10_quilt_59 (st135 hs) (by omega) (by decide) (v := nI nm) ((congrFun (hX.1 135 (by decide) rfl) lv).trans p3) ?_
            refine xn_icmp_ge (tgt := 91) dX10_quilt_60 rfl (by omega) (by omega) (fun c6 => ?_) (fun c6 => ?_)
            · omega
            · refine xe_iload_n dX10_quilt_63 rfl ?_
              refine xe_aload_n dX10_quilt_64 rfl ?_
              refine xe_getP dX10_quilt_65 flX10_132 (st124 hs) (by decide) rfl (sp124_56 hs) ?_
              refine xe_sipush dX10_quilt_68 ks_256 ?_
              refine xe_iload dX10_quilt_71 rfl ?_
              refine xn_imul dX10_quilt_73 ?_
              refine xe_aload_n dX10_quilt_74 rfl ?_
              refine xe_getP dX10_quilt_75 flX10_141 (st124 hs) (by decide) rfl (sp124_59 hs) ?_
              refine xe_iload dX10_quilt_78 rfl ?_
              refine xn_ialdv dX10_quilt_80 (st165 hs) (by omega) (by decide) (v := nI (q_chs nm (2 ^ nd) (fun s => q_sb gu s nd) (fun m => q_cm (q_fi (q_I h 154) (q_I h 140) LW lv nc w m) (hv m) nd) n m_)) (r2 m_ hm_) ?_
              refine xn_iadd dX10_quilt_81 ?_
              refine xn_ialdv dX10_quilt_82 (st162 hs) (by omega) (by decide) (v := nI ((fun m => q_cm (q_fi (q_I h 154) (q_I h 140) LW lv nc w m) (hv m) nd) m_ (q_chs nm (2 ^ nd) (fun s => q_sb gu s nd) (fun m => q_cm (q_fi (q_I h 154) (q_I h 140) LW lv nc w m) (hv m) nd) n m_))) (r3 m_ hm_ _ (by omega)) ?_
              refine xn_iadd dX10_quilt_83 ?_
              refine xe_istore_n (i := 3) dX10_quilt_84 rfl (by decide) rfl ?_
              refine xn_iinc dX10_quilt_85 rfl kc_1 ?_
              refine xe_goto (tgt := 49) dX10_quilt_88 rfl ?_
              exact xe_fin (K5 (s5 + ((fun m => q_cm (q_fi (q_I h 154) (q_I h 140) LW lv nc w m) (hv m) nd) m_ (q_chs nm (2 ^ nd) (fun s => q_sb gu s nd) (fun m => q_cm (q_fi (q_I h 154) (q_I h 140) LW lv nc w m) (hv m) nd) n m_))) (by rw [e5]; rfl)) (And.intro rfl (And.intro rfl (And.intro rfl (And.intro rfl (And.intro rfl trivial))))) rfl
          · refine xe_iload dX10_quilt_49 rfl ?_
            refine xe_aload_n dX10_quilt_51 rfl ?_
            refine xe_getP dX10_quilt_52 flX10_49 (st124 hs) (by decide) rfl (sp124_24 hs) ?_
            refine xe_aload_n dX10_quilt_55 rfl ?_
            refine xe_getIv dX10_quilt_56 flX10_228 (st124 hs) (by decide) rfl (v := nI lv) ((hX.2.1 18 rfl).trans p1) ?_
            refine xn_ialdv dX10_quilt_59 (st135 hs) (by omega) (by decide) (v := nI nm) ((congrFun (hX.1 135 (by decide) rfl) lv).trans p3) ?_
            refine xn_icmp_ge (tgt := 91) dX10_quilt_60 rfl (by omega) (by omega) (fun c7 => ?_) (fun c7 => ?_)
            · refine xe_iload_n dX10_quilt_91 rfl ?_
              refine xe_ireturn dX10_quilt_92 rfl (by first | rfl | decide +kernel) ?_
              subst e5
              exact ⟨rfl, hX⟩
            · omega
        · omega
      · omega
    · omega
theorem c_X10_quiltOf_n (l : Launch) (g : q_GP) (h : q_H) (hs : q_Stat h) {lv nm nd nc mo : Nat} (hp : rm_P h lv nm nd nc mo) {LW : q_LW} (hL : rm_L h lv LW) {w : Nat} (hw : q_I h 154 200 = nI w) (hw2 : w < 2 ^ 20) {gu hv : Nat → Nat} (hgu : ∀ d, d < nd → q_I h 138 (8 * lv + d) = nI (gu d) ∧ gu d ≤ 99) (hhv : ∀ m, m < nm → q_s8 (q_I h 154) (8 * m) = nI (hv m) ∧ hv m < 2 ^ 30) {n : Nat} (hn1 : 1 ≤ n) (hn : n ≤ 400) {m : Nat} (hm : m < nm) (hc : ¬ q_lg nm (2 ^ nd) (fun s => q_sb gu s nd) (fun m => q_cm (q_fi (q_I h 154) (q_I h 140) LW lv nc w m) (hv m) nd) nm n < 1000000) : q_Ct l g 5 mX10_quiltOf [.ref 124, .int (nI n), .int (nI m)] h (fun r h1 => r = some (.int (-2)) ∧ q_mag h h1) := by
  obtain ⟨p1, p2, p3, p4, p5, p6, p7, p8, p9, p10⟩ := id hp
  have h1 := q_ltn_t (by omega : nm < 2 ^ 31) hm
  refine q_CtV mvX10_quiltOf (Nat.le_of_ble_eq_true rfl) ?_
  refine xe_iload_n dX10_quiltOf_0 rfl ?_
  refine xe_iconst dX10_quiltOf_1 kc_1 ?_
  refine xe_sipush dX10_quiltOf_2 ks_400 ?_
  refine xe_callSI (d' := 0) (y' := mX10_in) dX10_quiltOf_5 mlX10_312 msX10_in rfl (by decide) (by decide) (Nat.le_of_ble_eq_true rfl) (c_X10_inv l g _ _ _ _ (q_in_t (a := 1) (by omega) (by omega) (by decide))) rfl ?_
  refine xn_if_eq (tgt := 19) dX10_quiltOf_8 rfl (by omega) (fun c1 => ?_) (fun c1 => ?_)
  · omega
  · refine xe_aload_n dX10_quiltOf_11 rfl ?_
    refine xe_iload_n dX10_quiltOf_12 rfl ?_
    refine xe_callVI (d' := 1) (y' := mX10_isMan) dX10_quiltOf_13 mlX10_340 mvX10_isMan rfl (st124 hs) (by decide) rfl (by decide) (by decide) (Nat.le_of_ble_eq_true rfl) (c_X10_isManv l g _ (by exact hs) (by exact hp) _ (by assumption)) rfl ?_
    refine xn_if_ne (tgt := 21) dX10_quiltOf_16 rfl (by omega) (fun c2 => ?_) (fun c2 => ?_)
    · refine xe_aload_n dX10_quiltOf_21 rfl ?_
      refine xe_iload_n dX10_quiltOf_22 rfl ?_
      refine xe_callVIq (d' := 4) (y' := mX10_fillsQuilt) dX10_quiltOf_23 mlX10_392 mvX10_fillsQuilt rfl (st124 hs) (by decide) rfl (by decide) (by decide) (Nat.le_of_ble_eq_true rfl) (c_X10_fillsQuilt_n l g _ (by exact hs) (by exact hp) hL hw hw2 hgu hhv (by omega) hc) rfl (fun h1 hX => ?_)
      refine xn_if_eq (tgt := 38) dX10_quiltOf_26 rfl (by omega) (fun c3 => ?_) (fun c3 => ?_)
      · refine xe_bipush dX10_quiltOf_38 kb_m2 ?_
        refine xe_ireturn dX10_quiltOf_40 rfl (by first | rfl | decide +kernel) ?_
        exact ⟨rfl, hX⟩
      · omega
    · omega
theorem c_X10_quiltOf_t (l : Launch) (g : q_GP) (h : q_H) (hs : q_Stat h) {lv nm nd nc mo : Nat} (hp : rm_P h lv nm nd nc mo) {LW : q_LW} (hL : rm_L h lv LW) {w : Nat} (hw : q_I h 154 200 = nI w) (hw2 : w < 2 ^ 20) {gu hv : Nat → Nat} (hgu : ∀ d, d < nd → q_I h 138 (8 * lv + d) = nI (gu d) ∧ gu d ≤ 99) (hhv : ∀ m, m < nm → q_s8 (q_I h 154) (8 * m) = nI (hv m) ∧ hv m < 2 ^ 30) {n : Nat} (hn1 : 1 ≤ n) (hn : n ≤ 400) {m : Nat} (hm : m < nm) (hc : q_lg nm (2 ^ nd) (fun s => q_sb gu s nd) (fun m => q_cm (q_fi (q_I h 154) (q_I h 140) LW lv nc w m) (hv m) nd) nm n < 1000000) : q_Ct l g 5 mX10_quiltOf [.ref 124, .int (nI n), .int (nI m)] h (fun r h1 => r = some (.int (nI (q_chs nm (2 ^ nd) (fun s => q_sb gu s nd) (fun m => q_cm (q_fi (q_I h 154) (q_I h 140) LW lv nc w m) (hv m) nd) n m))) ∧ q_mag h h1) := by
  obtain ⟨p1, p2, p3, p4, p5, p6, p7, p8, p9, p10⟩ := id hp
  have h1 := q_ltn_t (by omega : nm < 2 ^ 31) hm
  refine q_CtV mvX10_quiltOf (Nat.le_of_ble_eq_true rfl) ?_
  refine xe_iload_n dX10_quiltOf_0 rfl ?_
  refine xe_iconst dX10_quiltOf_1 kc_1 ?_
  refine xe_sipush dX10_quiltOf_2 ks_400 ?_
  refine xe_callSI (d' := 0) (y' := mX10_in) dX10_quiltOf_5 mlX10_312 msX10_in rfl (by decide) (by decide) (Nat.le_of_ble_eq_true rfl) (c_X10_inv l g _ _ _ _ (q_in_t (a := 1) (by omega) (by omega) (by decide))) rfl ?_
  refine xn_if_eq (tgt := 19) dX10_quiltOf_8 rfl (by omega) (fun c1 => ?_) (fun c1 => ?_)
  · omega
  · refine xe_aload_n dX10_quiltOf_11 rfl ?_
    refine xe_iload_n dX10_quiltOf_12 rfl ?_
    refine xe_callVI (d' := 1) (y' := mX10_isMan) dX10_quiltOf_13 mlX10_340 mvX10_isMan rfl (st124 hs) (by decide) rfl (by decide) (by decide) (Nat.le_of_ble_eq_true rfl) (c_X10_isManv l g _ (by exact hs) (by exact hp) _ (by assumption)) rfl ?_
    refine xn_if_ne (tgt := 21) dX10_quiltOf_16 rfl (by omega) (fun c2 => ?_) (fun c2 => ?_)
    · refine xe_aload_n dX10_quiltOf_21 rfl ?_
      refine xe_iload_n dX10_quiltOf_22 rfl ?_
      refine xe_callVIq (d' := 4) (y' := mX10_fillsQuilt) dX10_quiltOf_23 mlX10_392 mvX10_fillsQuilt rfl (st124 hs) (by decide) rfl (by decide) (by decide) (Nat.le_of_ble_eq_true rfl) (c_X10_fillsQuilt_y l g _ (by exact hs) (by exact hp) hL hw hw2 hgu hhv (by omega) hc) rfl (fun h1 hq => ?_)
      obtain ⟨hX, r1, r2, r3⟩ := hq
      have hs : q_Stat h1 := q_Stat_mag hX hs
      refine xn_if_eq (tgt := 38) dX10_quiltOf_26 rfl (by omega) (fun c3 => ?_) (fun c3 => ?_)
      · omega
      · refine xe_aload_n dX10_quiltOf_29 rfl ?_
        refine xe_getP dX10_quiltOf_30 flX10_141 (st124 hs) (by decide) rfl (sp124_59 hs) ?_
        refine xe_iload_n dX10_quiltOf_33 rfl ?_
        refine xn_ialdv dX10_quiltOf_34 (st165 hs) (by omega) (by decide) (v := nI (q_chs nm (2 ^ nd) (fun s => q_sb gu s nd) (fun m => q_cm (q_fi (q_I h 154) (q_I h 140) LW lv nc w m) (hv m) nd) n m)) (r2 m hm) ?_
        refine xe_goto (tgt := 40) dX10_quiltOf_35 rfl ?_
        refine xe_ireturn dX10_quiltOf_40 rfl (by first | rfl | decide +kernel) ?_
        exact ⟨rfl, hX⟩
    · omega
theorem c_X10_quilt_f (l : Launch) (g : q_GP) (h : q_H) (hs : q_Stat h) {lv nm nd nc mo : Nat} (hp : rm_P h lv nm nd nc mo) (x z : Int32) (hxz : ¬ ((∃ k, 1 ≤ k ∧ k ≤ 400 ∧ x = nI k) ∧ ∃ k, 0 ≤ k ∧ k ≤ 1 ∧ z = nI k)) : q_Cd l g 5 mX10_quilt [.ref 124, .int x, .int z] h (some (.int (-1))) h := by
  by_cases h1 : ∃ k, 1 ≤ k ∧ k ≤ 400 ∧ x = nI k
  · have e1 : q_in x (nI 1) (nI 400) = nI 1 := by
      obtain ⟨k, k1, k2, rfl⟩ := h1
      exact q_in_t k1 k2 (by decide)
    have e2 := q_in_f (a := 0) (b := 1) (by decide) (by decide) (fun q => hxz ⟨h1, q⟩)
    refine q_CdV mvX10_quilt (Nat.le_of_ble_eq_true rfl) ?_
    refine xe_iload_n dX10_quilt_0 rfl ?_
    refine xe_iconst dX10_quilt_1 kc_1 ?_
    refine xe_sipush dX10_quilt_2 ks_400 ?_
    refine xe_callSI (d' := 0) (y' := mX10_in) dX10_quilt_5 mlX10_312 msX10_in rfl (by decide) (by decide) (Nat.le_of_ble_eq_true rfl) (c_X10_inv l g _ _ _ _ (e1)) rfl ?_
    refine xn_if_eq (tgt := 20) dX10_quilt_8 rfl (by omega) (fun c1 => ?_) (fun c1 => ?_)
    · omega
    · refine xe_iload_n dX10_quilt_11 rfl ?_
      refine xe_iconst dX10_quilt_12 kc_0 ?_
      refine xe_iconst dX10_quilt_13 kc_1 ?_
      refine xe_callSI (d' := 0) (y' := mX10_in) dX10_quilt_14 mlX10_312 msX10_in rfl (by decide) (by decide) (Nat.le_of_ble_eq_true rfl) (c_X10_inv l g _ _ _ _ (e2)) rfl ?_
      refine xn_if_ne (tgt := 22) dX10_quilt_17 rfl (by omega) (fun c2 => ?_) (fun c2 => ?_)
      · omega
      · refine xe_iconst dX10_quilt_20 kc_m1 ?_
        refine xe_ireturn dX10_quilt_21 rfl (by first | rfl | decide +kernel) ?_
        exact ⟨rfl, rfl⟩
  · have e1 := q_in_f (a := 1) (b := 400) (by decide) (by decide) h1
    refine q_CdV mvX10_quilt (Nat.le_of_ble_eq_true rfl) ?_
    refine xe_iload_n dX10_quilt_0 rfl ?_
    refine xe_iconst dX10_quilt_1 kc_1 ?_
    refine xe_sipush dX10_quilt_2 ks_400 ?_
    refine xe_callSI (d' := 0) (y' := mX10_in) dX10_quilt_5 mlX10_312 msX10_in rfl (by decide) (by decide) (Nat.le_of_ble_eq_true rfl) (c_X10_inv l g _ _ _ _ (e1)) rfl ?_
    refine xn_if_eq (tgt := 20) dX10_quilt_8 rfl (by omega) (fun c1 => ?_) (fun c1 => ?_)
    · refine xe_iconst dX10_quilt_20 kc_m1 ?_
      refine xe_ireturn dX10_quilt_21 rfl (by first | rfl | decide +kernel) ?_
      exact ⟨rfl, rfl⟩
    · omega
theorem c_X10_quiltOf_f (l : Launch) (g : q_GP) (h : q_H) (hs : q_Stat h) {lv nm nd nc mo : Nat} (hp : rm_P h lv nm nd nc mo) (x z : Int32) (hxz : ¬ ((∃ k, 1 ≤ k ∧ k ≤ 400 ∧ x = nI k) ∧ q_isN z nm)) : q_Cd l g 5 mX10_quiltOf [.ref 124, .int x, .int z] h (some (.int (-1))) h := by
  obtain ⟨p1, p2, p3, p4, p5, p6, p7, p8, p9, p10⟩ := id hp
  by_cases h1 : ∃ k, 1 ≤ k ∧ k ≤ 400 ∧ x = nI k
  · have e1 : q_in x (nI 1) (nI 400) = nI 1 := by
      obtain ⟨k, k1, k2, rfl⟩ := h1
      exact q_in_t k1 k2 (by decide)
    have e2 := q_ltn_f (by omega : nm < 2 ^ 31) (fun q => hxz ⟨h1, q⟩)
    refine q_CdV mvX10_quiltOf (Nat.le_of_ble_eq_true rfl) ?_
    refine xe_iload_n dX10_quiltOf_0 rfl ?_
    refine xe_iconst dX10_quiltOf_1 kc_1 ?_
    refine xe_sipush dX10_quiltOf_2 ks_400 ?_
    refine xe_callSI (d' := 0) (y' := mX10_in) dX10_quiltOf_5 mlX10_312 msX10_in rfl (by decide) (by decide) (Nat.le_of_ble_eq_true rfl) (c_X10_inv l g _ _ _ _ (e1)) rfl ?_
    refine xn_if_eq (tgt := 19) dX10_quiltOf_8 rfl (by omega) (fun c1 => ?_) (fun c1 => ?_)
    · omega
    · refine xe_aload_n dX10_quiltOf_11 rfl ?_
      refine xe_iload_n dX10_quiltOf_12 rfl ?_
      refine xe_callVI (d' := 1) (y' := mX10_isMan) dX10_quiltOf_13 mlX10_340 mvX10_isMan rfl (st124 hs) (by decide) rfl (by decide) (by decide) (Nat.le_of_ble_eq_true rfl) (c_X10_isManv l g _ (by exact hs) (by exact hp) _ (by assumption)) rfl ?_
      refine xn_if_ne (tgt := 21) dX10_quiltOf_16 rfl (by omega) (fun c2 => ?_) (fun c2 => ?_)
      · omega
      · refine xe_iconst dX10_quiltOf_19 kc_m1 ?_
        refine xe_ireturn dX10_quiltOf_20 rfl (by first | rfl | decide +kernel) ?_
        exact ⟨rfl, rfl⟩
  · have e1 := q_in_f (a := 1) (b := 400) (by decide) (by decide) h1
    refine q_CdV mvX10_quiltOf (Nat.le_of_ble_eq_true rfl) ?_
    refine xe_iload_n dX10_quiltOf_0 rfl ?_
    refine xe_iconst dX10_quiltOf_1 kc_1 ?_
    refine xe_sipush dX10_quiltOf_2 ks_400 ?_
    refine xe_callSI (d' := 0) (y' := mX10_in) dX10_quiltOf_5 mlX10_312 msX10_in rfl (by decide) (by decide) (Nat.le_of_ble_eq_true rfl) (c_X10_inv l g _ _ _ _ (e1)) rfl ?_
    refine xn_if_eq (tgt := 19) dX10_quiltOf_8 rfl (by omega) (fun c1 => ?_) (fun c1 => ?_)
    · refine xe_iconst dX10_quiltOf_19 kc_m1 ?_
      refine xe_ireturn dX10_quiltOf_20 rfl (by first | rfl | decide +kernel) ?_
      exact ⟨rfl, rfl⟩
    · omega
