/-! the reference: appeal, entry, tell, the tape; warm, bald -/
def q_apB (R : Nat → Int32) (m i : Nat) : Int32 :=
  if (q_mvs m 8 m R (nI 1) 8).1 (210 + 5 * i + 3) / nI 2 ≤ q_s8 (q_mvs m 8 m R (nI 1) 8).1 64 then (q_mvs m 8 m R (nI 1) 8).1 (210 + 5 * i + 3) / nI 2 else q_s8 (q_mvs m 8 m R (nI 1) 8).1 64
def q_apR (R : Nat → Int32) (m i : Nat) (b : Int32) : Nat → Int32 := upd (q_mvs 8 m m (q_mvs m 8 m R (nI 1) 8).1 b 8).1 (210 + 5 * i + 4) (nI 1)
theorem c_X10_appeal_t (l : Launch) (g : q_GP) (h : q_H) (hs : q_Stat h) {lv nm nd nc mo : Nat} (hp : rm_P h lv nm nd nc mo) {u E : Nat} (hu : q_I h 124 51 = nI u) (hu2 : u ≤ 25) (hE : q_I h 154 201 = nI E) (hE2 : E ≤ 300) {i m : Nat} (hi : i < E) (hm : m < 8) (hme : q_I h 154 (210 + 5 * i) = nI m) (hfl : q_I h 154 (210 + 5 * i + 4) = nI 0) (hhv : ¬ q_s8 (q_cpy (q_I h 154) (q_I h 155) 1720) (8 * m) = 0) : q_Ct l g 2 mX10_appeal [.ref 124, .int (nI i)] h (fun r h1 => r = some (.int (q_apB (q_cpy (q_I h 154) (q_I h 155) 1720) m i)) ∧ q_kept h u (q_apR (q_cpy (q_I h 154) (q_I h 155) 1720) m i (q_apB (q_cpy (q_I h 154) (q_I h 155) 1720) m i)) h1) := by
  obtain ⟨p1, p2, p3, p4, p5, p6, p7, p8, p9, p10⟩ := id hp
  refine q_CtV mvX10_appeal (Nat.le_of_ble_eq_true rfl) ?_
  refine xe_iload_n dX10_appeal_0 rfl ?_
  refine xe_iconst dX10_appeal_1 kc_0 ?_
  refine xe_aload_n dX10_appeal_2 rfl ?_
  refine xe_getP dX10_appeal_3 flX10_107 (st124 hs) (by decide) rfl (sp124_47 hs) ?_
  refine xe_sipush dX10_appeal_6 ks_201 ?_
  refine xn_ialdv dX10_appeal_9 (st154 hs) (by omega) (by decide) (v := nI E) (hE) ?_
  refine xe_iconst dX10_appeal_10 kc_1 ?_
  refine xe_isub dX10_appeal_11 ?_
  refine xe_callSI (d' := 0) (y' := mX10_in) dX10_appeal_12 mlX10_312 msX10_in rfl (by decide) (by decide) (Nat.le_of_ble_eq_true rfl) (c_X10_inv l g _ _ _ _ (q_ltn_t (n := E) (by omega) hi)) rfl ?_
  refine xn_if_ne (tgt := 20) dX10_appeal_15 rfl (by omega) (fun c1 => ?_) (fun c1 => ?_)
  · refine xe_aload_n dX10_appeal_20 rfl ?_
    refine xe_callVV (d' := 0) (y' := mX10_copiesAll) dX10_appeal_21 mlX10_366 mvX10_copiesAll rfl (st124 hs) (by decide) rfl (by decide) (by decide) (Nat.le_of_ble_eq_true rfl) (c_X10_copiesAll l g _ (by exact hs)) rfl ?_
    refine xe_sipush dX10_appeal_24 ks_210 ?_
    refine xe_iconst dX10_appeal_27 kc_5 ?_
    refine xe_iload_n dX10_appeal_28 rfl ?_
    refine xn_imul dX10_appeal_29 ?_
    refine xn_iadd dX10_appeal_30 ?_
    refine xe_istore_n (i := 2) dX10_appeal_31 rfl (by decide) rfl ?_
    refine xe_aload_n dX10_appeal_32 rfl ?_
    refine xe_getP dX10_appeal_33 flX10_110 (st124 hs) (by decide) rfl (sp124_48 hs) ?_
    refine xe_iload_n dX10_appeal_36 rfl ?_
    refine xn_ialdv dX10_appeal_37 (st155 hs) (by omega) (by decide) (v := nI m) ((if_pos (by omega)).trans hme) ?_
    refine xe_istore_n (i := 3) dX10_appeal_38 rfl (by decide) rfl ?_
    refine xe_aload_n dX10_appeal_39 rfl ?_
    refine xe_getP dX10_appeal_40 flX10_110 (st124 hs) (by decide) rfl (sp124_48 hs) ?_
    refine xe_iload_n dX10_appeal_43 rfl ?_
    refine xe_iconst dX10_appeal_44 kc_4 ?_
    refine xn_iadd dX10_appeal_45 ?_
    refine xn_ialdv dX10_appeal_46 (st155 hs) (by omega) (by decide) (v := nI 0) ((if_pos (by omega)).trans hfl) ?_
    refine xe_iconst dX10_appeal_47 kc_1 ?_
    refine xn_icmp_eq (tgt := 59) dX10_appeal_48 rfl (by omega) (by omega) (fun c2 => ?_) (fun c2 => ?_)
    · omega
    · refine xe_aload_n dX10_appeal_51 rfl ?_
      refine xe_iload_n dX10_appeal_52 rfl ?_
      refine xe_callVI (d' := 0) (y' := mX10_haveOf) dX10_appeal_53 mlX10_319 mvX10_haveOf rfl (st124 hs) (by decide) rfl (by decide) (by decide) (Nat.le_of_ble_eq_true rfl) (c_X10_haveOf l g _ (by exact hs) _ (by omega)) rfl ?_
      refine xe_top (v' := q_s8 (q_cpy (q_I h 154) (q_I h 155) 1720) (8 * m)) rfl ?_
      refine xe_if_ne (tgt := 62) dX10_appeal_56 rfl (fun c3 => ?_) (fun c3 => ?_)
      · refine xe_aload_n dX10_appeal_62 rfl ?_
        refine xe_iload_n dX10_appeal_63 rfl ?_
        refine xe_bipush dX10_appeal_64 kb_8 ?_
        refine xe_iconst dX10_appeal_66 kc_1 ?_
        refine xe_iload_n dX10_appeal_67 rfl ?_
        refine xe_callVV (d' := 0) (y' := mX10_moves) dX10_appeal_68 mlX10_369 mvX10_moves rfl (st124 hs) (by decide) rfl (by decide) (by decide) (Nat.le_of_ble_eq_true rfl) (c_X10_moves l g _ (by exact hs) _ _ _ _ (by omega) (by omega) (by omega)) rfl ?_
        refine xe_aload_n dX10_appeal_71 rfl ?_
        refine xe_getP dX10_appeal_72 flX10_110 (st124 hs) (by decide) rfl (sp124_48 hs) ?_
        refine xe_iload_n dX10_appeal_75 rfl ?_
        refine xe_iconst dX10_appeal_76 kc_3 ?_
        refine xn_iadd dX10_appeal_77 ?_
        refine xn_ialdv dX10_appeal_78 (st155 hs) (by omega) (by decide) (v := (q_mvs m 8 m (q_cpy (q_I h 154) (q_I h 155) 1720) (nI 1) 8).1 (210 + 5 * i + 3)) (rfl) ?_
        refine xe_iconst dX10_appeal_79 kc_2 ?_
        refine xe_idiv dX10_appeal_80 (by decide) ?_
        refine xe_istore dX10_appeal_81 (by decide) rfl ?_
        refine xe_iload dX10_appeal_83 rfl ?_
        refine xe_aload_n dX10_appeal_85 rfl ?_
        refine xe_bipush dX10_appeal_86 kb_8 ?_
        refine xe_callVI (d' := 0) (y' := mX10_haveOf) dX10_appeal_88 mlX10_319 mvX10_haveOf rfl (st124 hs) (by decide) rfl (by decide) (by decide) (Nat.le_of_ble_eq_true rfl) (c_X10_haveOf l g _ (by exact hs) _ (by omega)) rfl ?_
        refine xe_icmp_le (tgt := 102) dX10_appeal_91 rfl (fun c4 => ?_) (fun c4 => ?_)
        · have e5 : q_apB (q_cpy (q_I h 154) (q_I h 155) 1720) m i = (q_mvs m 8 m (q_cpy (q_I h 154) (q_I h 155) 1720) (nI 1) 8).1 (210 + 5 * i + 3) / nI 2 := if_pos c4
          refine xe_aload_n dX10_appeal_102 rfl ?_
          refine xe_bipush dX10_appeal_103 kb_8 ?_
          refine xe_iload_n dX10_appeal_105 rfl ?_
          refine xe_iload dX10_appeal_106 rfl ?_
          refine xe_iload_n dX10_appeal_108 rfl ?_
          refine xe_callVV (d' := 0) (y' := mX10_moves) dX10_appeal_109 mlX10_369 mvX10_moves rfl (st124 hs) (by decide) rfl (by decide) (by decide) (Nat.le_of_ble_eq_true rfl) (c_X10_moves l g _ (by exact hs) _ _ _ _ (by omega) (by omega) (by omega)) rfl ?_
          refine xe_aload_n dX10_appeal_112 rfl ?_
          refine xe_getP dX10_appeal_113 flX10_110 (st124 hs) (by decide) rfl (sp124_48 hs) ?_
          refine xe_iload_n dX10_appeal_116 rfl ?_
          refine xe_iconst dX10_appeal_117 kc_4 ?_
          refine xn_iadd dX10_appeal_118 ?_
          refine xe_iconst dX10_appeal_119 kc_1 ?_
          refine xn_iast dX10_appeal_120 (st155 hs) (by omega) (by decide) ?_
          refine xe_heap (h2 := q_wI h 155 (q_apR (q_cpy (q_I h 154) (q_I h 155) 1720) m i ((q_mvs m 8 m (q_cpy (q_I h 154) (q_I h 155) 1720) (nI 1) 8).1 (210 + 5 * i + 3) / nI 2))) (by simp only [q_wwI]; rfl) ?_
          refine xe_aload_n dX10_appeal_121 rfl ?_
          refine xe_callVV (d' := 0) (y' := mX10_keeps) dX10_appeal_122 mlX10_373 mvX10_keeps rfl (st124 hs) (by decide) rfl (by decide) (by decide) (Nat.le_of_ble_eq_true rfl) (c_X10_keeps l g _ (by exact hs) _ (by exact hu) (by omega)) rfl ?_
          refine xe_iload dX10_appeal_125 rfl ?_
          refine xe_ireturn dX10_appeal_127 rfl (by first | rfl | decide +kernel) ?_
          rw [e5]
          exact ⟨rfl, _, q_mag_w (q_mag_r h) _ rfl (by decide), rfl, rfl⟩
        · have e5 : q_apB (q_cpy (q_I h 154) (q_I h 155) 1720) m i = q_s8 (q_mvs m 8 m (q_cpy (q_I h 154) (q_I h 155) 1720) (nI 1) 8).1 64 := if_neg c4
          refine xe_aload_n dX10_appeal_94 rfl ?_
          refine xe_bipush dX10_appeal_95 kb_8 ?_
          refine xe_callVI (d' := 0) (y' := mX10_haveOf) dX10_appeal_97 mlX10_319 mvX10_haveOf rfl (st124 hs) (by decide) rfl (by decide) (by decide) (Nat.le_of_ble_eq_true rfl) (c_X10_haveOf l g _ (by exact hs) _ (by omega)) rfl ?_
          refine xe_istore dX10_appeal_100 (by decide) rfl ?_
          refine xe_aload_n dX10_appeal_102 rfl ?_
          refine xe_bipush dX10_appeal_103 kb_8 ?_
          refine xe_iload_n dX10_appeal_105 rfl ?_
          refine xe_iload dX10_appeal_106 rfl ?_
          refine xe_iload_n dX10_appeal_108 rfl ?_
          refine xe_callVV (d' := 0) (y' := mX10_moves) dX10_appeal_109 mlX10_369 mvX10_moves rfl (st124 hs) (by decide) rfl (by decide) (by decide) (Nat.le_of_ble_eq_true rfl) (c_X10_moves l g _ (by exact hs) _ _ _ _ (by omega) (by omega) (by omega)) rfl ?_
          refine xe_aload_n dX10_appeal_112 rfl ?_
          refine xe_getP dX10_appeal_113 flX10_110 (st124 hs) (by decide) rfl (sp124_48 hs) ?_
          refine xe_iload_n dX10_appeal_116 rfl ?_
          refine xe_iconst dX10_appeal_117 kc_4 ?_
          refine xn_iadd dX10_appeal_118 ?_
          refine xe_iconst dX10_appeal_119 kc_1 ?_
          refine xn_iast dX10_appeal_120 (st155 hs) (by omega) (by decide) ?_
          refine xe_heap (h2 := q_wI h 155 (q_apR (q_cpy (q_I h 154) (q_I h 155) 1720) m i (q_s8 (q_mvs m 8 m (q_cpy (q_I h 154) (q_I h 155) 1720) (nI 1) 8).1 64))) (by simp only [q_wwI]; rfl) ?_
          refine xe_aload_n dX10_appeal_121 rfl ?_
          refine xe_callVV (d' := 0) (y' := mX10_keeps) dX10_appeal_122 mlX10_373 mvX10_keeps rfl (st124 hs) (by decide) rfl (by decide) (by decide) (Nat.le_of_ble_eq_true rfl) (c_X10_keeps l g _ (by exact hs) _ (by exact hu) (by omega)) rfl ?_
          refine xe_iload dX10_appeal_125 rfl ?_
          refine xe_ireturn dX10_appeal_127 rfl (by first | rfl | decide +kernel) ?_
          rw [e5]
          exact ⟨rfl, _, q_mag_w (q_mag_r h) _ rfl (by decide), rfl, rfl⟩
      · exact absurd c3 hhv
  · omega
theorem c_X10_appeal_1 (l : Launch) (g : q_GP) (h : q_H) (hs : q_Stat h) {lv nm nd nc mo : Nat} (hp : rm_P h lv nm nd nc mo) {u E : Nat} (hu : q_I h 124 51 = nI u) (hu2 : u ≤ 25) (hE : q_I h 154 201 = nI E) (hE2 : E ≤ 300) {i m : Nat} (hi : i < E) (hm : m < 8) (hme : q_I h 154 (210 + 5 * i) = nI m) (hfl : q_I h 154 (210 + 5 * i + 4) = nI 1) : q_Ct l g 2 mX10_appeal [.ref 124, .int (nI i)] h (fun r h1 => r = some (.int (-2)) ∧ q_mag h h1) := by
  obtain ⟨p1, p2, p3, p4, p5, p6, p7, p8, p9, p10⟩ := id hp
  refine q_CtV mvX10_appeal (Nat.le_of_ble_eq_true rfl) ?_
  refine xe_iload_n dX10_appeal_0 rfl ?_
  refine xe_iconst dX10_appeal_1 kc_0 ?_
  refine xe_aload_n dX10_appeal_2 rfl ?_
  refine xe_getP dX10_appeal_3 flX10_107 (st124 hs) (by decide) rfl (sp124_47 hs) ?_
  refine xe_sipush dX10_appeal_6 ks_201 ?_
  refine xn_ialdv dX10_appeal_9 (st154 hs) (by omega) (by decide) (v := nI E) (hE) ?_
  refine xe_iconst dX10_appeal_10 kc_1 ?_
  refine xe_isub dX10_appeal_11 ?_
  refine xe_callSI (d' := 0) (y' := mX10_in) dX10_appeal_12 mlX10_312 msX10_in rfl (by decide) (by decide) (Nat.le_of_ble_eq_true rfl) (c_X10_inv l g _ _ _ _ (q_ltn_t (n := E) (by omega) hi)) rfl ?_
  refine xn_if_ne (tgt := 20) dX10_appeal_15 rfl (by omega) (fun c1 => ?_) (fun c1 => ?_)
  · refine xe_aload_n dX10_appeal_20 rfl ?_
    refine xe_callVV (d' := 0) (y' := mX10_copiesAll) dX10_appeal_21 mlX10_366 mvX10_copiesAll rfl (st124 hs) (by decide) rfl (by decide) (by decide) (Nat.le_of_ble_eq_true rfl) (c_X10_copiesAll l g _ (by exact hs)) rfl ?_
    refine xe_sipush dX10_appeal_24 ks_210 ?_
    refine xe_iconst dX10_appeal_27 kc_5 ?_
    refine xe_iload_n dX10_appeal_28 rfl ?_
    refine xn_imul dX10_appeal_29 ?_
    refine xn_iadd dX10_appeal_30 ?_
    refine xe_istore_n (i := 2) dX10_appeal_31 rfl (by decide) rfl ?_
    refine xe_aload_n dX10_appeal_32 rfl ?_
    refine xe_getP dX10_appeal_33 flX10_110 (st124 hs) (by decide) rfl (sp124_48 hs) ?_
    refine xe_iload_n dX10_appeal_36 rfl ?_
    refine xn_ialdv dX10_appeal_37 (st155 hs) (by omega) (by decide) (v := nI m) ((if_pos (by omega)).trans hme) ?_
    refine xe_istore_n (i := 3) dX10_appeal_38 rfl (by decide) rfl ?_
    refine xe_aload_n dX10_appeal_39 rfl ?_
    refine xe_getP dX10_appeal_40 flX10_110 (st124 hs) (by decide) rfl (sp124_48 hs) ?_
    refine xe_iload_n dX10_appeal_43 rfl ?_
    refine xe_iconst dX10_appeal_44 kc_4 ?_
    refine xn_iadd dX10_appeal_45 ?_
    refine xn_ialdv dX10_appeal_46 (st155 hs) (by omega) (by decide) (v := nI 1) ((if_pos (by omega)).trans hfl) ?_
    refine xe_iconst dX10_appeal_47 kc_1 ?_
    refine xn_icmp_eq (tgt := 59) dX10_appeal_48 rfl (by omega) (by omega) (fun c2 => ?_) (fun c2 => ?_)
    · refine xe_bipush dX10_appeal_59 kb_m2 ?_
      refine xe_ireturn dX10_appeal_61 rfl (by first | rfl | decide +kernel) ?_
      exact ⟨rfl, q_mag_w (q_mag_r h) _ rfl (by decide)⟩
    · omega
  · omega
theorem c_X10_appeal_2 (l : Launch) (g : q_GP) (h : q_H) (hs : q_Stat h) {lv nm nd nc mo : Nat} (hp : rm_P h lv nm nd nc mo) {u E : Nat} (hu : q_I h 124 51 = nI u) (hu2 : u ≤ 25) (hE : q_I h 154 201 = nI E) (hE2 : E ≤ 300) {i m : Nat} (hi : i < E) (hm : m < 8) (hme : q_I h 154 (210 + 5 * i) = nI m) (hfl : q_I h 154 (210 + 5 * i + 4) = nI 0) (hhv : q_s8 (q_cpy (q_I h 154) (q_I h 155) 1720) (8 * m) = 0) : q_Ct l g 2 mX10_appeal [.ref 124, .int (nI i)] h (fun r h1 => r = some (.int (-2)) ∧ q_mag h h1) := by
  obtain ⟨p1, p2, p3, p4, p5, p6, p7, p8, p9, p10⟩ := id hp
  refine q_CtV mvX10_appeal (Nat.le_of_ble_eq_true rfl) ?_
  refine xe_iload_n dX10_appeal_0 rfl ?_
  refine xe_iconst dX10_appeal_1 kc_0 ?_
  refine xe_aload_n dX10_appeal_2 rfl ?_
  refine xe_getP dX10_appeal_3 flX10_107 (st124 hs) (by decide) rfl (sp124_47 hs) ?_
  refine xe_sipush dX10_appeal_6 ks_201 ?_
  refine xn_ialdv dX10_appeal_9 (st154 hs) (by omega) (by decide) (v := nI E) (hE) ?_
  refine xe_iconst dX10_appeal_10 kc_1 ?_
  refine xe_isub dX10_appeal_11 ?_
  refine xe_callSI (d' := 0) (y' := mX10_in) dX10_appeal_12 mlX10_312 msX10_in rfl (by decide) (by decide) (Nat.le_of_ble_eq_true rfl) (c_X10_inv l g _ _ _ _ (q_ltn_t (n := E) (by omega) hi)) rfl ?_
  refine xn_if_ne (tgt := 20) dX10_appeal_15 rfl (by omega) (fun c1 => ?_) (fun c1 => ?_)
  · refine xe_aload_n dX10_appeal_20 rfl ?_
    refine xe_callVV (d' := 0) (y' := mX10_copiesAll) dX10_appeal_21 mlX10_366 mvX10_copiesAll rfl (st124 hs) (by decide) rfl (by decide) (by decide) (Nat.le_of_ble_eq_true rfl) (c_X10_copiesAll l g _ (by exact hs)) rfl ?_
    refine xe_sipush dX10_appeal_24 ks_210 ?_
    refine xe_iconst dX10_appeal_27 kc_5 ?_
    refine xe_iload_n dX10_appeal_28 rfl ?_
    refine xn_imul dX10_appeal_29 ?_
    refine xn_iadd dX10_appeal_30 ?_
    refine xe_istore_n (i := 2) dX10_appeal_31 rfl (by decide) rfl ?_
    refine xe_aload_n dX10_appeal_32 rfl ?_
    refine xe_getP dX10_appeal_33 flX10_110 (st124 hs) (by decide) rfl (sp124_48 hs) ?_
    refine xe_iload_n dX10_appeal_36 rfl ?_
    refine xn_ialdv dX10_appeal_37 (st155 hs) (by omega) (by decide) (v := nI m) ((if_pos (by omega)).trans hme) ?_
    refine xe_istore_n (i := 3) dX10_appeal_38 rfl (by decide) rfl ?_
    refine xe_aload_n dX10_appeal_39 rfl ?_
    refine xe_getP dX10_appeal_40 flX10_110 (st124 hs) (by decide) rfl (sp124_48 hs) ?_
    refine xe_iload_n dX10_appeal_43 rfl ?_
    refine xe_iconst dX10_appeal_44 kc_4 ?_
    refine xn_iadd dX10_appeal_45 ?_
    refine xn_ialdv dX10_appeal_46 (st155 hs) (by omega) (by decide) (v := nI 0) ((if_pos (by omega)).trans hfl) ?_
    refine xe_iconst dX10_appeal_47 kc_1 ?_
    refine xn_icmp_eq (tgt := 59) dX10_appeal_48 rfl (by omega) (by omega) (fun c2 => ?_) (fun c2 => ?_)
    · omega
    · refine xe_aload_n dX10_appeal_51 rfl ?_
      refine xe_iload_n dX10_appeal_52 rfl ?_
      refine xe_callVI (d' := 0) (y' := mX10_haveOf) dX10_appeal_53 mlX10_319 mvX10_haveOf rfl (st124 hs) (by decide) rfl (by decide) (by decide) (Nat.le_of_ble_eq_true rfl) (c_X10_haveOf l g _ (by exact hs) _ (by omega)) rfl ?_
      refine xe_top (v' := q_s8 (q_cpy (q_I h 154) (q_I h 155) 1720) (8 * m)) rfl ?_
      refine xe_if_ne (tgt := 62) dX10_appeal_56 rfl (fun c3 => ?_) (fun c3 => ?_)
      · exact absurd hhv c3
      · refine xe_bipush dX10_appeal_59 kb_m2 ?_
        refine xe_ireturn dX10_appeal_61 rfl (by first | rfl | decide +kernel) ?_
        exact ⟨rfl, q_mag_w (q_mag_r h) _ rfl (by decide)⟩
  · omega
theorem c_X10_appeal_f (l : Launch) (g : q_GP) (h : q_H) (hs : q_Stat h) {E : Nat} (hE : q_I h 154 201 = nI E) (hE2 : E ≤ 300) (x : Int32) (hx : ¬ q_isN x E) : q_Cd l g 2 mX10_appeal [.ref 124, .int x] h (some (.int (-1))) h := by
  refine q_CdV mvX10_appeal (Nat.le_of_ble_eq_true rfl) ?_
  refine xe_iload_n dX10_appeal_0 rfl ?_
  refine xe_iconst dX10_appeal_1 kc_0 ?_
  refine xe_aload_n dX10_appeal_2 rfl ?_
  refine xe_getP dX10_appeal_3 flX10_107 (st124 hs) (by decide) rfl (sp124_47 hs) ?_
  refine xe_sipush dX10_appeal_6 ks_201 ?_
  refine xn_ialdv dX10_appeal_9 (st154 hs) (by omega) (by decide) (v := nI E) (hE) ?_
  refine xe_iconst dX10_appeal_10 kc_1 ?_
  refine xe_isub dX10_appeal_11 ?_
  refine xe_callSI (d' := 0) (y' := mX10_in) dX10_appeal_12 mlX10_312 msX10_in rfl (by decide) (by decide) (Nat.le_of_ble_eq_true rfl) (c_X10_inv l g _ _ _ _ (q_ltn_f (n := E) (by omega) hx)) rfl ?_
  refine xn_if_ne (tgt := 20) dX10_appeal_15 rfl (by omega) (fun c1 => ?_) (fun c1 => ?_)
  · omega
  · refine xe_iconst dX10_appeal_18 kc_m1 ?_
    refine xe_ireturn dX10_appeal_19 rfl (by first | rfl | decide +kernel) ?_
    exact ⟨rfl, rfl⟩
theorem c_X10_entry_t (l : Launch) (g : q_GP) (h : q_H) (hs : q_Stat h) {E : Nat} (hE : q_I h 154 201 = nI E) (hE2 : E ≤ 300) (i k : Nat) (hi : i < E) (hk : k < 5) : q_Cd l g 1 mX10_entry [.ref 124, .int (nI i), .int (nI k)] h (some (.int (q_I h 154 (210 + 5 * i + k)))) h := by
  refine q_CdV mvX10_entry (Nat.le_of_ble_eq_true rfl) ?_
  refine xe_iload_n dX10_entry_0 rfl ?_
  refine xe_iconst dX10_entry_1 kc_0 ?_
  refine xe_aload_n dX10_entry_2 rfl ?_
  refine xe_getP dX10_entry_3 flX10_107 (st124 hs) (by decide) rfl (sp124_47 hs) ?_
  refine xe_sipush dX10_entry_6 ks_201 ?_
  refine xn_ialdv dX10_entry_9 (st154 hs) (by omega) (by decide) (v := nI E) (hE) ?_
  refine xe_iconst dX10_entry_10 kc_1 ?_
  refine xe_isub dX10_entry_11 ?_
  refine xe_callSI (d' := 0) (y' := mX10_in) dX10_entry_12 mlX10_312 msX10_in rfl (by decide) (by decide) (Nat.le_of_ble_eq_true rfl) (c_X10_inv l g _ _ _ _ (q_ltn_t (n := E) (by omega) hi)) rfl ?_
  refine xn_if_eq (tgt := 44) dX10_entry_15 rfl (by omega) (fun c1 => ?_) (fun c1 => ?_)
  · omega
  · refine xe_iload_n dX10_entry_18 rfl ?_
    refine xe_iconst dX10_entry_19 kc_0 ?_
    refine xe_iconst dX10_entry_20 kc_4 ?_
    refine xe_callSI (d' := 0) (y' := mX10_in) dX10_entry_21 mlX10_312 msX10_in rfl (by decide) (by decide) (Nat.le_of_ble_eq_true rfl) (c_X10_inv l g _ _ _ _ (q_in_t (by omega) (by omega) (by decide))) rfl ?_
    refine xn_if_eq (tgt := 44) dX10_entry_24 rfl (by omega) (fun c2 => ?_) (fun c2 => ?_)
    · omega
    · refine xe_aload_n dX10_entry_27 rfl ?_
      refine xe_getP dX10_entry_28 flX10_107 (st124 hs) (by decide) rfl (sp124_47 hs) ?_
      refine xe_sipush dX10_entry_31 ks_210 ?_
      refine xe_iconst dX10_entry_34 kc_5 ?_
      refine xe_iload_n dX10_entry_35 rfl ?_
      refine xn_imul dX10_entry_36 ?_
      refine xn_iadd dX10_entry_37 ?_
      refine xe_iload_n dX10_entry_38 rfl ?_
      refine xn_iadd dX10_entry_39 ?_
      refine xn_ialdf dX10_entry_40 (st154 hs) (by omega) (by decide) (f := q_I h 154) rfl ?_
      refine xe_goto (tgt := 45) dX10_entry_41 rfl ?_
      refine xe_ireturn dX10_entry_45 rfl (by first | rfl | decide +kernel) ?_
      exact ⟨rfl, rfl⟩
theorem c_X10_entry_f (l : Launch) (g : q_GP) (h : q_H) (hs : q_Stat h) {E : Nat} (hE : q_I h 154 201 = nI E) (hE2 : E ≤ 300) (x z : Int32) (hx : ¬ q_isN x E) : q_Cd l g 1 mX10_entry [.ref 124, .int x, .int z] h (some (.int (-1))) h := by
  refine q_CdV mvX10_entry (Nat.le_of_ble_eq_true rfl) ?_
  refine xe_iload_n dX10_entry_0 rfl ?_
  refine xe_iconst dX10_entry_1 kc_0 ?_
  refine xe_aload_n dX10_entry_2 rfl ?_
  refine xe_getP dX10_entry_3 flX10_107 (st124 hs) (by decide) rfl (sp124_47 hs) ?_
  refine xe_sipush dX10_entry_6 ks_201 ?_
  refine xn_ialdv dX10_entry_9 (st154 hs) (by omega) (by decide) (v := nI E) (hE) ?_
  refine xe_iconst dX10_entry_10 kc_1 ?_
  refine xe_isub dX10_entry_11 ?_
  refine xe_callSI (d' := 0) (y' := mX10_in) dX10_entry_12 mlX10_312 msX10_in rfl (by decide) (by decide) (Nat.le_of_ble_eq_true rfl) (c_X10_inv l g _ _ _ _ (q_ltn_f (n := E) (by omega) hx)) rfl ?_
  refine xn_if_eq (tgt := 44) dX10_entry_15 rfl (by omega) (fun c1 => ?_) (fun c1 => ?_)
  · refine xe_iconst dX10_entry_44 kc_m1 ?_
    refine xe_ireturn dX10_entry_45 rfl (by first | rfl | decide +kernel) ?_
    exact ⟨rfl, rfl⟩
  · omega
theorem c_X10_entry_b (l : Launch) (g : q_GP) (h : q_H) (hs : q_Stat h) {E : Nat} (hE : q_I h 154 201 = nI E) (hE2 : E ≤ 300) (i : Nat) (z : Int32) (hi : i < E) (hz : ¬ ∃ k, 0 ≤ k ∧ k ≤ 4 ∧ z = nI k) : q_Cd l g 1 mX10_entry [.ref 124, .int (nI i), .int z] h (some (.int (-1))) h := by
  refine q_CdV mvX10_entry (Nat.le_of_ble_eq_true rfl) ?_
  refine xe_iload_n dX10_entry_0 rfl ?_
  refine xe_iconst dX10_entry_1 kc_0 ?_
  refine xe_aload_n dX10_entry_2 rfl ?_
  refine xe_getP dX10_entry_3 flX10_107 (st124 hs) (by decide) rfl (sp124_47 hs) ?_
  refine xe_sipush dX10_entry_6 ks_201 ?_
  refine xn_ialdv dX10_entry_9 (st154 hs) (by omega) (by decide) (v := nI E) (hE) ?_
  refine xe_iconst dX10_entry_10 kc_1 ?_
  refine xe_isub dX10_entry_11 ?_
  refine xe_callSI (d' := 0) (y' := mX10_in) dX10_entry_12 mlX10_312 msX10_in rfl (by decide) (by decide) (Nat.le_of_ble_eq_true rfl) (c_X10_inv l g _ _ _ _ (q_ltn_t (n := E) (by omega) hi)) rfl ?_
  refine xn_if_eq (tgt := 44) dX10_entry_15 rfl (by omega) (fun c1 => ?_) (fun c1 => ?_)
  · omega
  · refine xe_iload_n dX10_entry_18 rfl ?_
    refine xe_iconst dX10_entry_19 kc_0 ?_
    refine xe_iconst dX10_entry_20 kc_4 ?_
    refine xe_callSI (d' := 0) (y' := mX10_in) dX10_entry_21 mlX10_312 msX10_in rfl (by decide) (by decide) (Nat.le_of_ble_eq_true rfl) (c_X10_inv l g _ _ _ _ (q_in_f (by decide) (by decide) hz)) rfl ?_
    refine xn_if_eq (tgt := 44) dX10_entry_24 rfl (by omega) (fun c2 => ?_) (fun c2 => ?_)
    · refine xe_iconst dX10_entry_44 kc_m1 ?_
      refine xe_ireturn dX10_entry_45 rfl (by first | rfl | decide +kernel) ?_
      exact ⟨rfl, rfl⟩
    · omega
theorem q_pow_nm : ∀ k, k ≤ 8 → nI 1 <<< (nI k &&& 31) = nI (2 ^ k) := by
  intro k hk
  rcases (show k = 0 ∨ k = 1 ∨ k = 2 ∨ k = 3 ∨ k = 4 ∨ k = 5 ∨ k = 6 ∨ k = 7 ∨ k = 8 by omega) with rfl | rfl | rfl | rfl | rfl | rfl | rfl | rfl | rfl <;> decide +kernel
theorem q_pow_le {k : Nat} (hk : k ≤ 8) : 2 ^ k ≤ 256 := Nat.pow_le_pow_right (by decide) hk
theorem c_X10_tell_t (l : Launch) (g : q_GP) (h : q_H) (hs : q_Stat h) {lv nm nd nc mo : Nat} (hp : rm_P h lv nm nd nc mo) {t : Nat} (ht : q_I h 124 62 = nI t) (ht2 : t ≤ 20) (s k : Nat) (hs1 : 1 ≤ s) (hs2 : s ≤ 2 ^ nm - 1) (hk : k ≤ 9999) (ht3 : t < 20) : q_Cd l g 1 mX10_tell_ [.ref 124, .int (nI s), .int (nI k)] h (some (.int (nI t))) (q_wI (q_wI (q_wI h 166 (upd (q_I h 166) t (nI s))) 167 (upd (q_I h 167) t (nI k))) 124 (upd (q_I h 124) 62 (nI (t + 1)))) := by
  obtain ⟨p1, p2, p3, p4, p5, p6, p7, p8, p9, p10⟩ := id hp
  have hpw := q_pow_le p4
  have hpw2 : 0 < 2 ^ nm := Nat.pow_pos (by decide)
  refine q_CdV mvX10_tell_ (Nat.le_of_ble_eq_true rfl) ?_
  refine xe_aload_n dX10_tell__0 rfl ?_
  refine xe_getIv dX10_tell__1 flX10_249 (st124 hs) (by decide) rfl (v := nI t) (ht) ?_
  refine xe_bipush dX10_tell__4 kb_20 ?_
  refine xn_icmp_eq (tgt := 41) dX10_tell__6 rfl (by omega) (by omega) (fun c1 => ?_) (fun c1 => ?_)
  · omega
  · refine xe_iload_n dX10_tell__9 rfl ?_
    refine xe_iconst dX10_tell__10 kc_1 ?_
    refine xe_iconst dX10_tell__11 kc_1 ?_
    refine xe_aload_n dX10_tell__12 rfl ?_
    refine xe_getP dX10_tell__13 flX10_49 (st124 hs) (by decide) rfl (sp124_24 hs) ?_
    refine xe_aload_n dX10_tell__16 rfl ?_
    refine xe_getIv dX10_tell__17 flX10_228 (st124 hs) (by decide) rfl (v := nI lv) (p1) ?_
    refine xn_ialdv dX10_tell__20 (st135 hs) (by omega) (by decide) (v := nI nm) (p3) ?_
    refine xe_ishl dX10_tell__21 ?_
    refine xe_top (v' := nI (2 ^ nm)) (q_pow_nm nm p4) ?_
    refine xe_iconst dX10_tell__22 kc_1 ?_
    refine xe_isub dX10_tell__23 ?_
    refine xe_top (v' := nI (2 ^ nm - 1)) (pk_sub (by omega)) ?_
    refine xe_callSI (d' := 0) (y' := mX10_in) dX10_tell__24 mlX10_312 msX10_in rfl (by decide) (by decide) (Nat.le_of_ble_eq_true rfl) (c_X10_inv l g _ _ _ _ (q_in_t (by omega) (by omega) (by omega))) rfl ?_
    refine xn_if_eq (tgt := 41) dX10_tell__27 rfl (by omega) (fun c2 => ?_) (fun c2 => ?_)
    · omega
    · refine xe_iload_n dX10_tell__30 rfl ?_
      refine xe_iconst dX10_tell__31 kc_0 ?_
      refine xe_sipush dX10_tell__32 ks_9999 ?_
      refine xe_callSI (d' := 0) (y' := mX10_in) dX10_tell__35 mlX10_312 msX10_in rfl (by decide) (by decide) (Nat.le_of_ble_eq_true rfl) (c_X10_inv l g _ _ _ _ (q_in_t (by omega) (by omega) (by decide))) rfl ?_
      refine xn_if_ne (tgt := 43) dX10_tell__38 rfl (by omega) (fun c3 => ?_) (fun c3 => ?_)
      · refine xe_aload_n dX10_tell__43 rfl ?_
        refine xe_getP dX10_tell__44 flX10_144 (st124 hs) (by decide) rfl (sp124_63 hs) ?_
        refine xe_aload_n dX10_tell__47 rfl ?_
        refine xe_getIv dX10_tell__48 flX10_249 (st124 hs) (by decide) rfl (v := nI t) (ht) ?_
        refine xe_iload_n dX10_tell__51 rfl ?_
        refine xn_iast dX10_tell__52 (st166 hs) (by omega) (by decide) ?_
        refine xe_aload_n dX10_tell__53 rfl ?_
        refine xe_getP dX10_tell__54 flX10_147 (st124 hs) (by decide) rfl (sp124_64 hs) ?_
        refine xe_aload_n dX10_tell__57 rfl ?_
        refine xe_getIv dX10_tell__58 flX10_249 (st124 hs) (by decide) rfl (v := nI t) (ht) ?_
        refine xe_iload_n dX10_tell__61 rfl ?_
        refine xn_iast dX10_tell__62 (st167 hs) (by omega) (by decide) ?_
        refine xe_aload_n dX10_tell__63 rfl ?_
        refine xe_dup dX10_tell__64 rfl ?_
        refine xe_getIv dX10_tell__65 flX10_249 (st124 hs) (by decide) rfl (v := nI t) (ht) ?_
        refine xe_iconst dX10_tell__68 kc_1 ?_
        refine xn_iadd dX10_tell__69 ?_
        refine xe_putI dX10_tell__70 flX10_249 (st124 hs) (by decide) rfl (Or.inl rfl) rfl rfl ?_
        refine xe_aload_n dX10_tell__73 rfl ?_
        refine xe_getIv dX10_tell__74 flX10_249 (st124 hs) (by decide) rfl (v := nI (t + 1)) (rfl) ?_
        refine xe_iconst dX10_tell__77 kc_1 ?_
        refine xn_isub dX10_tell__78 (by omega) ?_
        refine xe_ireturn dX10_tell__79 rfl (by first | rfl | decide +kernel) ?_
        exact ⟨rfl, rfl⟩
      · omega
theorem c_X10_tell_20 (l : Launch) (g : q_GP) (h : q_H) (hs : q_Stat h) {lv nm nd nc mo : Nat} (hp : rm_P h lv nm nd nc mo) (x z : Int32) (ht : q_I h 124 62 = nI 20) : q_Cd l g 1 mX10_tell_ [.ref 124, .int x, .int z] h (some (.int (-1))) h := by
  obtain ⟨p1, p2, p3, p4, p5, p6, p7, p8, p9, p10⟩ := id hp
  refine q_CdV mvX10_tell_ (Nat.le_of_ble_eq_true rfl) ?_
  refine xe_aload_n dX10_tell__0 rfl ?_
  refine xe_getIv dX10_tell__1 flX10_249 (st124 hs) (by decide) rfl (v := nI 20) (ht) ?_
  refine xe_bipush dX10_tell__4 kb_20 ?_
  refine xn_icmp_eq (tgt := 41) dX10_tell__6 rfl (by omega) (by omega) (fun c1 => ?_) (fun c1 => ?_)
  · refine xe_iconst dX10_tell__41 kc_m1 ?_
    refine xe_ireturn dX10_tell__42 rfl (by first | rfl | decide +kernel) ?_
    exact ⟨rfl, rfl⟩
  · omega
theorem c_X10_tell_f (l : Launch) (g : q_GP) (h : q_H) (hs : q_Stat h) {lv nm nd nc mo : Nat} (hp : rm_P h lv nm nd nc mo) {t : Nat} (ht : q_I h 124 62 = nI t) (ht2 : t ≤ 20) (x z : Int32) (ht3 : t < 20) (hx : ¬ ∃ k, 1 ≤ k ∧ k ≤ 2 ^ nm - 1 ∧ x = nI k) : q_Cd l g 1 mX10_tell_ [.ref 124, .int x, .int z] h (some (.int (-1))) h := by
  obtain ⟨p1, p2, p3, p4, p5, p6, p7, p8, p9, p10⟩ := id hp
  have hpw := q_pow_le p4
  have hpw2 : 0 < 2 ^ nm := Nat.pow_pos (by decide)
  refine q_CdV mvX10_tell_ (Nat.le_of_ble_eq_true rfl) ?_
  refine xe_aload_n dX10_tell__0 rfl ?_
  refine xe_getIv dX10_tell__1 flX10_249 (st124 hs) (by decide) rfl (v := nI t) (ht) ?_
  refine xe_bipush dX10_tell__4 kb_20 ?_
  refine xn_icmp_eq (tgt := 41) dX10_tell__6 rfl (by omega) (by omega) (fun c1 => ?_) (fun c1 => ?_)
  · omega
  · refine xe_iload_n dX10_tell__9 rfl ?_
    refine xe_iconst dX10_tell__10 kc_1 ?_
    refine xe_iconst dX10_tell__11 kc_1 ?_
    refine xe_aload_n dX10_tell__12 rfl ?_
    refine xe_getP dX10_tell__13 flX10_49 (st124 hs) (by decide) rfl (sp124_24 hs) ?_
    refine xe_aload_n dX10_tell__16 rfl ?_
    refine xe_getIv dX10_tell__17 flX10_228 (st124 hs) (by decide) rfl (v := nI lv) (p1) ?_
    refine xn_ialdv dX10_tell__20 (st135 hs) (by omega) (by decide) (v := nI nm) (p3) ?_
    refine xe_ishl dX10_tell__21 ?_
    refine xe_top (v' := nI (2 ^ nm)) (q_pow_nm nm p4) ?_
    refine xe_iconst dX10_tell__22 kc_1 ?_
    refine xe_isub dX10_tell__23 ?_
    refine xe_top (v' := nI (2 ^ nm - 1)) (pk_sub (by omega)) ?_
    refine xe_callSI (d' := 0) (y' := mX10_in) dX10_tell__24 mlX10_312 msX10_in rfl (by decide) (by decide) (Nat.le_of_ble_eq_true rfl) (c_X10_inv l g _ _ _ _ (q_in_f (by omega) (by decide) hx)) rfl ?_
    refine xn_if_eq (tgt := 41) dX10_tell__27 rfl (by omega) (fun c2 => ?_) (fun c2 => ?_)
    · refine xe_iconst dX10_tell__41 kc_m1 ?_
      refine xe_ireturn dX10_tell__42 rfl (by first | rfl | decide +kernel) ?_
      exact ⟨rfl, rfl⟩
    · omega
theorem c_X10_tell_g (l : Launch) (g : q_GP) (h : q_H) (hs : q_Stat h) {lv nm nd nc mo : Nat} (hp : rm_P h lv nm nd nc mo) {t : Nat} (ht : q_I h 124 62 = nI t) (ht2 : t ≤ 20) (s : Nat) (z : Int32) (hs1 : 1 ≤ s) (hs2 : s ≤ 2 ^ nm - 1) (ht3 : t < 20) (hz : ¬ ∃ k, 0 ≤ k ∧ k ≤ 9999 ∧ z = nI k) : q_Cd l g 1 mX10_tell_ [.ref 124, .int (nI s), .int z] h (some (.int (-1))) h := by
  obtain ⟨p1, p2, p3, p4, p5, p6, p7, p8, p9, p10⟩ := id hp
  have hpw := q_pow_le p4
  have hpw2 : 0 < 2 ^ nm := Nat.pow_pos (by decide)
  refine q_CdV mvX10_tell_ (Nat.le_of_ble_eq_true rfl) ?_
  refine xe_aload_n dX10_tell__0 rfl ?_
  refine xe_getIv dX10_tell__1 flX10_249 (st124 hs) (by decide) rfl (v := nI t) (ht) ?_
  refine xe_bipush dX10_tell__4 kb_20 ?_
  refine xn_icmp_eq (tgt := 41) dX10_tell__6 rfl (by omega) (by omega) (fun c1 => ?_) (fun c1 => ?_)
  · omega
  · refine xe_iload_n dX10_tell__9 rfl ?_
    refine xe_iconst dX10_tell__10 kc_1 ?_
    refine xe_iconst dX10_tell__11 kc_1 ?_
    refine xe_aload_n dX10_tell__12 rfl ?_
    refine xe_getP dX10_tell__13 flX10_49 (st124 hs) (by decide) rfl (sp124_24 hs) ?_
    refine xe_aload_n dX10_tell__16 rfl ?_
    refine xe_getIv dX10_tell__17 flX10_228 (st124 hs) (by decide) rfl (v := nI lv) (p1) ?_
    refine xn_ialdv dX10_tell__20 (st135 hs) (by omega) (by decide) (v := nI nm) (p3) ?_
    refine xe_ishl dX10_tell__21 ?_
    refine xe_top (v' := nI (2 ^ nm)) (q_pow_nm nm p4) ?_
    refine xe_iconst dX10_tell__22 kc_1 ?_
    refine xe_isub dX10_tell__23 ?_
    refine xe_top (v' := nI (2 ^ nm - 1)) (pk_sub (by omega)) ?_
    refine xe_callSI (d' := 0) (y' := mX10_in) dX10_tell__24 mlX10_312 msX10_in rfl (by decide) (by decide) (Nat.le_of_ble_eq_true rfl) (c_X10_inv l g _ _ _ _ (q_in_t (by omega) (by omega) (by omega))) rfl ?_
    refine xn_if_eq (tgt := 41) dX10_tell__27 rfl (by omega) (fun c2 => ?_) (fun c2 => ?_)
    · omega
    · refine xe_iload_n dX10_tell__30 rfl ?_
      refine xe_iconst dX10_tell__31 kc_0 ?_
      refine xe_sipush dX10_tell__32 ks_9999 ?_
      refine xe_callSI (d' := 0) (y' := mX10_in) dX10_tell__35 mlX10_312 msX10_in rfl (by decide) (by decide) (Nat.le_of_ble_eq_true rfl) (c_X10_inv l g _ _ _ _ (q_in_f (by decide) (by decide) hz)) rfl ?_
      refine xn_if_ne (tgt := 43) dX10_tell__38 rfl (by omega) (fun c3 => ?_) (fun c3 => ?_)
      · omega
      · refine xe_iconst dX10_tell__41 kc_m1 ?_
        refine xe_ireturn dX10_tell__42 rfl (by first | rfl | decide +kernel) ?_
        exact ⟨rfl, rfl⟩
