/-! the reference: what is done, the rest -/
theorem q_cpy_cpy (f g : Nat → Int32) {a b : Nat} (h : a ≤ b) : q_cpy f (q_cpy f g a) b = q_cpy f g b := by
  funext k
  unfold q_cpy
  by_cases h1 : k < b
  · rw [if_pos h1, if_pos h1]
  · rw [if_neg h1, if_neg h1, if_neg (by omega)]
/-- how many are paid back at most -/
def q_rv (R : Nat → Int32) (a b : Nat) (n : Int32) : Int32 :=
  if (if q_s8 R (8 * a) ≤ n then q_s8 R (8 * a) else n) ≤ R (72 + 8 * a + b) then (if q_s8 R (8 * a) ≤ n then q_s8 R (8 * a) else n) else R (72 + 8 * a + b)
theorem q_keep_now (h : q_H) (u : Nat) : q_I (q_keep h u) 154 = q_cpy (q_I h 155) (q_I h 154) 1720 := by
  unfold q_keep
  split <;> rfl
theorem c_X10_repay_t (l : Launch) (g : q_GP) (h : q_H) (hs : q_Stat h) {lv nm nd nc mo : Nat} (hp : rm_P h lv nm nd nc mo) {u : Nat} (hu : q_I h 124 51 = nI u) (hu2 : u ≤ 25) {a b : Nat} (ha : a < nm) (hb : b < nm) (hab : ¬ a = b) (n : Int32) (hc : q_can (q_cpy (q_I h 154) (q_I h 155) 1720) a b (q_rv (q_cpy (q_I h 154) (q_I h 155) 210) a b n)) : q_Ct l g 4 mX10_repay [.ref 124, .int (nI a), .int (nI b), .int n] h (fun r h1 => r = some (.int (q_rv (q_cpy (q_I h 154) (q_I h 155) 210) a b n)) ∧ q_kept h u (q_rpR (q_cpy (q_I h 154) (q_I h 155) 1720) a b (q_rv (q_cpy (q_I h 154) (q_I h 155) 210) a b n)) h1) := by
  obtain ⟨p1, p2, p3, p4, p5, p6, p7, p8, p9, p10⟩ := id hp
  have eC := q_cpy_cpy (q_I h 154) (q_I h 155) (a := 210) (b := 1720) (by decide)
  refine q_CtV mvX10_repay (Nat.le_of_ble_eq_true rfl) ?_
  refine xe_aload_n dX10_repay_0 rfl ?_
  refine xe_iload_n dX10_repay_1 rfl ?_
  refine xe_iload_n dX10_repay_2 rfl ?_
  refine xe_callVI (d' := 2) (y' := mX10_areTwo) dX10_repay_3 mlX10_355 mvX10_areTwo rfl (st124 hs) (by decide) rfl (by decide) (by decide) (Nat.le_of_ble_eq_true rfl) (c_X10_areTwo_t l g _ (by exact hs) (by exact hp) (by omega) (by omega) (by omega)) rfl ?_
  refine xn_if_ne (tgt := 11) dX10_repay_6 rfl (by omega) (fun c1 => ?_) (fun c1 => ?_)
  · refine xe_aload_n dX10_repay_11 rfl ?_
    refine xe_callVV (d' := 0) (y' := mX10_copies) dX10_repay_12 mlX10_343 mvX10_copies rfl (st124 hs) (by decide) rfl (by decide) (by decide) (Nat.le_of_ble_eq_true rfl) (c_X10_copies l g _ (by exact hs)) rfl ?_
    refine xe_iload_n dX10_repay_15 rfl ?_
    refine xe_aload_n dX10_repay_16 rfl ?_
    refine xe_iload_n dX10_repay_17 rfl ?_
    refine xe_callVI (d' := 0) (y' := mX10_haveOf) dX10_repay_18 mlX10_319 mvX10_haveOf rfl (st124 hs) (by decide) rfl (by decide) (by decide) (Nat.le_of_ble_eq_true rfl) (c_X10_haveOf l g _ (by exact hs) _ (by omega)) rfl ?_
    refine xe_top (v' := q_s8 (q_cpy (q_I h 154) (q_I h 155) 210) (8 * a)) rfl ?_
    refine xe_icmp_ge (tgt := 28) dX10_repay_21 rfl (fun c2 => ?_) (fun c2 => ?_)
    · have c_a := c2
      refine xe_aload_n dX10_repay_28 rfl ?_
      refine xe_iload_n dX10_repay_29 rfl ?_
      refine xe_callVI (d' := 0) (y' := mX10_haveOf) dX10_repay_30 mlX10_319 mvX10_haveOf rfl (st124 hs) (by decide) rfl (by decide) (by decide) (Nat.le_of_ble_eq_true rfl) (c_X10_haveOf l g _ (by exact hs) _ (by omega)) rfl ?_
      refine xe_top (v' := q_s8 (q_cpy (q_I h 154) (q_I h 155) 210) (8 * a)) rfl ?_
      refine xe_istore dX10_repay_33 (by decide) rfl ?_
      refine xe_aload_n dX10_repay_35 rfl ?_
      refine xe_getP dX10_repay_36 flX10_110 (st124 hs) (by decide) rfl (sp124_48 hs) ?_
      refine xe_bipush dX10_repay_39 kb_72 ?_
      refine xe_bipush dX10_repay_41 kb_8 ?_
      refine xe_iload_n dX10_repay_43 rfl ?_
      refine xn_imul dX10_repay_44 ?_
      refine xn_iadd dX10_repay_45 ?_
      refine xe_iload_n dX10_repay_46 rfl ?_
      refine xn_iadd dX10_repay_47 ?_
      refine xn_ialdv dX10_repay_48 (st155 hs) (by omega) (by decide) (v := (q_cpy (q_I h 154) (q_I h 155) 210) (72 + 8 * a + b)) (rfl) ?_
      refine xe_iload dX10_repay_49 rfl ?_
      refine xe_icmp_ge (tgt := 70) dX10_repay_51 rfl (fun c3 => ?_) (fun c3 => ?_)
      · have e5 : q_rv (q_cpy (q_I h 154) (q_I h 155) 210) a b n = (if q_s8 (q_cpy (q_I h 154) (q_I h 155) 210) (8 * a) ≤ n then q_s8 (q_cpy (q_I h 154) (q_I h 155) 210) (8 * a) else n) := if_pos (by first | (rw [if_pos c_a]; exact c3) | (rw [if_neg c_a]; exact c3))
        first | rw [if_pos c_a] at e5 | rw [if_neg c_a] at e5
        refine xe_aload_n dX10_repay_70 rfl ?_
        refine xe_iload_n dX10_repay_71 rfl ?_
        refine xe_iload_n dX10_repay_72 rfl ?_
        refine xe_iload dX10_repay_73 rfl ?_
        refine xe_callVI (d' := 3) (y' := mX10_goesOver) dX10_repay_75 mlX10_376 mvX10_goesOver rfl (st124 hs) (by decide) rfl (by decide) (by decide) (Nat.le_of_ble_eq_true rfl) (c_X10_goesOver_t l g _ (by exact hs) (by exact hp) ha hb hab _ (by show q_can (q_cpy (q_I h 154) (q_cpy (q_I h 154) (q_I h 155) 210) 1720) a b _; rw [eC, ← e5]; exact hc)) rfl ?_
        refine xn_if_ne (tgt := 83) dX10_repay_78 rfl (by omega) (fun c4 => ?_) (fun c4 => ?_)
        · refine xe_aload_n dX10_repay_83 rfl ?_
          refine xe_getP dX10_repay_84 flX10_110 (st124 hs) (by decide) rfl (sp124_48 hs) ?_
          refine xe_bipush dX10_repay_87 kb_72 ?_
          refine xe_bipush dX10_repay_89 kb_8 ?_
          refine xe_iload_n dX10_repay_91 rfl ?_
          refine xn_imul dX10_repay_92 ?_
          refine xn_iadd dX10_repay_93 ?_
          refine xe_iload_n dX10_repay_94 rfl ?_
          refine xn_iadd dX10_repay_95 ?_
          refine xe_dup2 dX10_repay_96 rfl rfl ?_
          refine xn_iald dX10_repay_97 (st155 hs) (by omega) (by decide) ?_
          refine xe_iload dX10_repay_98 rfl ?_
          refine xe_isub dX10_repay_100 ?_
          refine xn_iast dX10_repay_101 (st155 hs) (by omega) (by decide) ?_
          refine xe_heap (h2 := q_wI h 155 (q_rpR (q_cpy (q_I h 154) (q_I h 155) 1720) a b (q_s8 (q_cpy (q_I h 154) (q_I h 155) 210) (8 * a)))) (by rw [← eC]; simp only [q_wwI]; rfl) ?_
          refine xe_aload_n dX10_repay_102 rfl ?_
          refine xe_callVV (d' := 0) (y' := mX10_keeps) dX10_repay_103 mlX10_373 mvX10_keeps rfl (st124 hs) (by decide) rfl (by decide) (by decide) (Nat.le_of_ble_eq_true rfl) (c_X10_keeps l g _ (by exact hs) _ (by exact hu) (by omega)) rfl ?_
          refine xe_iload dX10_repay_106 rfl ?_
          refine xe_ireturn dX10_repay_108 rfl (by first | rfl | decide +kernel) ?_
          rw [e5]
          exact ⟨rfl, _, q_mag_w (q_mag_r h) _ rfl (by decide), rfl, rfl⟩
        · omega
      · have e5 : q_rv (q_cpy (q_I h 154) (q_I h 155) 210) a b n = (q_cpy (q_I h 154) (q_I h 155) 210) (72 + 8 * a + b) := if_neg (by first | (rw [if_pos c_a]; exact c3) | (rw [if_neg c_a]; exact c3))
        refine xe_aload_n dX10_repay_54 rfl ?_
        refine xe_getP dX10_repay_55 flX10_110 (st124 hs) (by decide) rfl (sp124_48 hs) ?_
        refine xe_bipush dX10_repay_58 kb_72 ?_
        refine xe_bipush dX10_repay_60 kb_8 ?_
        refine xe_iload_n dX10_repay_62 rfl ?_
        refine xn_imul dX10_repay_63 ?_
        refine xn_iadd dX10_repay_64 ?_
        refine xe_iload_n dX10_repay_65 rfl ?_
        refine xn_iadd dX10_repay_66 ?_
        refine xn_ialdv dX10_repay_67 (st155 hs) (by omega) (by decide) (v := (q_cpy (q_I h 154) (q_I h 155) 210) (72 + 8 * a + b)) (rfl) ?_
        refine xe_istore dX10_repay_68 (by decide) rfl ?_
        refine xe_aload_n dX10_repay_70 rfl ?_
        refine xe_iload_n dX10_repay_71 rfl ?_
        refine xe_iload_n dX10_repay_72 rfl ?_
        refine xe_iload dX10_repay_73 rfl ?_
        refine xe_callVI (d' := 3) (y' := mX10_goesOver) dX10_repay_75 mlX10_376 mvX10_goesOver rfl (st124 hs) (by decide) rfl (by decide) (by decide) (Nat.le_of_ble_eq_true rfl) (c_X10_goesOver_t l g _ (by exact hs) (by exact hp) ha hb hab _ (by show q_can (q_cpy (q_I h 154) (q_cpy (q_I h 154) (q_I h 155) 210) 1720) a b _; rw [eC, ← e5]; exact hc)) rfl ?_
        refine xn_if_ne (tgt := 83) dX10_repay_78 rfl (by omega) (fun c5 => ?_) (fun c5 => ?_)
        · refine xe_aload_n dX10_repay_83 rfl ?_
          refine xe_getP dX10_repay_84 flX10_110 (st124 hs) (by decide) rfl (sp124_48 hs) ?_
          refine xe_bipush dX10_repay_87 kb_72 ?_
          refine xe_bipush dX10_repay_89 kb_8 ?_
          refine xe_iload_n dX10_repay_91 rfl ?_
          refine xn_imul dX10_repay_92 ?_
          refine xn_iadd dX10_repay_93 ?_
          refine xe_iload_n dX10_repay_94 rfl ?_
          refine xn_iadd dX10_repay_95 ?_
          refine xe_dup2 dX10_repay_96 rfl rfl ?_
          refine xn_iald dX10_repay_97 (st155 hs) (by omega) (by decide) ?_
          refine xe_iload dX10_repay_98 rfl ?_
          refine xe_isub dX10_repay_100 ?_
          refine xn_iast dX10_repay_101 (st155 hs) (by omega) (by decide) ?_
          refine xe_heap (h2 := q_wI h 155 (q_rpR (q_cpy (q_I h 154) (q_I h 155) 1720) a b ((q_cpy (q_I h 154) (q_I h 155) 210) (72 + 8 * a + b)))) (by rw [← eC]; simp only [q_wwI]; rfl) ?_
          refine xe_aload_n dX10_repay_102 rfl ?_
          refine xe_callVV (d' := 0) (y' := mX10_keeps) dX10_repay_103 mlX10_373 mvX10_keeps rfl (st124 hs) (by decide) rfl (by decide) (by decide) (Nat.le_of_ble_eq_true rfl) (c_X10_keeps l g _ (by exact hs) _ (by exact hu) (by omega)) rfl ?_
          refine xe_iload dX10_repay_106 rfl ?_
          refine xe_ireturn dX10_repay_108 rfl (by first | rfl | decide +kernel) ?_
          rw [e5]
          exact ⟨rfl, _, q_mag_w (q_mag_r h) _ rfl (by decide), rfl, rfl⟩
        · omega
    · have c_a := c2
      refine xe_iload_n dX10_repay_24 rfl ?_
      refine xe_goto (tgt := 33) dX10_repay_25 rfl ?_
      refine xe_istore dX10_repay_33 (by decide) rfl ?_
      refine xe_aload_n dX10_repay_35 rfl ?_
      refine xe_getP dX10_repay_36 flX10_110 (st124 hs) (by decide) rfl (sp124_48 hs) ?_
      refine xe_bipush dX10_repay_39 kb_72 ?_
      refine xe_bipush dX10_repay_41 kb_8 ?_
      refine xe_iload_n dX10_repay_43 rfl ?_
      refine xn_imul dX10_repay_44 ?_
      refine xn_iadd dX10_repay_45 ?_
      refine xe_iload_n dX10_repay_46 rfl ?_
      refine xn_iadd dX10_repay_47 ?_
      refine xn_ialdv dX10_repay_48 (st155 hs) (by omega) (by decide) (v := (q_cpy (q_I h 154) (q_I h 155) 210) (72 + 8 * a + b)) (rfl) ?_
      refine xe_iload dX10_repay_49 rfl ?_
      refine xe_icmp_ge (tgt := 70) dX10_repay_51 rfl (fun c6 => ?_) (fun c6 => ?_)
      · have e5 : q_rv (q_cpy (q_I h 154) (q_I h 155) 210) a b n = (if q_s8 (q_cpy (q_I h 154) (q_I h 155) 210) (8 * a) ≤ n then q_s8 (q_cpy (q_I h 154) (q_I h 155) 210) (8 * a) else n) := if_pos (by first | (rw [if_pos c_a]; exact c6) | (rw [if_neg c_a]; exact c6))
        first | rw [if_pos c_a] at e5 | rw [if_neg c_a] at e5
        refine xe_aload_n dX10_repay_70 rfl ?_
        refine xe_iload_n dX10_repay_71 rfl ?_
        refine xe_iload_n dX10_repay_72 rfl ?_
        refine xe_iload dX10_repay_73 rfl ?_
        refine xe_callVI (d' := 3) (y' := mX10_goesOver) dX10_repay_75 mlX10_376 mvX10_goesOver rfl (st124 hs) (by decide) rfl (by decide) (by decide) (Nat.le_of_ble_eq_true rfl) (c_X10_goesOver_t l g _ (by exact hs) (by exact hp) ha hb hab _ (by show q_can (q_cpy (q_I h 154) (q_cpy (q_I h 154) (q_I h 155) 210) 1720) a b _; rw [eC, ← e5]; exact hc)) rfl ?_
        refine xn_if_ne (tgt := 83) dX10_repay_78 rfl (by omega) (fun c7 => ?_) (fun c7 => ?_)
        · refine xe_aload_n dX10_repay_83 rfl ?_
          refine xe_getP dX10_repay_84 flX10_110 (st124 hs) (by decide) rfl (sp124_48 hs) ?_
          refine xe_bipush dX10_repay_87 kb_72 ?_
          refine xe_bipush dX10_repay_89 kb_8 ?_
          refine xe_iload_n dX10_repay_91 rfl ?_
          refine xn_imul dX10_repay_92 ?_
          refine xn_iadd dX10_repay_93 ?_
          refine xe_iload_n dX10_repay_94 rfl ?_
          refine xn_iadd dX10_repay_95 ?_
          refine xe_dup2 dX10_repay_96 rfl rfl ?_
          refine xn_iald dX10_repay_97 (st155 hs) (by omega) (by decide) ?_
          refine xe_iload dX10_repay_98 rfl ?_
          refine xe_isub dX10_repay_100 ?_
          refine xn_iast dX10_repay_101 (st155 hs) (by omega) (by decide) ?_
          refine xe_heap (h2 := q_wI h 155 (q_rpR (q_cpy (q_I h 154) (q_I h 155) 1720) a b (n))) (by rw [← eC]; simp only [q_wwI]; rfl) ?_
          refine xe_aload_n dX10_repay_102 rfl ?_
          refine xe_callVV (d' := 0) (y' := mX10_keeps) dX10_repay_103 mlX10_373 mvX10_keeps rfl (st124 hs) (by decide) rfl (by decide) (by decide) (Nat.le_of_ble_eq_true rfl) (c_X10_keeps l g _ (by exact hs) _ (by exact hu) (by omega)) rfl ?_
          refine xe_iload dX10_repay_106 rfl ?_
          refine xe_ireturn dX10_repay_108 rfl (by first | rfl | decide +kernel) ?_
          rw [e5]
          exact ⟨rfl, _, q_mag_w (q_mag_r h) _ rfl (by decide), rfl, rfl⟩
        · omega
      · have e5 : q_rv (q_cpy (q_I h 154) (q_I h 155) 210) a b n = (q_cpy (q_I h 154) (q_I h 155) 210) (72 + 8 * a + b) := if_neg (by first | (rw [if_pos c_a]; exact c6) | (rw [if_neg c_a]; exact c6))
        refine xe_aload_n dX10_repay_54 rfl ?_
        refine xe_getP dX10_repay_55 flX10_110 (st124 hs) (by decide) rfl (sp124_48 hs) ?_
        refine xe_bipush dX10_repay_58 kb_72 ?_
        refine xe_bipush dX10_repay_60 kb_8 ?_
        refine xe_iload_n dX10_repay_62 rfl ?_
        refine xn_imul dX10_repay_63 ?_
        refine xn_iadd dX10_repay_64 ?_
        refine xe_iload_n dX10_repay_65 rfl ?_
        refine xn_iadd dX10_repay_66 ?_
        refine xn_ialdv dX10_repay_67 (st155 hs) (by omega) (by decide) (v := (q_cpy (q_I h 154) (q_I h 155) 210) (72 + 8 * a + b)) (rfl) ?_
        refine xe_istore dX10_repay_68 (by decide) rfl ?_
        refine xe_aload_n dX10_repay_70 rfl ?_
        refine xe_iload_n dX10_repay_71 rfl ?_
        refine xe_iload_n dX10_repay_72 rfl ?_
        refine xe_iload dX10_repay_73 rfl ?_
        refine xe_callVI (d' := 3) (y' := mX10_goesOver) dX10_repay_75 mlX10_376 mvX10_goesOver rfl (st124 hs) (by decide) rfl (by decide) (by decide) (Nat.le_of_ble_eq_true rfl) (c_X10_goesOver_t l g _ (by exact hs) (by exact hp) ha hb hab _ (by show q_can (q_cpy (q_I h 154) (q_cpy (q_I h 154) (q_I h 155) 210) 1720) a b _; rw [eC, ← e5]; exact hc)) rfl ?_
        refine xn_if_ne (tgt := 83) dX10_repay_78 rfl (by omega) (fun c8 => ?_) (fun c8 => ?_)
        · refine xe_aload_n dX10_repay_83 rfl ?_
          refine xe_getP dX10_repay_84 flX10_110 (st124 hs) (by decide) rfl (sp124_48 hs) ?_
          refine xe_bipush dX10_repay_87 kb_72 ?_
          refine xe_bipush dX10_repay_89 kb_8 ?_
          refine xe_iload_n dX10_repay_91 rfl ?_
          refine xn_imul dX10_repay_92 ?_
          refine xn_iadd dX10_repay_93 ?_
          refine xe_iload_n dX10_repay_94 rfl ?_
          refine xn_iadd dX10_repay_95 ?_
          refine xe_dup2 dX10_repay_96 rfl rfl ?_
          refine xn_iald dX10_repay_97 (st155 hs) (by omega) (by decide) ?_
          refine xe_iload dX10_repay_98 rfl ?_
          refine xe_isub dX10_repay_100 ?_
          refine xn_iast dX10_repay_101 (st155 hs) (by omega) (by decide) ?_
          refine xe_heap (h2 := q_wI h 155 (q_rpR (q_cpy (q_I h 154) (q_I h 155) 1720) a b ((q_cpy (q_I h 154) (q_I h 155) 210) (72 + 8 * a + b)))) (by rw [← eC]; simp only [q_wwI]; rfl) ?_
          refine xe_aload_n dX10_repay_102 rfl ?_
          refine xe_callVV (d' := 0) (y' := mX10_keeps) dX10_repay_103 mlX10_373 mvX10_keeps rfl (st124 hs) (by decide) rfl (by decide) (by decide) (Nat.le_of_ble_eq_true rfl) (c_X10_keeps l g _ (by exact hs) _ (by exact hu) (by omega)) rfl ?_
          refine xe_iload dX10_repay_106 rfl ?_
          refine xe_ireturn dX10_repay_108 rfl (by first | rfl | decide +kernel) ?_
          rw [e5]
          exact ⟨rfl, _, q_mag_w (q_mag_r h) _ rfl (by decide), rfl, rfl⟩
        · omega
  · omega
theorem c_X10_repay_n (l : Launch) (g : q_GP) (h : q_H) (hs : q_Stat h) {lv nm nd nc mo : Nat} (hp : rm_P h lv nm nd nc mo) {u : Nat} (hu : q_I h 124 51 = nI u) (hu2 : u ≤ 25) {a b : Nat} (ha : a < nm) (hb : b < nm) (hab : ¬ a = b) (n : Int32) (hc : ¬ q_can (q_cpy (q_I h 154) (q_I h 155) 1720) a b (q_rv (q_cpy (q_I h 154) (q_I h 155) 210) a b n)) : q_Ct l g 4 mX10_repay [.ref 124, .int (nI a), .int (nI b), .int n] h (fun r h1 => r = some (.int (-1)) ∧ q_mag h h1) := by
  obtain ⟨p1, p2, p3, p4, p5, p6, p7, p8, p9, p10⟩ := id hp
  have eC := q_cpy_cpy (q_I h 154) (q_I h 155) (a := 210) (b := 1720) (by decide)
  refine q_CtV mvX10_repay (Nat.le_of_ble_eq_true rfl) ?_
  refine xe_aload_n dX10_repay_0 rfl ?_
  refine xe_iload_n dX10_repay_1 rfl ?_
  refine xe_iload_n dX10_repay_2 rfl ?_
  refine xe_callVI (d' := 2) (y' := mX10_areTwo) dX10_repay_3 mlX10_355 mvX10_areTwo rfl (st124 hs) (by decide) rfl (by decide) (by decide) (Nat.le_of_ble_eq_true rfl) (c_X10_areTwo_t l g _ (by exact hs) (by exact hp) (by omega) (by omega) (by omega)) rfl ?_
  refine xn_if_ne (tgt := 11) dX10_repay_6 rfl (by omega) (fun c1 => ?_) (fun c1 => ?_)
  · refine xe_aload_n dX10_repay_11 rfl ?_
    refine xe_callVV (d' := 0) (y' := mX10_copies) dX10_repay_12 mlX10_343 mvX10_copies rfl (st124 hs) (by decide) rfl (by decide) (by decide) (Nat.le_of_ble_eq_true rfl) (c_X10_copies l g _ (by exact hs)) rfl ?_
    refine xe_iload_n dX10_repay_15 rfl ?_
    refine xe_aload_n dX10_repay_16 rfl ?_
    refine xe_iload_n dX10_repay_17 rfl ?_
    refine xe_callVI (d' := 0) (y' := mX10_haveOf) dX10_repay_18 mlX10_319 mvX10_haveOf rfl (st124 hs) (by decide) rfl (by decide) (by decide) (Nat.le_of_ble_eq_true rfl) (c_X10_haveOf l g _ (by exact hs) _ (by omega)) rfl ?_
    refine xe_top (v' := q_s8 (q_cpy (q_I h 154) (q_I h 155) 210) (8 * a)) rfl ?_
    refine xe_icmp_ge (tgt := 28) dX10_repay_21 rfl (fun c2 => ?_) (fun c2 => ?_)
    · have c_a := c2
      refine xe_aload_n dX10_repay_28 rfl ?_
      refine xe_iload_n dX10_repay_29 rfl ?_
      refine xe_callVI (d' := 0) (y' := mX10_haveOf) dX10_repay_30 mlX10_319 mvX10_haveOf rfl (st124 hs) (by decide) rfl (by decide) (by decide) (Nat.le_of_ble_eq_true rfl) (c_X10_haveOf l g _ (by exact hs) _ (by omega)) rfl ?_
      refine xe_top (v' := q_s8 (q_cpy (q_I h 154) (q_I h 155) 210) (8 * a)) rfl ?_
      refine xe_istore dX10_repay_33 (by decide) rfl ?_
      refine xe_aload_n dX10_repay_35 rfl ?_
      refine xe_getP dX10_repay_36 flX10_110 (st124 hs) (by decide) rfl (sp124_48 hs) ?_
      refine xe_bipush dX10_repay_39 kb_72 ?_
      refine xe_bipush dX10_repay_41 kb_8 ?_
      refine xe_iload_n dX10_repay_43 rfl ?_
      refine xn_imul dX10_repay_44 ?_
      refine xn_iadd dX10_repay_45 ?_
      refine xe_iload_n dX10_repay_46 rfl ?_
      refine xn_iadd dX10_repay_47 ?_
      refine xn_ialdv dX10_repay_48 (st155 hs) (by omega) (by decide) (v := (q_cpy (q_I h 154) (q_I h 155) 210) (72 + 8 * a + b)) (rfl) ?_
      refine xe_iload dX10_repay_49 rfl ?_
      refine xe_icmp_ge (tgt := 70) dX10_repay_51 rfl (fun c3 => ?_) (fun c3 => ?_)
      · have e5 : q_rv (q_cpy (q_I h 154) (q_I h 155) 210) a b n = (if q_s8 (q_cpy (q_I h 154) (q_I h 155) 210) (8 * a) ≤ n then q_s8 (q_cpy (q_I h 154) (q_I h 155) 210) (8 * a) else n) := if_pos (by first | (rw [if_pos c_a]; exact c3) | (rw [if_neg c_a]; exact c3))
        first | rw [if_pos c_a] at e5 | rw [if_neg c_a] at e5
        refine xe_aload_n dX10_repay_70 rfl ?_
        refine xe_iload_n dX10_repay_71 rfl ?_
        refine xe_iload_n dX10_repay_72 rfl ?_
        refine xe_iload dX10_repay_73 rfl ?_
        refine xe_callVIq (d' := 3) (y' := mX10_goesOver) dX10_repay_75 mlX10_376 mvX10_goesOver rfl (st124 hs) (by decide) rfl (by decide) (by decide) (Nat.le_of_ble_eq_true rfl) (c_X10_goesOver_n l g _ (by exact hs) (by exact hp) ha hb hab _ (by show ¬ q_can (q_cpy (q_I h 154) (q_cpy (q_I h 154) (q_I h 155) 210) 1720) a b _; rw [eC, ← e5]; exact hc)) rfl (fun h1 hq => ?_)
        obtain ⟨R1, rfl⟩ := hq
        refine xn_if_ne (tgt := 83) dX10_repay_78 rfl (by omega) (fun c4 => ?_) (fun c4 => ?_)
        · omega
        · refine xe_iconst dX10_repay_81 kc_m1 ?_
          refine xe_ireturn dX10_repay_82 rfl (by first | rfl | decide +kernel) ?_
          exact ⟨rfl, q_mag_w (q_mag_w (q_mag_r h) _ rfl (by decide)) _ rfl (by decide)⟩
      · have e5 : q_rv (q_cpy (q_I h 154) (q_I h 155) 210) a b n = (q_cpy (q_I h 154) (q_I h 155) 210) (72 + 8 * a + b) := if_neg (by first | (rw [if_pos c_a]; exact c3) | (rw [if_neg c_a]; exact c3))
        refine xe_aload_n dX10_repay_54 rfl ?_
        refine xe_getP dX10_repay_55 flX10_110 (st124 hs) (by decide) rfl (sp124_48 hs) ?_
        refine xe_bipush dX10_repay_58 kb_72 ?_
        refine xe_bipush dX10_repay_60 kb_8 ?_
        refine xe_iload_n dX10_repay_62 rfl ?_
        refine xn_imul dX10_repay_63 ?_
        refine xn_iadd dX10_repay_64 ?_
        refine xe_iload_n dX10_repay_65 rfl ?_
        refine xn_iadd dX10_repay_66 ?_
        refine xn_ialdv dX10_repay_67 (st155 hs) (by omega) (by decide) (v := (q_cpy (q_I h 154) (q_I h 155) 210) (72 + 8 * a + b)) (rfl) ?_
        refine xe_istore dX10_repay_68 (by decide) rfl ?_
        refine xe_aload_n dX10_repay_70 rfl ?_
        refine xe_iload_n dX10_repay_71 rfl ?_
        refine xe_iload_n dX10_repay_72 rfl ?_
        refine xe_iload dX10_repay_73 rfl ?_
        refine xe_callVIq (d' := 3) (y' := mX10_goesOver) dX10_repay_75 mlX10_376 mvX10_goesOver rfl (st124 hs) (by decide) rfl (by decide) (by decide) (Nat.le_of_ble_eq_true rfl) (c_X10_goesOver_n l g _ (by exact hs) (by exact hp) ha hb hab _ (by show ¬ q_can (q_cpy (q_I h 154) (q_cpy (q_I h 154) (q_I h 155) 210) 1720) a b _; rw [eC, ← e5]; exact hc)) rfl (fun h1 hq => ?_)
        obtain ⟨R1, rfl⟩ := hq
        refine xn_if_ne (tgt := 83) dX10_repay_78 rfl (by omega) (fun c5 => ?_) (fun c5 => ?_)
        · omega
        · refine xe_iconst dX10_repay_81 kc_m1 ?_
          refine xe_ireturn dX10_repay_82 rfl (by first | rfl | decide +kernel) ?_
          exact ⟨rfl, q_mag_w (q_mag_w (q_mag_r h) _ rfl (by decide)) _ rfl (by decide)⟩
    · have c_a := c2
      refine xe_iload_n dX10_repay_24 rfl ?_
      refine xe_goto (tgt := 33) dX10_repay_25 rfl ?_
      refine xe_istore dX10_repay_33 (by decide) rfl ?_
      refine xe_aload_n dX10_repay_35 rfl ?_
      refine xe_getP dX10_repay_36 flX10_110 (st124 hs) (by decide) rfl (sp124_48 hs) ?_
      refine xe_bipush dX10_repay_39 kb_72 ?_
      refine xe_bipush dX10_repay_41 kb_8 ?_
      refine xe_iload_n dX10_repay_43 rfl ?_
      refine xn_imul dX10_repay_44 ?_
      refine xn_iadd dX10_repay_45 ?_
      refine xe_iload_n dX10_repay_46 rfl ?_
      refine xn_iadd dX10_repay_47 ?_
      refine xn_ialdv dX10_repay_48 (st155 hs) (by omega) (by decide) (v := (q_cpy (q_I h 154) (q_I h 155) 210) (72 + 8 * a + b)) (rfl) ?_
      refine xe_iload dX10_repay_49 rfl ?_
      refine xe_icmp_ge (tgt := 70) dX10_repay_51 rfl (fun c6 => ?_) (fun c6 => ?_)
      · have e5 : q_rv (q_cpy (q_I h 154) (q_I h 155) 210) a b n = (if q_s8 (q_cpy (q_I h 154) (q_I h 155) 210) (8 * a) ≤ n then q_s8 (q_cpy (q_I h 154) (q_I h 155) 210) (8 * a) else n) := if_pos (by first | (rw [if_pos c_a]; exact c6) | (rw [if_neg c_a]; exact c6))
        first | rw [if_pos c_a] at e5 | rw [if_neg c_a] at e5
        refine xe_aload_n dX10_repay_70 rfl ?_
        refine xe_iload_n dX10_repay_71 rfl ?_
        refine xe_iload_n dX10_repay_72 rfl ?_
        refine xe_iload dX10_repay_73 rfl ?_
        refine xe_callVIq (d' := 3) (y' := mX10_goesOver) dX10_repay_75 mlX10_376 mvX10_goesOver rfl (st124 hs) (by decide) rfl (by decide) (by decide) (Nat.le_of_ble_eq_true rfl) (c_X10_goesOver_n l g _ (by exact hs) (by exact hp) ha hb hab _ (by show ¬ q_can (q_cpy (q_I h 154) (q_cpy (q_I h 154) (q_I h 155) 210) 1720) a b _; rw [eC, ← e5]; exact hc)) rfl (fun h1 hq => ?_)
        obtain ⟨R1, rfl⟩ := hq
        refine xn_if_ne (tgt := 83) dX10_repay_78 rfl (by omega) (fun c7 => ?_) (fun c7 => ?_)
        · omega
        · refine xe_iconst dX10_repay_81 kc_m1 ?_
          refine xe_ireturn dX10_repay_82 rfl (by first | rfl | decide +kernel) ?_
          exact ⟨rfl, q_mag_w (q_mag_w (q_mag_r h) _ rfl (by decide)) _ rfl (by decide)⟩
      · have e5 : q_rv (q_cpy (q_I h 154) (q_I h 155) 210) a b n = (q_cpy (q_I h 154) (q_I h 155) 210) (72 + 8 * a + b) := if_neg (by first | (rw [if_pos c_a]; exact c6) | (rw [if_neg c_a]; exact c6))
        refine xe_aload_n dX10_repay_54 rfl ?_
        refine xe_getP dX10_repay_55 flX10_110 (st124 hs) (by decide) rfl (sp124_48 hs) ?_
        refine xe_bipush dX10_repay_58 kb_72 ?_
        refine xe_bipush dX10_repay_60 kb_8 ?_
        refine xe_iload_n dX10_repay_62 rfl ?_
        refine xn_imul dX10_repay_63 ?_
        refine xn_iadd dX10_repay_64 ?_
        refine xe_iload_n dX10_repay_65 rfl ?_
        refine xn_iadd dX10_repay_66 ?_
        refine xn_ialdv dX10_repay_67 (st155 hs) (by omega) (by decide) (v := (q_cpy (q_I h 154) (q_I h 155) 210) (72 + 8 * a + b)) (rfl) ?_
        refine xe_istore dX10_repay_68 (by decide) rfl ?_
        refine xe_aload_n dX10_repay_70 rfl ?_
        refine xe_iload_n dX10_repay_71 rfl ?_
        refine xe_iload_n dX10_repay_72 rfl ?_
        refine xe_iload dX10_repay_73 rfl ?_
        refine xe_callVIq (d' := 3) (y' := mX10_goesOver) dX10_repay_75 mlX10_376 mvX10_goesOver rfl (st124 hs) (by decide) rfl (by decide) (by decide) (Nat.le_of_ble_eq_true rfl) (c_X10_goesOver_n l g _ (by exact hs) (by exact hp) ha hb hab _ (by show ¬ q_can (q_cpy (q_I h 154) (q_cpy (q_I h 154) (q_I h 155) 210) 1720) a b _; rw [eC, ← e5]; exact hc)) rfl (fun h1 hq => ?_)
        obtain ⟨R1, rfl⟩ := hq
        refine xn_if_ne (tgt := 83) dX10_repay_78 rfl (by omega) (fun c8 => ?_) (fun c8 => ?_)
        · omega
        · refine xe_iconst dX10_repay_81 kc_m1 ?_
          refine xe_ireturn dX10_repay_82 rfl (by first | rfl | decide +kernel) ?_
          exact ⟨rfl, q_mag_w (q_mag_w (q_mag_r h) _ rfl (by decide)) _ rfl (by decide)⟩
  · omega
theorem c_X10_repay_f (l : Launch) (g : q_GP) (h : q_H) (hs : q_Stat h) {lv nm nd nc mo : Nat} (hp : rm_P h lv nm nd nc mo) (x z n : Int32) (hxz : ¬ q_two x z nm) : q_Cd l g 4 mX10_repay [.ref 124, .int x, .int z, .int n] h (some (.int (-1))) h := by
  obtain ⟨p1, p2, p3, p4, p5, p6, p7, p8, p9, p10⟩ := id hp
  refine q_CdV mvX10_repay (Nat.le_of_ble_eq_true rfl) ?_
  refine xe_aload_n dX10_repay_0 rfl ?_
  refine xe_iload_n dX10_repay_1 rfl ?_
  refine xe_iload_n dX10_repay_2 rfl ?_
  refine xe_callVI (d' := 2) (y' := mX10_areTwo) dX10_repay_3 mlX10_355 mvX10_areTwo rfl (st124 hs) (by decide) rfl (by decide) (by decide) (Nat.le_of_ble_eq_true rfl) (c_X10_areTwo_f l g _ (by exact hs) (by exact hp) _ _ hxz) rfl ?_
  refine xn_if_ne (tgt := 11) dX10_repay_6 rfl (by omega) (fun c1 => ?_) (fun c1 => ?_)
  · omega
  · refine xe_iconst dX10_repay_9 kc_m1 ?_
    refine xe_ireturn dX10_repay_10 rfl (by first | rfl | decide +kernel) ?_
    exact ⟨rfl, rfl⟩
def q_wks (C : Nat → Int32) (LW : q_LW) (lv nm nc mo w : Nat) (R : Nat → Int32) : Nat → Nat → Int32
  | 0 => R
  | k + 1 => q_week C LW lv nm nc mo (w + k) (q_wks C LW lv nm nc mo w R k)
theorem q_wks_200 (C : Nat → Int32) (LW : q_LW) (lv nm nc mo w : Nat) (R : Nat → Int32) (h : R 200 = nI w) : ∀ k, q_wks C LW lv nm nc mo w R k 200 = nI (w + k)
  | 0 => h
  | k + 1 => by
    show q_week C LW lv nm nc mo (w + k) _ 200 = _
    unfold q_week
    exact pk_us
theorem q_Stat_keep {h : q_H} {u : Nat} (hs : q_Stat h) : q_Stat (q_keep h u) := by
  unfold q_keep
  split <;> exact hs
theorem q_s3_155 (h : q_H) (R R' V p V' p' : Nat → Int32) (b b' : Int32) : q_s3 (q_wI (q_s3 (q_wI h 155 R) V p b) 155 R') V' p' b' = q_s3 (q_wI h 155 R') V' p' b' := by
  rw [q_s3_row2, q_s3_s3]
theorem c_X10_weeks_t (l : Launch) (g : q_GP) (h : q_H) (hs : q_Stat h) {lv nm nd nc mo : Nat} (hp : rm_P h lv nm nd nc mo) {LW : q_LW} (hL : rm_L h lv LW) {w : Nat} (hw : q_I h 154 200 = nI w) (hw2 : w < 2 ^ 19) {u : Nat} (hu : q_I h 124 51 = nI u) (hu2 : u ≤ 25) (n : Nat) (hn : 0 < n) (hn2 : n ≤ 100) : q_Ct l g 3 mX10_weeks [.ref 124, .int (nI n)] h (fun r h1 => r = some (.int (nI (w + n))) ∧ q_kept h u (q_wks (q_I h 140) LW lv nm nc mo w (q_cpy (q_I h 154) (q_I h 155) 1720) n) h1) := by
  obtain ⟨p1, p2, p3, p4, p5, p6, p7, p8, p9, p10⟩ := id hp
  refine q_CtV mvX10_weeks (Nat.le_of_ble_eq_true rfl) ?_
  refine xe_iload_n dX10_weeks_0 rfl ?_
  refine xe_iconst dX10_weeks_1 kc_0 ?_
  refine xe_bipush dX10_weeks_2 kb_100 ?_
  refine xe_callSI (d' := 0) (y' := mX10_in) dX10_weeks_4 mlX10_312 msX10_in rfl (by decide) (by decide) (Nat.le_of_ble_eq_true rfl) (c_X10_inv l g _ _ _ _ (q_in_t (by omega) (by omega) (by decide))) rfl ?_
  refine xn_if_ne (tgt := 12) dX10_weeks_7 rfl (by omega) (fun c1 => ?_) (fun c1 => ?_)
  · refine xe_iload_n dX10_weeks_12 rfl ?_
    refine xn_if_ne (tgt := 25) dX10_weeks_13 rfl (by omega) (fun c2 => ?_) (fun c2 => ?_)
    · refine xe_aload_n dX10_weeks_25 rfl ?_
      refine xe_callVV (d' := 0) (y' := mX10_copiesAll) dX10_weeks_26 mlX10_366 mvX10_copiesAll rfl (st124 hs) (by decide) rfl (by decide) (by decide) (Nat.le_of_ble_eq_true rfl) (c_X10_copiesAll l g _ (by exact hs)) rfl ?_
      refine xe_iconst dX10_weeks_29 kc_0 ?_
      refine xe_istore_n (i := 2) dX10_weeks_30 rfl (by decide) rfl ?_
      refine xe_locals (L' := (fun i => [(0, .ref 124), (1, .int (nI n)), (2, .int (nI i))]) 0) (And.intro rfl (And.intro rfl (And.intro rfl trivial))) ?_
      refine xe_heap (h2 := q_h3 (q_wI h 155 (q_wks (q_I h 140) LW lv nm nc mo w (q_cpy (q_I h 154) (q_I h 155) 1720) 0)) (q_I h 152, q_I h 153, q_I h 124 46)) (q_h3_0 (q_wI h 155 (q_cpy (q_I h 154) (q_I h 155) 1720))).symm ?_
      refine xe_forE n (fun i => [(0, .ref 124), (1, .int (nI n)), (2, .int (nI i))]) (fun i s => q_h3 (q_wI h 155 (q_wks (q_I h 140) LW lv nm nc mo w (q_cpy (q_I h 154) (q_I h 155) 1720) i)) s) (fun i s hi K => ?_) (fun s => ?_) _
      · refine xe_iload_n dX10_weeks_31 rfl ?_
        refine xe_iload_n dX10_weeks_32 rfl ?_
        refine xn_icmp_ge (tgt := 46) dX10_weeks_33 rfl (by omega) (by omega) (fun c1 => ?_) (fun c1 => ?_)
        · omega
        · refine xe_aload_n dX10_weeks_36 rfl ?_
          refine xe_callVVq (d' := 2) (y' := mX10_weekGoes) dX10_weeks_37 mlX10_379 mvX10_weekGoes rfl (st124 hs) (by decide) rfl (by decide) (by decide) (Nat.le_of_ble_eq_true rfl) (c_X10_weekGoes l g _ (by exact hs) (by exact hp) (by exact rm_L_of (h := h) ⟨rfl, rfl, rfl, rfl, rfl, rfl, rfl, rfl, rfl⟩ hL) (by exact q_wks_200 _ _ _ _ _ _ _ (q_cpy (q_I h 154) (q_I h 155) 1720) hw i) (by omega)) rfl (fun h1 hq => ?_)
          obtain ⟨V1, p1, b1, rfl⟩ := hq
          refine xn_iinc dX10_weeks_40 rfl kc_1 ?_
          refine xe_goto (tgt := 31) dX10_weeks_43 rfl ?_
          refine xe_locals (L' := (fun i => [(0, .ref 124), (1, .int (nI n)), (2, .int (nI i))]) (i + 1)) (And.intro rfl (And.intro rfl (And.intro rfl trivial))) ?_
          refine xe_heap (q_s3_155 h (q_wks (q_I h 140) LW lv nm nc mo w (q_cpy (q_I h 154) (q_I h 155) 1720) i) _ s.1 s.2.1 V1 p1 s.2.2 b1) ?_
          exact K (V1, p1, b1)
      · refine xe_iload_n dX10_weeks_31 rfl ?_
        refine xe_iload_n dX10_weeks_32 rfl ?_
        refine xn_icmp_ge (tgt := 46) dX10_weeks_33 rfl (by omega) (by omega) (fun c1 => ?_) (fun c1 => ?_)
        · refine xe_aload_n dX10_weeks_46 rfl ?_
          refine xe_callVV (d' := 0) (y' := mX10_keeps) dX10_weeks_47 mlX10_373 mvX10_keeps rfl (st124 hs) (by decide) rfl (by decide) (by decide) (Nat.le_of_ble_eq_true rfl) (c_X10_keeps l g _ (by exact hs) _ (by exact hu) (by omega)) rfl ?_
          have hs := q_Stat_keep (u := u) (show q_Stat (q_h3 (q_wI h 155 (q_wks (q_I h 140) LW lv nm nc mo w (q_cpy (q_I h 154) (q_I h 155) 1720) n)) s) from hs)
          refine xe_aload_n dX10_weeks_50 rfl ?_
          refine xe_getP dX10_weeks_51 flX10_107 (st124 hs) (by decide) rfl (sp124_47 hs) ?_
          refine xe_sipush dX10_weeks_54 ks_200 ?_
          refine xn_ialdv dX10_weeks_57 (st154 hs) (by omega) (by decide) (v := nI (w + n)) (by rw [q_keep_now]; exact (if_pos (by decide)).trans (q_wks_200 _ _ _ _ _ _ _ (q_cpy (q_I h 154) (q_I h 155) 1720) hw n)) ?_
          refine xe_ireturn dX10_weeks_58 rfl (by first | rfl | decide +kernel) ?_
          exact ⟨rfl, _, q_mag_row _ _ _ _ _, rfl, rfl⟩
        · omega
    · omega
  · omega
theorem c_X10_weeks_0 (l : Launch) (g : q_GP) (h : q_H) (hs : q_Stat h) {lv nm nd nc mo : Nat} (hp : rm_P h lv nm nd nc mo) : q_Cd l g 3 mX10_weeks [.ref 124, .int (nI 0)] h (some (.int (q_I h 154 200))) h := by
  obtain ⟨p1, p2, p3, p4, p5, p6, p7, p8, p9, p10⟩ := id hp
  refine q_CdV mvX10_weeks (Nat.le_of_ble_eq_true rfl) ?_
  refine xe_iload_n dX10_weeks_0 rfl ?_
  refine xe_iconst dX10_weeks_1 kc_0 ?_
  refine xe_bipush dX10_weeks_2 kb_100 ?_
  refine xe_callSI (d' := 0) (y' := mX10_in) dX10_weeks_4 mlX10_312 msX10_in rfl (by decide) (by decide) (Nat.le_of_ble_eq_true rfl) (c_X10_inv l g _ _ _ _ (q_in_t (by decide) (by decide) (by decide))) rfl ?_
  refine xn_if_ne (tgt := 12) dX10_weeks_7 rfl (by omega) (fun c1 => ?_) (fun c1 => ?_)
  · refine xe_iload_n dX10_weeks_12 rfl ?_
    refine xn_if_ne (tgt := 25) dX10_weeks_13 rfl (by omega) (fun c2 => ?_) (fun c2 => ?_)
    · omega
    · refine xe_aload_n dX10_weeks_16 rfl ?_
      refine xe_getP dX10_weeks_17 flX10_107 (st124 hs) (by decide) rfl (sp124_47 hs) ?_
      refine xe_sipush dX10_weeks_20 ks_200 ?_
      refine xn_ialdf dX10_weeks_23 (st154 hs) (by omega) (by decide) (f := q_I h 154) rfl ?_
      refine xe_ireturn dX10_weeks_24 rfl (by first | rfl | decide +kernel) ?_
      exact ⟨rfl, rfl⟩
  · omega
theorem c_X10_weeks_f (l : Launch) (g : q_GP) (h : q_H) (hs : q_Stat h) {lv nm nd nc mo : Nat} (hp : rm_P h lv nm nd nc mo) (x : Int32) (hx : ¬ ∃ k, 0 ≤ k ∧ k ≤ 100 ∧ x = nI k) : q_Cd l g 3 mX10_weeks [.ref 124, .int x] h (some (.int (-1))) h := by
  obtain ⟨p1, p2, p3, p4, p5, p6, p7, p8, p9, p10⟩ := id hp
  refine q_CdV mvX10_weeks (Nat.le_of_ble_eq_true rfl) ?_
  refine xe_iload_n dX10_weeks_0 rfl ?_
  refine xe_iconst dX10_weeks_1 kc_0 ?_
  refine xe_bipush dX10_weeks_2 kb_100 ?_
  refine xe_callSI (d' := 0) (y' := mX10_in) dX10_weeks_4 mlX10_312 msX10_in rfl (by decide) (by decide) (Nat.le_of_ble_eq_true rfl) (c_X10_inv l g _ _ _ _ (q_in_f (by decide) (by decide) hx)) rfl ?_
  refine xn_if_ne (tgt := 12) dX10_weeks_7 rfl (by omega) (fun c1 => ?_) (fun c1 => ?_)
  · omega
  · refine xe_iconst dX10_weeks_10 kc_m1 ?_
    refine xe_ireturn dX10_weeks_11 rfl (by first | rfl | decide +kernel) ?_
    exact ⟨rfl, rfl⟩
theorem c_X10_undo_t (l : Launch) (g : q_GP) (h : q_H) (hs : q_Stat h) {u : Nat} (hu : q_I h 124 51 = nI u) (hu2 : u ≤ 25) (hu3 : 0 < u) : q_Cd l g 0 mX10_undo [.ref 124] h (some (.int (nI 1))) (q_wI (q_wI h 124 (upd (q_I h 124) 51 (nI (u - 1)))) 154 (q_cpy (fun k => q_I h 158 (1720 * (u - 1) + k)) (q_I h 154) 1720)) := by
  refine q_CdV mvX10_undo (Nat.le_of_ble_eq_true rfl) ?_
  refine xe_aload_n dX10_undo_0 rfl ?_
  refine xe_getIv dX10_undo_1 flX10_246 (st124 hs) (by decide) rfl (v := nI u) (hu) ?_
  refine xn_if_ne (tgt := 9) dX10_undo_4 rfl (by omega) (fun c1 => ?_) (fun c1 => ?_)
  · refine xe_aload_n dX10_undo_9 rfl ?_
    refine xe_dup dX10_undo_10 rfl ?_
    refine xe_getIv dX10_undo_11 flX10_246 (st124 hs) (by decide) rfl (v := nI u) (hu) ?_
    refine xe_iconst dX10_undo_14 kc_1 ?_
    refine xn_isub dX10_undo_15 (by omega) ?_
    refine xe_putI dX10_undo_16 flX10_246 (st124 hs) (by decide) rfl (Or.inl rfl) rfl rfl ?_
    refine xe_iconst dX10_undo_19 kc_0 ?_
    refine xe_istore_n (i := 1) dX10_undo_20 rfl (by decide) rfl ?_
    refine xe_locals (L' := (fun i => [(0, .ref 124), (1, .int (nI i))]) 0) (And.intro rfl (And.intro rfl trivial)) ?_
    refine xe_heap (h2 := q_wI (q_wI h 124 (upd (q_I h 124) 51 (nI (u - 1)))) 154 (q_cpy (fun k => q_I h 158 (1720 * (u - 1) + k)) (q_I h 154) 0)) (by rw [q_cpy0]; exact (q_wsI (q_wI h 124 (upd (q_I h 124) 51 (nI (u - 1)))) 154).symm) ?_
    refine xe_for 1720 (fun i => [(0, .ref 124), (1, .int (nI i))]) (fun i => q_wI (q_wI h 124 (upd (q_I h 124) 51 (nI (u - 1)))) 154 (q_cpy (fun k => q_I h 158 (1720 * (u - 1) + k)) (q_I h 154) i)) (fun i hi K => ?_) ?_
    · refine xe_iload_n dX10_undo_21 rfl ?_
      refine xe_sipush dX10_undo_22 ks_1720 ?_
      refine xn_icmp_ge (tgt := 55) dX10_undo_25 rfl (by omega) (by omega) (fun c2 => ?_) (fun c2 => ?_)
      · omega
      · refine xe_aload_n dX10_undo_28 rfl ?_
        refine xe_getP dX10_undo_29 flX10_107 (st124 hs) (by decide) rfl (sp124_47 hs) ?_
        refine xe_iload_n dX10_undo_32 rfl ?_
        refine xe_aload_n dX10_undo_33 rfl ?_
        refine xe_getP dX10_undo_34 flX10_120 (st124 hs) (by decide) rfl (sp124_52 hs) ?_
        refine xe_sipush dX10_undo_37 ks_1720 ?_
        refine xe_aload_n dX10_undo_40 rfl ?_
        refine xe_getIv dX10_undo_41 flX10_246 (st124 hs) (by decide) rfl (v := nI (u - 1)) (rfl) ?_
        refine xn_imul dX10_undo_44 ?_
        refine xe_iload_n dX10_undo_45 rfl ?_
        refine xn_iadd dX10_undo_46 ?_
        refine xn_ialdf dX10_undo_47 (st158 hs) (by omega) (by decide) (f := q_I h 158) rfl ?_
        refine xn_iast dX10_undo_48 (st154 hs) (by omega) (by decide) ?_
        refine xn_iinc dX10_undo_49 rfl kc_1 ?_
        refine xe_goto (tgt := 21) dX10_undo_52 rfl ?_
        refine xe_heap (h2 := q_wI (q_wI h 124 (upd (q_I h 124) 51 (nI (u - 1)))) 154 (q_cpy (fun k => q_I h 158 (1720 * (u - 1) + k)) (q_I h 154) (i + 1))) (by rw [q_wup]; exact congrArg (q_wI (q_wI h 124 (upd (q_I h 124) 51 (nI (u - 1)))) 154) (q_cpyS (fun k => q_I h 158 (1720 * (u - 1) + k)) (q_I h 154) i)) ?_
        refine xe_locals (L' := (fun i => [(0, .ref 124), (1, .int (nI i))]) (i + 1)) (And.intro rfl (And.intro rfl trivial)) ?_
        exact K
    · refine xe_iload_n dX10_undo_21 rfl ?_
      refine xe_sipush dX10_undo_22 ks_1720 ?_
      refine xn_icmp_ge (tgt := 55) dX10_undo_25 rfl (by omega) (by omega) (fun c3 => ?_) (fun c3 => ?_)
      · refine xe_iconst dX10_undo_55 kc_1 ?_
        refine xe_ireturn dX10_undo_56 rfl (by first | rfl | decide +kernel) ?_
        exact ⟨rfl, rfl⟩
      · omega
  · omega
theorem c_X10_undo_0 (l : Launch) (g : q_GP) (h : q_H) (hs : q_Stat h) (hu : q_I h 124 51 = nI 0) : q_Cd l g 0 mX10_undo [.ref 124] h (some (.int (nI 0))) h := by
  refine q_CdV mvX10_undo (Nat.le_of_ble_eq_true rfl) ?_
  refine xe_aload_n dX10_undo_0 rfl ?_
  refine xe_getIv dX10_undo_1 flX10_246 (st124 hs) (by decide) rfl (v := nI 0) (hu) ?_
  refine xn_if_ne (tgt := 9) dX10_undo_4 rfl (by omega) (fun c1 => ?_) (fun c1 => ?_)
  · omega
  · refine xe_iconst dX10_undo_7 kc_0 ?_
    refine xe_ireturn dX10_undo_8 rfl (by first | rfl | decide +kernel) ?_
    exact ⟨rfl, rfl⟩
theorem c_X10_hold_t (l : Launch) (g : q_GP) (h : q_H) (hs : q_Stat h) (s : Nat) (hs3 : s < 3) : q_Cd l g 1 mX10_hold [.ref 124, .int (nI s)] h (some (.int (nI 1))) (q_wI (q_wI h 168 (upd (q_I h 168) s (nI 1))) 169 (q_put (q_I h 169) (q_I h 154) (1720 * s) 1720)) := by
  refine q_CdV mvX10_hold (Nat.le_of_ble_eq_true rfl) ?_
  refine xe_iload_n dX10_hold_0 rfl ?_
  refine xe_iconst dX10_hold_1 kc_0 ?_
  refine xe_iconst dX10_hold_2 kc_2 ?_
  refine xe_callSI (d' := 0) (y' := mX10_in) dX10_hold_3 mlX10_312 msX10_in rfl (by decide) (by decide) (Nat.le_of_ble_eq_true rfl) (c_X10_inv l g _ _ _ _ (q_in_t (by omega) (by omega) (by decide))) rfl ?_
  refine xn_if_ne (tgt := 11) dX10_hold_6 rfl (by omega) (fun c1 => ?_) (fun c1 => ?_)
  · refine xe_aload_n dX10_hold_11 rfl ?_
    refine xe_getP dX10_hold_12 flX10_150 (st124 hs) (by decide) rfl (sp124_65 hs) ?_
    refine xe_iload_n dX10_hold_15 rfl ?_
    refine xe_iconst dX10_hold_16 kc_1 ?_
    refine xn_zast dX10_hold_17 (st168 hs) (by omega) (by decide) rfl ?_
    refine xe_iconst dX10_hold_18 kc_0 ?_
    refine xe_istore_n (i := 2) dX10_hold_19 rfl (by decide) rfl ?_
    refine xe_locals (L' := (fun i => [(0, .ref 124), (1, .int (nI s)), (2, .int (nI i))]) 0) (And.intro rfl (And.intro rfl (And.intro rfl trivial))) ?_
    refine xe_heap (h2 := q_wI (q_wI h 168 (upd (q_I h 168) s (nI 1))) 169 (q_put (q_I h 169) (q_I h 154) (1720 * s) 0)) (by rw [q_put0]; exact (q_wsI (q_wI h 168 (upd (q_I h 168) s (nI 1))) 169).symm) ?_
    refine xe_for 1720 (fun i => [(0, .ref 124), (1, .int (nI s)), (2, .int (nI i))]) (fun i => q_wI (q_wI h 168 (upd (q_I h 168) s (nI 1))) 169 (q_put (q_I h 169) (q_I h 154) (1720 * s) i)) (fun i hi K => ?_) ?_
    · refine xe_iload_n dX10_hold_20 rfl ?_
      refine xe_sipush dX10_hold_21 ks_1720 ?_
      refine xn_icmp_ge (tgt := 51) dX10_hold_24 rfl (by omega) (by omega) (fun c2 => ?_) (fun c2 => ?_)
      · omega
      · refine xe_aload_n dX10_hold_27 rfl ?_
        refine xe_getP dX10_hold_28 flX10_153 (st124 hs) (by decide) rfl (sp124_66 hs) ?_
        refine xe_sipush dX10_hold_31 ks_1720 ?_
        refine xe_iload_n dX10_hold_34 rfl ?_
        refine xn_imul dX10_hold_35 ?_
        refine xe_iload_n dX10_hold_36 rfl ?_
        refine xn_iadd dX10_hold_37 ?_
        refine xe_aload_n dX10_hold_38 rfl ?_
        refine xe_getP dX10_hold_39 flX10_107 (st124 hs) (by decide) rfl (sp124_47 hs) ?_
        refine xe_iload_n dX10_hold_42 rfl ?_
        refine xn_ialdf dX10_hold_43 (st154 hs) (by omega) (by decide) (f := q_I h 154) rfl ?_
        refine xn_iast dX10_hold_44 (st169 hs) (by omega) (by decide) ?_
        refine xn_iinc dX10_hold_45 rfl kc_1 ?_
        refine xe_goto (tgt := 20) dX10_hold_48 rfl ?_
        refine xe_heap (h2 := q_wI (q_wI h 168 (upd (q_I h 168) s (nI 1))) 169 (q_put (q_I h 169) (q_I h 154) (1720 * s) (i + 1))) (by rw [q_wup]; exact congrArg (q_wI (q_wI h 168 (upd (q_I h 168) s (nI 1))) 169) (q_putS (q_I h 169) (q_I h 154) (1720 * s) i)) ?_
        refine xe_locals (L' := (fun i => [(0, .ref 124), (1, .int (nI s)), (2, .int (nI i))]) (i + 1)) (And.intro rfl (And.intro rfl (And.intro rfl trivial))) ?_
        exact K
    · refine xe_iload_n dX10_hold_20 rfl ?_
      refine xe_sipush dX10_hold_21 ks_1720 ?_
      refine xn_icmp_ge (tgt := 51) dX10_hold_24 rfl (by omega) (by omega) (fun c3 => ?_) (fun c3 => ?_)
      · refine xe_iconst dX10_hold_51 kc_1 ?_
        refine xe_ireturn dX10_hold_52 rfl (by first | rfl | decide +kernel) ?_
        exact ⟨rfl, rfl⟩
      · omega
  · omega
theorem c_X10_hold_f (l : Launch) (g : q_GP) (h : q_H) (hs : q_Stat h) (x : Int32) (hx : ¬ ∃ k, 0 ≤ k ∧ k ≤ 2 ∧ x = nI k) : q_Cd l g 1 mX10_hold [.ref 124, .int x] h (some (.int (nI 0))) h := by
  refine q_CdV mvX10_hold (Nat.le_of_ble_eq_true rfl) ?_
  refine xe_iload_n dX10_hold_0 rfl ?_
  refine xe_iconst dX10_hold_1 kc_0 ?_
  refine xe_iconst dX10_hold_2 kc_2 ?_
  refine xe_callSI (d' := 0) (y' := mX10_in) dX10_hold_3 mlX10_312 msX10_in rfl (by decide) (by decide) (Nat.le_of_ble_eq_true rfl) (c_X10_inv l g _ _ _ _ (q_in_f (by decide) (by decide) hx)) rfl ?_
  refine xn_if_ne (tgt := 11) dX10_hold_6 rfl (by omega) (fun c1 => ?_) (fun c1 => ?_)
  · omega
  · refine xe_iconst dX10_hold_9 kc_0 ?_
    refine xe_ireturn dX10_hold_10 rfl (by first | rfl | decide +kernel) ?_
    exact ⟨rfl, rfl⟩
theorem c_X10_restore_t (l : Launch) (g : q_GP) (h : q_H) (hs : q_Stat h) (s : Nat) (hs3 : s < 3) (hh : q_I h 168 s = nI 1) : q_Cd l g 1 mX10_restore [.ref 124, .int (nI s)] h (some (.int (nI 1))) (q_wI (q_wI h 154 (q_cpy (fun k => q_I h 169 (1720 * s + k)) (q_I h 154) 1720)) 124 (upd (q_I h 124) 51 (nI 0))) := by
  refine q_CdV mvX10_restore (Nat.le_of_ble_eq_true rfl) ?_
  refine xe_iload_n dX10_restore_0 rfl ?_
  refine xe_iconst dX10_restore_1 kc_0 ?_
  refine xe_iconst dX10_restore_2 kc_2 ?_
  refine xe_callSI (d' := 0) (y' := mX10_in) dX10_restore_3 mlX10_312 msX10_in rfl (by decide) (by decide) (Nat.le_of_ble_eq_true rfl) (c_X10_inv l g _ _ _ _ (q_in_t (by omega) (by omega) (by decide))) rfl ?_
  refine xn_if_eq (tgt := 18) dX10_restore_6 rfl (by omega) (fun c1 => ?_) (fun c1 => ?_)
  · omega
  · refine xe_aload_n dX10_restore_9 rfl ?_
    refine xe_getP dX10_restore_10 flX10_150 (st124 hs) (by decide) rfl (sp124_65 hs) ?_
    refine xe_iload_n dX10_restore_13 rfl ?_
    refine xn_zaldv dX10_restore_14 (st168 hs) (by omega) (by decide) (v := nI 1) (hh) ?_
    refine xn_if_ne (tgt := 20) dX10_restore_15 rfl (by omega) (fun c2 => ?_) (fun c2 => ?_)
    · refine xe_iconst dX10_restore_20 kc_0 ?_
      refine xe_istore_n (i := 2) dX10_restore_21 rfl (by decide) rfl ?_
      refine xe_locals (L' := (fun i => [(0, .ref 124), (1, .int (nI s)), (2, .int (nI i))]) 0) (And.intro rfl (And.intro rfl (And.intro rfl trivial))) ?_
      refine xe_heap (h2 := q_wI h 154 (q_cpy (fun k => q_I h 169 (1720 * s + k)) (q_I h 154) 0)) (by rw [q_cpy0]; exact (q_wsI h 154).symm) ?_
      refine xe_for 1720 (fun i => [(0, .ref 124), (1, .int (nI s)), (2, .int (nI i))]) (fun i => q_wI h 154 (q_cpy (fun k => q_I h 169 (1720 * s + k)) (q_I h 154) i)) (fun i hi K => ?_) ?_
      · refine xe_iload_n dX10_restore_22 rfl ?_
        refine xe_sipush dX10_restore_23 ks_1720 ?_
        refine xn_icmp_ge (tgt := 53) dX10_restore_26 rfl (by omega) (by omega) (fun c3 => ?_) (fun c3 => ?_)
        · omega
        · refine xe_aload_n dX10_restore_29 rfl ?_
          refine xe_getP dX10_restore_30 flX10_107 (st124 hs) (by decide) rfl (sp124_47 hs) ?_
          refine xe_iload_n dX10_restore_33 rfl ?_
          refine xe_aload_n dX10_restore_34 rfl ?_
          refine xe_getP dX10_restore_35 flX10_153 (st124 hs) (by decide) rfl (sp124_66 hs) ?_
          refine xe_sipush dX10_restore_38 ks_1720 ?_
          refine xe_iload_n dX10_restore_41 rfl ?_
          refine xn_imul dX10_restore_42 ?_
          refine xe_iload_n dX10_restore_43 rfl ?_
          refine xn_iadd dX10_restore_44 ?_
          refine xn_ialdf dX10_restore_45 (st169 hs) (by omega) (by decide) (f := q_I h 169) rfl ?_
          refine xn_iast dX10_restore_46 (st154 hs) (by omega) (by decide) ?_
          refine xn_iinc dX10_restore_47 rfl kc_1 ?_
          refine xe_goto (tgt := 22) dX10_restore_50 rfl ?_
          refine xe_heap (h2 := q_wI h 154 (q_cpy (fun k => q_I h 169 (1720 * s + k)) (q_I h 154) (i + 1))) (by rw [q_wup]; exact congrArg (q_wI h 154) (q_cpyS (fun k => q_I h 169 (1720 * s + k)) (q_I h 154) i)) ?_
          refine xe_locals (L' := (fun i => [(0, .ref 124), (1, .int (nI s)), (2, .int (nI i))]) (i + 1)) (And.intro rfl (And.intro rfl (And.intro rfl trivial))) ?_
          exact K
      · refine xe_iload_n dX10_restore_22 rfl ?_
        refine xe_sipush dX10_restore_23 ks_1720 ?_
        refine xn_icmp_ge (tgt := 53) dX10_restore_26 rfl (by omega) (by omega) (fun c4 => ?_) (fun c4 => ?_)
        · refine xe_aload_n dX10_restore_53 rfl ?_
          refine xe_iconst dX10_restore_54 kc_0 ?_
          refine xe_putI dX10_restore_55 flX10_246 (st124 hs) (by decide) rfl (Or.inl rfl) rfl rfl ?_
          refine xe_iconst dX10_restore_58 kc_1 ?_
          refine xe_ireturn dX10_restore_59 rfl (by first | rfl | decide +kernel) ?_
          exact ⟨rfl, rfl⟩
        · omega
    · omega
theorem c_X10_restore_0 (l : Launch) (g : q_GP) (h : q_H) (hs : q_Stat h) (s : Nat) (hs3 : s < 3) (hh : q_I h 168 s = nI 0) : q_Cd l g 1 mX10_restore [.ref 124, .int (nI s)] h (some (.int (nI 0))) h := by
  refine q_CdV mvX10_restore (Nat.le_of_ble_eq_true rfl) ?_
  refine xe_iload_n dX10_restore_0 rfl ?_
  refine xe_iconst dX10_restore_1 kc_0 ?_
  refine xe_iconst dX10_restore_2 kc_2 ?_
  refine xe_callSI (d' := 0) (y' := mX10_in) dX10_restore_3 mlX10_312 msX10_in rfl (by decide) (by decide) (Nat.le_of_ble_eq_true rfl) (c_X10_inv l g _ _ _ _ (q_in_t (by omega) (by omega) (by decide))) rfl ?_
  refine xn_if_eq (tgt := 18) dX10_restore_6 rfl (by omega) (fun c1 => ?_) (fun c1 => ?_)
  · omega
  · refine xe_aload_n dX10_restore_9 rfl ?_
    refine xe_getP dX10_restore_10 flX10_150 (st124 hs) (by decide) rfl (sp124_65 hs) ?_
    refine xe_iload_n dX10_restore_13 rfl ?_
    refine xn_zaldv dX10_restore_14 (st168 hs) (by omega) (by decide) (v := nI 0) (hh) ?_
    refine xn_if_ne (tgt := 20) dX10_restore_15 rfl (by omega) (fun c2 => ?_) (fun c2 => ?_)
    · omega
    · refine xe_iconst dX10_restore_18 kc_0 ?_
      refine xe_ireturn dX10_restore_19 rfl (by first | rfl | decide +kernel) ?_
      exact ⟨rfl, rfl⟩
theorem c_X10_restore_f (l : Launch) (g : q_GP) (h : q_H) (hs : q_Stat h) (x : Int32) (hx : ¬ ∃ k, 0 ≤ k ∧ k ≤ 2 ∧ x = nI k) : q_Cd l g 1 mX10_restore [.ref 124, .int x] h (some (.int (nI 0))) h := by
  refine q_CdV mvX10_restore (Nat.le_of_ble_eq_true rfl) ?_
  refine xe_iload_n dX10_restore_0 rfl ?_
  refine xe_iconst dX10_restore_1 kc_0 ?_
  refine xe_iconst dX10_restore_2 kc_2 ?_
  refine xe_callSI (d' := 0) (y' := mX10_in) dX10_restore_3 mlX10_312 msX10_in rfl (by decide) (by decide) (Nat.le_of_ble_eq_true rfl) (c_X10_inv l g _ _ _ _ (q_in_f (by decide) (by decide) hx)) rfl ?_
  refine xn_if_eq (tgt := 18) dX10_restore_6 rfl (by omega) (fun c1 => ?_) (fun c1 => ?_)
  · refine xe_iconst dX10_restore_18 kc_0 ?_
    refine xe_ireturn dX10_restore_19 rfl (by first | rfl | decide +kernel) ?_
    exact ⟨rfl, rfl⟩
  · omega
