/-! the class: reads -/
theorem c_X9_man_0 (l : Launch) (g : q_GP) (h : q_H) (hs : q_Stat h) {p nm nd nc mo n : Nat} (hp : rk_P h p nm nd nc mo n) {LW : q_LW} (hL : rk_L h p n LW) {w : Nat} (hw : q_I h 34 6 = nI w) (hw2 : w < 2 ^ 20) {m : Nat} (hm : m < nm) : q_Ct l g 5 mX9_man [.ref 0, .int (nI m), .int (nI 0)] h (fun r h1 => r = some (.int (q_s8 (q_cr h) (8 * m))) ∧ q_kag h h1) := by
  obtain ⟨P0, P1, P2, P2b, P3, P3b, P4, P4b, P5, P5b, P6, P6b⟩ := id hp
  rcases P1 with rfl | rfl
  · refine q_CtV mvX9_man (Nat.le_of_ble_eq_true rfl) ?_
    refine xe_aload_n dX9_man_0 rfl ?_
    refine xe_iload_n dX9_man_1 rfl ?_
    refine xe_callVI (d' := 0) (y' := mX9_isMan) dX9_man_2 mlX9_134 mvX9_isMan rfl (st0 hs) (by decide) rfl (by decide) (by decide) (Nat.le_of_ble_eq_true rfl) (c_X9_isMan_t l g _ (by exact hs) (by exact hp) (by omega)) rfl ?_
    refine xn_if_ne (tgt := 10) dX9_man_5 rfl (by omega) (fun c1 => ?_) (fun c1 => ?_)
    · refine xe_iload_n dX9_man_10 rfl ?_
      refine xe_tsw_in (tgt := 52) dX9_man_11 (by decide) (by decide) rfl rfl ?_
      refine xe_aload_n dX9_man_52 rfl ?_
      refine xe_getP dX9_man_53 flX9_36 (st0 hs) (by decide) rfl (sp0_4 hs) ?_
      refine xe_iload_n dX9_man_56 rfl ?_
      refine xe_callVI (d' := 0) (y' := mX6_inRow) dX9_man_57 mlX9_140 mvX6_inRow rfl (st34 hs) (by decide) rfl (by decide) (by decide) (Nat.le_of_ble_eq_true rfl) (c_X6_inRow l g _ (by exact hs) _ (by omega)) rfl ?_
      refine xe_top (v' := q_s8 (q_cr h) (8 * m)) (q_cr_in h (by omega)) ?_
      refine xe_ireturn dX9_man_60 rfl (by first | rfl | decide +kernel) ?_
      exact ⟨rfl, q_kag_r h⟩
    · omega
  · refine q_CtV mvX9_man (Nat.le_of_ble_eq_true rfl) ?_
    refine xe_aload_n dX9_man_0 rfl ?_
    refine xe_iload_n dX9_man_1 rfl ?_
    refine xe_callVI (d' := 0) (y' := mX9_isMan) dX9_man_2 mlX9_134 mvX9_isMan rfl (st0 hs) (by decide) rfl (by decide) (by decide) (Nat.le_of_ble_eq_true rfl) (c_X9_isMan_t l g _ (by exact hs) (by exact hp) (by omega)) rfl ?_
    refine xn_if_ne (tgt := 10) dX9_man_5 rfl (by omega) (fun c1 => ?_) (fun c1 => ?_)
    · refine xe_iload_n dX9_man_10 rfl ?_
      refine xe_tsw_in (tgt := 52) dX9_man_11 (by decide) (by decide) rfl rfl ?_
      refine xe_aload_n dX9_man_52 rfl ?_
      refine xe_getP dX9_man_53 flX9_36 (st0 hs) (by decide) rfl (sp0_4 hs) ?_
      refine xe_iload_n dX9_man_56 rfl ?_
      refine xe_callVI (d' := 0) (y' := mX6_inRow) dX9_man_57 mlX9_140 mvX6_inRow rfl (st34 hs) (by decide) rfl (by decide) (by decide) (Nat.le_of_ble_eq_true rfl) (c_X6_inRow l g _ (by exact hs) _ (by omega)) rfl ?_
      refine xe_top (v' := q_s8 (q_cr h) (8 * m)) (q_cr_in h (by omega)) ?_
      refine xe_ireturn dX9_man_60 rfl (by first | rfl | decide +kernel) ?_
      exact ⟨rfl, q_kag_r h⟩
    · omega
theorem q_cr_9 (h : q_H) {m : Nat} (hm : m < 8) : q_I h 35 (m * 8 + m) = q_cr h (9 * m) := by
  unfold q_cr
  rw [if_pos (by omega), show m * 8 + m = 9 * m by omega]
theorem q_cr_f (h : q_H) {a b : Nat} (ha : a < 9) (hb : b < 8) : q_I h 35 (a * 8 + b) = q_cr h (8 * a + b) := by
  unfold q_cr
  rw [if_pos (by omega), Nat.mul_comm]
theorem q_cr_d (h : q_H) {a b : Nat} (ha : a < 8) (hb : b < 8) : q_I h 36 (a * 8 + b) = q_cr h (72 + 8 * a + b) := by
  unfold q_cr
  rw [if_neg (by omega), if_pos (by omega), show 72 + 8 * a + b - 72 = a * 8 + b by omega]
theorem q_cr_net (h : q_H) {m : Nat} (hm : m < 8) : q_sum (fun k => q_I h 36 (k * 8 + m) - q_I h 36 (m * 8 + k)) 8 = q_sum (fun k => q_cr h (72 + 8 * k + m) - q_cr h (72 + 8 * m + k)) 8 := q_sum_co (fun k hk => by
  show q_I h 36 (k * 8 + m) - q_I h 36 (m * 8 + k) = _
  rw [q_cr_d h hk hm, q_cr_d h hm hk])
theorem c_X9_man_1 (l : Launch) (g : q_GP) (h : q_H) (hs : q_Stat h) {p nm nd nc mo n : Nat} (hp : rk_P h p nm nd nc mo n) {LW : q_LW} (hL : rk_L h p n LW) {w : Nat} (hw : q_I h 34 6 = nI w) (hw2 : w < 2 ^ 20) {m : Nat} (hm : m < nm) : q_Ct l g 5 mX9_man [.ref 0, .int (nI m), .int (nI 1)] h (fun r h1 => r = some (.int (q_cr h (9 * m))) ∧ q_kag h h1) := by
  obtain ⟨P0, P1, P2, P2b, P3, P3b, P4, P4b, P5, P5b, P6, P6b⟩ := id hp
  rcases P1 with rfl | rfl
  · refine q_CtV mvX9_man (Nat.le_of_ble_eq_true rfl) ?_
    refine xe_aload_n dX9_man_0 rfl ?_
    refine xe_iload_n dX9_man_1 rfl ?_
    refine xe_callVI (d' := 0) (y' := mX9_isMan) dX9_man_2 mlX9_134 mvX9_isMan rfl (st0 hs) (by decide) rfl (by decide) (by decide) (Nat.le_of_ble_eq_true rfl) (c_X9_isMan_t l g _ (by exact hs) (by exact hp) (by omega)) rfl ?_
    refine xn_if_ne (tgt := 10) dX9_man_5 rfl (by omega) (fun c1 => ?_) (fun c1 => ?_)
    · refine xe_iload_n dX9_man_10 rfl ?_
      refine xe_tsw_in (tgt := 61) dX9_man_11 (by decide) (by decide) rfl rfl ?_
      refine xe_aload_n dX9_man_61 rfl ?_
      refine xe_getP dX9_man_62 flX9_36 (st0 hs) (by decide) rfl (sp0_4 hs) ?_
      refine xe_getP dX9_man_65 flX9_120 (st34 hs) (by decide) rfl (sp34_0 hs) ?_
      refine xe_iload_n dX9_man_68 rfl ?_
      refine xe_bipush dX9_man_69 kb_8 ?_
      refine xn_imul dX9_man_71 ?_
      refine xe_iload_n dX9_man_72 rfl ?_
      refine xn_iadd dX9_man_73 ?_
      refine xn_ialdv dX9_man_74 (st35 hs) (by omega) (by decide) (v := (q_cr h (9 * m))) (q_cr_9 h (by omega)) ?_
      refine xe_ireturn dX9_man_75 rfl (by first | rfl | decide +kernel) ?_
      exact ⟨rfl, q_kag_r h⟩
    · omega
  · refine q_CtV mvX9_man (Nat.le_of_ble_eq_true rfl) ?_
    refine xe_aload_n dX9_man_0 rfl ?_
    refine xe_iload_n dX9_man_1 rfl ?_
    refine xe_callVI (d' := 0) (y' := mX9_isMan) dX9_man_2 mlX9_134 mvX9_isMan rfl (st0 hs) (by decide) rfl (by decide) (by decide) (Nat.le_of_ble_eq_true rfl) (c_X9_isMan_t l g _ (by exact hs) (by exact hp) (by omega)) rfl ?_
    refine xn_if_ne (tgt := 10) dX9_man_5 rfl (by omega) (fun c1 => ?_) (fun c1 => ?_)
    · refine xe_iload_n dX9_man_10 rfl ?_
      refine xe_tsw_in (tgt := 61) dX9_man_11 (by decide) (by decide) rfl rfl ?_
      refine xe_aload_n dX9_man_61 rfl ?_
      refine xe_getP dX9_man_62 flX9_36 (st0 hs) (by decide) rfl (sp0_4 hs) ?_
      refine xe_getP dX9_man_65 flX9_120 (st34 hs) (by decide) rfl (sp34_0 hs) ?_
      refine xe_iload_n dX9_man_68 rfl ?_
      refine xe_bipush dX9_man_69 kb_8 ?_
      refine xn_imul dX9_man_71 ?_
      refine xe_iload_n dX9_man_72 rfl ?_
      refine xn_iadd dX9_man_73 ?_
      refine xn_ialdv dX9_man_74 (st35 hs) (by omega) (by decide) (v := (q_cr h (9 * m))) (q_cr_9 h (by omega)) ?_
      refine xe_ireturn dX9_man_75 rfl (by first | rfl | decide +kernel) ?_
      exact ⟨rfl, q_kag_r h⟩
    · omega
theorem c_X9_man_2 (l : Launch) (g : q_GP) (h : q_H) (hs : q_Stat h) {p nm nd nc mo n : Nat} (hp : rk_P h p nm nd nc mo n) {LW : q_LW} (hL : rk_L h p n LW) {w : Nat} (hw : q_I h 34 6 = nI w) (hw2 : w < 2 ^ 20) {m : Nat} (hm : m < nm) : q_Ct l g 5 mX9_man [.ref 0, .int (nI m), .int (nI 2)] h (fun r h1 => r = some (.int (q_s8 (q_cr h) (136 + 8 * m))) ∧ q_kag h h1) := by
  obtain ⟨P0, P1, P2, P2b, P3, P3b, P4, P4b, P5, P5b, P6, P6b⟩ := id hp
  rcases P1 with rfl | rfl
  · refine q_CtV mvX9_man (Nat.le_of_ble_eq_true rfl) ?_
    refine xe_aload_n dX9_man_0 rfl ?_
    refine xe_iload_n dX9_man_1 rfl ?_
    refine xe_callVI (d' := 0) (y' := mX9_isMan) dX9_man_2 mlX9_134 mvX9_isMan rfl (st0 hs) (by decide) rfl (by decide) (by decide) (Nat.le_of_ble_eq_true rfl) (c_X9_isMan_t l g _ (by exact hs) (by exact hp) (by omega)) rfl ?_
    refine xn_if_ne (tgt := 10) dX9_man_5 rfl (by omega) (fun c1 => ?_) (fun c1 => ?_)
    · refine xe_iload_n dX9_man_10 rfl ?_
      refine xe_tsw_in (tgt := 76) dX9_man_11 (by decide) (by decide) rfl rfl ?_
      refine xe_aload_n dX9_man_76 rfl ?_
      refine xe_getP dX9_man_77 flX9_36 (st0 hs) (by decide) rfl (sp0_4 hs) ?_
      refine xe_iload_n dX9_man_80 rfl ?_
      refine xe_callVI (d' := 0) (y' := mX6_timesOf) dX9_man_81 mlX9_144 mvX6_timesOf rfl (st34 hs) (by decide) rfl (by decide) (by decide) (Nat.le_of_ble_eq_true rfl) (c_X6_timesOf l g _ (by exact hs) _ (by omega)) rfl ?_
      refine xe_top (v' := q_s8 (q_cr h) (136 + 8 * m)) (q_cr_tm h (by omega)) ?_
      refine xe_ireturn dX9_man_84 rfl (by first | rfl | decide +kernel) ?_
      exact ⟨rfl, q_kag_r h⟩
    · omega
  · refine q_CtV mvX9_man (Nat.le_of_ble_eq_true rfl) ?_
    refine xe_aload_n dX9_man_0 rfl ?_
    refine xe_iload_n dX9_man_1 rfl ?_
    refine xe_callVI (d' := 0) (y' := mX9_isMan) dX9_man_2 mlX9_134 mvX9_isMan rfl (st0 hs) (by decide) rfl (by decide) (by decide) (Nat.le_of_ble_eq_true rfl) (c_X9_isMan_t l g _ (by exact hs) (by exact hp) (by omega)) rfl ?_
    refine xn_if_ne (tgt := 10) dX9_man_5 rfl (by omega) (fun c1 => ?_) (fun c1 => ?_)
    · refine xe_iload_n dX9_man_10 rfl ?_
      refine xe_tsw_in (tgt := 76) dX9_man_11 (by decide) (by decide) rfl rfl ?_
      refine xe_aload_n dX9_man_76 rfl ?_
      refine xe_getP dX9_man_77 flX9_36 (st0 hs) (by decide) rfl (sp0_4 hs) ?_
      refine xe_iload_n dX9_man_80 rfl ?_
      refine xe_callVI (d' := 0) (y' := mX6_timesOf) dX9_man_81 mlX9_144 mvX6_timesOf rfl (st34 hs) (by decide) rfl (by decide) (by decide) (Nat.le_of_ble_eq_true rfl) (c_X6_timesOf l g _ (by exact hs) _ (by omega)) rfl ?_
      refine xe_top (v' := q_s8 (q_cr h) (136 + 8 * m)) (q_cr_tm h (by omega)) ?_
      refine xe_ireturn dX9_man_84 rfl (by first | rfl | decide +kernel) ?_
      exact ⟨rfl, q_kag_r h⟩
    · omega
theorem c_X9_man_3 (l : Launch) (g : q_GP) (h : q_H) (hs : q_Stat h) {p nm nd nc mo n : Nat} (hp : rk_P h p nm nd nc mo n) {LW : q_LW} (hL : rk_L h p n LW) {w : Nat} (hw : q_I h 34 6 = nI w) (hw2 : w < 2 ^ 20) {m : Nat} (hm : m < nm) : q_Ct l g 5 mX9_man [.ref 0, .int (nI m), .int (nI 3)] h (fun r h1 => r = some (.int ((q_sum (fun k => q_cr h (72 + 8 * k + m) - q_cr h (72 + 8 * m + k)) 8))) ∧ q_kag h h1) := by
  obtain ⟨P0, P1, P2, P2b, P3, P3b, P4, P4b, P5, P5b, P6, P6b⟩ := id hp
  rcases P1 with rfl | rfl
  · refine q_CtV mvX9_man (Nat.le_of_ble_eq_true rfl) ?_
    refine xe_aload_n dX9_man_0 rfl ?_
    refine xe_iload_n dX9_man_1 rfl ?_
    refine xe_callVI (d' := 0) (y' := mX9_isMan) dX9_man_2 mlX9_134 mvX9_isMan rfl (st0 hs) (by decide) rfl (by decide) (by decide) (Nat.le_of_ble_eq_true rfl) (c_X9_isMan_t l g _ (by exact hs) (by exact hp) (by omega)) rfl ?_
    refine xn_if_ne (tgt := 10) dX9_man_5 rfl (by omega) (fun c1 => ?_) (fun c1 => ?_)
    · refine xe_iload_n dX9_man_10 rfl ?_
      refine xe_tsw_in (tgt := 85) dX9_man_11 (by decide) (by decide) rfl rfl ?_
      refine xe_aload_n dX9_man_85 rfl ?_
      refine xe_getP dX9_man_86 flX9_36 (st0 hs) (by decide) rfl (sp0_4 hs) ?_
      refine xe_iload_n dX9_man_89 rfl ?_
      refine xe_callVI (d' := 0) (y' := mX6_net) dX9_man_90 mlX9_147 mvX6_net rfl (st34 hs) (by decide) rfl (by decide) (by decide) (Nat.le_of_ble_eq_true rfl) (c_X6_net l g _ (by exact hs) _ (by omega)) rfl ?_
      refine xe_top (v' := (q_sum (fun k => q_cr h (72 + 8 * k + m) - q_cr h (72 + 8 * m + k)) 8)) (q_cr_net h (by omega)) ?_
      refine xe_ireturn dX9_man_93 rfl (by first | rfl | decide +kernel) ?_
      exact ⟨rfl, q_kag_r h⟩
    · omega
  · refine q_CtV mvX9_man (Nat.le_of_ble_eq_true rfl) ?_
    refine xe_aload_n dX9_man_0 rfl ?_
    refine xe_iload_n dX9_man_1 rfl ?_
    refine xe_callVI (d' := 0) (y' := mX9_isMan) dX9_man_2 mlX9_134 mvX9_isMan rfl (st0 hs) (by decide) rfl (by decide) (by decide) (Nat.le_of_ble_eq_true rfl) (c_X9_isMan_t l g _ (by exact hs) (by exact hp) (by omega)) rfl ?_
    refine xn_if_ne (tgt := 10) dX9_man_5 rfl (by omega) (fun c1 => ?_) (fun c1 => ?_)
    · refine xe_iload_n dX9_man_10 rfl ?_
      refine xe_tsw_in (tgt := 85) dX9_man_11 (by decide) (by decide) rfl rfl ?_
      refine xe_aload_n dX9_man_85 rfl ?_
      refine xe_getP dX9_man_86 flX9_36 (st0 hs) (by decide) rfl (sp0_4 hs) ?_
      refine xe_iload_n dX9_man_89 rfl ?_
      refine xe_callVI (d' := 0) (y' := mX6_net) dX9_man_90 mlX9_147 mvX6_net rfl (st34 hs) (by decide) rfl (by decide) (by decide) (Nat.le_of_ble_eq_true rfl) (c_X6_net l g _ (by exact hs) _ (by omega)) rfl ?_
      refine xe_top (v' := (q_sum (fun k => q_cr h (72 + 8 * k + m) - q_cr h (72 + 8 * m + k)) 8)) (q_cr_net h (by omega)) ?_
      refine xe_ireturn dX9_man_93 rfl (by first | rfl | decide +kernel) ?_
      exact ⟨rfl, q_kag_r h⟩
    · omega
theorem q_kT_w (R : Nat → Int32) (mo w m : Nat) : q_kT R mo w m w = q_s8 R (136 + 8 * m) := if_neg (fun q => absurd q.2 (Nat.lt_irrefl _))
theorem q_kW_w (R C : Nat → Int32) (LW : q_LW) (nc mo w m : Nat) : q_kW R C LW nc mo w m (q_s8 R (8 * m)) w = q_wrm R C LW 0 nc w m := by
  unfold q_kW q_wrm
  rw [q_kT_w]
theorem c_X9_man_4 (l : Launch) (g : q_GP) (h : q_H) (hs : q_Stat h) {p nm nd nc mo n : Nat} (hp : rk_P h p nm nd nc mo n) {LW : q_LW} (hL : rk_L h p n LW) {w : Nat} (hw : q_I h 34 6 = nI w) (hw2 : w < 2 ^ 20) {m : Nat} (hm : m < nm) : q_Ct l g 5 mX9_man [.ref 0, .int (nI m), .int (nI 4)] h (fun r h1 => r = some (.int (if 0 < q_wrm (q_cr h) (q_I h (p + 5)) LW 0 nc w m then nI 1 else nI 0)) ∧ q_kag h h1) := by
  obtain ⟨P0, P1, P2, P2b, P3, P3b, P4, P4b, P5, P5b, P6, P6b⟩ := id hp
  rcases P1 with rfl | rfl
  · refine q_CtV mvX9_man (Nat.le_of_ble_eq_true rfl) ?_
    refine xe_aload_n dX9_man_0 rfl ?_
    refine xe_iload_n dX9_man_1 rfl ?_
    refine xe_callVI (d' := 0) (y' := mX9_isMan) dX9_man_2 mlX9_134 mvX9_isMan rfl (st0 hs) (by decide) rfl (by decide) (by decide) (Nat.le_of_ble_eq_true rfl) (c_X9_isMan_t l g _ (by exact hs) (by exact hp) (by omega)) rfl ?_
    refine xn_if_ne (tgt := 10) dX9_man_5 rfl (by omega) (fun c1 => ?_) (fun c1 => ?_)
    · refine xe_iload_n dX9_man_10 rfl ?_
      refine xe_tsw_in (tgt := 94) dX9_man_11 (by decide) (by decide) rfl rfl ?_
      refine xe_aload_n dX9_man_94 rfl ?_
      refine xe_iload_n dX9_man_95 rfl ?_
      refine xe_aload_n dX9_man_96 rfl ?_
      refine xe_getP dX9_man_97 flX9_36 (st0 hs) (by decide) rfl (sp0_4 hs) ?_
      refine xe_iload_n dX9_man_100 rfl ?_
      refine xe_callVI (d' := 0) (y' := mX6_inRow) dX9_man_101 mlX9_140 mvX6_inRow rfl (st34 hs) (by decide) rfl (by decide) (by decide) (Nat.le_of_ble_eq_true rfl) (c_X6_inRow l g _ (by exact hs) _ (by omega)) rfl ?_
      refine xe_top (v' := q_s8 (q_cr h) (8 * m)) (q_cr_in h (by omega)) ?_
      refine xe_aload_n dX9_man_104 rfl ?_
      refine xe_getP dX9_man_105 flX9_36 (st0 hs) (by decide) rfl (sp0_4 hs) ?_
      refine xe_getIv dX9_man_108 flX9_150 (st34 hs) (by decide) rfl (v := nI w) (hw) ?_
      refine xe_callVIq (d' := 2) (y' := mX9_isWarm) dX9_man_111 mlX9_153 mvX9_isWarm rfl (st0 hs) (by decide) rfl (by decide) (by decide) (Nat.le_of_ble_eq_true rfl) (c_X9_isWarm l g _ (by exact hs) (by exact hp) (by exact hL) (by exact hw) hw2 (by omega) (by omega) _) rfl (fun h2 hq2 => ?_)
      obtain ⟨V2, S2, rfl⟩ := hq2
      refine xe_if_eq (tgt := 121) dX9_man_114 rfl (fun c3 => ?_) (fun c3 => ?_)
      · refine xe_iconst dX9_man_121 kc_0 ?_
        refine xe_ireturn dX9_man_122 rfl (by first | rfl | decide +kernel) ?_
        rw [← q_kW_w (q_cr h) (q_I h _) LW nc mo w m]
        exact ⟨congrArg (fun v => some (Value.int v)) (if_neg (q_if0 (by exact c3))).symm, (q_kag_o (by repeat (first | exact q_out_r | refine q_out_w rfl ?_)))⟩
      · refine xe_iconst dX9_man_117 kc_1 ?_
        refine xe_goto (tgt := 122) dX9_man_118 rfl ?_
        refine xe_ireturn dX9_man_122 rfl (by first | rfl | decide +kernel) ?_
        rw [← q_kW_w (q_cr h) (q_I h _) LW nc mo w m]
        exact ⟨congrArg (fun v => some (Value.int v)) (if_pos (q_if1 (by exact c3))).symm, (q_kag_o (by repeat (first | exact q_out_r | refine q_out_w rfl ?_)))⟩
    · omega
  · refine q_CtV mvX9_man (Nat.le_of_ble_eq_true rfl) ?_
    refine xe_aload_n dX9_man_0 rfl ?_
    refine xe_iload_n dX9_man_1 rfl ?_
    refine xe_callVI (d' := 0) (y' := mX9_isMan) dX9_man_2 mlX9_134 mvX9_isMan rfl (st0 hs) (by decide) rfl (by decide) (by decide) (Nat.le_of_ble_eq_true rfl) (c_X9_isMan_t l g _ (by exact hs) (by exact hp) (by omega)) rfl ?_
    refine xn_if_ne (tgt := 10) dX9_man_5 rfl (by omega) (fun c1 => ?_) (fun c1 => ?_)
    · refine xe_iload_n dX9_man_10 rfl ?_
      refine xe_tsw_in (tgt := 94) dX9_man_11 (by decide) (by decide) rfl rfl ?_
      refine xe_aload_n dX9_man_94 rfl ?_
      refine xe_iload_n dX9_man_95 rfl ?_
      refine xe_aload_n dX9_man_96 rfl ?_
      refine xe_getP dX9_man_97 flX9_36 (st0 hs) (by decide) rfl (sp0_4 hs) ?_
      refine xe_iload_n dX9_man_100 rfl ?_
      refine xe_callVI (d' := 0) (y' := mX6_inRow) dX9_man_101 mlX9_140 mvX6_inRow rfl (st34 hs) (by decide) rfl (by decide) (by decide) (Nat.le_of_ble_eq_true rfl) (c_X6_inRow l g _ (by exact hs) _ (by omega)) rfl ?_
      refine xe_top (v' := q_s8 (q_cr h) (8 * m)) (q_cr_in h (by omega)) ?_
      refine xe_aload_n dX9_man_104 rfl ?_
      refine xe_getP dX9_man_105 flX9_36 (st0 hs) (by decide) rfl (sp0_4 hs) ?_
      refine xe_getIv dX9_man_108 flX9_150 (st34 hs) (by decide) rfl (v := nI w) (hw) ?_
      refine xe_callVIq (d' := 2) (y' := mX9_isWarm) dX9_man_111 mlX9_153 mvX9_isWarm rfl (st0 hs) (by decide) rfl (by decide) (by decide) (Nat.le_of_ble_eq_true rfl) (c_X9_isWarm l g _ (by exact hs) (by exact hp) (by exact hL) (by exact hw) hw2 (by omega) (by omega) _) rfl (fun h2 hq2 => ?_)
      obtain ⟨V2, S2, rfl⟩ := hq2
      refine xe_if_eq (tgt := 121) dX9_man_114 rfl (fun c3 => ?_) (fun c3 => ?_)
      · refine xe_iconst dX9_man_121 kc_0 ?_
        refine xe_ireturn dX9_man_122 rfl (by first | rfl | decide +kernel) ?_
        rw [← q_kW_w (q_cr h) (q_I h _) LW nc mo w m]
        exact ⟨congrArg (fun v => some (Value.int v)) (if_neg (q_if0 (by exact c3))).symm, (q_kag_o (by repeat (first | exact q_out_r | refine q_out_w rfl ?_)))⟩
      · refine xe_iconst dX9_man_117 kc_1 ?_
        refine xe_goto (tgt := 122) dX9_man_118 rfl ?_
        refine xe_ireturn dX9_man_122 rfl (by first | rfl | decide +kernel) ?_
        rw [← q_kW_w (q_cr h) (q_I h _) LW nc mo w m]
        exact ⟨congrArg (fun v => some (Value.int v)) (if_pos (q_if1 (by exact c3))).symm, (q_kag_o (by repeat (first | exact q_out_r | refine q_out_w rfl ?_)))⟩
    · omega
theorem c_X9_man_5 (l : Launch) (g : q_GP) (h : q_H) (hs : q_Stat h) {p nm nd nc mo n : Nat} (hp : rk_P h p nm nd nc mo n) {LW : q_LW} (hL : rk_L h p n LW) {w : Nat} (hw : q_I h 34 6 = nI w) (hw2 : w < 2 ^ 20) {m : Nat} (hm : m < nm) : q_Ct l g 5 mX9_man [.ref 0, .int (nI m), .int (nI 5)] h (fun r h1 => r = some (.int (nI ((q_vb (q_vv (q_cr h) (q_I h (p + 5)) (fun k => q_s8 (q_cr h) (8 * k)) LW 0 nc w m) nm).1))) ∧ q_kag h h1) := by
  obtain ⟨P0, P1, P2, P2b, P3, P3b, P4, P4b, P5, P5b, P6, P6b⟩ := id hp
  rcases P1 with rfl | rfl
  · refine q_CtV mvX9_man (Nat.le_of_ble_eq_true rfl) ?_
    refine xe_aload_n dX9_man_0 rfl ?_
    refine xe_iload_n dX9_man_1 rfl ?_
    refine xe_callVI (d' := 0) (y' := mX9_isMan) dX9_man_2 mlX9_134 mvX9_isMan rfl (st0 hs) (by decide) rfl (by decide) (by decide) (Nat.le_of_ble_eq_true rfl) (c_X9_isMan_t l g _ (by exact hs) (by exact hp) (by omega)) rfl ?_
    refine xn_if_ne (tgt := 10) dX9_man_5 rfl (by omega) (fun c1 => ?_) (fun c1 => ?_)
    · refine xe_iload_n dX9_man_10 rfl ?_
      refine xe_tsw_in (tgt := 123) dX9_man_11 (by decide) (by decide) rfl rfl ?_
      refine xe_aload_n dX9_man_123 rfl ?_
      refine xe_iload_n dX9_man_124 rfl ?_
      refine xe_callVIq (d' := 4) (y' := mX9_choiceOf) dX9_man_125 mlX9_157 mvX9_choiceOf rfl (st0 hs) (by decide) rfl (by decide) (by decide) (Nat.le_of_ble_eq_true rfl) (c_X9_choiceOf l g _ (by exact hs) (by exact hp) (by exact hL) (by exact hw) hw2 (by omega)) rfl (fun h1 hX => ?_)
      refine xe_ireturn dX9_man_128 rfl (by first | rfl | decide +kernel) ?_
      exact ⟨rfl, hX⟩
    · omega
  · refine q_CtV mvX9_man (Nat.le_of_ble_eq_true rfl) ?_
    refine xe_aload_n dX9_man_0 rfl ?_
    refine xe_iload_n dX9_man_1 rfl ?_
    refine xe_callVI (d' := 0) (y' := mX9_isMan) dX9_man_2 mlX9_134 mvX9_isMan rfl (st0 hs) (by decide) rfl (by decide) (by decide) (Nat.le_of_ble_eq_true rfl) (c_X9_isMan_t l g _ (by exact hs) (by exact hp) (by omega)) rfl ?_
    refine xn_if_ne (tgt := 10) dX9_man_5 rfl (by omega) (fun c1 => ?_) (fun c1 => ?_)
    · refine xe_iload_n dX9_man_10 rfl ?_
      refine xe_tsw_in (tgt := 123) dX9_man_11 (by decide) (by decide) rfl rfl ?_
      refine xe_aload_n dX9_man_123 rfl ?_
      refine xe_iload_n dX9_man_124 rfl ?_
      refine xe_callVIq (d' := 4) (y' := mX9_choiceOf) dX9_man_125 mlX9_157 mvX9_choiceOf rfl (st0 hs) (by decide) rfl (by decide) (by decide) (Nat.le_of_ble_eq_true rfl) (c_X9_choiceOf l g _ (by exact hs) (by exact hp) (by exact hL) (by exact hw) hw2 (by omega)) rfl (fun h1 hX => ?_)
      refine xe_ireturn dX9_man_128 rfl (by first | rfl | decide +kernel) ?_
      exact ⟨rfl, hX⟩
    · omega
theorem q_els_c (h : q_H) {m : Nat} (hm : m < 8) : q_sum (fun k => q_I h 35 (k * 8 + m)) 9 - q_cr h (9 * m) = q_els (q_cr h) m := by
  have e : q_sum (fun k => q_I h 35 (k * 8 + m)) 9 = q_sum (fun k => q_cr h (8 * k + m)) 9 := q_sum_co (fun k hk => q_cr_f h hk hm)
  have key : ∀ n, q_sum (fun k => q_cr h (8 * k + m)) n = q_sum (fun k => if k = m then 0 else q_cr h (8 * k + m)) n + (if m < n then q_cr h (9 * m) else 0) := by
    intro n
    induction n with
    | zero => rfl
    | succ n ih =>
      have e1 : q_sum (fun k => q_cr h (8 * k + m)) (n + 1) = q_sum (fun k => q_cr h (8 * k + m)) n + q_cr h (8 * n + m) := rfl
      have e2 : q_sum (fun k => if k = m then 0 else q_cr h (8 * k + m)) (n + 1) = q_sum (fun k => if k = m then 0 else q_cr h (8 * k + m)) n + (if n = m then 0 else q_cr h (8 * n + m)) := rfl
      rw [e1, e2, ih]
      by_cases h1 : n = m
      · have h3 : 8 * n + m = 9 * m := by omega
        rw [if_neg (show ¬ m < n by omega), if_pos (show m < n + 1 by omega), if_pos h1, h3, Int32.add_zero]
      · rw [if_neg h1]
        by_cases h2 : m < n
        · rw [if_pos h2, if_pos (show m < n + 1 by omega), Int32.add_assoc, Int32.add_assoc, Int32.add_comm (q_cr h (9 * m))]
        · rw [if_neg h2, if_neg (show ¬ m < n + 1 by omega), Int32.add_zero, Int32.add_zero]
  rw [e, key, if_pos (by omega)]
  unfold q_els
  rw [Int32.sub_eq_add_neg, Int32.add_assoc, Int32.add_right_neg, Int32.add_zero]
theorem c_X9_man_6 (l : Launch) (g : q_GP) (h : q_H) (hs : q_Stat h) {p nm nd nc mo n : Nat} (hp : rk_P h p nm nd nc mo n) {LW : q_LW} (hL : rk_L h p n LW) {w : Nat} (hw : q_I h 34 6 = nI w) (hw2 : w < 2 ^ 20) {m : Nat} (hm : m < nm) : q_Ct l g 5 mX9_man [.ref 0, .int (nI m), .int (nI 6)] h (fun r h1 => r = some (.int (q_els (q_cr h) m)) ∧ q_kag h h1) := by
  obtain ⟨P0, P1, P2, P2b, P3, P3b, P4, P4b, P5, P5b, P6, P6b⟩ := id hp
  rcases P1 with rfl | rfl
  · refine q_CtV mvX9_man (Nat.le_of_ble_eq_true rfl) ?_
    refine xe_aload_n dX9_man_0 rfl ?_
    refine xe_iload_n dX9_man_1 rfl ?_
    refine xe_callVI (d' := 0) (y' := mX9_isMan) dX9_man_2 mlX9_134 mvX9_isMan rfl (st0 hs) (by decide) rfl (by decide) (by decide) (Nat.le_of_ble_eq_true rfl) (c_X9_isMan_t l g _ (by exact hs) (by exact hp) (by omega)) rfl ?_
    refine xn_if_ne (tgt := 10) dX9_man_5 rfl (by omega) (fun c1 => ?_) (fun c1 => ?_)
    · refine xe_iload_n dX9_man_10 rfl ?_
      refine xe_tsw_in (tgt := 129) dX9_man_11 (by decide) (by decide) rfl rfl ?_
      refine xe_aload_n dX9_man_129 rfl ?_
      refine xe_getP dX9_man_130 flX9_36 (st0 hs) (by decide) rfl (sp0_4 hs) ?_
      refine xe_iload_n dX9_man_133 rfl ?_
      refine xe_callVI (d' := 0) (y' := mX6_grownOn) dX9_man_134 mlX9_160 mvX6_grownOn rfl (st34 hs) (by decide) rfl (by decide) (by decide) (Nat.le_of_ble_eq_true rfl) (c_X6_grownOn l g _ (by exact hs) _ (by omega)) rfl ?_
      refine xe_aload_n dX9_man_137 rfl ?_
      refine xe_getP dX9_man_138 flX9_36 (st0 hs) (by decide) rfl (sp0_4 hs) ?_
      refine xe_getP dX9_man_141 flX9_120 (st34 hs) (by decide) rfl (sp34_0 hs) ?_
      refine xe_iload_n dX9_man_144 rfl ?_
      refine xe_bipush dX9_man_145 kb_8 ?_
      refine xn_imul dX9_man_147 ?_
      refine xe_iload_n dX9_man_148 rfl ?_
      refine xn_iadd dX9_man_149 ?_
      refine xn_ialdv dX9_man_150 (st35 hs) (by omega) (by decide) (v := (q_cr h (9 * m))) (q_cr_9 h (by omega)) ?_
      refine xe_isub dX9_man_151 ?_
      refine xe_ireturn dX9_man_152 rfl (by first | rfl | decide +kernel) ?_
      exact ⟨congrArg (fun v => some (Value.int v)) (q_els_c h (by omega)), q_kag_r h⟩
    · omega
  · refine q_CtV mvX9_man (Nat.le_of_ble_eq_true rfl) ?_
    refine xe_aload_n dX9_man_0 rfl ?_
    refine xe_iload_n dX9_man_1 rfl ?_
    refine xe_callVI (d' := 0) (y' := mX9_isMan) dX9_man_2 mlX9_134 mvX9_isMan rfl (st0 hs) (by decide) rfl (by decide) (by decide) (Nat.le_of_ble_eq_true rfl) (c_X9_isMan_t l g _ (by exact hs) (by exact hp) (by omega)) rfl ?_
    refine xn_if_ne (tgt := 10) dX9_man_5 rfl (by omega) (fun c1 => ?_) (fun c1 => ?_)
    · refine xe_iload_n dX9_man_10 rfl ?_
      refine xe_tsw_in (tgt := 129) dX9_man_11 (by decide) (by decide) rfl rfl ?_
      refine xe_aload_n dX9_man_129 rfl ?_
      refine xe_getP dX9_man_130 flX9_36 (st0 hs) (by decide) rfl (sp0_4 hs) ?_
      refine xe_iload_n dX9_man_133 rfl ?_
      refine xe_callVI (d' := 0) (y' := mX6_grownOn) dX9_man_134 mlX9_160 mvX6_grownOn rfl (st34 hs) (by decide) rfl (by decide) (by decide) (Nat.le_of_ble_eq_true rfl) (c_X6_grownOn l g _ (by exact hs) _ (by omega)) rfl ?_
      refine xe_aload_n dX9_man_137 rfl ?_
      refine xe_getP dX9_man_138 flX9_36 (st0 hs) (by decide) rfl (sp0_4 hs) ?_
      refine xe_getP dX9_man_141 flX9_120 (st34 hs) (by decide) rfl (sp34_0 hs) ?_
      refine xe_iload_n dX9_man_144 rfl ?_
      refine xe_bipush dX9_man_145 kb_8 ?_
      refine xn_imul dX9_man_147 ?_
      refine xe_iload_n dX9_man_148 rfl ?_
      refine xn_iadd dX9_man_149 ?_
      refine xn_ialdv dX9_man_150 (st35 hs) (by omega) (by decide) (v := (q_cr h (9 * m))) (q_cr_9 h (by omega)) ?_
      refine xe_isub dX9_man_151 ?_
      refine xe_ireturn dX9_man_152 rfl (by first | rfl | decide +kernel) ?_
      exact ⟨congrArg (fun v => some (Value.int v)) (q_els_c h (by omega)), q_kag_r h⟩
    · omega
theorem c_X9_man_b (l : Launch) (g : q_GP) (h : q_H) (hs : q_Stat h) {p nm nd nc mo n : Nat} (hp : rk_P h p nm nd nc mo n) {LW : q_LW} (hL : rk_L h p n LW) {w : Nat} (hw : q_I h 34 6 = nI w) (hw2 : w < 2 ^ 20) {m : Nat} (hm : m < nm) (x : Int32) (hx : x.toInt < 0 ∨ 6 < x.toInt) : q_Ct l g 5 mX9_man [.ref 0, .int (nI m), .int x] h (fun r h1 => r = some (.int (-1)) ∧ q_kag h h1) := by
  obtain ⟨P0, P1, P2, P2b, P3, P3b, P4, P4b, P5, P5b, P6, P6b⟩ := id hp
  rcases P1 with rfl | rfl
  · refine q_CtV mvX9_man (Nat.le_of_ble_eq_true rfl) ?_
    refine xe_aload_n dX9_man_0 rfl ?_
    refine xe_iload_n dX9_man_1 rfl ?_
    refine xe_callVI (d' := 0) (y' := mX9_isMan) dX9_man_2 mlX9_134 mvX9_isMan rfl (st0 hs) (by decide) rfl (by decide) (by decide) (Nat.le_of_ble_eq_true rfl) (c_X9_isMan_t l g _ (by exact hs) (by exact hp) (by omega)) rfl ?_
    refine xn_if_ne (tgt := 10) dX9_man_5 rfl (by omega) (fun c1 => ?_) (fun c1 => ?_)
    · refine xe_iload_n dX9_man_10 rfl ?_
      refine xe_tsw_out (tgt := 153) dX9_man_11 (hx) rfl ?_
      refine xe_iconst dX9_man_153 kc_m1 ?_
      refine xe_ireturn dX9_man_154 rfl (by first | rfl | decide +kernel) ?_
      exact ⟨rfl, q_kag_r h⟩
    · omega
  · refine q_CtV mvX9_man (Nat.le_of_ble_eq_true rfl) ?_
    refine xe_aload_n dX9_man_0 rfl ?_
    refine xe_iload_n dX9_man_1 rfl ?_
    refine xe_callVI (d' := 0) (y' := mX9_isMan) dX9_man_2 mlX9_134 mvX9_isMan rfl (st0 hs) (by decide) rfl (by decide) (by decide) (Nat.le_of_ble_eq_true rfl) (c_X9_isMan_t l g _ (by exact hs) (by exact hp) (by omega)) rfl ?_
    refine xn_if_ne (tgt := 10) dX9_man_5 rfl (by omega) (fun c1 => ?_) (fun c1 => ?_)
    · refine xe_iload_n dX9_man_10 rfl ?_
      refine xe_tsw_out (tgt := 153) dX9_man_11 (hx) rfl ?_
      refine xe_iconst dX9_man_153 kc_m1 ?_
      refine xe_ireturn dX9_man_154 rfl (by first | rfl | decide +kernel) ?_
      exact ⟨rfl, q_kag_r h⟩
    · omega
theorem c_X9_man_f (l : Launch) (g : q_GP) (h : q_H) (hs : q_Stat h) {p nm nd nc mo n : Nat} (hp : rk_P h p nm nd nc mo n) {x : Int32} (z : Int32) (hx : ¬ q_isN x nm) : q_Cd l g 5 mX9_man [.ref 0, .int x, .int z] h (some (.int (-1))) h := by
  obtain ⟨P0, P1, P2, P2b, P3, P3b, P4, P4b, P5, P5b, P6, P6b⟩ := id hp
  rcases P1 with rfl | rfl
  · refine q_CdV mvX9_man (Nat.le_of_ble_eq_true rfl) ?_
    refine xe_aload_n dX9_man_0 rfl ?_
    refine xe_iload_n dX9_man_1 rfl ?_
    refine xe_callVI (d' := 0) (y' := mX9_isMan) dX9_man_2 mlX9_134 mvX9_isMan rfl (st0 hs) (by decide) rfl (by decide) (by decide) (Nat.le_of_ble_eq_true rfl) (c_X9_isMan_f l g _ (by exact hs) (by exact hp) (hx)) rfl ?_
    refine xn_if_ne (tgt := 10) dX9_man_5 rfl (by omega) (fun c1 => ?_) (fun c1 => ?_)
    · omega
    · refine xe_iconst dX9_man_8 kc_m1 ?_
      refine xe_ireturn dX9_man_9 rfl (by first | rfl | decide +kernel) ?_
      exact ⟨rfl, rfl⟩
  · refine q_CdV mvX9_man (Nat.le_of_ble_eq_true rfl) ?_
    refine xe_aload_n dX9_man_0 rfl ?_
    refine xe_iload_n dX9_man_1 rfl ?_
    refine xe_callVI (d' := 0) (y' := mX9_isMan) dX9_man_2 mlX9_134 mvX9_isMan rfl (st0 hs) (by decide) rfl (by decide) (by decide) (Nat.le_of_ble_eq_true rfl) (c_X9_isMan_f l g _ (by exact hs) (by exact hp) (hx)) rfl ?_
    refine xn_if_ne (tgt := 10) dX9_man_5 rfl (by omega) (fun c1 => ?_) (fun c1 => ?_)
    · omega
    · refine xe_iconst dX9_man_8 kc_m1 ?_
      refine xe_ireturn dX9_man_9 rfl (by first | rfl | decide +kernel) ?_
      exact ⟨rfl, rfl⟩
theorem c_X9_led_t (l : Launch) (g : q_GP) (h : q_H) (hs : q_Stat h) {p nm nd nc mo n : Nat} (hp : rk_P h p nm nd nc mo n) {a b : Nat} (ha : a < nm) (hb : b < nm) : q_Cd l g 1 mX9_led [.ref 0, .int (nI a), .int (nI b)] h (some (.int (q_cr h (8 * a + b)))) h := by
  obtain ⟨P0, P1, P2, P2b, P3, P3b, P4, P4b, P5, P5b, P6, P6b⟩ := id hp
  rcases P1 with rfl | rfl
  · refine q_CdV mvX9_led (Nat.le_of_ble_eq_true rfl) ?_
    refine xe_aload_n dX9_led_0 rfl ?_
    refine xe_iload_n dX9_led_1 rfl ?_
    refine xe_callVI (d' := 0) (y' := mX9_isMan) dX9_led_2 mlX9_134 mvX9_isMan rfl (st0 hs) (by decide) rfl (by decide) (by decide) (Nat.le_of_ble_eq_true rfl) (c_X9_isMan_t l g _ (by exact hs) (by exact hp) (by omega)) rfl ?_
    refine xn_if_eq (tgt := 21) dX9_led_5 rfl (by omega) (fun c1 => ?_) (fun c1 => ?_)
    · omega
    · refine xe_iload_n dX9_led_8 rfl ?_
      refine xe_iconst dX9_led_9 kc_m1 ?_
      refine xe_icmp_eq (tgt := 23) dX9_led_10 rfl (fun c2 => ?_) (fun c2 => ?_)
      · exact absurd c2 (q_nIm1 (by omega))
      · refine xe_aload_n dX9_led_13 rfl ?_
        refine xe_iload_n dX9_led_14 rfl ?_
        refine xe_callVI (d' := 0) (y' := mX9_isMan) dX9_led_15 mlX9_134 mvX9_isMan rfl (st0 hs) (by decide) rfl (by decide) (by decide) (Nat.le_of_ble_eq_true rfl) (c_X9_isMan_t l g _ (by exact hs) (by exact hp) (by omega)) rfl ?_
        refine xn_if_ne (tgt := 23) dX9_led_18 rfl (by omega) (fun c3 => ?_) (fun c3 => ?_)
        · refine xe_iload_n dX9_led_23 rfl ?_
          refine xe_iconst dX9_led_24 kc_m1 ?_
          refine xe_icmp_ne (tgt := 33) dX9_led_25 rfl (fun c4 => ?_) (fun c4 => ?_)
          · refine xe_iload_n dX9_led_33 rfl ?_
            refine xe_istore_n (i := 3) dX9_led_34 rfl (by decide) rfl ?_
            refine xe_aload_n dX9_led_35 rfl ?_
            refine xe_getP dX9_led_36 flX9_36 (st0 hs) (by decide) rfl (sp0_4 hs) ?_
            refine xe_getP dX9_led_39 flX9_120 (st34 hs) (by decide) rfl (sp34_0 hs) ?_
            refine xe_iload_n dX9_led_42 rfl ?_
            refine xe_bipush dX9_led_43 kb_8 ?_
            refine xn_imul dX9_led_45 ?_
            refine xe_iload_n dX9_led_46 rfl ?_
            refine xn_iadd dX9_led_47 ?_
            refine xn_ialdv dX9_led_48 (st35 hs) (by omega) (by decide) (v := (q_cr h (8 * a + b))) (q_cr_f h (by omega) (by omega)) ?_
            refine xe_ireturn dX9_led_49 rfl (by first | rfl | decide +kernel) ?_
            exact ⟨rfl, rfl⟩
          · exact absurd c4 (q_nIm1 (by omega))
        · omega
  · refine q_CdV mvX9_led (Nat.le_of_ble_eq_true rfl) ?_
    refine xe_aload_n dX9_led_0 rfl ?_
    refine xe_iload_n dX9_led_1 rfl ?_
    refine xe_callVI (d' := 0) (y' := mX9_isMan) dX9_led_2 mlX9_134 mvX9_isMan rfl (st0 hs) (by decide) rfl (by decide) (by decide) (Nat.le_of_ble_eq_true rfl) (c_X9_isMan_t l g _ (by exact hs) (by exact hp) (by omega)) rfl ?_
    refine xn_if_eq (tgt := 21) dX9_led_5 rfl (by omega) (fun c1 => ?_) (fun c1 => ?_)
    · omega
    · refine xe_iload_n dX9_led_8 rfl ?_
      refine xe_iconst dX9_led_9 kc_m1 ?_
      refine xe_icmp_eq (tgt := 23) dX9_led_10 rfl (fun c2 => ?_) (fun c2 => ?_)
      · exact absurd c2 (q_nIm1 (by omega))
      · refine xe_aload_n dX9_led_13 rfl ?_
        refine xe_iload_n dX9_led_14 rfl ?_
        refine xe_callVI (d' := 0) (y' := mX9_isMan) dX9_led_15 mlX9_134 mvX9_isMan rfl (st0 hs) (by decide) rfl (by decide) (by decide) (Nat.le_of_ble_eq_true rfl) (c_X9_isMan_t l g _ (by exact hs) (by exact hp) (by omega)) rfl ?_
        refine xn_if_ne (tgt := 23) dX9_led_18 rfl (by omega) (fun c3 => ?_) (fun c3 => ?_)
        · refine xe_iload_n dX9_led_23 rfl ?_
          refine xe_iconst dX9_led_24 kc_m1 ?_
          refine xe_icmp_ne (tgt := 33) dX9_led_25 rfl (fun c4 => ?_) (fun c4 => ?_)
          · refine xe_iload_n dX9_led_33 rfl ?_
            refine xe_istore_n (i := 3) dX9_led_34 rfl (by decide) rfl ?_
            refine xe_aload_n dX9_led_35 rfl ?_
            refine xe_getP dX9_led_36 flX9_36 (st0 hs) (by decide) rfl (sp0_4 hs) ?_
            refine xe_getP dX9_led_39 flX9_120 (st34 hs) (by decide) rfl (sp34_0 hs) ?_
            refine xe_iload_n dX9_led_42 rfl ?_
            refine xe_bipush dX9_led_43 kb_8 ?_
            refine xn_imul dX9_led_45 ?_
            refine xe_iload_n dX9_led_46 rfl ?_
            refine xn_iadd dX9_led_47 ?_
            refine xn_ialdv dX9_led_48 (st35 hs) (by omega) (by decide) (v := (q_cr h (8 * a + b))) (q_cr_f h (by omega) (by omega)) ?_
            refine xe_ireturn dX9_led_49 rfl (by first | rfl | decide +kernel) ?_
            exact ⟨rfl, rfl⟩
          · exact absurd c4 (q_nIm1 (by omega))
        · omega
theorem c_X9_led_c (l : Launch) (g : q_GP) (h : q_H) (hs : q_Stat h) {p nm nd nc mo n : Nat} (hp : rk_P h p nm nd nc mo n) {b : Nat} (hb : b < nm) : q_Cd l g 1 mX9_led [.ref 0, .int (-1), .int (nI b)] h (some (.int (q_cr h (64 + b)))) h := by
  obtain ⟨P0, P1, P2, P2b, P3, P3b, P4, P4b, P5, P5b, P6, P6b⟩ := id hp
  rcases P1 with rfl | rfl
  · refine q_CdV mvX9_led (Nat.le_of_ble_eq_true rfl) ?_
    refine xe_aload_n dX9_led_0 rfl ?_
    refine xe_iload_n dX9_led_1 rfl ?_
    refine xe_callVI (d' := 0) (y' := mX9_isMan) dX9_led_2 mlX9_134 mvX9_isMan rfl (st0 hs) (by decide) rfl (by decide) (by decide) (Nat.le_of_ble_eq_true rfl) (c_X9_isMan_t l g _ (by exact hs) (by exact hp) (by omega)) rfl ?_
    refine xn_if_eq (tgt := 21) dX9_led_5 rfl (by omega) (fun c1 => ?_) (fun c1 => ?_)
    · omega
    · refine xe_iload_n dX9_led_8 rfl ?_
      refine xe_iconst dX9_led_9 kc_m1 ?_
      refine xe_icmp_eq (tgt := 23) dX9_led_10 rfl (fun c2 => ?_) (fun c2 => ?_)
      · refine xe_iload_n dX9_led_23 rfl ?_
        refine xe_iconst dX9_led_24 kc_m1 ?_
        refine xe_icmp_ne (tgt := 33) dX9_led_25 rfl (fun c3 => ?_) (fun c3 => ?_)
        · exact absurd rfl c3
        · refine xe_bipush dX9_led_28 kb_8 ?_
          refine xe_goto (tgt := 34) dX9_led_30 rfl ?_
          refine xe_istore_n (i := 3) dX9_led_34 rfl (by decide) rfl ?_
          refine xe_aload_n dX9_led_35 rfl ?_
          refine xe_getP dX9_led_36 flX9_36 (st0 hs) (by decide) rfl (sp0_4 hs) ?_
          refine xe_getP dX9_led_39 flX9_120 (st34 hs) (by decide) rfl (sp34_0 hs) ?_
          refine xe_iload_n dX9_led_42 rfl ?_
          refine xe_bipush dX9_led_43 kb_8 ?_
          refine xn_imul dX9_led_45 ?_
          refine xe_iload_n dX9_led_46 rfl ?_
          refine xn_iadd dX9_led_47 ?_
          refine xn_ialdv dX9_led_48 (st35 hs) (by omega) (by decide) (v := (q_cr h (64 + b))) (q_cr_f h (a := 8) (by omega) (by omega)) ?_
          refine xe_ireturn dX9_led_49 rfl (by first | rfl | decide +kernel) ?_
          exact ⟨rfl, rfl⟩
      · exact absurd rfl c2
  · refine q_CdV mvX9_led (Nat.le_of_ble_eq_true rfl) ?_
    refine xe_aload_n dX9_led_0 rfl ?_
    refine xe_iload_n dX9_led_1 rfl ?_
    refine xe_callVI (d' := 0) (y' := mX9_isMan) dX9_led_2 mlX9_134 mvX9_isMan rfl (st0 hs) (by decide) rfl (by decide) (by decide) (Nat.le_of_ble_eq_true rfl) (c_X9_isMan_t l g _ (by exact hs) (by exact hp) (by omega)) rfl ?_
    refine xn_if_eq (tgt := 21) dX9_led_5 rfl (by omega) (fun c1 => ?_) (fun c1 => ?_)
    · omega
    · refine xe_iload_n dX9_led_8 rfl ?_
      refine xe_iconst dX9_led_9 kc_m1 ?_
      refine xe_icmp_eq (tgt := 23) dX9_led_10 rfl (fun c2 => ?_) (fun c2 => ?_)
      · refine xe_iload_n dX9_led_23 rfl ?_
        refine xe_iconst dX9_led_24 kc_m1 ?_
        refine xe_icmp_ne (tgt := 33) dX9_led_25 rfl (fun c3 => ?_) (fun c3 => ?_)
        · exact absurd rfl c3
        · refine xe_bipush dX9_led_28 kb_8 ?_
          refine xe_goto (tgt := 34) dX9_led_30 rfl ?_
          refine xe_istore_n (i := 3) dX9_led_34 rfl (by decide) rfl ?_
          refine xe_aload_n dX9_led_35 rfl ?_
          refine xe_getP dX9_led_36 flX9_36 (st0 hs) (by decide) rfl (sp0_4 hs) ?_
          refine xe_getP dX9_led_39 flX9_120 (st34 hs) (by decide) rfl (sp34_0 hs) ?_
          refine xe_iload_n dX9_led_42 rfl ?_
          refine xe_bipush dX9_led_43 kb_8 ?_
          refine xn_imul dX9_led_45 ?_
          refine xe_iload_n dX9_led_46 rfl ?_
          refine xn_iadd dX9_led_47 ?_
          refine xn_ialdv dX9_led_48 (st35 hs) (by omega) (by decide) (v := (q_cr h (64 + b))) (q_cr_f h (a := 8) (by omega) (by omega)) ?_
          refine xe_ireturn dX9_led_49 rfl (by first | rfl | decide +kernel) ?_
          exact ⟨rfl, rfl⟩
      · exact absurd rfl c2
theorem c_X9_led_f (l : Launch) (g : q_GP) (h : q_H) (hs : q_Stat h) {p nm nd nc mo n : Nat} (hp : rk_P h p nm nd nc mo n) (x z : Int32) (hxz : ¬ (q_isN z nm ∧ (x = -1 ∨ q_isN x nm))) : q_Cd l g 1 mX9_led [.ref 0, .int x, .int z] h (some (.int (-1))) h := by
  obtain ⟨P0, P1, P2, P2b, P3, P3b, P4, P4b, P5, P5b, P6, P6b⟩ := id hp
  rcases P1 with rfl | rfl
  · by_cases h1 : q_isN z nm
    · obtain ⟨b, hb, rfl⟩ := q_isN_of (by omega) h1
      have h2 : ¬ x = -1 := fun q => hxz ⟨h1, Or.inl q⟩
      have h3 : ¬ q_isN x nm := fun q => hxz ⟨h1, Or.inr q⟩
      refine q_CdV mvX9_led (Nat.le_of_ble_eq_true rfl) ?_
      refine xe_aload_n dX9_led_0 rfl ?_
      refine xe_iload_n dX9_led_1 rfl ?_
      refine xe_callVI (d' := 0) (y' := mX9_isMan) dX9_led_2 mlX9_134 mvX9_isMan rfl (st0 hs) (by decide) rfl (by decide) (by decide) (Nat.le_of_ble_eq_true rfl) (c_X9_isMan_t l g _ (by exact hs) (by exact hp) (by omega)) rfl ?_
      refine xn_if_eq (tgt := 21) dX9_led_5 rfl (by omega) (fun c1 => ?_) (fun c1 => ?_)
      · omega
      · refine xe_iload_n dX9_led_8 rfl ?_
        refine xe_iconst dX9_led_9 kc_m1 ?_
        refine xe_icmp_eq (tgt := 23) dX9_led_10 rfl (fun c2 => ?_) (fun c2 => ?_)
        · exact absurd c2 h2
        · refine xe_aload_n dX9_led_13 rfl ?_
          refine xe_iload_n dX9_led_14 rfl ?_
          refine xe_callVI (d' := 0) (y' := mX9_isMan) dX9_led_15 mlX9_134 mvX9_isMan rfl (st0 hs) (by decide) rfl (by decide) (by decide) (Nat.le_of_ble_eq_true rfl) (c_X9_isMan_f l g _ (by exact hs) (by exact hp) (h3)) rfl ?_
          refine xn_if_ne (tgt := 23) dX9_led_18 rfl (by omega) (fun c3 => ?_) (fun c3 => ?_)
          · omega
          · refine xe_iconst dX9_led_21 kc_m1 ?_
            refine xe_ireturn dX9_led_22 rfl (by first | rfl | decide +kernel) ?_
            exact ⟨rfl, rfl⟩
    · refine q_CdV mvX9_led (Nat.le_of_ble_eq_true rfl) ?_
      refine xe_aload_n dX9_led_0 rfl ?_
      refine xe_iload_n dX9_led_1 rfl ?_
      refine xe_callVI (d' := 0) (y' := mX9_isMan) dX9_led_2 mlX9_134 mvX9_isMan rfl (st0 hs) (by decide) rfl (by decide) (by decide) (Nat.le_of_ble_eq_true rfl) (c_X9_isMan_f l g _ (by exact hs) (by exact hp) (h1)) rfl ?_
      refine xn_if_eq (tgt := 21) dX9_led_5 rfl (by omega) (fun c1 => ?_) (fun c1 => ?_)
      · refine xe_iconst dX9_led_21 kc_m1 ?_
        refine xe_ireturn dX9_led_22 rfl (by first | rfl | decide +kernel) ?_
        exact ⟨rfl, rfl⟩
      · omega
  · by_cases h1 : q_isN z nm
    · obtain ⟨b, hb, rfl⟩ := q_isN_of (by omega) h1
      have h2 : ¬ x = -1 := fun q => hxz ⟨h1, Or.inl q⟩
      have h3 : ¬ q_isN x nm := fun q => hxz ⟨h1, Or.inr q⟩
      refine q_CdV mvX9_led (Nat.le_of_ble_eq_true rfl) ?_
      refine xe_aload_n dX9_led_0 rfl ?_
      refine xe_iload_n dX9_led_1 rfl ?_
      refine xe_callVI (d' := 0) (y' := mX9_isMan) dX9_led_2 mlX9_134 mvX9_isMan rfl (st0 hs) (by decide) rfl (by decide) (by decide) (Nat.le_of_ble_eq_true rfl) (c_X9_isMan_t l g _ (by exact hs) (by exact hp) (by omega)) rfl ?_
      refine xn_if_eq (tgt := 21) dX9_led_5 rfl (by omega) (fun c1 => ?_) (fun c1 => ?_)
      · omega
      · refine xe_iload_n dX9_led_8 rfl ?_
        refine xe_iconst dX9_led_9 kc_m1 ?_
        refine xe_icmp_eq (tgt := 23) dX9_led_10 rfl (fun c2 => ?_) (fun c2 => ?_)
        · exact absurd c2 h2
        · refine xe_aload_n dX9_led_13 rfl ?_
          refine xe_iload_n dX9_led_14 rfl ?_
          refine xe_callVI (d' := 0) (y' := mX9_isMan) dX9_led_15 mlX9_134 mvX9_isMan rfl (st0 hs) (by decide) rfl (by decide) (by decide) (Nat.le_of_ble_eq_true rfl) (c_X9_isMan_f l g _ (by exact hs) (by exact hp) (h3)) rfl ?_
          refine xn_if_ne (tgt := 23) dX9_led_18 rfl (by omega) (fun c3 => ?_) (fun c3 => ?_)
          · omega
          · refine xe_iconst dX9_led_21 kc_m1 ?_
            refine xe_ireturn dX9_led_22 rfl (by first | rfl | decide +kernel) ?_
            exact ⟨rfl, rfl⟩
    · refine q_CdV mvX9_led (Nat.le_of_ble_eq_true rfl) ?_
      refine xe_aload_n dX9_led_0 rfl ?_
      refine xe_iload_n dX9_led_1 rfl ?_
      refine xe_callVI (d' := 0) (y' := mX9_isMan) dX9_led_2 mlX9_134 mvX9_isMan rfl (st0 hs) (by decide) rfl (by decide) (by decide) (Nat.le_of_ble_eq_true rfl) (c_X9_isMan_f l g _ (by exact hs) (by exact hp) (h1)) rfl ?_
      refine xn_if_eq (tgt := 21) dX9_led_5 rfl (by omega) (fun c1 => ?_) (fun c1 => ?_)
      · refine xe_iconst dX9_led_21 kc_m1 ?_
        refine xe_ireturn dX9_led_22 rfl (by first | rfl | decide +kernel) ?_
        exact ⟨rfl, rfl⟩
      · omega
theorem c_X9_debt_t (l : Launch) (g : q_GP) (h : q_H) (hs : q_Stat h) {p nm nd nc mo n : Nat} (hp : rk_P h p nm nd nc mo n) {a b : Nat} (ha : a < nm) (hb : b < nm) (hab : ¬ a = b) : q_Cd l g 2 mX9_debt [.ref 0, .int (nI a), .int (nI b)] h (some (.int (q_cr h (72 + 8 * a + b)))) h := by
  obtain ⟨P0, P1, P2, P2b, P3, P3b, P4, P4b, P5, P5b, P6, P6b⟩ := id hp
  rcases P1 with rfl | rfl
  · refine q_CdV mvX9_debt (Nat.le_of_ble_eq_true rfl) ?_
    refine xe_aload_n dX9_debt_0 rfl ?_
    refine xe_iload_n dX9_debt_1 rfl ?_
    refine xe_iload_n dX9_debt_2 rfl ?_
    refine xe_callVI (d' := 1) (y' := mX9_areTwoMen) dX9_debt_3 mlX9_167 mvX9_areTwoMen rfl (st0 hs) (by decide) rfl (by decide) (by decide) (Nat.le_of_ble_eq_true rfl) (c_X9_areTwoMen_t l g _ (by exact hs) (by exact hp) (by omega) (by omega) (by omega)) rfl ?_
    refine xn_if_eq (tgt := 26) dX9_debt_6 rfl (by omega) (fun c1 => ?_) (fun c1 => ?_)
    · omega
    · refine xe_aload_n dX9_debt_9 rfl ?_
      refine xe_getP dX9_debt_10 flX9_36 (st0 hs) (by decide) rfl (sp0_4 hs) ?_
      refine xe_getP dX9_debt_13 flX9_171 (st34 hs) (by decide) rfl (sp34_1 hs) ?_
      refine xe_iload_n dX9_debt_16 rfl ?_
      refine xe_bipush dX9_debt_17 kb_8 ?_
      refine xn_imul dX9_debt_19 ?_
      refine xe_iload_n dX9_debt_20 rfl ?_
      refine xn_iadd dX9_debt_21 ?_
      refine xn_ialdv dX9_debt_22 (st36 hs) (by omega) (by decide) (v := (q_cr h (72 + 8 * a + b))) (q_cr_d h (by omega) (by omega)) ?_
      refine xe_goto (tgt := 27) dX9_debt_23 rfl ?_
      refine xe_ireturn dX9_debt_27 rfl (by first | rfl | decide +kernel) ?_
      exact ⟨rfl, rfl⟩
  · refine q_CdV mvX9_debt (Nat.le_of_ble_eq_true rfl) ?_
    refine xe_aload_n dX9_debt_0 rfl ?_
    refine xe_iload_n dX9_debt_1 rfl ?_
    refine xe_iload_n dX9_debt_2 rfl ?_
    refine xe_callVI (d' := 1) (y' := mX9_areTwoMen) dX9_debt_3 mlX9_167 mvX9_areTwoMen rfl (st0 hs) (by decide) rfl (by decide) (by decide) (Nat.le_of_ble_eq_true rfl) (c_X9_areTwoMen_t l g _ (by exact hs) (by exact hp) (by omega) (by omega) (by omega)) rfl ?_
    refine xn_if_eq (tgt := 26) dX9_debt_6 rfl (by omega) (fun c1 => ?_) (fun c1 => ?_)
    · omega
    · refine xe_aload_n dX9_debt_9 rfl ?_
      refine xe_getP dX9_debt_10 flX9_36 (st0 hs) (by decide) rfl (sp0_4 hs) ?_
      refine xe_getP dX9_debt_13 flX9_171 (st34 hs) (by decide) rfl (sp34_1 hs) ?_
      refine xe_iload_n dX9_debt_16 rfl ?_
      refine xe_bipush dX9_debt_17 kb_8 ?_
      refine xn_imul dX9_debt_19 ?_
      refine xe_iload_n dX9_debt_20 rfl ?_
      refine xn_iadd dX9_debt_21 ?_
      refine xn_ialdv dX9_debt_22 (st36 hs) (by omega) (by decide) (v := (q_cr h (72 + 8 * a + b))) (q_cr_d h (by omega) (by omega)) ?_
      refine xe_goto (tgt := 27) dX9_debt_23 rfl ?_
      refine xe_ireturn dX9_debt_27 rfl (by first | rfl | decide +kernel) ?_
      exact ⟨rfl, rfl⟩
theorem c_X9_debt_f (l : Launch) (g : q_GP) (h : q_H) (hs : q_Stat h) {p nm nd nc mo n : Nat} (hp : rk_P h p nm nd nc mo n) (x z : Int32) (hxz : ¬ q_two x z nm) : q_Cd l g 2 mX9_debt [.ref 0, .int x, .int z] h (some (.int (-1))) h := by
  obtain ⟨P0, P1, P2, P2b, P3, P3b, P4, P4b, P5, P5b, P6, P6b⟩ := id hp
  rcases P1 with rfl | rfl
  · refine q_CdV mvX9_debt (Nat.le_of_ble_eq_true rfl) ?_
    refine xe_aload_n dX9_debt_0 rfl ?_
    refine xe_iload_n dX9_debt_1 rfl ?_
    refine xe_iload_n dX9_debt_2 rfl ?_
    refine xe_callVI (d' := 1) (y' := mX9_areTwoMen) dX9_debt_3 mlX9_167 mvX9_areTwoMen rfl (st0 hs) (by decide) rfl (by decide) (by decide) (Nat.le_of_ble_eq_true rfl) (c_X9_areTwoMen_f l g _ (by exact hs) (by exact hp) _ _ hxz) rfl ?_
    refine xn_if_eq (tgt := 26) dX9_debt_6 rfl (by omega) (fun c1 => ?_) (fun c1 => ?_)
    · refine xe_iconst dX9_debt_26 kc_m1 ?_
      refine xe_ireturn dX9_debt_27 rfl (by first | rfl | decide +kernel) ?_
      exact ⟨rfl, rfl⟩
    · omega
  · refine q_CdV mvX9_debt (Nat.le_of_ble_eq_true rfl) ?_
    refine xe_aload_n dX9_debt_0 rfl ?_
    refine xe_iload_n dX9_debt_1 rfl ?_
    refine xe_iload_n dX9_debt_2 rfl ?_
    refine xe_callVI (d' := 1) (y' := mX9_areTwoMen) dX9_debt_3 mlX9_167 mvX9_areTwoMen rfl (st0 hs) (by decide) rfl (by decide) (by decide) (Nat.le_of_ble_eq_true rfl) (c_X9_areTwoMen_f l g _ (by exact hs) (by exact hp) _ _ hxz) rfl ?_
    refine xn_if_eq (tgt := 26) dX9_debt_6 rfl (by omega) (fun c1 => ?_) (fun c1 => ?_)
    · refine xe_iconst dX9_debt_26 kc_m1 ?_
      refine xe_ireturn dX9_debt_27 rfl (by first | rfl | decide +kernel) ?_
      exact ⟨rfl, rfl⟩
    · omega
theorem c_X9_tariff_t (l : Launch) (g : q_GP) (h : q_H) (hs : q_Stat h) {p nm nd nc mo n : Nat} (hp : rk_P h p nm nd nc mo n) {LW : q_LW} (hL : rk_L h p n LW) {w : Nat} (hw : q_I h 34 6 = nI w) (hw2 : w < 2 ^ 20) {m d : Nat} (hm : m < nm) (hd : d < nd) : q_Ct l g 3 mX9_tariff [.ref 0, .int (nI m), .int (nI d)] h (fun r h1 => r = some (.int (q_fin (q_cr h) (q_I h (p + 5)) LW 0 nc w m d)) ∧ q_kag h h1) := by
  obtain ⟨P0, P1, P2, P2b, P3, P3b, P4, P4b, P5, P5b, P6, P6b⟩ := id hp
  rcases P1 with rfl | rfl
  · refine q_CtV mvX9_tariff (Nat.le_of_ble_eq_true rfl) ?_
    refine xe_aload_n dX9_tariff_0 rfl ?_
    refine xe_iload_n dX9_tariff_1 rfl ?_
    refine xe_callVI (d' := 0) (y' := mX9_isMan) dX9_tariff_2 mlX9_134 mvX9_isMan rfl (st0 hs) (by decide) rfl (by decide) (by decide) (Nat.le_of_ble_eq_true rfl) (c_X9_isMan_t l g _ (by exact hs) (by exact hp) (by omega)) rfl ?_
    refine xn_if_eq (tgt := 25) dX9_tariff_5 rfl (by omega) (fun c1 => ?_) (fun c1 => ?_)
    · omega
    · refine xe_aload_n dX9_tariff_8 rfl ?_
      refine xe_iload_n dX9_tariff_9 rfl ?_
      refine xe_callVI (d' := 0) (y' := mX9_isDeed) dX9_tariff_10 mlX9_174 mvX9_isDeed rfl (st0 hs) (by decide) rfl (by decide) (by decide) (Nat.le_of_ble_eq_true rfl) (c_X9_isDeed_t l g _ (by exact hs) (by exact hp) (by omega)) rfl ?_
      refine xn_if_eq (tgt := 25) dX9_tariff_13 rfl (by omega) (fun c2 => ?_) (fun c2 => ?_)
      · omega
      · refine xe_aload_n dX9_tariff_16 rfl ?_
        refine xe_iload_n dX9_tariff_17 rfl ?_
        refine xe_iload_n dX9_tariff_18 rfl ?_
        refine xe_callVIq (d' := 2) (y' := mX9_fineNow) dX9_tariff_19 mlX9_177 mvX9_fineNow rfl (st0 hs) (by decide) rfl (by decide) (by decide) (Nat.le_of_ble_eq_true rfl) (c_X9_fineNow l g _ (by exact hs) (by exact hp) (by exact hL) (by exact hw) hw2 (by omega) (by omega)) rfl (fun h3 hq3 => ?_)
        obtain ⟨V3, S3, rfl⟩ := hq3
        refine xe_goto (tgt := 26) dX9_tariff_22 rfl ?_
        refine xe_ireturn dX9_tariff_26 rfl (by first | rfl | decide +kernel) ?_
        exact ⟨rfl, (q_kag_o (by repeat (first | exact q_out_r | refine q_out_w rfl ?_)))⟩
  · refine q_CtV mvX9_tariff (Nat.le_of_ble_eq_true rfl) ?_
    refine xe_aload_n dX9_tariff_0 rfl ?_
    refine xe_iload_n dX9_tariff_1 rfl ?_
    refine xe_callVI (d' := 0) (y' := mX9_isMan) dX9_tariff_2 mlX9_134 mvX9_isMan rfl (st0 hs) (by decide) rfl (by decide) (by decide) (Nat.le_of_ble_eq_true rfl) (c_X9_isMan_t l g _ (by exact hs) (by exact hp) (by omega)) rfl ?_
    refine xn_if_eq (tgt := 25) dX9_tariff_5 rfl (by omega) (fun c1 => ?_) (fun c1 => ?_)
    · omega
    · refine xe_aload_n dX9_tariff_8 rfl ?_
      refine xe_iload_n dX9_tariff_9 rfl ?_
      refine xe_callVI (d' := 0) (y' := mX9_isDeed) dX9_tariff_10 mlX9_174 mvX9_isDeed rfl (st0 hs) (by decide) rfl (by decide) (by decide) (Nat.le_of_ble_eq_true rfl) (c_X9_isDeed_t l g _ (by exact hs) (by exact hp) (by omega)) rfl ?_
      refine xn_if_eq (tgt := 25) dX9_tariff_13 rfl (by omega) (fun c2 => ?_) (fun c2 => ?_)
      · omega
      · refine xe_aload_n dX9_tariff_16 rfl ?_
        refine xe_iload_n dX9_tariff_17 rfl ?_
        refine xe_iload_n dX9_tariff_18 rfl ?_
        refine xe_callVIq (d' := 2) (y' := mX9_fineNow) dX9_tariff_19 mlX9_177 mvX9_fineNow rfl (st0 hs) (by decide) rfl (by decide) (by decide) (Nat.le_of_ble_eq_true rfl) (c_X9_fineNow l g _ (by exact hs) (by exact hp) (by exact hL) (by exact hw) hw2 (by omega) (by omega)) rfl (fun h3 hq3 => ?_)
        obtain ⟨V3, S3, rfl⟩ := hq3
        refine xe_goto (tgt := 26) dX9_tariff_22 rfl ?_
        refine xe_ireturn dX9_tariff_26 rfl (by first | rfl | decide +kernel) ?_
        exact ⟨rfl, (q_kag_o (by repeat (first | exact q_out_r | refine q_out_w rfl ?_)))⟩
theorem c_X9_tariff_f (l : Launch) (g : q_GP) (h : q_H) (hs : q_Stat h) {p nm nd nc mo n : Nat} (hp : rk_P h p nm nd nc mo n) (x z : Int32) (hxz : ¬ (q_isN x nm ∧ q_isN z nd)) : q_Cd l g 3 mX9_tariff [.ref 0, .int x, .int z] h (some (.int (-1))) h := by
  obtain ⟨P0, P1, P2, P2b, P3, P3b, P4, P4b, P5, P5b, P6, P6b⟩ := id hp
  rcases P1 with rfl | rfl
  · by_cases h1 : q_isN x nm
    · obtain ⟨a, ha, rfl⟩ := q_isN_of (by omega) h1
      refine q_CdV mvX9_tariff (Nat.le_of_ble_eq_true rfl) ?_
      refine xe_aload_n dX9_tariff_0 rfl ?_
      refine xe_iload_n dX9_tariff_1 rfl ?_
      refine xe_callVI (d' := 0) (y' := mX9_isMan) dX9_tariff_2 mlX9_134 mvX9_isMan rfl (st0 hs) (by decide) rfl (by decide) (by decide) (Nat.le_of_ble_eq_true rfl) (c_X9_isMan_t l g _ (by exact hs) (by exact hp) (by omega)) rfl ?_
      refine xn_if_eq (tgt := 25) dX9_tariff_5 rfl (by omega) (fun c1 => ?_) (fun c1 => ?_)
      · omega
      · refine xe_aload_n dX9_tariff_8 rfl ?_
        refine xe_iload_n dX9_tariff_9 rfl ?_
        refine xe_callVI (d' := 0) (y' := mX9_isDeed) dX9_tariff_10 mlX9_174 mvX9_isDeed rfl (st0 hs) (by decide) rfl (by decide) (by decide) (Nat.le_of_ble_eq_true rfl) (c_X9_isDeed_f l g _ (by exact hs) (by exact hp) ((fun q => hxz ⟨h1, q⟩))) rfl ?_
        refine xn_if_eq (tgt := 25) dX9_tariff_13 rfl (by omega) (fun c2 => ?_) (fun c2 => ?_)
        · refine xe_iconst dX9_tariff_25 kc_m1 ?_
          refine xe_ireturn dX9_tariff_26 rfl (by first | rfl | decide +kernel) ?_
          exact ⟨rfl, rfl⟩
        · omega
    · refine q_CdV mvX9_tariff (Nat.le_of_ble_eq_true rfl) ?_
      refine xe_aload_n dX9_tariff_0 rfl ?_
      refine xe_iload_n dX9_tariff_1 rfl ?_
      refine xe_callVI (d' := 0) (y' := mX9_isMan) dX9_tariff_2 mlX9_134 mvX9_isMan rfl (st0 hs) (by decide) rfl (by decide) (by decide) (Nat.le_of_ble_eq_true rfl) (c_X9_isMan_f l g _ (by exact hs) (by exact hp) (h1)) rfl ?_
      refine xn_if_eq (tgt := 25) dX9_tariff_5 rfl (by omega) (fun c1 => ?_) (fun c1 => ?_)
      · refine xe_iconst dX9_tariff_25 kc_m1 ?_
        refine xe_ireturn dX9_tariff_26 rfl (by first | rfl | decide +kernel) ?_
        exact ⟨rfl, rfl⟩
      · omega
  · by_cases h1 : q_isN x nm
    · obtain ⟨a, ha, rfl⟩ := q_isN_of (by omega) h1
      refine q_CdV mvX9_tariff (Nat.le_of_ble_eq_true rfl) ?_
      refine xe_aload_n dX9_tariff_0 rfl ?_
      refine xe_iload_n dX9_tariff_1 rfl ?_
      refine xe_callVI (d' := 0) (y' := mX9_isMan) dX9_tariff_2 mlX9_134 mvX9_isMan rfl (st0 hs) (by decide) rfl (by decide) (by decide) (Nat.le_of_ble_eq_true rfl) (c_X9_isMan_t l g _ (by exact hs) (by exact hp) (by omega)) rfl ?_
      refine xn_if_eq (tgt := 25) dX9_tariff_5 rfl (by omega) (fun c1 => ?_) (fun c1 => ?_)
      · omega
      · refine xe_aload_n dX9_tariff_8 rfl ?_
        refine xe_iload_n dX9_tariff_9 rfl ?_
        refine xe_callVI (d' := 0) (y' := mX9_isDeed) dX9_tariff_10 mlX9_174 mvX9_isDeed rfl (st0 hs) (by decide) rfl (by decide) (by decide) (Nat.le_of_ble_eq_true rfl) (c_X9_isDeed_f l g _ (by exact hs) (by exact hp) ((fun q => hxz ⟨h1, q⟩))) rfl ?_
        refine xn_if_eq (tgt := 25) dX9_tariff_13 rfl (by omega) (fun c2 => ?_) (fun c2 => ?_)
        · refine xe_iconst dX9_tariff_25 kc_m1 ?_
          refine xe_ireturn dX9_tariff_26 rfl (by first | rfl | decide +kernel) ?_
          exact ⟨rfl, rfl⟩
        · omega
    · refine q_CdV mvX9_tariff (Nat.le_of_ble_eq_true rfl) ?_
      refine xe_aload_n dX9_tariff_0 rfl ?_
      refine xe_iload_n dX9_tariff_1 rfl ?_
      refine xe_callVI (d' := 0) (y' := mX9_isMan) dX9_tariff_2 mlX9_134 mvX9_isMan rfl (st0 hs) (by decide) rfl (by decide) (by decide) (Nat.le_of_ble_eq_true rfl) (c_X9_isMan_f l g _ (by exact hs) (by exact hp) (h1)) rfl ?_
      refine xn_if_eq (tgt := 25) dX9_tariff_5 rfl (by omega) (fun c1 => ?_) (fun c1 => ?_)
      · refine xe_iconst dX9_tariff_25 kc_m1 ?_
        refine xe_ireturn dX9_tariff_26 rfl (by first | rfl | decide +kernel) ?_
        exact ⟨rfl, rfl⟩
      · omega
theorem c_X9_entry_0 (l : Launch) (g : q_GP) (h : q_H) (hs : q_Stat h) {E : Nat} (hE1 : q_I h 34 5 = nI E) (hE2 : E ≤ 300) {em ed ew ep ea : Nat → Nat} (hE : rk_E h E em ed ew ep ea) {i : Nat} (hi : i < E) : q_Cd l g 1 mX9_entry [.ref 0, .int (nI i), .int (nI 0)] h (some (.int (nI (em i)))) h := by
  obtain ⟨o1, o2, o3, o4, o5, o6, o7⟩ := hE i hi
  refine q_CdV mvX9_entry (Nat.le_of_ble_eq_true rfl) ?_
  refine xe_aload_n dX9_entry_0 rfl ?_
  refine xe_iload_n dX9_entry_1 rfl ?_
  refine xe_callVI (d' := 0) (y' := mX9_isEntry) dX9_entry_2 mlX9_205 mvX9_isEntry rfl (st0 hs) (by decide) rfl (by decide) (by decide) (Nat.le_of_ble_eq_true rfl) (c_X9_isEntry_t l g _ (by exact hs) (by exact hE1) hE2 (by omega)) rfl ?_
  refine xn_if_ne (tgt := 10) dX9_entry_5 rfl (by omega) (fun c1 => ?_) (fun c1 => ?_)
  · refine xe_iload_n dX9_entry_10 rfl ?_
    refine xe_tsw_in (tgt := 44) dX9_entry_11 (by decide) (by decide) rfl rfl ?_
    refine xe_aload_n dX9_entry_44 rfl ?_
    refine xe_getP dX9_entry_45 flX9_36 (st0 hs) (by decide) rfl (sp0_4 hs) ?_
    refine xe_iload_n dX9_entry_48 rfl ?_
    refine xe_callVI (d' := 0) (y' := mX6_entryMan) dX9_entry_49 mlX9_208 mvX6_entryMan rfl (st34 hs) (by decide) rfl (by decide) (by decide) (Nat.le_of_ble_eq_true rfl) (c_X6_entryMan l g _ (by exact hs) hE2 (by exact hE) (by omega)) rfl ?_
    refine xe_ireturn dX9_entry_52 rfl (by first | rfl | decide +kernel) ?_
    exact ⟨rfl, rfl⟩
  · omega
theorem c_X9_entry_1 (l : Launch) (g : q_GP) (h : q_H) (hs : q_Stat h) {E : Nat} (hE1 : q_I h 34 5 = nI E) (hE2 : E ≤ 300) {em ed ew ep ea : Nat → Nat} (hE : rk_E h E em ed ew ep ea) {i : Nat} (hi : i < E) : q_Cd l g 1 mX9_entry [.ref 0, .int (nI i), .int (nI 1)] h (some (.int (nI (ed i)))) h := by
  obtain ⟨o1, o2, o3, o4, o5, o6, o7⟩ := hE i hi
  refine q_CdV mvX9_entry (Nat.le_of_ble_eq_true rfl) ?_
  refine xe_aload_n dX9_entry_0 rfl ?_
  refine xe_iload_n dX9_entry_1 rfl ?_
  refine xe_callVI (d' := 0) (y' := mX9_isEntry) dX9_entry_2 mlX9_205 mvX9_isEntry rfl (st0 hs) (by decide) rfl (by decide) (by decide) (Nat.le_of_ble_eq_true rfl) (c_X9_isEntry_t l g _ (by exact hs) (by exact hE1) hE2 (by omega)) rfl ?_
  refine xn_if_ne (tgt := 10) dX9_entry_5 rfl (by omega) (fun c1 => ?_) (fun c1 => ?_)
  · refine xe_iload_n dX9_entry_10 rfl ?_
    refine xe_tsw_in (tgt := 53) dX9_entry_11 (by decide) (by decide) rfl rfl ?_
    refine xe_aload_n dX9_entry_53 rfl ?_
    refine xe_getP dX9_entry_54 flX9_36 (st0 hs) (by decide) rfl (sp0_4 hs) ?_
    refine xe_iload_n dX9_entry_57 rfl ?_
    refine xe_callVI (d' := 0) (y' := mX6_entryDeed) dX9_entry_58 mlX9_211 mvX6_entryDeed rfl (st34 hs) (by decide) rfl (by decide) (by decide) (Nat.le_of_ble_eq_true rfl) (c_X6_entryDeed l g _ (by exact hs) hE2 (by exact hE) (by omega)) rfl ?_
    refine xe_ireturn dX9_entry_61 rfl (by first | rfl | decide +kernel) ?_
    exact ⟨rfl, rfl⟩
  · omega
theorem c_X9_entry_2 (l : Launch) (g : q_GP) (h : q_H) (hs : q_Stat h) {E : Nat} (hE1 : q_I h 34 5 = nI E) (hE2 : E ≤ 300) {em ed ew ep ea : Nat → Nat} (hE : rk_E h E em ed ew ep ea) {i : Nat} (hi : i < E) : q_Cd l g 1 mX9_entry [.ref 0, .int (nI i), .int (nI 2)] h (some (.int (nI (ew i)))) h := by
  obtain ⟨o1, o2, o3, o4, o5, o6, o7⟩ := hE i hi
  refine q_CdV mvX9_entry (Nat.le_of_ble_eq_true rfl) ?_
  refine xe_aload_n dX9_entry_0 rfl ?_
  refine xe_iload_n dX9_entry_1 rfl ?_
  refine xe_callVI (d' := 0) (y' := mX9_isEntry) dX9_entry_2 mlX9_205 mvX9_isEntry rfl (st0 hs) (by decide) rfl (by decide) (by decide) (Nat.le_of_ble_eq_true rfl) (c_X9_isEntry_t l g _ (by exact hs) (by exact hE1) hE2 (by omega)) rfl ?_
  refine xn_if_ne (tgt := 10) dX9_entry_5 rfl (by omega) (fun c1 => ?_) (fun c1 => ?_)
  · refine xe_iload_n dX9_entry_10 rfl ?_
    refine xe_tsw_in (tgt := 62) dX9_entry_11 (by decide) (by decide) rfl rfl ?_
    refine xe_aload_n dX9_entry_62 rfl ?_
    refine xe_getP dX9_entry_63 flX9_36 (st0 hs) (by decide) rfl (sp0_4 hs) ?_
    refine xe_getP dX9_entry_66 flX9_214 (st34 hs) (by decide) rfl (sp34_4 hs) ?_
    refine xe_iload_n dX9_entry_69 rfl ?_
    refine xn_ialdv dX9_entry_70 (st39 hs) (by omega) (by decide) (v := nI (ew i)) ((hE i hi).2.1) ?_
    refine xe_ireturn dX9_entry_71 rfl (by first | rfl | decide +kernel) ?_
    exact ⟨rfl, rfl⟩
  · omega
theorem c_X9_entry_3 (l : Launch) (g : q_GP) (h : q_H) (hs : q_Stat h) {E : Nat} (hE1 : q_I h 34 5 = nI E) (hE2 : E ≤ 300) {em ed ew ep ea : Nat → Nat} (hE : rk_E h E em ed ew ep ea) {i : Nat} (hi : i < E) : q_Cd l g 1 mX9_entry [.ref 0, .int (nI i), .int (nI 3)] h (some (.int (nI (ep i)))) h := by
  obtain ⟨o1, o2, o3, o4, o5, o6, o7⟩ := hE i hi
  refine q_CdV mvX9_entry (Nat.le_of_ble_eq_true rfl) ?_
  refine xe_aload_n dX9_entry_0 rfl ?_
  refine xe_iload_n dX9_entry_1 rfl ?_
  refine xe_callVI (d' := 0) (y' := mX9_isEntry) dX9_entry_2 mlX9_205 mvX9_isEntry rfl (st0 hs) (by decide) rfl (by decide) (by decide) (Nat.le_of_ble_eq_true rfl) (c_X9_isEntry_t l g _ (by exact hs) (by exact hE1) hE2 (by omega)) rfl ?_
  refine xn_if_ne (tgt := 10) dX9_entry_5 rfl (by omega) (fun c1 => ?_) (fun c1 => ?_)
  · refine xe_iload_n dX9_entry_10 rfl ?_
    refine xe_tsw_in (tgt := 72) dX9_entry_11 (by decide) (by decide) rfl rfl ?_
    refine xe_aload_n dX9_entry_72 rfl ?_
    refine xe_getP dX9_entry_73 flX9_36 (st0 hs) (by decide) rfl (sp0_4 hs) ?_
    refine xe_iload_n dX9_entry_76 rfl ?_
    refine xe_callVI (d' := 0) (y' := mX6_entryPlucked) dX9_entry_77 mlX9_217 mvX6_entryPlucked rfl (st34 hs) (by decide) rfl (by decide) (by decide) (Nat.le_of_ble_eq_true rfl) (c_X6_entryPlucked l g _ (by exact hs) hE2 (by exact hE) (by omega)) rfl ?_
    refine xe_ireturn dX9_entry_80 rfl (by first | rfl | decide +kernel) ?_
    exact ⟨rfl, rfl⟩
  · omega
theorem c_X9_entry_4 (l : Launch) (g : q_GP) (h : q_H) (hs : q_Stat h) {E : Nat} (hE1 : q_I h 34 5 = nI E) (hE2 : E ≤ 300) {em ed ew ep ea : Nat → Nat} (hE : rk_E h E em ed ew ep ea) {i : Nat} (hi : i < E) : q_Cd l g 1 mX9_entry [.ref 0, .int (nI i), .int (nI 4)] h (some (.int (nI (ea i)))) h := by
  obtain ⟨o1, o2, o3, o4, o5, o6, o7⟩ := hE i hi
  refine q_CdV mvX9_entry (Nat.le_of_ble_eq_true rfl) ?_
  refine xe_aload_n dX9_entry_0 rfl ?_
  refine xe_iload_n dX9_entry_1 rfl ?_
  refine xe_callVI (d' := 0) (y' := mX9_isEntry) dX9_entry_2 mlX9_205 mvX9_isEntry rfl (st0 hs) (by decide) rfl (by decide) (by decide) (Nat.le_of_ble_eq_true rfl) (c_X9_isEntry_t l g _ (by exact hs) (by exact hE1) hE2 (by omega)) rfl ?_
  refine xn_if_ne (tgt := 10) dX9_entry_5 rfl (by omega) (fun c1 => ?_) (fun c1 => ?_)
  · refine xe_iload_n dX9_entry_10 rfl ?_
    refine xe_tsw_in (tgt := 81) dX9_entry_11 (by decide) (by decide) rfl rfl ?_
    refine xe_aload_n dX9_entry_81 rfl ?_
    refine xe_getP dX9_entry_82 flX9_36 (st0 hs) (by decide) rfl (sp0_4 hs) ?_
    refine xe_iload_n dX9_entry_85 rfl ?_
    refine xe_callVI (d' := 0) (y' := mX6_isAppealed) dX9_entry_86 mlX9_220 mvX6_isAppealed rfl (st34 hs) (by decide) rfl (by decide) (by decide) (Nat.le_of_ble_eq_true rfl) (c_X6_isAppealed l g _ (by exact hs) hE2 (by exact hE) (by omega)) rfl ?_
    refine xn_if_eq (tgt := 96) dX9_entry_89 rfl (by omega) (fun c2 => ?_) (fun c2 => ?_)
    · refine xe_iconst dX9_entry_96 kc_0 ?_
      refine xe_ireturn dX9_entry_97 rfl (by first | rfl | decide +kernel) ?_
      exact ⟨congrArg (fun v => some (Value.int (nI v))) (by omega), rfl⟩
    · refine xe_iconst dX9_entry_92 kc_1 ?_
      refine xe_goto (tgt := 97) dX9_entry_93 rfl ?_
      refine xe_ireturn dX9_entry_97 rfl (by first | rfl | decide +kernel) ?_
      exact ⟨congrArg (fun v => some (Value.int (nI v))) (by omega), rfl⟩
  · omega
theorem c_X9_entry_b (l : Launch) (g : q_GP) (h : q_H) (hs : q_Stat h) {E : Nat} (hE1 : q_I h 34 5 = nI E) (hE2 : E ≤ 300) {i : Nat} (hi : i < E) (x : Int32) (hx : x.toInt < 0 ∨ 4 < x.toInt) : q_Cd l g 1 mX9_entry [.ref 0, .int (nI i), .int x] h (some (.int (-1))) h := by
  refine q_CdV mvX9_entry (Nat.le_of_ble_eq_true rfl) ?_
  refine xe_aload_n dX9_entry_0 rfl ?_
  refine xe_iload_n dX9_entry_1 rfl ?_
  refine xe_callVI (d' := 0) (y' := mX9_isEntry) dX9_entry_2 mlX9_205 mvX9_isEntry rfl (st0 hs) (by decide) rfl (by decide) (by decide) (Nat.le_of_ble_eq_true rfl) (c_X9_isEntry_t l g _ (by exact hs) (by exact hE1) hE2 (by omega)) rfl ?_
  refine xn_if_ne (tgt := 10) dX9_entry_5 rfl (by omega) (fun c1 => ?_) (fun c1 => ?_)
  · refine xe_iload_n dX9_entry_10 rfl ?_
    refine xe_tsw_out (tgt := 98) dX9_entry_11 (hx) rfl ?_
    refine xe_iconst dX9_entry_98 kc_m1 ?_
    refine xe_ireturn dX9_entry_99 rfl (by first | rfl | decide +kernel) ?_
    exact ⟨rfl, rfl⟩
  · omega
theorem c_X9_entry_f (l : Launch) (g : q_GP) (h : q_H) (hs : q_Stat h) {E : Nat} (hE1 : q_I h 34 5 = nI E) (hE2 : E ≤ 300) {x : Int32} (z : Int32) (hx : ¬ q_isN x E) : q_Cd l g 1 mX9_entry [.ref 0, .int x, .int z] h (some (.int (-1))) h := by
  refine q_CdV mvX9_entry (Nat.le_of_ble_eq_true rfl) ?_
  refine xe_aload_n dX9_entry_0 rfl ?_
  refine xe_iload_n dX9_entry_1 rfl ?_
  refine xe_callVI (d' := 0) (y' := mX9_isEntry) dX9_entry_2 mlX9_205 mvX9_isEntry rfl (st0 hs) (by decide) rfl (by decide) (by decide) (Nat.le_of_ble_eq_true rfl) (c_X9_isEntry_f l g _ (by exact hs) (by exact hE1) hE2 hx) rfl ?_
  refine xn_if_ne (tgt := 10) dX9_entry_5 rfl (by omega) (fun c1 => ?_) (fun c1 => ?_)
  · omega
  · refine xe_iconst dX9_entry_8 kc_m1 ?_
    refine xe_ireturn dX9_entry_9 rfl (by first | rfl | decide +kernel) ?_
    exact ⟨rfl, rfl⟩
theorem c_X9_onAllGeese (l : Launch) (g : q_GP) (h : q_H) (hs : q_Stat h) {p nm nd nc mo n : Nat} (hp : rk_P h p nm nd nc mo n) : q_Cd l g 1 mX9_onAllGeese [.ref 0] h (some (.int (q_sum (fun k => q_s8 (q_cr h) (8 * k)) nm))) h := by
  obtain ⟨P0, P1, P2, P2b, P3, P3b, P4, P4b, P5, P5b, P6, P6b⟩ := id hp
  rcases P1 with rfl | rfl
  · refine q_CdV mvX9_onAllGeese (Nat.le_of_ble_eq_true rfl) ?_
    refine xe_iconst dX9_onAllGeese_0 kc_0 ?_
    refine xe_istore_n (i := 1) dX9_onAllGeese_1 rfl (by decide) rfl ?_
    refine xe_iconst dX9_onAllGeese_2 kc_0 ?_
    refine xe_istore_n (i := 2) dX9_onAllGeese_3 rfl (by decide) rfl ?_
    refine xe_fin (L' := (fun (i_ : Nat) (s1 : Int32) => [(0, .ref 0), (1, .int s1), (2, .int (nI i_))]) 0 (nI 0)) (h' := (fun (_ : Nat) (_ : Int32) => h) 0 (nI 0)) ?_ (And.intro rfl (And.intro rfl (And.intro rfl trivial))) rfl
    refine xe_loopI (σ := Int32) (nm) (fun i s => s = q_sum (fun k => q_s8 (q_cr h) (8 * k)) i) (fun (i_ : Nat) (s1 : Int32) => [(0, .ref 0), (1, .int s1), (2, .int (nI i_))]) (fun (_ : Nat) (_ : Int32) => h) (nI 0) (rfl) (fun i_ hi_ s1 e1 K1 => ?_) (fun s1 e1 => ?_)
    · refine xe_iload_n dX9_onAllGeese_4 rfl ?_
      refine xe_aload_n dX9_onAllGeese_5 rfl ?_
      refine xe_getP dX9_onAllGeese_6 flX9_26 (st0 hs) (by decide) rfl P0 ?_
      refine xe_getIv dX9_onAllGeese_9 flX9_117 (st10 hs) (by decide) rfl (v := nI nm) (P3) ?_
      refine xn_icmp_ge (tgt := 32) dX9_onAllGeese_12 rfl (by omega) (by omega) (fun c2 => ?_) (fun c2 => ?_)
      · omega
      · refine xe_iload_n dX9_onAllGeese_15 rfl ?_
        refine xe_aload_n dX9_onAllGeese_16 rfl ?_
        refine xe_getP dX9_onAllGeese_17 flX9_36 (st0 hs) (by decide) rfl (sp0_4 hs) ?_
        refine xe_iload_n dX9_onAllGeese_20 rfl ?_
        refine xe_callVI (d' := 0) (y' := mX6_inRow) dX9_onAllGeese_21 mlX9_140 mvX6_inRow rfl (st34 hs) (by decide) rfl (by decide) (by decide) (Nat.le_of_ble_eq_true rfl) (c_X6_inRow l g _ (by exact hs) _ (by omega)) rfl ?_
        refine xe_top (v' := q_s8 (q_cr h) (8 * i_)) (q_cr_in h (by omega)) ?_
        refine xe_iadd dX9_onAllGeese_24 ?_
        refine xe_istore_n (i := 1) dX9_onAllGeese_25 rfl (by decide) rfl ?_
        refine xn_iinc dX9_onAllGeese_26 rfl kc_1 ?_
        refine xe_goto (tgt := 4) dX9_onAllGeese_29 rfl ?_
        exact xe_fin (K1 (s1 + (q_s8 (q_cr h) (8 * i_))) (by rw [e1]; rfl)) (And.intro rfl (And.intro rfl (And.intro rfl trivial))) rfl
    · refine xe_iload_n dX9_onAllGeese_4 rfl ?_
      refine xe_aload_n dX9_onAllGeese_5 rfl ?_
      refine xe_getP dX9_onAllGeese_6 flX9_26 (st0 hs) (by decide) rfl P0 ?_
      refine xe_getIv dX9_onAllGeese_9 flX9_117 (st10 hs) (by decide) rfl (v := nI nm) (P3) ?_
      refine xn_icmp_ge (tgt := 32) dX9_onAllGeese_12 rfl (by omega) (by omega) (fun c3 => ?_) (fun c3 => ?_)
      · refine xe_iload_n dX9_onAllGeese_32 rfl ?_
        refine xe_ireturn dX9_onAllGeese_33 rfl (by first | rfl | decide +kernel) ?_
        exact ⟨congrArg (fun v => some (Value.int v)) e1, rfl⟩
      · omega
  · refine q_CdV mvX9_onAllGeese (Nat.le_of_ble_eq_true rfl) ?_
    refine xe_iconst dX9_onAllGeese_0 kc_0 ?_
    refine xe_istore_n (i := 1) dX9_onAllGeese_1 rfl (by decide) rfl ?_
    refine xe_iconst dX9_onAllGeese_2 kc_0 ?_
    refine xe_istore_n (i := 2) dX9_onAllGeese_3 rfl (by decide) rfl ?_
    refine xe_fin (L' := (fun (i_ : Nat) (s1 : Int32) => [(0, .ref 0), (1, .int s1), (2, .int (nI i_))]) 0 (nI 0)) (h' := (fun (_ : Nat) (_ : Int32) => h) 0 (nI 0)) ?_ (And.intro rfl (And.intro rfl (And.intro rfl trivial))) rfl
    refine xe_loopI (σ := Int32) (nm) (fun i s => s = q_sum (fun k => q_s8 (q_cr h) (8 * k)) i) (fun (i_ : Nat) (s1 : Int32) => [(0, .ref 0), (1, .int s1), (2, .int (nI i_))]) (fun (_ : Nat) (_ : Int32) => h) (nI 0) (rfl) (fun i_ hi_ s1 e1 K1 => ?_) (fun s1 e1 => ?_)
    · refine xe_iload_n dX9_onAllGeese_4 rfl ?_
      refine xe_aload_n dX9_onAllGeese_5 rfl ?_
      refine xe_getP dX9_onAllGeese_6 flX9_26 (st0 hs) (by decide) rfl P0 ?_
      refine xe_getIv dX9_onAllGeese_9 flX9_117 (st22 hs) (by decide) rfl (v := nI nm) (P3) ?_
      refine xn_icmp_ge (tgt := 32) dX9_onAllGeese_12 rfl (by omega) (by omega) (fun c2 => ?_) (fun c2 => ?_)
      · omega
      · refine xe_iload_n dX9_onAllGeese_15 rfl ?_
        refine xe_aload_n dX9_onAllGeese_16 rfl ?_
        refine xe_getP dX9_onAllGeese_17 flX9_36 (st0 hs) (by decide) rfl (sp0_4 hs) ?_
        refine xe_iload_n dX9_onAllGeese_20 rfl ?_
        refine xe_callVI (d' := 0) (y' := mX6_inRow) dX9_onAllGeese_21 mlX9_140 mvX6_inRow rfl (st34 hs) (by decide) rfl (by decide) (by decide) (Nat.le_of_ble_eq_true rfl) (c_X6_inRow l g _ (by exact hs) _ (by omega)) rfl ?_
        refine xe_top (v' := q_s8 (q_cr h) (8 * i_)) (q_cr_in h (by omega)) ?_
        refine xe_iadd dX9_onAllGeese_24 ?_
        refine xe_istore_n (i := 1) dX9_onAllGeese_25 rfl (by decide) rfl ?_
        refine xn_iinc dX9_onAllGeese_26 rfl kc_1 ?_
        refine xe_goto (tgt := 4) dX9_onAllGeese_29 rfl ?_
        exact xe_fin (K1 (s1 + (q_s8 (q_cr h) (8 * i_))) (by rw [e1]; rfl)) (And.intro rfl (And.intro rfl (And.intro rfl trivial))) rfl
    · refine xe_iload_n dX9_onAllGeese_4 rfl ?_
      refine xe_aload_n dX9_onAllGeese_5 rfl ?_
      refine xe_getP dX9_onAllGeese_6 flX9_26 (st0 hs) (by decide) rfl P0 ?_
      refine xe_getIv dX9_onAllGeese_9 flX9_117 (st22 hs) (by decide) rfl (v := nI nm) (P3) ?_
      refine xn_icmp_ge (tgt := 32) dX9_onAllGeese_12 rfl (by omega) (by omega) (fun c3 => ?_) (fun c3 => ?_)
      · refine xe_iload_n dX9_onAllGeese_32 rfl ?_
        refine xe_ireturn dX9_onAllGeese_33 rfl (by first | rfl | decide +kernel) ?_
        exact ⟨congrArg (fun v => some (Value.int v)) e1, rfl⟩
      · omega
/-- slots that hold something, among the first n -/
def q_shl (f : Nat → Int32) : Nat → Nat
  | 0 => 0
  | n + 1 => if f n = 0 then q_shl f n else q_shl f n + 1
theorem q_shl_le (f : Nat → Int32) : ∀ n, q_shl f n ≤ n
  | 0 => Nat.le_refl _
  | n + 1 => by
    have := q_shl_le f n
    unfold q_shl
    split <;> omega
theorem c_X9_slotsHeld (l : Launch) (g : q_GP) (h : q_H) (hs : q_Stat h) : q_Cd l g 0 mX9_slotsHeld [.ref 0] h (some (.int (nI (q_shl (q_I h 41) 3)))) h := by
  refine q_CdV mvX9_slotsHeld (Nat.le_of_ble_eq_true rfl) ?_
  refine xe_iconst dX9_slotsHeld_0 kc_0 ?_
  refine xe_istore_n (i := 1) dX9_slotsHeld_1 rfl (by decide) rfl ?_
  refine xe_iconst dX9_slotsHeld_2 kc_0 ?_
  refine xe_istore_n (i := 2) dX9_slotsHeld_3 rfl (by decide) rfl ?_
  refine xe_fin (L' := (fun (i_ : Nat) (s1 : Nat) => [(0, .ref 0), (1, .int (nI s1)), (2, .int (nI i_))]) 0 0) (h' := (fun (_ : Nat) (_ : Nat) => h) 0 0) ?_ (And.intro rfl (And.intro rfl (And.intro rfl trivial))) rfl
  refine xe_loopI (σ := Nat) (3) (fun i s => s = q_shl (q_I h 41) i) (fun (i_ : Nat) (s1 : Nat) => [(0, .ref 0), (1, .int (nI s1)), (2, .int (nI i_))]) (fun (_ : Nat) (_ : Nat) => h) 0 (rfl) (fun i_ hi_ s1 e1 K1 => ?_) (fun s1 e1 => ?_)
  · refine xe_iload_n dX9_slotsHeld_4 rfl ?_
    refine xe_iconst dX9_slotsHeld_5 kc_3 ?_
    refine xn_icmp_ge (tgt := 27) dX9_slotsHeld_6 rfl (by omega) (by omega) (fun c2 => ?_) (fun c2 => ?_)
    · omega
    · refine xe_aload_n dX9_slotsHeld_9 rfl ?_
      refine xe_getP dX9_slotsHeld_10 flX9_44 (st0 hs) (by decide) rfl (sp0_6 hs) ?_
      refine xe_iload_n dX9_slotsHeld_13 rfl ?_
      refine xn_zaldv dX9_slotsHeld_14 (st41 hs) (by omega) (by decide) (v := ((q_I h 41) i_)) (rfl) ?_
      refine xe_if_eq (tgt := 21) dX9_slotsHeld_15 rfl (fun c3 => ?_) (fun c3 => ?_)
      · refine xn_iinc dX9_slotsHeld_21 rfl kc_1 ?_
        refine xe_goto (tgt := 4) dX9_slotsHeld_24 rfl ?_
        exact xe_fin (K1 s1 (by rw [e1]; exact (if_pos c3).symm)) (And.intro rfl (And.intro rfl (And.intro rfl trivial))) rfl
      · refine xn_iinc dX9_slotsHeld_18 rfl kc_1 ?_
        refine xn_iinc dX9_slotsHeld_21 rfl kc_1 ?_
        refine xe_goto (tgt := 4) dX9_slotsHeld_24 rfl ?_
        exact xe_fin (K1 (s1 + 1) (by rw [e1]; exact (if_neg c3).symm)) (And.intro rfl (And.intro rfl (And.intro rfl trivial))) rfl
  · refine xe_iload_n dX9_slotsHeld_4 rfl ?_
    refine xe_iconst dX9_slotsHeld_5 kc_3 ?_
    refine xn_icmp_ge (tgt := 27) dX9_slotsHeld_6 rfl (by omega) (by omega) (fun c4 => ?_) (fun c4 => ?_)
    · refine xe_iload_n dX9_slotsHeld_27 rfl ?_
      refine xe_ireturn dX9_slotsHeld_28 rfl (by first | rfl | decide +kernel) ?_
      exact ⟨congrArg (fun v => some (Value.int (nI v))) e1, rfl⟩
    · omega
theorem c_X9_count_0 (l : Launch) (g : q_GP) (h : q_H) (hs : q_Stat h) {p nm nd nc mo n : Nat} (hp : rk_P h p nm nd nc mo n) : q_Cd l g 2 mX9_count [.ref 0, .int (nI 0)] h (some (.int (nI nm))) h := by
  obtain ⟨P0, P1, P2, P2b, P3, P3b, P4, P4b, P5, P5b, P6, P6b⟩ := id hp
  rcases P1 with rfl | rfl
  · refine q_CdV mvX9_count (Nat.le_of_ble_eq_true rfl) ?_
    refine xe_iload_n dX9_count_0 rfl ?_
    refine xe_tsw_in (tgt := 64) dX9_count_1 (by decide) (by decide) rfl rfl ?_
    refine xe_aload_n dX9_count_64 rfl ?_
    refine xe_getP dX9_count_65 flX9_26 (st0 hs) (by decide) rfl P0 ?_
    refine xe_getIv dX9_count_68 flX9_117 (st10 hs) (by decide) rfl (v := nI nm) (P3) ?_
    refine xe_ireturn dX9_count_71 rfl (by first | rfl | decide +kernel) ?_
    exact ⟨rfl, rfl⟩
  · refine q_CdV mvX9_count (Nat.le_of_ble_eq_true rfl) ?_
    refine xe_iload_n dX9_count_0 rfl ?_
    refine xe_tsw_in (tgt := 64) dX9_count_1 (by decide) (by decide) rfl rfl ?_
    refine xe_aload_n dX9_count_64 rfl ?_
    refine xe_getP dX9_count_65 flX9_26 (st0 hs) (by decide) rfl P0 ?_
    refine xe_getIv dX9_count_68 flX9_117 (st22 hs) (by decide) rfl (v := nI nm) (P3) ?_
    refine xe_ireturn dX9_count_71 rfl (by first | rfl | decide +kernel) ?_
    exact ⟨rfl, rfl⟩
theorem c_X9_count_1 (l : Launch) (g : q_GP) (h : q_H) (hs : q_Stat h) {p nm nd nc mo n : Nat} (hp : rk_P h p nm nd nc mo n) : q_Cd l g 2 mX9_count [.ref 0, .int (nI 1)] h (some (.int (nI nd))) h := by
  obtain ⟨P0, P1, P2, P2b, P3, P3b, P4, P4b, P5, P5b, P6, P6b⟩ := id hp
  rcases P1 with rfl | rfl
  · refine q_CdV mvX9_count (Nat.le_of_ble_eq_true rfl) ?_
    refine xe_iload_n dX9_count_0 rfl ?_
    refine xe_tsw_in (tgt := 72) dX9_count_1 (by decide) (by decide) rfl rfl ?_
    refine xe_aload_n dX9_count_72 rfl ?_
    refine xe_getP dX9_count_73 flX9_26 (st0 hs) (by decide) rfl P0 ?_
    refine xe_getIv dX9_count_76 flX9_131 (st10 hs) (by decide) rfl (v := nI nd) (P4) ?_
    refine xe_ireturn dX9_count_79 rfl (by first | rfl | decide +kernel) ?_
    exact ⟨rfl, rfl⟩
  · refine q_CdV mvX9_count (Nat.le_of_ble_eq_true rfl) ?_
    refine xe_iload_n dX9_count_0 rfl ?_
    refine xe_tsw_in (tgt := 72) dX9_count_1 (by decide) (by decide) rfl rfl ?_
    refine xe_aload_n dX9_count_72 rfl ?_
    refine xe_getP dX9_count_73 flX9_26 (st0 hs) (by decide) rfl P0 ?_
    refine xe_getIv dX9_count_76 flX9_131 (st22 hs) (by decide) rfl (v := nI nd) (P4) ?_
    refine xe_ireturn dX9_count_79 rfl (by first | rfl | decide +kernel) ?_
    exact ⟨rfl, rfl⟩
theorem c_X9_count_2 (l : Launch) (g : q_GP) (h : q_H) (hs : q_Stat h) {p nm nd nc mo n : Nat} (hp : rk_P h p nm nd nc mo n) : q_Cd l g 2 mX9_count [.ref 0, .int (nI 2)] h (some (.int (q_I h 34 6))) h := by
  obtain ⟨P0, P1, P2, P2b, P3, P3b, P4, P4b, P5, P5b, P6, P6b⟩ := id hp
  rcases P1 with rfl | rfl
  · refine q_CdV mvX9_count (Nat.le_of_ble_eq_true rfl) ?_
    refine xe_iload_n dX9_count_0 rfl ?_
    refine xe_tsw_in (tgt := 80) dX9_count_1 (by decide) (by decide) rfl rfl ?_
    refine xe_aload_n dX9_count_80 rfl ?_
    refine xe_getP dX9_count_81 flX9_36 (st0 hs) (by decide) rfl (sp0_4 hs) ?_
    refine xe_getIv dX9_count_84 flX9_150 (st34 hs) (by decide) rfl (v := (q_I h 34 6)) (rfl) ?_
    refine xe_ireturn dX9_count_87 rfl (by first | rfl | decide +kernel) ?_
    exact ⟨rfl, rfl⟩
  · refine q_CdV mvX9_count (Nat.le_of_ble_eq_true rfl) ?_
    refine xe_iload_n dX9_count_0 rfl ?_
    refine xe_tsw_in (tgt := 80) dX9_count_1 (by decide) (by decide) rfl rfl ?_
    refine xe_aload_n dX9_count_80 rfl ?_
    refine xe_getP dX9_count_81 flX9_36 (st0 hs) (by decide) rfl (sp0_4 hs) ?_
    refine xe_getIv dX9_count_84 flX9_150 (st34 hs) (by decide) rfl (v := (q_I h 34 6)) (rfl) ?_
    refine xe_ireturn dX9_count_87 rfl (by first | rfl | decide +kernel) ?_
    exact ⟨rfl, rfl⟩
theorem c_X9_count_3 (l : Launch) (g : q_GP) (h : q_H) (hs : q_Stat h) {p nm nd nc mo n : Nat} (hp : rk_P h p nm nd nc mo n) : q_Cd l g 2 mX9_count [.ref 0, .int (nI 3)] h (some (.int (q_s8 (q_cr h) 64))) h := by
  obtain ⟨P0, P1, P2, P2b, P3, P3b, P4, P4b, P5, P5b, P6, P6b⟩ := id hp
  rcases P1 with rfl | rfl
  · refine q_CdV mvX9_count (Nat.le_of_ble_eq_true rfl) ?_
    refine xe_iload_n dX9_count_0 rfl ?_
    refine xe_tsw_in (tgt := 88) dX9_count_1 (by decide) (by decide) rfl rfl ?_
    refine xe_aload_n dX9_count_88 rfl ?_
    refine xe_getP dX9_count_89 flX9_36 (st0 hs) (by decide) rfl (sp0_4 hs) ?_
    refine xe_bipush dX9_count_92 kb_8 ?_
    refine xe_callVI (d' := 0) (y' := mX6_inRow) dX9_count_94 mlX9_140 mvX6_inRow rfl (st34 hs) (by decide) rfl (by decide) (by decide) (Nat.le_of_ble_eq_true rfl) (c_X6_inRow l g _ (by exact hs) _ (by omega)) rfl ?_
    refine xe_top (v' := q_s8 (q_cr h) (8 * 8)) (q_cr_in h (by omega)) ?_
    refine xe_ireturn dX9_count_97 rfl (by first | rfl | decide +kernel) ?_
    exact ⟨rfl, rfl⟩
  · refine q_CdV mvX9_count (Nat.le_of_ble_eq_true rfl) ?_
    refine xe_iload_n dX9_count_0 rfl ?_
    refine xe_tsw_in (tgt := 88) dX9_count_1 (by decide) (by decide) rfl rfl ?_
    refine xe_aload_n dX9_count_88 rfl ?_
    refine xe_getP dX9_count_89 flX9_36 (st0 hs) (by decide) rfl (sp0_4 hs) ?_
    refine xe_bipush dX9_count_92 kb_8 ?_
    refine xe_callVI (d' := 0) (y' := mX6_inRow) dX9_count_94 mlX9_140 mvX6_inRow rfl (st34 hs) (by decide) rfl (by decide) (by decide) (Nat.le_of_ble_eq_true rfl) (c_X6_inRow l g _ (by exact hs) _ (by omega)) rfl ?_
    refine xe_top (v' := q_s8 (q_cr h) (8 * 8)) (q_cr_in h (by omega)) ?_
    refine xe_ireturn dX9_count_97 rfl (by first | rfl | decide +kernel) ?_
    exact ⟨rfl, rfl⟩
theorem c_X9_count_4 (l : Launch) (g : q_GP) (h : q_H) (hs : q_Stat h) {p nm nd nc mo n : Nat} (hp : rk_P h p nm nd nc mo n) : q_Cd l g 2 mX9_count [.ref 0, .int (nI 4)] h (some (.int (q_sum (fun k => q_s8 (q_cr h) (8 * k)) nm))) h := by
  obtain ⟨P0, P1, P2, P2b, P3, P3b, P4, P4b, P5, P5b, P6, P6b⟩ := id hp
  rcases P1 with rfl | rfl
  · refine q_CdV mvX9_count (Nat.le_of_ble_eq_true rfl) ?_
    refine xe_iload_n dX9_count_0 rfl ?_
    refine xe_tsw_in (tgt := 98) dX9_count_1 (by decide) (by decide) rfl rfl ?_
    refine xe_aload_n dX9_count_98 rfl ?_
    refine xe_callVI (d' := 1) (y' := mX9_onAllGeese) dX9_count_99 mlX9_223 mvX9_onAllGeese rfl (st0 hs) (by decide) rfl (by decide) (by decide) (Nat.le_of_ble_eq_true rfl) (c_X9_onAllGeese l g _ (by exact hs) (by exact hp)) rfl ?_
    refine xe_ireturn dX9_count_102 rfl (by first | rfl | decide +kernel) ?_
    exact ⟨rfl, rfl⟩
  · refine q_CdV mvX9_count (Nat.le_of_ble_eq_true rfl) ?_
    refine xe_iload_n dX9_count_0 rfl ?_
    refine xe_tsw_in (tgt := 98) dX9_count_1 (by decide) (by decide) rfl rfl ?_
    refine xe_aload_n dX9_count_98 rfl ?_
    refine xe_callVI (d' := 1) (y' := mX9_onAllGeese) dX9_count_99 mlX9_223 mvX9_onAllGeese rfl (st0 hs) (by decide) rfl (by decide) (by decide) (Nat.le_of_ble_eq_true rfl) (c_X9_onAllGeese l g _ (by exact hs) (by exact hp)) rfl ?_
    refine xe_ireturn dX9_count_102 rfl (by first | rfl | decide +kernel) ?_
    exact ⟨rfl, rfl⟩
theorem c_X9_count_5 (l : Launch) (g : q_GP) (h : q_H) (hs : q_Stat h) {p nm nd nc mo n : Nat} (hp : rk_P h p nm nd nc mo n) : q_Cd l g 2 mX9_count [.ref 0, .int (nI 5)] h (some (.int (q_I h 34 5))) h := by
  obtain ⟨P0, P1, P2, P2b, P3, P3b, P4, P4b, P5, P5b, P6, P6b⟩ := id hp
  rcases P1 with rfl | rfl
  · refine q_CdV mvX9_count (Nat.le_of_ble_eq_true rfl) ?_
    refine xe_iload_n dX9_count_0 rfl ?_
    refine xe_tsw_in (tgt := 103) dX9_count_1 (by decide) (by decide) rfl rfl ?_
    refine xe_aload_n dX9_count_103 rfl ?_
    refine xe_getP dX9_count_104 flX9_36 (st0 hs) (by decide) rfl (sp0_4 hs) ?_
    refine xe_getIv dX9_count_107 flX9_137 (st34 hs) (by decide) rfl (v := (q_I h 34 5)) (rfl) ?_
    refine xe_ireturn dX9_count_110 rfl (by first | rfl | decide +kernel) ?_
    exact ⟨rfl, rfl⟩
  · refine q_CdV mvX9_count (Nat.le_of_ble_eq_true rfl) ?_
    refine xe_iload_n dX9_count_0 rfl ?_
    refine xe_tsw_in (tgt := 103) dX9_count_1 (by decide) (by decide) rfl rfl ?_
    refine xe_aload_n dX9_count_103 rfl ?_
    refine xe_getP dX9_count_104 flX9_36 (st0 hs) (by decide) rfl (sp0_4 hs) ?_
    refine xe_getIv dX9_count_107 flX9_137 (st34 hs) (by decide) rfl (v := (q_I h 34 5)) (rfl) ?_
    refine xe_ireturn dX9_count_110 rfl (by first | rfl | decide +kernel) ?_
    exact ⟨rfl, rfl⟩
theorem c_X9_count_6 (l : Launch) (g : q_GP) (h : q_H) (hs : q_Stat h) {p nm nd nc mo n : Nat} (hp : rk_P h p nm nd nc mo n) : q_Cd l g 2 mX9_count [.ref 0, .int (nI 6)] h (some (.int (nI nc))) h := by
  obtain ⟨P0, P1, P2, P2b, P3, P3b, P4, P4b, P5, P5b, P6, P6b⟩ := id hp
  rcases P1 with rfl | rfl
  · refine q_CdV mvX9_count (Nat.le_of_ble_eq_true rfl) ?_
    refine xe_iload_n dX9_count_0 rfl ?_
    refine xe_tsw_in (tgt := 111) dX9_count_1 (by decide) (by decide) rfl rfl ?_
    refine xe_aload_n dX9_count_111 rfl ?_
    refine xe_getP dX9_count_112 flX9_26 (st0 hs) (by decide) rfl P0 ?_
    refine xe_getIv dX9_count_115 flX9_227 (st10 hs) (by decide) rfl (v := nI nc) (P5) ?_
    refine xe_ireturn dX9_count_118 rfl (by first | rfl | decide +kernel) ?_
    exact ⟨rfl, rfl⟩
  · refine q_CdV mvX9_count (Nat.le_of_ble_eq_true rfl) ?_
    refine xe_iload_n dX9_count_0 rfl ?_
    refine xe_tsw_in (tgt := 111) dX9_count_1 (by decide) (by decide) rfl rfl ?_
    refine xe_aload_n dX9_count_111 rfl ?_
    refine xe_getP dX9_count_112 flX9_26 (st0 hs) (by decide) rfl P0 ?_
    refine xe_getIv dX9_count_115 flX9_227 (st22 hs) (by decide) rfl (v := nI nc) (P5) ?_
    refine xe_ireturn dX9_count_118 rfl (by first | rfl | decide +kernel) ?_
    exact ⟨rfl, rfl⟩
theorem c_X9_count_7 (l : Launch) (g : q_GP) (h : q_H) (hs : q_Stat h) {p nm nd nc mo n : Nat} (hp : rk_P h p nm nd nc mo n) : q_Cd l g 2 mX9_count [.ref 0, .int (nI 7)] h (some (.int (nI mo))) h := by
  obtain ⟨P0, P1, P2, P2b, P3, P3b, P4, P4b, P5, P5b, P6, P6b⟩ := id hp
  rcases P1 with rfl | rfl
  · refine q_CdV mvX9_count (Nat.le_of_ble_eq_true rfl) ?_
    refine xe_iload_n dX9_count_0 rfl ?_
    refine xe_tsw_in (tgt := 119) dX9_count_1 (by decide) (by decide) rfl rfl ?_
    refine xe_aload_n dX9_count_119 rfl ?_
    refine xe_getP dX9_count_120 flX9_26 (st0 hs) (by decide) rfl P0 ?_
    refine xe_getIv dX9_count_123 flX9_230 (st10 hs) (by decide) rfl (v := nI mo) (P6) ?_
    refine xe_ireturn dX9_count_126 rfl (by first | rfl | decide +kernel) ?_
    exact ⟨rfl, rfl⟩
  · refine q_CdV mvX9_count (Nat.le_of_ble_eq_true rfl) ?_
    refine xe_iload_n dX9_count_0 rfl ?_
    refine xe_tsw_in (tgt := 119) dX9_count_1 (by decide) (by decide) rfl rfl ?_
    refine xe_aload_n dX9_count_119 rfl ?_
    refine xe_getP dX9_count_120 flX9_26 (st0 hs) (by decide) rfl P0 ?_
    refine xe_getIv dX9_count_123 flX9_230 (st22 hs) (by decide) rfl (v := nI mo) (P6) ?_
    refine xe_ireturn dX9_count_126 rfl (by first | rfl | decide +kernel) ?_
    exact ⟨rfl, rfl⟩
theorem c_X9_count_8 (l : Launch) (g : q_GP) (h : q_H) (hs : q_Stat h) {p nm nd nc mo n : Nat} (hp : rk_P h p nm nd nc mo n) : q_Cd l g 2 mX9_count [.ref 0, .int (nI 8)] h (some (.int (q_I h 1 1))) h := by
  obtain ⟨P0, P1, P2, P2b, P3, P3b, P4, P4b, P5, P5b, P6, P6b⟩ := id hp
  rcases P1 with rfl | rfl
  · refine q_CdV mvX9_count (Nat.le_of_ble_eq_true rfl) ?_
    refine xe_iload_n dX9_count_0 rfl ?_
    refine xe_tsw_in (tgt := 127) dX9_count_1 (by decide) (by decide) rfl rfl ?_
    refine xe_aload_n dX9_count_127 rfl ?_
    refine xe_getP dX9_count_128 flX9_12 (st0 hs) (by decide) rfl (sp0_0 hs) ?_
    refine xe_getIv dX9_count_131 flX9_97 (st1 hs) (by decide) rfl (v := (q_I h 1 1)) (rfl) ?_
    refine xe_ireturn dX9_count_134 rfl (by first | rfl | decide +kernel) ?_
    exact ⟨rfl, rfl⟩
  · refine q_CdV mvX9_count (Nat.le_of_ble_eq_true rfl) ?_
    refine xe_iload_n dX9_count_0 rfl ?_
    refine xe_tsw_in (tgt := 127) dX9_count_1 (by decide) (by decide) rfl rfl ?_
    refine xe_aload_n dX9_count_127 rfl ?_
    refine xe_getP dX9_count_128 flX9_12 (st0 hs) (by decide) rfl (sp0_0 hs) ?_
    refine xe_getIv dX9_count_131 flX9_97 (st1 hs) (by decide) rfl (v := (q_I h 1 1)) (rfl) ?_
    refine xe_ireturn dX9_count_134 rfl (by first | rfl | decide +kernel) ?_
    exact ⟨rfl, rfl⟩
theorem c_X9_count_9 (l : Launch) (g : q_GP) (h : q_H) (hs : q_Stat h) {p nm nd nc mo n : Nat} (hp : rk_P h p nm nd nc mo n) : q_Cd l g 2 mX9_count [.ref 0, .int (nI 9)] h (some (.int (q_I h 42 2))) h := by
  obtain ⟨P0, P1, P2, P2b, P3, P3b, P4, P4b, P5, P5b, P6, P6b⟩ := id hp
  rcases P1 with rfl | rfl
  · refine q_CdV mvX9_count (Nat.le_of_ble_eq_true rfl) ?_
    refine xe_iload_n dX9_count_0 rfl ?_
    refine xe_tsw_in (tgt := 135) dX9_count_1 (by decide) (by decide) rfl rfl ?_
    refine xe_aload_n dX9_count_135 rfl ?_
    refine xe_getP dX9_count_136 flX9_51 (st0 hs) (by decide) rfl (sp0_7 hs) ?_
    refine xe_getIv dX9_count_139 flX9_124 (st42 hs) (by decide) rfl (v := (q_I h 42 2)) (rfl) ?_
    refine xe_ireturn dX9_count_142 rfl (by first | rfl | decide +kernel) ?_
    exact ⟨rfl, rfl⟩
  · refine q_CdV mvX9_count (Nat.le_of_ble_eq_true rfl) ?_
    refine xe_iload_n dX9_count_0 rfl ?_
    refine xe_tsw_in (tgt := 135) dX9_count_1 (by decide) (by decide) rfl rfl ?_
    refine xe_aload_n dX9_count_135 rfl ?_
    refine xe_getP dX9_count_136 flX9_51 (st0 hs) (by decide) rfl (sp0_7 hs) ?_
    refine xe_getIv dX9_count_139 flX9_124 (st42 hs) (by decide) rfl (v := (q_I h 42 2)) (rfl) ?_
    refine xe_ireturn dX9_count_142 rfl (by first | rfl | decide +kernel) ?_
    exact ⟨rfl, rfl⟩
theorem c_X9_count_10 (l : Launch) (g : q_GP) (h : q_H) (hs : q_Stat h) {p nm nd nc mo n : Nat} (hp : rk_P h p nm nd nc mo n) : q_Cd l g 2 mX9_count [.ref 0, .int (nI 10)] h (some (.int (q_I h 94 3))) h := by
  obtain ⟨P0, P1, P2, P2b, P3, P3b, P4, P4b, P5, P5b, P6, P6b⟩ := id hp
  rcases P1 with rfl | rfl
  · refine q_CdV mvX9_count (Nat.le_of_ble_eq_true rfl) ?_
    refine xe_iload_n dX9_count_0 rfl ?_
    refine xe_tsw_in (tgt := 143) dX9_count_1 (by decide) (by decide) rfl rfl ?_
    refine xe_aload_n dX9_count_143 rfl ?_
    refine xe_getP dX9_count_144 flX9_58 (st0 hs) (by decide) rfl (sp0_8 hs) ?_
    refine xe_getIv dX9_count_147 flX9_127 (st94 hs) (by decide) rfl (v := (q_I h 94 3)) (rfl) ?_
    refine xe_ireturn dX9_count_150 rfl (by first | rfl | decide +kernel) ?_
    exact ⟨rfl, rfl⟩
  · refine q_CdV mvX9_count (Nat.le_of_ble_eq_true rfl) ?_
    refine xe_iload_n dX9_count_0 rfl ?_
    refine xe_tsw_in (tgt := 143) dX9_count_1 (by decide) (by decide) rfl rfl ?_
    refine xe_aload_n dX9_count_143 rfl ?_
    refine xe_getP dX9_count_144 flX9_58 (st0 hs) (by decide) rfl (sp0_8 hs) ?_
    refine xe_getIv dX9_count_147 flX9_127 (st94 hs) (by decide) rfl (v := (q_I h 94 3)) (rfl) ?_
    refine xe_ireturn dX9_count_150 rfl (by first | rfl | decide +kernel) ?_
    exact ⟨rfl, rfl⟩
theorem c_X9_count_11 (l : Launch) (g : q_GP) (h : q_H) (hs : q_Stat h) {p nm nd nc mo n : Nat} (hp : rk_P h p nm nd nc mo n) : q_Cd l g 2 mX9_count [.ref 0, .int (nI 11)] h (some (.int (nI (q_shl (q_I h 41) 3)))) h := by
  obtain ⟨P0, P1, P2, P2b, P3, P3b, P4, P4b, P5, P5b, P6, P6b⟩ := id hp
  rcases P1 with rfl | rfl
  · refine q_CdV mvX9_count (Nat.le_of_ble_eq_true rfl) ?_
    refine xe_iload_n dX9_count_0 rfl ?_
    refine xe_tsw_in (tgt := 151) dX9_count_1 (by decide) (by decide) rfl rfl ?_
    refine xe_aload_n dX9_count_151 rfl ?_
    refine xe_callVI (d' := 0) (y' := mX9_slotsHeld) dX9_count_152 mlX9_233 mvX9_slotsHeld rfl (st0 hs) (by decide) rfl (by decide) (by decide) (Nat.le_of_ble_eq_true rfl) (c_X9_slotsHeld l g _ (by exact hs)) rfl ?_
    refine xe_ireturn dX9_count_155 rfl (by first | rfl | decide +kernel) ?_
    exact ⟨rfl, rfl⟩
  · refine q_CdV mvX9_count (Nat.le_of_ble_eq_true rfl) ?_
    refine xe_iload_n dX9_count_0 rfl ?_
    refine xe_tsw_in (tgt := 151) dX9_count_1 (by decide) (by decide) rfl rfl ?_
    refine xe_aload_n dX9_count_151 rfl ?_
    refine xe_callVI (d' := 0) (y' := mX9_slotsHeld) dX9_count_152 mlX9_233 mvX9_slotsHeld rfl (st0 hs) (by decide) rfl (by decide) (by decide) (Nat.le_of_ble_eq_true rfl) (c_X9_slotsHeld l g _ (by exact hs)) rfl ?_
    refine xe_ireturn dX9_count_155 rfl (by first | rfl | decide +kernel) ?_
    exact ⟨rfl, rfl⟩
theorem c_X9_count_b (l : Launch) (g : q_GP) (h : q_H) (hs : q_Stat h) (x : Int32) (hx : x.toInt < 0 ∨ 11 < x.toInt) : q_Cd l g 2 mX9_count [.ref 0, .int x] h (some (.int (-1))) h := by
  refine q_CdV mvX9_count (Nat.le_of_ble_eq_true rfl) ?_
  refine xe_iload_n dX9_count_0 rfl ?_
  refine xe_tsw_out (tgt := 156) dX9_count_1 (hx) rfl ?_
  refine xe_iconst dX9_count_156 kc_m1 ?_
  refine xe_ireturn dX9_count_157 rfl (by first | rfl | decide +kernel) ?_
  exact ⟨rfl, rfl⟩
