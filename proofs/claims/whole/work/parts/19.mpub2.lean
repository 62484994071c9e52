/-! the reference: man, count -/
theorem c_X10_man_0 (l : Launch) (g : q_GP) (h : q_H) (hs : q_Stat h) {lv nm nd nc mo : Nat} (hp : rm_P h lv nm nd nc mo) {LW : q_LW} (hL : rm_L h lv LW) {w : Nat} (hw : q_I h 154 200 = nI w) (hw2 : w < 2 ^ 20) {m : Nat} (hm : m < nm) : q_Ct l g 4 mX10_man [.ref 124, .int (nI m), .int (nI 0)] h (fun r h1 => r = some (.int (q_s8 (q_I h 154) (8 * m))) ∧ q_mag h h1) := by
  obtain ⟨p1, p2, p3, p4, p5, p6, p7, p8, p9, p10⟩ := id hp
  have h1 := q_ltn_t (by omega : nm < 2 ^ 31) hm
  refine q_CtV mvX10_man (Nat.le_of_ble_eq_true rfl) ?_
  refine xe_aload_n dX10_man_0 rfl ?_
  refine xe_iload_n dX10_man_1 rfl ?_
  refine xe_callVI (d' := 1) (y' := mX10_isMan) dX10_man_2 mlX10_340 mvX10_isMan rfl (st124 hs) (by decide) rfl (by decide) (by decide) (Nat.le_of_ble_eq_true rfl) (c_X10_isManv l g _ (by exact hs) (by exact hp) _ (by assumption)) rfl ?_
  refine xn_if_ne (tgt := 10) dX10_man_5 rfl (by omega) (fun c1 => ?_) (fun c1 => ?_)
  · refine xe_aload_n dX10_man_10 rfl ?_
    refine xe_callVV (d' := 0) (y' := mX10_copies) dX10_man_11 mlX10_343 mvX10_copies rfl (st124 hs) (by decide) rfl (by decide) (by decide) (Nat.le_of_ble_eq_true rfl) (c_X10_copies l g _ (by exact hs)) rfl ?_
    refine xe_iload_n dX10_man_14 rfl ?_
    refine xe_tsw_in (tgt := 56) dX10_man_15 (by decide) (by decide) rfl rfl ?_
    refine xe_aload_n dX10_man_56 rfl ?_
    refine xe_iload_n dX10_man_57 rfl ?_
    refine xe_callVI (d' := 0) (y' := mX10_haveOf) dX10_man_58 mlX10_319 mvX10_haveOf rfl (st124 hs) (by decide) rfl (by decide) (by decide) (Nat.le_of_ble_eq_true rfl) (c_X10_haveOf l g _ (by exact hs) _ (by omega)) rfl ?_
    refine xe_ireturn dX10_man_61 rfl (by first | rfl | decide +kernel) ?_
    exact ⟨congrArg (fun v => some (Value.int v)) (q_s8_rq (q_req_cpy _ _ (by decide)) (by omega)), q_mag_w (q_mag_r h) _ rfl (by decide)⟩
  · omega
theorem c_X10_man_1 (l : Launch) (g : q_GP) (h : q_H) (hs : q_Stat h) {lv nm nd nc mo : Nat} (hp : rm_P h lv nm nd nc mo) {LW : q_LW} (hL : rm_L h lv LW) {w : Nat} (hw : q_I h 154 200 = nI w) (hw2 : w < 2 ^ 20) {m : Nat} (hm : m < nm) : q_Ct l g 4 mX10_man [.ref 124, .int (nI m), .int (nI 1)] h (fun r h1 => r = some (.int (q_I h 154 (9 * m))) ∧ q_mag h h1) := by
  obtain ⟨p1, p2, p3, p4, p5, p6, p7, p8, p9, p10⟩ := id hp
  have h1 := q_ltn_t (by omega : nm < 2 ^ 31) hm
  refine q_CtV mvX10_man (Nat.le_of_ble_eq_true rfl) ?_
  refine xe_aload_n dX10_man_0 rfl ?_
  refine xe_iload_n dX10_man_1 rfl ?_
  refine xe_callVI (d' := 1) (y' := mX10_isMan) dX10_man_2 mlX10_340 mvX10_isMan rfl (st124 hs) (by decide) rfl (by decide) (by decide) (Nat.le_of_ble_eq_true rfl) (c_X10_isManv l g _ (by exact hs) (by exact hp) _ (by assumption)) rfl ?_
  refine xn_if_ne (tgt := 10) dX10_man_5 rfl (by omega) (fun c1 => ?_) (fun c1 => ?_)
  · refine xe_aload_n dX10_man_10 rfl ?_
    refine xe_callVV (d' := 0) (y' := mX10_copies) dX10_man_11 mlX10_343 mvX10_copies rfl (st124 hs) (by decide) rfl (by decide) (by decide) (Nat.le_of_ble_eq_true rfl) (c_X10_copies l g _ (by exact hs)) rfl ?_
    refine xe_iload_n dX10_man_14 rfl ?_
    refine xe_tsw_in (tgt := 62) dX10_man_15 (by decide) (by decide) rfl rfl ?_
    refine xe_aload_n dX10_man_62 rfl ?_
    refine xe_getP dX10_man_63 flX10_110 (st124 hs) (by decide) rfl (sp124_48 hs) ?_
    refine xe_bipush dX10_man_66 kb_9 ?_
    refine xe_iload_n dX10_man_68 rfl ?_
    refine xn_imul dX10_man_69 ?_
    refine xn_iald dX10_man_70 (st155 hs) (by omega) (by decide) ?_
    refine xe_ireturn dX10_man_71 rfl (by first | rfl | decide +kernel) ?_
    exact ⟨congrArg (fun v => some (Value.int v)) ((q_req_cpy _ _ (by decide)) _ (by omega)), q_mag_w (q_mag_r h) _ rfl (by decide)⟩
  · omega
theorem c_X10_man_2 (l : Launch) (g : q_GP) (h : q_H) (hs : q_Stat h) {lv nm nd nc mo : Nat} (hp : rm_P h lv nm nd nc mo) {LW : q_LW} (hL : rm_L h lv LW) {w : Nat} (hw : q_I h 154 200 = nI w) (hw2 : w < 2 ^ 20) {m : Nat} (hm : m < nm) : q_Ct l g 4 mX10_man [.ref 124, .int (nI m), .int (nI 2)] h (fun r h1 => r = some (.int (q_s8 (q_I h 154) (136 + 8 * m))) ∧ q_mag h h1) := by
  obtain ⟨p1, p2, p3, p4, p5, p6, p7, p8, p9, p10⟩ := id hp
  have h1 := q_ltn_t (by omega : nm < 2 ^ 31) hm
  refine q_CtV mvX10_man (Nat.le_of_ble_eq_true rfl) ?_
  refine xe_aload_n dX10_man_0 rfl ?_
  refine xe_iload_n dX10_man_1 rfl ?_
  refine xe_callVI (d' := 1) (y' := mX10_isMan) dX10_man_2 mlX10_340 mvX10_isMan rfl (st124 hs) (by decide) rfl (by decide) (by decide) (Nat.le_of_ble_eq_true rfl) (c_X10_isManv l g _ (by exact hs) (by exact hp) _ (by assumption)) rfl ?_
  refine xn_if_ne (tgt := 10) dX10_man_5 rfl (by omega) (fun c1 => ?_) (fun c1 => ?_)
  · refine xe_aload_n dX10_man_10 rfl ?_
    refine xe_callVV (d' := 0) (y' := mX10_copies) dX10_man_11 mlX10_343 mvX10_copies rfl (st124 hs) (by decide) rfl (by decide) (by decide) (Nat.le_of_ble_eq_true rfl) (c_X10_copies l g _ (by exact hs)) rfl ?_
    refine xe_iload_n dX10_man_14 rfl ?_
    refine xe_tsw_in (tgt := 72) dX10_man_15 (by decide) (by decide) rfl rfl ?_
    refine xe_aload_n dX10_man_72 rfl ?_
    refine xe_iload_n dX10_man_73 rfl ?_
    refine xe_callVI (d' := 0) (y' := mX10_timesOf) dX10_man_74 mlX10_334 mvX10_timesOf rfl (st124 hs) (by decide) rfl (by decide) (by decide) (Nat.le_of_ble_eq_true rfl) (c_X10_timesOf l g _ (by exact hs) _ (by omega)) rfl ?_
    refine xe_ireturn dX10_man_77 rfl (by first | rfl | decide +kernel) ?_
    exact ⟨congrArg (fun v => some (Value.int v)) (q_s8_rq (q_req_cpy _ _ (by decide)) (by omega)), q_mag_w (q_mag_r h) _ rfl (by decide)⟩
  · omega
theorem c_X10_man_3 (l : Launch) (g : q_GP) (h : q_H) (hs : q_Stat h) {lv nm nd nc mo : Nat} (hp : rm_P h lv nm nd nc mo) {LW : q_LW} (hL : rm_L h lv LW) {w : Nat} (hw : q_I h 154 200 = nI w) (hw2 : w < 2 ^ 20) {m : Nat} (hm : m < nm) : q_Ct l g 4 mX10_man [.ref 124, .int (nI m), .int (nI 3)] h (fun r h1 => r = some (.int (q_sum (fun k => q_I h 154 (72 + 8 * k + m) - q_I h 154 (72 + 8 * m + k)) 8)) ∧ q_mag h h1) := by
  obtain ⟨p1, p2, p3, p4, p5, p6, p7, p8, p9, p10⟩ := id hp
  have h1 := q_ltn_t (by omega : nm < 2 ^ 31) hm
  refine q_CtV mvX10_man (Nat.le_of_ble_eq_true rfl) ?_
  refine xe_aload_n dX10_man_0 rfl ?_
  refine xe_iload_n dX10_man_1 rfl ?_
  refine xe_callVI (d' := 1) (y' := mX10_isMan) dX10_man_2 mlX10_340 mvX10_isMan rfl (st124 hs) (by decide) rfl (by decide) (by decide) (Nat.le_of_ble_eq_true rfl) (c_X10_isManv l g _ (by exact hs) (by exact hp) _ (by assumption)) rfl ?_
  refine xn_if_ne (tgt := 10) dX10_man_5 rfl (by omega) (fun c1 => ?_) (fun c1 => ?_)
  · refine xe_aload_n dX10_man_10 rfl ?_
    refine xe_callVV (d' := 0) (y' := mX10_copies) dX10_man_11 mlX10_343 mvX10_copies rfl (st124 hs) (by decide) rfl (by decide) (by decide) (Nat.le_of_ble_eq_true rfl) (c_X10_copies l g _ (by exact hs)) rfl ?_
    refine xe_iload_n dX10_man_14 rfl ?_
    refine xe_tsw_in (tgt := 78) dX10_man_15 (by decide) (by decide) rfl rfl ?_
    refine xe_aload_n dX10_man_78 rfl ?_
    refine xe_iload_n dX10_man_79 rfl ?_
    refine xe_callVI (d' := 0) (y' := mX10_netOf) dX10_man_80 mlX10_346 mvX10_netOf rfl (st124 hs) (by decide) rfl (by decide) (by decide) (Nat.le_of_ble_eq_true rfl) (c_X10_netOf l g _ (by exact hs) _ (by omega)) rfl ?_
    refine xe_ireturn dX10_man_83 rfl (by first | rfl | decide +kernel) ?_
    exact ⟨rfl, q_mag_w (q_mag_r h) _ rfl (by decide)⟩
  · omega
theorem q_ite_bl {c : Prop} (_ : Decidable c) : q_bl (if c then nI 1 else nI 0) := by
  split
  · exact Or.inr rfl
  · exact Or.inl rfl
theorem q_ite_0 {c : Prop} (_ : Decidable c) (h : (if c then nI 1 else nI 0) = 0) : ¬ c := by
  intro q
  rw [if_pos q] at h
  exact absurd h (by decide)
theorem q_ite_1 {c : Prop} (_ : Decidable c) (h : ¬ (if c then nI 1 else nI 0) = 0) : c := by
  rcases Classical.em c with q | q
  · exact q
  · rw [if_neg q] at h
    exact absurd nI_0 h
theorem c_X10_man_4 (l : Launch) (g : q_GP) (h : q_H) (hs : q_Stat h) {lv nm nd nc mo : Nat} (hp : rm_P h lv nm nd nc mo) {LW : q_LW} (hL : rm_L h lv LW) {w : Nat} (hw : q_I h 154 200 = nI w) (hw2 : w < 2 ^ 20) {m : Nat} (hm : m < nm) : q_Ct l g 4 mX10_man [.ref 124, .int (nI m), .int (nI 4)] h (fun r h1 => r = some (.int (if 0 < q_wrm (q_I h 154) (q_I h 140) LW lv nc w m then nI 1 else nI 0)) ∧ q_mag h h1) := by
  obtain ⟨p1, p2, p3, p4, p5, p6, p7, p8, p9, p10⟩ := id hp
  have h1 := q_ltn_t (by omega : nm < 2 ^ 31) hm
  refine q_CtV mvX10_man (Nat.le_of_ble_eq_true rfl) ?_
  refine xe_aload_n dX10_man_0 rfl ?_
  refine xe_iload_n dX10_man_1 rfl ?_
  refine xe_callVI (d' := 1) (y' := mX10_isMan) dX10_man_2 mlX10_340 mvX10_isMan rfl (st124 hs) (by decide) rfl (by decide) (by decide) (Nat.le_of_ble_eq_true rfl) (c_X10_isManv l g _ (by exact hs) (by exact hp) _ (by assumption)) rfl ?_
  refine xn_if_ne (tgt := 10) dX10_man_5 rfl (by omega) (fun c1 => ?_) (fun c1 => ?_)
  · refine xe_aload_n dX10_man_10 rfl ?_
    refine xe_callVV (d' := 0) (y' := mX10_copies) dX10_man_11 mlX10_343 mvX10_copies rfl (st124 hs) (by decide) rfl (by decide) (by decide) (Nat.le_of_ble_eq_true rfl) (c_X10_copies l g _ (by exact hs)) rfl ?_
    refine xe_iload_n dX10_man_14 rfl ?_
    refine xe_tsw_in (tgt := 84) dX10_man_15 (by decide) (by decide) rfl rfl ?_
    refine xe_aload_n dX10_man_84 rfl ?_
    refine xe_iload_n dX10_man_85 rfl ?_
    refine xe_callVIq (d' := 2) (y' := mX10_isWarm) dX10_man_86 mlX10_349 mvX10_isWarm rfl (st124 hs) (by decide) rfl (by decide) (by decide) (Nat.le_of_ble_eq_true rfl) (c_X10_isWarm l g _ (by exact hs) (by exact hp) (by exact rm_L_of (h := h) ⟨rfl, rfl, rfl, rfl, rfl, rfl, rfl, rfl, rfl⟩ hL) (by exact hw) (by omega) _ (by omega)) rfl (fun h1 hq => ?_)
    obtain ⟨V1, p1, b1, rfl⟩ := hq
    refine xe_if_eq (tgt := 96) dX10_man_89 rfl (fun c2 => ?_) (fun c2 => ?_)
    · have e4 := q_wrm_rq (q_req_cpy (q_I h 154) (q_I h 155) (n := 210) (by decide)) (q_I h 140) LW lv nc w (m := m) (by omega)
      have c_w : ¬ 0 < q_wrm (q_cpy (q_I h 154) (q_I h 155) 210) (q_I h 140) LW lv nc w m := q_ite_0 _ c2
      refine xe_iconst dX10_man_96 kc_0 ?_
      refine xe_ireturn dX10_man_97 rfl (by first | rfl | decide +kernel) ?_
      exact ⟨by rw [← e4]; first | rw [if_neg c_w] | rw [if_pos c_w], q_mag_row _ _ _ _ _⟩
    · have e4 := q_wrm_rq (q_req_cpy (q_I h 154) (q_I h 155) (n := 210) (by decide)) (q_I h 140) LW lv nc w (m := m) (by omega)
      have c_w : 0 < q_wrm (q_cpy (q_I h 154) (q_I h 155) 210) (q_I h 140) LW lv nc w m := q_ite_1 _ c2
      refine xe_iconst dX10_man_92 kc_1 ?_
      refine xe_goto (tgt := 97) dX10_man_93 rfl ?_
      refine xe_ireturn dX10_man_97 rfl (by first | rfl | decide +kernel) ?_
      exact ⟨by rw [← e4]; first | rw [if_neg c_w] | rw [if_pos c_w], q_mag_row _ _ _ _ _⟩
  · omega
theorem c_X10_man_5 (l : Launch) (g : q_GP) (h : q_H) (hs : q_Stat h) {lv nm nd nc mo : Nat} (hp : rm_P h lv nm nd nc mo) {LW : q_LW} (hL : rm_L h lv LW) {w : Nat} (hw : q_I h 154 200 = nI w) (hw2 : w < 2 ^ 20) {m : Nat} (hm : m < nm) : q_Ct l g 4 mX10_man [.ref 124, .int (nI m), .int (nI 5)] h (fun r h1 => r = some (.int (nI (q_vb (q_vv (q_I h 154) (q_I h 140) (fun k => q_s8 (q_I h 154) (8 * k)) LW lv nc w m) nm).1)) ∧ q_mag h h1) := by
  obtain ⟨p1, p2, p3, p4, p5, p6, p7, p8, p9, p10⟩ := id hp
  have h1 := q_ltn_t (by omega : nm < 2 ^ 31) hm
  refine q_CtV mvX10_man (Nat.le_of_ble_eq_true rfl) ?_
  refine xe_aload_n dX10_man_0 rfl ?_
  refine xe_iload_n dX10_man_1 rfl ?_
  refine xe_callVI (d' := 1) (y' := mX10_isMan) dX10_man_2 mlX10_340 mvX10_isMan rfl (st124 hs) (by decide) rfl (by decide) (by decide) (Nat.le_of_ble_eq_true rfl) (c_X10_isManv l g _ (by exact hs) (by exact hp) _ (by assumption)) rfl ?_
  refine xn_if_ne (tgt := 10) dX10_man_5 rfl (by omega) (fun c1 => ?_) (fun c1 => ?_)
  · refine xe_aload_n dX10_man_10 rfl ?_
    refine xe_callVV (d' := 0) (y' := mX10_copies) dX10_man_11 mlX10_343 mvX10_copies rfl (st124 hs) (by decide) rfl (by decide) (by decide) (Nat.le_of_ble_eq_true rfl) (c_X10_copies l g _ (by exact hs)) rfl ?_
    refine xe_iload_n dX10_man_14 rfl ?_
    refine xe_tsw_in (tgt := 98) dX10_man_15 (by decide) (by decide) rfl rfl ?_
    refine xe_aload_n dX10_man_98 rfl ?_
    refine xe_callVV (d' := 1) (y' := mX10_fillsHave) dX10_man_99 mlX10_352 mvX10_fillsHave rfl (st124 hs) (by decide) rfl (by decide) (by decide) (Nat.le_of_ble_eq_true rfl) (c_X10_fillsHave l g _ (by exact hs)) rfl ?_
    refine xe_aload_n dX10_man_102 rfl ?_
    refine xe_iload_n dX10_man_103 rfl ?_
    refine xe_callVIq (d' := 2) (y' := mX10_voteOf) dX10_man_104 mlX10_337 mvX10_voteOf rfl (st124 hs) (by decide) rfl (by decide) (by decide) (Nat.le_of_ble_eq_true rfl) (c_X10_voteOf l g _ (by exact hs) (by exact hp) (by exact rm_L_of (h := h) ⟨rfl, rfl, rfl, rfl, rfl, rfl, rfl, rfl, rfl⟩ hL) (by exact hw) (by omega) _ (by omega)) rfl (fun h1 hq => ?_)
    obtain ⟨V1, p1, b1, rfl⟩ := hq
    refine xe_ireturn dX10_man_107 rfl (by first | rfl | decide +kernel) ?_
    exact ⟨congrArg (fun v => some (Value.int (nI v.1))) (q_vb_co (fun o ho => q_vv_rq (q_req_cpy _ _ (by decide)) _ _ _ _ _ _ (by omega) ((if_pos (by omega)).trans (q_s8_rq (q_req_cpy _ _ (by decide)) (by omega))))), q_mag_s3 (q_mag_w (q_mag_w (q_mag_r h) _ rfl (by decide)) _ rfl (by decide)) _ _ _⟩
  · omega
theorem q_sumz {f : Nat → Int32} {n : Nat} (h : f n = 0) : q_sum f n = q_sum f (n + 1) := by
  show _ = q_sum f n + f n
  rw [h, Int32.add_zero]
/-- what grew on goose m and is elsewhere -/
def q_els (R : Nat → Int32) (m : Nat) : Int32 := q_sum (fun k => if k = m then 0 else R (8 * k + m)) 9
theorem c_X10_man_6 (l : Launch) (g : q_GP) (h : q_H) (hs : q_Stat h) {lv nm nd nc mo : Nat} (hp : rm_P h lv nm nd nc mo) {LW : q_LW} (hL : rm_L h lv LW) {w : Nat} (hw : q_I h 154 200 = nI w) (hw2 : w < 2 ^ 20) {m : Nat} (hm : m < nm) : q_Ct l g 4 mX10_man [.ref 124, .int (nI m), .int (nI 6)] h (fun r h1 => r = some (.int (q_els (q_I h 154) m)) ∧ q_mag h h1) := by
  obtain ⟨p1, p2, p3, p4, p5, p6, p7, p8, p9, p10⟩ := id hp
  have h1 := q_ltn_t (by omega : nm < 2 ^ 31) hm
  refine q_CtV mvX10_man (Nat.le_of_ble_eq_true rfl) ?_
  refine xe_aload_n dX10_man_0 rfl ?_
  refine xe_iload_n dX10_man_1 rfl ?_
  refine xe_callVI (d' := 1) (y' := mX10_isMan) dX10_man_2 mlX10_340 mvX10_isMan rfl (st124 hs) (by decide) rfl (by decide) (by decide) (Nat.le_of_ble_eq_true rfl) (c_X10_isManv l g _ (by exact hs) (by exact hp) _ (by assumption)) rfl ?_
  refine xn_if_ne (tgt := 10) dX10_man_5 rfl (by omega) (fun c1 => ?_) (fun c1 => ?_)
  · refine xe_aload_n dX10_man_10 rfl ?_
    refine xe_callVV (d' := 0) (y' := mX10_copies) dX10_man_11 mlX10_343 mvX10_copies rfl (st124 hs) (by decide) rfl (by decide) (by decide) (Nat.le_of_ble_eq_true rfl) (c_X10_copies l g _ (by exact hs)) rfl ?_
    refine xe_iload_n dX10_man_14 rfl ?_
    refine xe_tsw_in (tgt := 108) dX10_man_15 (by decide) (by decide) rfl rfl ?_
    refine xe_iconst dX10_man_108 kc_0 ?_
    refine xe_istore_n (i := 3) dX10_man_109 rfl (by decide) rfl ?_
    refine xe_iconst dX10_man_110 kc_0 ?_
    refine xe_istore dX10_man_111 (by decide) rfl ?_
    refine xe_locals (L' := (fun i => [(0, .ref 124), (1, .int (nI m)), (2, .int (nI 6)), (3, .int (q_sum (fun k => if k = m then 0 else (q_cpy (q_I h 154) (q_I h 155) 210) (8 * k + m)) i)), (4, .int (nI i))]) 0) (And.intro rfl (And.intro rfl (And.intro rfl (And.intro rfl (And.intro rfl trivial))))) ?_
    refine xe_for 9 (fun i => [(0, .ref 124), (1, .int (nI m)), (2, .int (nI 6)), (3, .int (q_sum (fun k => if k = m then 0 else (q_cpy (q_I h 154) (q_I h 155) 210) (8 * k + m)) i)), (4, .int (nI i))]) (fun _ => q_wI h 155 (q_cpy (q_I h 154) (q_I h 155) 210)) (fun i hi K => ?_) ?_
    · refine xe_iload dX10_man_113 rfl ?_
      refine xe_bipush dX10_man_115 kb_9 ?_
      refine xn_icmp_ge (tgt := 147) dX10_man_117 rfl (by omega) (by omega) (fun c1 => ?_) (fun c1 => ?_)
      · omega
      · refine xe_iload dX10_man_120 rfl ?_
        refine xe_iload_n dX10_man_122 rfl ?_
        refine xn_icmp_eq (tgt := 141) dX10_man_123 rfl (by omega) (by omega) (fun c2 => ?_) (fun c2 => ?_)
        · have c_e := c2
          refine xn_iinc dX10_man_141 rfl kc_1 ?_
          refine xe_goto (tgt := 113) dX10_man_144 rfl ?_
          have eS : q_sum (fun k => if k = m then 0 else (q_cpy (q_I h 154) (q_I h 155) 210) (8 * k + m)) i = q_sum (fun k => if k = m then 0 else (q_cpy (q_I h 154) (q_I h 155) 210) (8 * k + m)) (i + 1) := q_sumz (f := (fun k => if k = m then 0 else (q_cpy (q_I h 154) (q_I h 155) 210) (8 * k + m))) (if_pos c_e)
          refine xe_locals (L' := (fun i => [(0, .ref 124), (1, .int (nI m)), (2, .int (nI 6)), (3, .int (q_sum (fun k => if k = m then 0 else (q_cpy (q_I h 154) (q_I h 155) 210) (8 * k + m)) i)), (4, .int (nI i))]) (i + 1)) (And.intro rfl (And.intro rfl (And.intro rfl (And.intro (by exact congrArg (fun v => some (Value.int v)) eS) (And.intro rfl trivial))))) ?_
          exact K
        · have c_e := c2
          refine xe_iload_n dX10_man_126 rfl ?_
          refine xe_aload_n dX10_man_127 rfl ?_
          refine xe_getP dX10_man_128 flX10_110 (st124 hs) (by decide) rfl (sp124_48 hs) ?_
          refine xe_bipush dX10_man_131 kb_8 ?_
          refine xe_iload dX10_man_133 rfl ?_
          refine xn_imul dX10_man_135 ?_
          refine xe_iload_n dX10_man_136 rfl ?_
          refine xn_iadd dX10_man_137 ?_
          refine xn_iald dX10_man_138 (st155 hs) (by omega) (by decide) ?_
          refine xe_iadd dX10_man_139 ?_
          refine xe_istore_n (i := 3) dX10_man_140 rfl (by decide) rfl ?_
          refine xn_iinc dX10_man_141 rfl kc_1 ?_
          refine xe_goto (tgt := 113) dX10_man_144 rfl ?_
          have e6 : q_sum (fun k => if k = m then 0 else (q_cpy (q_I h 154) (q_I h 155) 210) (8 * k + m)) (i + 1) = q_sum (fun k => if k = m then 0 else (q_cpy (q_I h 154) (q_I h 155) 210) (8 * k + m)) i + (q_cpy (q_I h 154) (q_I h 155) 210) (8 * i + m) := congrArg (q_sum (fun k => if k = m then 0 else (q_cpy (q_I h 154) (q_I h 155) 210) (8 * k + m)) i + ·) (if_neg c_e)
          refine xe_locals (L' := (fun i => [(0, .ref 124), (1, .int (nI m)), (2, .int (nI 6)), (3, .int (q_sum (fun k => if k = m then 0 else (q_cpy (q_I h 154) (q_I h 155) 210) (8 * k + m)) i)), (4, .int (nI i))]) (i + 1)) (And.intro rfl (And.intro rfl (And.intro rfl (And.intro (by exact congrArg (fun v => some (Value.int v)) e6.symm) (And.intro rfl trivial))))) ?_
          exact K
    · refine xe_iload dX10_man_113 rfl ?_
      refine xe_bipush dX10_man_115 kb_9 ?_
      refine xn_icmp_ge (tgt := 147) dX10_man_117 rfl (by omega) (by omega) (fun c1 => ?_) (fun c1 => ?_)
      · refine xe_iload_n dX10_man_147 rfl ?_
        refine xe_ireturn dX10_man_148 rfl (by first | rfl | decide +kernel) ?_
        exact ⟨congrArg (fun v => some (Value.int v)) (q_sum_co (fun k hk => by
          by_cases hkm : k = m
          · rw [if_pos hkm, if_pos hkm]
          · rw [if_neg hkm, if_neg hkm]
            exact q_req_cpy (q_I h 154) (q_I h 155) (n := 210) (by decide) _ (by omega))), q_mag_w (q_mag_r h) _ rfl (by decide)⟩
      · omega
  · omega
theorem c_X10_man_b (l : Launch) (g : q_GP) (h : q_H) (hs : q_Stat h) {lv nm nd nc mo : Nat} (hp : rm_P h lv nm nd nc mo) {LW : q_LW} (hL : rm_L h lv LW) {w : Nat} (hw : q_I h 154 200 = nI w) (hw2 : w < 2 ^ 20) {m : Nat} (hm : m < nm) (x : Int32) (hx : x.toInt < 0 ∨ 6 < x.toInt) : q_Ct l g 4 mX10_man [.ref 124, .int (nI m), .int x] h (fun r h1 => r = some (.int (-1)) ∧ q_mag h h1) := by
  obtain ⟨p1, p2, p3, p4, p5, p6, p7, p8, p9, p10⟩ := id hp
  have h1 := q_ltn_t (by omega : nm < 2 ^ 31) hm
  refine q_CtV mvX10_man (Nat.le_of_ble_eq_true rfl) ?_
  refine xe_aload_n dX10_man_0 rfl ?_
  refine xe_iload_n dX10_man_1 rfl ?_
  refine xe_callVI (d' := 1) (y' := mX10_isMan) dX10_man_2 mlX10_340 mvX10_isMan rfl (st124 hs) (by decide) rfl (by decide) (by decide) (Nat.le_of_ble_eq_true rfl) (c_X10_isManv l g _ (by exact hs) (by exact hp) _ (by assumption)) rfl ?_
  refine xn_if_ne (tgt := 10) dX10_man_5 rfl (by omega) (fun c1 => ?_) (fun c1 => ?_)
  · refine xe_aload_n dX10_man_10 rfl ?_
    refine xe_callVV (d' := 0) (y' := mX10_copies) dX10_man_11 mlX10_343 mvX10_copies rfl (st124 hs) (by decide) rfl (by decide) (by decide) (Nat.le_of_ble_eq_true rfl) (c_X10_copies l g _ (by exact hs)) rfl ?_
    refine xe_iload_n dX10_man_14 rfl ?_
    refine xe_tsw_out (tgt := 149) dX10_man_15 (hx) rfl ?_
    refine xe_iconst dX10_man_149 kc_m1 ?_
    refine xe_ireturn dX10_man_150 rfl (by first | rfl | decide +kernel) ?_
    exact ⟨rfl, q_mag_w (q_mag_r h) _ rfl (by decide)⟩
  · omega
theorem c_X10_man_f (l : Launch) (g : q_GP) (h : q_H) (hs : q_Stat h) {lv nm nd nc mo : Nat} (hp : rm_P h lv nm nd nc mo) (x z : Int32) (hx : ¬ q_isN x nm) : q_Cd l g 4 mX10_man [.ref 124, .int x, .int z] h (some (.int (-1))) h := by
  obtain ⟨p1, p2, p3, p4, p5, p6, p7, p8, p9, p10⟩ := id hp
  have h1 := q_ltn_f (by omega : nm < 2 ^ 31) hx
  refine q_CdV mvX10_man (Nat.le_of_ble_eq_true rfl) ?_
  refine xe_aload_n dX10_man_0 rfl ?_
  refine xe_iload_n dX10_man_1 rfl ?_
  refine xe_callVI (d' := 1) (y' := mX10_isMan) dX10_man_2 mlX10_340 mvX10_isMan rfl (st124 hs) (by decide) rfl (by decide) (by decide) (Nat.le_of_ble_eq_true rfl) (c_X10_isManv l g _ (by exact hs) (by exact hp) _ (by assumption)) rfl ?_
  refine xn_if_ne (tgt := 10) dX10_man_5 rfl (by omega) (fun c1 => ?_) (fun c1 => ?_)
  · omega
  · refine xe_iconst dX10_man_8 kc_m1 ?_
    refine xe_ireturn dX10_man_9 rfl (by first | rfl | decide +kernel) ?_
    exact ⟨rfl, rfl⟩
theorem c_X10_count_0 (l : Launch) (g : q_GP) (h : q_H) (hs : q_Stat h) {lv nm nd nc mo : Nat} (hp : rm_P h lv nm nd nc mo)  : q_Ct l g 2 mX10_count [.ref 124, .int (nI 0)] h (fun r h1 => r = some (.int (nI nm)) ∧ q_mag h h1) := by
  obtain ⟨p1, p2, p3, p4, p5, p6, p7, p8, p9, p10⟩ := id hp
  refine q_CtV mvX10_count (Nat.le_of_ble_eq_true rfl) ?_
  refine xe_aload_n dX10_count_0 rfl ?_
  refine xe_callVV (d' := 0) (y' := mX10_copies) dX10_count_1 mlX10_343 mvX10_copies rfl (st124 hs) (by decide) rfl (by decide) (by decide) (Nat.le_of_ble_eq_true rfl) (c_X10_copies l g _ (by exact hs)) rfl ?_
  refine xe_iload_n dX10_count_4 rfl ?_
  refine xe_tsw_in (tgt := 68) dX10_count_5 (by decide) (by decide) rfl rfl ?_
  refine xe_aload_n dX10_count_68 rfl ?_
  refine xe_getP dX10_count_69 flX10_49 (st124 hs) (by decide) rfl (sp124_24 hs) ?_
  refine xe_aload_n dX10_count_72 rfl ?_
  refine xe_getIv dX10_count_73 flX10_228 (st124 hs) (by decide) rfl (v := nI lv) (p1) ?_
  refine xn_ialdv dX10_count_76 (st135 hs) (by omega) (by decide) (v := nI nm) (p3) ?_
  refine xe_ireturn dX10_count_77 rfl (by first | rfl | decide +kernel) ?_
  exact ⟨rfl, q_mag_w (q_mag_r h) _ rfl (by decide)⟩
theorem c_X10_count_1 (l : Launch) (g : q_GP) (h : q_H) (hs : q_Stat h) {lv nm nd nc mo : Nat} (hp : rm_P h lv nm nd nc mo)  : q_Ct l g 2 mX10_count [.ref 124, .int (nI 1)] h (fun r h1 => r = some (.int (nI nd)) ∧ q_mag h h1) := by
  obtain ⟨p1, p2, p3, p4, p5, p6, p7, p8, p9, p10⟩ := id hp
  refine q_CtV mvX10_count (Nat.le_of_ble_eq_true rfl) ?_
  refine xe_aload_n dX10_count_0 rfl ?_
  refine xe_callVV (d' := 0) (y' := mX10_copies) dX10_count_1 mlX10_343 mvX10_copies rfl (st124 hs) (by decide) rfl (by decide) (by decide) (Nat.le_of_ble_eq_true rfl) (c_X10_copies l g _ (by exact hs)) rfl ?_
  refine xe_iload_n dX10_count_4 rfl ?_
  refine xe_tsw_in (tgt := 78) dX10_count_5 (by decide) (by decide) rfl rfl ?_
  refine xe_aload_n dX10_count_78 rfl ?_
  refine xe_getP dX10_count_79 flX10_55 (st124 hs) (by decide) rfl (sp124_26 hs) ?_
  refine xe_aload_n dX10_count_82 rfl ?_
  refine xe_getIv dX10_count_83 flX10_228 (st124 hs) (by decide) rfl (v := nI lv) (p1) ?_
  refine xn_ialdv dX10_count_86 (st137 hs) (by omega) (by decide) (v := nI nd) (p5) ?_
  refine xe_ireturn dX10_count_87 rfl (by first | rfl | decide +kernel) ?_
  exact ⟨rfl, q_mag_w (q_mag_r h) _ rfl (by decide)⟩
theorem c_X10_count_2 (l : Launch) (g : q_GP) (h : q_H) (hs : q_Stat h) {lv nm nd nc mo : Nat} (hp : rm_P h lv nm nd nc mo)  : q_Ct l g 2 mX10_count [.ref 124, .int (nI 2)] h (fun r h1 => r = some (.int (q_I h 154 200)) ∧ q_mag h h1) := by
  obtain ⟨p1, p2, p3, p4, p5, p6, p7, p8, p9, p10⟩ := id hp
  refine q_CtV mvX10_count (Nat.le_of_ble_eq_true rfl) ?_
  refine xe_aload_n dX10_count_0 rfl ?_
  refine xe_callVV (d' := 0) (y' := mX10_copies) dX10_count_1 mlX10_343 mvX10_copies rfl (st124 hs) (by decide) rfl (by decide) (by decide) (Nat.le_of_ble_eq_true rfl) (c_X10_copies l g _ (by exact hs)) rfl ?_
  refine xe_iload_n dX10_count_4 rfl ?_
  refine xe_tsw_in (tgt := 88) dX10_count_5 (by decide) (by decide) rfl rfl ?_
  refine xe_aload_n dX10_count_88 rfl ?_
  refine xe_getP dX10_count_89 flX10_110 (st124 hs) (by decide) rfl (sp124_48 hs) ?_
  refine xe_sipush dX10_count_92 ks_200 ?_
  refine xn_iald dX10_count_95 (st155 hs) (by omega) (by decide) ?_
  refine xe_ireturn dX10_count_96 rfl (by first | rfl | decide +kernel) ?_
  exact ⟨congrArg (fun v => some (Value.int v)) (q_req_cpy (q_I h 154) (q_I h 155) (n := 210) (by decide) 200 (by decide)), q_mag_w (q_mag_r h) _ rfl (by decide)⟩
theorem c_X10_count_3 (l : Launch) (g : q_GP) (h : q_H) (hs : q_Stat h) {lv nm nd nc mo : Nat} (hp : rm_P h lv nm nd nc mo)  : q_Ct l g 2 mX10_count [.ref 124, .int (nI 3)] h (fun r h1 => r = some (.int (q_s8 (q_I h 154) 64)) ∧ q_mag h h1) := by
  obtain ⟨p1, p2, p3, p4, p5, p6, p7, p8, p9, p10⟩ := id hp
  refine q_CtV mvX10_count (Nat.le_of_ble_eq_true rfl) ?_
  refine xe_aload_n dX10_count_0 rfl ?_
  refine xe_callVV (d' := 0) (y' := mX10_copies) dX10_count_1 mlX10_343 mvX10_copies rfl (st124 hs) (by decide) rfl (by decide) (by decide) (Nat.le_of_ble_eq_true rfl) (c_X10_copies l g _ (by exact hs)) rfl ?_
  refine xe_iload_n dX10_count_4 rfl ?_
  refine xe_tsw_in (tgt := 97) dX10_count_5 (by decide) (by decide) rfl rfl ?_
  refine xe_aload_n dX10_count_97 rfl ?_
  refine xe_bipush dX10_count_98 kb_8 ?_
  refine xe_callVI (d' := 0) (y' := mX10_haveOf) dX10_count_100 mlX10_319 mvX10_haveOf rfl (st124 hs) (by decide) rfl (by decide) (by decide) (Nat.le_of_ble_eq_true rfl) (c_X10_haveOf l g _ (by exact hs) _ (by omega)) rfl ?_
  refine xe_ireturn dX10_count_103 rfl (by first | rfl | decide +kernel) ?_
  exact ⟨congrArg (fun v => some (Value.int v)) (q_s8_rq (q_req_cpy _ _ (by decide)) (by omega)), q_mag_w (q_mag_r h) _ rfl (by decide)⟩
theorem c_X10_count_4 (l : Launch) (g : q_GP) (h : q_H) (hs : q_Stat h) {lv nm nd nc mo : Nat} (hp : rm_P h lv nm nd nc mo)  : q_Ct l g 2 mX10_count [.ref 124, .int (nI 4)] h (fun r h1 => r = some (.int (q_sum (fun k => q_s8 (q_I h 154) (8 * k)) 8)) ∧ q_mag h h1) := by
  obtain ⟨p1, p2, p3, p4, p5, p6, p7, p8, p9, p10⟩ := id hp
  refine q_CtV mvX10_count (Nat.le_of_ble_eq_true rfl) ?_
  refine xe_aload_n dX10_count_0 rfl ?_
  refine xe_callVV (d' := 0) (y' := mX10_copies) dX10_count_1 mlX10_343 mvX10_copies rfl (st124 hs) (by decide) rfl (by decide) (by decide) (Nat.le_of_ble_eq_true rfl) (c_X10_copies l g _ (by exact hs)) rfl ?_
  refine xe_iload_n dX10_count_4 rfl ?_
  refine xe_tsw_in (tgt := 104) dX10_count_5 (by decide) (by decide) rfl rfl ?_
  refine xe_iconst dX10_count_104 kc_0 ?_
  refine xe_istore_n (i := 2) dX10_count_105 rfl (by decide) rfl ?_
  refine xe_iconst dX10_count_106 kc_0 ?_
  refine xe_istore_n (i := 3) dX10_count_107 rfl (by decide) rfl ?_
  refine xe_locals (L' := (fun i => [(0, .ref 124), (2, .int (q_sum (fun k => q_s8 (q_cpy (q_I h 154) (q_I h 155) 210) (8 * k)) i)), (3, .int (nI i))]) 0) (And.intro rfl (And.intro rfl (And.intro rfl trivial))) ?_
  refine xe_for 8 (fun i => [(0, .ref 124), (2, .int (q_sum (fun k => q_s8 (q_cpy (q_I h 154) (q_I h 155) 210) (8 * k)) i)), (3, .int (nI i))]) (fun _ => q_wI h 155 (q_cpy (q_I h 154) (q_I h 155) 210)) (fun i hi K => ?_) ?_
  · refine xe_iload_n dX10_count_108 rfl ?_
    refine xe_bipush dX10_count_109 kb_8 ?_
    refine xn_icmp_ge (tgt := 128) dX10_count_111 rfl (by omega) (by omega) (fun c1 => ?_) (fun c1 => ?_)
    · omega
    · refine xe_iload_n dX10_count_114 rfl ?_
      refine xe_aload_n dX10_count_115 rfl ?_
      refine xe_iload_n dX10_count_116 rfl ?_
      refine xe_callVI (d' := 0) (y' := mX10_haveOf) dX10_count_117 mlX10_319 mvX10_haveOf rfl (st124 hs) (by decide) rfl (by decide) (by decide) (Nat.le_of_ble_eq_true rfl) (c_X10_haveOf l g _ (by exact hs) _ (by omega)) rfl ?_
      refine xe_iadd dX10_count_120 ?_
      refine xe_istore_n (i := 2) dX10_count_121 rfl (by decide) rfl ?_
      refine xn_iinc dX10_count_122 rfl kc_1 ?_
      refine xe_goto (tgt := 108) dX10_count_125 rfl ?_
      refine xe_locals (L' := [(0, .ref 124), (2, .int (q_sum (fun k => q_s8 (q_cpy (q_I h 154) (q_I h 155) 210) (8 * k)) (i + 1))), (3, .int (nI (i + 1)))]) (And.intro rfl (And.intro rfl (And.intro rfl trivial))) ?_
      exact K
  · refine xe_iload_n dX10_count_108 rfl ?_
    refine xe_bipush dX10_count_109 kb_8 ?_
    refine xn_icmp_ge (tgt := 128) dX10_count_111 rfl (by omega) (by omega) (fun c2 => ?_) (fun c2 => ?_)
    · refine xe_iload_n dX10_count_128 rfl ?_
      refine xe_ireturn dX10_count_129 rfl (by first | rfl | decide +kernel) ?_
      exact ⟨congrArg (fun v => some (Value.int v)) (q_sum_co (fun k hk => q_s8_rq (q_req_cpy _ _ (by decide)) (by omega))), q_mag_w (q_mag_r h) _ rfl (by decide)⟩
    · omega
theorem c_X10_count_5 (l : Launch) (g : q_GP) (h : q_H) (hs : q_Stat h) {lv nm nd nc mo : Nat} (hp : rm_P h lv nm nd nc mo)  : q_Ct l g 2 mX10_count [.ref 124, .int (nI 5)] h (fun r h1 => r = some (.int (q_I h 154 201)) ∧ q_mag h h1) := by
  obtain ⟨p1, p2, p3, p4, p5, p6, p7, p8, p9, p10⟩ := id hp
  refine q_CtV mvX10_count (Nat.le_of_ble_eq_true rfl) ?_
  refine xe_aload_n dX10_count_0 rfl ?_
  refine xe_callVV (d' := 0) (y' := mX10_copies) dX10_count_1 mlX10_343 mvX10_copies rfl (st124 hs) (by decide) rfl (by decide) (by decide) (Nat.le_of_ble_eq_true rfl) (c_X10_copies l g _ (by exact hs)) rfl ?_
  refine xe_iload_n dX10_count_4 rfl ?_
  refine xe_tsw_in (tgt := 130) dX10_count_5 (by decide) (by decide) rfl rfl ?_
  refine xe_aload_n dX10_count_130 rfl ?_
  refine xe_getP dX10_count_131 flX10_110 (st124 hs) (by decide) rfl (sp124_48 hs) ?_
  refine xe_sipush dX10_count_134 ks_201 ?_
  refine xn_iald dX10_count_137 (st155 hs) (by omega) (by decide) ?_
  refine xe_ireturn dX10_count_138 rfl (by first | rfl | decide +kernel) ?_
  exact ⟨congrArg (fun v => some (Value.int v)) (q_req_cpy (q_I h 154) (q_I h 155) (n := 210) (by decide) 201 (by decide)), q_mag_w (q_mag_r h) _ rfl (by decide)⟩
theorem c_X10_count_6 (l : Launch) (g : q_GP) (h : q_H) (hs : q_Stat h) {lv nm nd nc mo : Nat} (hp : rm_P h lv nm nd nc mo)  : q_Ct l g 2 mX10_count [.ref 124, .int (nI 6)] h (fun r h1 => r = some (.int (nI nc)) ∧ q_mag h h1) := by
  obtain ⟨p1, p2, p3, p4, p5, p6, p7, p8, p9, p10⟩ := id hp
  refine q_CtV mvX10_count (Nat.le_of_ble_eq_true rfl) ?_
  refine xe_aload_n dX10_count_0 rfl ?_
  refine xe_callVV (d' := 0) (y' := mX10_copies) dX10_count_1 mlX10_343 mvX10_copies rfl (st124 hs) (by decide) rfl (by decide) (by decide) (Nat.le_of_ble_eq_true rfl) (c_X10_copies l g _ (by exact hs)) rfl ?_
  refine xe_iload_n dX10_count_4 rfl ?_
  refine xe_tsw_in (tgt := 139) dX10_count_5 (by decide) (by decide) rfl rfl ?_
  refine xe_aload_n dX10_count_139 rfl ?_
  refine xe_getP dX10_count_140 flX10_61 (st124 hs) (by decide) rfl (sp124_28 hs) ?_
  refine xe_aload_n dX10_count_143 rfl ?_
  refine xe_getIv dX10_count_144 flX10_228 (st124 hs) (by decide) rfl (v := nI lv) (p1) ?_
  refine xn_ialdv dX10_count_147 (st139 hs) (by omega) (by decide) (v := nI nc) (p7) ?_
  refine xe_ireturn dX10_count_148 rfl (by first | rfl | decide +kernel) ?_
  exact ⟨rfl, q_mag_w (q_mag_r h) _ rfl (by decide)⟩
theorem c_X10_count_7 (l : Launch) (g : q_GP) (h : q_H) (hs : q_Stat h) {lv nm nd nc mo : Nat} (hp : rm_P h lv nm nd nc mo)  : q_Ct l g 2 mX10_count [.ref 124, .int (nI 7)] h (fun r h1 => r = some (.int (nI mo)) ∧ q_mag h h1) := by
  obtain ⟨p1, p2, p3, p4, p5, p6, p7, p8, p9, p10⟩ := id hp
  refine q_CtV mvX10_count (Nat.le_of_ble_eq_true rfl) ?_
  refine xe_aload_n dX10_count_0 rfl ?_
  refine xe_callVV (d' := 0) (y' := mX10_copies) dX10_count_1 mlX10_343 mvX10_copies rfl (st124 hs) (by decide) rfl (by decide) (by decide) (Nat.le_of_ble_eq_true rfl) (c_X10_copies l g _ (by exact hs)) rfl ?_
  refine xe_iload_n dX10_count_4 rfl ?_
  refine xe_tsw_in (tgt := 149) dX10_count_5 (by decide) (by decide) rfl rfl ?_
  refine xe_aload_n dX10_count_149 rfl ?_
  refine xe_getP dX10_count_150 flX10_67 (st124 hs) (by decide) rfl (sp124_30 hs) ?_
  refine xe_aload_n dX10_count_153 rfl ?_
  refine xe_getIv dX10_count_154 flX10_228 (st124 hs) (by decide) rfl (v := nI lv) (p1) ?_
  refine xn_ialdv dX10_count_157 (st141 hs) (by omega) (by decide) (v := nI mo) (p9) ?_
  refine xe_ireturn dX10_count_158 rfl (by first | rfl | decide +kernel) ?_
  exact ⟨rfl, q_mag_w (q_mag_r h) _ rfl (by decide)⟩
theorem c_X10_count_8 (l : Launch) (g : q_GP) (h : q_H) (hs : q_Stat h) {lv nm nd nc mo : Nat} (hp : rm_P h lv nm nd nc mo)  : q_Ct l g 2 mX10_count [.ref 124, .int (nI 8)] h (fun r h1 => r = some (.int (q_I h 124 2)) ∧ q_mag h h1) := by
  obtain ⟨p1, p2, p3, p4, p5, p6, p7, p8, p9, p10⟩ := id hp
  refine q_CtV mvX10_count (Nat.le_of_ble_eq_true rfl) ?_
  refine xe_aload_n dX10_count_0 rfl ?_
  refine xe_callVV (d' := 0) (y' := mX10_copies) dX10_count_1 mlX10_343 mvX10_copies rfl (st124 hs) (by decide) rfl (by decide) (by decide) (Nat.le_of_ble_eq_true rfl) (c_X10_copies l g _ (by exact hs)) rfl ?_
  refine xe_iload_n dX10_count_4 rfl ?_
  refine xe_tsw_in (tgt := 159) dX10_count_5 (by decide) (by decide) rfl rfl ?_
  refine xe_aload_n dX10_count_159 rfl ?_
  refine xe_getIv dX10_count_160 flX10_160 (st124 hs) (by decide) rfl (v := q_I h 124 2) rfl ?_
  refine xe_ireturn dX10_count_163 rfl (by first | rfl | decide +kernel) ?_
  exact ⟨rfl, q_mag_w (q_mag_r h) _ rfl (by decide)⟩
theorem c_X10_count_9 (l : Launch) (g : q_GP) (h : q_H) (hs : q_Stat h) {lv nm nd nc mo : Nat} (hp : rm_P h lv nm nd nc mo)  : q_Ct l g 2 mX10_count [.ref 124, .int (nI 9)] h (fun r h1 => r = some (.int (q_I h 124 51)) ∧ q_mag h h1) := by
  obtain ⟨p1, p2, p3, p4, p5, p6, p7, p8, p9, p10⟩ := id hp
  refine q_CtV mvX10_count (Nat.le_of_ble_eq_true rfl) ?_
  refine xe_aload_n dX10_count_0 rfl ?_
  refine xe_callVV (d' := 0) (y' := mX10_copies) dX10_count_1 mlX10_343 mvX10_copies rfl (st124 hs) (by decide) rfl (by decide) (by decide) (Nat.le_of_ble_eq_true rfl) (c_X10_copies l g _ (by exact hs)) rfl ?_
  refine xe_iload_n dX10_count_4 rfl ?_
  refine xe_tsw_in (tgt := 164) dX10_count_5 (by decide) (by decide) rfl rfl ?_
  refine xe_aload_n dX10_count_164 rfl ?_
  refine xe_getIv dX10_count_165 flX10_246 (st124 hs) (by decide) rfl (v := q_I h 124 51) rfl ?_
  refine xe_ireturn dX10_count_168 rfl (by first | rfl | decide +kernel) ?_
  exact ⟨rfl, q_mag_w (q_mag_r h) _ rfl (by decide)⟩
theorem c_X10_count_10 (l : Launch) (g : q_GP) (h : q_H) (hs : q_Stat h) {lv nm nd nc mo : Nat} (hp : rm_P h lv nm nd nc mo)  : q_Ct l g 2 mX10_count [.ref 124, .int (nI 10)] h (fun r h1 => r = some (.int (q_I h 124 62)) ∧ q_mag h h1) := by
  obtain ⟨p1, p2, p3, p4, p5, p6, p7, p8, p9, p10⟩ := id hp
  refine q_CtV mvX10_count (Nat.le_of_ble_eq_true rfl) ?_
  refine xe_aload_n dX10_count_0 rfl ?_
  refine xe_callVV (d' := 0) (y' := mX10_copies) dX10_count_1 mlX10_343 mvX10_copies rfl (st124 hs) (by decide) rfl (by decide) (by decide) (Nat.le_of_ble_eq_true rfl) (c_X10_copies l g _ (by exact hs)) rfl ?_
  refine xe_iload_n dX10_count_4 rfl ?_
  refine xe_tsw_in (tgt := 169) dX10_count_5 (by decide) (by decide) rfl rfl ?_
  refine xe_aload_n dX10_count_169 rfl ?_
  refine xe_getIv dX10_count_170 flX10_249 (st124 hs) (by decide) rfl (v := q_I h 124 62) rfl ?_
  refine xe_ireturn dX10_count_173 rfl (by first | rfl | decide +kernel) ?_
  exact ⟨rfl, q_mag_w (q_mag_r h) _ rfl (by decide)⟩
def q_b01 (x : Int32) : Int32 := if x = 0 then nI 0 else nI 1
theorem c_X10_count_11 (l : Launch) (g : q_GP) (h : q_H) (hs : q_Stat h) {lv nm nd nc mo : Nat} (hp : rm_P h lv nm nd nc mo)  : q_Ct l g 2 mX10_count [.ref 124, .int (nI 11)] h (fun r h1 => r = some (.int (q_b01 (q_I h 168 0) + q_b01 (q_I h 168 1) + q_b01 (q_I h 168 2))) ∧ q_mag h h1) := by
  obtain ⟨p1, p2, p3, p4, p5, p6, p7, p8, p9, p10⟩ := id hp
  refine q_CtV mvX10_count (Nat.le_of_ble_eq_true rfl) ?_
  refine xe_aload_n dX10_count_0 rfl ?_
  refine xe_callVV (d' := 0) (y' := mX10_copies) dX10_count_1 mlX10_343 mvX10_copies rfl (st124 hs) (by decide) rfl (by decide) (by decide) (Nat.le_of_ble_eq_true rfl) (c_X10_copies l g _ (by exact hs)) rfl ?_
  refine xe_iload_n dX10_count_4 rfl ?_
  refine xe_tsw_in (tgt := 174) dX10_count_5 (by decide) (by decide) rfl rfl ?_
  refine xe_aload_n dX10_count_174 rfl ?_
  refine xe_getP dX10_count_175 flX10_150 (st124 hs) (by decide) rfl (sp124_65 hs) ?_
  refine xe_iconst dX10_count_178 kc_0 ?_
  refine xn_zaldv dX10_count_179 (st168 hs) (by omega) (by decide) (v := q_I h 168 0) (rfl) ?_
  refine xe_if_eq (tgt := 187) dX10_count_180 rfl (fun c1 => ?_) (fun c1 => ?_)
  · refine xe_iconst dX10_count_187 kc_0 ?_
    refine xe_aload_n dX10_count_188 rfl ?_
    refine xe_getP dX10_count_189 flX10_150 (st124 hs) (by decide) rfl (sp124_65 hs) ?_
    refine xe_iconst dX10_count_192 kc_1 ?_
    refine xn_zaldv dX10_count_193 (st168 hs) (by omega) (by decide) (v := q_I h 168 1) (rfl) ?_
    refine xe_if_eq (tgt := 201) dX10_count_194 rfl (fun c2 => ?_) (fun c2 => ?_)
    · refine xe_iconst dX10_count_201 kc_0 ?_
      refine xn_iadd dX10_count_202 ?_
      refine xe_aload_n dX10_count_203 rfl ?_
      refine xe_getP dX10_count_204 flX10_150 (st124 hs) (by decide) rfl (sp124_65 hs) ?_
      refine xe_iconst dX10_count_207 kc_2 ?_
      refine xn_zaldv dX10_count_208 (st168 hs) (by omega) (by decide) (v := q_I h 168 2) (rfl) ?_
      refine xe_if_eq (tgt := 216) dX10_count_209 rfl (fun c3 => ?_) (fun c3 => ?_)
      · refine xe_iconst dX10_count_216 kc_0 ?_
        refine xn_iadd dX10_count_217 ?_
        refine xe_ireturn dX10_count_218 rfl (by first | rfl | decide +kernel) ?_
        exact ⟨by simp only [q_b01, *, if_true, if_false]; rfl, q_mag_w (q_mag_r h) _ rfl (by decide)⟩
      · refine xe_iconst dX10_count_212 kc_1 ?_
        refine xe_goto (tgt := 217) dX10_count_213 rfl ?_
        refine xn_iadd dX10_count_217 ?_
        refine xe_ireturn dX10_count_218 rfl (by first | rfl | decide +kernel) ?_
        exact ⟨by simp only [q_b01, *, if_true, if_false]; rfl, q_mag_w (q_mag_r h) _ rfl (by decide)⟩
    · refine xe_iconst dX10_count_197 kc_1 ?_
      refine xe_goto (tgt := 202) dX10_count_198 rfl ?_
      refine xn_iadd dX10_count_202 ?_
      refine xe_aload_n dX10_count_203 rfl ?_
      refine xe_getP dX10_count_204 flX10_150 (st124 hs) (by decide) rfl (sp124_65 hs) ?_
      refine xe_iconst dX10_count_207 kc_2 ?_
      refine xn_zaldv dX10_count_208 (st168 hs) (by omega) (by decide) (v := q_I h 168 2) (rfl) ?_
      refine xe_if_eq (tgt := 216) dX10_count_209 rfl (fun c4 => ?_) (fun c4 => ?_)
      · refine xe_iconst dX10_count_216 kc_0 ?_
        refine xn_iadd dX10_count_217 ?_
        refine xe_ireturn dX10_count_218 rfl (by first | rfl | decide +kernel) ?_
        exact ⟨by simp only [q_b01, *, if_true, if_false]; rfl, q_mag_w (q_mag_r h) _ rfl (by decide)⟩
      · refine xe_iconst dX10_count_212 kc_1 ?_
        refine xe_goto (tgt := 217) dX10_count_213 rfl ?_
        refine xn_iadd dX10_count_217 ?_
        refine xe_ireturn dX10_count_218 rfl (by first | rfl | decide +kernel) ?_
        exact ⟨by simp only [q_b01, *, if_true, if_false]; rfl, q_mag_w (q_mag_r h) _ rfl (by decide)⟩
  · refine xe_iconst dX10_count_183 kc_1 ?_
    refine xe_goto (tgt := 188) dX10_count_184 rfl ?_
    refine xe_aload_n dX10_count_188 rfl ?_
    refine xe_getP dX10_count_189 flX10_150 (st124 hs) (by decide) rfl (sp124_65 hs) ?_
    refine xe_iconst dX10_count_192 kc_1 ?_
    refine xn_zaldv dX10_count_193 (st168 hs) (by omega) (by decide) (v := q_I h 168 1) (rfl) ?_
    refine xe_if_eq (tgt := 201) dX10_count_194 rfl (fun c5 => ?_) (fun c5 => ?_)
    · refine xe_iconst dX10_count_201 kc_0 ?_
      refine xn_iadd dX10_count_202 ?_
      refine xe_aload_n dX10_count_203 rfl ?_
      refine xe_getP dX10_count_204 flX10_150 (st124 hs) (by decide) rfl (sp124_65 hs) ?_
      refine xe_iconst dX10_count_207 kc_2 ?_
      refine xn_zaldv dX10_count_208 (st168 hs) (by omega) (by decide) (v := q_I h 168 2) (rfl) ?_
      refine xe_if_eq (tgt := 216) dX10_count_209 rfl (fun c6 => ?_) (fun c6 => ?_)
      · refine xe_iconst dX10_count_216 kc_0 ?_
        refine xn_iadd dX10_count_217 ?_
        refine xe_ireturn dX10_count_218 rfl (by first | rfl | decide +kernel) ?_
        exact ⟨by simp only [q_b01, *, if_true, if_false]; rfl, q_mag_w (q_mag_r h) _ rfl (by decide)⟩
      · refine xe_iconst dX10_count_212 kc_1 ?_
        refine xe_goto (tgt := 217) dX10_count_213 rfl ?_
        refine xn_iadd dX10_count_217 ?_
        refine xe_ireturn dX10_count_218 rfl (by first | rfl | decide +kernel) ?_
        exact ⟨by simp only [q_b01, *, if_true, if_false]; rfl, q_mag_w (q_mag_r h) _ rfl (by decide)⟩
    · refine xe_iconst dX10_count_197 kc_1 ?_
      refine xe_goto (tgt := 202) dX10_count_198 rfl ?_
      refine xn_iadd dX10_count_202 ?_
      refine xe_aload_n dX10_count_203 rfl ?_
      refine xe_getP dX10_count_204 flX10_150 (st124 hs) (by decide) rfl (sp124_65 hs) ?_
      refine xe_iconst dX10_count_207 kc_2 ?_
      refine xn_zaldv dX10_count_208 (st168 hs) (by omega) (by decide) (v := q_I h 168 2) (rfl) ?_
      refine xe_if_eq (tgt := 216) dX10_count_209 rfl (fun c7 => ?_) (fun c7 => ?_)
      · refine xe_iconst dX10_count_216 kc_0 ?_
        refine xn_iadd dX10_count_217 ?_
        refine xe_ireturn dX10_count_218 rfl (by first | rfl | decide +kernel) ?_
        exact ⟨by simp only [q_b01, *, if_true, if_false]; rfl, q_mag_w (q_mag_r h) _ rfl (by decide)⟩
      · refine xe_iconst dX10_count_212 kc_1 ?_
        refine xe_goto (tgt := 217) dX10_count_213 rfl ?_
        refine xn_iadd dX10_count_217 ?_
        refine xe_ireturn dX10_count_218 rfl (by first | rfl | decide +kernel) ?_
        exact ⟨by simp only [q_b01, *, if_true, if_false]; rfl, q_mag_w (q_mag_r h) _ rfl (by decide)⟩
theorem c_X10_count_b (l : Launch) (g : q_GP) (h : q_H) (hs : q_Stat h) {lv nm nd nc mo : Nat} (hp : rm_P h lv nm nd nc mo) (x : Int32) (hx : x.toInt < 0 ∨ 11 < x.toInt) : q_Ct l g 2 mX10_count [.ref 124, .int x] h (fun r h1 => r = some (.int (-1)) ∧ q_mag h h1) := by
  obtain ⟨p1, p2, p3, p4, p5, p6, p7, p8, p9, p10⟩ := id hp
  refine q_CtV mvX10_count (Nat.le_of_ble_eq_true rfl) ?_
  refine xe_aload_n dX10_count_0 rfl ?_
  refine xe_callVV (d' := 0) (y' := mX10_copies) dX10_count_1 mlX10_343 mvX10_copies rfl (st124 hs) (by decide) rfl (by decide) (by decide) (Nat.le_of_ble_eq_true rfl) (c_X10_copies l g _ (by exact hs)) rfl ?_
  refine xe_iload_n dX10_count_4 rfl ?_
  refine xe_tsw_out (tgt := 219) dX10_count_5 (hx) rfl ?_
  refine xe_iconst dX10_count_219 kc_m1 ?_
  refine xe_ireturn dX10_count_220 rfl (by first | rfl | decide +kernel) ?_
  exact ⟨rfl, q_mag_w (q_mag_r h) _ rfl (by decide)⟩
