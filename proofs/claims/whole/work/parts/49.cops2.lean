/-! the class: fine, appeal, weeks, undo -/
theorem c_X9_countTimes (l : Launch) (g : q_GP) (h : q_H) (hs : q_Stat h) {p nm nd nc mo n : Nat} (hp : rk_P h p nm nd nc mo n) {E : Nat} (hE1 : q_I h 34 5 = nI E) (hE2 : E ≤ 300) {em ed ew ep ea : Nat → Nat} (hE : rk_E h E em ed ew ep ea) {w : Nat} (hw : q_I h 34 6 = nI w) (hw2 : w < 2 ^ 21) : q_Ct l g 2 mX9_countTimes [.ref 0] h (fun r h1 => r = none ∧ ∃ T, h1 = q_wI h 37 T ∧ ∀ k, k < 64 → T k = nI (q_cnt em ed ew (if mo = 0 then 0 else w - w % mo) E k)) := by
  obtain ⟨P0, P1, P2, P2b, P3, P3b, P4, P4b, P5, P5b, P6, P6b⟩ := id hp
  rcases P1 with rfl | rfl
  · refine q_CtV mvX9_countTimes (Nat.le_of_ble_eq_true rfl) ?_
    refine xe_aload_n dX9_countTimes_0 rfl ?_
    refine xe_getP dX9_countTimes_1 flX9_36 (st0 hs) (by decide) rfl (sp0_4 hs) ?_
    refine xe_aload_n dX9_countTimes_4 rfl ?_
    refine xe_getP dX9_countTimes_5 flX9_26 (st0 hs) (by decide) rfl P0 ?_
    refine xe_getIv dX9_countTimes_8 flX9_230 (st10 hs) (by decide) rfl (v := nI mo) (P6) ?_
    refine xn_if_le (tgt := 40) dX9_countTimes_11 rfl (by omega) (fun c1 => ?_) (fun c1 => ?_)
    · have c_m : mo = 0 := by omega
      refine xe_iconst dX9_countTimes_40 kc_0 ?_
      refine xe_callVVq (d' := 1) (y' := mX6_countTimes) dX9_countTimes_41 mlX9_251 mvX6_countTimes rfl (st34 hs) (by decide) rfl (by decide) (by decide) (Nat.le_of_ble_eq_true rfl) (c_X6_countTimes l g _ (by exact hs) (by exact hE1) hE2 (by exact hE) _ (by omega)) rfl (fun h1 hq => ?_)
      obtain ⟨T, rfl, hT⟩ := hq
      refine xe_return dX9_countTimes_44 rfl ?_
      exact ⟨rfl, _, rfl, fun k hk => (hT k hk).trans (congrArg (fun z => nI (q_cnt em ed ew z E k)) ((by first | exact (if_pos c_m).symm | exact (if_neg c_m).symm)))⟩
    · have c_m : ¬ mo = 0 := by omega
      have c_w : w % mo ≤ w := Nat.mod_le _ _
      refine xe_aload_n dX9_countTimes_14 rfl ?_
      refine xe_getP dX9_countTimes_15 flX9_36 (st0 hs) (by decide) rfl (sp0_4 hs) ?_
      refine xe_getIv dX9_countTimes_18 flX9_150 (st34 hs) (by decide) rfl (v := nI w) (hw) ?_
      refine xe_aload_n dX9_countTimes_21 rfl ?_
      refine xe_getP dX9_countTimes_22 flX9_36 (st0 hs) (by decide) rfl (sp0_4 hs) ?_
      refine xe_getIv dX9_countTimes_25 flX9_150 (st34 hs) (by decide) rfl (v := nI w) (hw) ?_
      refine xe_aload_n dX9_countTimes_28 rfl ?_
      refine xe_getP dX9_countTimes_29 flX9_26 (st0 hs) (by decide) rfl P0 ?_
      refine xe_getIv dX9_countTimes_32 flX9_230 (st10 hs) (by decide) rfl (v := nI mo) (P6) ?_
      refine xn_irem dX9_countTimes_35 (by omega) (by omega) (by omega) ?_
      refine xn_isub dX9_countTimes_36 (by omega) ?_
      refine xe_goto (tgt := 41) dX9_countTimes_37 rfl ?_
      refine xe_callVVq (d' := 1) (y' := mX6_countTimes) dX9_countTimes_41 mlX9_251 mvX6_countTimes rfl (st34 hs) (by decide) rfl (by decide) (by decide) (Nat.le_of_ble_eq_true rfl) (c_X6_countTimes l g _ (by exact hs) (by exact hE1) hE2 (by exact hE) _ (by omega)) rfl (fun h1 hq => ?_)
      obtain ⟨T, rfl, hT⟩ := hq
      refine xe_return dX9_countTimes_44 rfl ?_
      exact ⟨rfl, _, rfl, fun k hk => (hT k hk).trans (congrArg (fun z => nI (q_cnt em ed ew z E k)) ((by first | exact (if_pos c_m).symm | exact (if_neg c_m).symm)))⟩
  · refine q_CtV mvX9_countTimes (Nat.le_of_ble_eq_true rfl) ?_
    refine xe_aload_n dX9_countTimes_0 rfl ?_
    refine xe_getP dX9_countTimes_1 flX9_36 (st0 hs) (by decide) rfl (sp0_4 hs) ?_
    refine xe_aload_n dX9_countTimes_4 rfl ?_
    refine xe_getP dX9_countTimes_5 flX9_26 (st0 hs) (by decide) rfl P0 ?_
    refine xe_getIv dX9_countTimes_8 flX9_230 (st22 hs) (by decide) rfl (v := nI mo) (P6) ?_
    refine xn_if_le (tgt := 40) dX9_countTimes_11 rfl (by omega) (fun c1 => ?_) (fun c1 => ?_)
    · have c_m : mo = 0 := by omega
      refine xe_iconst dX9_countTimes_40 kc_0 ?_
      refine xe_callVVq (d' := 1) (y' := mX6_countTimes) dX9_countTimes_41 mlX9_251 mvX6_countTimes rfl (st34 hs) (by decide) rfl (by decide) (by decide) (Nat.le_of_ble_eq_true rfl) (c_X6_countTimes l g _ (by exact hs) (by exact hE1) hE2 (by exact hE) _ (by omega)) rfl (fun h1 hq => ?_)
      obtain ⟨T, rfl, hT⟩ := hq
      refine xe_return dX9_countTimes_44 rfl ?_
      exact ⟨rfl, _, rfl, fun k hk => (hT k hk).trans (congrArg (fun z => nI (q_cnt em ed ew z E k)) ((by first | exact (if_pos c_m).symm | exact (if_neg c_m).symm)))⟩
    · have c_m : ¬ mo = 0 := by omega
      have c_w : w % mo ≤ w := Nat.mod_le _ _
      refine xe_aload_n dX9_countTimes_14 rfl ?_
      refine xe_getP dX9_countTimes_15 flX9_36 (st0 hs) (by decide) rfl (sp0_4 hs) ?_
      refine xe_getIv dX9_countTimes_18 flX9_150 (st34 hs) (by decide) rfl (v := nI w) (hw) ?_
      refine xe_aload_n dX9_countTimes_21 rfl ?_
      refine xe_getP dX9_countTimes_22 flX9_36 (st0 hs) (by decide) rfl (sp0_4 hs) ?_
      refine xe_getIv dX9_countTimes_25 flX9_150 (st34 hs) (by decide) rfl (v := nI w) (hw) ?_
      refine xe_aload_n dX9_countTimes_28 rfl ?_
      refine xe_getP dX9_countTimes_29 flX9_26 (st0 hs) (by decide) rfl P0 ?_
      refine xe_getIv dX9_countTimes_32 flX9_230 (st22 hs) (by decide) rfl (v := nI mo) (P6) ?_
      refine xn_irem dX9_countTimes_35 (by omega) (by omega) (by omega) ?_
      refine xn_isub dX9_countTimes_36 (by omega) ?_
      refine xe_goto (tgt := 41) dX9_countTimes_37 rfl ?_
      refine xe_callVVq (d' := 1) (y' := mX6_countTimes) dX9_countTimes_41 mlX9_251 mvX6_countTimes rfl (st34 hs) (by decide) rfl (by decide) (by decide) (Nat.le_of_ble_eq_true rfl) (c_X6_countTimes l g _ (by exact hs) (by exact hE1) hE2 (by exact hE) _ (by omega)) rfl (fun h1 hq => ?_)
      obtain ⟨T, rfl, hT⟩ := hq
      refine xe_return dX9_countTimes_44 rfl ?_
      exact ⟨rfl, _, rfl, fun k hk => (hT k hk).trans (congrArg (fun z => nI (q_cnt em ed ew z E k)) ((by first | exact (if_pos c_m).symm | exact (if_neg c_m).symm)))⟩
theorem rk_P_of {h h1 : q_H} {p nm nd nc mo n : Nat} (hp : rk_P h p nm nd nc mo n) (e : h1.2 = h.2) (e10 : q_I h1 10 = q_I h 10) (e22 : q_I h1 22 = q_I h 22) : rk_P h1 p nm nd nc mo n := by
  obtain ⟨a0, a1, a2, a2b, a3, a3b, a4, a4b, a5, a5b, a6, a6b⟩ := hp
  have ep : q_I h1 p = q_I h p := by
    rcases a1 with rfl | rfl
    · exact e10
    · exact e22
  refine ⟨?_, a1, ?_, a2b, ?_, a3b, ?_, a4b, ?_, a5b, ?_, a6b⟩
  · have e2 := congrArg (fun z => z.2) e
    have eP : q_P h1 = q_P h := congrArg (fun z => z.1) e2
    rw [eP]
    exact a0
  all_goals rw [ep]
  all_goals assumption
theorem rk_E_of {h h1 : q_H} {E : Nat} {em ed ew ep ea : Nat → Nat} (hE : rk_E h E em ed ew ep ea) (e8 : q_I h1 38 = q_I h 38) (e9 : q_I h1 39 = q_I h 39) : rk_E h1 E em ed ew ep ea := fun i hi => by
  rw [e8, e9]
  exact hE i hi
theorem rk_E_add {h h1 : q_H} {E m d n w : Nat} {em ed ew ep ea : Nat → Nat} (hE : rk_E h E em ed ew ep ea) (hm : m < 8) (hd : d < 8) (hn : n ≤ 9999) (hw : w < 2 ^ 20) (e8 : q_I h1 38 = upd (q_I h 38) E (nI (n * 2 * 64 + m * 8 + d))) (e9 : q_I h1 39 = upd (q_I h 39) E (nI w)) : rk_E h1 (E + 1) (q_up em E m) (q_up ed E d) (q_up ew E w) (q_up ep E n) (q_up ea E 0) := fun i hi => by
  rw [e8, e9]
  by_cases q : i = E
  · rw [q]
    rw [q_up_s, q_up_s, q_up_s, q_up_s, q_up_s, pk_us, pk_us]
    exact ⟨congrArg nI (by omega), rfl, hm, hd, by omega, hn, hw⟩
  · rw [q_up_n q, q_up_n q, q_up_n q, q_up_n q, q_up_n q, pk_un q, pk_un q]
    exact hE i (by omega)
theorem q_cnt_co {em ed ew em' ed' ew' : Nat → Nat} {since : Nat} : ∀ {n k : Nat}, (∀ i, i < n → em i = em' i ∧ ed i = ed' i ∧ ew i = ew' i) → q_cnt em ed ew since n k = q_cnt em' ed' ew' since n k
  | 0, _, _ => rfl
  | n + 1, k, h => by
    obtain ⟨h1, h2, h3⟩ := h n (by omega)
    unfold q_cnt
    rw [h1, h2, h3, q_cnt_co (fun i hi => h i (by omega))]
theorem q_mvc_pl {F T : Nat} {R : Nat → Int32} {f : Nat → Nat} {n : Nat} (hFT : F ≠ T) (hF : F < 8) (hT : T < 9) (h : q_rn R f) (ht : q_ns f 72 < 2 ^ 30) (hn : n < 2 ^ 30) : nI n - (q_mvc F T F R (nI n) 9).2 = nI (if q_hv f F < n then q_hv f F else n) := by
  have m := q_mvc_ml (f0 := F) hFT (by omega) hT hF (q_ml_of h hn ht) 8 (Nat.le_refl _)
  rw [m.2.1, q_mN_fin hFT hF, pk_sub (by omega)]
  refine congrArg nI ?_
  split <;> omega
theorem c_X9_fine_t (l : Launch) (g : q_GP) (h : q_H) (hs : q_Stat h) {p nm nd nc mo n : Nat} (hp : rk_P h p nm nd nc mo n) {LW : q_LW} (hL : rk_L h p n LW) {w : Nat} (hw : q_I h 34 6 = nI w) (hw2 : w < 2 ^ 20) {x s : Nat} (hx : x < 25) (h42a : q_I h 42 1 = nI x) (h42b : q_I h 42 2 = nI s) (hs25 : s ≤ 25) {E : Nat} (hE1 : q_I h 34 5 = nI E) (hE2 : E ≤ 300) {em ed ew ep ea : Nat → Nat} (hE : rk_E h E em ed ew ep ea) {f : Nat → Nat} (hf : q_rn (q_I h 35) f) (ht : q_ns f 72 < 2 ^ 30) {m d : Nat} (hm : m < nm) (hd : d < nd) (hE3 : E < 300) : q_Ct l g 4 mX9_fine [.ref 0, .int (nI m), .int (nI d)] h (fun r h1 => r = some (.int (nI (if q_hv f m < (q_fi (q_cr h) (q_I h (p + 5)) LW 0 nc w m d) then q_hv f m else (q_fi (q_cr h) (q_I h (p + 5)) LW 0 nc w m d)))) ∧ rk_did h x s h1 (-1) (nI 0) (-1) ∧ q_I h1 35 = (q_mvc m 8 m (q_I h 35) (nI (q_fi (q_cr h) (q_I h (p + 5)) LW 0 nc w m d)) 9).1 ∧ q_I h1 36 = q_I h 36 ∧ (∀ k, k < 64 → q_I h1 37 k = nI (q_cnt (q_up em E m) (q_up ed E d) (q_up ew E w) (if mo = 0 then 0 else w - w % mo) (E + 1) k)) ∧ q_I h1 38 = upd (q_I h 38) E (nI ((if q_hv f m < (q_fi (q_cr h) (q_I h (p + 5)) LW 0 nc w m d) then q_hv f m else (q_fi (q_cr h) (q_I h (p + 5)) LW 0 nc w m d)) * 2 * 64 + m * 8 + d)) ∧ q_I h1 39 = upd (q_I h 39) E (nI w) ∧ q_I h1 34 = upd (q_I h 34) 5 (nI (E + 1))) := by
  obtain ⟨P0, P1, P2, P2b, P3, P3b, P4, P4b, P5, P5b, P6, P6b⟩ := id hp
  rcases P1 with rfl | rfl
  · refine q_CtV mvX9_fine (Nat.le_of_ble_eq_true rfl) ?_
    refine xe_aload_n dX9_fine_0 rfl ?_
    refine xe_iload_n dX9_fine_1 rfl ?_
    refine xe_callVI (d' := 0) (y' := mX9_isMan) dX9_fine_2 mlX9_134 mvX9_isMan rfl (st0 hs) (by decide) rfl (by decide) (by decide) (Nat.le_of_ble_eq_true rfl) (c_X9_isMan_t l g _ (by exact hs) (by exact hp) (by omega)) rfl ?_
    refine xn_if_eq (tgt := 16) dX9_fine_5 rfl (by omega) (fun c1 => ?_) (fun c1 => ?_)
    · omega
    · refine xe_aload_n dX9_fine_8 rfl ?_
      refine xe_iload_n dX9_fine_9 rfl ?_
      refine xe_callVI (d' := 0) (y' := mX9_isDeed) dX9_fine_10 mlX9_174 mvX9_isDeed rfl (st0 hs) (by decide) rfl (by decide) (by decide) (Nat.le_of_ble_eq_true rfl) (c_X9_isDeed_t l g _ (by exact hs) (by exact hp) (by omega)) rfl ?_
      refine xn_if_ne (tgt := 18) dX9_fine_13 rfl (by omega) (fun c2 => ?_) (fun c2 => ?_)
      · refine xe_aload_n dX9_fine_18 rfl ?_
        refine xe_getP dX9_fine_19 flX9_36 (st0 hs) (by decide) rfl (sp0_4 hs) ?_
        refine xe_getIv dX9_fine_22 flX9_137 (st34 hs) (by decide) rfl (v := nI E) (hE1) ?_
        refine xe_sipush dX9_fine_25 ks_300 ?_
        refine xn_icmp_lt (tgt := 34) dX9_fine_28 rfl (by omega) (by omega) (fun c3 => ?_) (fun c3 => ?_)
        · refine xe_aload_n dX9_fine_34 rfl ?_
          refine xe_iload_n dX9_fine_35 rfl ?_
          refine xe_iload_n dX9_fine_36 rfl ?_
          refine xe_callVIq (d' := 2) (y' := mX9_fineNow) dX9_fine_37 mlX9_177 mvX9_fineNow rfl (st0 hs) (by decide) rfl (by decide) (by decide) (Nat.le_of_ble_eq_true rfl) (c_X9_fineNow l g _ (by exact hs) (by exact hp) (by exact hL) (by exact hw) hw2 (by omega) (by omega)) rfl (fun h4 hq4 => ?_)
          obtain ⟨V4, S4, rfl⟩ := hq4
          refine xe_top (v' := nI (q_fi (q_cr h) (q_I h (10 + 5)) LW 0 nc w m d)) ((q_fi_eq _ _ _ _ _ _ _ _).1) ?_
          refine xe_istore_n (i := 3) dX9_fine_40 rfl (by decide) rfl ?_
          refine xe_aload_n dX9_fine_41 rfl ?_
          refine xe_getP dX9_fine_42 flX9_51 (st0 hs) (by decide) rfl (sp0_7 hs) ?_
          refine xe_aload_n dX9_fine_45 rfl ?_
          refine xe_getP dX9_fine_46 flX9_36 (st0 hs) (by decide) rfl (sp0_4 hs) ?_
          refine xe_callVRn (d' := 2) (y' := mX1_note) dX9_fine_49 mlX9_236 mvX1_note rfl (st42 hs) (by decide) rfl (by decide) (by decide) (Nat.le_of_ble_eq_true rfl) (c_X1_note l g _ (by exact hs) hx (by exact h42a) (by exact h42b) hs25) rfl (fun v h1 hq => ?_)
          obtain ⟨rfl, k_⟩ := hq
          have hs1 : q_Stat h1 := q_Stat_2 k_.1 (by exact hs)
          have r35 : q_I h1 35 = q_I h 35 := rk_nd_r k_ (r := 35) (by decide) (by decide)
          have r34 : q_I h1 34 = q_I h 34 := rk_nd_r k_ (r := 34) (by decide) (by decide)
          have r38 : q_I h1 38 = q_I h 38 := rk_nd_r k_ (r := 38) (by decide) (by decide)
          have r39 : q_I h1 39 = q_I h 39 := rk_nd_r k_ (r := 39) (by decide) (by decide)
          have hp1 : rk_P h1 10 nm nd nc mo n := rk_P_of hp (k_.1) (rk_nd_r k_ (r := 10) (by decide) (by decide)) (rk_nd_r k_ (r := 22) (by decide) (by decide))
          have hfb := (q_fi_eq (q_cr h) (q_I h (10 + 5)) LW 0 nc w m d).2
          have hpl : (if q_hv f m < (q_fi (q_cr h) (q_I h (10 + 5)) LW 0 nc w m d) then q_hv f m else (q_fi (q_cr h) (q_I h (10 + 5)) LW 0 nc w m d)) ≤ 999 := by split <;> omega
          refine xe_pop dX9_fine_52 rfl ?_
          refine xe_aload_n dX9_fine_53 rfl ?_
          refine xe_getP dX9_fine_54 flX9_36 (st0 hs1) (by decide) rfl (sp0_4 hs1) ?_
          refine xe_iload_n dX9_fine_57 rfl ?_
          refine xe_bipush dX9_fine_58 kb_8 ?_
          refine xe_iload_n dX9_fine_60 rfl ?_
          refine xe_callVI (d' := 2) (y' := mX6_pluck) dX9_fine_61 mlX9_240 mvX6_pluck rfl (st34 hs1) (by decide) rfl (by decide) (by decide) (Nat.le_of_ble_eq_true rfl) (c_X6_pluck l g _ (by exact hs1) _ _ _ (by omega) (by omega)) rfl ?_
          refine xe_top (v' := nI (if q_hv f m < (q_fi (q_cr h) (q_I h (10 + 5)) LW 0 nc w m d) then q_hv f m else (q_fi (q_cr h) (q_I h (10 + 5)) LW 0 nc w m d))) (q_mvc_pl (by omega) (by omega) (by omega) (by rw [r35]; exact hf) ht (by omega)) ?_
          refine xe_istore dX9_fine_64 (by decide) rfl ?_
          refine xe_aload_n dX9_fine_66 rfl ?_
          refine xe_getP dX9_fine_67 flX9_36 (st0 hs1) (by decide) rfl (sp0_4 hs1) ?_
          refine xe_iload_n dX9_fine_70 rfl ?_
          refine xe_iload_n dX9_fine_71 rfl ?_
          refine xe_iload dX9_fine_72 rfl ?_
          refine xe_callVV (d' := 0) (y' := mX6_writeDown) dX9_fine_74 mlX9_244 mvX6_writeDown rfl (st34 hs1) (by decide) rfl (by decide) (by decide) (Nat.le_of_ble_eq_true rfl) (c_X6_writeDown l g _ (by exact hs1) (by exact (congrFun r34 5).trans hE1) (by omega) (by exact (congrFun r34 6).trans hw) m d _) rfl ?_
          refine xe_aload_n dX9_fine_77 rfl ?_
          refine xe_callVVq (d' := 2) (y' := mX9_countTimes) dX9_fine_78 mlX9_248 mvX9_countTimes rfl (st0 hs1) (by decide) rfl (by decide) (by decide) (Nat.le_of_ble_eq_true rfl) (c_X9_countTimes l g _ (by exact hs1) (by exact hp1) (E := E + 1) (by exact rfl) (by omega) (rk_E_add (m := m) (d := d) (n := (if q_hv f m < (q_fi (q_cr h) (q_I h (10 + 5)) LW 0 nc w m d) then q_hv f m else (q_fi (q_cr h) (q_I h (10 + 5)) LW 0 nc w m d))) (w := w) hE (by omega) (by omega) (show (if q_hv f m < (q_fi (q_cr h) (q_I h (10 + 5)) LW 0 nc w m d) then q_hv f m else (q_fi (q_cr h) (q_I h (10 + 5)) LW 0 nc w m d)) ≤ 9999 by omega) hw2 (by show upd (q_I h1 38) _ _ = _; rw [r38]) (by show upd (q_I h1 39) _ _ = _; rw [r39])) (w := w) (by exact (congrFun r34 6).trans hw) (by omega)) rfl (fun h9 hq9 => ?_)
          obtain ⟨T, rfl, hT⟩ := hq9
          refine xe_iload dX9_fine_81 rfl ?_
          refine xe_ireturn dX9_fine_83 rfl (by first | rfl | decide +kernel) ?_
          exact ⟨rfl, rk_did_of (by repeat (first | exact q_out_r | refine q_out_w rfl ?_)) k_ (by repeat (first | exact q_out_r | refine q_out_w rfl ?_)), by show (q_mvc m 8 m (q_I h1 35) _ 9).1 = _; rw [r35], rk_nd_r k_ (r := 36) (by decide) (by decide), hT, by show upd (q_I h1 38) _ _ = _; rw [r38], by show upd (q_I h1 39) _ _ = _; rw [r39], by show upd (q_I h1 34) _ _ = _; rw [r34]⟩
        · omega
      · omega
  · refine q_CtV mvX9_fine (Nat.le_of_ble_eq_true rfl) ?_
    refine xe_aload_n dX9_fine_0 rfl ?_
    refine xe_iload_n dX9_fine_1 rfl ?_
    refine xe_callVI (d' := 0) (y' := mX9_isMan) dX9_fine_2 mlX9_134 mvX9_isMan rfl (st0 hs) (by decide) rfl (by decide) (by decide) (Nat.le_of_ble_eq_true rfl) (c_X9_isMan_t l g _ (by exact hs) (by exact hp) (by omega)) rfl ?_
    refine xn_if_eq (tgt := 16) dX9_fine_5 rfl (by omega) (fun c1 => ?_) (fun c1 => ?_)
    · omega
    · refine xe_aload_n dX9_fine_8 rfl ?_
      refine xe_iload_n dX9_fine_9 rfl ?_
      refine xe_callVI (d' := 0) (y' := mX9_isDeed) dX9_fine_10 mlX9_174 mvX9_isDeed rfl (st0 hs) (by decide) rfl (by decide) (by decide) (Nat.le_of_ble_eq_true rfl) (c_X9_isDeed_t l g _ (by exact hs) (by exact hp) (by omega)) rfl ?_
      refine xn_if_ne (tgt := 18) dX9_fine_13 rfl (by omega) (fun c2 => ?_) (fun c2 => ?_)
      · refine xe_aload_n dX9_fine_18 rfl ?_
        refine xe_getP dX9_fine_19 flX9_36 (st0 hs) (by decide) rfl (sp0_4 hs) ?_
        refine xe_getIv dX9_fine_22 flX9_137 (st34 hs) (by decide) rfl (v := nI E) (hE1) ?_
        refine xe_sipush dX9_fine_25 ks_300 ?_
        refine xn_icmp_lt (tgt := 34) dX9_fine_28 rfl (by omega) (by omega) (fun c3 => ?_) (fun c3 => ?_)
        · refine xe_aload_n dX9_fine_34 rfl ?_
          refine xe_iload_n dX9_fine_35 rfl ?_
          refine xe_iload_n dX9_fine_36 rfl ?_
          refine xe_callVIq (d' := 2) (y' := mX9_fineNow) dX9_fine_37 mlX9_177 mvX9_fineNow rfl (st0 hs) (by decide) rfl (by decide) (by decide) (Nat.le_of_ble_eq_true rfl) (c_X9_fineNow l g _ (by exact hs) (by exact hp) (by exact hL) (by exact hw) hw2 (by omega) (by omega)) rfl (fun h4 hq4 => ?_)
          obtain ⟨V4, S4, rfl⟩ := hq4
          refine xe_top (v' := nI (q_fi (q_cr h) (q_I h (22 + 5)) LW 0 nc w m d)) ((q_fi_eq _ _ _ _ _ _ _ _).1) ?_
          refine xe_istore_n (i := 3) dX9_fine_40 rfl (by decide) rfl ?_
          refine xe_aload_n dX9_fine_41 rfl ?_
          refine xe_getP dX9_fine_42 flX9_51 (st0 hs) (by decide) rfl (sp0_7 hs) ?_
          refine xe_aload_n dX9_fine_45 rfl ?_
          refine xe_getP dX9_fine_46 flX9_36 (st0 hs) (by decide) rfl (sp0_4 hs) ?_
          refine xe_callVRn (d' := 2) (y' := mX1_note) dX9_fine_49 mlX9_236 mvX1_note rfl (st42 hs) (by decide) rfl (by decide) (by decide) (Nat.le_of_ble_eq_true rfl) (c_X1_note l g _ (by exact hs) hx (by exact h42a) (by exact h42b) hs25) rfl (fun v h1 hq => ?_)
          obtain ⟨rfl, k_⟩ := hq
          have hs1 : q_Stat h1 := q_Stat_2 k_.1 (by exact hs)
          have r35 : q_I h1 35 = q_I h 35 := rk_nd_r k_ (r := 35) (by decide) (by decide)
          have r34 : q_I h1 34 = q_I h 34 := rk_nd_r k_ (r := 34) (by decide) (by decide)
          have r38 : q_I h1 38 = q_I h 38 := rk_nd_r k_ (r := 38) (by decide) (by decide)
          have r39 : q_I h1 39 = q_I h 39 := rk_nd_r k_ (r := 39) (by decide) (by decide)
          have hp1 : rk_P h1 22 nm nd nc mo n := rk_P_of hp (k_.1) (rk_nd_r k_ (r := 10) (by decide) (by decide)) (rk_nd_r k_ (r := 22) (by decide) (by decide))
          have hfb := (q_fi_eq (q_cr h) (q_I h (22 + 5)) LW 0 nc w m d).2
          have hpl : (if q_hv f m < (q_fi (q_cr h) (q_I h (22 + 5)) LW 0 nc w m d) then q_hv f m else (q_fi (q_cr h) (q_I h (22 + 5)) LW 0 nc w m d)) ≤ 999 := by split <;> omega
          refine xe_pop dX9_fine_52 rfl ?_
          refine xe_aload_n dX9_fine_53 rfl ?_
          refine xe_getP dX9_fine_54 flX9_36 (st0 hs1) (by decide) rfl (sp0_4 hs1) ?_
          refine xe_iload_n dX9_fine_57 rfl ?_
          refine xe_bipush dX9_fine_58 kb_8 ?_
          refine xe_iload_n dX9_fine_60 rfl ?_
          refine xe_callVI (d' := 2) (y' := mX6_pluck) dX9_fine_61 mlX9_240 mvX6_pluck rfl (st34 hs1) (by decide) rfl (by decide) (by decide) (Nat.le_of_ble_eq_true rfl) (c_X6_pluck l g _ (by exact hs1) _ _ _ (by omega) (by omega)) rfl ?_
          refine xe_top (v' := nI (if q_hv f m < (q_fi (q_cr h) (q_I h (22 + 5)) LW 0 nc w m d) then q_hv f m else (q_fi (q_cr h) (q_I h (22 + 5)) LW 0 nc w m d))) (q_mvc_pl (by omega) (by omega) (by omega) (by rw [r35]; exact hf) ht (by omega)) ?_
          refine xe_istore dX9_fine_64 (by decide) rfl ?_
          refine xe_aload_n dX9_fine_66 rfl ?_
          refine xe_getP dX9_fine_67 flX9_36 (st0 hs1) (by decide) rfl (sp0_4 hs1) ?_
          refine xe_iload_n dX9_fine_70 rfl ?_
          refine xe_iload_n dX9_fine_71 rfl ?_
          refine xe_iload dX9_fine_72 rfl ?_
          refine xe_callVV (d' := 0) (y' := mX6_writeDown) dX9_fine_74 mlX9_244 mvX6_writeDown rfl (st34 hs1) (by decide) rfl (by decide) (by decide) (Nat.le_of_ble_eq_true rfl) (c_X6_writeDown l g _ (by exact hs1) (by exact (congrFun r34 5).trans hE1) (by omega) (by exact (congrFun r34 6).trans hw) m d _) rfl ?_
          refine xe_aload_n dX9_fine_77 rfl ?_
          refine xe_callVVq (d' := 2) (y' := mX9_countTimes) dX9_fine_78 mlX9_248 mvX9_countTimes rfl (st0 hs1) (by decide) rfl (by decide) (by decide) (Nat.le_of_ble_eq_true rfl) (c_X9_countTimes l g _ (by exact hs1) (by exact hp1) (E := E + 1) (by exact rfl) (by omega) (rk_E_add (m := m) (d := d) (n := (if q_hv f m < (q_fi (q_cr h) (q_I h (22 + 5)) LW 0 nc w m d) then q_hv f m else (q_fi (q_cr h) (q_I h (22 + 5)) LW 0 nc w m d))) (w := w) hE (by omega) (by omega) (show (if q_hv f m < (q_fi (q_cr h) (q_I h (22 + 5)) LW 0 nc w m d) then q_hv f m else (q_fi (q_cr h) (q_I h (22 + 5)) LW 0 nc w m d)) ≤ 9999 by omega) hw2 (by show upd (q_I h1 38) _ _ = _; rw [r38]) (by show upd (q_I h1 39) _ _ = _; rw [r39])) (w := w) (by exact (congrFun r34 6).trans hw) (by omega)) rfl (fun h9 hq9 => ?_)
          obtain ⟨T, rfl, hT⟩ := hq9
          refine xe_iload dX9_fine_81 rfl ?_
          refine xe_ireturn dX9_fine_83 rfl (by first | rfl | decide +kernel) ?_
          exact ⟨rfl, rk_did_of (by repeat (first | exact q_out_r | refine q_out_w rfl ?_)) k_ (by repeat (first | exact q_out_r | refine q_out_w rfl ?_)), by show (q_mvc m 8 m (q_I h1 35) _ 9).1 = _; rw [r35], rk_nd_r k_ (r := 36) (by decide) (by decide), hT, by show upd (q_I h1 38) _ _ = _; rw [r38], by show upd (q_I h1 39) _ _ = _; rw [r39], by show upd (q_I h1 34) _ _ = _; rw [r34]⟩
        · omega
      · omega
theorem c_X9_fine_n (l : Launch) (g : q_GP) (h : q_H) (hs : q_Stat h) {p nm nd nc mo n : Nat} (hp : rk_P h p nm nd nc mo n) {m d : Nat} (hm : m < nm) (hd : d < nd) (hE1 : q_I h 34 5 = nI 300) : q_Cd l g 4 mX9_fine [.ref 0, .int (nI m), .int (nI d)] h (some (.int (-2))) h := by
  obtain ⟨P0, P1, P2, P2b, P3, P3b, P4, P4b, P5, P5b, P6, P6b⟩ := id hp
  rcases P1 with rfl | rfl
  · refine q_CdV mvX9_fine (Nat.le_of_ble_eq_true rfl) ?_
    refine xe_aload_n dX9_fine_0 rfl ?_
    refine xe_iload_n dX9_fine_1 rfl ?_
    refine xe_callVI (d' := 0) (y' := mX9_isMan) dX9_fine_2 mlX9_134 mvX9_isMan rfl (st0 hs) (by decide) rfl (by decide) (by decide) (Nat.le_of_ble_eq_true rfl) (c_X9_isMan_t l g _ (by exact hs) (by exact hp) (by omega)) rfl ?_
    refine xn_if_eq (tgt := 16) dX9_fine_5 rfl (by omega) (fun c1 => ?_) (fun c1 => ?_)
    · omega
    · refine xe_aload_n dX9_fine_8 rfl ?_
      refine xe_iload_n dX9_fine_9 rfl ?_
      refine xe_callVI (d' := 0) (y' := mX9_isDeed) dX9_fine_10 mlX9_174 mvX9_isDeed rfl (st0 hs) (by decide) rfl (by decide) (by decide) (Nat.le_of_ble_eq_true rfl) (c_X9_isDeed_t l g _ (by exact hs) (by exact hp) (by omega)) rfl ?_
      refine xn_if_ne (tgt := 18) dX9_fine_13 rfl (by omega) (fun c2 => ?_) (fun c2 => ?_)
      · refine xe_aload_n dX9_fine_18 rfl ?_
        refine xe_getP dX9_fine_19 flX9_36 (st0 hs) (by decide) rfl (sp0_4 hs) ?_
        refine xe_getIv dX9_fine_22 flX9_137 (st34 hs) (by decide) rfl (v := nI 300) (hE1) ?_
        refine xe_sipush dX9_fine_25 ks_300 ?_
        refine xn_icmp_lt (tgt := 34) dX9_fine_28 rfl (by omega) (by omega) (fun c3 => ?_) (fun c3 => ?_)
        · omega
        · refine xe_bipush dX9_fine_31 kb_m2 ?_
          refine xe_ireturn dX9_fine_33 rfl (by first | rfl | decide +kernel) ?_
          exact ⟨rfl, rfl⟩
      · omega
  · refine q_CdV mvX9_fine (Nat.le_of_ble_eq_true rfl) ?_
    refine xe_aload_n dX9_fine_0 rfl ?_
    refine xe_iload_n dX9_fine_1 rfl ?_
    refine xe_callVI (d' := 0) (y' := mX9_isMan) dX9_fine_2 mlX9_134 mvX9_isMan rfl (st0 hs) (by decide) rfl (by decide) (by decide) (Nat.le_of_ble_eq_true rfl) (c_X9_isMan_t l g _ (by exact hs) (by exact hp) (by omega)) rfl ?_
    refine xn_if_eq (tgt := 16) dX9_fine_5 rfl (by omega) (fun c1 => ?_) (fun c1 => ?_)
    · omega
    · refine xe_aload_n dX9_fine_8 rfl ?_
      refine xe_iload_n dX9_fine_9 rfl ?_
      refine xe_callVI (d' := 0) (y' := mX9_isDeed) dX9_fine_10 mlX9_174 mvX9_isDeed rfl (st0 hs) (by decide) rfl (by decide) (by decide) (Nat.le_of_ble_eq_true rfl) (c_X9_isDeed_t l g _ (by exact hs) (by exact hp) (by omega)) rfl ?_
      refine xn_if_ne (tgt := 18) dX9_fine_13 rfl (by omega) (fun c2 => ?_) (fun c2 => ?_)
      · refine xe_aload_n dX9_fine_18 rfl ?_
        refine xe_getP dX9_fine_19 flX9_36 (st0 hs) (by decide) rfl (sp0_4 hs) ?_
        refine xe_getIv dX9_fine_22 flX9_137 (st34 hs) (by decide) rfl (v := nI 300) (hE1) ?_
        refine xe_sipush dX9_fine_25 ks_300 ?_
        refine xn_icmp_lt (tgt := 34) dX9_fine_28 rfl (by omega) (by omega) (fun c3 => ?_) (fun c3 => ?_)
        · omega
        · refine xe_bipush dX9_fine_31 kb_m2 ?_
          refine xe_ireturn dX9_fine_33 rfl (by first | rfl | decide +kernel) ?_
          exact ⟨rfl, rfl⟩
      · omega
theorem c_X9_fine_f (l : Launch) (g : q_GP) (h : q_H) (hs : q_Stat h) {p nm nd nc mo n : Nat} (hp : rk_P h p nm nd nc mo n) (x z : Int32) (hxz : ¬ (q_isN x nm ∧ q_isN z nd)) : q_Cd l g 4 mX9_fine [.ref 0, .int x, .int z] h (some (.int (-1))) h := by
  obtain ⟨P0, P1, P2, P2b, P3, P3b, P4, P4b, P5, P5b, P6, P6b⟩ := id hp
  rcases P1 with rfl | rfl
  · by_cases h1 : q_isN x nm
    · have h2 := fun q => hxz ⟨h1, q⟩
      obtain ⟨a, ha, rfl⟩ := q_isN_of (by omega) h1
      refine q_CdV mvX9_fine (Nat.le_of_ble_eq_true rfl) ?_
      refine xe_aload_n dX9_fine_0 rfl ?_
      refine xe_iload_n dX9_fine_1 rfl ?_
      refine xe_callVI (d' := 0) (y' := mX9_isMan) dX9_fine_2 mlX9_134 mvX9_isMan rfl (st0 hs) (by decide) rfl (by decide) (by decide) (Nat.le_of_ble_eq_true rfl) (c_X9_isMan_t l g _ (by exact hs) (by exact hp) (by omega)) rfl ?_
      refine xn_if_eq (tgt := 16) dX9_fine_5 rfl (by omega) (fun c1 => ?_) (fun c1 => ?_)
      · omega
      · refine xe_aload_n dX9_fine_8 rfl ?_
        refine xe_iload_n dX9_fine_9 rfl ?_
        refine xe_callVI (d' := 0) (y' := mX9_isDeed) dX9_fine_10 mlX9_174 mvX9_isDeed rfl (st0 hs) (by decide) rfl (by decide) (by decide) (Nat.le_of_ble_eq_true rfl) (c_X9_isDeed_f l g _ (by exact hs) (by exact hp) (h2)) rfl ?_
        refine xn_if_ne (tgt := 18) dX9_fine_13 rfl (by omega) (fun c2 => ?_) (fun c2 => ?_)
        · omega
        · refine xe_iconst dX9_fine_16 kc_m1 ?_
          refine xe_ireturn dX9_fine_17 rfl (by first | rfl | decide +kernel) ?_
          exact ⟨rfl, rfl⟩
    · refine q_CdV mvX9_fine (Nat.le_of_ble_eq_true rfl) ?_
      refine xe_aload_n dX9_fine_0 rfl ?_
      refine xe_iload_n dX9_fine_1 rfl ?_
      refine xe_callVI (d' := 0) (y' := mX9_isMan) dX9_fine_2 mlX9_134 mvX9_isMan rfl (st0 hs) (by decide) rfl (by decide) (by decide) (Nat.le_of_ble_eq_true rfl) (c_X9_isMan_f l g _ (by exact hs) (by exact hp) (h1)) rfl ?_
      refine xn_if_eq (tgt := 16) dX9_fine_5 rfl (by omega) (fun c1 => ?_) (fun c1 => ?_)
      · refine xe_iconst dX9_fine_16 kc_m1 ?_
        refine xe_ireturn dX9_fine_17 rfl (by first | rfl | decide +kernel) ?_
        exact ⟨rfl, rfl⟩
      · omega
  · by_cases h1 : q_isN x nm
    · have h2 := fun q => hxz ⟨h1, q⟩
      obtain ⟨a, ha, rfl⟩ := q_isN_of (by omega) h1
      refine q_CdV mvX9_fine (Nat.le_of_ble_eq_true rfl) ?_
      refine xe_aload_n dX9_fine_0 rfl ?_
      refine xe_iload_n dX9_fine_1 rfl ?_
      refine xe_callVI (d' := 0) (y' := mX9_isMan) dX9_fine_2 mlX9_134 mvX9_isMan rfl (st0 hs) (by decide) rfl (by decide) (by decide) (Nat.le_of_ble_eq_true rfl) (c_X9_isMan_t l g _ (by exact hs) (by exact hp) (by omega)) rfl ?_
      refine xn_if_eq (tgt := 16) dX9_fine_5 rfl (by omega) (fun c1 => ?_) (fun c1 => ?_)
      · omega
      · refine xe_aload_n dX9_fine_8 rfl ?_
        refine xe_iload_n dX9_fine_9 rfl ?_
        refine xe_callVI (d' := 0) (y' := mX9_isDeed) dX9_fine_10 mlX9_174 mvX9_isDeed rfl (st0 hs) (by decide) rfl (by decide) (by decide) (Nat.le_of_ble_eq_true rfl) (c_X9_isDeed_f l g _ (by exact hs) (by exact hp) (h2)) rfl ?_
        refine xn_if_ne (tgt := 18) dX9_fine_13 rfl (by omega) (fun c2 => ?_) (fun c2 => ?_)
        · omega
        · refine xe_iconst dX9_fine_16 kc_m1 ?_
          refine xe_ireturn dX9_fine_17 rfl (by first | rfl | decide +kernel) ?_
          exact ⟨rfl, rfl⟩
    · refine q_CdV mvX9_fine (Nat.le_of_ble_eq_true rfl) ?_
      refine xe_aload_n dX9_fine_0 rfl ?_
      refine xe_iload_n dX9_fine_1 rfl ?_
      refine xe_callVI (d' := 0) (y' := mX9_isMan) dX9_fine_2 mlX9_134 mvX9_isMan rfl (st0 hs) (by decide) rfl (by decide) (by decide) (Nat.le_of_ble_eq_true rfl) (c_X9_isMan_f l g _ (by exact hs) (by exact hp) (h1)) rfl ?_
      refine xn_if_eq (tgt := 16) dX9_fine_5 rfl (by omega) (fun c1 => ?_) (fun c1 => ?_)
      · refine xe_iconst dX9_fine_16 kc_m1 ?_
        refine xe_ireturn dX9_fine_17 rfl (by first | rfl | decide +kernel) ?_
        exact ⟨rfl, rfl⟩
      · omega
theorem rk_E_set {h : q_H} {E i b : Nat} {em ed ew ep ea : Nat → Nat} (hE : rk_E h E em ed ew ep ea) (hi : i < E) (hb : b < 2 := by decide) : rk_E (q_wI h 38 (upd (q_I h 38) i (nI (ep i * 128 + b * 64 + em i * 8 + ed i)))) E em ed ew ep (q_up ea i b) := fun j hj => by
  obtain ⟨a1, a2, a3, a4, a5, a6, a7⟩ := hE j hj
  refine ⟨?_, a2, a3, a4, ?_, a6, a7⟩
  · show upd (q_I h 38) i _ j = _
    by_cases q : j = i
    · rw [q, pk_us, q_up_s]
    · rw [pk_un q, q_up_n q]
      exact a1
  · by_cases q : j = i
    · rw [q, q_up_s]
      exact hb
    · rw [q_up_n q]
      exact a5
theorem c_X9_appeal_t (l : Launch) (g : q_GP) (h : q_H) (hs : q_Stat h) {x s : Nat} (hx : x < 25) (h42a : q_I h 42 1 = nI x) (h42b : q_I h 42 2 = nI s) (hs25 : s ≤ 25) {E : Nat} (hE1 : q_I h 34 5 = nI E) (hE2 : E ≤ 300) {em ed ew ep ea : Nat → Nat} (hE : rk_E h E em ed ew ep ea) {i : Nat} (hi : i < E) (hai : ea i = 0) (hhv : ¬ q_s8 (q_cr h) (8 * em i) = 0) : q_Ct l g 3 mX9_appeal [.ref 0, .int (nI i)] h (fun r h1 => r = some (.int (nI (ep i / 2) - (q_mvc 8 (em i) (em i) (q_mvc (em i) 8 (em i) (q_I h 35) (nI 1) 9).1 (nI (ep i / 2)) 9).2)) ∧ rk_did h x s h1 (-1) (nI 0) (nI i) ∧ q_I h1 35 = (q_mvc 8 (em i) (em i) (q_mvc (em i) 8 (em i) (q_I h 35) (nI 1) 9).1 (nI (ep i / 2)) 9).1 ∧ q_I h1 38 = upd (q_I h 38) i (nI (ep i * 128 + 1 * 64 + em i * 8 + ed i)) ∧ q_I h1 34 = q_I h 34 ∧ q_I h1 36 = q_I h 36 ∧ q_I h1 37 = q_I h 37 ∧ q_I h1 39 = q_I h 39) := by
  obtain ⟨o1, o2, o3, o4, o5, o6, o7⟩ := hE i hi
  refine q_CtV mvX9_appeal (Nat.le_of_ble_eq_true rfl) ?_
  refine xe_aload_n dX9_appeal_0 rfl ?_
  refine xe_iload_n dX9_appeal_1 rfl ?_
  refine xe_callVI (d' := 0) (y' := mX9_isEntry) dX9_appeal_2 mlX9_205 mvX9_isEntry rfl (st0 hs) (by decide) rfl (by decide) (by decide) (Nat.le_of_ble_eq_true rfl) (c_X9_isEntry_t l g _ (by exact hs) (by exact hE1) hE2 (by omega)) rfl ?_
  refine xn_if_ne (tgt := 10) dX9_appeal_5 rfl (by omega) (fun c1 => ?_) (fun c1 => ?_)
  · refine xe_aload_n dX9_appeal_10 rfl ?_
    refine xe_getP dX9_appeal_11 flX9_36 (st0 hs) (by decide) rfl (sp0_4 hs) ?_
    refine xe_iload_n dX9_appeal_14 rfl ?_
    refine xe_callVI (d' := 0) (y' := mX6_entryMan) dX9_appeal_15 mlX9_208 mvX6_entryMan rfl (st34 hs) (by decide) rfl (by decide) (by decide) (Nat.le_of_ble_eq_true rfl) (c_X6_entryMan l g _ (by exact hs) hE2 (by exact hE) (by omega)) rfl ?_
    refine xe_istore_n (i := 2) dX9_appeal_18 rfl (by decide) rfl ?_
    refine xe_aload_n dX9_appeal_19 rfl ?_
    refine xe_getP dX9_appeal_20 flX9_36 (st0 hs) (by decide) rfl (sp0_4 hs) ?_
    refine xe_iload_n dX9_appeal_23 rfl ?_
    refine xe_callVI (d' := 0) (y' := mX6_isAppealed) dX9_appeal_24 mlX9_220 mvX6_isAppealed rfl (st34 hs) (by decide) rfl (by decide) (by decide) (Nat.le_of_ble_eq_true rfl) (c_X6_isAppealed l g _ (by exact hs) hE2 (by exact hE) (by omega)) rfl ?_
    refine xn_if_ne (tgt := 41) dX9_appeal_27 rfl (by omega) (fun c2 => ?_) (fun c2 => ?_)
    · omega
    · refine xe_aload_n dX9_appeal_30 rfl ?_
      refine xe_getP dX9_appeal_31 flX9_36 (st0 hs) (by decide) rfl (sp0_4 hs) ?_
      refine xe_iload_n dX9_appeal_34 rfl ?_
      refine xe_callVI (d' := 0) (y' := mX6_inRow) dX9_appeal_35 mlX9_140 mvX6_inRow rfl (st34 hs) (by decide) rfl (by decide) (by decide) (Nat.le_of_ble_eq_true rfl) (c_X6_inRow l g _ (by exact hs) _ (by omega)) rfl ?_
      refine xe_top (v' := q_s8 (q_cr h) (8 * (em i))) (q_cr_in h (by omega)) ?_
      refine xe_if_ne (tgt := 44) dX9_appeal_38 rfl (fun c3 => ?_) (fun c3 => ?_)
      · refine xe_aload_n dX9_appeal_44 rfl ?_
        refine xe_getP dX9_appeal_45 flX9_51 (st0 hs) (by decide) rfl (sp0_7 hs) ?_
        refine xe_aload_n dX9_appeal_48 rfl ?_
        refine xe_getP dX9_appeal_49 flX9_36 (st0 hs) (by decide) rfl (sp0_4 hs) ?_
        refine xe_callVRn (d' := 2) (y' := mX1_note) dX9_appeal_52 mlX9_236 mvX1_note rfl (st42 hs) (by decide) rfl (by decide) (by decide) (Nat.le_of_ble_eq_true rfl) (c_X1_note l g _ (by exact hs) hx (by exact h42a) (by exact h42b) hs25) rfl (fun v h1 hq => ?_)
        obtain ⟨rfl, k_⟩ := hq
        have hs1 : q_Stat h1 := q_Stat_2 k_.1 (by exact hs)
        refine xe_iload_n dX9_appeal_55 rfl ?_
        refine xe_putI dX9_appeal_56 flX9_253 (stD hs1 hx) (by decide) rfl (Or.inl rfl) rfl rfl ?_
        obtain ⟨h2, hg⟩ : ∃ z, z = q_wI h1 (44 + 2 * x) (upd (q_I h1 (44 + 2 * x)) 5 (nI i)) := ⟨_, rfl⟩
        refine xe_heap (h2 := h2) hg.symm ?_
        have k2_ := rk_nd_app (i := i) k_
        rw [← hg] at k2_
        have hs2 : q_Stat h2 := q_Stat_2 k2_.1 (by exact hs)
        have r35 : q_I h2 35 = q_I h 35 := rk_nd_r k2_ (r := 35) (by decide) (by decide)
        have r38 : q_I h2 38 = q_I h 38 := rk_nd_r k2_ (r := 38) (by decide) (by decide)
        have r39 : q_I h2 39 = q_I h 39 := rk_nd_r k2_ (r := 39) (by decide) (by decide)
        have hE9 : rk_E h2 E em ed ew ep ea := rk_E_of hE r38 r39
        have hE8 : rk_E (q_wI h2 38 (upd (q_I h2 38) i (nI (ep i * 128 + 1 * 64 + em i * 8 + ed i)))) E em ed ew ep (q_up ea i 1) := rk_E_set hE9 hi
        refine xe_aload_n dX9_appeal_59 rfl ?_
        refine xe_getP dX9_appeal_60 flX9_36 (st0 hs2) (by decide) rfl (sp0_4 hs2) ?_
        refine xe_iload_n dX9_appeal_63 rfl ?_
        refine xe_iconst dX9_appeal_64 kc_1 ?_
        refine xe_callVV (d' := 1) (y' := mX6_setAppealed) dX9_appeal_65 mlX9_258 mvX6_setAppealed rfl (st34 hs2) (by decide) rfl (by decide) (by decide) (Nat.le_of_ble_eq_true rfl) (c_X6_setAppealed_1 l g _ (by exact hs2) hE2 (by exact hE9) hi hai) rfl ?_
        refine xe_aload_n dX9_appeal_68 rfl ?_
        refine xe_getP dX9_appeal_69 flX9_36 (st0 hs2) (by decide) rfl (sp0_4 hs2) ?_
        refine xe_iload_n dX9_appeal_72 rfl ?_
        refine xe_bipush dX9_appeal_73 kb_8 ?_
        refine xe_iconst dX9_appeal_75 kc_1 ?_
        refine xe_callVI (d' := 2) (y' := mX6_pluck) dX9_appeal_76 mlX9_240 mvX6_pluck rfl (st34 hs2) (by decide) rfl (by decide) (by decide) (Nat.le_of_ble_eq_true rfl) (c_X6_pluck l g _ (by exact hs2) _ _ _ (by omega) (by omega)) rfl ?_
        refine xe_pop dX9_appeal_79 rfl ?_
        obtain ⟨F1, hF1⟩ : ∃ z, z = (q_mvc (em i) 8 (em i) (q_I h2 35) (nI 1) 9).1 := ⟨_, rfl⟩
        refine xe_heap (h2 := q_wI (q_wI h2 38 (upd (q_I h2 38) i (nI (ep i * 128 + 1 * 64 + em i * 8 + ed i)))) 35 F1) (by rw [hF1]; rfl) ?_
        refine xe_aload_n dX9_appeal_80 rfl ?_
        refine xe_getP dX9_appeal_81 flX9_36 (st0 hs2) (by decide) rfl (sp0_4 hs2) ?_
        refine xe_bipush dX9_appeal_84 kb_8 ?_
        refine xe_iload_n dX9_appeal_86 rfl ?_
        refine xe_iload_n dX9_appeal_87 rfl ?_
        refine xe_aload_n dX9_appeal_88 rfl ?_
        refine xe_getP dX9_appeal_89 flX9_36 (st0 hs2) (by decide) rfl (sp0_4 hs2) ?_
        refine xe_iload_n dX9_appeal_92 rfl ?_
        refine xe_callVI (d' := 0) (y' := mX6_entryPlucked) dX9_appeal_93 mlX9_217 mvX6_entryPlucked rfl (st34 hs2) (by decide) rfl (by decide) (by decide) (Nat.le_of_ble_eq_true rfl) (c_X6_entryPlucked l g _ (by exact hs2) hE2 (by exact hE8) hi) rfl ?_
        refine xe_iconst dX9_appeal_96 kc_2 ?_
        refine xn_idiv dX9_appeal_97 (by omega) (by omega) (by omega) ?_
        refine xe_callVI (d' := 1) (y' := mX6_move) dX9_appeal_98 mlX9_262 mvX6_move rfl (st34 hs2) (by decide) rfl (by decide) (by decide) (Nat.le_of_ble_eq_true rfl) (c_X6_move l g _ (by exact hs2) _ _ _ _ (by omega) (by omega) (by omega)) rfl ?_
        refine xe_ireturn dX9_appeal_101 rfl (by first | rfl | decide +kernel) ?_
        refine ⟨?_, rk_did_of q_out_r k2_ (by repeat (first | exact q_out_r | refine q_out_w rfl ?_)), ?_, by show upd (q_I h2 38) _ _ = _; rw [r38], rk_nd_r k2_ (r := 34) (by decide) (by decide), rk_nd_r k2_ (r := 36) (by decide) (by decide), rk_nd_r k2_ (r := 37) (by decide) (by decide), rk_nd_r k2_ (r := 39) (by decide) (by decide)⟩
        · rw [← r35, ← hF1]
          rfl
        · rw [← r35, ← hF1]
          rfl
      · exact absurd c3 hhv
  · omega
theorem c_X9_appeal_1 (l : Launch) (g : q_GP) (h : q_H) (hs : q_Stat h) {x s : Nat} (hx : x < 25) (h42a : q_I h 42 1 = nI x) (h42b : q_I h 42 2 = nI s) (hs25 : s ≤ 25) {E : Nat} (hE1 : q_I h 34 5 = nI E) (hE2 : E ≤ 300) {em ed ew ep ea : Nat → Nat} (hE : rk_E h E em ed ew ep ea) {i : Nat} (hi : i < E) (hai : ea i = 1) : q_Cd l g 3 mX9_appeal [.ref 0, .int (nI i)] h (some (.int (-2))) h := by
  obtain ⟨o1, o2, o3, o4, o5, o6, o7⟩ := hE i hi
  refine q_CdV mvX9_appeal (Nat.le_of_ble_eq_true rfl) ?_
  refine xe_aload_n dX9_appeal_0 rfl ?_
  refine xe_iload_n dX9_appeal_1 rfl ?_
  refine xe_callVI (d' := 0) (y' := mX9_isEntry) dX9_appeal_2 mlX9_205 mvX9_isEntry rfl (st0 hs) (by decide) rfl (by decide) (by decide) (Nat.le_of_ble_eq_true rfl) (c_X9_isEntry_t l g _ (by exact hs) (by exact hE1) hE2 (by omega)) rfl ?_
  refine xn_if_ne (tgt := 10) dX9_appeal_5 rfl (by omega) (fun c1 => ?_) (fun c1 => ?_)
  · refine xe_aload_n dX9_appeal_10 rfl ?_
    refine xe_getP dX9_appeal_11 flX9_36 (st0 hs) (by decide) rfl (sp0_4 hs) ?_
    refine xe_iload_n dX9_appeal_14 rfl ?_
    refine xe_callVI (d' := 0) (y' := mX6_entryMan) dX9_appeal_15 mlX9_208 mvX6_entryMan rfl (st34 hs) (by decide) rfl (by decide) (by decide) (Nat.le_of_ble_eq_true rfl) (c_X6_entryMan l g _ (by exact hs) hE2 (by exact hE) (by omega)) rfl ?_
    refine xe_istore_n (i := 2) dX9_appeal_18 rfl (by decide) rfl ?_
    refine xe_aload_n dX9_appeal_19 rfl ?_
    refine xe_getP dX9_appeal_20 flX9_36 (st0 hs) (by decide) rfl (sp0_4 hs) ?_
    refine xe_iload_n dX9_appeal_23 rfl ?_
    refine xe_callVI (d' := 0) (y' := mX6_isAppealed) dX9_appeal_24 mlX9_220 mvX6_isAppealed rfl (st34 hs) (by decide) rfl (by decide) (by decide) (Nat.le_of_ble_eq_true rfl) (c_X6_isAppealed l g _ (by exact hs) hE2 (by exact hE) (by omega)) rfl ?_
    refine xn_if_ne (tgt := 41) dX9_appeal_27 rfl (by omega) (fun c2 => ?_) (fun c2 => ?_)
    · refine xe_bipush dX9_appeal_41 kb_m2 ?_
      refine xe_ireturn dX9_appeal_43 rfl (by first | rfl | decide +kernel) ?_
      exact ⟨rfl, rfl⟩
    · omega
  · omega
theorem c_X9_appeal_2 (l : Launch) (g : q_GP) (h : q_H) (hs : q_Stat h) {x s : Nat} (hx : x < 25) (h42a : q_I h 42 1 = nI x) (h42b : q_I h 42 2 = nI s) (hs25 : s ≤ 25) {E : Nat} (hE1 : q_I h 34 5 = nI E) (hE2 : E ≤ 300) {em ed ew ep ea : Nat → Nat} (hE : rk_E h E em ed ew ep ea) {i : Nat} (hi : i < E) (hai : ea i = 0) (hhv : q_s8 (q_cr h) (8 * em i) = 0) : q_Cd l g 3 mX9_appeal [.ref 0, .int (nI i)] h (some (.int (-2))) h := by
  obtain ⟨o1, o2, o3, o4, o5, o6, o7⟩ := hE i hi
  refine q_CdV mvX9_appeal (Nat.le_of_ble_eq_true rfl) ?_
  refine xe_aload_n dX9_appeal_0 rfl ?_
  refine xe_iload_n dX9_appeal_1 rfl ?_
  refine xe_callVI (d' := 0) (y' := mX9_isEntry) dX9_appeal_2 mlX9_205 mvX9_isEntry rfl (st0 hs) (by decide) rfl (by decide) (by decide) (Nat.le_of_ble_eq_true rfl) (c_X9_isEntry_t l g _ (by exact hs) (by exact hE1) hE2 (by omega)) rfl ?_
  refine xn_if_ne (tgt := 10) dX9_appeal_5 rfl (by omega) (fun c1 => ?_) (fun c1 => ?_)
  · refine xe_aload_n dX9_appeal_10 rfl ?_
    refine xe_getP dX9_appeal_11 flX9_36 (st0 hs) (by decide) rfl (sp0_4 hs) ?_
    refine xe_iload_n dX9_appeal_14 rfl ?_
    refine xe_callVI (d' := 0) (y' := mX6_entryMan) dX9_appeal_15 mlX9_208 mvX6_entryMan rfl (st34 hs) (by decide) rfl (by decide) (by decide) (Nat.le_of_ble_eq_true rfl) (c_X6_entryMan l g _ (by exact hs) hE2 (by exact hE) (by omega)) rfl ?_
    refine xe_istore_n (i := 2) dX9_appeal_18 rfl (by decide) rfl ?_
    refine xe_aload_n dX9_appeal_19 rfl ?_
    refine xe_getP dX9_appeal_20 flX9_36 (st0 hs) (by decide) rfl (sp0_4 hs) ?_
    refine xe_iload_n dX9_appeal_23 rfl ?_
    refine xe_callVI (d' := 0) (y' := mX6_isAppealed) dX9_appeal_24 mlX9_220 mvX6_isAppealed rfl (st34 hs) (by decide) rfl (by decide) (by decide) (Nat.le_of_ble_eq_true rfl) (c_X6_isAppealed l g _ (by exact hs) hE2 (by exact hE) (by omega)) rfl ?_
    refine xn_if_ne (tgt := 41) dX9_appeal_27 rfl (by omega) (fun c2 => ?_) (fun c2 => ?_)
    · omega
    · refine xe_aload_n dX9_appeal_30 rfl ?_
      refine xe_getP dX9_appeal_31 flX9_36 (st0 hs) (by decide) rfl (sp0_4 hs) ?_
      refine xe_iload_n dX9_appeal_34 rfl ?_
      refine xe_callVI (d' := 0) (y' := mX6_inRow) dX9_appeal_35 mlX9_140 mvX6_inRow rfl (st34 hs) (by decide) rfl (by decide) (by decide) (Nat.le_of_ble_eq_true rfl) (c_X6_inRow l g _ (by exact hs) _ (by omega)) rfl ?_
      refine xe_top (v' := q_s8 (q_cr h) (8 * (em i))) (q_cr_in h (by omega)) ?_
      refine xe_if_ne (tgt := 44) dX9_appeal_38 rfl (fun c3 => ?_) (fun c3 => ?_)
      · exact absurd hhv c3
      · refine xe_bipush dX9_appeal_41 kb_m2 ?_
        refine xe_ireturn dX9_appeal_43 rfl (by first | rfl | decide +kernel) ?_
        exact ⟨rfl, rfl⟩
  · omega
theorem c_X9_appeal_f (l : Launch) (g : q_GP) (h : q_H) (hs : q_Stat h) {E : Nat} (hE1 : q_I h 34 5 = nI E) (hE2 : E ≤ 300) {x : Int32} (hx : ¬ q_isN x E) : q_Cd l g 3 mX9_appeal [.ref 0, .int x] h (some (.int (-1))) h := by
  refine q_CdV mvX9_appeal (Nat.le_of_ble_eq_true rfl) ?_
  refine xe_aload_n dX9_appeal_0 rfl ?_
  refine xe_iload_n dX9_appeal_1 rfl ?_
  refine xe_callVI (d' := 0) (y' := mX9_isEntry) dX9_appeal_2 mlX9_205 mvX9_isEntry rfl (st0 hs) (by decide) rfl (by decide) (by decide) (Nat.le_of_ble_eq_true rfl) (c_X9_isEntry_f l g _ (by exact hs) (by exact hE1) hE2 hx) rfl ?_
  refine xn_if_ne (tgt := 10) dX9_appeal_5 rfl (by omega) (fun c1 => ?_) (fun c1 => ?_)
  · omega
  · refine xe_iconst dX9_appeal_8 kc_m1 ?_
    refine xe_ireturn dX9_appeal_9 rfl (by first | rfl | decide +kernel) ?_
    exact ⟨rfl, rfl⟩
