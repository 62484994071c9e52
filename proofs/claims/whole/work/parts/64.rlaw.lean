/-! the reference: laws of a text -/
/-- what a law may touch: rows of branches, of codes, from some place of the side on -/
def q_rf (sd cc bb : Nat) (h0 h : q_H) : Prop := h.2 = h0.2 ∧ (∀ r, r ≠ 124 → r < 144 ∨ 151 < r → q_I h r = q_I h0 r) ∧ (∀ k, k ≠ 11 → k ≠ 12 → k ≠ 13 → k ≠ 14 → k ≠ 33 → k ≠ 39 → k ≠ 43 → q_I h 124 k = q_I h0 124 k) ∧ (∀ i, i < cc ∨ 420 * sd + 420 ≤ i → q_I h 149 i = q_I h0 149 i ∧ q_I h 150 i = q_I h0 150 i) ∧ (∀ r, 144 ≤ r → r ≤ 148 → ∀ i, i < bb ∨ 130 * sd + 130 ≤ i → q_I h r i = q_I h0 r i)
/-- at token t, no fault, cc codes, bb branches -/
def q_rs (h : q_H) (K : q_TK) (m sd t cc bb : Nat) : Prop := q_Stat h ∧ rt_R h K m t ∧ q_I h 124 12 = nI 0 ∧ q_I h 124 19 = nI sd ∧ sd < 2 ∧ q_I h 124 33 = nI bb ∧ q_I h 124 39 = nI cc ∧ 420 * sd ≤ cc ∧ cc ≤ 420 * sd + t ∧ 130 * sd ≤ bb ∧ bb ≤ 130 * sd + 105
/-- a fault -/
def q_rb (h : q_H) (K : q_TK) (sd : Nat) (e : Nat × Nat) : Prop := q_Stat h ∧ q_I h 124 19 = nI sd ∧ sd < 2 ∧ q_I h 124 13 = nI e.1 ∧ q_I h 124 14 = nI (tk_P K e.2) ∧ 1 ≤ e.1 ∧ e.1 ≤ 5 ∧ (∃ t, t ≤ 400 ∧ q_I h 124 11 = nI t) ∧ (∃ n, n ≤ 420 * sd + 420 ∧ q_I h 124 39 = nI n) ∧ ∃ b, q_I h 124 33 = nI b ∧ 130 * sd ≤ b ∧ b ≤ 130 * sd + 110
theorem rf_t {sd cc bb cc1 bb1 : Nat} {h0 h h1 : q_H} (a : q_rf sd cc bb h0 h) (b : q_rf sd cc1 bb1 h h1) (hc : cc ≤ cc1) (hb : bb ≤ bb1) : q_rf sd cc bb h0 h1 := ⟨b.1.trans a.1, fun r x y => (b.2.1 r x y).trans (a.2.1 r x y), fun k x1 x2 x3 x4 x5 x6 x7 => (b.2.2.1 k x1 x2 x3 x4 x5 x6 x7).trans (a.2.2.1 k x1 x2 x3 x4 x5 x6 x7), fun i hi => ⟨((b.2.2.2.1 i (by omega)).1).trans (a.2.2.2.1 i hi).1, ((b.2.2.2.1 i (by omega)).2).trans (a.2.2.2.1 i hi).2⟩, fun r x y i hi => (b.2.2.2.2 r x y i (by omega)).trans (a.2.2.2.2 r x y i hi)⟩
theorem rf_r {sd cc bb : Nat} {h : q_H} : q_rf sd cc bb h h := ⟨rfl, fun _ _ _ => rfl, fun _ _ _ _ _ _ _ _ => rfl, fun _ _ => ⟨rfl, rfl⟩, fun _ _ _ _ _ => rfl⟩
/-- cell 124 alone -/
theorem rf_o {sd cc bb : Nat} {h0 h : q_H} {f : Nat → Int32} (a : q_rf sd cc bb h0 h) (hf : ∀ k, k ≠ 11 → k ≠ 12 → k ≠ 13 → k ≠ 14 → k ≠ 33 → k ≠ 39 → k ≠ 43 → f k = q_I h 124 k) : q_rf sd cc bb h0 (q_wI h 124 f) := ⟨a.1, fun r x y => (q_Ine x).trans (a.2.1 r x y), fun k x1 x2 x3 x4 x5 x6 x7 => (hf k x1 x2 x3 x4 x5 x6 x7).trans (a.2.2.1 k x1 x2 x3 x4 x5 x6 x7), a.2.2.2.1, fun r x y i hi => (congrFun (q_Ine (by omega)) i).trans (a.2.2.2.2 r x y i hi)⟩
/-- a row of branches -/
theorem rf_b {sd cc bb r0 j : Nat} {v : Int32} {h0 h : q_H} (a : q_rf sd cc bb h0 h) (h1 : 144 ≤ r0) (h2 : r0 ≤ 148) (hj : bb ≤ j) (hj2 : j < 130 * sd + 130) : q_rf sd cc bb h0 (q_wI h r0 (upd (q_I h r0) j v)) := by
  refine ⟨a.1, fun r x y => (q_Ine (by omega)).trans (a.2.1 r x y), fun k x1 x2 x3 x4 x5 x6 x7 => (congrFun (q_Ine (by omega)) k).trans (a.2.2.1 k x1 x2 x3 x4 x5 x6 x7), fun i hi => ⟨(congrFun (q_Ine (by omega)) i).trans (a.2.2.2.1 i hi).1, (congrFun (q_Ine (by omega)) i).trans (a.2.2.2.1 i hi).2⟩, fun r x y i hi => ?_⟩
  by_cases hr : r = r0
  · subst hr
    rw [q_Iw, pk_un (by omega)]
    exact a.2.2.2.2 r x y i hi
  · exact (congrFun (q_Ine hr) i).trans (a.2.2.2.2 r x y i hi)
theorem rs_x0 {h : q_H} {K : q_TK} {m sd t cc bb : Nat} (a : q_rs h K m sd t cc bb) : q_x0 K m h cc (420 * sd + 420) := ⟨a.1, a.2.1.1, a.2.1.2.2.2, by have := a.2.2.2.2.1; omega⟩
/-- behind a sum -/
def q_rx (h : q_H) (K : q_TK) (m sd cc bb : Nat) (x : List (Nat × Int32) × Nat) (h1 : q_H) : Prop := q_rf sd cc bb h h1 ∧ q_rs h1 K m sd x.2 (cc + x.1.length) bb ∧ q_sg (q_I h1 149) (q_I h1 150) cc x.1 ∧ (∀ r, 144 ≤ r → r ≤ 148 → q_I h1 r = q_I h r)
def q_rxA (h : q_H) (K : q_TK) (m sd cc bb : Nat) (o : q_XR) (r : Option Value) (h1 : q_H) : Prop := match o with
  | .inl e => r = none ∧ q_rf sd cc bb h h1 ∧ q_rb h1 K sd e ∧ q_I h1 124 33 = nI bb
  | .inr x => r = none ∧ q_rx h K m sd cc bb x h1
theorem r_expr (l : Launch) (g : q_GP) {h : q_H} {K : q_TK} {m sd t cc bb : Nat} (a : q_rs h K m sd t cc bb) : q_Ct l g 3 mX10_expression [.ref 124] h (q_rxA h K m sd cc bb (tx_sum K 6 t)) := by
  have b := rs_x0 a
  obtain ⟨a1, a2, a3, a4, a5, a6, a7, a8, a9, a10, a11⟩ := a
  have hm4 := a2.1.1
  have htm := a2.2.1
  refine q_Ct_post (fun r h1 q => ?_) (c_X10_expression l g b a2.2.1 a2.2.2.1 a3 a7 (by omega))
  cases hu : tx_sum K 6 t with
  | inl e =>
    rw [hu] at q
    obtain ⟨q0, q1, q2, q3, q4, q5, q6, q7, q8, q9, q10⟩ := q
    have k33 := (q3 33 (by decide) (by decide) (by decide) (by decide) (by decide) (by decide)).trans a6
    refine ⟨q0, ⟨q1, fun r x y => q2 r x (by omega) (by omega) (by omega), fun k x1 x2 x3 x4 x5 x6 x7 => q3 k x1 x2 x3 x4 x6 x7, fun i hi => q10 i hi, fun r x y i hi => congrFun (q2 r (by omega) (by omega) (by omega) (by omega)) i⟩, ⟨q_Stat_2 q1 a1, (q3 19 (by decide) (by decide) (by decide) (by decide) (by decide) (by decide)).trans a4, a5, q4, q5, q6, q7, q8, q9, bb, k33, a10, by omega⟩, k33⟩
  | inr x =>
    rw [hu] at q
    obtain ⟨g1, g2, g3, g4, g5⟩ := tx_sum_ok K 6 _ _ hu
    obtain ⟨q0, qx⟩ := q
    have hR1 := xs_R b qx
    obtain ⟨q1, q2, q3, q4, q5, q6, q7, q8, q9, q10, q11, q12⟩ := qx
    refine ⟨q0, ⟨q2, fun r x y => q3 r x (by omega) (by omega) (by omega), fun k x1 x2 x3 x4 x5 x6 x7 => q4 k x1 x2 x6 x7, fun i hi => q10 i hi, fun r x y i hi => congrFun (q3 r (by omega) (by omega) (by omega) (by omega)) i⟩, ⟨q_Stat_2 q2 a1, hR1, q6, (q4 19 (by decide) (by decide) (by decide) (by decide)).trans a4, a5, (q4 33 (by decide) (by decide) (by decide) (by decide)).trans a6, q9, by omega, by omega, a10, a11⟩, q11, fun r x y => q3 r (by omega) (by omega) (by omega) (by omega)⟩
theorem r_expr_b (l : Launch) (g : q_GP) (h : q_H) {K : q_TK} {sd : Nat} {e : Nat × Nat} (a : q_rb h K sd e)  : q_Ct l g 3 mX10_expression [.ref 124] h (fun r h1 => r = none ∧ q_rb h1 K sd e ∧ h1 = q_wI h 124 (upd (q_I h 124) 43 (nI 0))) := by
  obtain ⟨hs, h19, hsd, h13, h14, he1, he5, ⟨t1, ht1, h11⟩, ⟨n1, hn1, h39⟩, b1, h33, hb1, hb2⟩ := id a
  refine q_CtV mvX10_expression (Nat.le_of_ble_eq_true rfl) ?_
  refine xe_aload_n dX10_expression_0 rfl ?_
  refine xe_iconst dX10_expression_1 kc_0 ?_
  refine xe_putI dX10_expression_2 flX10_295 (st124 hs) (by decide) rfl (Or.inl rfl) rfl rfl ?_
  refine xe_aload_n dX10_expression_5 rfl ?_
  refine xe_getIv dX10_expression_6 flX10_225 (st124 hs) (by decide) rfl (v := (q_I h 124 12)) (rfl) ?_
  refine xe_istore_n (i := 1) dX10_expression_9 rfl (by decide) rfl ?_
  refine xe_iconst dX10_expression_10 kc_1 ?_
  refine xe_istore_n (i := 2) dX10_expression_11 rfl (by decide) rfl ?_
  refine xe_iload_n dX10_expression_12 rfl ?_
  refine xn_if_eq (tgt := 272) dX10_expression_13 rfl (by omega) (fun c1 => ?_) (fun c1 => ?_)
  · omega
  · refine xe_aload_n dX10_expression_16 rfl ?_
    refine xe_getIv dX10_expression_17 flX10_198 (st124 hs) (by decide) rfl (v := nI e.1) (h13) ?_
    refine xn_if_ne (tgt := 272) dX10_expression_20 rfl (by omega) (fun c2 => ?_) (fun c2 => ?_)
    · refine xe_return dX10_expression_272 rfl ?_
      exact ⟨rfl, ⟨hs, h19, hsd, h13, h14, he1, he5, ⟨t1, ht1, h11⟩, ⟨n1, hn1, h39⟩, b1, h33, hb1, hb2⟩, rfl⟩
    · omega
theorem r_term_b (l : Launch) (g : q_GP) (h : q_H) {K : q_TK} {sd BB : Nat} {e : Nat × Nat} (a : q_rb h K sd e) (hb9 : q_I h 124 33 = nI BB) (hB : BB < 130 * sd + 110)  : q_Ct l g 4 mX10_term [.ref 124] h (fun r h1 => r = none ∧ q_rf sd (420 * sd + 420) BB h h1 ∧ q_rb h1 K sd e ∧ q_I h1 124 33 = nI (BB + 1)) := by
  obtain ⟨hs, h19, hsd, h13, h14, he1, he5, ⟨t1, ht1, h11⟩, ⟨n1, hn1, h39⟩, b1, h33, hb1, hb2⟩ := id a
  have hBB : b1 = BB := by
    have := h33.symm.trans hb9
    exact (nI_eq (by omega) (by omega)).mp this
  subst hBB
  refine q_CtV mvX10_term (Nat.le_of_ble_eq_true rfl) ?_
  refine xe_aload_n dX10_term_0 rfl ?_
  refine xe_getP dX10_term_1 flX10_86 (st124 hs) (by decide) rfl (sp124_37 hs) ?_
  refine xe_aload_n dX10_term_4 rfl ?_
  refine xe_getIv dX10_term_5 flX10_237 (st124 hs) (by decide) rfl (v := nI b1) (h33) ?_
  refine xe_aload_n dX10_term_8 rfl ?_
  refine xe_getIv dX10_term_9 flX10_240 (st124 hs) (by decide) rfl (v := nI n1) (h39) ?_
  refine xn_iast dX10_term_12 (st147 hs) (by omega) (by decide) ?_
  refine xe_aload_n dX10_term_13 rfl ?_
  refine xe_getIv dX10_term_14 flX10_198 (st124 hs) (by decide) rfl (v := nI e.1) (h13) ?_
  refine xn_if_ne (tgt := 24) dX10_term_17 rfl (by omega) (fun c1 => ?_) (fun c1 => ?_)
  · refine xe_aload_n dX10_term_24 rfl ?_
    refine xe_getP dX10_term_25 flX10_89 (st124 hs) (by decide) rfl (sp124_38 hs) ?_
    refine xe_aload_n dX10_term_28 rfl ?_
    refine xe_getIv dX10_term_29 flX10_237 (st124 hs) (by decide) rfl (v := nI b1) (h33) ?_
    refine xe_aload_n dX10_term_32 rfl ?_
    refine xe_getIv dX10_term_33 flX10_240 (st124 hs) (by decide) rfl (v := nI n1) (h39) ?_
    refine xn_iast dX10_term_36 (st148 hs) (by omega) (by decide) ?_
    refine xe_aload_n dX10_term_37 rfl ?_
    refine xe_dup dX10_term_38 rfl ?_
    refine xe_getIv dX10_term_39 flX10_237 (st124 hs) (by decide) rfl (v := nI b1) (h33) ?_
    refine xe_iconst dX10_term_42 kc_1 ?_
    refine xn_iadd dX10_term_43 ?_
    refine xe_putI dX10_term_44 flX10_237 (st124 hs) (by decide) rfl (Or.inl rfl) rfl rfl ?_
    refine xe_return dX10_term_47 rfl ?_
    refine ⟨rfl, rf_o (rf_b (rf_b rf_r (by decide) (by decide) (by omega) (by omega)) (by decide) (by decide) (by omega) (by omega)) (fun k x1 x2 x3 x4 x5 x6 x7 => pk_un x5), ⟨hs, h19, hsd, h13, h14, he1, he5, ⟨t1, ht1, h11⟩, ⟨n1, hn1, h39⟩, b1 + 1, rfl, by omega, by omega⟩, rfl⟩
  · omega
def q_tmA (h : q_H) (K : q_TK) (m sd cc bb : Nat) (o : q_XR) (r : Option Value) (h1 : q_H) : Prop := match o with
  | .inl e => r = none ∧ q_rf sd cc bb h h1 ∧ q_rb h1 K sd e ∧ q_I h1 124 33 = nI (bb + 1)
  | .inr x => r = none ∧ q_rf sd cc bb h h1 ∧ q_rs h1 K m sd x.2 (cc + x.1.length) (bb + 1) ∧ q_sg (q_I h1 149) (q_I h1 150) cc x.1 ∧ q_I h1 147 bb = nI cc ∧ q_I h1 148 bb = nI (cc + x.1.length) ∧ q_I h1 144 = q_I h 144 ∧ q_I h1 145 = q_I h 145 ∧ q_I h1 146 = q_I h 146
theorem rs_w {h : q_H} {K : q_TK} {m sd t cc bb r0 : Nat} {f : Nat → Int32} (h1 : 144 ≤ r0) (h2 : r0 ≤ 148) (a : q_rs h K m sd t cc bb) : q_rs (q_wI h r0 f) K m sd t cc bb := by
  obtain ⟨hs, hR, h12, h19, hsd, h33, h39, hc1, hc2, hb1, hb2⟩ := a
  have e : q_I (q_wI h r0 f) 124 = q_I h 124 := q_Ine (by omega)
  refine ⟨hs, ⟨rt_Tc hR.1 (q_Ine (by omega)) (q_Ine (by omega)) (q_Ine (by omega)) rfl, hR.2.1, by rw [e]; exact hR.2.2.1, by rw [e]; exact hR.2.2.2⟩, by rw [e]; exact h12, by rw [e]; exact h19, hsd, by rw [e]; exact h33, by rw [e]; exact h39, hc1, hc2, hb1, hb2⟩
theorem rx_inl {l : Launch} {g : q_GP} {d : Nat} {y : q_MI} {as : List Value} {h h' : q_H} {K : q_TK} {m sd cc bb : Nat} {o : q_XR} {er : Nat × Nat} (e : o = .inl er) (C : q_Ct l g d y as h (q_rxA h' K m sd cc bb o)) : q_Ct l g d y as h (fun r h1 => r = none ∧ (q_rf sd cc bb h' h1 ∧ q_rb h1 K sd er ∧ q_I h1 124 33 = nI bb)) := by
  rw [e] at C
  exact C
theorem rx_inr {l : Launch} {g : q_GP} {d : Nat} {y : q_MI} {as : List Value} {h h' : q_H} {K : q_TK} {m sd cc bb : Nat} {o : q_XR} {x : List (Nat × Int32) × Nat} (e : o = .inr x) (C : q_Ct l g d y as h (q_rxA h' K m sd cc bb o)) : q_Ct l g d y as h (fun r h1 => r = none ∧ q_rx h' K m sd cc bb x h1) := by
  rw [e] at C
  exact C
theorem r_term (l : Launch) (g : q_GP) (h : q_H) {K : q_TK} {m sd t cc bb : Nat} (a : q_rs h K m sd t cc bb) (hb9 : bb ≤ 130 * sd + 104) : q_Ct l g 4 mX10_term [.ref 124] h (q_tmA h K m sd cc bb (tx_sum K 6 t)) := by
  obtain ⟨hs, hR, h12, h19, hsd, h33, h39, hc1, hc2, hb1, hb2⟩ := id a
  have hm4 := hR.1.1
  have htm := hR.2.1
  have h11 := hR.2.2.1
  have h13 := hR.2.2.2
  have aw : q_rs (q_wI h 147 (upd (q_I h 147) bb (nI cc))) K m sd t cc bb := rs_w (by decide) (by decide) a
  have fw : q_rf sd cc bb h (q_wI h 147 (upd (q_I h 147) bb (nI cc))) := rf_b rf_r (by decide) (by decide) (Nat.le_refl _) (by omega)
  cases hu : tx_sum K 6 t with
  | inl e =>
    refine q_CtV mvX10_term (Nat.le_of_ble_eq_true rfl) ?_
    refine xe_aload_n dX10_term_0 rfl ?_
    refine xe_getP dX10_term_1 flX10_86 (st124 hs) (by decide) rfl (sp124_37 hs) ?_
    refine xe_aload_n dX10_term_4 rfl ?_
    refine xe_getIv dX10_term_5 flX10_237 (st124 hs) (by decide) rfl (v := nI bb) (h33) ?_
    refine xe_aload_n dX10_term_8 rfl ?_
    refine xe_getIv dX10_term_9 flX10_240 (st124 hs) (by decide) rfl (v := nI cc) (h39) ?_
    refine xn_iast dX10_term_12 (st147 hs) (by omega) (by decide) ?_
    refine xe_aload_n dX10_term_13 rfl ?_
    refine xe_getIv dX10_term_14 flX10_198 (st124 hs) (by decide) rfl (v := nI 0) (h13) ?_
    refine xn_if_ne (tgt := 24) dX10_term_17 rfl (by omega) (fun c1 => ?_) (fun c1 => ?_)
    · omega
    · refine xe_aload_n dX10_term_20 rfl ?_
      refine xe_callVVq (d' := 3) (y' := mX10_expression) dX10_term_21 mlX10_289 mvX10_expression rfl (st124 hs) (by decide) rfl (by decide) (by decide) (Nat.le_of_ble_eq_true rfl) (rx_inl hu (r_expr l g aw)) rfl (fun h1 hq => ?_)
      obtain ⟨f1, a1, k33⟩ := hq
      obtain ⟨n1, hn1, k39⟩ := a1.2.2.2.2.2.2.2.2.1
      have hs : q_Stat h1 := a1.1
      refine xe_aload_n dX10_term_24 rfl ?_
      refine xe_getP dX10_term_25 flX10_89 (st124 hs) (by decide) rfl (sp124_38 hs) ?_
      refine xe_aload_n dX10_term_28 rfl ?_
      refine xe_getIv dX10_term_29 flX10_237 (st124 hs) (by decide) rfl (v := nI bb) (k33) ?_
      refine xe_aload_n dX10_term_32 rfl ?_
      refine xe_getIv dX10_term_33 flX10_240 (st124 hs) (by decide) rfl (v := nI n1) (k39) ?_
      refine xn_iast dX10_term_36 (st148 hs) (by omega) (by decide) ?_
      refine xe_aload_n dX10_term_37 rfl ?_
      refine xe_dup dX10_term_38 rfl ?_
      refine xe_getIv dX10_term_39 flX10_237 (st124 hs) (by decide) rfl (v := nI bb) (k33) ?_
      refine xe_iconst dX10_term_42 kc_1 ?_
      refine xn_iadd dX10_term_43 ?_
      refine xe_putI dX10_term_44 flX10_237 (st124 hs) (by decide) rfl (Or.inl rfl) rfl rfl ?_
      refine xe_return dX10_term_47 rfl ?_
      obtain ⟨ha1, ha2, ha3, ha4, ha5, ha6, ha7, ha8, ha9, ha10⟩ := a1
      refine ⟨rfl, rf_o (rf_b (rf_t fw f1 (Nat.le_refl _) (Nat.le_refl _)) (by decide) (by decide) (Nat.le_refl _) (by omega)) (fun k x1 x2 x3 x4 x5 x6 x7 => pk_un x5), ⟨ha1, ha2, ha3, ha4, ha5, ha6, ha7, ha8, ha9, bb + 1, rfl, by omega, by omega⟩, rfl⟩
  | inr x =>
    obtain ⟨g1, g2, g3, g4, g5⟩ := tx_sum_ok K 6 _ _ hu
    refine q_CtV mvX10_term (Nat.le_of_ble_eq_true rfl) ?_
    refine xe_aload_n dX10_term_0 rfl ?_
    refine xe_getP dX10_term_1 flX10_86 (st124 hs) (by decide) rfl (sp124_37 hs) ?_
    refine xe_aload_n dX10_term_4 rfl ?_
    refine xe_getIv dX10_term_5 flX10_237 (st124 hs) (by decide) rfl (v := nI bb) (h33) ?_
    refine xe_aload_n dX10_term_8 rfl ?_
    refine xe_getIv dX10_term_9 flX10_240 (st124 hs) (by decide) rfl (v := nI cc) (h39) ?_
    refine xn_iast dX10_term_12 (st147 hs) (by omega) (by decide) ?_
    refine xe_aload_n dX10_term_13 rfl ?_
    refine xe_getIv dX10_term_14 flX10_198 (st124 hs) (by decide) rfl (v := nI 0) (h13) ?_
    refine xn_if_ne (tgt := 24) dX10_term_17 rfl (by omega) (fun c1 => ?_) (fun c1 => ?_)
    · omega
    · refine xe_aload_n dX10_term_20 rfl ?_
      refine xe_callVVq (d' := 3) (y' := mX10_expression) dX10_term_21 mlX10_289 mvX10_expression rfl (st124 hs) (by decide) rfl (by decide) (by decide) (Nat.le_of_ble_eq_true rfl) (rx_inr hu (r_expr l g aw)) rfl (fun h1 hq => ?_)
      obtain ⟨f1, a1, s1, r1⟩ := hq
      have k33 := a1.2.2.2.2.2.1
      have k39 := a1.2.2.2.2.2.2.1
      have hs : q_Stat h1 := a1.1
      refine xe_aload_n dX10_term_24 rfl ?_
      refine xe_getP dX10_term_25 flX10_89 (st124 hs) (by decide) rfl (sp124_38 hs) ?_
      refine xe_aload_n dX10_term_28 rfl ?_
      refine xe_getIv dX10_term_29 flX10_237 (st124 hs) (by decide) rfl (v := nI bb) (k33) ?_
      refine xe_aload_n dX10_term_32 rfl ?_
      refine xe_getIv dX10_term_33 flX10_240 (st124 hs) (by decide) rfl (v := nI (cc + x.1.length)) (k39) ?_
      refine xn_iast dX10_term_36 (st148 hs) (by omega) (by decide) ?_
      refine xe_aload_n dX10_term_37 rfl ?_
      refine xe_dup dX10_term_38 rfl ?_
      refine xe_getIv dX10_term_39 flX10_237 (st124 hs) (by decide) rfl (v := nI bb) (k33) ?_
      refine xe_iconst dX10_term_42 kc_1 ?_
      refine xn_iadd dX10_term_43 ?_
      refine xe_putI dX10_term_44 flX10_237 (st124 hs) (by decide) rfl (Or.inl rfl) rfl rfl ?_
      refine xe_return dX10_term_47 rfl ?_
      obtain ⟨ha1, ha2, ha3, ha4, ha5, ha6, ha7, ha8, ha9, ha10, ha11⟩ := a1
      refine ⟨rfl, rf_o (rf_b (rf_t fw f1 (Nat.le_refl _) (Nat.le_refl _)) (by decide) (by decide) (Nat.le_refl _) (by omega)) (fun k x1 x2 x3 x4 x5 x6 x7 => pk_un x5), ⟨ha1, ⟨rt_Tc ha2.1 rfl rfl rfl rfl, ha2.2.1, ha2.2.2.1, ha2.2.2.2⟩, ha3, ha4, ha5, rfl, ha7, ha8, ha9, by omega, by omega⟩, s1, ?_, pk_us, r1 144 (by decide) (by decide), r1 145 (by decide) (by decide), r1 146 (by decide) (by decide)⟩
      refine (congrFun (r1 147 (by decide) (by decide)) bb).trans ?_
      exact pk_us
