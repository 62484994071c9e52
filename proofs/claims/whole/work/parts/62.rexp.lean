/-! the reference: sums of laws -/
/-- h0 has become h on the way through a sum: token t, dp brackets open, W waits, codes c have come -/
def q_xs (K : q_TK) (m : Nat) (h0 : q_H) (c0 cm t dp : Nat) (W : List Nat) (c : List (Nat × Int32)) (h : q_H) : Prop := t ≤ m ∧ h.2 = h0.2 ∧ (∀ r, r ≠ 124 → r ≠ 149 → r ≠ 150 → r ≠ 151 → q_I h r = q_I h0 r) ∧ (∀ k, k ≠ 11 → k ≠ 12 → k ≠ 39 → k ≠ 43 → q_I h 124 k = q_I h0 124 k) ∧ q_I h 124 11 = nI t ∧ q_I h 124 12 = nI dp ∧ q_I h 124 43 = nI W.length ∧ q_wk (q_I h 151) W ∧ q_I h 124 39 = nI (c0 + c.length) ∧ (∀ i, i < c0 ∨ cm ≤ i → q_I h 149 i = q_I h0 149 i ∧ q_I h 150 i = q_I h0 150 i) ∧ q_sg (q_I h 149) (q_I h 150) c0 c ∧ c0 + c.length + q_ops W + 401 ≤ cm + t
/-- h0 has become h on the way to a fault -/
def q_xb (K : q_TK) (h0 : q_H) (c0 cm : Nat) (e : Nat × Nat) (h : q_H) : Prop := h.2 = h0.2 ∧ (∀ r, r ≠ 124 → r ≠ 149 → r ≠ 150 → r ≠ 151 → q_I h r = q_I h0 r) ∧ (∀ k, k ≠ 11 → k ≠ 12 → k ≠ 13 → k ≠ 14 → k ≠ 39 → k ≠ 43 → q_I h 124 k = q_I h0 124 k) ∧ q_I h 124 13 = nI e.1 ∧ q_I h 124 14 = nI (tk_P K e.2) ∧ 1 ≤ e.1 ∧ e.1 ≤ 5 ∧ (∃ t, t ≤ 400 ∧ q_I h 124 11 = nI t) ∧ (∃ n, n ≤ cm ∧ q_I h 124 39 = nI n) ∧ (∀ i, i < c0 ∨ cm ≤ i → q_I h 149 i = q_I h0 149 i ∧ q_I h 150 i = q_I h0 150 i)
/-- what holds at the start of a sum -/
def q_x0 (K : q_TK) (m : Nat) (h0 : q_H) (c0 cm : Nat) : Prop := q_Stat h0 ∧ rt_T h0 K m ∧ q_I h0 124 13 = nI 0 ∧ cm ≤ 840
section QXS
variable {K : q_TK} {m c0 cm t dp : Nat} {h0 h h1 : q_H} {W : List Nat} {c : List (Nat × Int32)}
theorem xs_R (b : q_x0 K m h0 c0 cm) (a : q_xs K m h0 c0 cm t dp W c h) : rt_R h K m t := by
  obtain ⟨a1, a2, a3, a4, a5, a6, a7, a8, a9, a10, a11, a12⟩ := a
  have eJ : q_J h = q_J h0 := congrArg (fun z => z.1) a2
  exact ⟨rt_Tc b.2.1 (a3 _ (by decide) (by decide) (by decide) (by decide)) (a3 _ (by decide) (by decide) (by decide) (by decide)) (a3 _ (by decide) (by decide) (by decide) (by decide)) (by rw [eJ]), a1, a5, (a4 13 (by decide) (by decide) (by decide) (by decide)).trans b.2.2.1⟩
theorem xs_s (b : q_x0 K m h0 c0 cm) (a : q_xs K m h0 c0 cm t dp W c h) : q_Stat h := q_Stat_2 a.2.1 b.1
theorem xs_mv {t1 dp1 : Nat} {W1 : List Nat} (a : q_xs K m h0 c0 cm t dp W c h) (e2 : h1.2 = h.2) (eR : ∀ r, r ≠ 124 → r ≠ 151 → q_I h1 r = q_I h r) (eF : ∀ k, k ≠ 11 → k ≠ 12 → k ≠ 43 → q_I h1 124 k = q_I h 124 k) (ht : t1 ≤ m) (e11 : q_I h1 124 11 = nI t1) (e12 : q_I h1 124 12 = nI dp1) (e43 : q_I h1 124 43 = nI W1.length) (ew : q_wk (q_I h1 151) W1) (hb : c0 + c.length + q_ops W1 + 401 ≤ cm + t1) : q_xs K m h0 c0 cm t1 dp1 W1 c h1 := by
  obtain ⟨a1, a2, a3, a4, a5, a6, a7, a8, a9, a10, a11, a12⟩ := a
  have f1 := eR 149 (by decide) (by decide)
  have f2 := eR 150 (by decide) (by decide)
  refine ⟨ht, e2.trans a2, fun r x y z w => (eR r x w).trans (a3 r x y z w), fun k x y z w => (eF k x y w).trans (a4 k x y z w), e11, e12, e43, ew, (eF 39 (by decide) (by decide) (by decide)).trans a9, fun i hi => ⟨(congrFun f1 i).trans (a10 i hi).1, (congrFun f2 i).trans (a10 i hi).2⟩, ?_, hb⟩
  rw [f1, f2]
  exact a11
theorem xs_ce {W1 : List Nat} {c' : List (Nat × Int32)} (a : q_xs K m h0 c0 cm t dp W c h) (b : q_ce h (c0 + c.length) c' W1.length h1) (hw : q_wk (q_I h 151) W1) (hb : c0 + (c.length + c'.length) + q_ops W1 + 401 ≤ cm + t) (hc : c0 + (c.length + c'.length) ≤ cm) : q_xs K m h0 c0 cm t dp W1 (c ++ c') h1 := by
  obtain ⟨a1, a2, a3, a4, a5, a6, a7, a8, a9, a10, a11, a12⟩ := a
  obtain ⟨b1, b2, b3, b4, b5, b6, b7⟩ := b
  refine ⟨a1, b1.trans a2, fun r x y z w => (b2 r x y z).trans (a3 r x y z w), fun k x y z w => (b3 k z w).trans (a4 k x y z w), (b3 11 (by decide) (by decide)).trans a5, (b3 12 (by decide) (by decide)).trans a6, b5, ?_, ?_, fun i hi => ⟨((b6 i (by omega)).1).trans (a10 i hi).1, ((b6 i (by omega)).2).trans (a10 i hi).2⟩, q_sg_app (q_sg_co (fun i h1 h2 => b6 i (Or.inl h2)) a11) b7, ?_⟩
  · rw [b2 151 (by decide) (by decide) (by decide)]
    exact hw
  · rw [b4, List.length_append, Nat.add_assoc]
  · rw [List.length_append]
    exact hb
theorem xs_bad {e : Nat × Nat} {t1 : Nat} (a : q_xs K m h0 c0 cm t dp W c h) (hcm : c0 + c.length ≤ cm) (e2 : h1.2 = h.2) (eR : ∀ r, r ≠ 124 → r ≠ 151 → q_I h1 r = q_I h r) (eF : ∀ k, k ≠ 11 → k ≠ 12 → k ≠ 13 → k ≠ 14 → k ≠ 43 → q_I h1 124 k = q_I h 124 k) (e13 : q_I h1 124 13 = nI e.1) (e14 : q_I h1 124 14 = nI (tk_P K e.2)) (h1e : 1 ≤ e.1) (h5 : e.1 ≤ 5) (e11 : q_I h1 124 11 = nI t1) (ht : t1 ≤ 400) : q_xb K h0 c0 cm e h1 := by
  obtain ⟨a1, a2, a3, a4, a5, a6, a7, a8, a9, a10, a11, a12⟩ := a
  have f1 := eR 149 (by decide) (by decide)
  have f2 := eR 150 (by decide) (by decide)
  exact ⟨e2.trans a2, fun r x y z w => (eR r x w).trans (a3 r x y z w), fun k x y z w u v => (eF k x y z w v).trans (a4 k x y u v), e13, e14, h1e, h5, ⟨t1, ht, e11⟩, ⟨_, hcm, (eF 39 (by decide) (by decide) (by decide) (by decide) (by decide)).trans a9⟩, fun i hi => ⟨(congrFun f1 i).trans (a10 i hi).1, (congrFun f2 i).trans (a10 i hi).2⟩⟩
theorem xb_ce {e : Nat × Nat} {n w : Nat} {c' : List (Nat × Int32)} (a : q_xb K h0 c0 cm e h) (b : q_ce h n c' w h1) (hn : c0 ≤ n) (hc : n + c'.length ≤ cm) : q_xb K h0 c0 cm e h1 := by
  obtain ⟨a1, a2, a3, a4, a5, a6, a7, a8, a9, a10⟩ := a
  obtain ⟨b1, b2, b3, b4, b5, b6, b7⟩ := b
  obtain ⟨t1, x1, x2⟩ := a8
  exact ⟨b1.trans a1, fun r x y z w => (b2 r x y z).trans (a2 r x y z w), fun k x y z w u v => (b3 k u v).trans (a3 k x y z w u v), (b3 13 (by decide) (by decide)).trans a4, (b3 14 (by decide) (by decide)).trans a5, a6, a7, ⟨t1, x1, (b3 11 (by decide) (by decide)).trans x2⟩, ⟨_, hc, b4⟩, fun i hi => ⟨((b6 i (by omega)).1).trans (a10 i hi).1, ((b6 i (by omega)).2).trans (a10 i hi).2⟩⟩
theorem xb_mv {e : Nat × Nat} {t1 : Nat} (a : q_xb K h0 c0 cm e h) (e2 : h1.2 = h.2) (eR : ∀ r, r ≠ 124 → r ≠ 151 → q_I h1 r = q_I h r) (eF : ∀ k, k ≠ 11 → k ≠ 12 → k ≠ 43 → q_I h1 124 k = q_I h 124 k) (ht : t1 ≤ 400) (e11 : q_I h1 124 11 = nI t1) : q_xb K h0 c0 cm e h1 := by
  obtain ⟨a1, a2, a3, a4, a5, a6, a7, a8, ⟨n, n1, n2⟩, a10⟩ := a
  have f1 := eR 149 (by decide) (by decide)
  have f2 := eR 150 (by decide) (by decide)
  exact ⟨e2.trans a1, fun r x y z w => (eR r x w).trans (a2 r x y z w), fun k x y z w u v => (eF k x y v).trans (a3 k x y z w u v), (eF 13 (by decide) (by decide) (by decide)).trans a4, (eF 14 (by decide) (by decide) (by decide)).trans a5, a6, a7, ⟨t1, ht, e11⟩, ⟨n, n1, (eF 39 (by decide) (by decide) (by decide)).trans n2⟩, fun i hi => ⟨(congrFun f1 i).trans (a10 i hi).1, (congrFun f2 i).trans (a10 i hi).2⟩⟩
theorem ce_1 {n w : Nat} {o v : Int32} {k : Nat} (hw : q_I h 124 43 = nI w) (ho : o = nI k) : q_ce h n [(k, v)] w (q_wI (q_wI (q_wI h 124 (upd (q_I h 124) 39 (nI (n + 1)))) 149 (upd (q_I h 149) n o)) 150 (upd (q_I h 150) n v)) := by
  refine ⟨rfl, fun r a1 a2 a3 => (q_Ine a3).trans ((q_Ine a2).trans (q_Ine a1)), fun k a1 a2 => pk_un a1, rfl, hw, fun i hi => ⟨?_, ?_⟩, ⟨?_, ?_, trivial⟩⟩
  · have hi : i < n ∨ n + 1 ≤ i := hi
    exact pk_un (by omega)
  · have hi : i < n ∨ n + 1 ≤ i := hi
    exact pk_un (by omega)
  · rw [← ho]
    exact pk_us
  · exact pk_us
end QXS
theorem c_X10_unit_nt (l : Launch) (g : q_GP) {K : q_TK} {m c0 cm t dp : Nat} {h0 : q_H} {W : List Nat} {c : List (Nat × Int32)} (b : q_x0 K m h0 c0 cm) (h : q_H) (a : q_xs K m h0 c0 cm t dp W c h) (hk : tk_T K t = 2) (h400 : t < 400) : q_Ct l g 2 mX10_unit [.ref 124] h (fun r h1 => r = none ∧ q_xs K m h0 c0 cm (t + 1) dp W (c ++ [(0, nI (tk_V K t))]) h1) := by
  have hs := xs_s b a
  have hR := xs_R b a
  obtain ⟨hT, ht, h11, h13⟩ := id hR
  obtain ⟨hm4, hme, hti⟩ := id hT
  obtain ⟨z1, z2, z3, z4, z5, z6⟩ := hti t ht
  have h39 := a.2.2.2.2.2.2.2.2.1
  have h43 := a.2.2.2.2.2.2.1
  have hbd := a.2.2.2.2.2.2.2.2.2.2.2
  have hcm := b.2.2.2
  have hgo := rt_go hT ht h400 (by omega)
  refine q_CtV mvX10_unit (Nat.le_of_ble_eq_true rfl) ?_
  refine xe_aload_n dX10_unit_0 rfl ?_
  refine xe_iconst dX10_unit_1 kc_2 ?_
  refine xe_callVI (d' := 0) (y' := mX10_is) dX10_unit_2 mlX10_216 mvX10_is rfl (st124 hs) (by decide) rfl (by decide) (by decide) (Nat.le_of_ble_eq_true rfl) (c_X10_is_1 l g _ (by exact hs) hR hk) rfl ?_
  refine xn_if_eq (tgt := 29) dX10_unit_5 rfl (by omega) (fun c1 => ?_) (fun c1 => ?_)
  · omega
  · refine xe_aload_n dX10_unit_8 rfl ?_
    refine xe_iconst dX10_unit_9 kc_0 ?_
    refine xe_aload_n dX10_unit_10 rfl ?_
    refine xe_getP dX10_unit_11 flX10_27 (st124 hs) (by decide) rfl (sp124_7 hs) ?_
    refine xe_aload_n dX10_unit_14 rfl ?_
    refine xe_getIv dX10_unit_15 flX10_201 (st124 hs) (by decide) rfl (v := nI t) (h11) ?_
    refine xn_ialdv dX10_unit_18 (st129 hs) (by omega) (by decide) (v := nI (tk_V K t)) ((z6 hk).1) ?_
    refine xe_callVV (d' := 0) (y' := mX10_emit) dX10_unit_19 mlX10_298 mvX10_emit rfl (st124 hs) (by decide) rfl (by decide) (by decide) (Nat.le_of_ble_eq_true rfl) (c_X10_emit l g _ (by exact hs) (n := c0 + c.length) (by exact h39) (by omega) _ _) rfl ?_
    refine xe_aload_n dX10_unit_22 rfl ?_
    refine xe_callVV (d' := 1) (y' := mX10_goesOn) dX10_unit_23 mlX10_219 mvX10_goesOn rfl (st124 hs) (by decide) rfl (by decide) (by decide) (Nat.le_of_ble_eq_true rfl) (c_X10_goesOn_t l g _ (by exact hs) (t := t) (by exact h11) (by omega)) rfl ?_
    refine xe_goto (tgt := 93) dX10_unit_26 rfl ?_
    refine xe_return dX10_unit_93 rfl ?_
    refine ⟨rfl, ?_⟩
    have c1 := ce_1 (n := c0 + c.length) (v := nI (tk_V K t)) (k := 0) h43 rfl
    obtain ⟨b1, b2, b3, b4, b5, b6, b7⟩ := c1
    obtain ⟨a1, a2, a3, a4, a5, a6, a7, a8, a9, a10, a11, a12⟩ := a
    refine ⟨hgo, a2, fun r x y z w => (q_Ine x).trans ((b2 r x y z).trans (a3 r x y z w)), fun k x y z w => (pk_un x).trans ((b3 k z w).trans (a4 k x y z w)), rfl, a6, a7, a8, ?_, fun i hi => ⟨((b6 i (by simp only [List.length_cons, List.length_nil]; omega)).1).trans (a10 i hi).1, ((b6 i (by simp only [List.length_cons, List.length_nil]; omega)).2).trans (a10 i hi).2⟩, q_sg_app (q_sg_co (fun i h1 h2 => b6 i (Or.inl h2)) a11) b7, ?_⟩
    · rw [List.length_append]
      rfl
    · rw [List.length_append]
      show c0 + (c.length + 1) + q_ops W + 401 ≤ cm + (t + 1)
      omega
theorem c_X10_unit_nf (l : Launch) (g : q_GP) {K : q_TK} {m c0 cm t dp : Nat} {h0 : q_H} {W : List Nat} {c : List (Nat × Int32)} (b : q_x0 K m h0 c0 cm) (h : q_H) (a : q_xs K m h0 c0 cm t dp W c h) (hk : tk_T K t = 2) (h400 : 400 ≤ t) : q_Ct l g 2 mX10_unit [.ref 124] h (fun r h1 => r = none ∧ q_xb K h0 c0 cm (2, t) h1) := by
  have hs := xs_s b a
  have hR := xs_R b a
  obtain ⟨hT, ht, h11, h13⟩ := id hR
  obtain ⟨hm4, hme, hti⟩ := id hT
  obtain ⟨z1, z2, z3, z4, z5, z6⟩ := hti t ht
  have h39 := a.2.2.2.2.2.2.2.2.1
  have h43 := a.2.2.2.2.2.2.1
  have hbd := a.2.2.2.2.2.2.2.2.2.2.2
  have hcm := b.2.2.2
  refine q_CtV mvX10_unit (Nat.le_of_ble_eq_true rfl) ?_
  refine xe_aload_n dX10_unit_0 rfl ?_
  refine xe_iconst dX10_unit_1 kc_2 ?_
  refine xe_callVI (d' := 0) (y' := mX10_is) dX10_unit_2 mlX10_216 mvX10_is rfl (st124 hs) (by decide) rfl (by decide) (by decide) (Nat.le_of_ble_eq_true rfl) (c_X10_is_1 l g _ (by exact hs) hR hk) rfl ?_
  refine xn_if_eq (tgt := 29) dX10_unit_5 rfl (by omega) (fun c1 => ?_) (fun c1 => ?_)
  · omega
  · refine xe_aload_n dX10_unit_8 rfl ?_
    refine xe_iconst dX10_unit_9 kc_0 ?_
    refine xe_aload_n dX10_unit_10 rfl ?_
    refine xe_getP dX10_unit_11 flX10_27 (st124 hs) (by decide) rfl (sp124_7 hs) ?_
    refine xe_aload_n dX10_unit_14 rfl ?_
    refine xe_getIv dX10_unit_15 flX10_201 (st124 hs) (by decide) rfl (v := nI t) (h11) ?_
    refine xn_ialdv dX10_unit_18 (st129 hs) (by omega) (by decide) (v := nI (tk_V K t)) ((z6 hk).1) ?_
    refine xe_callVV (d' := 0) (y' := mX10_emit) dX10_unit_19 mlX10_298 mvX10_emit rfl (st124 hs) (by decide) rfl (by decide) (by decide) (Nat.le_of_ble_eq_true rfl) (c_X10_emit l g _ (by exact hs) (n := c0 + c.length) (by exact h39) (by omega) _ _) rfl ?_
    refine xe_aload_n dX10_unit_22 rfl ?_
    refine xe_callVV (d' := 1) (y' := mX10_goesOn) dX10_unit_23 mlX10_219 mvX10_goesOn rfl (st124 hs) (by decide) rfl (by decide) (by decide) (Nat.le_of_ble_eq_true rfl) (c_X10_goesOn_f l g _ (by exact hs) (t := t) (by refine ⟨rt_Tc hT ?_ ?_ ?_ ?_, ht, ?_, ?_⟩ <;> first | exact rfl | exact h11 | exact h13) (by omega)) rfl ?_
    refine xe_goto (tgt := 93) dX10_unit_26 rfl ?_
    refine xe_return dX10_unit_93 rfl ?_
    refine ⟨rfl, ?_⟩
    have c1 := ce_1 (n := c0 + c.length) (v := nI (tk_V K t)) (k := 0) h43 rfl
    obtain ⟨b1, b2, b3, b4, b5, b6, b7⟩ := c1
    obtain ⟨a1, a2, a3, a4, a5, a6, a7, a8, a9, a10, a11, a12⟩ := a
    refine ⟨a2, fun r x y z w => (q_Ine x).trans ((b2 r x y z).trans (a3 r x y z w)), fun k x y z w u v => (pk_un w).trans ((pk_un z).trans ((b3 k u v).trans (a4 k x y u v))), rfl, rfl, (show 1 ≤ 2 by decide), (show 2 ≤ 5 by decide), ⟨t, by omega, a5⟩, ⟨c0 + c.length + 1, by omega, rfl⟩, fun i hi => ⟨((b6 i (by simp only [List.length_cons, List.length_nil]; omega)).1).trans (a10 i hi).1, ((b6 i (by simp only [List.length_cons, List.length_nil]; omega)).2).trans (a10 i hi).2⟩⟩
theorem c_X10_unit_vt (l : Launch) (g : q_GP) {K : q_TK} {m c0 cm t dp : Nat} {h0 : q_H} {W : List Nat} {c : List (Nat × Int32)} (b : q_x0 K m h0 c0 cm) (h : q_H) (a : q_xs K m h0 c0 cm t dp W c h) (hk : 31 ≤ tk_T K t ∧ tk_T K t ≤ 36) (h400 : t < 400) : q_Ct l g 2 mX10_unit [.ref 124] h (fun r h1 => r = none ∧ q_xs K m h0 c0 cm (t + 1) dp W (c ++ [(1, nI (tk_T K t - 31))]) h1) := by
  have hs := xs_s b a
  have hR := xs_R b a
  obtain ⟨hT, ht, h11, h13⟩ := id hR
  obtain ⟨hm4, hme, hti⟩ := id hT
  obtain ⟨z1, z2, z3, z4, z5, z6⟩ := hti t ht
  have h39 := a.2.2.2.2.2.2.2.2.1
  have h43 := a.2.2.2.2.2.2.1
  have hbd := a.2.2.2.2.2.2.2.2.2.2.2
  have hcm := b.2.2.2
  have hgo := rt_go hT ht h400 (by omega)
  refine q_CtV mvX10_unit (Nat.le_of_ble_eq_true rfl) ?_
  refine xe_aload_n dX10_unit_0 rfl ?_
  refine xe_iconst dX10_unit_1 kc_2 ?_
  refine xe_callVI (d' := 0) (y' := mX10_is) dX10_unit_2 mlX10_216 mvX10_is rfl (st124 hs) (by decide) rfl (by decide) (by decide) (Nat.le_of_ble_eq_true rfl) (c_X10_is_0 l g _ (by exact hs) hR (by decide) (by omega)) rfl ?_
  refine xn_if_eq (tgt := 29) dX10_unit_5 rfl (by omega) (fun c1 => ?_) (fun c1 => ?_)
  · refine xe_aload_n dX10_unit_29 rfl ?_
    refine xe_getIv dX10_unit_30 flX10_198 (st124 hs) (by decide) rfl (v := nI 0) (h13) ?_
    refine xn_if_ne (tgt := 88) dX10_unit_33 rfl (by omega) (fun c2 => ?_) (fun c2 => ?_)
    · omega
    · refine xe_aload_n dX10_unit_36 rfl ?_
      refine xe_getP dX10_unit_37 flX10_20 (st124 hs) (by decide) rfl (sp124_5 hs) ?_
      refine xe_aload_n dX10_unit_40 rfl ?_
      refine xe_getIv dX10_unit_41 flX10_201 (st124 hs) (by decide) rfl (v := nI t) (h11) ?_
      refine xn_ialdv dX10_unit_44 (st127 hs) (by omega) (by decide) (v := nI (tk_T K t)) (z3) ?_
      refine xe_bipush dX10_unit_45 kb_31 ?_
      refine xn_icmp_lt (tgt := 88) dX10_unit_47 rfl (by omega) (by omega) (fun c3 => ?_) (fun c3 => ?_)
      · omega
      · refine xe_aload_n dX10_unit_50 rfl ?_
        refine xe_getP dX10_unit_51 flX10_20 (st124 hs) (by decide) rfl (sp124_5 hs) ?_
        refine xe_aload_n dX10_unit_54 rfl ?_
        refine xe_getIv dX10_unit_55 flX10_201 (st124 hs) (by decide) rfl (v := nI t) (h11) ?_
        refine xn_ialdv dX10_unit_58 (st127 hs) (by omega) (by decide) (v := nI (tk_T K t)) (z3) ?_
        refine xe_bipush dX10_unit_59 kb_36 ?_
        refine xn_icmp_gt (tgt := 88) dX10_unit_61 rfl (by omega) (by omega) (fun c4 => ?_) (fun c4 => ?_)
        · omega
        · refine xe_aload_n dX10_unit_64 rfl ?_
          refine xe_iconst dX10_unit_65 kc_1 ?_
          refine xe_aload_n dX10_unit_66 rfl ?_
          refine xe_getP dX10_unit_67 flX10_20 (st124 hs) (by decide) rfl (sp124_5 hs) ?_
          refine xe_aload_n dX10_unit_70 rfl ?_
          refine xe_getIv dX10_unit_71 flX10_201 (st124 hs) (by decide) rfl (v := nI t) (h11) ?_
          refine xn_ialdv dX10_unit_74 (st127 hs) (by omega) (by decide) (v := nI (tk_T K t)) (z3) ?_
          refine xe_bipush dX10_unit_75 kb_31 ?_
          refine xn_isub dX10_unit_77 (by omega) ?_
          refine xe_callVV (d' := 0) (y' := mX10_emit) dX10_unit_78 mlX10_298 mvX10_emit rfl (st124 hs) (by decide) rfl (by decide) (by decide) (Nat.le_of_ble_eq_true rfl) (c_X10_emit l g _ (by exact hs) (n := c0 + c.length) (by exact h39) (by omega) _ _) rfl ?_
          refine xe_aload_n dX10_unit_81 rfl ?_
          refine xe_callVV (d' := 1) (y' := mX10_goesOn) dX10_unit_82 mlX10_219 mvX10_goesOn rfl (st124 hs) (by decide) rfl (by decide) (by decide) (Nat.le_of_ble_eq_true rfl) (c_X10_goesOn_t l g _ (by exact hs) (t := t) (by exact h11) (by omega)) rfl ?_
          refine xe_goto (tgt := 93) dX10_unit_85 rfl ?_
          refine xe_return dX10_unit_93 rfl ?_
          refine ⟨rfl, ?_⟩
          have c1 := ce_1 (n := c0 + c.length) (v := nI (tk_T K t - 31)) (k := 1) h43 rfl
          obtain ⟨b1, b2, b3, b4, b5, b6, b7⟩ := c1
          obtain ⟨a1, a2, a3, a4, a5, a6, a7, a8, a9, a10, a11, a12⟩ := a
          refine ⟨hgo, a2, fun r x y z w => (q_Ine x).trans ((b2 r x y z).trans (a3 r x y z w)), fun k x y z w => (pk_un x).trans ((b3 k z w).trans (a4 k x y z w)), rfl, a6, a7, a8, ?_, fun i hi => ⟨((b6 i (by simp only [List.length_cons, List.length_nil]; omega)).1).trans (a10 i hi).1, ((b6 i (by simp only [List.length_cons, List.length_nil]; omega)).2).trans (a10 i hi).2⟩, q_sg_app (q_sg_co (fun i h1 h2 => b6 i (Or.inl h2)) a11) b7, ?_⟩
          · rw [List.length_append]
            rfl
          · rw [List.length_append]
            show c0 + (c.length + 1) + q_ops W + 401 ≤ cm + (t + 1)
            omega
  · omega
theorem c_X10_unit_vf (l : Launch) (g : q_GP) {K : q_TK} {m c0 cm t dp : Nat} {h0 : q_H} {W : List Nat} {c : List (Nat × Int32)} (b : q_x0 K m h0 c0 cm) (h : q_H) (a : q_xs K m h0 c0 cm t dp W c h) (hk : 31 ≤ tk_T K t ∧ tk_T K t ≤ 36) (h400 : 400 ≤ t) : q_Ct l g 2 mX10_unit [.ref 124] h (fun r h1 => r = none ∧ q_xb K h0 c0 cm (2, t) h1) := by
  have hs := xs_s b a
  have hR := xs_R b a
  obtain ⟨hT, ht, h11, h13⟩ := id hR
  obtain ⟨hm4, hme, hti⟩ := id hT
  obtain ⟨z1, z2, z3, z4, z5, z6⟩ := hti t ht
  have h39 := a.2.2.2.2.2.2.2.2.1
  have h43 := a.2.2.2.2.2.2.1
  have hbd := a.2.2.2.2.2.2.2.2.2.2.2
  have hcm := b.2.2.2
  refine q_CtV mvX10_unit (Nat.le_of_ble_eq_true rfl) ?_
  refine xe_aload_n dX10_unit_0 rfl ?_
  refine xe_iconst dX10_unit_1 kc_2 ?_
  refine xe_callVI (d' := 0) (y' := mX10_is) dX10_unit_2 mlX10_216 mvX10_is rfl (st124 hs) (by decide) rfl (by decide) (by decide) (Nat.le_of_ble_eq_true rfl) (c_X10_is_0 l g _ (by exact hs) hR (by decide) (by omega)) rfl ?_
  refine xn_if_eq (tgt := 29) dX10_unit_5 rfl (by omega) (fun c1 => ?_) (fun c1 => ?_)
  · refine xe_aload_n dX10_unit_29 rfl ?_
    refine xe_getIv dX10_unit_30 flX10_198 (st124 hs) (by decide) rfl (v := nI 0) (h13) ?_
    refine xn_if_ne (tgt := 88) dX10_unit_33 rfl (by omega) (fun c2 => ?_) (fun c2 => ?_)
    · omega
    · refine xe_aload_n dX10_unit_36 rfl ?_
      refine xe_getP dX10_unit_37 flX10_20 (st124 hs) (by decide) rfl (sp124_5 hs) ?_
      refine xe_aload_n dX10_unit_40 rfl ?_
      refine xe_getIv dX10_unit_41 flX10_201 (st124 hs) (by decide) rfl (v := nI t) (h11) ?_
      refine xn_ialdv dX10_unit_44 (st127 hs) (by omega) (by decide) (v := nI (tk_T K t)) (z3) ?_
      refine xe_bipush dX10_unit_45 kb_31 ?_
      refine xn_icmp_lt (tgt := 88) dX10_unit_47 rfl (by omega) (by omega) (fun c3 => ?_) (fun c3 => ?_)
      · omega
      · refine xe_aload_n dX10_unit_50 rfl ?_
        refine xe_getP dX10_unit_51 flX10_20 (st124 hs) (by decide) rfl (sp124_5 hs) ?_
        refine xe_aload_n dX10_unit_54 rfl ?_
        refine xe_getIv dX10_unit_55 flX10_201 (st124 hs) (by decide) rfl (v := nI t) (h11) ?_
        refine xn_ialdv dX10_unit_58 (st127 hs) (by omega) (by decide) (v := nI (tk_T K t)) (z3) ?_
        refine xe_bipush dX10_unit_59 kb_36 ?_
        refine xn_icmp_gt (tgt := 88) dX10_unit_61 rfl (by omega) (by omega) (fun c4 => ?_) (fun c4 => ?_)
        · omega
        · refine xe_aload_n dX10_unit_64 rfl ?_
          refine xe_iconst dX10_unit_65 kc_1 ?_
          refine xe_aload_n dX10_unit_66 rfl ?_
          refine xe_getP dX10_unit_67 flX10_20 (st124 hs) (by decide) rfl (sp124_5 hs) ?_
          refine xe_aload_n dX10_unit_70 rfl ?_
          refine xe_getIv dX10_unit_71 flX10_201 (st124 hs) (by decide) rfl (v := nI t) (h11) ?_
          refine xn_ialdv dX10_unit_74 (st127 hs) (by omega) (by decide) (v := nI (tk_T K t)) (z3) ?_
          refine xe_bipush dX10_unit_75 kb_31 ?_
          refine xn_isub dX10_unit_77 (by omega) ?_
          refine xe_callVV (d' := 0) (y' := mX10_emit) dX10_unit_78 mlX10_298 mvX10_emit rfl (st124 hs) (by decide) rfl (by decide) (by decide) (Nat.le_of_ble_eq_true rfl) (c_X10_emit l g _ (by exact hs) (n := c0 + c.length) (by exact h39) (by omega) _ _) rfl ?_
          refine xe_aload_n dX10_unit_81 rfl ?_
          refine xe_callVV (d' := 1) (y' := mX10_goesOn) dX10_unit_82 mlX10_219 mvX10_goesOn rfl (st124 hs) (by decide) rfl (by decide) (by decide) (Nat.le_of_ble_eq_true rfl) (c_X10_goesOn_f l g _ (by exact hs) (t := t) (by refine ⟨rt_Tc hT ?_ ?_ ?_ ?_, ht, ?_, ?_⟩ <;> first | exact rfl | exact h11 | exact h13) (by omega)) rfl ?_
          refine xe_goto (tgt := 93) dX10_unit_85 rfl ?_
          refine xe_return dX10_unit_93 rfl ?_
          refine ⟨rfl, ?_⟩
          have c1 := ce_1 (n := c0 + c.length) (v := nI (tk_T K t - 31)) (k := 1) h43 rfl
          obtain ⟨b1, b2, b3, b4, b5, b6, b7⟩ := c1
          obtain ⟨a1, a2, a3, a4, a5, a6, a7, a8, a9, a10, a11, a12⟩ := a
          refine ⟨a2, fun r x y z w => (q_Ine x).trans ((b2 r x y z).trans (a3 r x y z w)), fun k x y z w u v => (pk_un w).trans ((pk_un z).trans ((b3 k u v).trans (a4 k x y u v))), rfl, rfl, (show 1 ≤ 2 by decide), (show 2 ≤ 5 by decide), ⟨t, by omega, a5⟩, ⟨c0 + c.length + 1, by omega, rfl⟩, fun i hi => ⟨((b6 i (by simp only [List.length_cons, List.length_nil]; omega)).1).trans (a10 i hi).1, ((b6 i (by simp only [List.length_cons, List.length_nil]; omega)).2).trans (a10 i hi).2⟩⟩
  · omega
theorem c_X10_unit_x (l : Launch) (g : q_GP) {K : q_TK} {m c0 cm t dp : Nat} {h0 : q_H} {W : List Nat} {c : List (Nat × Int32)} (b : q_x0 K m h0 c0 cm) (h : q_H) (a : q_xs K m h0 c0 cm t dp W c h) (hk : ¬ tk_T K t = 2) (hk2 : ¬ (31 ≤ tk_T K t ∧ tk_T K t ≤ 36)) : q_Ct l g 2 mX10_unit [.ref 124] h (fun r h1 => r = none ∧ q_xb K h0 c0 cm (1, t) h1) := by
  have hs := xs_s b a
  have hR := xs_R b a
  obtain ⟨hT, ht, h11, h13⟩ := id hR
  obtain ⟨hm4, hme, hti⟩ := id hT
  obtain ⟨z1, z2, z3, z4, z5, z6⟩ := hti t ht
  have h39 := a.2.2.2.2.2.2.2.2.1
  have h43 := a.2.2.2.2.2.2.1
  have hbd := a.2.2.2.2.2.2.2.2.2.2.2
  have hcm := b.2.2.2
  refine q_CtV mvX10_unit (Nat.le_of_ble_eq_true rfl) ?_
  refine xe_aload_n dX10_unit_0 rfl ?_
  refine xe_iconst dX10_unit_1 kc_2 ?_
  refine xe_callVI (d' := 0) (y' := mX10_is) dX10_unit_2 mlX10_216 mvX10_is rfl (st124 hs) (by decide) rfl (by decide) (by decide) (Nat.le_of_ble_eq_true rfl) (c_X10_is_0 l g _ (by exact hs) hR (by decide) (hk)) rfl ?_
  refine xn_if_eq (tgt := 29) dX10_unit_5 rfl (by omega) (fun c1 => ?_) (fun c1 => ?_)
  · refine xe_aload_n dX10_unit_29 rfl ?_
    refine xe_getIv dX10_unit_30 flX10_198 (st124 hs) (by decide) rfl (v := nI 0) (h13) ?_
    refine xn_if_ne (tgt := 88) dX10_unit_33 rfl (by omega) (fun c2 => ?_) (fun c2 => ?_)
    · omega
    · refine xe_aload_n dX10_unit_36 rfl ?_
      refine xe_getP dX10_unit_37 flX10_20 (st124 hs) (by decide) rfl (sp124_5 hs) ?_
      refine xe_aload_n dX10_unit_40 rfl ?_
      refine xe_getIv dX10_unit_41 flX10_201 (st124 hs) (by decide) rfl (v := nI t) (h11) ?_
      refine xn_ialdv dX10_unit_44 (st127 hs) (by omega) (by decide) (v := nI (tk_T K t)) (z3) ?_
      refine xe_bipush dX10_unit_45 kb_31 ?_
      refine xn_icmp_lt (tgt := 88) dX10_unit_47 rfl (by omega) (by omega) (fun c3 => ?_) (fun c3 => ?_)
      · refine xe_aload_n dX10_unit_88 rfl ?_
        refine xe_iconst dX10_unit_89 kc_1 ?_
        refine xe_callVV (d' := 0) (y' := mX10_fail) dX10_unit_90 mlX10_213 mvX10_fail rfl (st124 hs) (by decide) rfl (by decide) (by decide) (Nat.le_of_ble_eq_true rfl) (c_X10_fail_0 l g _ (by exact hs) hR _) rfl ?_
        refine xe_return dX10_unit_93 rfl ?_
        refine ⟨rfl, xs_bad (e := (1, t)) a (by omega) rfl (fun r a1 a2 => q_Ine a1) (fun k a1 a2 a3 a4 a5 => (pk_un a4).trans (pk_un a3)) rfl rfl (show 1 ≤ 1 by decide) (show 1 ≤ 5 by decide) h11 (by omega)⟩
      · refine xe_aload_n dX10_unit_50 rfl ?_
        refine xe_getP dX10_unit_51 flX10_20 (st124 hs) (by decide) rfl (sp124_5 hs) ?_
        refine xe_aload_n dX10_unit_54 rfl ?_
        refine xe_getIv dX10_unit_55 flX10_201 (st124 hs) (by decide) rfl (v := nI t) (h11) ?_
        refine xn_ialdv dX10_unit_58 (st127 hs) (by omega) (by decide) (v := nI (tk_T K t)) (z3) ?_
        refine xe_bipush dX10_unit_59 kb_36 ?_
        refine xn_icmp_gt (tgt := 88) dX10_unit_61 rfl (by omega) (by omega) (fun c4 => ?_) (fun c4 => ?_)
        · refine xe_aload_n dX10_unit_88 rfl ?_
          refine xe_iconst dX10_unit_89 kc_1 ?_
          refine xe_callVV (d' := 0) (y' := mX10_fail) dX10_unit_90 mlX10_213 mvX10_fail rfl (st124 hs) (by decide) rfl (by decide) (by decide) (Nat.le_of_ble_eq_true rfl) (c_X10_fail_0 l g _ (by exact hs) hR _) rfl ?_
          refine xe_return dX10_unit_93 rfl ?_
          refine ⟨rfl, xs_bad (e := (1, t)) a (by omega) rfl (fun r a1 a2 => q_Ine a1) (fun k a1 a2 a3 a4 a5 => (pk_un a4).trans (pk_un a3)) rfl rfl (show 1 ≤ 1 by decide) (show 1 ≤ 5 by decide) h11 (by omega)⟩
        · omega
  · omega
theorem c_X10_unit_b (l : Launch) (g : q_GP) (h : q_H) (hs : q_Stat h) {f : Nat} (h13 : q_I h 124 13 = nI f) (hf : 0 < f) (hf5 : f ≤ 5) : q_Cd l g 2 mX10_unit [.ref 124] h none h := by
  refine q_CdV mvX10_unit (Nat.le_of_ble_eq_true rfl) ?_
  refine xe_aload_n dX10_unit_0 rfl ?_
  refine xe_iconst dX10_unit_1 kc_2 ?_
  refine xe_callVI (d' := 0) (y' := mX10_is) dX10_unit_2 mlX10_216 mvX10_is rfl (st124 hs) (by decide) rfl (by decide) (by decide) (Nat.le_of_ble_eq_true rfl) (c_X10_is_f l g _ (by exact hs) h13 hf hf5 _) rfl ?_
  refine xn_if_eq (tgt := 29) dX10_unit_5 rfl (by omega) (fun c1 => ?_) (fun c1 => ?_)
  · refine xe_aload_n dX10_unit_29 rfl ?_
    refine xe_getIv dX10_unit_30 flX10_198 (st124 hs) (by decide) rfl (v := nI f) (h13) ?_
    refine xn_if_ne (tgt := 88) dX10_unit_33 rfl (by omega) (fun c2 => ?_) (fun c2 => ?_)
    · refine xe_aload_n dX10_unit_88 rfl ?_
      refine xe_iconst dX10_unit_89 kc_1 ?_
      refine xe_callVV (d' := 0) (y' := mX10_fail) dX10_unit_90 mlX10_213 mvX10_fail rfl (st124 hs) (by decide) rfl (by decide) (by decide) (Nat.le_of_ble_eq_true rfl) (c_X10_fail_f l g _ (by exact hs) (by exact h13) hf hf5 _) rfl ?_
      refine xe_return dX10_unit_93 rfl ?_
      exact ⟨rfl, rfl⟩
    · omega
  · omega
def q_s6 (W : List Nat) : Prop := ∀ x ∈ W, x = 6 ∨ x = 8 ∨ x = 9 ∨ x = 10 ∨ x = 15
def q_UN (l : Launch) (g : q_GP) (K : q_TK) (m : Nat) (h0 : q_H) (c0 cm k : Nat) (U : Nat → q_XR) : Prop := ∀ (dp t : Nat) (W : List Nat) (c : List (Nat × Int32)) (h : q_H) (Q : Option Value → q_H → Prop), dp + k = 6 → q_xs K m h0 c0 cm t dp W c h → W.length ≤ 3 * dp + 2 → q_s6 W →
  (∀ x h', U t = .inr x → q_xs K m h0 c0 cm x.2 dp W (c ++ x.1) h' → q_Ex l g 3 mX10_expression 96 [(0, .ref 124), (1, .int (nI 0)), (2, .int (nI 1))] [] h' Q) → (∀ e h', U t = .inl e → q_xb K h0 c0 cm e h' → Q none h') → q_Ex l g 3 mX10_expression 23 [(0, .ref 124), (1, .int (nI 0)), (2, .int (nI 1))] [] h Q
def q_mul (P : List Nat) : Prop := P.length ≤ 1 ∧ ∀ x ∈ P, x = 10 ∨ x = 15
def q_add (P : List Nat) : Prop := P.length ≤ 1 ∧ ∀ x ∈ P, x = 8 ∨ x = 9
theorem q_s6_c {v : Nat} {W : List Nat} (hv : v = 6 ∨ v = 8 ∨ v = 9 ∨ v = 10 ∨ v = 15) (h : q_s6 W) : q_s6 (v :: W) := fun x hx => by
  rcases List.mem_cons.mp hx with rfl | q
  · exact hv
  · exact h x q
theorem q_s6_a {as W : List Nat} (has : q_add as) (h : q_s6 W) : q_s6 (as ++ W) := fun x hx => by
  rcases List.mem_append.mp hx with q | q
  · have := has.2 x q
    omega
  · exact h x q
theorem q_stay_1 {as W : List Nat} (has : q_add as) (hst : q_stay 0 W) : q_stay 1 (as ++ W) := by
  match as, has with
  | [], _ =>
    match W, hst with
    | [], _ => trivial
    | x :: w, q => exact Or.inl (q.elim id (fun z => absurd z.1 (by decide)))
  | x :: as, has => exact Or.inr ⟨rfl, has.2 x List.mem_cons_self⟩
theorem q_pop0 {as ms : List Nat} (hms : q_mul ms) (has : q_add as) : ∀ x ∈ ms ++ as, q_out1 0 x := fun x hx => by
  show x = 8 ∨ x = 9 ∨ x = 10 ∨ x = 15
  rcases List.mem_append.mp hx with q | q
  · have := hms.2 x q
    omega
  · have := has.2 x q
    omega
theorem tx_good_a {e : Nat} {U : Nat → q_XR} (h : tx_good e U) : tx_good e U := h
theorem ex_pl (l : Launch) (g : q_GP) {K : q_TK} {m c0 cm k e : Nat} {h0 : q_H} (b : q_x0 K m h0 c0 cm) {U : Nat → q_XR} (hU : q_UN l g K m h0 c0 cm k U) (hG : tx_good e U) : ∀ (f dp t : Nat) (W as ms : List Nat) (cp kc : List (Nat × Int32)) (h : q_H) (Q : Option Value → q_H → Prop), dp + k = 6 → q_xs K m h0 c0 cm t dp (ms ++ (as ++ W)) (cp ++ kc) h → W.length ≤ 3 * dp → q_stay 0 W → q_s6 W → q_add as → q_mul ms → 401 ≤ f + t →
    (∀ (kc' : List (Nat × Int32)) (ms' : List Nat) (x : List (Nat × Int32) × Nat) (h' : q_H), tx_pl (tk_T K) 10 15 U f (kc ++ q_emo ms) t = .inr x → x.1 = kc' ++ q_emo ms' → q_mul ms' → q_xs K m h0 c0 cm x.2 dp (ms' ++ (as ++ W)) (cp ++ kc') h' → ¬ (tk_T K x.2 = 10 ∨ tk_T K x.2 = 15) → q_Ex l g 3 mX10_expression 96 [(0, .ref 124), (1, .int (nI 0)), (2, .int (nI 1))] [] h' Q) → (∀ e h', tx_pl (tk_T K) 10 15 U f (kc ++ q_emo ms) t = .inl e → q_xb K h0 c0 cm e h' → Q none h') → q_Ex l g 3 mX10_expression 96 [(0, .ref 124), (1, .int (nI 0)), (2, .int (nI 1))] [] h Q := by
  have hm4 := b.2.1.1
  have hcm := b.2.2.2
  intro f
  induction f with
  | zero =>
    intro dp t W as ms cp kc h Q hdk a hW hst h6 has hms hft K1 K0
    have := a.1
    omega
  | succ f ih =>
    intro dp t W as ms cp kc h Q hdk a hW hst h6 has hms hft K1 K0
    have hs := xs_s b a
    have hR := xs_R b a
    have h11 := a.2.2.2.2.1
    have h12 := a.2.2.2.2.2.1
    have h13 := hR.2.2.2
    have h39 := a.2.2.2.2.2.2.2.2.1
    have h43 := a.2.2.2.2.2.2.1
    have h151 := a.2.2.2.2.2.2.2.1
    have hbd := a.2.2.2.2.2.2.2.2.2.2.2
    have htm := hR.2.1
    have l1 := has.1
    have l2 := hms.1
    have lm : (ms ++ (as ++ W)).length = ms.length + (as.length + W.length) := by rw [List.length_append, List.length_append]
    have o1 : ∀ x ∈ ms, x ≠ 6 := fun x hx => by have := hms.2 x hx; omega
    have o2 : ∀ x ∈ as, x ≠ 6 := fun x hx => by have := has.2 x hx; omega
    have q1 := q_ops_app ms (as ++ W) o1
    have q2 := q_ops_app as W o2
    have lc : (cp ++ kc).length = cp.length + kc.length := List.length_append
    have lem : (q_emo ms).length = ms.length := List.length_map _
    have lea : (q_emo as).length = as.length := List.length_map _
    have lb : (as ++ W).length = as.length + W.length := List.length_append
    rw [tx_pl] at K1 K0
    by_cases hk10 : tk_T K t = 10
    · have hk := hk10
      rw [if_pos (Or.inl hk10)] at K1 K0
      by_cases h400 : 400 ≤ t
      · rw [if_pos h400] at K0
        refine xe_aload_n dX10_expression_96 rfl ?_
        refine xe_bipush dX10_expression_97 kb_7 ?_
        refine xe_callVI (d' := 0) (y' := mX10_is) dX10_expression_99 mlX10_216 mvX10_is rfl (st124 hs) (by decide) rfl (by decide) (by decide) (Nat.le_of_ble_eq_true rfl) (c_X10_is_0 l g _ (by exact hs) hR (by decide) (by omega)) rfl ?_
        refine xn_if_eq (tgt := 145) dX10_expression_102 rfl (by omega) (fun c1 => ?_) (fun c1 => ?_)
        · refine xe_aload_n dX10_expression_145 rfl ?_
          refine xe_bipush dX10_expression_146 kb_8 ?_
          refine xe_callVI (d' := 0) (y' := mX10_is) dX10_expression_148 mlX10_216 mvX10_is rfl (st124 hs) (by decide) rfl (by decide) (by decide) (Nat.le_of_ble_eq_true rfl) (c_X10_is_0 l g _ (by exact hs) hR (by decide) (by omega)) rfl ?_
          refine xn_if_ne (tgt := 181) dX10_expression_151 rfl (by omega) (fun c2 => ?_) (fun c2 => ?_)
          · omega
          · refine xe_aload_n dX10_expression_154 rfl ?_
            refine xe_bipush dX10_expression_155 kb_9 ?_
            refine xe_callVI (d' := 0) (y' := mX10_is) dX10_expression_157 mlX10_216 mvX10_is rfl (st124 hs) (by decide) rfl (by decide) (by decide) (Nat.le_of_ble_eq_true rfl) (c_X10_is_0 l g _ (by exact hs) hR (by decide) (by omega)) rfl ?_
            refine xn_if_ne (tgt := 181) dX10_expression_160 rfl (by omega) (fun c3 => ?_) (fun c3 => ?_)
            · omega
            · refine xe_aload_n dX10_expression_163 rfl ?_
              refine xe_bipush dX10_expression_164 kb_10 ?_
              refine xe_callVI (d' := 0) (y' := mX10_is) dX10_expression_166 mlX10_216 mvX10_is rfl (st124 hs) (by decide) rfl (by decide) (by decide) (Nat.le_of_ble_eq_true rfl) (c_X10_is_1 l g _ (by exact hs) hR hk) rfl ?_
              refine xn_if_ne (tgt := 181) dX10_expression_169 rfl (by omega) (fun c4 => ?_) (fun c4 => ?_)
              · refine xe_iconst dX10_expression_181 kc_1 ?_
                refine xe_goto (tgt := 186) dX10_expression_182 rfl ?_
                refine xe_istore_n (i := 2) dX10_expression_186 rfl (by decide) rfl ?_
                refine xe_iload_n dX10_expression_187 rfl ?_
                refine xn_if_ne (tgt := 210) dX10_expression_188 rfl (by omega) (fun c5 => ?_) (fun c5 => ?_)
                · refine xe_aload_n dX10_expression_210 rfl ?_
                  refine xe_aload_n dX10_expression_211 rfl ?_
                  refine xe_bipush dX10_expression_212 kb_10 ?_
                  refine xe_callVI (d' := 0) (y' := mX10_is) dX10_expression_214 mlX10_216 mvX10_is rfl (st124 hs) (by decide) rfl (by decide) (by decide) (Nat.le_of_ble_eq_true rfl) (c_X10_is_1 l g _ (by exact hs) hR hk) rfl ?_
                  refine xn_if_ne (tgt := 229) dX10_expression_217 rfl (by omega) (fun c6 => ?_) (fun c6 => ?_)
                  · refine xe_iconst dX10_expression_229 kc_1 ?_
                    refine xe_goto (tgt := 234) dX10_expression_230 rfl ?_
                    refine xe_callVVq (d' := 1) (y' := mX10_comesOut) dX10_expression_234 mlX10_304 mvX10_comesOut rfl (st124 hs) (by decide) rfl (by decide) (by decide) (Nat.le_of_ble_eq_true rfl) (c_X10_comesOut l g _ hs (s := 1) (P := ms) (w := (as ++ W)) (by decide) (fun x hx => hms.2 x hx) (q_stay_1 has hst) (by exact h43) (by exact h151) (by omega) h39 (by omega)) rfl (fun hc7 hc7q => ?_)
                    have a := xs_ce (W1 := (as ++ W)) a hc7q (q_wk_tl h151) (by omega) (by omega)
                    have hs := xs_s b a
                    have hR := xs_R b a
                    have h11 := a.2.2.2.2.1
                    have h12 := a.2.2.2.2.2.1
                    have h13 := hR.2.2.2
                    have h39 := a.2.2.2.2.2.2.2.2.1
                    have h43 := a.2.2.2.2.2.2.1
                    have h151 := a.2.2.2.2.2.2.2.1
                    have hbd := a.2.2.2.2.2.2.2.2.2.2.2
                    obtain ⟨z1, z2, z3, z4, z5, z6⟩ := hR.1.2.2 t hR.2.1
                    refine xe_aload_n dX10_expression_237 rfl ?_
                    refine xe_getP dX10_expression_238 flX10_98 (st124 hs) (by decide) rfl (sp124_42 hs) ?_
                    refine xe_aload_n dX10_expression_241 rfl ?_
                    refine xe_getIv dX10_expression_242 flX10_295 (st124 hs) (by decide) rfl (v := nI ((as ++ W).length)) (h43) ?_
                    refine xe_aload_n dX10_expression_245 rfl ?_
                    refine xe_getP dX10_expression_246 flX10_20 (st124 hs) (by decide) rfl (sp124_5 hs) ?_
                    refine xe_aload_n dX10_expression_249 rfl ?_
                    refine xe_getIv dX10_expression_250 flX10_201 (st124 hs) (by decide) rfl (v := nI t) (h11) ?_
                    refine xn_ialdv dX10_expression_253 (st127 hs) (by omega) (by decide) (v := nI 10) ((by rw [z3, hk])) ?_
                    refine xn_iast dX10_expression_254 (st151 hs) (by omega) (by decide) ?_
                    refine xe_aload_n dX10_expression_255 rfl ?_
                    refine xe_dup dX10_expression_256 rfl ?_
                    refine xe_getIv dX10_expression_257 flX10_295 (st124 hs) (by decide) rfl (v := nI ((as ++ W).length)) (h43) ?_
                    refine xe_iconst dX10_expression_260 kc_1 ?_
                    refine xn_iadd dX10_expression_261 ?_
                    refine xe_putI dX10_expression_262 flX10_295 (st124 hs) (by decide) rfl (Or.inl rfl) rfl rfl ?_
                    refine xe_aload_n dX10_expression_265 rfl ?_
                    refine xe_callVV (d' := 1) (y' := mX10_goesOn) dX10_expression_266 mlX10_219 mvX10_goesOn rfl (st124 hs) (by decide) rfl (by decide) (by decide) (Nat.le_of_ble_eq_true rfl) (c_X10_goesOn_f l g _ (by exact hs) (t := t) (by refine ⟨rt_Tc hR.1 ?_ ?_ ?_ ?_, hR.2.1, ?_, ?_⟩ <;> first | exact rfl | exact h11 | exact h13) (by omega)) rfl ?_
                    refine xe_goto (tgt := 12) dX10_expression_269 rfl ?_
                    refine xe_iload_n dX10_expression_12 rfl ?_
                    refine xn_if_eq (tgt := 272) dX10_expression_13 rfl (by omega) (fun c8 => ?_) (fun c8 => ?_)
                    · omega
                    · refine xe_aload_n dX10_expression_16 rfl ?_
                      refine xe_getIv dX10_expression_17 flX10_198 (st124 hs) (by decide) rfl (v := nI 2) (rfl) ?_
                      refine xn_if_ne (tgt := 272) dX10_expression_20 rfl (by omega) (fun c9 => ?_) (fun c9 => ?_)
                      · refine xe_return dX10_expression_272 rfl ?_
                        exact K0 (2, t) _ rfl (xs_bad (e := (2, t)) a (by simp only [List.length_append] at hbd ⊢; omega) rfl (fun r a1 a2 => (q_Ine a1).trans ((q_Ine a1).trans (q_Ine a2))) (fun k a1 a2 a3 a4 a5 => (pk_un a4).trans ((pk_un a3).trans (pk_un a5))) rfl rfl (show 1 ≤ 2 by decide) (show 2 ≤ 5 by decide) h11 (by omega))
                      · omega
                  · omega
                · omega
              · omega
        · omega
      · rw [if_neg h400] at K1 K0
        have hgo := rt_go hR.1 htm (by omega) (by omega)
        refine xe_aload_n dX10_expression_96 rfl ?_
        refine xe_bipush dX10_expression_97 kb_7 ?_
        refine xe_callVI (d' := 0) (y' := mX10_is) dX10_expression_99 mlX10_216 mvX10_is rfl (st124 hs) (by decide) rfl (by decide) (by decide) (Nat.le_of_ble_eq_true rfl) (c_X10_is_0 l g _ (by exact hs) hR (by decide) (by omega)) rfl ?_
        refine xn_if_eq (tgt := 145) dX10_expression_102 rfl (by omega) (fun c1 => ?_) (fun c1 => ?_)
        · refine xe_aload_n dX10_expression_145 rfl ?_
          refine xe_bipush dX10_expression_146 kb_8 ?_
          refine xe_callVI (d' := 0) (y' := mX10_is) dX10_expression_148 mlX10_216 mvX10_is rfl (st124 hs) (by decide) rfl (by decide) (by decide) (Nat.le_of_ble_eq_true rfl) (c_X10_is_0 l g _ (by exact hs) hR (by decide) (by omega)) rfl ?_
          refine xn_if_ne (tgt := 181) dX10_expression_151 rfl (by omega) (fun c2 => ?_) (fun c2 => ?_)
          · omega
          · refine xe_aload_n dX10_expression_154 rfl ?_
            refine xe_bipush dX10_expression_155 kb_9 ?_
            refine xe_callVI (d' := 0) (y' := mX10_is) dX10_expression_157 mlX10_216 mvX10_is rfl (st124 hs) (by decide) rfl (by decide) (by decide) (Nat.le_of_ble_eq_true rfl) (c_X10_is_0 l g _ (by exact hs) hR (by decide) (by omega)) rfl ?_
            refine xn_if_ne (tgt := 181) dX10_expression_160 rfl (by omega) (fun c3 => ?_) (fun c3 => ?_)
            · omega
            · refine xe_aload_n dX10_expression_163 rfl ?_
              refine xe_bipush dX10_expression_164 kb_10 ?_
              refine xe_callVI (d' := 0) (y' := mX10_is) dX10_expression_166 mlX10_216 mvX10_is rfl (st124 hs) (by decide) rfl (by decide) (by decide) (Nat.le_of_ble_eq_true rfl) (c_X10_is_1 l g _ (by exact hs) hR hk) rfl ?_
              refine xn_if_ne (tgt := 181) dX10_expression_169 rfl (by omega) (fun c4 => ?_) (fun c4 => ?_)
              · refine xe_iconst dX10_expression_181 kc_1 ?_
                refine xe_goto (tgt := 186) dX10_expression_182 rfl ?_
                refine xe_istore_n (i := 2) dX10_expression_186 rfl (by decide) rfl ?_
                refine xe_iload_n dX10_expression_187 rfl ?_
                refine xn_if_ne (tgt := 210) dX10_expression_188 rfl (by omega) (fun c5 => ?_) (fun c5 => ?_)
                · refine xe_aload_n dX10_expression_210 rfl ?_
                  refine xe_aload_n dX10_expression_211 rfl ?_
                  refine xe_bipush dX10_expression_212 kb_10 ?_
                  refine xe_callVI (d' := 0) (y' := mX10_is) dX10_expression_214 mlX10_216 mvX10_is rfl (st124 hs) (by decide) rfl (by decide) (by decide) (Nat.le_of_ble_eq_true rfl) (c_X10_is_1 l g _ (by exact hs) hR hk) rfl ?_
                  refine xn_if_ne (tgt := 229) dX10_expression_217 rfl (by omega) (fun c6 => ?_) (fun c6 => ?_)
                  · refine xe_iconst dX10_expression_229 kc_1 ?_
                    refine xe_goto (tgt := 234) dX10_expression_230 rfl ?_
                    refine xe_callVVq (d' := 1) (y' := mX10_comesOut) dX10_expression_234 mlX10_304 mvX10_comesOut rfl (st124 hs) (by decide) rfl (by decide) (by decide) (Nat.le_of_ble_eq_true rfl) (c_X10_comesOut l g _ hs (s := 1) (P := ms) (w := (as ++ W)) (by decide) (fun x hx => hms.2 x hx) (q_stay_1 has hst) (by exact h43) (by exact h151) (by omega) h39 (by omega)) rfl (fun hc7 hc7q => ?_)
                    have a := xs_ce (W1 := (as ++ W)) a hc7q (q_wk_tl h151) (by omega) (by omega)
                    have hs := xs_s b a
                    have hR := xs_R b a
                    have h11 := a.2.2.2.2.1
                    have h12 := a.2.2.2.2.2.1
                    have h13 := hR.2.2.2
                    have h39 := a.2.2.2.2.2.2.2.2.1
                    have h43 := a.2.2.2.2.2.2.1
                    have h151 := a.2.2.2.2.2.2.2.1
                    have hbd := a.2.2.2.2.2.2.2.2.2.2.2
                    obtain ⟨z1, z2, z3, z4, z5, z6⟩ := hR.1.2.2 t hR.2.1
                    refine xe_aload_n dX10_expression_237 rfl ?_
                    refine xe_getP dX10_expression_238 flX10_98 (st124 hs) (by decide) rfl (sp124_42 hs) ?_
                    refine xe_aload_n dX10_expression_241 rfl ?_
                    refine xe_getIv dX10_expression_242 flX10_295 (st124 hs) (by decide) rfl (v := nI ((as ++ W).length)) (h43) ?_
                    refine xe_aload_n dX10_expression_245 rfl ?_
                    refine xe_getP dX10_expression_246 flX10_20 (st124 hs) (by decide) rfl (sp124_5 hs) ?_
                    refine xe_aload_n dX10_expression_249 rfl ?_
                    refine xe_getIv dX10_expression_250 flX10_201 (st124 hs) (by decide) rfl (v := nI t) (h11) ?_
                    refine xn_ialdv dX10_expression_253 (st127 hs) (by omega) (by decide) (v := nI 10) ((by rw [z3, hk])) ?_
                    refine xn_iast dX10_expression_254 (st151 hs) (by omega) (by decide) ?_
                    refine xe_aload_n dX10_expression_255 rfl ?_
                    refine xe_dup dX10_expression_256 rfl ?_
                    refine xe_getIv dX10_expression_257 flX10_295 (st124 hs) (by decide) rfl (v := nI ((as ++ W).length)) (h43) ?_
                    refine xe_iconst dX10_expression_260 kc_1 ?_
                    refine xn_iadd dX10_expression_261 ?_
                    refine xe_putI dX10_expression_262 flX10_295 (st124 hs) (by decide) rfl (Or.inl rfl) rfl rfl ?_
                    refine xe_aload_n dX10_expression_265 rfl ?_
                    refine xe_callVV (d' := 1) (y' := mX10_goesOn) dX10_expression_266 mlX10_219 mvX10_goesOn rfl (st124 hs) (by decide) rfl (by decide) (by decide) (Nat.le_of_ble_eq_true rfl) (c_X10_goesOn_t l g _ (by exact hs) (t := t) (by exact h11) (by omega)) rfl ?_
                    refine xe_goto (tgt := 12) dX10_expression_269 rfl ?_
                    refine xe_iload_n dX10_expression_12 rfl ?_
                    refine xn_if_eq (tgt := 272) dX10_expression_13 rfl (by omega) (fun c8 => ?_) (fun c8 => ?_)
                    · omega
                    · refine xe_aload_n dX10_expression_16 rfl ?_
                      refine xe_getIv dX10_expression_17 flX10_198 (st124 hs) (by decide) rfl (v := nI 0) (h13) ?_
                      refine xn_if_ne (tgt := 272) dX10_expression_20 rfl (by omega) (fun c9 => ?_) (fun c9 => ?_)
                      · omega
                      · refine xe_locals (L' := [(0, .ref 124), (1, .int (nI 0)), (2, .int (nI 1))]) (And.intro rfl (And.intro rfl (And.intro rfl trivial))) ?_
                        refine hU dp (t + 1) (10 :: (as ++ W)) (cp ++ kc ++ q_emo ms) _ Q hdk (by exact xs_mv (t1 := t + 1) (dp1 := dp) (W1 := 10 :: (as ++ W)) a rfl (fun r a1 a2 => (q_Ine a1).trans ((q_Ine a1).trans (q_Ine a2))) (fun k a1 a2 a3 => (pk_un a1).trans (pk_un a3)) hgo rfl h12 rfl ⟨pk_us, q_wk_up h151 (Nat.le_refl _)⟩ (by show _ + (1 + q_ops (as ++ W)) + 401 ≤ _; omega)) (by show (as ++ W).length + 1 ≤ _; omega) (q_s6_c (by decide) (q_s6_a has h6)) (fun x h' hx xa => ?_) (fun er h' hx xb => K0 er h' (by rw [hx]; rfl) xb)
                        have hg := hG _ _ hx
                        rw [hx] at K1 K0
                        refine ih dp x.2 W as [10] cp (kc ++ q_emo ms ++ x.1) h' Q hdk (by have xa := xa; simp only [List.append_assoc] at xa ⊢; exact xa) hW hst h6 has ⟨by decide, fun y hy => by rw [List.mem_singleton] at hy; omega⟩ (by have := hg.1; omega) (fun kc' ms' y h2 hy => K1 kc' ms' y h2 ?_) (fun er h2 hy => K0 er h2 ?_)
                        · show tx_pl (tk_T K) 10 15 U f (kc ++ q_emo ms ++ x.1 ++ [(tx_op (tk_T K t), nI 0)]) x.2 = .inr y
                          rw [hk]
                          exact hy
                        · show tx_pl (tk_T K) 10 15 U f (kc ++ q_emo ms ++ x.1 ++ [(tx_op (tk_T K t), nI 0)]) x.2 = .inl er
                          rw [hk]
                          exact hy
                  · omega
                · omega
              · omega
        · omega
    by_cases hk15 : tk_T K t = 15
    · have hk := hk15
      rw [if_pos (Or.inr hk15)] at K1 K0
      by_cases h400 : 400 ≤ t
      · rw [if_pos h400] at K0
        refine xe_aload_n dX10_expression_96 rfl ?_
        refine xe_bipush dX10_expression_97 kb_7 ?_
        refine xe_callVI (d' := 0) (y' := mX10_is) dX10_expression_99 mlX10_216 mvX10_is rfl (st124 hs) (by decide) rfl (by decide) (by decide) (Nat.le_of_ble_eq_true rfl) (c_X10_is_0 l g _ (by exact hs) hR (by decide) (by omega)) rfl ?_
        refine xn_if_eq (tgt := 145) dX10_expression_102 rfl (by omega) (fun c1 => ?_) (fun c1 => ?_)
        · refine xe_aload_n dX10_expression_145 rfl ?_
          refine xe_bipush dX10_expression_146 kb_8 ?_
          refine xe_callVI (d' := 0) (y' := mX10_is) dX10_expression_148 mlX10_216 mvX10_is rfl (st124 hs) (by decide) rfl (by decide) (by decide) (Nat.le_of_ble_eq_true rfl) (c_X10_is_0 l g _ (by exact hs) hR (by decide) (by omega)) rfl ?_
          refine xn_if_ne (tgt := 181) dX10_expression_151 rfl (by omega) (fun c2 => ?_) (fun c2 => ?_)
          · omega
          · refine xe_aload_n dX10_expression_154 rfl ?_
            refine xe_bipush dX10_expression_155 kb_9 ?_
            refine xe_callVI (d' := 0) (y' := mX10_is) dX10_expression_157 mlX10_216 mvX10_is rfl (st124 hs) (by decide) rfl (by decide) (by decide) (Nat.le_of_ble_eq_true rfl) (c_X10_is_0 l g _ (by exact hs) hR (by decide) (by omega)) rfl ?_
            refine xn_if_ne (tgt := 181) dX10_expression_160 rfl (by omega) (fun c3 => ?_) (fun c3 => ?_)
            · omega
            · refine xe_aload_n dX10_expression_163 rfl ?_
              refine xe_bipush dX10_expression_164 kb_10 ?_
              refine xe_callVI (d' := 0) (y' := mX10_is) dX10_expression_166 mlX10_216 mvX10_is rfl (st124 hs) (by decide) rfl (by decide) (by decide) (Nat.le_of_ble_eq_true rfl) (c_X10_is_0 l g _ (by exact hs) hR (by decide) (by omega)) rfl ?_
              refine xn_if_ne (tgt := 181) dX10_expression_169 rfl (by omega) (fun c4 => ?_) (fun c4 => ?_)
              · omega
              · refine xe_aload_n dX10_expression_172 rfl ?_
                refine xe_bipush dX10_expression_173 kb_15 ?_
                refine xe_callVI (d' := 0) (y' := mX10_is) dX10_expression_175 mlX10_216 mvX10_is rfl (st124 hs) (by decide) rfl (by decide) (by decide) (Nat.le_of_ble_eq_true rfl) (c_X10_is_1 l g _ (by exact hs) hR hk) rfl ?_
                refine xn_if_eq (tgt := 185) dX10_expression_178 rfl (by omega) (fun c5 => ?_) (fun c5 => ?_)
                · omega
                · refine xe_iconst dX10_expression_181 kc_1 ?_
                  refine xe_goto (tgt := 186) dX10_expression_182 rfl ?_
                  refine xe_istore_n (i := 2) dX10_expression_186 rfl (by decide) rfl ?_
                  refine xe_iload_n dX10_expression_187 rfl ?_
                  refine xn_if_ne (tgt := 210) dX10_expression_188 rfl (by omega) (fun c6 => ?_) (fun c6 => ?_)
                  · refine xe_aload_n dX10_expression_210 rfl ?_
                    refine xe_aload_n dX10_expression_211 rfl ?_
                    refine xe_bipush dX10_expression_212 kb_10 ?_
                    refine xe_callVI (d' := 0) (y' := mX10_is) dX10_expression_214 mlX10_216 mvX10_is rfl (st124 hs) (by decide) rfl (by decide) (by decide) (Nat.le_of_ble_eq_true rfl) (c_X10_is_0 l g _ (by exact hs) hR (by decide) (by omega)) rfl ?_
                    refine xn_if_ne (tgt := 229) dX10_expression_217 rfl (by omega) (fun c7 => ?_) (fun c7 => ?_)
                    · omega
                    · refine xe_aload_n dX10_expression_220 rfl ?_
                      refine xe_bipush dX10_expression_221 kb_15 ?_
                      refine xe_callVI (d' := 0) (y' := mX10_is) dX10_expression_223 mlX10_216 mvX10_is rfl (st124 hs) (by decide) rfl (by decide) (by decide) (Nat.le_of_ble_eq_true rfl) (c_X10_is_1 l g _ (by exact hs) hR hk) rfl ?_
                      refine xn_if_eq (tgt := 233) dX10_expression_226 rfl (by omega) (fun c8 => ?_) (fun c8 => ?_)
                      · omega
                      · refine xe_iconst dX10_expression_229 kc_1 ?_
                        refine xe_goto (tgt := 234) dX10_expression_230 rfl ?_
                        refine xe_callVVq (d' := 1) (y' := mX10_comesOut) dX10_expression_234 mlX10_304 mvX10_comesOut rfl (st124 hs) (by decide) rfl (by decide) (by decide) (Nat.le_of_ble_eq_true rfl) (c_X10_comesOut l g _ hs (s := 1) (P := ms) (w := (as ++ W)) (by decide) (fun x hx => hms.2 x hx) (q_stay_1 has hst) (by exact h43) (by exact h151) (by omega) h39 (by omega)) rfl (fun hc9 hc9q => ?_)
                        have a := xs_ce (W1 := (as ++ W)) a hc9q (q_wk_tl h151) (by omega) (by omega)
                        have hs := xs_s b a
                        have hR := xs_R b a
                        have h11 := a.2.2.2.2.1
                        have h12 := a.2.2.2.2.2.1
                        have h13 := hR.2.2.2
                        have h39 := a.2.2.2.2.2.2.2.2.1
                        have h43 := a.2.2.2.2.2.2.1
                        have h151 := a.2.2.2.2.2.2.2.1
                        have hbd := a.2.2.2.2.2.2.2.2.2.2.2
                        obtain ⟨z1, z2, z3, z4, z5, z6⟩ := hR.1.2.2 t hR.2.1
                        refine xe_aload_n dX10_expression_237 rfl ?_
                        refine xe_getP dX10_expression_238 flX10_98 (st124 hs) (by decide) rfl (sp124_42 hs) ?_
                        refine xe_aload_n dX10_expression_241 rfl ?_
                        refine xe_getIv dX10_expression_242 flX10_295 (st124 hs) (by decide) rfl (v := nI ((as ++ W).length)) (h43) ?_
                        refine xe_aload_n dX10_expression_245 rfl ?_
                        refine xe_getP dX10_expression_246 flX10_20 (st124 hs) (by decide) rfl (sp124_5 hs) ?_
                        refine xe_aload_n dX10_expression_249 rfl ?_
                        refine xe_getIv dX10_expression_250 flX10_201 (st124 hs) (by decide) rfl (v := nI t) (h11) ?_
                        refine xn_ialdv dX10_expression_253 (st127 hs) (by omega) (by decide) (v := nI 15) ((by rw [z3, hk])) ?_
                        refine xn_iast dX10_expression_254 (st151 hs) (by omega) (by decide) ?_
                        refine xe_aload_n dX10_expression_255 rfl ?_
                        refine xe_dup dX10_expression_256 rfl ?_
                        refine xe_getIv dX10_expression_257 flX10_295 (st124 hs) (by decide) rfl (v := nI ((as ++ W).length)) (h43) ?_
                        refine xe_iconst dX10_expression_260 kc_1 ?_
                        refine xn_iadd dX10_expression_261 ?_
                        refine xe_putI dX10_expression_262 flX10_295 (st124 hs) (by decide) rfl (Or.inl rfl) rfl rfl ?_
                        refine xe_aload_n dX10_expression_265 rfl ?_
                        refine xe_callVV (d' := 1) (y' := mX10_goesOn) dX10_expression_266 mlX10_219 mvX10_goesOn rfl (st124 hs) (by decide) rfl (by decide) (by decide) (Nat.le_of_ble_eq_true rfl) (c_X10_goesOn_f l g _ (by exact hs) (t := t) (by refine ⟨rt_Tc hR.1 ?_ ?_ ?_ ?_, hR.2.1, ?_, ?_⟩ <;> first | exact rfl | exact h11 | exact h13) (by omega)) rfl ?_
                        refine xe_goto (tgt := 12) dX10_expression_269 rfl ?_
                        refine xe_iload_n dX10_expression_12 rfl ?_
                        refine xn_if_eq (tgt := 272) dX10_expression_13 rfl (by omega) (fun c10 => ?_) (fun c10 => ?_)
                        · omega
                        · refine xe_aload_n dX10_expression_16 rfl ?_
                          refine xe_getIv dX10_expression_17 flX10_198 (st124 hs) (by decide) rfl (v := nI 2) (rfl) ?_
                          refine xn_if_ne (tgt := 272) dX10_expression_20 rfl (by omega) (fun c11 => ?_) (fun c11 => ?_)
                          · refine xe_return dX10_expression_272 rfl ?_
                            exact K0 (2, t) _ rfl (xs_bad (e := (2, t)) a (by simp only [List.length_append] at hbd ⊢; omega) rfl (fun r a1 a2 => (q_Ine a1).trans ((q_Ine a1).trans (q_Ine a2))) (fun k a1 a2 a3 a4 a5 => (pk_un a4).trans ((pk_un a3).trans (pk_un a5))) rfl rfl (show 1 ≤ 2 by decide) (show 2 ≤ 5 by decide) h11 (by omega))
                          · omega
                  · omega
        · omega
      · rw [if_neg h400] at K1 K0
        have hgo := rt_go hR.1 htm (by omega) (by omega)
        refine xe_aload_n dX10_expression_96 rfl ?_
        refine xe_bipush dX10_expression_97 kb_7 ?_
        refine xe_callVI (d' := 0) (y' := mX10_is) dX10_expression_99 mlX10_216 mvX10_is rfl (st124 hs) (by decide) rfl (by decide) (by decide) (Nat.le_of_ble_eq_true rfl) (c_X10_is_0 l g _ (by exact hs) hR (by decide) (by omega)) rfl ?_
        refine xn_if_eq (tgt := 145) dX10_expression_102 rfl (by omega) (fun c1 => ?_) (fun c1 => ?_)
        · refine xe_aload_n dX10_expression_145 rfl ?_
          refine xe_bipush dX10_expression_146 kb_8 ?_
          refine xe_callVI (d' := 0) (y' := mX10_is) dX10_expression_148 mlX10_216 mvX10_is rfl (st124 hs) (by decide) rfl (by decide) (by decide) (Nat.le_of_ble_eq_true rfl) (c_X10_is_0 l g _ (by exact hs) hR (by decide) (by omega)) rfl ?_
          refine xn_if_ne (tgt := 181) dX10_expression_151 rfl (by omega) (fun c2 => ?_) (fun c2 => ?_)
          · omega
          · refine xe_aload_n dX10_expression_154 rfl ?_
            refine xe_bipush dX10_expression_155 kb_9 ?_
            refine xe_callVI (d' := 0) (y' := mX10_is) dX10_expression_157 mlX10_216 mvX10_is rfl (st124 hs) (by decide) rfl (by decide) (by decide) (Nat.le_of_ble_eq_true rfl) (c_X10_is_0 l g _ (by exact hs) hR (by decide) (by omega)) rfl ?_
            refine xn_if_ne (tgt := 181) dX10_expression_160 rfl (by omega) (fun c3 => ?_) (fun c3 => ?_)
            · omega
            · refine xe_aload_n dX10_expression_163 rfl ?_
              refine xe_bipush dX10_expression_164 kb_10 ?_
              refine xe_callVI (d' := 0) (y' := mX10_is) dX10_expression_166 mlX10_216 mvX10_is rfl (st124 hs) (by decide) rfl (by decide) (by decide) (Nat.le_of_ble_eq_true rfl) (c_X10_is_0 l g _ (by exact hs) hR (by decide) (by omega)) rfl ?_
              refine xn_if_ne (tgt := 181) dX10_expression_169 rfl (by omega) (fun c4 => ?_) (fun c4 => ?_)
              · omega
              · refine xe_aload_n dX10_expression_172 rfl ?_
                refine xe_bipush dX10_expression_173 kb_15 ?_
                refine xe_callVI (d' := 0) (y' := mX10_is) dX10_expression_175 mlX10_216 mvX10_is rfl (st124 hs) (by decide) rfl (by decide) (by decide) (Nat.le_of_ble_eq_true rfl) (c_X10_is_1 l g _ (by exact hs) hR hk) rfl ?_
                refine xn_if_eq (tgt := 185) dX10_expression_178 rfl (by omega) (fun c5 => ?_) (fun c5 => ?_)
                · omega
                · refine xe_iconst dX10_expression_181 kc_1 ?_
                  refine xe_goto (tgt := 186) dX10_expression_182 rfl ?_
                  refine xe_istore_n (i := 2) dX10_expression_186 rfl (by decide) rfl ?_
                  refine xe_iload_n dX10_expression_187 rfl ?_
                  refine xn_if_ne (tgt := 210) dX10_expression_188 rfl (by omega) (fun c6 => ?_) (fun c6 => ?_)
                  · refine xe_aload_n dX10_expression_210 rfl ?_
                    refine xe_aload_n dX10_expression_211 rfl ?_
                    refine xe_bipush dX10_expression_212 kb_10 ?_
                    refine xe_callVI (d' := 0) (y' := mX10_is) dX10_expression_214 mlX10_216 mvX10_is rfl (st124 hs) (by decide) rfl (by decide) (by decide) (Nat.le_of_ble_eq_true rfl) (c_X10_is_0 l g _ (by exact hs) hR (by decide) (by omega)) rfl ?_
                    refine xn_if_ne (tgt := 229) dX10_expression_217 rfl (by omega) (fun c7 => ?_) (fun c7 => ?_)
                    · omega
                    · refine xe_aload_n dX10_expression_220 rfl ?_
                      refine xe_bipush dX10_expression_221 kb_15 ?_
                      refine xe_callVI (d' := 0) (y' := mX10_is) dX10_expression_223 mlX10_216 mvX10_is rfl (st124 hs) (by decide) rfl (by decide) (by decide) (Nat.le_of_ble_eq_true rfl) (c_X10_is_1 l g _ (by exact hs) hR hk) rfl ?_
                      refine xn_if_eq (tgt := 233) dX10_expression_226 rfl (by omega) (fun c8 => ?_) (fun c8 => ?_)
                      · omega
                      · refine xe_iconst dX10_expression_229 kc_1 ?_
                        refine xe_goto (tgt := 234) dX10_expression_230 rfl ?_
                        refine xe_callVVq (d' := 1) (y' := mX10_comesOut) dX10_expression_234 mlX10_304 mvX10_comesOut rfl (st124 hs) (by decide) rfl (by decide) (by decide) (Nat.le_of_ble_eq_true rfl) (c_X10_comesOut l g _ hs (s := 1) (P := ms) (w := (as ++ W)) (by decide) (fun x hx => hms.2 x hx) (q_stay_1 has hst) (by exact h43) (by exact h151) (by omega) h39 (by omega)) rfl (fun hc9 hc9q => ?_)
                        have a := xs_ce (W1 := (as ++ W)) a hc9q (q_wk_tl h151) (by omega) (by omega)
                        have hs := xs_s b a
                        have hR := xs_R b a
                        have h11 := a.2.2.2.2.1
                        have h12 := a.2.2.2.2.2.1
                        have h13 := hR.2.2.2
                        have h39 := a.2.2.2.2.2.2.2.2.1
                        have h43 := a.2.2.2.2.2.2.1
                        have h151 := a.2.2.2.2.2.2.2.1
                        have hbd := a.2.2.2.2.2.2.2.2.2.2.2
                        obtain ⟨z1, z2, z3, z4, z5, z6⟩ := hR.1.2.2 t hR.2.1
                        refine xe_aload_n dX10_expression_237 rfl ?_
                        refine xe_getP dX10_expression_238 flX10_98 (st124 hs) (by decide) rfl (sp124_42 hs) ?_
                        refine xe_aload_n dX10_expression_241 rfl ?_
                        refine xe_getIv dX10_expression_242 flX10_295 (st124 hs) (by decide) rfl (v := nI ((as ++ W).length)) (h43) ?_
                        refine xe_aload_n dX10_expression_245 rfl ?_
                        refine xe_getP dX10_expression_246 flX10_20 (st124 hs) (by decide) rfl (sp124_5 hs) ?_
                        refine xe_aload_n dX10_expression_249 rfl ?_
                        refine xe_getIv dX10_expression_250 flX10_201 (st124 hs) (by decide) rfl (v := nI t) (h11) ?_
                        refine xn_ialdv dX10_expression_253 (st127 hs) (by omega) (by decide) (v := nI 15) ((by rw [z3, hk])) ?_
                        refine xn_iast dX10_expression_254 (st151 hs) (by omega) (by decide) ?_
                        refine xe_aload_n dX10_expression_255 rfl ?_
                        refine xe_dup dX10_expression_256 rfl ?_
                        refine xe_getIv dX10_expression_257 flX10_295 (st124 hs) (by decide) rfl (v := nI ((as ++ W).length)) (h43) ?_
                        refine xe_iconst dX10_expression_260 kc_1 ?_
                        refine xn_iadd dX10_expression_261 ?_
                        refine xe_putI dX10_expression_262 flX10_295 (st124 hs) (by decide) rfl (Or.inl rfl) rfl rfl ?_
                        refine xe_aload_n dX10_expression_265 rfl ?_
                        refine xe_callVV (d' := 1) (y' := mX10_goesOn) dX10_expression_266 mlX10_219 mvX10_goesOn rfl (st124 hs) (by decide) rfl (by decide) (by decide) (Nat.le_of_ble_eq_true rfl) (c_X10_goesOn_t l g _ (by exact hs) (t := t) (by exact h11) (by omega)) rfl ?_
                        refine xe_goto (tgt := 12) dX10_expression_269 rfl ?_
                        refine xe_iload_n dX10_expression_12 rfl ?_
                        refine xn_if_eq (tgt := 272) dX10_expression_13 rfl (by omega) (fun c10 => ?_) (fun c10 => ?_)
                        · omega
                        · refine xe_aload_n dX10_expression_16 rfl ?_
                          refine xe_getIv dX10_expression_17 flX10_198 (st124 hs) (by decide) rfl (v := nI 0) (h13) ?_
                          refine xn_if_ne (tgt := 272) dX10_expression_20 rfl (by omega) (fun c11 => ?_) (fun c11 => ?_)
                          · omega
                          · refine xe_locals (L' := [(0, .ref 124), (1, .int (nI 0)), (2, .int (nI 1))]) (And.intro rfl (And.intro rfl (And.intro rfl trivial))) ?_
                            refine hU dp (t + 1) (15 :: (as ++ W)) (cp ++ kc ++ q_emo ms) _ Q hdk (by exact xs_mv (t1 := t + 1) (dp1 := dp) (W1 := 15 :: (as ++ W)) a rfl (fun r a1 a2 => (q_Ine a1).trans ((q_Ine a1).trans (q_Ine a2))) (fun k a1 a2 a3 => (pk_un a1).trans (pk_un a3)) hgo rfl h12 rfl ⟨pk_us, q_wk_up h151 (Nat.le_refl _)⟩ (by show _ + (1 + q_ops (as ++ W)) + 401 ≤ _; omega)) (by show (as ++ W).length + 1 ≤ _; omega) (q_s6_c (by decide) (q_s6_a has h6)) (fun x h' hx xa => ?_) (fun er h' hx xb => K0 er h' (by rw [hx]; rfl) xb)
                            have hg := hG _ _ hx
                            rw [hx] at K1 K0
                            refine ih dp x.2 W as [15] cp (kc ++ q_emo ms ++ x.1) h' Q hdk (by have xa := xa; simp only [List.append_assoc] at xa ⊢; exact xa) hW hst h6 has ⟨by decide, fun y hy => by rw [List.mem_singleton] at hy; omega⟩ (by have := hg.1; omega) (fun kc' ms' y h2 hy => K1 kc' ms' y h2 ?_) (fun er h2 hy => K0 er h2 ?_)
                            · show tx_pl (tk_T K) 10 15 U f (kc ++ q_emo ms ++ x.1 ++ [(tx_op (tk_T K t), nI 0)]) x.2 = .inr y
                              rw [hk]
                              exact hy
                            · show tx_pl (tk_T K) 10 15 U f (kc ++ q_emo ms ++ x.1 ++ [(tx_op (tk_T K t), nI 0)]) x.2 = .inl er
                              rw [hk]
                              exact hy
                  · omega
        · omega
    have hno : ¬ (tk_T K t = 10 ∨ tk_T K t = 15) := fun q => q.elim hk10 hk15
    rw [if_neg hno] at K1
    exact K1 kc ms _ h rfl rfl hms a hno
theorem ex_sl (l : Launch) (g : q_GP) {K : q_TK} {m c0 cm k e : Nat} {h0 : q_H} (b : q_x0 K m h0 c0 cm) {U : Nat → q_XR} (hU : q_UN l g K m h0 c0 cm k U) (hG : tx_good e U) : ∀ (f dp t : Nat) (W as ms : List Nat) (cp kc : List (Nat × Int32)) (h : q_H) (Q : Option Value → q_H → Prop), dp + k = 6 → q_xs K m h0 c0 cm t dp (ms ++ (as ++ W)) (cp ++ kc) h → W.length ≤ 3 * dp → q_stay 0 W → q_s6 W → q_add as → q_mul ms → ¬ (tk_T K t = 10 ∨ tk_T K t = 15) → 401 ≤ f + t →
    (∀ (kc' : List (Nat × Int32)) (as' ms' : List Nat) (x : List (Nat × Int32) × Nat) (h' : q_H), tx_pl (tk_T K) 8 9 (tx_seq (tk_T K) 10 15 U) f (kc ++ q_emo ms ++ q_emo as) t = .inr x → x.1 = kc' ++ q_emo ms' ++ q_emo as' → q_mul ms' → q_add as' → q_xs K m h0 c0 cm x.2 dp (ms' ++ (as' ++ W)) (cp ++ kc') h' → ¬ (tk_T K x.2 = 10 ∨ tk_T K x.2 = 15) → ¬ (tk_T K x.2 = 8 ∨ tk_T K x.2 = 9) → q_Ex l g 3 mX10_expression 96 [(0, .ref 124), (1, .int (nI 0)), (2, .int (nI 1))] [] h' Q) → (∀ e h', tx_pl (tk_T K) 8 9 (tx_seq (tk_T K) 10 15 U) f (kc ++ q_emo ms ++ q_emo as) t = .inl e → q_xb K h0 c0 cm e h' → Q none h') → q_Ex l g 3 mX10_expression 96 [(0, .ref 124), (1, .int (nI 0)), (2, .int (nI 1))] [] h Q := by
  have hm4 := b.2.1.1
  have hcm := b.2.2.2
  intro f
  induction f with
  | zero =>
    intro dp t W as ms cp kc h Q hdk a hW hst h6 has hms hnm hft K1 K0
    have := a.1
    omega
  | succ f ih =>
    intro dp t W as ms cp kc h Q hdk a hW hst h6 has hms hnm hft K1 K0
    have hs := xs_s b a
    have hR := xs_R b a
    have h11 := a.2.2.2.2.1
    have h12 := a.2.2.2.2.2.1
    have h13 := hR.2.2.2
    have h39 := a.2.2.2.2.2.2.2.2.1
    have h43 := a.2.2.2.2.2.2.1
    have h151 := a.2.2.2.2.2.2.2.1
    have hbd := a.2.2.2.2.2.2.2.2.2.2.2
    have htm := hR.2.1
    have l1 := has.1
    have l2 := hms.1
    have lm : (ms ++ (as ++ W)).length = ms.length + (as.length + W.length) := by rw [List.length_append, List.length_append]
    have o1 : ∀ x ∈ ms, x ≠ 6 := fun x hx => by have := hms.2 x hx; omega
    have o2 : ∀ x ∈ as, x ≠ 6 := fun x hx => by have := has.2 x hx; omega
    have q1 := q_ops_app ms (as ++ W) o1
    have q2 := q_ops_app as W o2
    have lc : (cp ++ kc).length = cp.length + kc.length := List.length_append
    have lem : (q_emo ms).length = ms.length := List.length_map _
    have lea : (q_emo as).length = as.length := List.length_map _
    have lb : (as ++ W).length = as.length + W.length := List.length_append
    rw [tx_pl] at K1 K0
    by_cases hk8 : tk_T K t = 8
    · have hk := hk8
      rw [if_pos (Or.inl hk8)] at K1 K0
      by_cases h400 : 400 ≤ t
      · rw [if_pos h400] at K0
        have l9 : (ms ++ as).length = ms.length + as.length := List.length_append
        have l10 : (ms ++ as ++ W).length = ms.length + as.length + W.length := by rw [List.length_append, List.length_append]
        refine xe_aload_n dX10_expression_96 rfl ?_
        refine xe_bipush dX10_expression_97 kb_7 ?_
        refine xe_callVI (d' := 0) (y' := mX10_is) dX10_expression_99 mlX10_216 mvX10_is rfl (st124 hs) (by decide) rfl (by decide) (by decide) (Nat.le_of_ble_eq_true rfl) (c_X10_is_0 l g _ (by exact hs) hR (by decide) (by omega)) rfl ?_
        refine xn_if_eq (tgt := 145) dX10_expression_102 rfl (by omega) (fun c1 => ?_) (fun c1 => ?_)
        · refine xe_aload_n dX10_expression_145 rfl ?_
          refine xe_bipush dX10_expression_146 kb_8 ?_
          refine xe_callVI (d' := 0) (y' := mX10_is) dX10_expression_148 mlX10_216 mvX10_is rfl (st124 hs) (by decide) rfl (by decide) (by decide) (Nat.le_of_ble_eq_true rfl) (c_X10_is_1 l g _ (by exact hs) hR hk) rfl ?_
          refine xn_if_ne (tgt := 181) dX10_expression_151 rfl (by omega) (fun c2 => ?_) (fun c2 => ?_)
          · refine xe_iconst dX10_expression_181 kc_1 ?_
            refine xe_goto (tgt := 186) dX10_expression_182 rfl ?_
            refine xe_istore_n (i := 2) dX10_expression_186 rfl (by decide) rfl ?_
            refine xe_iload_n dX10_expression_187 rfl ?_
            refine xn_if_ne (tgt := 210) dX10_expression_188 rfl (by omega) (fun c3 => ?_) (fun c3 => ?_)
            · refine xe_aload_n dX10_expression_210 rfl ?_
              refine xe_aload_n dX10_expression_211 rfl ?_
              refine xe_bipush dX10_expression_212 kb_10 ?_
              refine xe_callVI (d' := 0) (y' := mX10_is) dX10_expression_214 mlX10_216 mvX10_is rfl (st124 hs) (by decide) rfl (by decide) (by decide) (Nat.le_of_ble_eq_true rfl) (c_X10_is_0 l g _ (by exact hs) hR (by decide) (by omega)) rfl ?_
              refine xn_if_ne (tgt := 229) dX10_expression_217 rfl (by omega) (fun c4 => ?_) (fun c4 => ?_)
              · omega
              · refine xe_aload_n dX10_expression_220 rfl ?_
                refine xe_bipush dX10_expression_221 kb_15 ?_
                refine xe_callVI (d' := 0) (y' := mX10_is) dX10_expression_223 mlX10_216 mvX10_is rfl (st124 hs) (by decide) rfl (by decide) (by decide) (Nat.le_of_ble_eq_true rfl) (c_X10_is_0 l g _ (by exact hs) hR (by decide) (by omega)) rfl ?_
                refine xn_if_eq (tgt := 233) dX10_expression_226 rfl (by omega) (fun c5 => ?_) (fun c5 => ?_)
                · refine xe_iconst dX10_expression_233 kc_0 ?_
                  refine xe_callVVq (d' := 1) (y' := mX10_comesOut) dX10_expression_234 mlX10_304 mvX10_comesOut rfl (st124 hs) (by decide) rfl (by decide) (by decide) (Nat.le_of_ble_eq_true rfl) (c_X10_comesOut l g _ hs (s := 0) (P := (ms ++ as)) (w := W) (by decide) (q_pop0 hms has) hst (by exact (by rw [List.append_assoc]; exact h43)) (by exact (by rw [List.append_assoc]; exact h151)) (by omega) h39 (by omega)) rfl (fun hc6 hc6q => ?_)
                  have a := xs_ce (W1 := W) a hc6q (q_wk_tl (P := ms ++ as) (by rw [List.append_assoc]; exact h151)) (by have : (q_emo (ms ++ as)).length = (ms ++ as).length := List.length_map _; have l9 : (ms ++ as).length = ms.length + as.length := List.length_append; omega) (by have : (q_emo (ms ++ as)).length = (ms ++ as).length := List.length_map _; have l9 : (ms ++ as).length = ms.length + as.length := List.length_append; omega)
                  have hs := xs_s b a
                  have hR := xs_R b a
                  have h11 := a.2.2.2.2.1
                  have h12 := a.2.2.2.2.2.1
                  have h13 := hR.2.2.2
                  have h39 := a.2.2.2.2.2.2.2.2.1
                  have h43 := a.2.2.2.2.2.2.1
                  have h151 := a.2.2.2.2.2.2.2.1
                  have hbd := a.2.2.2.2.2.2.2.2.2.2.2
                  obtain ⟨z1, z2, z3, z4, z5, z6⟩ := hR.1.2.2 t hR.2.1
                  refine xe_aload_n dX10_expression_237 rfl ?_
                  refine xe_getP dX10_expression_238 flX10_98 (st124 hs) (by decide) rfl (sp124_42 hs) ?_
                  refine xe_aload_n dX10_expression_241 rfl ?_
                  refine xe_getIv dX10_expression_242 flX10_295 (st124 hs) (by decide) rfl (v := nI W.length) (h43) ?_
                  refine xe_aload_n dX10_expression_245 rfl ?_
                  refine xe_getP dX10_expression_246 flX10_20 (st124 hs) (by decide) rfl (sp124_5 hs) ?_
                  refine xe_aload_n dX10_expression_249 rfl ?_
                  refine xe_getIv dX10_expression_250 flX10_201 (st124 hs) (by decide) rfl (v := nI t) (h11) ?_
                  refine xn_ialdv dX10_expression_253 (st127 hs) (by omega) (by decide) (v := nI 8) ((by rw [z3, hk])) ?_
                  refine xn_iast dX10_expression_254 (st151 hs) (by omega) (by decide) ?_
                  refine xe_aload_n dX10_expression_255 rfl ?_
                  refine xe_dup dX10_expression_256 rfl ?_
                  refine xe_getIv dX10_expression_257 flX10_295 (st124 hs) (by decide) rfl (v := nI W.length) (h43) ?_
                  refine xe_iconst dX10_expression_260 kc_1 ?_
                  refine xn_iadd dX10_expression_261 ?_
                  refine xe_putI dX10_expression_262 flX10_295 (st124 hs) (by decide) rfl (Or.inl rfl) rfl rfl ?_
                  refine xe_aload_n dX10_expression_265 rfl ?_
                  refine xe_callVV (d' := 1) (y' := mX10_goesOn) dX10_expression_266 mlX10_219 mvX10_goesOn rfl (st124 hs) (by decide) rfl (by decide) (by decide) (Nat.le_of_ble_eq_true rfl) (c_X10_goesOn_f l g _ (by exact hs) (t := t) (by refine ⟨rt_Tc hR.1 ?_ ?_ ?_ ?_, hR.2.1, ?_, ?_⟩ <;> first | exact rfl | exact h11 | exact h13) (by omega)) rfl ?_
                  refine xe_goto (tgt := 12) dX10_expression_269 rfl ?_
                  refine xe_iload_n dX10_expression_12 rfl ?_
                  refine xn_if_eq (tgt := 272) dX10_expression_13 rfl (by omega) (fun c7 => ?_) (fun c7 => ?_)
                  · omega
                  · refine xe_aload_n dX10_expression_16 rfl ?_
                    refine xe_getIv dX10_expression_17 flX10_198 (st124 hs) (by decide) rfl (v := nI 2) (rfl) ?_
                    refine xn_if_ne (tgt := 272) dX10_expression_20 rfl (by omega) (fun c8 => ?_) (fun c8 => ?_)
                    · refine xe_return dX10_expression_272 rfl ?_
                      exact K0 (2, t) _ rfl (xs_bad (e := (2, t)) a (by simp only [List.length_append] at hbd ⊢; omega) rfl (fun r a1 a2 => (q_Ine a1).trans ((q_Ine a1).trans (q_Ine a2))) (fun k a1 a2 a3 a4 a5 => (pk_un a4).trans ((pk_un a3).trans (pk_un a5))) rfl rfl (show 1 ≤ 2 by decide) (show 2 ≤ 5 by decide) h11 (by omega))
                    · omega
                · omega
            · omega
          · omega
        · omega
      · rw [if_neg h400] at K1 K0
        have hgo := rt_go hR.1 htm (by omega) (by omega)
        have l9 : (ms ++ as).length = ms.length + as.length := List.length_append
        have l10 : (ms ++ as ++ W).length = ms.length + as.length + W.length := by rw [List.length_append, List.length_append]
        refine xe_aload_n dX10_expression_96 rfl ?_
        refine xe_bipush dX10_expression_97 kb_7 ?_
        refine xe_callVI (d' := 0) (y' := mX10_is) dX10_expression_99 mlX10_216 mvX10_is rfl (st124 hs) (by decide) rfl (by decide) (by decide) (Nat.le_of_ble_eq_true rfl) (c_X10_is_0 l g _ (by exact hs) hR (by decide) (by omega)) rfl ?_
        refine xn_if_eq (tgt := 145) dX10_expression_102 rfl (by omega) (fun c1 => ?_) (fun c1 => ?_)
        · refine xe_aload_n dX10_expression_145 rfl ?_
          refine xe_bipush dX10_expression_146 kb_8 ?_
          refine xe_callVI (d' := 0) (y' := mX10_is) dX10_expression_148 mlX10_216 mvX10_is rfl (st124 hs) (by decide) rfl (by decide) (by decide) (Nat.le_of_ble_eq_true rfl) (c_X10_is_1 l g _ (by exact hs) hR hk) rfl ?_
          refine xn_if_ne (tgt := 181) dX10_expression_151 rfl (by omega) (fun c2 => ?_) (fun c2 => ?_)
          · refine xe_iconst dX10_expression_181 kc_1 ?_
            refine xe_goto (tgt := 186) dX10_expression_182 rfl ?_
            refine xe_istore_n (i := 2) dX10_expression_186 rfl (by decide) rfl ?_
            refine xe_iload_n dX10_expression_187 rfl ?_
            refine xn_if_ne (tgt := 210) dX10_expression_188 rfl (by omega) (fun c3 => ?_) (fun c3 => ?_)
            · refine xe_aload_n dX10_expression_210 rfl ?_
              refine xe_aload_n dX10_expression_211 rfl ?_
              refine xe_bipush dX10_expression_212 kb_10 ?_
              refine xe_callVI (d' := 0) (y' := mX10_is) dX10_expression_214 mlX10_216 mvX10_is rfl (st124 hs) (by decide) rfl (by decide) (by decide) (Nat.le_of_ble_eq_true rfl) (c_X10_is_0 l g _ (by exact hs) hR (by decide) (by omega)) rfl ?_
              refine xn_if_ne (tgt := 229) dX10_expression_217 rfl (by omega) (fun c4 => ?_) (fun c4 => ?_)
              · omega
              · refine xe_aload_n dX10_expression_220 rfl ?_
                refine xe_bipush dX10_expression_221 kb_15 ?_
                refine xe_callVI (d' := 0) (y' := mX10_is) dX10_expression_223 mlX10_216 mvX10_is rfl (st124 hs) (by decide) rfl (by decide) (by decide) (Nat.le_of_ble_eq_true rfl) (c_X10_is_0 l g _ (by exact hs) hR (by decide) (by omega)) rfl ?_
                refine xn_if_eq (tgt := 233) dX10_expression_226 rfl (by omega) (fun c5 => ?_) (fun c5 => ?_)
                · refine xe_iconst dX10_expression_233 kc_0 ?_
                  refine xe_callVVq (d' := 1) (y' := mX10_comesOut) dX10_expression_234 mlX10_304 mvX10_comesOut rfl (st124 hs) (by decide) rfl (by decide) (by decide) (Nat.le_of_ble_eq_true rfl) (c_X10_comesOut l g _ hs (s := 0) (P := (ms ++ as)) (w := W) (by decide) (q_pop0 hms has) hst (by exact (by rw [List.append_assoc]; exact h43)) (by exact (by rw [List.append_assoc]; exact h151)) (by omega) h39 (by omega)) rfl (fun hc6 hc6q => ?_)
                  have a := xs_ce (W1 := W) a hc6q (q_wk_tl (P := ms ++ as) (by rw [List.append_assoc]; exact h151)) (by have : (q_emo (ms ++ as)).length = (ms ++ as).length := List.length_map _; have l9 : (ms ++ as).length = ms.length + as.length := List.length_append; omega) (by have : (q_emo (ms ++ as)).length = (ms ++ as).length := List.length_map _; have l9 : (ms ++ as).length = ms.length + as.length := List.length_append; omega)
                  have hs := xs_s b a
                  have hR := xs_R b a
                  have h11 := a.2.2.2.2.1
                  have h12 := a.2.2.2.2.2.1
                  have h13 := hR.2.2.2
                  have h39 := a.2.2.2.2.2.2.2.2.1
                  have h43 := a.2.2.2.2.2.2.1
                  have h151 := a.2.2.2.2.2.2.2.1
                  have hbd := a.2.2.2.2.2.2.2.2.2.2.2
                  obtain ⟨z1, z2, z3, z4, z5, z6⟩ := hR.1.2.2 t hR.2.1
                  refine xe_aload_n dX10_expression_237 rfl ?_
                  refine xe_getP dX10_expression_238 flX10_98 (st124 hs) (by decide) rfl (sp124_42 hs) ?_
                  refine xe_aload_n dX10_expression_241 rfl ?_
                  refine xe_getIv dX10_expression_242 flX10_295 (st124 hs) (by decide) rfl (v := nI W.length) (h43) ?_
                  refine xe_aload_n dX10_expression_245 rfl ?_
                  refine xe_getP dX10_expression_246 flX10_20 (st124 hs) (by decide) rfl (sp124_5 hs) ?_
                  refine xe_aload_n dX10_expression_249 rfl ?_
                  refine xe_getIv dX10_expression_250 flX10_201 (st124 hs) (by decide) rfl (v := nI t) (h11) ?_
                  refine xn_ialdv dX10_expression_253 (st127 hs) (by omega) (by decide) (v := nI 8) ((by rw [z3, hk])) ?_
                  refine xn_iast dX10_expression_254 (st151 hs) (by omega) (by decide) ?_
                  refine xe_aload_n dX10_expression_255 rfl ?_
                  refine xe_dup dX10_expression_256 rfl ?_
                  refine xe_getIv dX10_expression_257 flX10_295 (st124 hs) (by decide) rfl (v := nI W.length) (h43) ?_
                  refine xe_iconst dX10_expression_260 kc_1 ?_
                  refine xn_iadd dX10_expression_261 ?_
                  refine xe_putI dX10_expression_262 flX10_295 (st124 hs) (by decide) rfl (Or.inl rfl) rfl rfl ?_
                  refine xe_aload_n dX10_expression_265 rfl ?_
                  refine xe_callVV (d' := 1) (y' := mX10_goesOn) dX10_expression_266 mlX10_219 mvX10_goesOn rfl (st124 hs) (by decide) rfl (by decide) (by decide) (Nat.le_of_ble_eq_true rfl) (c_X10_goesOn_t l g _ (by exact hs) (t := t) (by exact h11) (by omega)) rfl ?_
                  refine xe_goto (tgt := 12) dX10_expression_269 rfl ?_
                  refine xe_iload_n dX10_expression_12 rfl ?_
                  refine xn_if_eq (tgt := 272) dX10_expression_13 rfl (by omega) (fun c7 => ?_) (fun c7 => ?_)
                  · omega
                  · refine xe_aload_n dX10_expression_16 rfl ?_
                    refine xe_getIv dX10_expression_17 flX10_198 (st124 hs) (by decide) rfl (v := nI 0) (h13) ?_
                    refine xn_if_ne (tgt := 272) dX10_expression_20 rfl (by omega) (fun c8 => ?_) (fun c8 => ?_)
                    · omega
                    · refine xe_locals (L' := [(0, .ref 124), (1, .int (nI 0)), (2, .int (nI 1))]) (And.intro rfl (And.intro rfl (And.intro rfl trivial))) ?_
                      refine hU dp (t + 1) (8 :: W) (cp ++ kc ++ q_emo (ms ++ as)) _ Q hdk (by exact xs_mv (t1 := t + 1) (dp1 := dp) (W1 := 8 :: W) a rfl (fun r a1 a2 => (q_Ine a1).trans ((q_Ine a1).trans (q_Ine a2))) (fun k a1 a2 a3 => (pk_un a1).trans (pk_un a3)) hgo rfl h12 rfl ⟨pk_us, q_wk_up h151 (Nat.le_refl _)⟩ (by show _ + (1 + q_ops W) + 401 ≤ _; omega)) (by show W.length + 1 ≤ _; omega) (q_s6_c (by decide) h6) (fun x h' hx xa => ?_) (fun er h' hx xb => K0 er h' (by unfold tx_seq; rw [hx]; rfl) xb)
                      have hg := hG _ _ hx
                      have hsq : tx_seq (tk_T K) 10 15 U (t + 1) = tx_pl (tk_T K) 10 15 U 401 x.1 x.2 := by
                        unfold tx_seq
                        rw [hx]
                        rfl
                      rw [hsq] at K1 K0
                      have e0 : x.1 ++ q_emo [] = x.1 := List.append_nil _
                      refine ex_pl l g b hU hG 401 dp x.2 W [8] [] (cp ++ kc ++ q_emo (ms ++ as)) x.1 h' Q hdk xa hW hst h6 ⟨by decide, fun y hy => by rw [List.mem_singleton] at hy; omega⟩ ⟨by decide, fun y hy => absurd hy List.not_mem_nil⟩ (by omega) (fun kc' ms' y h2 hy hy1 hy2 hy3 hy4 => ?_) (fun er h2 hy hb => K0 er h2 (by rw [e0] at hy; rw [hy]; rfl) hb)
                      rw [e0] at hy
                      rw [hy] at K1 K0
                      have hyl := (tx_pl_ok (tx_good_a hG) 401 x.1 x.2 y (tx_ok_up hg (Nat.le_succ _)) hy).1
                      have em1 : q_emo (ms ++ as) = q_emo ms ++ q_emo as := List.map_append
                      refine ih dp y.2 W [8] ms' cp (kc ++ q_emo ms ++ q_emo as ++ kc') h2 Q hdk (by rw [em1] at hy3; simpa only [List.append_assoc] using hy3) hW hst h6 ⟨by decide, fun z hz => by rw [List.mem_singleton] at hz; omega⟩ hy2 hy4 (by omega) (fun c9 as9 ms9 z h3 hz => K1 c9 as9 ms9 z h3 ?_) (fun er h3 hz => K0 er h3 ?_)
                      · show tx_pl (tk_T K) 8 9 (tx_seq (tk_T K) 10 15 U) f (kc ++ q_emo ms ++ q_emo as ++ y.1 ++ [(tx_op (tk_T K t), nI 0)]) y.2 = .inr z
                        rw [hk, hy1]
                        simpa only [List.append_assoc, show q_emo [8] = [(tx_op 8, nI 0)] from rfl] using hz
                      · show tx_pl (tk_T K) 8 9 (tx_seq (tk_T K) 10 15 U) f (kc ++ q_emo ms ++ q_emo as ++ y.1 ++ [(tx_op (tk_T K t), nI 0)]) y.2 = .inl er
                        rw [hk, hy1]
                        simpa only [List.append_assoc, show q_emo [8] = [(tx_op 8, nI 0)] from rfl] using hz
                · omega
            · omega
          · omega
        · omega
    by_cases hk9 : tk_T K t = 9
    · have hk := hk9
      rw [if_pos (Or.inr hk9)] at K1 K0
      by_cases h400 : 400 ≤ t
      · rw [if_pos h400] at K0
        have l9 : (ms ++ as).length = ms.length + as.length := List.length_append
        have l10 : (ms ++ as ++ W).length = ms.length + as.length + W.length := by rw [List.length_append, List.length_append]
        refine xe_aload_n dX10_expression_96 rfl ?_
        refine xe_bipush dX10_expression_97 kb_7 ?_
        refine xe_callVI (d' := 0) (y' := mX10_is) dX10_expression_99 mlX10_216 mvX10_is rfl (st124 hs) (by decide) rfl (by decide) (by decide) (Nat.le_of_ble_eq_true rfl) (c_X10_is_0 l g _ (by exact hs) hR (by decide) (by omega)) rfl ?_
        refine xn_if_eq (tgt := 145) dX10_expression_102 rfl (by omega) (fun c1 => ?_) (fun c1 => ?_)
        · refine xe_aload_n dX10_expression_145 rfl ?_
          refine xe_bipush dX10_expression_146 kb_8 ?_
          refine xe_callVI (d' := 0) (y' := mX10_is) dX10_expression_148 mlX10_216 mvX10_is rfl (st124 hs) (by decide) rfl (by decide) (by decide) (Nat.le_of_ble_eq_true rfl) (c_X10_is_0 l g _ (by exact hs) hR (by decide) (by omega)) rfl ?_
          refine xn_if_ne (tgt := 181) dX10_expression_151 rfl (by omega) (fun c2 => ?_) (fun c2 => ?_)
          · omega
          · refine xe_aload_n dX10_expression_154 rfl ?_
            refine xe_bipush dX10_expression_155 kb_9 ?_
            refine xe_callVI (d' := 0) (y' := mX10_is) dX10_expression_157 mlX10_216 mvX10_is rfl (st124 hs) (by decide) rfl (by decide) (by decide) (Nat.le_of_ble_eq_true rfl) (c_X10_is_1 l g _ (by exact hs) hR hk) rfl ?_
            refine xn_if_ne (tgt := 181) dX10_expression_160 rfl (by omega) (fun c3 => ?_) (fun c3 => ?_)
            · refine xe_iconst dX10_expression_181 kc_1 ?_
              refine xe_goto (tgt := 186) dX10_expression_182 rfl ?_
              refine xe_istore_n (i := 2) dX10_expression_186 rfl (by decide) rfl ?_
              refine xe_iload_n dX10_expression_187 rfl ?_
              refine xn_if_ne (tgt := 210) dX10_expression_188 rfl (by omega) (fun c4 => ?_) (fun c4 => ?_)
              · refine xe_aload_n dX10_expression_210 rfl ?_
                refine xe_aload_n dX10_expression_211 rfl ?_
                refine xe_bipush dX10_expression_212 kb_10 ?_
                refine xe_callVI (d' := 0) (y' := mX10_is) dX10_expression_214 mlX10_216 mvX10_is rfl (st124 hs) (by decide) rfl (by decide) (by decide) (Nat.le_of_ble_eq_true rfl) (c_X10_is_0 l g _ (by exact hs) hR (by decide) (by omega)) rfl ?_
                refine xn_if_ne (tgt := 229) dX10_expression_217 rfl (by omega) (fun c5 => ?_) (fun c5 => ?_)
                · omega
                · refine xe_aload_n dX10_expression_220 rfl ?_
                  refine xe_bipush dX10_expression_221 kb_15 ?_
                  refine xe_callVI (d' := 0) (y' := mX10_is) dX10_expression_223 mlX10_216 mvX10_is rfl (st124 hs) (by decide) rfl (by decide) (by decide) (Nat.le_of_ble_eq_true rfl) (c_X10_is_0 l g _ (by exact hs) hR (by decide) (by omega)) rfl ?_
                  refine xn_if_eq (tgt := 233) dX10_expression_226 rfl (by omega) (fun c6 => ?_) (fun c6 => ?_)
                  · refine xe_iconst dX10_expression_233 kc_0 ?_
                    refine xe_callVVq (d' := 1) (y' := mX10_comesOut) dX10_expression_234 mlX10_304 mvX10_comesOut rfl (st124 hs) (by decide) rfl (by decide) (by decide) (Nat.le_of_ble_eq_true rfl) (c_X10_comesOut l g _ hs (s := 0) (P := (ms ++ as)) (w := W) (by decide) (q_pop0 hms has) hst (by exact (by rw [List.append_assoc]; exact h43)) (by exact (by rw [List.append_assoc]; exact h151)) (by omega) h39 (by omega)) rfl (fun hc7 hc7q => ?_)
                    have a := xs_ce (W1 := W) a hc7q (q_wk_tl (P := ms ++ as) (by rw [List.append_assoc]; exact h151)) (by have : (q_emo (ms ++ as)).length = (ms ++ as).length := List.length_map _; have l9 : (ms ++ as).length = ms.length + as.length := List.length_append; omega) (by have : (q_emo (ms ++ as)).length = (ms ++ as).length := List.length_map _; have l9 : (ms ++ as).length = ms.length + as.length := List.length_append; omega)
                    have hs := xs_s b a
                    have hR := xs_R b a
                    have h11 := a.2.2.2.2.1
                    have h12 := a.2.2.2.2.2.1
                    have h13 := hR.2.2.2
                    have h39 := a.2.2.2.2.2.2.2.2.1
                    have h43 := a.2.2.2.2.2.2.1
                    have h151 := a.2.2.2.2.2.2.2.1
                    have hbd := a.2.2.2.2.2.2.2.2.2.2.2
                    obtain ⟨z1, z2, z3, z4, z5, z6⟩ := hR.1.2.2 t hR.2.1
                    refine xe_aload_n dX10_expression_237 rfl ?_
                    refine xe_getP dX10_expression_238 flX10_98 (st124 hs) (by decide) rfl (sp124_42 hs) ?_
                    refine xe_aload_n dX10_expression_241 rfl ?_
                    refine xe_getIv dX10_expression_242 flX10_295 (st124 hs) (by decide) rfl (v := nI W.length) (h43) ?_
                    refine xe_aload_n dX10_expression_245 rfl ?_
                    refine xe_getP dX10_expression_246 flX10_20 (st124 hs) (by decide) rfl (sp124_5 hs) ?_
                    refine xe_aload_n dX10_expression_249 rfl ?_
                    refine xe_getIv dX10_expression_250 flX10_201 (st124 hs) (by decide) rfl (v := nI t) (h11) ?_
                    refine xn_ialdv dX10_expression_253 (st127 hs) (by omega) (by decide) (v := nI 9) ((by rw [z3, hk])) ?_
                    refine xn_iast dX10_expression_254 (st151 hs) (by omega) (by decide) ?_
                    refine xe_aload_n dX10_expression_255 rfl ?_
                    refine xe_dup dX10_expression_256 rfl ?_
                    refine xe_getIv dX10_expression_257 flX10_295 (st124 hs) (by decide) rfl (v := nI W.length) (h43) ?_
                    refine xe_iconst dX10_expression_260 kc_1 ?_
                    refine xn_iadd dX10_expression_261 ?_
                    refine xe_putI dX10_expression_262 flX10_295 (st124 hs) (by decide) rfl (Or.inl rfl) rfl rfl ?_
                    refine xe_aload_n dX10_expression_265 rfl ?_
                    refine xe_callVV (d' := 1) (y' := mX10_goesOn) dX10_expression_266 mlX10_219 mvX10_goesOn rfl (st124 hs) (by decide) rfl (by decide) (by decide) (Nat.le_of_ble_eq_true rfl) (c_X10_goesOn_f l g _ (by exact hs) (t := t) (by refine ⟨rt_Tc hR.1 ?_ ?_ ?_ ?_, hR.2.1, ?_, ?_⟩ <;> first | exact rfl | exact h11 | exact h13) (by omega)) rfl ?_
                    refine xe_goto (tgt := 12) dX10_expression_269 rfl ?_
                    refine xe_iload_n dX10_expression_12 rfl ?_
                    refine xn_if_eq (tgt := 272) dX10_expression_13 rfl (by omega) (fun c8 => ?_) (fun c8 => ?_)
                    · omega
                    · refine xe_aload_n dX10_expression_16 rfl ?_
                      refine xe_getIv dX10_expression_17 flX10_198 (st124 hs) (by decide) rfl (v := nI 2) (rfl) ?_
                      refine xn_if_ne (tgt := 272) dX10_expression_20 rfl (by omega) (fun c9 => ?_) (fun c9 => ?_)
                      · refine xe_return dX10_expression_272 rfl ?_
                        exact K0 (2, t) _ rfl (xs_bad (e := (2, t)) a (by simp only [List.length_append] at hbd ⊢; omega) rfl (fun r a1 a2 => (q_Ine a1).trans ((q_Ine a1).trans (q_Ine a2))) (fun k a1 a2 a3 a4 a5 => (pk_un a4).trans ((pk_un a3).trans (pk_un a5))) rfl rfl (show 1 ≤ 2 by decide) (show 2 ≤ 5 by decide) h11 (by omega))
                      · omega
                  · omega
              · omega
            · omega
        · omega
      · rw [if_neg h400] at K1 K0
        have hgo := rt_go hR.1 htm (by omega) (by omega)
        have l9 : (ms ++ as).length = ms.length + as.length := List.length_append
        have l10 : (ms ++ as ++ W).length = ms.length + as.length + W.length := by rw [List.length_append, List.length_append]
        refine xe_aload_n dX10_expression_96 rfl ?_
        refine xe_bipush dX10_expression_97 kb_7 ?_
        refine xe_callVI (d' := 0) (y' := mX10_is) dX10_expression_99 mlX10_216 mvX10_is rfl (st124 hs) (by decide) rfl (by decide) (by decide) (Nat.le_of_ble_eq_true rfl) (c_X10_is_0 l g _ (by exact hs) hR (by decide) (by omega)) rfl ?_
        refine xn_if_eq (tgt := 145) dX10_expression_102 rfl (by omega) (fun c1 => ?_) (fun c1 => ?_)
        · refine xe_aload_n dX10_expression_145 rfl ?_
          refine xe_bipush dX10_expression_146 kb_8 ?_
          refine xe_callVI (d' := 0) (y' := mX10_is) dX10_expression_148 mlX10_216 mvX10_is rfl (st124 hs) (by decide) rfl (by decide) (by decide) (Nat.le_of_ble_eq_true rfl) (c_X10_is_0 l g _ (by exact hs) hR (by decide) (by omega)) rfl ?_
          refine xn_if_ne (tgt := 181) dX10_expression_151 rfl (by omega) (fun c2 => ?_) (fun c2 => ?_)
          · omega
          · refine xe_aload_n dX10_expression_154 rfl ?_
            refine xe_bipush dX10_expression_155 kb_9 ?_
            refine xe_callVI (d' := 0) (y' := mX10_is) dX10_expression_157 mlX10_216 mvX10_is rfl (st124 hs) (by decide) rfl (by decide) (by decide) (Nat.le_of_ble_eq_true rfl) (c_X10_is_1 l g _ (by exact hs) hR hk) rfl ?_
            refine xn_if_ne (tgt := 181) dX10_expression_160 rfl (by omega) (fun c3 => ?_) (fun c3 => ?_)
            · refine xe_iconst dX10_expression_181 kc_1 ?_
              refine xe_goto (tgt := 186) dX10_expression_182 rfl ?_
              refine xe_istore_n (i := 2) dX10_expression_186 rfl (by decide) rfl ?_
              refine xe_iload_n dX10_expression_187 rfl ?_
              refine xn_if_ne (tgt := 210) dX10_expression_188 rfl (by omega) (fun c4 => ?_) (fun c4 => ?_)
              · refine xe_aload_n dX10_expression_210 rfl ?_
                refine xe_aload_n dX10_expression_211 rfl ?_
                refine xe_bipush dX10_expression_212 kb_10 ?_
                refine xe_callVI (d' := 0) (y' := mX10_is) dX10_expression_214 mlX10_216 mvX10_is rfl (st124 hs) (by decide) rfl (by decide) (by decide) (Nat.le_of_ble_eq_true rfl) (c_X10_is_0 l g _ (by exact hs) hR (by decide) (by omega)) rfl ?_
                refine xn_if_ne (tgt := 229) dX10_expression_217 rfl (by omega) (fun c5 => ?_) (fun c5 => ?_)
                · omega
                · refine xe_aload_n dX10_expression_220 rfl ?_
                  refine xe_bipush dX10_expression_221 kb_15 ?_
                  refine xe_callVI (d' := 0) (y' := mX10_is) dX10_expression_223 mlX10_216 mvX10_is rfl (st124 hs) (by decide) rfl (by decide) (by decide) (Nat.le_of_ble_eq_true rfl) (c_X10_is_0 l g _ (by exact hs) hR (by decide) (by omega)) rfl ?_
                  refine xn_if_eq (tgt := 233) dX10_expression_226 rfl (by omega) (fun c6 => ?_) (fun c6 => ?_)
                  · refine xe_iconst dX10_expression_233 kc_0 ?_
                    refine xe_callVVq (d' := 1) (y' := mX10_comesOut) dX10_expression_234 mlX10_304 mvX10_comesOut rfl (st124 hs) (by decide) rfl (by decide) (by decide) (Nat.le_of_ble_eq_true rfl) (c_X10_comesOut l g _ hs (s := 0) (P := (ms ++ as)) (w := W) (by decide) (q_pop0 hms has) hst (by exact (by rw [List.append_assoc]; exact h43)) (by exact (by rw [List.append_assoc]; exact h151)) (by omega) h39 (by omega)) rfl (fun hc7 hc7q => ?_)
                    have a := xs_ce (W1 := W) a hc7q (q_wk_tl (P := ms ++ as) (by rw [List.append_assoc]; exact h151)) (by have : (q_emo (ms ++ as)).length = (ms ++ as).length := List.length_map _; have l9 : (ms ++ as).length = ms.length + as.length := List.length_append; omega) (by have : (q_emo (ms ++ as)).length = (ms ++ as).length := List.length_map _; have l9 : (ms ++ as).length = ms.length + as.length := List.length_append; omega)
                    have hs := xs_s b a
                    have hR := xs_R b a
                    have h11 := a.2.2.2.2.1
                    have h12 := a.2.2.2.2.2.1
                    have h13 := hR.2.2.2
                    have h39 := a.2.2.2.2.2.2.2.2.1
                    have h43 := a.2.2.2.2.2.2.1
                    have h151 := a.2.2.2.2.2.2.2.1
                    have hbd := a.2.2.2.2.2.2.2.2.2.2.2
                    obtain ⟨z1, z2, z3, z4, z5, z6⟩ := hR.1.2.2 t hR.2.1
                    refine xe_aload_n dX10_expression_237 rfl ?_
                    refine xe_getP dX10_expression_238 flX10_98 (st124 hs) (by decide) rfl (sp124_42 hs) ?_
                    refine xe_aload_n dX10_expression_241 rfl ?_
                    refine xe_getIv dX10_expression_242 flX10_295 (st124 hs) (by decide) rfl (v := nI W.length) (h43) ?_
                    refine xe_aload_n dX10_expression_245 rfl ?_
                    refine xe_getP dX10_expression_246 flX10_20 (st124 hs) (by decide) rfl (sp124_5 hs) ?_
                    refine xe_aload_n dX10_expression_249 rfl ?_
                    refine xe_getIv dX10_expression_250 flX10_201 (st124 hs) (by decide) rfl (v := nI t) (h11) ?_
                    refine xn_ialdv dX10_expression_253 (st127 hs) (by omega) (by decide) (v := nI 9) ((by rw [z3, hk])) ?_
                    refine xn_iast dX10_expression_254 (st151 hs) (by omega) (by decide) ?_
                    refine xe_aload_n dX10_expression_255 rfl ?_
                    refine xe_dup dX10_expression_256 rfl ?_
                    refine xe_getIv dX10_expression_257 flX10_295 (st124 hs) (by decide) rfl (v := nI W.length) (h43) ?_
                    refine xe_iconst dX10_expression_260 kc_1 ?_
                    refine xn_iadd dX10_expression_261 ?_
                    refine xe_putI dX10_expression_262 flX10_295 (st124 hs) (by decide) rfl (Or.inl rfl) rfl rfl ?_
                    refine xe_aload_n dX10_expression_265 rfl ?_
                    refine xe_callVV (d' := 1) (y' := mX10_goesOn) dX10_expression_266 mlX10_219 mvX10_goesOn rfl (st124 hs) (by decide) rfl (by decide) (by decide) (Nat.le_of_ble_eq_true rfl) (c_X10_goesOn_t l g _ (by exact hs) (t := t) (by exact h11) (by omega)) rfl ?_
                    refine xe_goto (tgt := 12) dX10_expression_269 rfl ?_
                    refine xe_iload_n dX10_expression_12 rfl ?_
                    refine xn_if_eq (tgt := 272) dX10_expression_13 rfl (by omega) (fun c8 => ?_) (fun c8 => ?_)
                    · omega
                    · refine xe_aload_n dX10_expression_16 rfl ?_
                      refine xe_getIv dX10_expression_17 flX10_198 (st124 hs) (by decide) rfl (v := nI 0) (h13) ?_
                      refine xn_if_ne (tgt := 272) dX10_expression_20 rfl (by omega) (fun c9 => ?_) (fun c9 => ?_)
                      · omega
                      · refine xe_locals (L' := [(0, .ref 124), (1, .int (nI 0)), (2, .int (nI 1))]) (And.intro rfl (And.intro rfl (And.intro rfl trivial))) ?_
                        refine hU dp (t + 1) (9 :: W) (cp ++ kc ++ q_emo (ms ++ as)) _ Q hdk (by exact xs_mv (t1 := t + 1) (dp1 := dp) (W1 := 9 :: W) a rfl (fun r a1 a2 => (q_Ine a1).trans ((q_Ine a1).trans (q_Ine a2))) (fun k a1 a2 a3 => (pk_un a1).trans (pk_un a3)) hgo rfl h12 rfl ⟨pk_us, q_wk_up h151 (Nat.le_refl _)⟩ (by show _ + (1 + q_ops W) + 401 ≤ _; omega)) (by show W.length + 1 ≤ _; omega) (q_s6_c (by decide) h6) (fun x h' hx xa => ?_) (fun er h' hx xb => K0 er h' (by unfold tx_seq; rw [hx]; rfl) xb)
                        have hg := hG _ _ hx
                        have hsq : tx_seq (tk_T K) 10 15 U (t + 1) = tx_pl (tk_T K) 10 15 U 401 x.1 x.2 := by
                          unfold tx_seq
                          rw [hx]
                          rfl
                        rw [hsq] at K1 K0
                        have e0 : x.1 ++ q_emo [] = x.1 := List.append_nil _
                        refine ex_pl l g b hU hG 401 dp x.2 W [9] [] (cp ++ kc ++ q_emo (ms ++ as)) x.1 h' Q hdk xa hW hst h6 ⟨by decide, fun y hy => by rw [List.mem_singleton] at hy; omega⟩ ⟨by decide, fun y hy => absurd hy List.not_mem_nil⟩ (by omega) (fun kc' ms' y h2 hy hy1 hy2 hy3 hy4 => ?_) (fun er h2 hy hb => K0 er h2 (by rw [e0] at hy; rw [hy]; rfl) hb)
                        rw [e0] at hy
                        rw [hy] at K1 K0
                        have hyl := (tx_pl_ok (tx_good_a hG) 401 x.1 x.2 y (tx_ok_up hg (Nat.le_succ _)) hy).1
                        have em1 : q_emo (ms ++ as) = q_emo ms ++ q_emo as := List.map_append
                        refine ih dp y.2 W [9] ms' cp (kc ++ q_emo ms ++ q_emo as ++ kc') h2 Q hdk (by rw [em1] at hy3; simpa only [List.append_assoc] using hy3) hW hst h6 ⟨by decide, fun z hz => by rw [List.mem_singleton] at hz; omega⟩ hy2 hy4 (by omega) (fun c9 as9 ms9 z h3 hz => K1 c9 as9 ms9 z h3 ?_) (fun er h3 hz => K0 er h3 ?_)
                        · show tx_pl (tk_T K) 8 9 (tx_seq (tk_T K) 10 15 U) f (kc ++ q_emo ms ++ q_emo as ++ y.1 ++ [(tx_op (tk_T K t), nI 0)]) y.2 = .inr z
                          rw [hk, hy1]
                          simpa only [List.append_assoc, show q_emo [9] = [(tx_op 9, nI 0)] from rfl] using hz
                        · show tx_pl (tk_T K) 8 9 (tx_seq (tk_T K) 10 15 U) f (kc ++ q_emo ms ++ q_emo as ++ y.1 ++ [(tx_op (tk_T K t), nI 0)]) y.2 = .inl er
                          rw [hk, hy1]
                          simpa only [List.append_assoc, show q_emo [9] = [(tx_op 9, nI 0)] from rfl] using hz
                  · omega
              · omega
            · omega
        · omega
    have hno : ¬ (tk_T K t = 8 ∨ tk_T K t = 9) := fun q => q.elim hk8 hk9
    rw [if_neg hno] at K1
    exact K1 kc as ms _ h rfl rfl hms has a hnm hno
