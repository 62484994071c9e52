/-! the class: what is done -/
def rk_nd (h : q_H) (x s : Nat) (h1 : q_H) (da dv ap : Int32) : Prop := h1.2 = h.2 ∧ (∀ r, r ≠ 42 → r ≠ 44 + 2 * x → r ≠ 45 + 2 * x → q_I h1 r = q_I h r) ∧ q_I h1 42 1 = nI ((x + 1) % 25) ∧ q_I h1 42 2 = nI (if s < 25 then s + 1 else 25) ∧ rk_rec h h1 x da dv ap
def q_stl : List Nat := [20, 21, 32, 33, 34, 35, 36, 37, 38, 39]
/-- something is done: what stays, and what is kept -/
def rk_did (h : q_H) (x s : Nat) (h1 : q_H) (da dv ap : Int32) : Prop := h1.2 = h.2 ∧ (∀ r, q_stl.contains r = false → r ≠ 42 → r ≠ 44 + 2 * x → r ≠ 45 + 2 * x → q_I h1 r = q_I h r) ∧ q_I h1 42 1 = nI ((x + 1) % 25) ∧ q_I h1 42 2 = nI (if s < 25 then s + 1 else 25) ∧ rk_rec h h1 x da dv ap
theorem q_stl_f {r : Nat} (h : 40 ≤ r) : q_stl.contains r = false := by
  rw [← Bool.not_eq_true]
  intro q
  have := List.contains_iff_mem.mp q
  simp only [q_stl, List.mem_cons, List.not_mem_nil, or_false] at this
  omega
theorem rk_did_of {h hc h1 h2 : q_H} {x s : Nat} {da dv ap : Int32} (oc : q_out [20, 21, 32, 33] h hc) (k : rk_nd hc x s h1 da dv ap) (o : q_out q_stl h1 h2) : rk_did h x s h2 da dv ap := by
  obtain ⟨k1, k2, k3, k4, k5⟩ := k
  have e : ∀ r, 40 ≤ r → q_I h2 r = q_I h1 r := fun r hr => o.1 r (q_stl_f hr)
  refine ⟨o.2.trans (k1.trans oc.2), fun r a1 a2 a3 a4 => (o.1 r a1).trans ((k2 r a2 a3 a4).trans (oc.1 r ?_)), (congrFun (e 42 (by decide)) 1).trans k3, (congrFun (e 42 (by decide)) 2).trans k4, ?_⟩
  · rw [← Bool.not_eq_true] at a1 ⊢
    intro q
    have := List.contains_iff_mem.mp q
    refine a1 (List.contains_iff_mem.mpr ?_)
    simp only [List.mem_cons, List.not_mem_nil, or_false] at this
    simp only [q_stl, List.mem_cons, List.not_mem_nil, or_false]
    omega
  · obtain ⟨m1, m2, m3, m4, m5, m6⟩ := k5
    have c35 : q_I hc 35 = q_I h 35 := oc.1 35 rfl
    have c34 : q_I hc 34 = q_I h 34 := oc.1 34 rfl
    have e1 := e (44 + 2 * x) (by omega)
    refine ⟨fun k hk => (congrFun (e _ (by omega)) k).trans ((m1 k hk).trans (congrFun c35 k)), (congrFun e1 1).trans (m2.trans (congrFun c34 5)), (congrFun e1 2).trans (m3.trans (congrFun c34 6)), (congrFun e1 3).trans m4, (congrFun e1 4).trans m5, (congrFun e1 5).trans m6⟩
theorem rk_nd_debt {h h1 : q_H} {x s a : Nat} (k : rk_nd h x s h1 (-1) (nI 0) (-1)) (v : Int32) : rk_nd h x s (q_wI h1 (44 + 2 * x) (upd (upd (q_I h1 (44 + 2 * x)) 3 (nI a)) 4 v)) (nI a) v (-1) := by
  obtain ⟨k1, k2, k3, k4, m1, m2, m3, m4, m5, m6⟩ := k
  refine ⟨k1, fun r a1 a2 a3 => (q_Ine a2).trans (k2 r a1 a2 a3), (congrFun (q_Ine (by omega)) 1).trans k3, (congrFun (q_Ine (by omega)) 2).trans k4, fun k hk => (congrFun (q_Ine (by omega)) k).trans (m1 k hk), ?_, ?_, ?_, ?_, ?_⟩
  all_goals rw [q_Iw]
  · exact m2
  · exact m3
  · rfl
  · rfl
  · exact m6
theorem rk_nd_app {h h1 : q_H} {x s i : Nat} (k : rk_nd h x s h1 (-1) (nI 0) (-1)) : rk_nd h x s (q_wI h1 (44 + 2 * x) (upd (q_I h1 (44 + 2 * x)) 5 (nI i))) (-1) (nI 0) (nI i) := by
  obtain ⟨k1, k2, k3, k4, m1, m2, m3, m4, m5, m6⟩ := k
  refine ⟨k1, fun r a1 a2 a3 => (q_Ine a2).trans (k2 r a1 a2 a3), (congrFun (q_Ine (by omega)) 1).trans k3, (congrFun (q_Ine (by omega)) 2).trans k4, fun k hk => (congrFun (q_Ine (by omega)) k).trans (m1 k hk), ?_, ?_, ?_, ?_, ?_⟩
  all_goals rw [q_Iw]
  · exact m2
  · exact m3
  · exact m4
  · exact m5
  · rfl
theorem rk_nd_r {h h1 : q_H} {x s : Nat} {da dv ap : Int32} (k : rk_nd h x s h1 da dv ap) {r : Nat} (h1' : r ≠ 42) (h2 : r < 44) : q_I h1 r = q_I h r := k.2.1 r h1' (by omega) (by omega)
theorem c_X9_hasRoom_t (l : Launch) (g : q_GP) (h : q_H) (hs : q_Stat h) {b : Nat} (hb : b < 9) {n : Int32} (hn : n ≤ nI 9999 - q_s8 (q_cr h) (8 * b)) : q_Cd l g 1 mX9_hasRoom [.ref 0, .int (nI b), .int n] h (some (.int (nI 1))) h := by
  refine q_CdV mvX9_hasRoom (Nat.le_of_ble_eq_true rfl) ?_
  refine xe_iload_n dX9_hasRoom_0 rfl ?_
  refine xe_sipush dX9_hasRoom_1 ks_9999 ?_
  refine xe_aload_n dX9_hasRoom_4 rfl ?_
  refine xe_getP dX9_hasRoom_5 flX9_36 (st0 hs) (by decide) rfl (sp0_4 hs) ?_
  refine xe_iload_n dX9_hasRoom_8 rfl ?_
  refine xe_callVI (d' := 0) (y' := mX6_inRow) dX9_hasRoom_9 mlX9_140 mvX6_inRow rfl (st34 hs) (by decide) rfl (by decide) (by decide) (Nat.le_of_ble_eq_true rfl) (c_X6_inRow l g _ (by exact hs) _ (by omega)) rfl ?_
  refine xe_top (v' := q_s8 (q_cr h) (8 * b)) (q_cr_in h (by omega)) ?_
  refine xe_isub dX9_hasRoom_12 ?_
  refine xe_icmp_gt (tgt := 20) dX9_hasRoom_13 rfl (fun c1 => ?_) (fun c1 => ?_)
  · exact absurd c1 (Int32.not_lt.mpr hn)
  · refine xe_iconst dX9_hasRoom_16 kc_1 ?_
    refine xe_goto (tgt := 21) dX9_hasRoom_17 rfl ?_
    refine xe_ireturn dX9_hasRoom_21 rfl (by first | rfl | decide +kernel) ?_
    exact ⟨rfl, rfl⟩
theorem c_X9_hasRoom_f (l : Launch) (g : q_GP) (h : q_H) (hs : q_Stat h) {b : Nat} (hb : b < 9) {n : Int32} (hn : ¬ n ≤ nI 9999 - q_s8 (q_cr h) (8 * b)) : q_Cd l g 1 mX9_hasRoom [.ref 0, .int (nI b), .int n] h (some (.int (nI 0))) h := by
  refine q_CdV mvX9_hasRoom (Nat.le_of_ble_eq_true rfl) ?_
  refine xe_iload_n dX9_hasRoom_0 rfl ?_
  refine xe_sipush dX9_hasRoom_1 ks_9999 ?_
  refine xe_aload_n dX9_hasRoom_4 rfl ?_
  refine xe_getP dX9_hasRoom_5 flX9_36 (st0 hs) (by decide) rfl (sp0_4 hs) ?_
  refine xe_iload_n dX9_hasRoom_8 rfl ?_
  refine xe_callVI (d' := 0) (y' := mX6_inRow) dX9_hasRoom_9 mlX9_140 mvX6_inRow rfl (st34 hs) (by decide) rfl (by decide) (by decide) (Nat.le_of_ble_eq_true rfl) (c_X6_inRow l g _ (by exact hs) _ (by omega)) rfl ?_
  refine xe_top (v' := q_s8 (q_cr h) (8 * b)) (q_cr_in h (by omega)) ?_
  refine xe_isub dX9_hasRoom_12 ?_
  refine xe_icmp_gt (tgt := 20) dX9_hasRoom_13 rfl (fun c1 => ?_) (fun c1 => ?_)
  · refine xe_iconst dX9_hasRoom_20 kc_0 ?_
    refine xe_ireturn dX9_hasRoom_21 rfl (by first | rfl | decide +kernel) ?_
    exact ⟨rfl, rfl⟩
  · exact absurd (Int32.not_lt.mp c1) hn
theorem c_X9_canStuff_t (l : Launch) (g : q_GP) (h : q_H) (hs : q_Stat h) {p nm nd nc mo n : Nat} (hp : rk_P h p nm nd nc mo n) {a b : Nat} (ha : a < nm) (hb : b < nm) (hab : ¬ a = b) {k : Int32} (hc : q_can (q_cr h) a b k) : q_Cd l g 2 mX9_canStuff [.ref 0, .int (nI a), .int (nI b), .int k] h (some (.int (nI 1))) h := by
  obtain ⟨P0, P1, P2, P2b, P3, P3b, P4, P4b, P5, P5b, P6, P6b⟩ := id hp
  rcases P1 with rfl | rfl
  · refine q_CdV mvX9_canStuff (Nat.le_of_ble_eq_true rfl) ?_
    refine xe_aload_n dX9_canStuff_0 rfl ?_
    refine xe_iload_n dX9_canStuff_1 rfl ?_
    refine xe_iload_n dX9_canStuff_2 rfl ?_
    refine xe_callVI (d' := 1) (y' := mX9_areTwoMen) dX9_canStuff_3 mlX9_167 mvX9_areTwoMen rfl (st0 hs) (by decide) rfl (by decide) (by decide) (Nat.le_of_ble_eq_true rfl) (c_X9_areTwoMen_t l g _ (by exact hs) (by exact hp) (by omega) (by omega) (by omega)) rfl ?_
    refine xn_if_eq (tgt := 39) dX9_canStuff_6 rfl (by omega) (fun c1 => ?_) (fun c1 => ?_)
    · omega
    · refine xe_iload_n dX9_canStuff_9 rfl ?_
      refine xe_iconst dX9_canStuff_10 kc_1 ?_
      refine xe_icmp_lt (tgt := 39) dX9_canStuff_11 rfl (fun c2 => ?_) (fun c2 => ?_)
      · exact absurd hc.1 (Int32.not_le.mpr c2)
      · refine xe_iload_n dX9_canStuff_14 rfl ?_
        refine xe_aload_n dX9_canStuff_15 rfl ?_
        refine xe_getP dX9_canStuff_16 flX9_36 (st0 hs) (by decide) rfl (sp0_4 hs) ?_
        refine xe_iload_n dX9_canStuff_19 rfl ?_
        refine xe_callVI (d' := 0) (y' := mX6_inRow) dX9_canStuff_20 mlX9_140 mvX6_inRow rfl (st34 hs) (by decide) rfl (by decide) (by decide) (Nat.le_of_ble_eq_true rfl) (c_X6_inRow l g _ (by exact hs) _ (by omega)) rfl ?_
        refine xe_top (v' := q_s8 (q_cr h) (8 * a)) (q_cr_in h (by omega)) ?_
        refine xe_icmp_gt (tgt := 39) dX9_canStuff_23 rfl (fun c3 => ?_) (fun c3 => ?_)
        · exact absurd hc.2.1 (Int32.not_le.mpr c3)
        · refine xe_aload_n dX9_canStuff_26 rfl ?_
          refine xe_iload_n dX9_canStuff_27 rfl ?_
          refine xe_iload_n dX9_canStuff_28 rfl ?_
          refine xe_callVI (d' := 1) (y' := mX9_hasRoom) dX9_canStuff_29 mlX9_269 mvX9_hasRoom rfl (st0 hs) (by decide) rfl (by decide) (by decide) (Nat.le_of_ble_eq_true rfl) (c_X9_hasRoom_t l g _ (by exact hs) (by omega) (hc.2.2)) rfl ?_
          refine xn_if_eq (tgt := 39) dX9_canStuff_32 rfl (by omega) (fun c4 => ?_) (fun c4 => ?_)
          · omega
          · refine xe_iconst dX9_canStuff_35 kc_1 ?_
            refine xe_goto (tgt := 40) dX9_canStuff_36 rfl ?_
            refine xe_ireturn dX9_canStuff_40 rfl (by first | rfl | decide +kernel) ?_
            exact ⟨rfl, rfl⟩
  · refine q_CdV mvX9_canStuff (Nat.le_of_ble_eq_true rfl) ?_
    refine xe_aload_n dX9_canStuff_0 rfl ?_
    refine xe_iload_n dX9_canStuff_1 rfl ?_
    refine xe_iload_n dX9_canStuff_2 rfl ?_
    refine xe_callVI (d' := 1) (y' := mX9_areTwoMen) dX9_canStuff_3 mlX9_167 mvX9_areTwoMen rfl (st0 hs) (by decide) rfl (by decide) (by decide) (Nat.le_of_ble_eq_true rfl) (c_X9_areTwoMen_t l g _ (by exact hs) (by exact hp) (by omega) (by omega) (by omega)) rfl ?_
    refine xn_if_eq (tgt := 39) dX9_canStuff_6 rfl (by omega) (fun c1 => ?_) (fun c1 => ?_)
    · omega
    · refine xe_iload_n dX9_canStuff_9 rfl ?_
      refine xe_iconst dX9_canStuff_10 kc_1 ?_
      refine xe_icmp_lt (tgt := 39) dX9_canStuff_11 rfl (fun c2 => ?_) (fun c2 => ?_)
      · exact absurd hc.1 (Int32.not_le.mpr c2)
      · refine xe_iload_n dX9_canStuff_14 rfl ?_
        refine xe_aload_n dX9_canStuff_15 rfl ?_
        refine xe_getP dX9_canStuff_16 flX9_36 (st0 hs) (by decide) rfl (sp0_4 hs) ?_
        refine xe_iload_n dX9_canStuff_19 rfl ?_
        refine xe_callVI (d' := 0) (y' := mX6_inRow) dX9_canStuff_20 mlX9_140 mvX6_inRow rfl (st34 hs) (by decide) rfl (by decide) (by decide) (Nat.le_of_ble_eq_true rfl) (c_X6_inRow l g _ (by exact hs) _ (by omega)) rfl ?_
        refine xe_top (v' := q_s8 (q_cr h) (8 * a)) (q_cr_in h (by omega)) ?_
        refine xe_icmp_gt (tgt := 39) dX9_canStuff_23 rfl (fun c3 => ?_) (fun c3 => ?_)
        · exact absurd hc.2.1 (Int32.not_le.mpr c3)
        · refine xe_aload_n dX9_canStuff_26 rfl ?_
          refine xe_iload_n dX9_canStuff_27 rfl ?_
          refine xe_iload_n dX9_canStuff_28 rfl ?_
          refine xe_callVI (d' := 1) (y' := mX9_hasRoom) dX9_canStuff_29 mlX9_269 mvX9_hasRoom rfl (st0 hs) (by decide) rfl (by decide) (by decide) (Nat.le_of_ble_eq_true rfl) (c_X9_hasRoom_t l g _ (by exact hs) (by omega) (hc.2.2)) rfl ?_
          refine xn_if_eq (tgt := 39) dX9_canStuff_32 rfl (by omega) (fun c4 => ?_) (fun c4 => ?_)
          · omega
          · refine xe_iconst dX9_canStuff_35 kc_1 ?_
            refine xe_goto (tgt := 40) dX9_canStuff_36 rfl ?_
            refine xe_ireturn dX9_canStuff_40 rfl (by first | rfl | decide +kernel) ?_
            exact ⟨rfl, rfl⟩
theorem c_X9_canStuff_n (l : Launch) (g : q_GP) (h : q_H) (hs : q_Stat h) {p nm nd nc mo n : Nat} (hp : rk_P h p nm nd nc mo n) {a b : Nat} (ha : a < nm) (hb : b < nm) (hab : ¬ a = b) {k : Int32} (hc : ¬ q_can (q_cr h) a b k) : q_Cd l g 2 mX9_canStuff [.ref 0, .int (nI a), .int (nI b), .int k] h (some (.int (nI 0))) h := by
  obtain ⟨P0, P1, P2, P2b, P3, P3b, P4, P4b, P5, P5b, P6, P6b⟩ := id hp
  rcases P1 with rfl | rfl
  · by_cases h3 : k ≤ nI 9999 - q_s8 (q_cr h) (8 * b)
    · refine q_CdV mvX9_canStuff (Nat.le_of_ble_eq_true rfl) ?_
      refine xe_aload_n dX9_canStuff_0 rfl ?_
      refine xe_iload_n dX9_canStuff_1 rfl ?_
      refine xe_iload_n dX9_canStuff_2 rfl ?_
      refine xe_callVI (d' := 1) (y' := mX9_areTwoMen) dX9_canStuff_3 mlX9_167 mvX9_areTwoMen rfl (st0 hs) (by decide) rfl (by decide) (by decide) (Nat.le_of_ble_eq_true rfl) (c_X9_areTwoMen_t l g _ (by exact hs) (by exact hp) (by omega) (by omega) (by omega)) rfl ?_
      refine xn_if_eq (tgt := 39) dX9_canStuff_6 rfl (by omega) (fun c1 => ?_) (fun c1 => ?_)
      · omega
      · refine xe_iload_n dX9_canStuff_9 rfl ?_
        refine xe_iconst dX9_canStuff_10 kc_1 ?_
        refine xe_icmp_lt (tgt := 39) dX9_canStuff_11 rfl (fun c_1 => ?_) (fun c_1 => ?_)
        · refine xe_iconst dX9_canStuff_39 kc_0 ?_
          refine xe_ireturn dX9_canStuff_40 rfl (by first | rfl | decide +kernel) ?_
          exact ⟨rfl, rfl⟩
        · refine xe_iload_n dX9_canStuff_14 rfl ?_
          refine xe_aload_n dX9_canStuff_15 rfl ?_
          refine xe_getP dX9_canStuff_16 flX9_36 (st0 hs) (by decide) rfl (sp0_4 hs) ?_
          refine xe_iload_n dX9_canStuff_19 rfl ?_
          refine xe_callVI (d' := 0) (y' := mX6_inRow) dX9_canStuff_20 mlX9_140 mvX6_inRow rfl (st34 hs) (by decide) rfl (by decide) (by decide) (Nat.le_of_ble_eq_true rfl) (c_X6_inRow l g _ (by exact hs) _ (by omega)) rfl ?_
          refine xe_top (v' := q_s8 (q_cr h) (8 * a)) (q_cr_in h (by omega)) ?_
          refine xe_icmp_gt (tgt := 39) dX9_canStuff_23 rfl (fun c2 => ?_) (fun c2 => ?_)
          · refine xe_iconst dX9_canStuff_39 kc_0 ?_
            refine xe_ireturn dX9_canStuff_40 rfl (by first | rfl | decide +kernel) ?_
            exact ⟨rfl, rfl⟩
          · exact absurd ⟨Int32.not_lt.mp c_1, Int32.not_lt.mp c2, h3⟩ hc
    · refine q_CdV mvX9_canStuff (Nat.le_of_ble_eq_true rfl) ?_
      refine xe_aload_n dX9_canStuff_0 rfl ?_
      refine xe_iload_n dX9_canStuff_1 rfl ?_
      refine xe_iload_n dX9_canStuff_2 rfl ?_
      refine xe_callVI (d' := 1) (y' := mX9_areTwoMen) dX9_canStuff_3 mlX9_167 mvX9_areTwoMen rfl (st0 hs) (by decide) rfl (by decide) (by decide) (Nat.le_of_ble_eq_true rfl) (c_X9_areTwoMen_t l g _ (by exact hs) (by exact hp) (by omega) (by omega) (by omega)) rfl ?_
      refine xn_if_eq (tgt := 39) dX9_canStuff_6 rfl (by omega) (fun c1 => ?_) (fun c1 => ?_)
      · omega
      · refine xe_iload_n dX9_canStuff_9 rfl ?_
        refine xe_iconst dX9_canStuff_10 kc_1 ?_
        refine xe_icmp_lt (tgt := 39) dX9_canStuff_11 rfl (fun c2 => ?_) (fun c2 => ?_)
        · refine xe_iconst dX9_canStuff_39 kc_0 ?_
          refine xe_ireturn dX9_canStuff_40 rfl (by first | rfl | decide +kernel) ?_
          exact ⟨rfl, rfl⟩
        · refine xe_iload_n dX9_canStuff_14 rfl ?_
          refine xe_aload_n dX9_canStuff_15 rfl ?_
          refine xe_getP dX9_canStuff_16 flX9_36 (st0 hs) (by decide) rfl (sp0_4 hs) ?_
          refine xe_iload_n dX9_canStuff_19 rfl ?_
          refine xe_callVI (d' := 0) (y' := mX6_inRow) dX9_canStuff_20 mlX9_140 mvX6_inRow rfl (st34 hs) (by decide) rfl (by decide) (by decide) (Nat.le_of_ble_eq_true rfl) (c_X6_inRow l g _ (by exact hs) _ (by omega)) rfl ?_
          refine xe_top (v' := q_s8 (q_cr h) (8 * a)) (q_cr_in h (by omega)) ?_
          refine xe_icmp_gt (tgt := 39) dX9_canStuff_23 rfl (fun c3 => ?_) (fun c3 => ?_)
          · refine xe_iconst dX9_canStuff_39 kc_0 ?_
            refine xe_ireturn dX9_canStuff_40 rfl (by first | rfl | decide +kernel) ?_
            exact ⟨rfl, rfl⟩
          · refine xe_aload_n dX9_canStuff_26 rfl ?_
            refine xe_iload_n dX9_canStuff_27 rfl ?_
            refine xe_iload_n dX9_canStuff_28 rfl ?_
            refine xe_callVI (d' := 1) (y' := mX9_hasRoom) dX9_canStuff_29 mlX9_269 mvX9_hasRoom rfl (st0 hs) (by decide) rfl (by decide) (by decide) (Nat.le_of_ble_eq_true rfl) (c_X9_hasRoom_f l g _ (by exact hs) (by omega) (h3)) rfl ?_
            refine xn_if_eq (tgt := 39) dX9_canStuff_32 rfl (by omega) (fun c4 => ?_) (fun c4 => ?_)
            · refine xe_iconst dX9_canStuff_39 kc_0 ?_
              refine xe_ireturn dX9_canStuff_40 rfl (by first | rfl | decide +kernel) ?_
              exact ⟨rfl, rfl⟩
            · omega
  · by_cases h3 : k ≤ nI 9999 - q_s8 (q_cr h) (8 * b)
    · refine q_CdV mvX9_canStuff (Nat.le_of_ble_eq_true rfl) ?_
      refine xe_aload_n dX9_canStuff_0 rfl ?_
      refine xe_iload_n dX9_canStuff_1 rfl ?_
      refine xe_iload_n dX9_canStuff_2 rfl ?_
      refine xe_callVI (d' := 1) (y' := mX9_areTwoMen) dX9_canStuff_3 mlX9_167 mvX9_areTwoMen rfl (st0 hs) (by decide) rfl (by decide) (by decide) (Nat.le_of_ble_eq_true rfl) (c_X9_areTwoMen_t l g _ (by exact hs) (by exact hp) (by omega) (by omega) (by omega)) rfl ?_
      refine xn_if_eq (tgt := 39) dX9_canStuff_6 rfl (by omega) (fun c1 => ?_) (fun c1 => ?_)
      · omega
      · refine xe_iload_n dX9_canStuff_9 rfl ?_
        refine xe_iconst dX9_canStuff_10 kc_1 ?_
        refine xe_icmp_lt (tgt := 39) dX9_canStuff_11 rfl (fun c_1 => ?_) (fun c_1 => ?_)
        · refine xe_iconst dX9_canStuff_39 kc_0 ?_
          refine xe_ireturn dX9_canStuff_40 rfl (by first | rfl | decide +kernel) ?_
          exact ⟨rfl, rfl⟩
        · refine xe_iload_n dX9_canStuff_14 rfl ?_
          refine xe_aload_n dX9_canStuff_15 rfl ?_
          refine xe_getP dX9_canStuff_16 flX9_36 (st0 hs) (by decide) rfl (sp0_4 hs) ?_
          refine xe_iload_n dX9_canStuff_19 rfl ?_
          refine xe_callVI (d' := 0) (y' := mX6_inRow) dX9_canStuff_20 mlX9_140 mvX6_inRow rfl (st34 hs) (by decide) rfl (by decide) (by decide) (Nat.le_of_ble_eq_true rfl) (c_X6_inRow l g _ (by exact hs) _ (by omega)) rfl ?_
          refine xe_top (v' := q_s8 (q_cr h) (8 * a)) (q_cr_in h (by omega)) ?_
          refine xe_icmp_gt (tgt := 39) dX9_canStuff_23 rfl (fun c2 => ?_) (fun c2 => ?_)
          · refine xe_iconst dX9_canStuff_39 kc_0 ?_
            refine xe_ireturn dX9_canStuff_40 rfl (by first | rfl | decide +kernel) ?_
            exact ⟨rfl, rfl⟩
          · exact absurd ⟨Int32.not_lt.mp c_1, Int32.not_lt.mp c2, h3⟩ hc
    · refine q_CdV mvX9_canStuff (Nat.le_of_ble_eq_true rfl) ?_
      refine xe_aload_n dX9_canStuff_0 rfl ?_
      refine xe_iload_n dX9_canStuff_1 rfl ?_
      refine xe_iload_n dX9_canStuff_2 rfl ?_
      refine xe_callVI (d' := 1) (y' := mX9_areTwoMen) dX9_canStuff_3 mlX9_167 mvX9_areTwoMen rfl (st0 hs) (by decide) rfl (by decide) (by decide) (Nat.le_of_ble_eq_true rfl) (c_X9_areTwoMen_t l g _ (by exact hs) (by exact hp) (by omega) (by omega) (by omega)) rfl ?_
      refine xn_if_eq (tgt := 39) dX9_canStuff_6 rfl (by omega) (fun c1 => ?_) (fun c1 => ?_)
      · omega
      · refine xe_iload_n dX9_canStuff_9 rfl ?_
        refine xe_iconst dX9_canStuff_10 kc_1 ?_
        refine xe_icmp_lt (tgt := 39) dX9_canStuff_11 rfl (fun c2 => ?_) (fun c2 => ?_)
        · refine xe_iconst dX9_canStuff_39 kc_0 ?_
          refine xe_ireturn dX9_canStuff_40 rfl (by first | rfl | decide +kernel) ?_
          exact ⟨rfl, rfl⟩
        · refine xe_iload_n dX9_canStuff_14 rfl ?_
          refine xe_aload_n dX9_canStuff_15 rfl ?_
          refine xe_getP dX9_canStuff_16 flX9_36 (st0 hs) (by decide) rfl (sp0_4 hs) ?_
          refine xe_iload_n dX9_canStuff_19 rfl ?_
          refine xe_callVI (d' := 0) (y' := mX6_inRow) dX9_canStuff_20 mlX9_140 mvX6_inRow rfl (st34 hs) (by decide) rfl (by decide) (by decide) (Nat.le_of_ble_eq_true rfl) (c_X6_inRow l g _ (by exact hs) _ (by omega)) rfl ?_
          refine xe_top (v' := q_s8 (q_cr h) (8 * a)) (q_cr_in h (by omega)) ?_
          refine xe_icmp_gt (tgt := 39) dX9_canStuff_23 rfl (fun c3 => ?_) (fun c3 => ?_)
          · refine xe_iconst dX9_canStuff_39 kc_0 ?_
            refine xe_ireturn dX9_canStuff_40 rfl (by first | rfl | decide +kernel) ?_
            exact ⟨rfl, rfl⟩
          · refine xe_aload_n dX9_canStuff_26 rfl ?_
            refine xe_iload_n dX9_canStuff_27 rfl ?_
            refine xe_iload_n dX9_canStuff_28 rfl ?_
            refine xe_callVI (d' := 1) (y' := mX9_hasRoom) dX9_canStuff_29 mlX9_269 mvX9_hasRoom rfl (st0 hs) (by decide) rfl (by decide) (by decide) (Nat.le_of_ble_eq_true rfl) (c_X9_hasRoom_f l g _ (by exact hs) (by omega) (h3)) rfl ?_
            refine xn_if_eq (tgt := 39) dX9_canStuff_32 rfl (by omega) (fun c4 => ?_) (fun c4 => ?_)
            · refine xe_iconst dX9_canStuff_39 kc_0 ?_
              refine xe_ireturn dX9_canStuff_40 rfl (by first | rfl | decide +kernel) ?_
              exact ⟨rfl, rfl⟩
            · omega
theorem c_X9_canStuff_f (l : Launch) (g : q_GP) (h : q_H) (hs : q_Stat h) {p nm nd nc mo n : Nat} (hp : rk_P h p nm nd nc mo n) (x z k : Int32) (hxz : ¬ q_two x z nm) : q_Cd l g 2 mX9_canStuff [.ref 0, .int x, .int z, .int k] h (some (.int (nI 0))) h := by
  obtain ⟨P0, P1, P2, P2b, P3, P3b, P4, P4b, P5, P5b, P6, P6b⟩ := id hp
  rcases P1 with rfl | rfl
  · refine q_CdV mvX9_canStuff (Nat.le_of_ble_eq_true rfl) ?_
    refine xe_aload_n dX9_canStuff_0 rfl ?_
    refine xe_iload_n dX9_canStuff_1 rfl ?_
    refine xe_iload_n dX9_canStuff_2 rfl ?_
    refine xe_callVI (d' := 1) (y' := mX9_areTwoMen) dX9_canStuff_3 mlX9_167 mvX9_areTwoMen rfl (st0 hs) (by decide) rfl (by decide) (by decide) (Nat.le_of_ble_eq_true rfl) (c_X9_areTwoMen_f l g _ (by exact hs) (by exact hp) _ _ hxz) rfl ?_
    refine xn_if_eq (tgt := 39) dX9_canStuff_6 rfl (by omega) (fun c1 => ?_) (fun c1 => ?_)
    · refine xe_iconst dX9_canStuff_39 kc_0 ?_
      refine xe_ireturn dX9_canStuff_40 rfl (by first | rfl | decide +kernel) ?_
      exact ⟨rfl, rfl⟩
    · omega
  · refine q_CdV mvX9_canStuff (Nat.le_of_ble_eq_true rfl) ?_
    refine xe_aload_n dX9_canStuff_0 rfl ?_
    refine xe_iload_n dX9_canStuff_1 rfl ?_
    refine xe_iload_n dX9_canStuff_2 rfl ?_
    refine xe_callVI (d' := 1) (y' := mX9_areTwoMen) dX9_canStuff_3 mlX9_167 mvX9_areTwoMen rfl (st0 hs) (by decide) rfl (by decide) (by decide) (Nat.le_of_ble_eq_true rfl) (c_X9_areTwoMen_f l g _ (by exact hs) (by exact hp) _ _ hxz) rfl ?_
    refine xn_if_eq (tgt := 39) dX9_canStuff_6 rfl (by omega) (fun c1 => ?_) (fun c1 => ?_)
    · refine xe_iconst dX9_canStuff_39 kc_0 ?_
      refine xe_ireturn dX9_canStuff_40 rfl (by first | rfl | decide +kernel) ?_
      exact ⟨rfl, rfl⟩
    · omega
theorem c_X9_stuff_t (l : Launch) (g : q_GP) (h : q_H) (hs : q_Stat h) {p nm nd nc mo n : Nat} (hp : rk_P h p nm nd nc mo n) {x s : Nat} (hx : x < 25) (h42a : q_I h 42 1 = nI x) (h42b : q_I h 42 2 = nI s) (hs25 : s ≤ 25) {a b : Nat} (ha : a < nm) (hb : b < nm) (hab : ¬ a = b) {k : Int32} (hc : q_can (q_cr h) a b k) : q_Ct l g 4 mX9_stuff [.ref 0, .int (nI a), .int (nI b), .int k] h (fun r h1 => r = some (.int (nI 1)) ∧ rk_did h x s h1 (-1) (nI 0) (-1) ∧ q_I h1 35 = (q_mvc a b a (q_I h 35) k 9).1 ∧ q_I h1 34 = q_I h 34 ∧ q_I h1 36 = q_I h 36 ∧ q_I h1 37 = q_I h 37 ∧ q_I h1 38 = q_I h 38 ∧ q_I h1 39 = q_I h 39) := by
  obtain ⟨P0, P1, P2, P2b, P3, P3b, P4, P4b, P5, P5b, P6, P6b⟩ := id hp
  rcases P1 with rfl | rfl
  · refine q_CtV mvX9_stuff (Nat.le_of_ble_eq_true rfl) ?_
    refine xe_aload_n dX9_stuff_0 rfl ?_
    refine xe_iload_n dX9_stuff_1 rfl ?_
    refine xe_iload_n dX9_stuff_2 rfl ?_
    refine xe_iload_n dX9_stuff_3 rfl ?_
    refine xe_callVI (d' := 2) (y' := mX9_canStuff) dX9_stuff_4 mlX9_266 mvX9_canStuff rfl (st0 hs) (by decide) rfl (by decide) (by decide) (Nat.le_of_ble_eq_true rfl) (c_X9_canStuff_t l g _ (by exact hs) (by exact hp) ha hb hab hc) rfl ?_
    refine xn_if_ne (tgt := 12) dX9_stuff_7 rfl (by omega) (fun c1 => ?_) (fun c1 => ?_)
    · refine xe_aload_n dX9_stuff_12 rfl ?_
      refine xe_getP dX9_stuff_13 flX9_51 (st0 hs) (by decide) rfl (sp0_7 hs) ?_
      refine xe_aload_n dX9_stuff_16 rfl ?_
      refine xe_getP dX9_stuff_17 flX9_36 (st0 hs) (by decide) rfl (sp0_4 hs) ?_
      refine xe_callVRn (d' := 2) (y' := mX1_note) dX9_stuff_20 mlX9_236 mvX1_note rfl (st42 hs) (by decide) rfl (by decide) (by decide) (Nat.le_of_ble_eq_true rfl) (c_X1_note l g _ (by exact hs) hx (by exact h42a) (by exact h42b) hs25) rfl (fun v h1 hq => ?_)
      obtain ⟨rfl, k_⟩ := hq
      have hs1 : q_Stat h1 := q_Stat_2 k_.1 (by exact hs)
      refine xe_pop dX9_stuff_23 rfl ?_
      refine xe_aload_n dX9_stuff_24 rfl ?_
      refine xe_getP dX9_stuff_25 flX9_36 (st0 hs1) (by decide) rfl (sp0_4 hs1) ?_
      refine xe_iload_n dX9_stuff_28 rfl ?_
      refine xe_iload_n dX9_stuff_29 rfl ?_
      refine xe_iload_n dX9_stuff_30 rfl ?_
      refine xe_callVI (d' := 2) (y' := mX6_pluck) dX9_stuff_31 mlX9_240 mvX6_pluck rfl (st34 hs1) (by decide) rfl (by decide) (by decide) (Nat.le_of_ble_eq_true rfl) (c_X6_pluck l g _ (by exact hs1) _ _ _ (by omega) (by omega)) rfl ?_
      refine xe_pop dX9_stuff_34 rfl ?_
      refine xe_iconst dX9_stuff_35 kc_1 ?_
      refine xe_ireturn dX9_stuff_36 rfl (by first | rfl | decide +kernel) ?_
      exact ⟨rfl, rk_did_of q_out_r k_ (by repeat (first | exact q_out_r | refine q_out_w rfl ?_)), by show (q_mvc a b a (q_I h1 35) k 9).1 = _; rw [rk_nd_r k_ (r := 35) (by decide) (by decide)], rk_nd_r k_ (r := 34) (by decide) (by decide), rk_nd_r k_ (r := 36) (by decide) (by decide), rk_nd_r k_ (r := 37) (by decide) (by decide), rk_nd_r k_ (r := 38) (by decide) (by decide), rk_nd_r k_ (r := 39) (by decide) (by decide)⟩
    · omega
  · refine q_CtV mvX9_stuff (Nat.le_of_ble_eq_true rfl) ?_
    refine xe_aload_n dX9_stuff_0 rfl ?_
    refine xe_iload_n dX9_stuff_1 rfl ?_
    refine xe_iload_n dX9_stuff_2 rfl ?_
    refine xe_iload_n dX9_stuff_3 rfl ?_
    refine xe_callVI (d' := 2) (y' := mX9_canStuff) dX9_stuff_4 mlX9_266 mvX9_canStuff rfl (st0 hs) (by decide) rfl (by decide) (by decide) (Nat.le_of_ble_eq_true rfl) (c_X9_canStuff_t l g _ (by exact hs) (by exact hp) ha hb hab hc) rfl ?_
    refine xn_if_ne (tgt := 12) dX9_stuff_7 rfl (by omega) (fun c1 => ?_) (fun c1 => ?_)
    · refine xe_aload_n dX9_stuff_12 rfl ?_
      refine xe_getP dX9_stuff_13 flX9_51 (st0 hs) (by decide) rfl (sp0_7 hs) ?_
      refine xe_aload_n dX9_stuff_16 rfl ?_
      refine xe_getP dX9_stuff_17 flX9_36 (st0 hs) (by decide) rfl (sp0_4 hs) ?_
      refine xe_callVRn (d' := 2) (y' := mX1_note) dX9_stuff_20 mlX9_236 mvX1_note rfl (st42 hs) (by decide) rfl (by decide) (by decide) (Nat.le_of_ble_eq_true rfl) (c_X1_note l g _ (by exact hs) hx (by exact h42a) (by exact h42b) hs25) rfl (fun v h1 hq => ?_)
      obtain ⟨rfl, k_⟩ := hq
      have hs1 : q_Stat h1 := q_Stat_2 k_.1 (by exact hs)
      refine xe_pop dX9_stuff_23 rfl ?_
      refine xe_aload_n dX9_stuff_24 rfl ?_
      refine xe_getP dX9_stuff_25 flX9_36 (st0 hs1) (by decide) rfl (sp0_4 hs1) ?_
      refine xe_iload_n dX9_stuff_28 rfl ?_
      refine xe_iload_n dX9_stuff_29 rfl ?_
      refine xe_iload_n dX9_stuff_30 rfl ?_
      refine xe_callVI (d' := 2) (y' := mX6_pluck) dX9_stuff_31 mlX9_240 mvX6_pluck rfl (st34 hs1) (by decide) rfl (by decide) (by decide) (Nat.le_of_ble_eq_true rfl) (c_X6_pluck l g _ (by exact hs1) _ _ _ (by omega) (by omega)) rfl ?_
      refine xe_pop dX9_stuff_34 rfl ?_
      refine xe_iconst dX9_stuff_35 kc_1 ?_
      refine xe_ireturn dX9_stuff_36 rfl (by first | rfl | decide +kernel) ?_
      exact ⟨rfl, rk_did_of q_out_r k_ (by repeat (first | exact q_out_r | refine q_out_w rfl ?_)), by show (q_mvc a b a (q_I h1 35) k 9).1 = _; rw [rk_nd_r k_ (r := 35) (by decide) (by decide)], rk_nd_r k_ (r := 34) (by decide) (by decide), rk_nd_r k_ (r := 36) (by decide) (by decide), rk_nd_r k_ (r := 37) (by decide) (by decide), rk_nd_r k_ (r := 38) (by decide) (by decide), rk_nd_r k_ (r := 39) (by decide) (by decide)⟩
    · omega
theorem c_X9_stuff_n (l : Launch) (g : q_GP) (h : q_H) (hs : q_Stat h) {p nm nd nc mo n : Nat} (hp : rk_P h p nm nd nc mo n) {a b : Nat} (ha : a < nm) (hb : b < nm) (hab : ¬ a = b) {k : Int32} (hc : ¬ q_can (q_cr h) a b k) : q_Cd l g 4 mX9_stuff [.ref 0, .int (nI a), .int (nI b), .int k] h (some (.int (nI 0))) h := by
  obtain ⟨P0, P1, P2, P2b, P3, P3b, P4, P4b, P5, P5b, P6, P6b⟩ := id hp
  rcases P1 with rfl | rfl
  · refine q_CdV mvX9_stuff (Nat.le_of_ble_eq_true rfl) ?_
    refine xe_aload_n dX9_stuff_0 rfl ?_
    refine xe_iload_n dX9_stuff_1 rfl ?_
    refine xe_iload_n dX9_stuff_2 rfl ?_
    refine xe_iload_n dX9_stuff_3 rfl ?_
    refine xe_callVI (d' := 2) (y' := mX9_canStuff) dX9_stuff_4 mlX9_266 mvX9_canStuff rfl (st0 hs) (by decide) rfl (by decide) (by decide) (Nat.le_of_ble_eq_true rfl) (c_X9_canStuff_n l g _ (by exact hs) (by exact hp) ha hb hab hc) rfl ?_
    refine xn_if_ne (tgt := 12) dX9_stuff_7 rfl (by omega) (fun c1 => ?_) (fun c1 => ?_)
    · omega
    · refine xe_iconst dX9_stuff_10 kc_0 ?_
      refine xe_ireturn dX9_stuff_11 rfl (by first | rfl | decide +kernel) ?_
      exact ⟨rfl, rfl⟩
  · refine q_CdV mvX9_stuff (Nat.le_of_ble_eq_true rfl) ?_
    refine xe_aload_n dX9_stuff_0 rfl ?_
    refine xe_iload_n dX9_stuff_1 rfl ?_
    refine xe_iload_n dX9_stuff_2 rfl ?_
    refine xe_iload_n dX9_stuff_3 rfl ?_
    refine xe_callVI (d' := 2) (y' := mX9_canStuff) dX9_stuff_4 mlX9_266 mvX9_canStuff rfl (st0 hs) (by decide) rfl (by decide) (by decide) (Nat.le_of_ble_eq_true rfl) (c_X9_canStuff_n l g _ (by exact hs) (by exact hp) ha hb hab hc) rfl ?_
    refine xn_if_ne (tgt := 12) dX9_stuff_7 rfl (by omega) (fun c1 => ?_) (fun c1 => ?_)
    · omega
    · refine xe_iconst dX9_stuff_10 kc_0 ?_
      refine xe_ireturn dX9_stuff_11 rfl (by first | rfl | decide +kernel) ?_
      exact ⟨rfl, rfl⟩
theorem c_X9_stuff_f (l : Launch) (g : q_GP) (h : q_H) (hs : q_Stat h) {p nm nd nc mo n : Nat} (hp : rk_P h p nm nd nc mo n) (x z k : Int32) (hxz : ¬ q_two x z nm) : q_Cd l g 4 mX9_stuff [.ref 0, .int x, .int z, .int k] h (some (.int (nI 0))) h := by
  obtain ⟨P0, P1, P2, P2b, P3, P3b, P4, P4b, P5, P5b, P6, P6b⟩ := id hp
  rcases P1 with rfl | rfl
  · refine q_CdV mvX9_stuff (Nat.le_of_ble_eq_true rfl) ?_
    refine xe_aload_n dX9_stuff_0 rfl ?_
    refine xe_iload_n dX9_stuff_1 rfl ?_
    refine xe_iload_n dX9_stuff_2 rfl ?_
    refine xe_iload_n dX9_stuff_3 rfl ?_
    refine xe_callVI (d' := 2) (y' := mX9_canStuff) dX9_stuff_4 mlX9_266 mvX9_canStuff rfl (st0 hs) (by decide) rfl (by decide) (by decide) (Nat.le_of_ble_eq_true rfl) (c_X9_canStuff_f l g _ (by exact hs) (by exact hp) _ _ _ hxz) rfl ?_
    refine xn_if_ne (tgt := 12) dX9_stuff_7 rfl (by omega) (fun c1 => ?_) (fun c1 => ?_)
    · omega
    · refine xe_iconst dX9_stuff_10 kc_0 ?_
      refine xe_ireturn dX9_stuff_11 rfl (by first | rfl | decide +kernel) ?_
      exact ⟨rfl, rfl⟩
  · refine q_CdV mvX9_stuff (Nat.le_of_ble_eq_true rfl) ?_
    refine xe_aload_n dX9_stuff_0 rfl ?_
    refine xe_iload_n dX9_stuff_1 rfl ?_
    refine xe_iload_n dX9_stuff_2 rfl ?_
    refine xe_iload_n dX9_stuff_3 rfl ?_
    refine xe_callVI (d' := 2) (y' := mX9_canStuff) dX9_stuff_4 mlX9_266 mvX9_canStuff rfl (st0 hs) (by decide) rfl (by decide) (by decide) (Nat.le_of_ble_eq_true rfl) (c_X9_canStuff_f l g _ (by exact hs) (by exact hp) _ _ _ hxz) rfl ?_
    refine xn_if_ne (tgt := 12) dX9_stuff_7 rfl (by omega) (fun c1 => ?_) (fun c1 => ?_)
    · omega
    · refine xe_iconst dX9_stuff_10 kc_0 ?_
      refine xe_ireturn dX9_stuff_11 rfl (by first | rfl | decide +kernel) ?_
      exact ⟨rfl, rfl⟩
theorem c_X9_lend_n (l : Launch) (g : q_GP) (h : q_H) (hs : q_Stat h) {p nm nd nc mo n : Nat} (hp : rk_P h p nm nd nc mo n) {a b : Nat} (ha : a < nm) (hb : b < nm) (hab : ¬ a = b) {k : Int32} (hc : ¬ q_can (q_cr h) a b k) : q_Cd l g 4 mX9_lend [.ref 0, .int (nI a), .int (nI b), .int k] h (some (.int (nI 0))) h := by
  obtain ⟨P0, P1, P2, P2b, P3, P3b, P4, P4b, P5, P5b, P6, P6b⟩ := id hp
  rcases P1 with rfl | rfl
  · refine q_CdV mvX9_lend (Nat.le_of_ble_eq_true rfl) ?_
    refine xe_aload_n dX9_lend_0 rfl ?_
    refine xe_iload_n dX9_lend_1 rfl ?_
    refine xe_iload_n dX9_lend_2 rfl ?_
    refine xe_iload_n dX9_lend_3 rfl ?_
    refine xe_callVI (d' := 2) (y' := mX9_canStuff) dX9_lend_4 mlX9_266 mvX9_canStuff rfl (st0 hs) (by decide) rfl (by decide) (by decide) (Nat.le_of_ble_eq_true rfl) (c_X9_canStuff_n l g _ (by exact hs) (by exact hp) ha hb hab hc) rfl ?_
    refine xn_if_ne (tgt := 12) dX9_lend_7 rfl (by omega) (fun c1 => ?_) (fun c1 => ?_)
    · omega
    · refine xe_iconst dX9_lend_10 kc_0 ?_
      refine xe_ireturn dX9_lend_11 rfl (by first | rfl | decide +kernel) ?_
      exact ⟨rfl, rfl⟩
  · refine q_CdV mvX9_lend (Nat.le_of_ble_eq_true rfl) ?_
    refine xe_aload_n dX9_lend_0 rfl ?_
    refine xe_iload_n dX9_lend_1 rfl ?_
    refine xe_iload_n dX9_lend_2 rfl ?_
    refine xe_iload_n dX9_lend_3 rfl ?_
    refine xe_callVI (d' := 2) (y' := mX9_canStuff) dX9_lend_4 mlX9_266 mvX9_canStuff rfl (st0 hs) (by decide) rfl (by decide) (by decide) (Nat.le_of_ble_eq_true rfl) (c_X9_canStuff_n l g _ (by exact hs) (by exact hp) ha hb hab hc) rfl ?_
    refine xn_if_ne (tgt := 12) dX9_lend_7 rfl (by omega) (fun c1 => ?_) (fun c1 => ?_)
    · omega
    · refine xe_iconst dX9_lend_10 kc_0 ?_
      refine xe_ireturn dX9_lend_11 rfl (by first | rfl | decide +kernel) ?_
      exact ⟨rfl, rfl⟩
theorem c_X9_lend_f (l : Launch) (g : q_GP) (h : q_H) (hs : q_Stat h) {p nm nd nc mo n : Nat} (hp : rk_P h p nm nd nc mo n) (x z k : Int32) (hxz : ¬ q_two x z nm) : q_Cd l g 4 mX9_lend [.ref 0, .int x, .int z, .int k] h (some (.int (nI 0))) h := by
  obtain ⟨P0, P1, P2, P2b, P3, P3b, P4, P4b, P5, P5b, P6, P6b⟩ := id hp
  rcases P1 with rfl | rfl
  · refine q_CdV mvX9_lend (Nat.le_of_ble_eq_true rfl) ?_
    refine xe_aload_n dX9_lend_0 rfl ?_
    refine xe_iload_n dX9_lend_1 rfl ?_
    refine xe_iload_n dX9_lend_2 rfl ?_
    refine xe_iload_n dX9_lend_3 rfl ?_
    refine xe_callVI (d' := 2) (y' := mX9_canStuff) dX9_lend_4 mlX9_266 mvX9_canStuff rfl (st0 hs) (by decide) rfl (by decide) (by decide) (Nat.le_of_ble_eq_true rfl) (c_X9_canStuff_f l g _ (by exact hs) (by exact hp) _ _ _ hxz) rfl ?_
    refine xn_if_ne (tgt := 12) dX9_lend_7 rfl (by omega) (fun c1 => ?_) (fun c1 => ?_)
    · omega
    · refine xe_iconst dX9_lend_10 kc_0 ?_
      refine xe_ireturn dX9_lend_11 rfl (by first | rfl | decide +kernel) ?_
      exact ⟨rfl, rfl⟩
  · refine q_CdV mvX9_lend (Nat.le_of_ble_eq_true rfl) ?_
    refine xe_aload_n dX9_lend_0 rfl ?_
    refine xe_iload_n dX9_lend_1 rfl ?_
    refine xe_iload_n dX9_lend_2 rfl ?_
    refine xe_iload_n dX9_lend_3 rfl ?_
    refine xe_callVI (d' := 2) (y' := mX9_canStuff) dX9_lend_4 mlX9_266 mvX9_canStuff rfl (st0 hs) (by decide) rfl (by decide) (by decide) (Nat.le_of_ble_eq_true rfl) (c_X9_canStuff_f l g _ (by exact hs) (by exact hp) _ _ _ hxz) rfl ?_
    refine xn_if_ne (tgt := 12) dX9_lend_7 rfl (by omega) (fun c1 => ?_) (fun c1 => ?_)
    · omega
    · refine xe_iconst dX9_lend_10 kc_0 ?_
      refine xe_ireturn dX9_lend_11 rfl (by first | rfl | decide +kernel) ?_
      exact ⟨rfl, rfl⟩
theorem c_X9_lend_t (l : Launch) (g : q_GP) (h : q_H) (hs : q_Stat h) {p nm nd nc mo n : Nat} (hp : rk_P h p nm nd nc mo n) {x s : Nat} (hx : x < 25) (h42a : q_I h 42 1 = nI x) (h42b : q_I h 42 2 = nI s) (hs25 : s ≤ 25) {a b : Nat} (ha : a < nm) (hb : b < nm) (hab : ¬ a = b) {k : Int32} (hc : q_can (q_cr h) a b k) : q_Ct l g 4 mX9_lend [.ref 0, .int (nI a), .int (nI b), .int k] h (fun r h1 => r = some (.int (nI 1)) ∧ rk_did h x s h1 (nI (b * 8 + a)) (q_I h 36 (b * 8 + a)) (-1) ∧ q_I h1 35 = (q_mvc a b a (q_I h 35) k 9).1 ∧ q_I h1 36 = upd (q_I h 36) (b * 8 + a) (q_I h 36 (b * 8 + a) + k) ∧ q_I h1 34 = q_I h 34 ∧ q_I h1 37 = q_I h 37 ∧ q_I h1 38 = q_I h 38 ∧ q_I h1 39 = q_I h 39) := by
  obtain ⟨P0, P1, P2, P2b, P3, P3b, P4, P4b, P5, P5b, P6, P6b⟩ := id hp
  rcases P1 with rfl | rfl
  · refine q_CtV mvX9_lend (Nat.le_of_ble_eq_true rfl) ?_
    refine xe_aload_n dX9_lend_0 rfl ?_
    refine xe_iload_n dX9_lend_1 rfl ?_
    refine xe_iload_n dX9_lend_2 rfl ?_
    refine xe_iload_n dX9_lend_3 rfl ?_
    refine xe_callVI (d' := 2) (y' := mX9_canStuff) dX9_lend_4 mlX9_266 mvX9_canStuff rfl (st0 hs) (by decide) rfl (by decide) (by decide) (Nat.le_of_ble_eq_true rfl) (c_X9_canStuff_t l g _ (by exact hs) (by exact hp) ha hb hab hc) rfl ?_
    refine xn_if_ne (tgt := 12) dX9_lend_7 rfl (by omega) (fun c1 => ?_) (fun c1 => ?_)
    · refine xe_aload_n dX9_lend_12 rfl ?_
      refine xe_getP dX9_lend_13 flX9_51 (st0 hs) (by decide) rfl (sp0_7 hs) ?_
      refine xe_aload_n dX9_lend_16 rfl ?_
      refine xe_getP dX9_lend_17 flX9_36 (st0 hs) (by decide) rfl (sp0_4 hs) ?_
      refine xe_callVRn (d' := 2) (y' := mX1_note) dX9_lend_20 mlX9_236 mvX1_note rfl (st42 hs) (by decide) rfl (by decide) (by decide) (Nat.le_of_ble_eq_true rfl) (c_X1_note l g _ (by exact hs) hx (by exact h42a) (by exact h42b) hs25) rfl (fun v h1 hq => ?_)
      obtain ⟨rfl, k_⟩ := hq
      have hs1 : q_Stat h1 := q_Stat_2 k_.1 (by exact hs)
      refine xe_aload_n dX9_lend_23 rfl ?_
      refine xe_getP dX9_lend_24 flX9_36 (st0 hs1) (by decide) rfl (sp0_4 hs1) ?_
      refine xe_iload_n dX9_lend_27 rfl ?_
      refine xe_bipush dX9_lend_28 kb_8 ?_
      refine xn_imul dX9_lend_30 ?_
      refine xe_iload_n dX9_lend_31 rfl ?_
      refine xn_iadd dX9_lend_32 ?_
      refine xe_callVV (d' := 0) (y' := mX0_keepDebt) dX9_lend_33 mlX9_272 mvX0_keepDebt rfl (stD hs1 hx) (by decide) rfl (by decide) (by decide) (Nat.le_of_ble_eq_true rfl) (c_X0_keepDebt l g _ (by exact hs1) hx (by omega)) rfl ?_
      obtain ⟨h2, hg⟩ : ∃ z, z = q_wI h1 (44 + 2 * x) (upd (upd (q_I h1 (44 + 2 * x)) 3 (nI (b * 8 + a))) 4 (q_I h1 36 (b * 8 + a))) := ⟨_, rfl⟩
      refine xe_heap (h2 := h2) hg.symm ?_
      have k2_ := rk_nd_debt (a := b * 8 + a) k_ (q_I h1 36 (b * 8 + a))
      rw [← hg] at k2_
      have hs2 : q_Stat h2 := q_Stat_2 k2_.1 (by exact hs)
      refine xe_aload_n dX9_lend_36 rfl ?_
      refine xe_getP dX9_lend_37 flX9_36 (st0 hs2) (by decide) rfl (sp0_4 hs2) ?_
      refine xe_iload_n dX9_lend_40 rfl ?_
      refine xe_iload_n dX9_lend_41 rfl ?_
      refine xe_iload_n dX9_lend_42 rfl ?_
      refine xe_callVI (d' := 2) (y' := mX6_pluck) dX9_lend_43 mlX9_240 mvX6_pluck rfl (st34 hs2) (by decide) rfl (by decide) (by decide) (Nat.le_of_ble_eq_true rfl) (c_X6_pluck l g _ (by exact hs2) _ _ _ (by omega) (by omega)) rfl ?_
      refine xe_pop dX9_lend_46 rfl ?_
      refine xe_aload_n dX9_lend_47 rfl ?_
      refine xe_getP dX9_lend_48 flX9_36 (st0 hs2) (by decide) rfl (sp0_4 hs2) ?_
      refine xe_getP dX9_lend_51 flX9_171 (st34 hs2) (by decide) rfl (sp34_1 hs2) ?_
      refine xe_iload_n dX9_lend_54 rfl ?_
      refine xe_bipush dX9_lend_55 kb_8 ?_
      refine xn_imul dX9_lend_57 ?_
      refine xe_iload_n dX9_lend_58 rfl ?_
      refine xn_iadd dX9_lend_59 ?_
      refine xe_dup2 dX9_lend_60 rfl rfl ?_
      refine xn_ialdv dX9_lend_61 (st36 hs2) (by omega) (by decide) (v := ((q_I h2 36) ((b * 8) + a))) (rfl) ?_
      refine xe_iload_n dX9_lend_62 rfl ?_
      refine xe_iadd dX9_lend_63 ?_
      refine xn_iast dX9_lend_64 (st36 hs2) (by omega) (by decide) ?_
      refine xe_iconst dX9_lend_65 kc_1 ?_
      refine xe_ireturn dX9_lend_66 rfl (by first | rfl | decide +kernel) ?_
      have e36 : q_I h1 36 = q_I h 36 := rk_nd_r k_ (r := 36) (by decide) (by decide)
      rw [e36] at k2_
      have f36 : q_I h2 36 = q_I h 36 := rk_nd_r k2_ (r := 36) (by decide) (by decide)
      exact ⟨rfl, rk_did_of q_out_r k2_ (by repeat (first | exact q_out_r | refine q_out_w rfl ?_)), by show (q_mvc a b a (q_I h2 35) k 9).1 = _; rw [rk_nd_r k2_ (r := 35) (by decide) (by decide)], by show upd (q_I h2 36) _ (q_I h2 36 _ + _) = _; rw [f36], rk_nd_r k2_ (r := 34) (by decide) (by decide), rk_nd_r k2_ (r := 37) (by decide) (by decide), rk_nd_r k2_ (r := 38) (by decide) (by decide), rk_nd_r k2_ (r := 39) (by decide) (by decide)⟩
    · omega
  · refine q_CtV mvX9_lend (Nat.le_of_ble_eq_true rfl) ?_
    refine xe_aload_n dX9_lend_0 rfl ?_
    refine xe_iload_n dX9_lend_1 rfl ?_
    refine xe_iload_n dX9_lend_2 rfl ?_
    refine xe_iload_n dX9_lend_3 rfl ?_
    refine xe_callVI (d' := 2) (y' := mX9_canStuff) dX9_lend_4 mlX9_266 mvX9_canStuff rfl (st0 hs) (by decide) rfl (by decide) (by decide) (Nat.le_of_ble_eq_true rfl) (c_X9_canStuff_t l g _ (by exact hs) (by exact hp) ha hb hab hc) rfl ?_
    refine xn_if_ne (tgt := 12) dX9_lend_7 rfl (by omega) (fun c1 => ?_) (fun c1 => ?_)
    · refine xe_aload_n dX9_lend_12 rfl ?_
      refine xe_getP dX9_lend_13 flX9_51 (st0 hs) (by decide) rfl (sp0_7 hs) ?_
      refine xe_aload_n dX9_lend_16 rfl ?_
      refine xe_getP dX9_lend_17 flX9_36 (st0 hs) (by decide) rfl (sp0_4 hs) ?_
      refine xe_callVRn (d' := 2) (y' := mX1_note) dX9_lend_20 mlX9_236 mvX1_note rfl (st42 hs) (by decide) rfl (by decide) (by decide) (Nat.le_of_ble_eq_true rfl) (c_X1_note l g _ (by exact hs) hx (by exact h42a) (by exact h42b) hs25) rfl (fun v h1 hq => ?_)
      obtain ⟨rfl, k_⟩ := hq
      have hs1 : q_Stat h1 := q_Stat_2 k_.1 (by exact hs)
      refine xe_aload_n dX9_lend_23 rfl ?_
      refine xe_getP dX9_lend_24 flX9_36 (st0 hs1) (by decide) rfl (sp0_4 hs1) ?_
      refine xe_iload_n dX9_lend_27 rfl ?_
      refine xe_bipush dX9_lend_28 kb_8 ?_
      refine xn_imul dX9_lend_30 ?_
      refine xe_iload_n dX9_lend_31 rfl ?_
      refine xn_iadd dX9_lend_32 ?_
      refine xe_callVV (d' := 0) (y' := mX0_keepDebt) dX9_lend_33 mlX9_272 mvX0_keepDebt rfl (stD hs1 hx) (by decide) rfl (by decide) (by decide) (Nat.le_of_ble_eq_true rfl) (c_X0_keepDebt l g _ (by exact hs1) hx (by omega)) rfl ?_
      obtain ⟨h2, hg⟩ : ∃ z, z = q_wI h1 (44 + 2 * x) (upd (upd (q_I h1 (44 + 2 * x)) 3 (nI (b * 8 + a))) 4 (q_I h1 36 (b * 8 + a))) := ⟨_, rfl⟩
      refine xe_heap (h2 := h2) hg.symm ?_
      have k2_ := rk_nd_debt (a := b * 8 + a) k_ (q_I h1 36 (b * 8 + a))
      rw [← hg] at k2_
      have hs2 : q_Stat h2 := q_Stat_2 k2_.1 (by exact hs)
      refine xe_aload_n dX9_lend_36 rfl ?_
      refine xe_getP dX9_lend_37 flX9_36 (st0 hs2) (by decide) rfl (sp0_4 hs2) ?_
      refine xe_iload_n dX9_lend_40 rfl ?_
      refine xe_iload_n dX9_lend_41 rfl ?_
      refine xe_iload_n dX9_lend_42 rfl ?_
      refine xe_callVI (d' := 2) (y' := mX6_pluck) dX9_lend_43 mlX9_240 mvX6_pluck rfl (st34 hs2) (by decide) rfl (by decide) (by decide) (Nat.le_of_ble_eq_true rfl) (c_X6_pluck l g _ (by exact hs2) _ _ _ (by omega) (by omega)) rfl ?_
      refine xe_pop dX9_lend_46 rfl ?_
      refine xe_aload_n dX9_lend_47 rfl ?_
      refine xe_getP dX9_lend_48 flX9_36 (st0 hs2) (by decide) rfl (sp0_4 hs2) ?_
      refine xe_getP dX9_lend_51 flX9_171 (st34 hs2) (by decide) rfl (sp34_1 hs2) ?_
      refine xe_iload_n dX9_lend_54 rfl ?_
      refine xe_bipush dX9_lend_55 kb_8 ?_
      refine xn_imul dX9_lend_57 ?_
      refine xe_iload_n dX9_lend_58 rfl ?_
      refine xn_iadd dX9_lend_59 ?_
      refine xe_dup2 dX9_lend_60 rfl rfl ?_
      refine xn_ialdv dX9_lend_61 (st36 hs2) (by omega) (by decide) (v := ((q_I h2 36) ((b * 8) + a))) (rfl) ?_
      refine xe_iload_n dX9_lend_62 rfl ?_
      refine xe_iadd dX9_lend_63 ?_
      refine xn_iast dX9_lend_64 (st36 hs2) (by omega) (by decide) ?_
      refine xe_iconst dX9_lend_65 kc_1 ?_
      refine xe_ireturn dX9_lend_66 rfl (by first | rfl | decide +kernel) ?_
      have e36 : q_I h1 36 = q_I h 36 := rk_nd_r k_ (r := 36) (by decide) (by decide)
      rw [e36] at k2_
      have f36 : q_I h2 36 = q_I h 36 := rk_nd_r k2_ (r := 36) (by decide) (by decide)
      exact ⟨rfl, rk_did_of q_out_r k2_ (by repeat (first | exact q_out_r | refine q_out_w rfl ?_)), by show (q_mvc a b a (q_I h2 35) k 9).1 = _; rw [rk_nd_r k2_ (r := 35) (by decide) (by decide)], by show upd (q_I h2 36) _ (q_I h2 36 _ + _) = _; rw [f36], rk_nd_r k2_ (r := 34) (by decide) (by decide), rk_nd_r k2_ (r := 37) (by decide) (by decide), rk_nd_r k2_ (r := 38) (by decide) (by decide), rk_nd_r k2_ (r := 39) (by decide) (by decide)⟩
    · omega
def q_pv (D Hv k : Int32) : Int32 := if (if Hv < D then Hv else D) < k then (if Hv < D then Hv else D) else k
theorem q_pv_rv (R : Nat → Int32) (a b : Nat) (k : Int32) : q_pv (R (72 + 8 * a + b)) (q_s8 R (8 * a)) k = q_rv R a b k := by
  unfold q_pv q_rv
  generalize q_s8 R (8 * a) = Hv
  generalize R (72 + 8 * a + b) = D
  simp only [Int32.lt_iff_toInt_lt, Int32.le_iff_toInt_le]
  split <;> split <;> (try split) <;> (try split) <;> first | rfl | (apply Int32.toInt_inj.mp; omega) | omega
theorem c_X9_repay_t (l : Launch) (g : q_GP) (h : q_H) (hs : q_Stat h) {p nm nd nc mo n : Nat} (hp : rk_P h p nm nd nc mo n) {x s : Nat} (hx : x < 25) (h42a : q_I h 42 1 = nI x) (h42b : q_I h 42 2 = nI s) (hs25 : s ≤ 25) {a b : Nat} (ha : a < nm) (hb : b < nm) (hab : ¬ a = b) {k : Int32} (h1c : nI 1 ≤ (q_pv (q_I h 36 (a * 8 + b)) (q_s8 (q_cr h) (8 * a)) k)) (h2c : (q_pv (q_I h 36 (a * 8 + b)) (q_s8 (q_cr h) (8 * a)) k) ≤ nI 9999 - q_s8 (q_cr h) (8 * b)) : q_Ct l g 4 mX9_repay [.ref 0, .int (nI a), .int (nI b), .int k] h (fun r h1 => r = some (.int (q_pv (q_I h 36 (a * 8 + b)) (q_s8 (q_cr h) (8 * a)) k)) ∧ rk_did h x s h1 (nI (a * 8 + b)) (q_I h 36 (a * 8 + b)) (-1) ∧ q_I h1 35 = (q_mvc a b a (q_I h 35) (q_pv (q_I h 36 (a * 8 + b)) (q_s8 (q_cr h) (8 * a)) k) 9).1 ∧ q_I h1 36 = upd (q_I h 36) (a * 8 + b) (q_I h 36 (a * 8 + b) - (q_pv (q_I h 36 (a * 8 + b)) (q_s8 (q_cr h) (8 * a)) k)) ∧ q_I h1 34 = q_I h 34 ∧ q_I h1 37 = q_I h 37 ∧ q_I h1 38 = q_I h 38 ∧ q_I h1 39 = q_I h 39) := by
  obtain ⟨P0, P1, P2, P2b, P3, P3b, P4, P4b, P5, P5b, P6, P6b⟩ := id hp
  rcases P1 with rfl | rfl
  · refine q_CtV mvX9_repay (Nat.le_of_ble_eq_true rfl) ?_
    refine xe_aload_n dX9_repay_0 rfl ?_
    refine xe_iload_n dX9_repay_1 rfl ?_
    refine xe_iload_n dX9_repay_2 rfl ?_
    refine xe_callVI (d' := 1) (y' := mX9_areTwoMen) dX9_repay_3 mlX9_167 mvX9_areTwoMen rfl (st0 hs) (by decide) rfl (by decide) (by decide) (Nat.le_of_ble_eq_true rfl) (c_X9_areTwoMen_t l g _ (by exact hs) (by exact hp) (by omega) (by omega) (by omega)) rfl ?_
    refine xn_if_ne (tgt := 11) dX9_repay_6 rfl (by omega) (fun c1 => ?_) (fun c1 => ?_)
    · refine xe_iload_n dX9_repay_11 rfl ?_
      refine xe_bipush dX9_repay_12 kb_8 ?_
      refine xn_imul dX9_repay_14 ?_
      refine xe_iload_n dX9_repay_15 rfl ?_
      refine xn_iadd dX9_repay_16 ?_
      refine xe_istore dX9_repay_17 (by decide) rfl ?_
      refine xe_iload_n dX9_repay_19 rfl ?_
      refine xe_aload_n dX9_repay_20 rfl ?_
      refine xe_getP dX9_repay_21 flX9_36 (st0 hs) (by decide) rfl (sp0_4 hs) ?_
      refine xe_getP dX9_repay_24 flX9_171 (st34 hs) (by decide) rfl (sp34_1 hs) ?_
      refine xe_iload dX9_repay_27 rfl ?_
      refine xn_ialdv dX9_repay_29 (st36 hs) (by omega) (by decide) (v := ((q_I h 36) ((a * 8) + b))) (rfl) ?_
      refine xe_aload_n dX9_repay_30 rfl ?_
      refine xe_getP dX9_repay_31 flX9_36 (st0 hs) (by decide) rfl (sp0_4 hs) ?_
      refine xe_iload_n dX9_repay_34 rfl ?_
      refine xe_callVI (d' := 0) (y' := mX6_inRow) dX9_repay_35 mlX9_140 mvX6_inRow rfl (st34 hs) (by decide) rfl (by decide) (by decide) (Nat.le_of_ble_eq_true rfl) (c_X6_inRow l g _ (by exact hs) _ (by omega)) rfl ?_
      refine xe_top (v' := q_s8 (q_cr h) (8 * a)) (q_cr_in h (by omega)) ?_
      refine xe_min dX9_repay_38 mlX9_197 q_mmin (by decide) (Nat.le_of_ble_eq_true rfl) ?_
      refine xe_min dX9_repay_41 mlX9_197 q_mmin (by decide) (Nat.le_of_ble_eq_true rfl) ?_
      refine xe_top (v' := (q_pv (q_I h 36 (a * 8 + b)) (q_s8 (q_cr h) (8 * a)) k)) (rfl) ?_
      refine xe_istore dX9_repay_44 (by decide) rfl ?_
      refine xe_iload dX9_repay_46 rfl ?_
      refine xe_iconst dX9_repay_48 kc_1 ?_
      refine xe_icmp_lt (tgt := 62) dX9_repay_49 rfl (fun c2 => ?_) (fun c2 => ?_)
      · exact absurd h1c (Int32.not_le.mpr c2)
      · refine xe_aload_n dX9_repay_52 rfl ?_
        refine xe_iload_n dX9_repay_53 rfl ?_
        refine xe_iload dX9_repay_54 rfl ?_
        refine xe_callVI (d' := 1) (y' := mX9_hasRoom) dX9_repay_56 mlX9_269 mvX9_hasRoom rfl (st0 hs) (by decide) rfl (by decide) (by decide) (Nat.le_of_ble_eq_true rfl) (c_X9_hasRoom_t l g _ (by exact hs) (by omega) (h2c)) rfl ?_
        refine xn_if_ne (tgt := 64) dX9_repay_59 rfl (by omega) (fun c3 => ?_) (fun c3 => ?_)
        · refine xe_aload_n dX9_repay_64 rfl ?_
          refine xe_getP dX9_repay_65 flX9_51 (st0 hs) (by decide) rfl (sp0_7 hs) ?_
          refine xe_aload_n dX9_repay_68 rfl ?_
          refine xe_getP dX9_repay_69 flX9_36 (st0 hs) (by decide) rfl (sp0_4 hs) ?_
          refine xe_callVRn (d' := 2) (y' := mX1_note) dX9_repay_72 mlX9_236 mvX1_note rfl (st42 hs) (by decide) rfl (by decide) (by decide) (Nat.le_of_ble_eq_true rfl) (c_X1_note l g _ (by exact hs) hx (by exact h42a) (by exact h42b) hs25) rfl (fun v h1 hq => ?_)
          obtain ⟨rfl, k_⟩ := hq
          have hs1 : q_Stat h1 := q_Stat_2 k_.1 (by exact hs)
          refine xe_aload_n dX9_repay_75 rfl ?_
          refine xe_getP dX9_repay_76 flX9_36 (st0 hs1) (by decide) rfl (sp0_4 hs1) ?_
          refine xe_iload dX9_repay_79 rfl ?_
          refine xe_callVV (d' := 0) (y' := mX0_keepDebt) dX9_repay_81 mlX9_272 mvX0_keepDebt rfl (stD hs1 hx) (by decide) rfl (by decide) (by decide) (Nat.le_of_ble_eq_true rfl) (c_X0_keepDebt l g _ (by exact hs1) hx (by omega)) rfl ?_
          obtain ⟨h2, hg⟩ : ∃ z, z = q_wI h1 (44 + 2 * x) (upd (upd (q_I h1 (44 + 2 * x)) 3 (nI (a * 8 + b))) 4 (q_I h1 36 (a * 8 + b))) := ⟨_, rfl⟩
          refine xe_heap (h2 := h2) hg.symm ?_
          have k2_ := rk_nd_debt (a := a * 8 + b) k_ (q_I h1 36 (a * 8 + b))
          rw [← hg] at k2_
          have hs2 : q_Stat h2 := q_Stat_2 k2_.1 (by exact hs)
          refine xe_aload_n dX9_repay_84 rfl ?_
          refine xe_getP dX9_repay_85 flX9_36 (st0 hs2) (by decide) rfl (sp0_4 hs2) ?_
          refine xe_iload_n dX9_repay_88 rfl ?_
          refine xe_iload_n dX9_repay_89 rfl ?_
          refine xe_iload dX9_repay_90 rfl ?_
          refine xe_callVI (d' := 2) (y' := mX6_pluck) dX9_repay_92 mlX9_240 mvX6_pluck rfl (st34 hs2) (by decide) rfl (by decide) (by decide) (Nat.le_of_ble_eq_true rfl) (c_X6_pluck l g _ (by exact hs2) _ _ _ (by omega) (by omega)) rfl ?_
          refine xe_pop dX9_repay_95 rfl ?_
          refine xe_aload_n dX9_repay_96 rfl ?_
          refine xe_getP dX9_repay_97 flX9_36 (st0 hs2) (by decide) rfl (sp0_4 hs2) ?_
          refine xe_getP dX9_repay_100 flX9_171 (st34 hs2) (by decide) rfl (sp34_1 hs2) ?_
          refine xe_iload dX9_repay_103 rfl ?_
          refine xe_dup2 dX9_repay_105 rfl rfl ?_
          refine xn_ialdv dX9_repay_106 (st36 hs2) (by omega) (by decide) (v := ((q_I h2 36) ((a * 8) + b))) (rfl) ?_
          refine xe_iload dX9_repay_107 rfl ?_
          refine xe_isub dX9_repay_109 ?_
          refine xn_iast dX9_repay_110 (st36 hs2) (by omega) (by decide) ?_
          refine xe_iload dX9_repay_111 rfl ?_
          refine xe_ireturn dX9_repay_113 rfl (by first | rfl | decide +kernel) ?_
          have e36 : q_I h1 36 = q_I h 36 := rk_nd_r k_ (r := 36) (by decide) (by decide)
          rw [e36] at k2_
          have f36 : q_I h2 36 = q_I h 36 := rk_nd_r k2_ (r := 36) (by decide) (by decide)
          exact ⟨rfl, rk_did_of q_out_r k2_ (by repeat (first | exact q_out_r | refine q_out_w rfl ?_)), by show (q_mvc a b a (q_I h2 35) _ 9).1 = _; rw [rk_nd_r k2_ (r := 35) (by decide) (by decide)], by show upd (q_I h2 36) _ (q_I h2 36 _ - _) = _; rw [f36], rk_nd_r k2_ (r := 34) (by decide) (by decide), rk_nd_r k2_ (r := 37) (by decide) (by decide), rk_nd_r k2_ (r := 38) (by decide) (by decide), rk_nd_r k2_ (r := 39) (by decide) (by decide)⟩
        · omega
    · omega
  · refine q_CtV mvX9_repay (Nat.le_of_ble_eq_true rfl) ?_
    refine xe_aload_n dX9_repay_0 rfl ?_
    refine xe_iload_n dX9_repay_1 rfl ?_
    refine xe_iload_n dX9_repay_2 rfl ?_
    refine xe_callVI (d' := 1) (y' := mX9_areTwoMen) dX9_repay_3 mlX9_167 mvX9_areTwoMen rfl (st0 hs) (by decide) rfl (by decide) (by decide) (Nat.le_of_ble_eq_true rfl) (c_X9_areTwoMen_t l g _ (by exact hs) (by exact hp) (by omega) (by omega) (by omega)) rfl ?_
    refine xn_if_ne (tgt := 11) dX9_repay_6 rfl (by omega) (fun c1 => ?_) (fun c1 => ?_)
    · refine xe_iload_n dX9_repay_11 rfl ?_
      refine xe_bipush dX9_repay_12 kb_8 ?_
      refine xn_imul dX9_repay_14 ?_
      refine xe_iload_n dX9_repay_15 rfl ?_
      refine xn_iadd dX9_repay_16 ?_
      refine xe_istore dX9_repay_17 (by decide) rfl ?_
      refine xe_iload_n dX9_repay_19 rfl ?_
      refine xe_aload_n dX9_repay_20 rfl ?_
      refine xe_getP dX9_repay_21 flX9_36 (st0 hs) (by decide) rfl (sp0_4 hs) ?_
      refine xe_getP dX9_repay_24 flX9_171 (st34 hs) (by decide) rfl (sp34_1 hs) ?_
      refine xe_iload dX9_repay_27 rfl ?_
      refine xn_ialdv dX9_repay_29 (st36 hs) (by omega) (by decide) (v := ((q_I h 36) ((a * 8) + b))) (rfl) ?_
      refine xe_aload_n dX9_repay_30 rfl ?_
      refine xe_getP dX9_repay_31 flX9_36 (st0 hs) (by decide) rfl (sp0_4 hs) ?_
      refine xe_iload_n dX9_repay_34 rfl ?_
      refine xe_callVI (d' := 0) (y' := mX6_inRow) dX9_repay_35 mlX9_140 mvX6_inRow rfl (st34 hs) (by decide) rfl (by decide) (by decide) (Nat.le_of_ble_eq_true rfl) (c_X6_inRow l g _ (by exact hs) _ (by omega)) rfl ?_
      refine xe_top (v' := q_s8 (q_cr h) (8 * a)) (q_cr_in h (by omega)) ?_
      refine xe_min dX9_repay_38 mlX9_197 q_mmin (by decide) (Nat.le_of_ble_eq_true rfl) ?_
      refine xe_min dX9_repay_41 mlX9_197 q_mmin (by decide) (Nat.le_of_ble_eq_true rfl) ?_
      refine xe_top (v' := (q_pv (q_I h 36 (a * 8 + b)) (q_s8 (q_cr h) (8 * a)) k)) (rfl) ?_
      refine xe_istore dX9_repay_44 (by decide) rfl ?_
      refine xe_iload dX9_repay_46 rfl ?_
      refine xe_iconst dX9_repay_48 kc_1 ?_
      refine xe_icmp_lt (tgt := 62) dX9_repay_49 rfl (fun c2 => ?_) (fun c2 => ?_)
      · exact absurd h1c (Int32.not_le.mpr c2)
      · refine xe_aload_n dX9_repay_52 rfl ?_
        refine xe_iload_n dX9_repay_53 rfl ?_
        refine xe_iload dX9_repay_54 rfl ?_
        refine xe_callVI (d' := 1) (y' := mX9_hasRoom) dX9_repay_56 mlX9_269 mvX9_hasRoom rfl (st0 hs) (by decide) rfl (by decide) (by decide) (Nat.le_of_ble_eq_true rfl) (c_X9_hasRoom_t l g _ (by exact hs) (by omega) (h2c)) rfl ?_
        refine xn_if_ne (tgt := 64) dX9_repay_59 rfl (by omega) (fun c3 => ?_) (fun c3 => ?_)
        · refine xe_aload_n dX9_repay_64 rfl ?_
          refine xe_getP dX9_repay_65 flX9_51 (st0 hs) (by decide) rfl (sp0_7 hs) ?_
          refine xe_aload_n dX9_repay_68 rfl ?_
          refine xe_getP dX9_repay_69 flX9_36 (st0 hs) (by decide) rfl (sp0_4 hs) ?_
          refine xe_callVRn (d' := 2) (y' := mX1_note) dX9_repay_72 mlX9_236 mvX1_note rfl (st42 hs) (by decide) rfl (by decide) (by decide) (Nat.le_of_ble_eq_true rfl) (c_X1_note l g _ (by exact hs) hx (by exact h42a) (by exact h42b) hs25) rfl (fun v h1 hq => ?_)
          obtain ⟨rfl, k_⟩ := hq
          have hs1 : q_Stat h1 := q_Stat_2 k_.1 (by exact hs)
          refine xe_aload_n dX9_repay_75 rfl ?_
          refine xe_getP dX9_repay_76 flX9_36 (st0 hs1) (by decide) rfl (sp0_4 hs1) ?_
          refine xe_iload dX9_repay_79 rfl ?_
          refine xe_callVV (d' := 0) (y' := mX0_keepDebt) dX9_repay_81 mlX9_272 mvX0_keepDebt rfl (stD hs1 hx) (by decide) rfl (by decide) (by decide) (Nat.le_of_ble_eq_true rfl) (c_X0_keepDebt l g _ (by exact hs1) hx (by omega)) rfl ?_
          obtain ⟨h2, hg⟩ : ∃ z, z = q_wI h1 (44 + 2 * x) (upd (upd (q_I h1 (44 + 2 * x)) 3 (nI (a * 8 + b))) 4 (q_I h1 36 (a * 8 + b))) := ⟨_, rfl⟩
          refine xe_heap (h2 := h2) hg.symm ?_
          have k2_ := rk_nd_debt (a := a * 8 + b) k_ (q_I h1 36 (a * 8 + b))
          rw [← hg] at k2_
          have hs2 : q_Stat h2 := q_Stat_2 k2_.1 (by exact hs)
          refine xe_aload_n dX9_repay_84 rfl ?_
          refine xe_getP dX9_repay_85 flX9_36 (st0 hs2) (by decide) rfl (sp0_4 hs2) ?_
          refine xe_iload_n dX9_repay_88 rfl ?_
          refine xe_iload_n dX9_repay_89 rfl ?_
          refine xe_iload dX9_repay_90 rfl ?_
          refine xe_callVI (d' := 2) (y' := mX6_pluck) dX9_repay_92 mlX9_240 mvX6_pluck rfl (st34 hs2) (by decide) rfl (by decide) (by decide) (Nat.le_of_ble_eq_true rfl) (c_X6_pluck l g _ (by exact hs2) _ _ _ (by omega) (by omega)) rfl ?_
          refine xe_pop dX9_repay_95 rfl ?_
          refine xe_aload_n dX9_repay_96 rfl ?_
          refine xe_getP dX9_repay_97 flX9_36 (st0 hs2) (by decide) rfl (sp0_4 hs2) ?_
          refine xe_getP dX9_repay_100 flX9_171 (st34 hs2) (by decide) rfl (sp34_1 hs2) ?_
          refine xe_iload dX9_repay_103 rfl ?_
          refine xe_dup2 dX9_repay_105 rfl rfl ?_
          refine xn_ialdv dX9_repay_106 (st36 hs2) (by omega) (by decide) (v := ((q_I h2 36) ((a * 8) + b))) (rfl) ?_
          refine xe_iload dX9_repay_107 rfl ?_
          refine xe_isub dX9_repay_109 ?_
          refine xn_iast dX9_repay_110 (st36 hs2) (by omega) (by decide) ?_
          refine xe_iload dX9_repay_111 rfl ?_
          refine xe_ireturn dX9_repay_113 rfl (by first | rfl | decide +kernel) ?_
          have e36 : q_I h1 36 = q_I h 36 := rk_nd_r k_ (r := 36) (by decide) (by decide)
          rw [e36] at k2_
          have f36 : q_I h2 36 = q_I h 36 := rk_nd_r k2_ (r := 36) (by decide) (by decide)
          exact ⟨rfl, rk_did_of q_out_r k2_ (by repeat (first | exact q_out_r | refine q_out_w rfl ?_)), by show (q_mvc a b a (q_I h2 35) _ 9).1 = _; rw [rk_nd_r k2_ (r := 35) (by decide) (by decide)], by show upd (q_I h2 36) _ (q_I h2 36 _ - _) = _; rw [f36], rk_nd_r k2_ (r := 34) (by decide) (by decide), rk_nd_r k2_ (r := 37) (by decide) (by decide), rk_nd_r k2_ (r := 38) (by decide) (by decide), rk_nd_r k2_ (r := 39) (by decide) (by decide)⟩
        · omega
    · omega
theorem c_X9_repay_n1 (l : Launch) (g : q_GP) (h : q_H) (hs : q_Stat h) {p nm nd nc mo n : Nat} (hp : rk_P h p nm nd nc mo n) {a b : Nat} (ha : a < nm) (hb : b < nm) (hab : ¬ a = b) {k : Int32} (h1c : ¬ nI 1 ≤ (q_pv (q_I h 36 (a * 8 + b)) (q_s8 (q_cr h) (8 * a)) k)) : q_Cd l g 4 mX9_repay [.ref 0, .int (nI a), .int (nI b), .int k] h (some (.int (-1))) h := by
  obtain ⟨P0, P1, P2, P2b, P3, P3b, P4, P4b, P5, P5b, P6, P6b⟩ := id hp
  rcases P1 with rfl | rfl
  · refine q_CdV mvX9_repay (Nat.le_of_ble_eq_true rfl) ?_
    refine xe_aload_n dX9_repay_0 rfl ?_
    refine xe_iload_n dX9_repay_1 rfl ?_
    refine xe_iload_n dX9_repay_2 rfl ?_
    refine xe_callVI (d' := 1) (y' := mX9_areTwoMen) dX9_repay_3 mlX9_167 mvX9_areTwoMen rfl (st0 hs) (by decide) rfl (by decide) (by decide) (Nat.le_of_ble_eq_true rfl) (c_X9_areTwoMen_t l g _ (by exact hs) (by exact hp) (by omega) (by omega) (by omega)) rfl ?_
    refine xn_if_ne (tgt := 11) dX9_repay_6 rfl (by omega) (fun c1 => ?_) (fun c1 => ?_)
    · refine xe_iload_n dX9_repay_11 rfl ?_
      refine xe_bipush dX9_repay_12 kb_8 ?_
      refine xn_imul dX9_repay_14 ?_
      refine xe_iload_n dX9_repay_15 rfl ?_
      refine xn_iadd dX9_repay_16 ?_
      refine xe_istore dX9_repay_17 (by decide) rfl ?_
      refine xe_iload_n dX9_repay_19 rfl ?_
      refine xe_aload_n dX9_repay_20 rfl ?_
      refine xe_getP dX9_repay_21 flX9_36 (st0 hs) (by decide) rfl (sp0_4 hs) ?_
      refine xe_getP dX9_repay_24 flX9_171 (st34 hs) (by decide) rfl (sp34_1 hs) ?_
      refine xe_iload dX9_repay_27 rfl ?_
      refine xn_ialdv dX9_repay_29 (st36 hs) (by omega) (by decide) (v := ((q_I h 36) ((a * 8) + b))) (rfl) ?_
      refine xe_aload_n dX9_repay_30 rfl ?_
      refine xe_getP dX9_repay_31 flX9_36 (st0 hs) (by decide) rfl (sp0_4 hs) ?_
      refine xe_iload_n dX9_repay_34 rfl ?_
      refine xe_callVI (d' := 0) (y' := mX6_inRow) dX9_repay_35 mlX9_140 mvX6_inRow rfl (st34 hs) (by decide) rfl (by decide) (by decide) (Nat.le_of_ble_eq_true rfl) (c_X6_inRow l g _ (by exact hs) _ (by omega)) rfl ?_
      refine xe_top (v' := q_s8 (q_cr h) (8 * a)) (q_cr_in h (by omega)) ?_
      refine xe_min dX9_repay_38 mlX9_197 q_mmin (by decide) (Nat.le_of_ble_eq_true rfl) ?_
      refine xe_min dX9_repay_41 mlX9_197 q_mmin (by decide) (Nat.le_of_ble_eq_true rfl) ?_
      refine xe_top (v' := (q_pv (q_I h 36 (a * 8 + b)) (q_s8 (q_cr h) (8 * a)) k)) (rfl) ?_
      refine xe_istore dX9_repay_44 (by decide) rfl ?_
      refine xe_iload dX9_repay_46 rfl ?_
      refine xe_iconst dX9_repay_48 kc_1 ?_
      refine xe_icmp_lt (tgt := 62) dX9_repay_49 rfl (fun c2 => ?_) (fun c2 => ?_)
      · refine xe_iconst dX9_repay_62 kc_m1 ?_
        refine xe_ireturn dX9_repay_63 rfl (by first | rfl | decide +kernel) ?_
        exact ⟨rfl, rfl⟩
      · exact absurd (Int32.not_lt.mp c2) h1c
    · omega
  · refine q_CdV mvX9_repay (Nat.le_of_ble_eq_true rfl) ?_
    refine xe_aload_n dX9_repay_0 rfl ?_
    refine xe_iload_n dX9_repay_1 rfl ?_
    refine xe_iload_n dX9_repay_2 rfl ?_
    refine xe_callVI (d' := 1) (y' := mX9_areTwoMen) dX9_repay_3 mlX9_167 mvX9_areTwoMen rfl (st0 hs) (by decide) rfl (by decide) (by decide) (Nat.le_of_ble_eq_true rfl) (c_X9_areTwoMen_t l g _ (by exact hs) (by exact hp) (by omega) (by omega) (by omega)) rfl ?_
    refine xn_if_ne (tgt := 11) dX9_repay_6 rfl (by omega) (fun c1 => ?_) (fun c1 => ?_)
    · refine xe_iload_n dX9_repay_11 rfl ?_
      refine xe_bipush dX9_repay_12 kb_8 ?_
      refine xn_imul dX9_repay_14 ?_
      refine xe_iload_n dX9_repay_15 rfl ?_
      refine xn_iadd dX9_repay_16 ?_
      refine xe_istore dX9_repay_17 (by decide) rfl ?_
      refine xe_iload_n dX9_repay_19 rfl ?_
      refine xe_aload_n dX9_repay_20 rfl ?_
      refine xe_getP dX9_repay_21 flX9_36 (st0 hs) (by decide) rfl (sp0_4 hs) ?_
      refine xe_getP dX9_repay_24 flX9_171 (st34 hs) (by decide) rfl (sp34_1 hs) ?_
      refine xe_iload dX9_repay_27 rfl ?_
      refine xn_ialdv dX9_repay_29 (st36 hs) (by omega) (by decide) (v := ((q_I h 36) ((a * 8) + b))) (rfl) ?_
      refine xe_aload_n dX9_repay_30 rfl ?_
      refine xe_getP dX9_repay_31 flX9_36 (st0 hs) (by decide) rfl (sp0_4 hs) ?_
      refine xe_iload_n dX9_repay_34 rfl ?_
      refine xe_callVI (d' := 0) (y' := mX6_inRow) dX9_repay_35 mlX9_140 mvX6_inRow rfl (st34 hs) (by decide) rfl (by decide) (by decide) (Nat.le_of_ble_eq_true rfl) (c_X6_inRow l g _ (by exact hs) _ (by omega)) rfl ?_
      refine xe_top (v' := q_s8 (q_cr h) (8 * a)) (q_cr_in h (by omega)) ?_
      refine xe_min dX9_repay_38 mlX9_197 q_mmin (by decide) (Nat.le_of_ble_eq_true rfl) ?_
      refine xe_min dX9_repay_41 mlX9_197 q_mmin (by decide) (Nat.le_of_ble_eq_true rfl) ?_
      refine xe_top (v' := (q_pv (q_I h 36 (a * 8 + b)) (q_s8 (q_cr h) (8 * a)) k)) (rfl) ?_
      refine xe_istore dX9_repay_44 (by decide) rfl ?_
      refine xe_iload dX9_repay_46 rfl ?_
      refine xe_iconst dX9_repay_48 kc_1 ?_
      refine xe_icmp_lt (tgt := 62) dX9_repay_49 rfl (fun c2 => ?_) (fun c2 => ?_)
      · refine xe_iconst dX9_repay_62 kc_m1 ?_
        refine xe_ireturn dX9_repay_63 rfl (by first | rfl | decide +kernel) ?_
        exact ⟨rfl, rfl⟩
      · exact absurd (Int32.not_lt.mp c2) h1c
    · omega
theorem c_X9_repay_n2 (l : Launch) (g : q_GP) (h : q_H) (hs : q_Stat h) {p nm nd nc mo n : Nat} (hp : rk_P h p nm nd nc mo n) {a b : Nat} (ha : a < nm) (hb : b < nm) (hab : ¬ a = b) {k : Int32} (h1c : nI 1 ≤ (q_pv (q_I h 36 (a * 8 + b)) (q_s8 (q_cr h) (8 * a)) k)) (h2c : ¬ (q_pv (q_I h 36 (a * 8 + b)) (q_s8 (q_cr h) (8 * a)) k) ≤ nI 9999 - q_s8 (q_cr h) (8 * b)) : q_Cd l g 4 mX9_repay [.ref 0, .int (nI a), .int (nI b), .int k] h (some (.int (-1))) h := by
  obtain ⟨P0, P1, P2, P2b, P3, P3b, P4, P4b, P5, P5b, P6, P6b⟩ := id hp
  rcases P1 with rfl | rfl
  · refine q_CdV mvX9_repay (Nat.le_of_ble_eq_true rfl) ?_
    refine xe_aload_n dX9_repay_0 rfl ?_
    refine xe_iload_n dX9_repay_1 rfl ?_
    refine xe_iload_n dX9_repay_2 rfl ?_
    refine xe_callVI (d' := 1) (y' := mX9_areTwoMen) dX9_repay_3 mlX9_167 mvX9_areTwoMen rfl (st0 hs) (by decide) rfl (by decide) (by decide) (Nat.le_of_ble_eq_true rfl) (c_X9_areTwoMen_t l g _ (by exact hs) (by exact hp) (by omega) (by omega) (by omega)) rfl ?_
    refine xn_if_ne (tgt := 11) dX9_repay_6 rfl (by omega) (fun c1 => ?_) (fun c1 => ?_)
    · refine xe_iload_n dX9_repay_11 rfl ?_
      refine xe_bipush dX9_repay_12 kb_8 ?_
      refine xn_imul dX9_repay_14 ?_
      refine xe_iload_n dX9_repay_15 rfl ?_
      refine xn_iadd dX9_repay_16 ?_
      refine xe_istore dX9_repay_17 (by decide) rfl ?_
      refine xe_iload_n dX9_repay_19 rfl ?_
      refine xe_aload_n dX9_repay_20 rfl ?_
      refine xe_getP dX9_repay_21 flX9_36 (st0 hs) (by decide) rfl (sp0_4 hs) ?_
      refine xe_getP dX9_repay_24 flX9_171 (st34 hs) (by decide) rfl (sp34_1 hs) ?_
      refine xe_iload dX9_repay_27 rfl ?_
      refine xn_ialdv dX9_repay_29 (st36 hs) (by omega) (by decide) (v := ((q_I h 36) ((a * 8) + b))) (rfl) ?_
      refine xe_aload_n dX9_repay_30 rfl ?_
      refine xe_getP dX9_repay_31 flX9_36 (st0 hs) (by decide) rfl (sp0_4 hs) ?_
      refine xe_iload_n dX9_repay_34 rfl ?_
      refine xe_callVI (d' := 0) (y' := mX6_inRow) dX9_repay_35 mlX9_140 mvX6_inRow rfl (st34 hs) (by decide) rfl (by decide) (by decide) (Nat.le_of_ble_eq_true rfl) (c_X6_inRow l g _ (by exact hs) _ (by omega)) rfl ?_
      refine xe_top (v' := q_s8 (q_cr h) (8 * a)) (q_cr_in h (by omega)) ?_
      refine xe_min dX9_repay_38 mlX9_197 q_mmin (by decide) (Nat.le_of_ble_eq_true rfl) ?_
      refine xe_min dX9_repay_41 mlX9_197 q_mmin (by decide) (Nat.le_of_ble_eq_true rfl) ?_
      refine xe_top (v' := (q_pv (q_I h 36 (a * 8 + b)) (q_s8 (q_cr h) (8 * a)) k)) (rfl) ?_
      refine xe_istore dX9_repay_44 (by decide) rfl ?_
      refine xe_iload dX9_repay_46 rfl ?_
      refine xe_iconst dX9_repay_48 kc_1 ?_
      refine xe_icmp_lt (tgt := 62) dX9_repay_49 rfl (fun c2 => ?_) (fun c2 => ?_)
      · exact absurd h1c (Int32.not_le.mpr c2)
      · refine xe_aload_n dX9_repay_52 rfl ?_
        refine xe_iload_n dX9_repay_53 rfl ?_
        refine xe_iload dX9_repay_54 rfl ?_
        refine xe_callVI (d' := 1) (y' := mX9_hasRoom) dX9_repay_56 mlX9_269 mvX9_hasRoom rfl (st0 hs) (by decide) rfl (by decide) (by decide) (Nat.le_of_ble_eq_true rfl) (c_X9_hasRoom_f l g _ (by exact hs) (by omega) (h2c)) rfl ?_
        refine xn_if_ne (tgt := 64) dX9_repay_59 rfl (by omega) (fun c3 => ?_) (fun c3 => ?_)
        · omega
        · refine xe_iconst dX9_repay_62 kc_m1 ?_
          refine xe_ireturn dX9_repay_63 rfl (by first | rfl | decide +kernel) ?_
          exact ⟨rfl, rfl⟩
    · omega
  · refine q_CdV mvX9_repay (Nat.le_of_ble_eq_true rfl) ?_
    refine xe_aload_n dX9_repay_0 rfl ?_
    refine xe_iload_n dX9_repay_1 rfl ?_
    refine xe_iload_n dX9_repay_2 rfl ?_
    refine xe_callVI (d' := 1) (y' := mX9_areTwoMen) dX9_repay_3 mlX9_167 mvX9_areTwoMen rfl (st0 hs) (by decide) rfl (by decide) (by decide) (Nat.le_of_ble_eq_true rfl) (c_X9_areTwoMen_t l g _ (by exact hs) (by exact hp) (by omega) (by omega) (by omega)) rfl ?_
    refine xn_if_ne (tgt := 11) dX9_repay_6 rfl (by omega) (fun c1 => ?_) (fun c1 => ?_)
    · refine xe_iload_n dX9_repay_11 rfl ?_
      refine xe_bipush dX9_repay_12 kb_8 ?_
      refine xn_imul dX9_repay_14 ?_
      refine xe_iload_n dX9_repay_15 rfl ?_
      refine xn_iadd dX9_repay_16 ?_
      refine xe_istore dX9_repay_17 (by decide) rfl ?_
      refine xe_iload_n dX9_repay_19 rfl ?_
      refine xe_aload_n dX9_repay_20 rfl ?_
      refine xe_getP dX9_repay_21 flX9_36 (st0 hs) (by decide) rfl (sp0_4 hs) ?_
      refine xe_getP dX9_repay_24 flX9_171 (st34 hs) (by decide) rfl (sp34_1 hs) ?_
      refine xe_iload dX9_repay_27 rfl ?_
      refine xn_ialdv dX9_repay_29 (st36 hs) (by omega) (by decide) (v := ((q_I h 36) ((a * 8) + b))) (rfl) ?_
      refine xe_aload_n dX9_repay_30 rfl ?_
      refine xe_getP dX9_repay_31 flX9_36 (st0 hs) (by decide) rfl (sp0_4 hs) ?_
      refine xe_iload_n dX9_repay_34 rfl ?_
      refine xe_callVI (d' := 0) (y' := mX6_inRow) dX9_repay_35 mlX9_140 mvX6_inRow rfl (st34 hs) (by decide) rfl (by decide) (by decide) (Nat.le_of_ble_eq_true rfl) (c_X6_inRow l g _ (by exact hs) _ (by omega)) rfl ?_
      refine xe_top (v' := q_s8 (q_cr h) (8 * a)) (q_cr_in h (by omega)) ?_
      refine xe_min dX9_repay_38 mlX9_197 q_mmin (by decide) (Nat.le_of_ble_eq_true rfl) ?_
      refine xe_min dX9_repay_41 mlX9_197 q_mmin (by decide) (Nat.le_of_ble_eq_true rfl) ?_
      refine xe_top (v' := (q_pv (q_I h 36 (a * 8 + b)) (q_s8 (q_cr h) (8 * a)) k)) (rfl) ?_
      refine xe_istore dX9_repay_44 (by decide) rfl ?_
      refine xe_iload dX9_repay_46 rfl ?_
      refine xe_iconst dX9_repay_48 kc_1 ?_
      refine xe_icmp_lt (tgt := 62) dX9_repay_49 rfl (fun c2 => ?_) (fun c2 => ?_)
      · exact absurd h1c (Int32.not_le.mpr c2)
      · refine xe_aload_n dX9_repay_52 rfl ?_
        refine xe_iload_n dX9_repay_53 rfl ?_
        refine xe_iload dX9_repay_54 rfl ?_
        refine xe_callVI (d' := 1) (y' := mX9_hasRoom) dX9_repay_56 mlX9_269 mvX9_hasRoom rfl (st0 hs) (by decide) rfl (by decide) (by decide) (Nat.le_of_ble_eq_true rfl) (c_X9_hasRoom_f l g _ (by exact hs) (by omega) (h2c)) rfl ?_
        refine xn_if_ne (tgt := 64) dX9_repay_59 rfl (by omega) (fun c3 => ?_) (fun c3 => ?_)
        · omega
        · refine xe_iconst dX9_repay_62 kc_m1 ?_
          refine xe_ireturn dX9_repay_63 rfl (by first | rfl | decide +kernel) ?_
          exact ⟨rfl, rfl⟩
    · omega
theorem c_X9_repay_f (l : Launch) (g : q_GP) (h : q_H) (hs : q_Stat h) {p nm nd nc mo n : Nat} (hp : rk_P h p nm nd nc mo n) (x z k : Int32) (hxz : ¬ q_two x z nm) : q_Cd l g 4 mX9_repay [.ref 0, .int x, .int z, .int k] h (some (.int (-1))) h := by
  obtain ⟨P0, P1, P2, P2b, P3, P3b, P4, P4b, P5, P5b, P6, P6b⟩ := id hp
  rcases P1 with rfl | rfl
  · refine q_CdV mvX9_repay (Nat.le_of_ble_eq_true rfl) ?_
    refine xe_aload_n dX9_repay_0 rfl ?_
    refine xe_iload_n dX9_repay_1 rfl ?_
    refine xe_iload_n dX9_repay_2 rfl ?_
    refine xe_callVI (d' := 1) (y' := mX9_areTwoMen) dX9_repay_3 mlX9_167 mvX9_areTwoMen rfl (st0 hs) (by decide) rfl (by decide) (by decide) (Nat.le_of_ble_eq_true rfl) (c_X9_areTwoMen_f l g _ (by exact hs) (by exact hp) _ _ hxz) rfl ?_
    refine xn_if_ne (tgt := 11) dX9_repay_6 rfl (by omega) (fun c1 => ?_) (fun c1 => ?_)
    · omega
    · refine xe_iconst dX9_repay_9 kc_m1 ?_
      refine xe_ireturn dX9_repay_10 rfl (by first | rfl | decide +kernel) ?_
      exact ⟨rfl, rfl⟩
  · refine q_CdV mvX9_repay (Nat.le_of_ble_eq_true rfl) ?_
    refine xe_aload_n dX9_repay_0 rfl ?_
    refine xe_iload_n dX9_repay_1 rfl ?_
    refine xe_iload_n dX9_repay_2 rfl ?_
    refine xe_callVI (d' := 1) (y' := mX9_areTwoMen) dX9_repay_3 mlX9_167 mvX9_areTwoMen rfl (st0 hs) (by decide) rfl (by decide) (by decide) (Nat.le_of_ble_eq_true rfl) (c_X9_areTwoMen_f l g _ (by exact hs) (by exact hp) _ _ hxz) rfl ?_
    refine xn_if_ne (tgt := 11) dX9_repay_6 rfl (by omega) (fun c1 => ?_) (fun c1 => ?_)
    · omega
    · refine xe_iconst dX9_repay_9 kc_m1 ?_
      refine xe_ireturn dX9_repay_10 rfl (by first | rfl | decide +kernel) ?_
      exact ⟨rfl, rfl⟩
