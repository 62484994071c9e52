/-! the class: hold, restore -/
theorem p0_lt {r k a : Nat} (h : q_p0 r k = some a) : r < 170 := by
  unfold q_p0 at h
  cases hl : q_pl[r]? with
  | none =>
    rw [hl] at h
    cases h
  | some row =>
    have := (List.getElem?_eq_some_iff.mp hl).1
    have hz : q_pl.length ≤ 170 := by decide +kernel
    omega
theorem sh_lt {r t n : Nat} (h : q_sh0[r]? = some (t, n)) : r < 170 := (List.getElem?_eq_some_iff.mp h).1
/-- older cells stay what they are -/
theorem q_Stat_x {h h1 : q_H} (hs : q_Stat h) (hN : q_N h ≤ q_N h1) (hT : ∀ r, r < 170 → q_T h1 r = q_T h r ∧ q_L h1 r = q_L h r) (hP : ∀ r k, r < 170 → q_p0 r k ≠ none → q_P h1 r k = q_P h r k) : q_Stat h1 := by
  refine ⟨fun r t n e => ?_, fun r k a e => ?_⟩
  · have := hs.1 r t n e
    obtain ⟨e1, e2⟩ := hT r (sh_lt e)
    exact ⟨Nat.lt_of_lt_of_le this.1 hN, e1.trans this.2.1, e2.trans this.2.2⟩
  · exact (hP r k (p0_lt e) (by rw [e]; exact fun q => by cases q)).trans (hs.2 r k a e)
theorem q_Stat_N {h : q_H} (hs : q_Stat h) : 170 ≤ q_N h := (hs.1 169 100 5160 rfl).1
def hd_T (b s : Nat) (h h1 : q_H) : Prop := h1.2 = h.2 ∧ (∀ r, r ≠ 41 → r < b ∨ b + 5 < r → q_I h1 r = q_I h r) ∧ sl_eq h h1 b ∧ q_I h1 41 = upd (q_I h 41) s (nI 1)
theorem hold_33 (l : Launch) (g : q_GP) (h : q_H) (hs : q_Stat h) {s b : Nat} (hs3 : s < 3) (hP : q_P h 40 s = some b) (hb : sl_at h b) : q_Ex l g 2 mX9_hold 33 [(0, .ref 0), (1, .int (nI s))] [] h (fun r h1 => r = some (.int (nI 1)) ∧ hd_T b s h h1) := by
  have h170 := hb.2.2.2.2.2.2.2.2.2.2
  refine xe_aload_n dX9_hold_33 rfl ?_
  refine xe_getP dX9_hold_34 flX9_40 (st0 hs) (by decide) rfl (sp0_5 hs) ?_
  refine xe_iload_n dX9_hold_37 rfl ?_
  refine xe_aald (a := 0) (t := 105) (t0 := 5) (v := .ref b) dX9_hold_38 (st40 hs) (by decide) rfl (vp_in_nI hs3 (by decide)) (by rw [nI_clamp (by omega), hP]) ?_
  refine xe_aload_n dX9_hold_39 rfl ?_
  refine xe_getP dX9_hold_40 flX9_36 (st0 hs) (by decide) rfl (sp0_4 hs) ?_
  refine xe_callV (d' := 1) (y' := mX6_copyFrom) (b := b) (as := [.ref 34]) (rest := []) dX9_hold_43 mlX9_283 mvX6_copyFrom rfl hb.1 (by decide) rfl (by decide) (by decide) (Nat.le_of_ble_eq_true rfl) (c_X6_copyFrom_s l g h hs hb) rfl (fun r h2 q => ?_)
  obtain ⟨rfl, q1, q2, q3⟩ := q
  have hs2 : q_Stat h2 := q_Stat_2 q1 hs
  refine xe_aload_n dX9_hold_46 rfl ?_
  refine xe_getP dX9_hold_47 flX9_44 (st0 hs2) (by decide) rfl (sp0_6 hs2) ?_
  refine xe_iload_n dX9_hold_50 rfl ?_
  refine xe_iconst dX9_hold_51 kc_1 ?_
  refine xn_zast dX9_hold_52 (st41 hs2) hs3 (by decide) rfl ?_
  refine xe_iconst dX9_hold_53 kc_1 ?_
  refine xe_ireturn dX9_hold_54 rfl rfl ?_
  refine ⟨rfl, q1, fun r h41 hr => (q_Ine h41).trans (q2 r hr), ⟨fun k hk => (congrFun (q_Ine (by omega)) k).trans (q3.1 k hk), fun k hk => (congrFun (q_Ine (by omega)) k).trans (q3.2.1 k hk), fun k hk => (congrFun (q_Ine (by omega)) k).trans (q3.2.2.1 k hk), fun k hk => (congrFun (q_Ine (by omega)) k).trans (q3.2.2.2.1 k hk), (congrFun (q_Ine (by omega)) 5).trans q3.2.2.2.2.1, (congrFun (q_Ine (by omega)) 6).trans q3.2.2.2.2.2⟩, ?_⟩
  rw [q_Iw, q2 41 (by omega)]
def hd_A (s : Nat) (h h1 : q_H) (b : Nat) : Prop := q_P h1 40 s = some b ∧ sl_at h1 b ∧ sl_eq h h1 b ∧ (∀ k, k ≠ s → q_P h1 40 k = q_P h 40 k) ∧ (∀ r, r < q_N h → r ≠ 41 → r < b ∨ b + 5 < r → q_I h1 r = q_I h r) ∧ q_I h1 41 = upd (q_I h 41) s (nI 1) ∧ (∀ r, r < q_N h → q_J h1 r = q_J h r ∧ q_T h1 r = q_T h r ∧ q_L h1 r = q_L h r) ∧ (∀ r, r < q_N h → r ≠ 40 → q_P h1 r = q_P h r) ∧ q_N h ≤ q_N h1 ∧ q_N h1 ≤ q_N h + 6 ∧ q_K h1 ≤ q_K h + 807 ∧ (q_P h 40 s = some b ∨ q_N h ≤ b) ∧ b + 5 < q_N h1
theorem c_X9_hold_o (l : Launch) (g : q_GP) (h : q_H) (hs : q_Stat h) {s b : Nat} (hs3 : s < 3) (hP : q_P h 40 s = some b) (hb : sl_at h b) : q_Ct l g 2 mX9_hold [.ref 0, .int (nI s)] h (fun r h1 => r = some (.int (nI 1)) ∧ ∃ b, hd_A s h h1 b) := by
  refine q_CtV mvX9_hold (Nat.le_of_ble_eq_true rfl) ?_
  refine xe_iload_n dX9_hold_0 rfl ?_
  refine xn_if_lt (tgt := 9) dX9_hold_1 rfl (by omega) ?_
  refine xe_iload_n dX9_hold_4 rfl ?_
  refine xe_iconst dX9_hold_5 kc_3 ?_
  refine xn_icmp_lt (tgt := 11) dX9_hold_6 rfl (by omega) (by decide) (fun _ => ?_) (fun q => absurd hs3 q)
  refine xe_aload_n dX9_hold_11 rfl ?_
  refine xe_getP dX9_hold_12 flX9_40 (st0 hs) (by decide) rfl (sp0_5 hs) ?_
  refine xe_iload_n dX9_hold_15 rfl ?_
  refine xe_aald (a := 0) (t := 105) (t0 := 5) (v := .ref b) dX9_hold_16 (st40 hs) (by decide) rfl (vp_in_nI hs3 (by decide)) (by rw [nI_clamp (by omega), hP]) ?_
  refine xe_ifnonnull (tgt := 33) dX9_hold_17 rfl ?_
  refine xe_post (fun r h1 q => ?_) (xe_locals (L' := [(0, .ref 0), (1, .int (nI s))]) ⟨rfl, rfl, trivial⟩ (hold_33 l g h hs hs3 hP hb))
  obtain ⟨q1, q2, q3, q4, q5⟩ := q
  have e2 : h1.2.2 = h.2.2 := congrArg (fun z => z.2) q2
  have eN : q_N h1 = q_N h := congrArg (fun z => z.2.2.2.2.1) q2
  have eK : q_K h1 = q_K h := congrArg (fun z => z.2.2.2.2.2) q2
  exact ⟨q1, b, (congrArg (fun z => z.2.1 40 s) q2).trans hP, sl_k hb e2, q4, fun k _ => congrArg (fun z => z.2.1 40 k) q2, fun r _ h41 hr => q3 r h41 hr, q5, fun r _ => ⟨congrArg (fun z => z.1 r) q2, congrArg (fun z => z.2.2.1 r) q2, congrArg (fun z => z.2.2.2.1 r) q2⟩, fun r _ _ => congrArg (fun z => z.2.1 r) q2, by rw [eN]; exact Nat.le_refl _, by omega, by omega, Or.inl hP, by rw [eN]; exact hb.2.2.2.2.2.2.2.2.2.1.1⟩
theorem c_X9_hold_n (l : Launch) (g : q_GP) (h : q_H) (hs : q_Stat h) {LL : Nat} {xs : Nat → Int32} (hX : q_GX g LL xs) {s : Nat} (hs3 : s < 3) (hP : q_P h 40 s = none) (hN : q_N h < 800000000) : q_Ct l g 2 mX9_hold [.ref 0, .int (nI s)] h (fun r h1 => r = some (.int (nI 1)) ∧ ∃ b, hd_A s h h1 b) := by
  have hN0 := q_Stat_N hs
  refine q_CtV mvX9_hold (Nat.le_of_ble_eq_true rfl) ?_
  refine xe_iload_n dX9_hold_0 rfl ?_
  refine xn_if_lt (tgt := 9) dX9_hold_1 rfl (by omega) ?_
  refine xe_iload_n dX9_hold_4 rfl ?_
  refine xe_iconst dX9_hold_5 kc_3 ?_
  refine xn_icmp_lt (tgt := 11) dX9_hold_6 rfl (by omega) (by decide) (fun _ => ?_) (fun q => absurd hs3 q)
  refine xe_aload_n dX9_hold_11 rfl ?_
  refine xe_getP dX9_hold_12 flX9_40 (st0 hs) (by decide) rfl (sp0_5 hs) ?_
  refine xe_iload_n dX9_hold_15 rfl ?_
  refine xe_aald (a := 0) (t := 105) (t0 := 5) (v := .null) dX9_hold_16 (st40 hs) (by decide) rfl (vp_in_nI hs3 (by decide)) (by rw [nI_clamp (by omega), hP]) ?_
  refine xe_ifnonnullN dX9_hold_17 ?_
  refine xe_aload_n dX9_hold_20 rfl ?_
  refine xe_getP dX9_hold_21 flX9_40 (st0 hs) (by decide) rfl (sp0_5 hs) ?_
  refine xe_iload_n dX9_hold_24 rfl ?_
  refine xe_new (C := RX6) dX9_hold_25 q_ck6 clX9_33 q_inst6 q_init6 (by omega) (by decide) ?_
  refine xe_dup dX9_hold_28 rfl ?_
  have hbn : q_Sh (q_new h 6 7) (q_N h) 6 7 := q_new_sh
  refine xe_callI (d' := 1) (y' := mX6_init) (as := []) (b := q_N h) (rest := [.ref (q_N h), .int (nI s), .ref 40]) dX9_hold_29 (Or.inr ⟨RX9, fun U hU => (hX U hU).2.2.2.2.2.2.2.2.1.2.2.1⟩) (q_MK_of mnX6_init rfl) rfl (by decide) (by decide) (Nat.le_of_ble_eq_true rfl) (c_X6_init l g (q_new h 6 7) hbn (by show q_N h + 1 < _; omega)) rfl (fun r h2 q => ?_)
  obtain ⟨rfl, a1, a2, a3, a4, a5, a6, a7, a8, a9, a10⟩ := q
  have aN : q_N (q_new h 6 7) = q_N h + 1 := rfl
  rw [aN] at a1 a3 a4 a5 a6 a7 a8 a9 a10
  have o1 : ∀ r, r < q_N h → q_I h2 r = q_I h r ∧ q_J h2 r = q_J h r ∧ q_T h2 r = q_T h r ∧ q_L h2 r = q_L h r := fun r hr => by
    obtain ⟨z1, z2, z3, z4⟩ := a3 r (by omega)
    exact ⟨z1.trans (if_neg (by omega)), z2.trans (if_neg (by omega)), z3.trans (if_neg (by omega)), z4.trans (if_neg (by omega))⟩
  have o2 : ∀ r, r < q_N h → q_P h2 r = q_P h r := fun r hr => (a4 r (by omega) (by omega)).trans (if_neg (by omega))
  have hs2 : q_Stat h2 := q_Stat_x hs (by omega) (fun r hr => ⟨(o1 r (by omega)).2.2.1, (o1 r (by omega)).2.2.2⟩) (fun r k hr _ => congrFun (o2 r (by omega)) k)
  have hb2 : q_Sh h2 (q_N h) 6 7 := ⟨by omega, ((a3 (q_N h) (by omega)).2.2.1).trans (if_pos rfl), ((a3 (q_N h) (by omega)).2.2.2).trans (if_pos rfl)⟩
  refine xe_aast (r := 40) (a := q_N h) (t := 105) (t0 := 5) dX9_hold_32 (st40 hs2) (by decide) rfl q_ck6 hb2 (vp_in_nI hs3 (by decide)) ?_
  rw [nI_clamp (show s < 2 ^ 31 by omega)]
  have hP3 : q_P (q_wP h2 40 (va_up (q_P h2 40) s (some (q_N h)))) 40 s = some (q_N h) := va_up_self (q_P h2 40) s (some (q_N h))
  have o3 : ∀ r, r ≠ 40 → q_P (q_wP h2 40 (va_up (q_P h2 40) s (some (q_N h)))) r = q_P h2 r := fun r hr => if_neg hr
  have hs3' : q_Stat (q_wP h2 40 (va_up (q_P h2 40) s (some (q_N h)))) := q_Stat_wP (by rcases (by omega : s = 0 ∨ s = 1 ∨ s = 2) with rfl | rfl | rfl <;> rfl) hs2
  have hb3 : sl_at (q_wP h2 40 (va_up (q_P h2 40) s (some (q_N h)))) (q_N h) := by
    refine ⟨hb2, ?_, ?_, ?_, ?_, ?_, a6, a7, a9, a10, hN0⟩
    · exact (congrFun (o3 _ (by omega)) 0).trans (a5 0 (by decide))
    · exact (congrFun (o3 _ (by omega)) 1).trans (a5 1 (by decide))
    · exact (congrFun (o3 _ (by omega)) 2).trans (a5 2 (by decide))
    · exact (congrFun (o3 _ (by omega)) 3).trans (a5 3 (by decide))
    · exact (congrFun (o3 _ (by omega)) 4).trans (a5 4 (by decide))
  refine xe_post (fun r h1 q => ?_) (xe_locals (L' := [(0, .ref 0), (1, .int (nI s))]) ⟨rfl, rfl, trivial⟩ (hold_33 l g _ hs3' hs3 hP3 hb3))
  obtain ⟨q1, q2, q3, q4, q5⟩ := q
  have eI : q_I (q_wP h2 40 (va_up (q_P h2 40) s (some (q_N h)))) = q_I h2 := rfl
  have e2 : h1.2.2 = (q_wP h2 40 (va_up (q_P h2 40) s (some (q_N h)))).2.2 := congrArg (fun z => z.2) q2
  have eN : q_N h1 = q_N h2 := congrArg (fun z => z.2.2.2.2.1) q2
  have eK : q_K h1 = q_K h2 := congrArg (fun z => z.2.2.2.2.2) q2
  have aK : q_K h2 = q_K h + 7 + 800 := a2
  have i34 := (o1 34 (by omega)).1
  have i35 := (o1 35 (by omega)).1
  have i36 := (o1 36 (by omega)).1
  have i38 := (o1 38 (by omega)).1
  have i39 := (o1 39 (by omega)).1
  have i41 := (o1 41 (by omega)).1
  refine ⟨q1, q_N h, (congrArg (fun z => z.2.1 40 s) q2).trans hP3, sl_k hb3 e2, ?_, fun k hk => (congrArg (fun z => z.2.1 40 k) q2).trans ((va_up_ne _ _ hk).trans (congrFun (o2 40 (by omega)) k)), fun r hr h41 hr2 => (q3 r h41 hr2).trans (o1 r hr).1, ?_, fun r hr => ⟨(congrArg (fun z => z.1 r) q2).trans (o1 r hr).2.1, (congrArg (fun z => z.2.2.1 r) q2).trans (o1 r hr).2.2.1, (congrArg (fun z => z.2.2.2.1 r) q2).trans (o1 r hr).2.2.2⟩, fun r hr h40 => (congrArg (fun z => z.2.1 r) q2).trans ((o3 r h40).trans (o2 r hr)), by omega, by omega, by omega, Or.inr (Nat.le_refl _), by omega⟩
  · obtain ⟨s1, s2, s3, s4, s5, s6⟩ := q4
    rw [eI, i35] at s1
    rw [eI, i36] at s2
    rw [eI, i38] at s3
    rw [eI, i39] at s4
    rw [eI, i34] at s5 s6
    exact ⟨s1, s2, s3, s4, s5, s6⟩
  · rw [q5, eI, i41]
theorem c_X9_hold_f (l : Launch) (g : q_GP) (h : q_H) (hs : q_Stat h) {x : Int32} (hx : ¬ ∃ k, 0 ≤ k ∧ k ≤ 2 ∧ x = nI k) : q_Cd l g 2 mX9_hold [.ref 0, .int x] h (some (.int (nI 0))) h := by
  refine q_CdV mvX9_hold (Nat.le_of_ble_eq_true rfl) ?_
  refine xe_iload_n dX9_hold_0 rfl ?_
  refine xe_if_lt (tgt := 9) dX9_hold_1 rfl (fun c_1 => ?_) (fun c_1 => ?_)
  · refine xe_iconst dX9_hold_9 kc_0 ?_
    refine xe_ireturn dX9_hold_10 rfl rfl ?_
    exact ⟨rfl, rfl⟩
  · refine xe_iload_n dX9_hold_4 rfl ?_
    refine xe_iconst dX9_hold_5 kc_3 ?_
    refine xe_icmp_lt (tgt := 11) dX9_hold_6 rfl (fun c_2 => ?_) (fun c_2 => ?_)
    · obtain ⟨k, hk, rfl⟩ := nI_of c_1
      have := (nI_ltI hk (by decide)).mp c_2
      exact absurd ⟨k, by omega, by omega, rfl⟩ hx
    · refine xe_iconst dX9_hold_9 kc_0 ?_
      refine xe_ireturn dX9_hold_10 rfl rfl ?_
      exact ⟨rfl, rfl⟩
/-- restore -/
theorem c_X9_restore_f (l : Launch) (g : q_GP) (h : q_H) (hs : q_Stat h) {x : Int32} (hx : ¬ ∃ k, 0 ≤ k ∧ k ≤ 2 ∧ x = nI k) : q_Cd l g 3 mX9_restore [.ref 0, .int x] h (some (.int (nI 0))) h := by
  have fin : q_Ex l g 3 mX9_restore 27 [(0, .ref 0), (1, .int x)] [] h (fun r h1 => r = some (.int (nI 0)) ∧ h1 = h) := by
    refine xe_iconst dX9_restore_27 kc_0 ?_
    refine xe_ireturn dX9_restore_28 rfl rfl ?_
    exact ⟨rfl, rfl⟩
  refine q_CdV mvX9_restore (Nat.le_of_ble_eq_true rfl) ?_
  refine xe_iload_n dX9_restore_0 rfl ?_
  refine xe_if_lt (tgt := 27) dX9_restore_1 rfl (fun c_1 => ?_) (fun c_1 => ?_)
  · exact xe_locals (L' := [(0, .ref 0), (1, .int x)]) ⟨rfl, rfl, trivial⟩ fin
  · refine xe_iload_n dX9_restore_4 rfl ?_
    refine xe_iconst dX9_restore_5 kc_3 ?_
    refine xe_icmp_ge (tgt := 27) dX9_restore_6 rfl (fun c_2 => ?_) (fun c_2 => ?_)
    · exact xe_locals (L' := [(0, .ref 0), (1, .int x)]) ⟨rfl, rfl, trivial⟩ fin
    · obtain ⟨k, hk, rfl⟩ := nI_of c_1
      have : k < 3 := by
        rcases Nat.lt_or_ge k 3 with z | z
        · exact z
        · exact absurd ((nI_leI (by decide) hk).mpr z) c_2
      exact absurd ⟨k, by omega, by omega, rfl⟩ hx
theorem c_X9_restore_0 (l : Launch) (g : q_GP) (h : q_H) (hs : q_Stat h) {s : Nat} (hs3 : s < 3) (h41 : q_I h 41 s = nI 0) : q_Cd l g 3 mX9_restore [.ref 0, .int (nI s)] h (some (.int (nI 0))) h := by
  refine q_CdV mvX9_restore (Nat.le_of_ble_eq_true rfl) ?_
  refine xe_iload_n dX9_restore_0 rfl ?_
  refine xn_if_lt (tgt := 27) dX9_restore_1 rfl (by omega) ?_
  refine xe_iload_n dX9_restore_4 rfl ?_
  refine xe_iconst dX9_restore_5 kc_3 ?_
  refine xn_icmp_ge (tgt := 27) dX9_restore_6 rfl (by omega) (by decide) (fun q => absurd q (by omega)) (fun _ => ?_)
  refine xe_aload_n dX9_restore_9 rfl ?_
  refine xe_getP dX9_restore_10 flX9_44 (st0 hs) (by decide) rfl (sp0_6 hs) ?_
  refine xe_iload_n dX9_restore_13 rfl ?_
  refine xn_zaldv (v := nI 0) dX9_restore_14 (st41 hs) hs3 (by decide) h41 ?_
  refine xn_if_eq (tgt := 27) dX9_restore_15 rfl (by decide) (fun _ => ?_) (fun q => absurd rfl q)
  refine xe_iconst dX9_restore_27 kc_0 ?_
  refine xe_ireturn dX9_restore_28 rfl rfl ?_
  exact ⟨rfl, rfl⟩
def rs_H (h : q_H) (b : Nat) : q_H := q_wI (q_wI (q_wI (q_wI (q_wI h 34 (upd (upd (q_I h 34) 5 (q_I h b 5)) 6 (q_I h b 6))) 35 (q_cpy (q_I h (b + 1)) (q_I h 35) 72)) 36 (q_cpy (q_I h (b + 2)) (q_I h 36) 64)) 38 (q_cpy (q_I h (b + 4)) (q_I h 38) 300)) 39 (q_cpy (q_I h (b + 5)) (q_I h 39) 300)
theorem c_X9_restore_t (l : Launch) (g : q_GP) (h : q_H) (hs : q_Stat h) {p nm nd nc mo n : Nat} (hp : rk_P h p nm nd nc mo n) {s b : Nat} (hs3 : s < 3) (h41 : q_I h 41 s = nI 1) (hP : q_P h 40 s = some b) (hb : sl_at h b) {E w : Nat} (hE0 : q_I h b 5 = nI E) (hE2 : E ≤ 300) (hw : q_I h b 6 = nI w) (hw2 : w < 2 ^ 21) {em ed ew ep ea : Nat → Nat} (hE : ∀ i, i < E → q_I h (b + 4) i = nI (ep i * 128 + ea i * 64 + em i * 8 + ed i) ∧ q_I h (b + 5) i = nI (ew i) ∧ em i < 8 ∧ ed i < 8 ∧ ea i < 2 ∧ ep i ≤ 9999 ∧ ew i < 2 ^ 20) : q_Ct l g 3 mX9_restore [.ref 0, .int (nI s)] h (fun r h1 => r = some (.int (nI 1)) ∧ ∃ T, h1 = q_wI (q_wI (rs_H h b) 37 T) 42 (upd (q_I h 42) 2 (nI 0)) ∧ ∀ k, k < 64 → T k = nI (q_cnt em ed ew (if mo = 0 then 0 else w - w % mo) E k)) := by
  have h170 := hb.2.2.2.2.2.2.2.2.2.2
  refine q_CtV mvX9_restore (Nat.le_of_ble_eq_true rfl) ?_
  refine xe_iload_n dX9_restore_0 rfl ?_
  refine xn_if_lt (tgt := 27) dX9_restore_1 rfl (by omega) ?_
  refine xe_iload_n dX9_restore_4 rfl ?_
  refine xe_iconst dX9_restore_5 kc_3 ?_
  refine xn_icmp_ge (tgt := 27) dX9_restore_6 rfl (by omega) (by decide) (fun q => absurd q (by omega)) (fun _ => ?_)
  refine xe_aload_n dX9_restore_9 rfl ?_
  refine xe_getP dX9_restore_10 flX9_44 (st0 hs) (by decide) rfl (sp0_6 hs) ?_
  refine xe_iload_n dX9_restore_13 rfl ?_
  refine xn_zaldv (v := nI 1) dX9_restore_14 (st41 hs) hs3 (by decide) h41 ?_
  refine xn_if_eq (tgt := 27) dX9_restore_15 rfl (by decide) (fun q => absurd q (by decide)) (fun _ => ?_)
  refine xe_aload_n dX9_restore_18 rfl ?_
  refine xe_getP dX9_restore_19 flX9_40 (st0 hs) (by decide) rfl (sp0_5 hs) ?_
  refine xe_iload_n dX9_restore_22 rfl ?_
  refine xe_aald (a := 0) (t := 105) (t0 := 5) (v := .ref b) dX9_restore_23 (st40 hs) (by decide) rfl (vp_in_nI hs3 (by decide)) (by rw [nI_clamp (by omega), hP]) ?_
  refine xe_ifnonnull (tgt := 29) dX9_restore_24 rfl ?_
  refine xe_aload_n dX9_restore_29 rfl ?_
  refine xe_getP dX9_restore_30 flX9_36 (st0 hs) (by decide) rfl (sp0_4 hs) ?_
  refine xe_aload_n dX9_restore_33 rfl ?_
  refine xe_getP dX9_restore_34 flX9_40 (st0 hs) (by decide) rfl (sp0_5 hs) ?_
  refine xe_iload_n dX9_restore_37 rfl ?_
  refine xe_aald (a := 0) (t := 105) (t0 := 5) (v := .ref b) dX9_restore_38 (st40 hs) (by decide) rfl (vp_in_nI hs3 (by decide)) (by rw [nI_clamp (by omega), hP]) ?_
  refine xe_callVV (d' := 1) (y' := mX6_copyFrom) (as := [.ref b]) (rest := []) dX9_restore_39 mlX9_283 mvX6_copyFrom rfl (st34 hs) (by decide) rfl (by decide) (by decide) (Nat.le_of_ble_eq_true rfl) (c_X6_copyFrom_b l g h hs hb) rfl ?_
  have hsR : q_Stat (rs_H h b) := hs
  have hpR : rk_P (rs_H h b) p nm nd nc mo n := by
    obtain ⟨p0, p1, p2, p3, p4⟩ := hp
    rcases p1 with rfl | rfl
    · exact ⟨p0, Or.inl rfl, p2, p3, p4⟩
    · exact ⟨p0, Or.inr rfl, p2, p3, p4⟩
  have hER : rk_E (rs_H h b) E em ed ew ep ea := fun i hi => by
    obtain ⟨z1, z2, z3⟩ := hE i hi
    exact ⟨(cpy_at (by omega)).trans z1, (cpy_at (by omega)).trans z2, z3⟩
  refine xe_aload_n dX9_restore_42 rfl ?_
  refine xe_callVVq (d' := 2) (y' := mX9_countTimes) (as := []) (rest := []) dX9_restore_43 mlX9_248 mvX9_countTimes rfl (st0 hsR) (by decide) rfl (by decide) (by decide) (Nat.le_of_ble_eq_true rfl) (c_X9_countTimes l g (rs_H h b) hsR hpR (E := E) hE0 hE2 hER (w := w) hw hw2) rfl (fun h3 q => ?_)
  obtain ⟨T, rfl, hT⟩ := q
  refine xe_aload_n dX9_restore_46 rfl ?_
  refine xe_getP dX9_restore_47 flX9_51 (st0 hsR) (by decide) rfl (sp0_7 hsR) ?_
  refine xe_iconst dX9_restore_50 kc_0 ?_
  refine xe_putI dX9_restore_51 flX9_124 (st42 hsR) (by decide) rfl (Or.inl rfl) rfl rfl ?_
  refine xe_iconst dX9_restore_54 kc_1 ?_
  refine xe_ireturn dX9_restore_55 rfl rfl ?_
  exact ⟨rfl, T, rfl, hT⟩
