/-! the class: what is kept for undo -/
theorem stD_f : ∀ x : Fin 25, q_sh0[44 + 2 * x.1]? = some (0, 6) ∧ q_sh0[45 + 2 * x.1]? = some (100, 72) ∧ q_p0 43 x.1 = some (44 + 2 * x.1) ∧ q_p0 (44 + 2 * x.1) 0 = some (45 + 2 * x.1) := by decide +kernel
theorem stD {h : q_H} (hs : q_Stat h) {x : Nat} (hx : x < 25) : q_Sh h (44 + 2 * x) 0 6 := hs.1 _ _ _ (stD_f ⟨x, hx⟩).1
theorem stDr {h : q_H} (hs : q_Stat h) {x : Nat} (hx : x < 25) : q_Sh h (45 + 2 * x) 100 72 := hs.1 _ _ _ (stD_f ⟨x, hx⟩).2.1
theorem spD {h : q_H} (hs : q_Stat h) {x : Nat} (hx : x < 25) : q_P h 43 x = some (44 + 2 * x) := hs.2 _ _ _ (stD_f ⟨x, hx⟩).2.2.1
theorem spDr {h : q_H} (hs : q_Stat h) {x : Nat} (hx : x < 25) : q_P h (44 + 2 * x) 0 = some (45 + 2 * x) := hs.2 _ _ _ (stD_f ⟨x, hx⟩).2.2.2
theorem q_aar {h : q_H} {r y a : Nat} (hy : y < 2 ^ 31) (e : q_P h r y = some a) : (match q_P h r (nI y).toNatClampNeg with | none => Value.null | some a => .ref a) = .ref a := by rw [nI_clamp hy, e]
/-- the record at x is what was ahead -/
def rk_rec (h h1 : q_H) (x : Nat) (da dv ap : Int32) : Prop := (∀ k, k < 72 → q_I h1 (45 + 2 * x) k = q_I h 35 k) ∧ q_I h1 (44 + 2 * x) 1 = q_I h 34 5 ∧ q_I h1 (44 + 2 * x) 2 = q_I h 34 6 ∧ q_I h1 (44 + 2 * x) 3 = da ∧ q_I h1 (44 + 2 * x) 4 = dv ∧ q_I h1 (44 + 2 * x) 5 = ap
def rk_note (h : q_H) (x s : Nat) (h1 : q_H) : Prop := h1.2 = h.2 ∧ (∀ r, r ≠ 42 → r ≠ 44 + 2 * x → r ≠ 45 + 2 * x → q_I h1 r = q_I h r) ∧ q_I h1 42 1 = nI ((x + 1) % 25) ∧ q_I h1 42 2 = nI (if s < 25 then s + 1 else 25) ∧ rk_rec h h1 x (-1) (nI 0) (-1)
theorem q_updsw (f : Nat → Int32) {a b : Nat} (h : a ≠ b) (x y : Int32) : upd (upd f a x) b y = upd (upd f b y) a x := by
  funext i
  unfold upd
  by_cases h1 : i = b
  · rw [if_pos h1]
    by_cases h2 : i = a
    · exact absurd (h2.symm.trans h1) h
    · rw [if_neg h2, if_pos h1]
  · rw [if_neg h1, if_neg h1]
theorem c_X0_keep (l : Launch) (g : q_GP) (h : q_H) (hs : q_Stat h) {x : Nat} (hx : x < 25) : q_Ct l g 1 mX0_keep [.ref (44 + 2 * x), .ref 34] h (fun r h1 => r = none ∧ h1.2 = h.2 ∧ (∀ r, r ≠ 44 + 2 * x → r ≠ 45 + 2 * x → q_I h1 r = q_I h r) ∧ rk_rec h h1 x (-1) (nI 0) (-1)) := by
  refine q_CtV mvX0_keep (Nat.le_of_ble_eq_true rfl) ?_
  refine xe_aload_n dX0_keep_0 rfl ?_
  refine xe_getP dX0_keep_1 flX0_15 (st34 hs) (by decide) rfl (sp34_0 hs) ?_
  refine xe_iconst dX0_keep_4 kc_0 ?_
  refine xe_aload_n dX0_keep_5 rfl ?_
  refine xe_getP dX0_keep_6 flX0_9 (stD hs hx) (by decide) rfl (spDr hs hx) ?_
  refine xe_iconst dX0_keep_9 kc_0 ?_
  refine xe_aload_n dX0_keep_10 rfl ?_
  refine xe_getP dX0_keep_11 flX0_9 (stD hs hx) (by decide) rfl (spDr hs hx) ?_
  refine xe_alen dX0_keep_14 (stDr hs hx) (by decide) ⟨0, _, rfl⟩ (v := nI 72) rfl ?_
  refine xe_copy dX0_keep_15 mlX0_18 (st35 hs) (stDr hs hx) (by decide) (by decide) (by decide) (by decide) (Nat.le_of_ble_eq_true rfl) ?_
  refine xe_aload_n dX0_keep_18 rfl ?_
  refine xe_aload_n dX0_keep_19 rfl ?_
  refine xe_getIv dX0_keep_20 flX0_24 (st34 hs) (by decide) rfl (v := (q_I h 34 5)) (congrFun (show q_I _ 34 = q_I h 34 from (by repeat (first | exact rfl | exact q_Iw | refine (q_Ine (by omega)).trans ?_))) 5) ?_
  refine xe_putI dX0_keep_23 flX0_28 (stD hs hx) (by decide) rfl (Or.inl rfl) rfl rfl ?_
  refine xe_aload_n dX0_keep_26 rfl ?_
  refine xe_aload_n dX0_keep_27 rfl ?_
  refine xe_getIv dX0_keep_28 flX0_29 (st34 hs) (by decide) rfl (v := (q_I h 34 6)) (congrFun (show q_I _ 34 = q_I h 34 from (by repeat (first | exact rfl | exact q_Iw | refine (q_Ine (by omega)).trans ?_))) 6) ?_
  refine xe_putI dX0_keep_31 flX0_32 (stD hs hx) (by decide) rfl (Or.inl rfl) rfl rfl ?_
  refine xe_aload_n dX0_keep_34 rfl ?_
  refine xe_iconst dX0_keep_35 kc_m1 ?_
  refine xe_putI dX0_keep_36 flX0_33 (stD hs hx) (by decide) rfl (Or.inl rfl) rfl rfl ?_
  refine xe_aload_n dX0_keep_39 rfl ?_
  refine xe_iconst dX0_keep_40 kc_0 ?_
  refine xe_putI dX0_keep_41 flX0_36 (stD hs hx) (by decide) rfl (Or.inl rfl) rfl rfl ?_
  refine xe_aload_n dX0_keep_44 rfl ?_
  refine xe_iconst dX0_keep_45 kc_m1 ?_
  refine xe_putI dX0_keep_46 flX0_39 (stD hs hx) (by decide) rfl (Or.inl rfl) rfl rfl ?_
  refine xe_return dX0_keep_49 rfl ?_
  refine ⟨rfl, rfl, fun r h1 h2 => ?_, fun k hk => ?_, ?_, ?_, ?_, ?_, ?_⟩
  · repeat (first | exact rfl | refine (q_Ine h1).trans ?_ | refine (q_Ine h2).trans ?_)
  · exact (congrFun (show q_I _ (45 + 2 * x) = q_cpy (q_I h 35) (q_I h (45 + 2 * x)) 72 from (by repeat (first | exact rfl | exact q_Iw | refine (q_Ine (by omega)).trans ?_))) k).trans (if_pos hk)
  · simp only [q_wwI, q_Iw]
    rfl
  · simp only [q_wwI, q_Iw]
    rfl
  · simp only [q_wwI, q_Iw]
    rfl
  · simp only [q_wwI, q_Iw]
    rfl
  · simp only [q_wwI, q_Iw]
    rfl
theorem c_X0_keepDebt (l : Launch) (g : q_GP) (h : q_H) (hs : q_Stat h) {x a : Nat} (hx : x < 25) (ha : a < 64) : q_Cd l g 0 mX0_keepDebt [.ref (44 + 2 * x), .ref 34, .int (nI a)] h none (q_wI h (44 + 2 * x) (upd (upd (q_I h (44 + 2 * x)) 3 (nI a)) 4 (q_I h 36 a))) := by
  refine q_CdV mvX0_keepDebt (Nat.le_of_ble_eq_true rfl) ?_
  refine xe_aload_n dX0_keepDebt_0 rfl ?_
  refine xe_iload_n dX0_keepDebt_1 rfl ?_
  refine xe_putI dX0_keepDebt_2 flX0_33 (stD hs hx) (by decide) rfl (Or.inl rfl) rfl rfl ?_
  refine xe_aload_n dX0_keepDebt_5 rfl ?_
  refine xe_aload_n dX0_keepDebt_6 rfl ?_
  refine xe_getP dX0_keepDebt_7 flX0_42 (st34 hs) (by decide) rfl (sp34_1 hs) ?_
  refine xe_iload_n dX0_keepDebt_10 rfl ?_
  refine xn_ialdv dX0_keepDebt_11 (st36 hs) (by omega) (by decide) (v := (q_I h 36 a)) (congrFun (show q_I _ 36 = q_I h 36 from (by repeat (first | exact rfl | exact q_Iw | refine (q_Ine (by omega)).trans ?_))) a) ?_
  refine xe_putI dX0_keepDebt_12 flX0_36 (stD hs hx) (by decide) rfl (Or.inl rfl) rfl rfl ?_
  refine xe_return dX0_keepDebt_15 rfl ?_
  exact ⟨rfl, by simp only [q_wwI, q_Iw]⟩
theorem c_X0_giveBack_a (l : Launch) (g : q_GP) (h : q_H) (hs : q_Stat h) {x E0 w0 : Nat} (hx : x < 25) (h1 : q_I h (44 + 2 * x) 1 = nI E0) (h2 : q_I h (44 + 2 * x) 2 = nI w0) (h3 : q_I h (44 + 2 * x) 3 = -1) (h5 : q_I h (44 + 2 * x) 5 = -1) : q_Cd l g 3 mX0_giveBack [.ref (44 + 2 * x), .ref 34] h none (q_wI (q_wI h 35 (q_cpy (q_I h (45 + 2 * x)) (q_I h 35) 72)) 34 (upd (upd (q_I h 34) 5 (nI E0)) 6 (nI w0))) := by
  refine q_CdV mvX0_giveBack (Nat.le_of_ble_eq_true rfl) ?_
  refine xe_aload_n dX0_giveBack_0 rfl ?_
  refine xe_getP dX0_giveBack_1 flX0_9 (stD hs hx) (by decide) rfl (spDr hs hx) ?_
  refine xe_iconst dX0_giveBack_4 kc_0 ?_
  refine xe_aload_n dX0_giveBack_5 rfl ?_
  refine xe_getP dX0_giveBack_6 flX0_15 (st34 hs) (by decide) rfl (sp34_0 hs) ?_
  refine xe_iconst dX0_giveBack_9 kc_0 ?_
  refine xe_aload_n dX0_giveBack_10 rfl ?_
  refine xe_getP dX0_giveBack_11 flX0_9 (stD hs hx) (by decide) rfl (spDr hs hx) ?_
  refine xe_alen dX0_giveBack_14 (stDr hs hx) (by decide) ⟨0, _, rfl⟩ (v := nI 72) rfl ?_
  refine xe_copy dX0_giveBack_15 mlX0_18 (stDr hs hx) (st35 hs) (by decide) (by decide) (by decide) (by decide) (Nat.le_of_ble_eq_true rfl) ?_
  refine xe_aload_n dX0_giveBack_18 rfl ?_
  refine xe_aload_n dX0_giveBack_19 rfl ?_
  refine xe_getIv dX0_giveBack_20 flX0_28 (stD hs hx) (by decide) rfl (v := nI E0) ((congrFun (show q_I _ (44 + 2 * x) = q_I h (44 + 2 * x) from (by repeat (first | exact rfl | exact q_Iw | refine (q_Ine (by omega)).trans ?_))) 1).trans h1) ?_
  refine xe_putI dX0_giveBack_23 flX0_24 (st34 hs) (by decide) rfl (Or.inl rfl) rfl rfl ?_
  refine xe_aload_n dX0_giveBack_26 rfl ?_
  refine xe_aload_n dX0_giveBack_27 rfl ?_
  refine xe_getIv dX0_giveBack_28 flX0_32 (stD hs hx) (by decide) rfl (v := nI w0) ((congrFun (show q_I _ (44 + 2 * x) = q_I h (44 + 2 * x) from (by repeat (first | exact rfl | exact q_Iw | refine (q_Ine (by omega)).trans ?_))) 2).trans h2) ?_
  refine xe_putI dX0_giveBack_31 flX0_29 (st34 hs) (by decide) rfl (Or.inl rfl) rfl rfl ?_
  refine xe_aload_n dX0_giveBack_34 rfl ?_
  refine xe_getIv dX0_giveBack_35 flX0_33 (stD hs hx) (by decide) rfl (v := (-1)) ((congrFun (show q_I _ (44 + 2 * x) = q_I h (44 + 2 * x) from (by repeat (first | exact rfl | exact q_Iw | refine (q_Ine (by omega)).trans ?_))) 3).trans h3) ?_
  refine xe_if_lt (tgt := 54) dX0_giveBack_38 rfl (fun c1 => ?_) (fun c1 => ?_)
  · refine xe_aload_n dX0_giveBack_54 rfl ?_
    refine xe_getIv dX0_giveBack_55 flX0_39 (stD hs hx) (by decide) rfl (v := (-1)) ((congrFun (show q_I _ (44 + 2 * x) = q_I h (44 + 2 * x) from (by repeat (first | exact rfl | exact q_Iw | refine (q_Ine (by omega)).trans ?_))) 5).trans h5) ?_
    refine xe_if_lt (tgt := 70) dX0_giveBack_58 rfl (fun c2 => ?_) (fun c2 => ?_)
    · refine xe_return dX0_giveBack_70 rfl ?_
      exact ⟨rfl, q_heq [34, 35] (H := h) (by repeat (first | exact q_out_r | refine q_out_w rfl ?_)) (by repeat (first | exact q_out_r | refine q_out_w rfl ?_)) (And.intro rfl (And.intro rfl trivial))⟩
    · exact absurd (by decide) c2
  · exact absurd (by decide) c1
theorem c_X0_giveBack_b (l : Launch) (g : q_GP) (h : q_H) (hs : q_Stat h) {x E0 w0 : Nat} (hx : x < 25) (h1 : q_I h (44 + 2 * x) 1 = nI E0) (h2 : q_I h (44 + 2 * x) 2 = nI w0) {a : Nat} (ha : a < 64) {dv : Int32} (h3 : q_I h (44 + 2 * x) 3 = nI a) (h4 : q_I h (44 + 2 * x) 4 = dv) (h5 : q_I h (44 + 2 * x) 5 = -1) : q_Cd l g 3 mX0_giveBack [.ref (44 + 2 * x), .ref 34] h none (q_wI (q_wI (q_wI h 35 (q_cpy (q_I h (45 + 2 * x)) (q_I h 35) 72)) 34 (upd (upd (q_I h 34) 5 (nI E0)) 6 (nI w0))) 36 (upd (q_I h 36) a dv)) := by
  refine q_CdV mvX0_giveBack (Nat.le_of_ble_eq_true rfl) ?_
  refine xe_aload_n dX0_giveBack_0 rfl ?_
  refine xe_getP dX0_giveBack_1 flX0_9 (stD hs hx) (by decide) rfl (spDr hs hx) ?_
  refine xe_iconst dX0_giveBack_4 kc_0 ?_
  refine xe_aload_n dX0_giveBack_5 rfl ?_
  refine xe_getP dX0_giveBack_6 flX0_15 (st34 hs) (by decide) rfl (sp34_0 hs) ?_
  refine xe_iconst dX0_giveBack_9 kc_0 ?_
  refine xe_aload_n dX0_giveBack_10 rfl ?_
  refine xe_getP dX0_giveBack_11 flX0_9 (stD hs hx) (by decide) rfl (spDr hs hx) ?_
  refine xe_alen dX0_giveBack_14 (stDr hs hx) (by decide) ⟨0, _, rfl⟩ (v := nI 72) rfl ?_
  refine xe_copy dX0_giveBack_15 mlX0_18 (stDr hs hx) (st35 hs) (by decide) (by decide) (by decide) (by decide) (Nat.le_of_ble_eq_true rfl) ?_
  refine xe_aload_n dX0_giveBack_18 rfl ?_
  refine xe_aload_n dX0_giveBack_19 rfl ?_
  refine xe_getIv dX0_giveBack_20 flX0_28 (stD hs hx) (by decide) rfl (v := nI E0) ((congrFun (show q_I _ (44 + 2 * x) = q_I h (44 + 2 * x) from (by repeat (first | exact rfl | exact q_Iw | refine (q_Ine (by omega)).trans ?_))) 1).trans h1) ?_
  refine xe_putI dX0_giveBack_23 flX0_24 (st34 hs) (by decide) rfl (Or.inl rfl) rfl rfl ?_
  refine xe_aload_n dX0_giveBack_26 rfl ?_
  refine xe_aload_n dX0_giveBack_27 rfl ?_
  refine xe_getIv dX0_giveBack_28 flX0_32 (stD hs hx) (by decide) rfl (v := nI w0) ((congrFun (show q_I _ (44 + 2 * x) = q_I h (44 + 2 * x) from (by repeat (first | exact rfl | exact q_Iw | refine (q_Ine (by omega)).trans ?_))) 2).trans h2) ?_
  refine xe_putI dX0_giveBack_31 flX0_29 (st34 hs) (by decide) rfl (Or.inl rfl) rfl rfl ?_
  refine xe_aload_n dX0_giveBack_34 rfl ?_
  refine xe_getIv dX0_giveBack_35 flX0_33 (stD hs hx) (by decide) rfl (v := nI a) ((congrFun (show q_I _ (44 + 2 * x) = q_I h (44 + 2 * x) from (by repeat (first | exact rfl | exact q_Iw | refine (q_Ine (by omega)).trans ?_))) 3).trans h3) ?_
  refine xn_if_lt (tgt := 54) dX0_giveBack_38 rfl (by omega) ?_
  refine xe_aload_n dX0_giveBack_41 rfl ?_
  refine xe_getP dX0_giveBack_42 flX0_42 (st34 hs) (by decide) rfl (sp34_1 hs) ?_
  refine xe_aload_n dX0_giveBack_45 rfl ?_
  refine xe_getIv dX0_giveBack_46 flX0_33 (stD hs hx) (by decide) rfl (v := nI a) ((congrFun (show q_I _ (44 + 2 * x) = q_I h (44 + 2 * x) from (by repeat (first | exact rfl | exact q_Iw | refine (q_Ine (by omega)).trans ?_))) 3).trans h3) ?_
  refine xe_aload_n dX0_giveBack_49 rfl ?_
  refine xe_getIv dX0_giveBack_50 flX0_36 (stD hs hx) (by decide) rfl (v := dv) ((congrFun (show q_I _ (44 + 2 * x) = q_I h (44 + 2 * x) from (by repeat (first | exact rfl | exact q_Iw | refine (q_Ine (by omega)).trans ?_))) 4).trans h4) ?_
  refine xn_iast dX0_giveBack_53 (st36 hs) (by omega) (by decide) ?_
  refine xe_aload_n dX0_giveBack_54 rfl ?_
  refine xe_getIv dX0_giveBack_55 flX0_39 (stD hs hx) (by decide) rfl (v := (-1)) ((congrFun (show q_I _ (44 + 2 * x) = q_I h (44 + 2 * x) from (by repeat (first | exact rfl | exact q_Iw | refine (q_Ine (by omega)).trans ?_))) 5).trans h5) ?_
  refine xe_if_lt (tgt := 70) dX0_giveBack_58 rfl (fun c2 => ?_) (fun c2 => ?_)
  · refine xe_return dX0_giveBack_70 rfl ?_
    exact ⟨rfl, q_heq [34, 35, 36] (H := h) (by repeat (first | exact q_out_r | refine q_out_w rfl ?_)) (by repeat (first | exact q_out_r | refine q_out_w rfl ?_)) (And.intro rfl (And.intro rfl (And.intro rfl trivial)))⟩
  · exact absurd (by decide) c2
theorem c_X0_giveBack_c (l : Launch) (g : q_GP) (h : q_H) (hs : q_Stat h) {x E0 w0 : Nat} (hx : x < 25) (h1 : q_I h (44 + 2 * x) 1 = nI E0) (h2 : q_I h (44 + 2 * x) 2 = nI w0) {E : Nat} (hE2 : E ≤ 300) {em ed ew ep ea : Nat → Nat} (hE : rk_E h E em ed ew ep ea) {i : Nat} (hi : i < E) (hai : ea i = 1) (h3 : q_I h (44 + 2 * x) 3 = -1) (h5 : q_I h (44 + 2 * x) 5 = nI i) : q_Cd l g 3 mX0_giveBack [.ref (44 + 2 * x), .ref 34] h none (q_wI (q_wI (q_wI h 35 (q_cpy (q_I h (45 + 2 * x)) (q_I h 35) 72)) 34 (upd (upd (q_I h 34) 5 (nI E0)) 6 (nI w0))) 38 (upd (q_I h 38) i (nI (ep i * 128 + 0 * 64 + em i * 8 + ed i)))) := by
  refine q_CdV mvX0_giveBack (Nat.le_of_ble_eq_true rfl) ?_
  refine xe_aload_n dX0_giveBack_0 rfl ?_
  refine xe_getP dX0_giveBack_1 flX0_9 (stD hs hx) (by decide) rfl (spDr hs hx) ?_
  refine xe_iconst dX0_giveBack_4 kc_0 ?_
  refine xe_aload_n dX0_giveBack_5 rfl ?_
  refine xe_getP dX0_giveBack_6 flX0_15 (st34 hs) (by decide) rfl (sp34_0 hs) ?_
  refine xe_iconst dX0_giveBack_9 kc_0 ?_
  refine xe_aload_n dX0_giveBack_10 rfl ?_
  refine xe_getP dX0_giveBack_11 flX0_9 (stD hs hx) (by decide) rfl (spDr hs hx) ?_
  refine xe_alen dX0_giveBack_14 (stDr hs hx) (by decide) ⟨0, _, rfl⟩ (v := nI 72) rfl ?_
  refine xe_copy dX0_giveBack_15 mlX0_18 (stDr hs hx) (st35 hs) (by decide) (by decide) (by decide) (by decide) (Nat.le_of_ble_eq_true rfl) ?_
  refine xe_aload_n dX0_giveBack_18 rfl ?_
  refine xe_aload_n dX0_giveBack_19 rfl ?_
  refine xe_getIv dX0_giveBack_20 flX0_28 (stD hs hx) (by decide) rfl (v := nI E0) ((congrFun (show q_I _ (44 + 2 * x) = q_I h (44 + 2 * x) from (by repeat (first | exact rfl | exact q_Iw | refine (q_Ine (by omega)).trans ?_))) 1).trans h1) ?_
  refine xe_putI dX0_giveBack_23 flX0_24 (st34 hs) (by decide) rfl (Or.inl rfl) rfl rfl ?_
  refine xe_aload_n dX0_giveBack_26 rfl ?_
  refine xe_aload_n dX0_giveBack_27 rfl ?_
  refine xe_getIv dX0_giveBack_28 flX0_32 (stD hs hx) (by decide) rfl (v := nI w0) ((congrFun (show q_I _ (44 + 2 * x) = q_I h (44 + 2 * x) from (by repeat (first | exact rfl | exact q_Iw | refine (q_Ine (by omega)).trans ?_))) 2).trans h2) ?_
  refine xe_putI dX0_giveBack_31 flX0_29 (st34 hs) (by decide) rfl (Or.inl rfl) rfl rfl ?_
  refine xe_aload_n dX0_giveBack_34 rfl ?_
  refine xe_getIv dX0_giveBack_35 flX0_33 (stD hs hx) (by decide) rfl (v := (-1)) ((congrFun (show q_I _ (44 + 2 * x) = q_I h (44 + 2 * x) from (by repeat (first | exact rfl | exact q_Iw | refine (q_Ine (by omega)).trans ?_))) 3).trans h3) ?_
  refine xe_if_lt (tgt := 54) dX0_giveBack_38 rfl (fun c1 => ?_) (fun c1 => ?_)
  · refine xe_aload_n dX0_giveBack_54 rfl ?_
    refine xe_getIv dX0_giveBack_55 flX0_39 (stD hs hx) (by decide) rfl (v := nI i) ((congrFun (show q_I _ (44 + 2 * x) = q_I h (44 + 2 * x) from (by repeat (first | exact rfl | exact q_Iw | refine (q_Ine (by omega)).trans ?_))) 5).trans h5) ?_
    refine xn_if_lt (tgt := 70) dX0_giveBack_58 rfl (by omega) ?_
    refine xe_aload_n dX0_giveBack_61 rfl ?_
    refine xe_aload_n dX0_giveBack_62 rfl ?_
    refine xe_getIv dX0_giveBack_63 flX0_39 (stD hs hx) (by decide) rfl (v := nI i) ((congrFun (show q_I _ (44 + 2 * x) = q_I h (44 + 2 * x) from (by repeat (first | exact rfl | exact q_Iw | refine (q_Ine (by omega)).trans ?_))) 5).trans h5) ?_
    refine xe_iconst dX0_giveBack_66 kc_0 ?_
    refine xe_callVV (d' := 1) (y' := mX6_setAppealed) dX0_giveBack_67 mlX0_45 mvX6_setAppealed rfl (st34 hs) (by decide) rfl (by decide) (by decide) (Nat.le_of_ble_eq_true rfl) (c_X6_setAppealed_0 l g _ (by exact hs) hE2 (by exact hE) hi hai) rfl ?_
    refine xe_return dX0_giveBack_70 rfl ?_
    exact ⟨rfl, q_heq [34, 35, 38] (H := h) (by repeat (first | exact q_out_r | refine q_out_w rfl ?_)) (by repeat (first | exact q_out_r | refine q_out_w rfl ?_)) (And.intro rfl (And.intro rfl (And.intro rfl trivial)))⟩
  · exact absurd (by decide) c1
theorem c_X1_note (l : Launch) (g : q_GP) (h : q_H) (hs : q_Stat h) {x s : Nat} (hx : x < 25) (h42a : q_I h 42 1 = nI x) (h42b : q_I h 42 2 = nI s) (hs25 : s ≤ 25) : q_Ct l g 2 mX1_note [.ref 42, .ref 34] h (fun r h1 => ∃ v : Nat, r = some (.ref v) ∧ v = 44 + 2 * x ∧ rk_note h x s h1) := by
  refine q_CtV mvX1_note (Nat.le_of_ble_eq_true rfl) ?_
  refine xe_aload_n dX1_note_0 rfl ?_
  refine xe_getP dX1_note_1 flX1_11 (st42 hs) (by decide) rfl (sp42_0 hs) ?_
  refine xe_aload_n dX1_note_4 rfl ?_
  refine xe_getIv dX1_note_5 flX1_18 (st42 hs) (by decide) rfl (v := nI x) (h42a) ?_
  refine xe_aald (a := 0) (t := 104) (t0 := 4) (C := RX0) dX1_note_8 (st43 hs) (by decide) rfl (vp_in_nI hx (by decide)) (v := .ref (44 + 2 * x)) (q_aar (by omega) (by exact spD hs hx)) ?_
  refine xe_astore_n (i := 2) dX1_note_9 rfl (by decide) rfl ?_
  refine xe_aload_n dX1_note_10 rfl ?_
  refine xe_aload_n dX1_note_11 rfl ?_
  refine xe_callVVq (d' := 1) (y' := mX0_keep) dX1_note_12 mlX1_22 mvX0_keep rfl (stD hs hx) (by decide) rfl (by decide) (by decide) (Nat.le_of_ble_eq_true rfl) (c_X0_keep l g _ (by exact hs) hx) rfl (fun h1 hq => ?_)
  obtain ⟨k1, k2, k3⟩ := hq
  have hs1 : q_Stat h1 := q_Stat_2 k1 hs
  refine xe_aload_n dX1_note_15 rfl ?_
  refine xe_aload_n dX1_note_16 rfl ?_
  refine xe_getIv dX1_note_17 flX1_18 (st42 hs1) (by decide) rfl (v := nI x) (((congrFun (k2 42 (by omega) (by omega)) 1).trans h42a)) ?_
  refine xe_iconst dX1_note_20 kc_1 ?_
  refine xn_iadd dX1_note_21 ?_
  refine xe_bipush dX1_note_22 kb_25 ?_
  refine xn_irem dX1_note_24 (by omega) (by omega) (by omega) ?_
  refine xe_putI dX1_note_25 flX1_18 (st42 hs1) (by decide) rfl (Or.inl rfl) rfl rfl ?_
  refine xe_aload_n dX1_note_28 rfl ?_
  refine xe_aload_n dX1_note_29 rfl ?_
  refine xe_getIv dX1_note_30 flX1_26 (st42 hs1) (by decide) rfl (v := nI s) (((congrFun (k2 42 (by omega) (by omega)) 2).trans h42b)) ?_
  refine xe_iconst dX1_note_33 kc_1 ?_
  refine xn_iadd dX1_note_34 ?_
  refine xe_bipush dX1_note_35 kb_25 ?_
  refine xe_min dX1_note_37 mlX1_29 q_mmin (by decide) (Nat.le_of_ble_eq_true rfl) ?_
  refine xe_top (v' := nI (if s < 25 then s + 1 else 25)) ((q_minN (by omega) (by decide)).trans (congrArg nI (by split <;> split <;> omega))) ?_
  refine xe_putI dX1_note_40 flX1_26 (st42 hs1) (by decide) rfl (Or.inl rfl) rfl rfl ?_
  refine xe_aload_n dX1_note_43 rfl ?_
  refine xe_areturn dX1_note_44 rfl ?_
  have es : ∀ r, r ≠ 42 → q_I (q_wI (q_wI h1 42 (upd (q_I h1 42) 1 (nI ((x + 1) % 25)))) 42 (upd (q_I (q_wI h1 42 (upd (q_I h1 42) 1 (nI ((x + 1) % 25)))) 42) 2 (nI (if s < 25 then s + 1 else 25)))) r = q_I h1 r := fun r hr => (q_Ine hr).trans (q_Ine hr)
  refine ⟨_, rfl, rfl, k1, fun r a1 a2 a3 => (es r a1).trans (k2 r a2 a3), rfl, rfl, ?_⟩
  obtain ⟨m1, m2, m3, m4, m5, m6⟩ := k3
  refine ⟨fun k hk => (congrFun (es _ (by omega)) k).trans (m1 k hk), (congrFun (es _ (by omega)) _).trans m2, (congrFun (es _ (by omega)) _).trans m3, (congrFun (es _ (by omega)) _).trans m4, (congrFun (es _ (by omega)) _).trans m5, (congrFun (es _ (by omega)) _).trans m6⟩
theorem c_X1_takeBack_0 (l : Launch) (g : q_GP) (h : q_H) (hs : q_Stat h) (h42b : q_I h 42 2 = nI 0) : q_Cd l g 4 mX1_takeBack [.ref 42, .ref 34] h (some (.int (nI 0))) h := by
  refine q_CdV mvX1_takeBack (Nat.le_of_ble_eq_true rfl) ?_
  refine xe_aload_n dX1_takeBack_0 rfl ?_
  refine xe_getIv dX1_takeBack_1 flX1_26 (st42 hs) (by decide) rfl (v := nI 0) (h42b) ?_
  refine xn_if_ne (tgt := 9) dX1_takeBack_4 rfl (by omega) (fun c1 => ?_) (fun c1 => ?_)
  · omega
  · refine xe_iconst dX1_takeBack_7 kc_0 ?_
    refine xe_ireturn dX1_takeBack_8 rfl (by first | rfl | decide +kernel) ?_
    exact ⟨rfl, rfl⟩
theorem c_X1_takeBack_a (l : Launch) (g : q_GP) (h : q_H) (hs : q_Stat h) {x s : Nat} (hx : x < 25) (h42a : q_I h 42 1 = nI x) (h42b : q_I h 42 2 = nI s) (hs25 : s ≤ 25) (hs0 : 0 < s) {E0 w0 : Nat} (h1 : q_I h (44 + 2 * ((x + 24) % 25)) 1 = nI E0) (h2 : q_I h (44 + 2 * ((x + 24) % 25)) 2 = nI w0) (h3 : q_I h (44 + 2 * ((x + 24) % 25)) 3 = -1) (h5 : q_I h (44 + 2 * ((x + 24) % 25)) 5 = -1) : q_Cd l g 4 mX1_takeBack [.ref 42, .ref 34] h (some (.int (nI 1))) (q_wI (q_wI (q_wI h 34 (upd (upd (q_I h 34) 5 (nI E0)) 6 (nI w0))) 35 (q_cpy (q_I h (45 + 2 * ((x + 24) % 25))) (q_I h 35) 72)) 42 (upd (upd (q_I h 42) 2 (nI (s - 1))) 1 (nI ((x + 24) % 25)))) := by
  have hy : ((x + 24) % 25) < 25 := by omega
  refine q_CdV mvX1_takeBack (Nat.le_of_ble_eq_true rfl) ?_
  refine xe_aload_n dX1_takeBack_0 rfl ?_
  refine xe_getIv dX1_takeBack_1 flX1_26 (st42 hs) (by decide) rfl (v := nI s) (h42b) ?_
  refine xn_if_ne (tgt := 9) dX1_takeBack_4 rfl (by omega) (fun c1 => ?_) (fun c1 => ?_)
  · refine xe_aload_n dX1_takeBack_9 rfl ?_
    refine xe_dup dX1_takeBack_10 rfl ?_
    refine xe_getIv dX1_takeBack_11 flX1_26 (st42 hs) (by decide) rfl (v := nI s) (h42b) ?_
    refine xe_iconst dX1_takeBack_14 kc_1 ?_
    refine xn_isub dX1_takeBack_15 (by omega) ?_
    refine xe_putI dX1_takeBack_16 flX1_26 (st42 hs) (by decide) rfl (Or.inl rfl) rfl rfl ?_
    refine xe_aload_n dX1_takeBack_19 rfl ?_
    refine xe_aload_n dX1_takeBack_20 rfl ?_
    refine xe_getIv dX1_takeBack_21 flX1_18 (st42 hs) (by decide) rfl (v := nI x) (h42a) ?_
    refine xe_bipush dX1_takeBack_24 kb_25 ?_
    refine xn_iadd dX1_takeBack_26 ?_
    refine xe_iconst dX1_takeBack_27 kc_1 ?_
    refine xn_isub dX1_takeBack_28 (by omega) ?_
    refine xe_bipush dX1_takeBack_29 kb_25 ?_
    refine xn_irem dX1_takeBack_31 (by omega) (by omega) (by omega) ?_
    refine xe_top (v' := nI ((x + 24) % 25)) (congrArg nI (by omega)) ?_
    refine xe_putI dX1_takeBack_32 flX1_18 (st42 hs) (by decide) rfl (Or.inl rfl) rfl rfl ?_
    refine xe_aload_n dX1_takeBack_35 rfl ?_
    refine xe_getP dX1_takeBack_36 flX1_11 (st42 hs) (by decide) rfl (sp42_0 hs) ?_
    refine xe_aload_n dX1_takeBack_39 rfl ?_
    refine xe_getIv dX1_takeBack_40 flX1_18 (st42 hs) (by decide) rfl (v := nI ((x + 24) % 25)) (rfl) ?_
    refine xe_aald (a := 0) (t := 104) (t0 := 4) (C := RX0) dX1_takeBack_43 (st43 hs) (by decide) rfl (vp_in_nI hy (by decide)) (v := .ref (44 + 2 * ((x + 24) % 25))) (q_aar (by omega) (by exact spD hs hy)) ?_
    refine xe_aload_n dX1_takeBack_44 rfl ?_
    refine xe_callVV (d' := 3) (y' := mX0_giveBack) dX1_takeBack_45 mlX1_35 mvX0_giveBack rfl (stD hs hy) (by decide) rfl (by decide) (by decide) (Nat.le_of_ble_eq_true rfl) (c_X0_giveBack_a l g _ (by exact hs) hy ((congrFun (show q_I _ (44 + 2 * ((x + 24) % 25)) = q_I h (44 + 2 * ((x + 24) % 25)) from (by repeat (first | exact rfl | exact q_Iw | refine (q_Ine (by omega)).trans ?_))) 1).trans h1) ((congrFun (show q_I _ (44 + 2 * ((x + 24) % 25)) = q_I h (44 + 2 * ((x + 24) % 25)) from (by repeat (first | exact rfl | exact q_Iw | refine (q_Ine (by omega)).trans ?_))) 2).trans h2) ((congrFun (show q_I _ (44 + 2 * ((x + 24) % 25)) = q_I h (44 + 2 * ((x + 24) % 25)) from (by repeat (first | exact rfl | exact q_Iw | refine (q_Ine (by omega)).trans ?_))) 3).trans h3) ((congrFun (show q_I _ (44 + 2 * ((x + 24) % 25)) = q_I h (44 + 2 * ((x + 24) % 25)) from (by repeat (first | exact rfl | exact q_Iw | refine (q_Ine (by omega)).trans ?_))) 5).trans h5)) rfl ?_
    refine xe_iconst dX1_takeBack_48 kc_1 ?_
    refine xe_ireturn dX1_takeBack_49 rfl (by first | rfl | decide +kernel) ?_
    exact ⟨rfl, q_heq [34, 35, 42] (H := h) (by repeat (first | exact q_out_r | refine q_out_w rfl ?_)) (by repeat (first | exact q_out_r | refine q_out_w rfl ?_)) (And.intro rfl (And.intro (by show _ = q_cpy (q_I h (45 + 2 * ((x + 24) % 25))) (q_I h 35) 72; exact congrArg (fun z => q_cpy z (q_I h 35) 72) (show q_I _ (45 + 2 * ((x + 24) % 25)) = q_I h (45 + 2 * ((x + 24) % 25)) from (by repeat (first | exact rfl | exact q_Iw | refine (q_Ine (by omega)).trans ?_)))) (And.intro (q_feq [1, 2] (f := q_I h 42) (by repeat (first | exact q_fout_r | refine q_fout_w rfl ?_)) (by repeat (first | exact q_fout_r | refine q_fout_w rfl ?_)) (And.intro rfl (And.intro rfl trivial))) trivial)))⟩
  · omega
theorem c_X1_takeBack_b (l : Launch) (g : q_GP) (h : q_H) (hs : q_Stat h) {x s : Nat} (hx : x < 25) (h42a : q_I h 42 1 = nI x) (h42b : q_I h 42 2 = nI s) (hs25 : s ≤ 25) (hs0 : 0 < s) {E0 w0 : Nat} (h1 : q_I h (44 + 2 * ((x + 24) % 25)) 1 = nI E0) (h2 : q_I h (44 + 2 * ((x + 24) % 25)) 2 = nI w0) {a : Nat} (ha : a < 64) {dv : Int32} (h3 : q_I h (44 + 2 * ((x + 24) % 25)) 3 = nI a) (h4 : q_I h (44 + 2 * ((x + 24) % 25)) 4 = dv) (h5 : q_I h (44 + 2 * ((x + 24) % 25)) 5 = -1) : q_Cd l g 4 mX1_takeBack [.ref 42, .ref 34] h (some (.int (nI 1))) (q_wI (q_wI (q_wI (q_wI h 34 (upd (upd (q_I h 34) 5 (nI E0)) 6 (nI w0))) 35 (q_cpy (q_I h (45 + 2 * ((x + 24) % 25))) (q_I h 35) 72)) 42 (upd (upd (q_I h 42) 2 (nI (s - 1))) 1 (nI ((x + 24) % 25)))) 36 (upd (q_I h 36) a dv)) := by
  have hy : ((x + 24) % 25) < 25 := by omega
  refine q_CdV mvX1_takeBack (Nat.le_of_ble_eq_true rfl) ?_
  refine xe_aload_n dX1_takeBack_0 rfl ?_
  refine xe_getIv dX1_takeBack_1 flX1_26 (st42 hs) (by decide) rfl (v := nI s) (h42b) ?_
  refine xn_if_ne (tgt := 9) dX1_takeBack_4 rfl (by omega) (fun c1 => ?_) (fun c1 => ?_)
  · refine xe_aload_n dX1_takeBack_9 rfl ?_
    refine xe_dup dX1_takeBack_10 rfl ?_
    refine xe_getIv dX1_takeBack_11 flX1_26 (st42 hs) (by decide) rfl (v := nI s) (h42b) ?_
    refine xe_iconst dX1_takeBack_14 kc_1 ?_
    refine xn_isub dX1_takeBack_15 (by omega) ?_
    refine xe_putI dX1_takeBack_16 flX1_26 (st42 hs) (by decide) rfl (Or.inl rfl) rfl rfl ?_
    refine xe_aload_n dX1_takeBack_19 rfl ?_
    refine xe_aload_n dX1_takeBack_20 rfl ?_
    refine xe_getIv dX1_takeBack_21 flX1_18 (st42 hs) (by decide) rfl (v := nI x) (h42a) ?_
    refine xe_bipush dX1_takeBack_24 kb_25 ?_
    refine xn_iadd dX1_takeBack_26 ?_
    refine xe_iconst dX1_takeBack_27 kc_1 ?_
    refine xn_isub dX1_takeBack_28 (by omega) ?_
    refine xe_bipush dX1_takeBack_29 kb_25 ?_
    refine xn_irem dX1_takeBack_31 (by omega) (by omega) (by omega) ?_
    refine xe_top (v' := nI ((x + 24) % 25)) (congrArg nI (by omega)) ?_
    refine xe_putI dX1_takeBack_32 flX1_18 (st42 hs) (by decide) rfl (Or.inl rfl) rfl rfl ?_
    refine xe_aload_n dX1_takeBack_35 rfl ?_
    refine xe_getP dX1_takeBack_36 flX1_11 (st42 hs) (by decide) rfl (sp42_0 hs) ?_
    refine xe_aload_n dX1_takeBack_39 rfl ?_
    refine xe_getIv dX1_takeBack_40 flX1_18 (st42 hs) (by decide) rfl (v := nI ((x + 24) % 25)) (rfl) ?_
    refine xe_aald (a := 0) (t := 104) (t0 := 4) (C := RX0) dX1_takeBack_43 (st43 hs) (by decide) rfl (vp_in_nI hy (by decide)) (v := .ref (44 + 2 * ((x + 24) % 25))) (q_aar (by omega) (by exact spD hs hy)) ?_
    refine xe_aload_n dX1_takeBack_44 rfl ?_
    refine xe_callVV (d' := 3) (y' := mX0_giveBack) dX1_takeBack_45 mlX1_35 mvX0_giveBack rfl (stD hs hy) (by decide) rfl (by decide) (by decide) (Nat.le_of_ble_eq_true rfl) (c_X0_giveBack_b l g _ (by exact hs) hy ((congrFun (show q_I _ (44 + 2 * ((x + 24) % 25)) = q_I h (44 + 2 * ((x + 24) % 25)) from (by repeat (first | exact rfl | exact q_Iw | refine (q_Ine (by omega)).trans ?_))) 1).trans h1) ((congrFun (show q_I _ (44 + 2 * ((x + 24) % 25)) = q_I h (44 + 2 * ((x + 24) % 25)) from (by repeat (first | exact rfl | exact q_Iw | refine (q_Ine (by omega)).trans ?_))) 2).trans h2) ha ((congrFun (show q_I _ (44 + 2 * ((x + 24) % 25)) = q_I h (44 + 2 * ((x + 24) % 25)) from (by repeat (first | exact rfl | exact q_Iw | refine (q_Ine (by omega)).trans ?_))) 3).trans h3) ((congrFun (show q_I _ (44 + 2 * ((x + 24) % 25)) = q_I h (44 + 2 * ((x + 24) % 25)) from (by repeat (first | exact rfl | exact q_Iw | refine (q_Ine (by omega)).trans ?_))) 4).trans h4) ((congrFun (show q_I _ (44 + 2 * ((x + 24) % 25)) = q_I h (44 + 2 * ((x + 24) % 25)) from (by repeat (first | exact rfl | exact q_Iw | refine (q_Ine (by omega)).trans ?_))) 5).trans h5)) rfl ?_
    refine xe_iconst dX1_takeBack_48 kc_1 ?_
    refine xe_ireturn dX1_takeBack_49 rfl (by first | rfl | decide +kernel) ?_
    exact ⟨rfl, q_heq [34, 35, 36, 42] (H := h) (by repeat (first | exact q_out_r | refine q_out_w rfl ?_)) (by repeat (first | exact q_out_r | refine q_out_w rfl ?_)) (And.intro rfl (And.intro (by show _ = q_cpy (q_I h (45 + 2 * ((x + 24) % 25))) (q_I h 35) 72; exact congrArg (fun z => q_cpy z (q_I h 35) 72) (show q_I _ (45 + 2 * ((x + 24) % 25)) = q_I h (45 + 2 * ((x + 24) % 25)) from (by repeat (first | exact rfl | exact q_Iw | refine (q_Ine (by omega)).trans ?_)))) (And.intro rfl (And.intro (q_feq [1, 2] (f := q_I h 42) (by repeat (first | exact q_fout_r | refine q_fout_w rfl ?_)) (by repeat (first | exact q_fout_r | refine q_fout_w rfl ?_)) (And.intro rfl (And.intro rfl trivial))) trivial))))⟩
  · omega
theorem c_X1_takeBack_c (l : Launch) (g : q_GP) (h : q_H) (hs : q_Stat h) {x s : Nat} (hx : x < 25) (h42a : q_I h 42 1 = nI x) (h42b : q_I h 42 2 = nI s) (hs25 : s ≤ 25) (hs0 : 0 < s) {E0 w0 : Nat} (h1 : q_I h (44 + 2 * ((x + 24) % 25)) 1 = nI E0) (h2 : q_I h (44 + 2 * ((x + 24) % 25)) 2 = nI w0) {E : Nat} (hE2 : E ≤ 300) {em ed ew ep ea : Nat → Nat} (hE : rk_E h E em ed ew ep ea) {i : Nat} (hi : i < E) (hai : ea i = 1) (h3 : q_I h (44 + 2 * ((x + 24) % 25)) 3 = -1) (h5 : q_I h (44 + 2 * ((x + 24) % 25)) 5 = nI i) : q_Cd l g 4 mX1_takeBack [.ref 42, .ref 34] h (some (.int (nI 1))) (q_wI (q_wI (q_wI (q_wI h 34 (upd (upd (q_I h 34) 5 (nI E0)) 6 (nI w0))) 35 (q_cpy (q_I h (45 + 2 * ((x + 24) % 25))) (q_I h 35) 72)) 42 (upd (upd (q_I h 42) 2 (nI (s - 1))) 1 (nI ((x + 24) % 25)))) 38 (upd (q_I h 38) i (nI (ep i * 128 + 0 * 64 + em i * 8 + ed i)))) := by
  have hy : ((x + 24) % 25) < 25 := by omega
  refine q_CdV mvX1_takeBack (Nat.le_of_ble_eq_true rfl) ?_
  refine xe_aload_n dX1_takeBack_0 rfl ?_
  refine xe_getIv dX1_takeBack_1 flX1_26 (st42 hs) (by decide) rfl (v := nI s) (h42b) ?_
  refine xn_if_ne (tgt := 9) dX1_takeBack_4 rfl (by omega) (fun c1 => ?_) (fun c1 => ?_)
  · refine xe_aload_n dX1_takeBack_9 rfl ?_
    refine xe_dup dX1_takeBack_10 rfl ?_
    refine xe_getIv dX1_takeBack_11 flX1_26 (st42 hs) (by decide) rfl (v := nI s) (h42b) ?_
    refine xe_iconst dX1_takeBack_14 kc_1 ?_
    refine xn_isub dX1_takeBack_15 (by omega) ?_
    refine xe_putI dX1_takeBack_16 flX1_26 (st42 hs) (by decide) rfl (Or.inl rfl) rfl rfl ?_
    refine xe_aload_n dX1_takeBack_19 rfl ?_
    refine xe_aload_n dX1_takeBack_20 rfl ?_
    refine xe_getIv dX1_takeBack_21 flX1_18 (st42 hs) (by decide) rfl (v := nI x) (h42a) ?_
    refine xe_bipush dX1_takeBack_24 kb_25 ?_
    refine xn_iadd dX1_takeBack_26 ?_
    refine xe_iconst dX1_takeBack_27 kc_1 ?_
    refine xn_isub dX1_takeBack_28 (by omega) ?_
    refine xe_bipush dX1_takeBack_29 kb_25 ?_
    refine xn_irem dX1_takeBack_31 (by omega) (by omega) (by omega) ?_
    refine xe_top (v' := nI ((x + 24) % 25)) (congrArg nI (by omega)) ?_
    refine xe_putI dX1_takeBack_32 flX1_18 (st42 hs) (by decide) rfl (Or.inl rfl) rfl rfl ?_
    refine xe_aload_n dX1_takeBack_35 rfl ?_
    refine xe_getP dX1_takeBack_36 flX1_11 (st42 hs) (by decide) rfl (sp42_0 hs) ?_
    refine xe_aload_n dX1_takeBack_39 rfl ?_
    refine xe_getIv dX1_takeBack_40 flX1_18 (st42 hs) (by decide) rfl (v := nI ((x + 24) % 25)) (rfl) ?_
    refine xe_aald (a := 0) (t := 104) (t0 := 4) (C := RX0) dX1_takeBack_43 (st43 hs) (by decide) rfl (vp_in_nI hy (by decide)) (v := .ref (44 + 2 * ((x + 24) % 25))) (q_aar (by omega) (by exact spD hs hy)) ?_
    refine xe_aload_n dX1_takeBack_44 rfl ?_
    refine xe_callVV (d' := 3) (y' := mX0_giveBack) dX1_takeBack_45 mlX1_35 mvX0_giveBack rfl (stD hs hy) (by decide) rfl (by decide) (by decide) (Nat.le_of_ble_eq_true rfl) (c_X0_giveBack_c l g _ (by exact hs) hy ((congrFun (show q_I _ (44 + 2 * ((x + 24) % 25)) = q_I h (44 + 2 * ((x + 24) % 25)) from (by repeat (first | exact rfl | exact q_Iw | refine (q_Ine (by omega)).trans ?_))) 1).trans h1) ((congrFun (show q_I _ (44 + 2 * ((x + 24) % 25)) = q_I h (44 + 2 * ((x + 24) % 25)) from (by repeat (first | exact rfl | exact q_Iw | refine (q_Ine (by omega)).trans ?_))) 2).trans h2) hE2 (by exact hE) hi hai ((congrFun (show q_I _ (44 + 2 * ((x + 24) % 25)) = q_I h (44 + 2 * ((x + 24) % 25)) from (by repeat (first | exact rfl | exact q_Iw | refine (q_Ine (by omega)).trans ?_))) 3).trans h3) ((congrFun (show q_I _ (44 + 2 * ((x + 24) % 25)) = q_I h (44 + 2 * ((x + 24) % 25)) from (by repeat (first | exact rfl | exact q_Iw | refine (q_Ine (by omega)).trans ?_))) 5).trans h5)) rfl ?_
    refine xe_iconst dX1_takeBack_48 kc_1 ?_
    refine xe_ireturn dX1_takeBack_49 rfl (by first | rfl | decide +kernel) ?_
    exact ⟨rfl, q_heq [34, 35, 38, 42] (H := h) (by repeat (first | exact q_out_r | refine q_out_w rfl ?_)) (by repeat (first | exact q_out_r | refine q_out_w rfl ?_)) (And.intro rfl (And.intro (by show _ = q_cpy (q_I h (45 + 2 * ((x + 24) % 25))) (q_I h 35) 72; exact congrArg (fun z => q_cpy z (q_I h 35) 72) (show q_I _ (45 + 2 * ((x + 24) % 25)) = q_I h (45 + 2 * ((x + 24) % 25)) from (by repeat (first | exact rfl | exact q_Iw | refine (q_Ine (by omega)).trans ?_)))) (And.intro rfl (And.intro (q_feq [1, 2] (f := q_I h 42) (by repeat (first | exact q_fout_r | refine q_fout_w rfl ?_)) (by repeat (first | exact q_fout_r | refine q_fout_w rfl ?_)) (And.intro rfl (And.intro rfl trivial))) trivial))))⟩
  · omega
