/-! the class: states that are held -/
/-- a state of its own at cell b -/
def sl_at (h : q_H) (b : Nat) : Prop := q_Sh h b 6 7 ∧ q_P h b 0 = some (b + 1) ∧ q_P h b 1 = some (b + 2) ∧ q_P h b 2 = some (b + 3) ∧ q_P h b 3 = some (b + 4) ∧ q_P h b 4 = some (b + 5) ∧ q_Sh h (b + 1) 100 72 ∧ q_Sh h (b + 2) 100 64 ∧ q_Sh h (b + 4) 100 300 ∧ q_Sh h (b + 5) 100 300 ∧ 170 ≤ b
theorem sl_k {h h1 : q_H} {b : Nat} (a : sl_at h b) (e : h1.2.2 = h.2.2) : sl_at h1 b := by
  obtain ⟨a1, a2, a3, a4, a5, a6, a7, a8, a9, a10, a11⟩ := a
  have eP : q_P h1 = q_P h := congrArg (fun z => z.1) e
  have eS : ∀ r t n, q_Sh h r t n → q_Sh h1 r t n := fun r t n q => ⟨by rw [show q_N h1 = q_N h from congrArg (fun z => z.2.2.2.1) e]; exact q.1, (congrArg (fun z => z.2.1 r) e).trans q.2.1, (congrArg (fun z => z.2.2.1 r) e).trans q.2.2⟩
  exact ⟨eS _ _ _ a1, by rw [eP]; exact a2, by rw [eP]; exact a3, by rw [eP]; exact a4, by rw [eP]; exact a5, by rw [eP]; exact a6, eS _ _ _ a7, eS _ _ _ a8, eS _ _ _ a9, eS _ _ _ a10, a11⟩
/-- the state at cell b is as now -/
def sl_eq (h h1 : q_H) (b : Nat) : Prop := (∀ k, k < 72 → q_I h1 (b + 1) k = q_I h 35 k) ∧ (∀ k, k < 64 → q_I h1 (b + 2) k = q_I h 36 k) ∧ (∀ k, k < 300 → q_I h1 (b + 4) k = q_I h 38 k) ∧ (∀ k, k < 300 → q_I h1 (b + 5) k = q_I h 39 k) ∧ q_I h1 b 5 = q_I h 34 5 ∧ q_I h1 b 6 = q_I h 34 6
theorem cpy_at {F G : Nat → Int32} {n k : Nat} (h : k < n) : q_cpy F G n k = F k := if_pos h
theorem c_X6_copyFrom_s (l : Launch) (g : q_GP) (h : q_H) (hs : q_Stat h) {b : Nat} (hb : sl_at h b) : q_Ct l g 1 mX6_copyFrom [.ref b, .ref 34] h (fun r h1 => r = none ∧ h1.2 = h.2 ∧ (∀ r, r < b ∨ b + 5 < r → q_I h1 r = q_I h r) ∧ sl_eq h h1 b) := by
  have h170 := hb.2.2.2.2.2.2.2.2.2.2
  refine q_CtV mvX6_copyFrom (Nat.le_of_ble_eq_true rfl) ?_
  refine xe_aload_n dX6_copyFrom_0 rfl ?_
  refine xe_getP dX6_copyFrom_1 flX6_9 (by exact st34 hs) (by decide) rfl (sp34_0 hs) ?_
  refine xe_iconst dX6_copyFrom_4 kc_0 ?_
  refine xe_aload_n dX6_copyFrom_5 rfl ?_
  refine xe_getP dX6_copyFrom_6 flX6_9 (by exact hb.1) (by decide) rfl hb.2.1 ?_
  refine xe_iconst dX6_copyFrom_9 kc_0 ?_
  refine xe_aload_n dX6_copyFrom_10 rfl ?_
  refine xe_getP dX6_copyFrom_11 flX6_9 (by exact hb.1) (by decide) rfl hb.2.1 ?_
  refine xe_alen dX6_copyFrom_14 (by exact hb.2.2.2.2.2.2.1) (by decide) ⟨0, _, rfl⟩ (v := nI 72) rfl ?_
  refine xe_copy dX6_copyFrom_15 mlX6_34 (by exact st35 hs) (by exact hb.2.2.2.2.2.2.1) (by decide) (by decide) (by decide) (by decide) (Nat.le_of_ble_eq_true rfl) ?_
  refine xe_aload_n dX6_copyFrom_18 rfl ?_
  refine xe_getP dX6_copyFrom_19 flX6_15 (by exact st34 hs) (by decide) rfl (sp34_1 hs) ?_
  refine xe_iconst dX6_copyFrom_22 kc_0 ?_
  refine xe_aload_n dX6_copyFrom_23 rfl ?_
  refine xe_getP dX6_copyFrom_24 flX6_15 (by exact hb.1) (by decide) rfl hb.2.2.1 ?_
  refine xe_iconst dX6_copyFrom_27 kc_0 ?_
  refine xe_aload_n dX6_copyFrom_28 rfl ?_
  refine xe_getP dX6_copyFrom_29 flX6_15 (by exact hb.1) (by decide) rfl hb.2.2.1 ?_
  refine xe_alen dX6_copyFrom_32 (by exact hb.2.2.2.2.2.2.2.1) (by decide) ⟨0, _, rfl⟩ (v := nI 64) rfl ?_
  refine xe_copy dX6_copyFrom_33 mlX6_34 (by exact st36 hs) (by exact hb.2.2.2.2.2.2.2.1) (by decide) (by decide) (by decide) (by decide) (Nat.le_of_ble_eq_true rfl) ?_
  refine xe_aload_n dX6_copyFrom_36 rfl ?_
  refine xe_getP dX6_copyFrom_37 flX6_21 (by exact st34 hs) (by decide) rfl (sp34_3 hs) ?_
  refine xe_iconst dX6_copyFrom_40 kc_0 ?_
  refine xe_aload_n dX6_copyFrom_41 rfl ?_
  refine xe_getP dX6_copyFrom_42 flX6_21 (by exact hb.1) (by decide) rfl hb.2.2.2.2.1 ?_
  refine xe_iconst dX6_copyFrom_45 kc_0 ?_
  refine xe_sipush dX6_copyFrom_46 ks_300 ?_
  refine xe_copy dX6_copyFrom_49 mlX6_34 (by exact st38 hs) (by exact hb.2.2.2.2.2.2.2.2.1) (by decide) (by decide) (by decide) (by decide) (Nat.le_of_ble_eq_true rfl) ?_
  refine xe_aload_n dX6_copyFrom_52 rfl ?_
  refine xe_getP dX6_copyFrom_53 flX6_24 (by exact st34 hs) (by decide) rfl (sp34_4 hs) ?_
  refine xe_iconst dX6_copyFrom_56 kc_0 ?_
  refine xe_aload_n dX6_copyFrom_57 rfl ?_
  refine xe_getP dX6_copyFrom_58 flX6_24 (by exact hb.1) (by decide) rfl hb.2.2.2.2.2.1 ?_
  refine xe_iconst dX6_copyFrom_61 kc_0 ?_
  refine xe_sipush dX6_copyFrom_62 ks_300 ?_
  refine xe_copy dX6_copyFrom_65 mlX6_34 (by exact st39 hs) (by exact hb.2.2.2.2.2.2.2.2.2.1) (by decide) (by decide) (by decide) (by decide) (Nat.le_of_ble_eq_true rfl) ?_
  refine xe_aload_n dX6_copyFrom_68 rfl ?_
  refine xe_aload_n dX6_copyFrom_69 rfl ?_
  refine xe_getIv dX6_copyFrom_70 flX6_27 (by exact st34 hs) (by decide) rfl (v := (q_I h 34 5)) (by repeat (first | exact rfl | refine (congrFun (q_Ine (by omega)) 5).trans ?_)) ?_
  refine xe_putI dX6_copyFrom_73 flX6_27 (by exact hb.1) (by decide) rfl (Or.inl rfl) rfl rfl ?_
  refine xe_aload_n dX6_copyFrom_76 rfl ?_
  refine xe_aload_n dX6_copyFrom_77 rfl ?_
  refine xe_getIv dX6_copyFrom_78 flX6_31 (by exact st34 hs) (by decide) rfl (v := (q_I h 34 6)) (by repeat (first | exact rfl | refine (congrFun (q_Ine (by omega)) 6).trans ?_)) ?_
  refine xe_putI dX6_copyFrom_81 flX6_31 (by exact hb.1) (by decide) rfl (Or.inl rfl) rfl rfl ?_
  refine xe_return dX6_copyFrom_84 rfl ?_
  refine ⟨rfl, rfl, fun r hr => ?_, fun k hk => ?_, fun k hk => ?_, fun k hk => ?_, fun k hk => ?_, ?_, ?_⟩
  · repeat (first | exact rfl | rw [q_Ine (show r ≠ _ by omega)])
  · rw [q_Ine (show b + 1 ≠ b by omega), q_Ine (show b + 1 ≠ b by omega), q_Ine (show b + 1 ≠ b + 5 by omega), q_Ine (show b + 1 ≠ b + 4 by omega), q_Ine (show b + 1 ≠ b + 2 by omega), q_Iw, cpy_at hk]
  · rw [q_Ine (show b + 2 ≠ b by omega), q_Ine (show b + 2 ≠ b by omega), q_Ine (show b + 2 ≠ b + 5 by omega), q_Ine (show b + 2 ≠ b + 4 by omega), q_Iw, cpy_at hk, q_Ine (show 36 ≠ b + 1 by omega)]
  · rw [q_Ine (show b + 4 ≠ b by omega), q_Ine (show b + 4 ≠ b by omega), q_Ine (show b + 4 ≠ b + 5 by omega), q_Iw, cpy_at hk, q_Ine (show 38 ≠ b + 2 by omega), q_Ine (show 38 ≠ b + 1 by omega)]
  · rw [q_Ine (show b + 5 ≠ b by omega), q_Ine (show b + 5 ≠ b by omega), q_Iw, cpy_at hk, q_Ine (show 39 ≠ b + 4 by omega), q_Ine (show 39 ≠ b + 2 by omega), q_Ine (show 39 ≠ b + 1 by omega)]
  · rw [q_Iw]
    show upd (q_I _ b) 6 _ 5 = _
    rw [q_Iw]
    rfl
  · rw [q_Iw]
    exact if_pos rfl
theorem c_X6_copyFrom_b (l : Launch) (g : q_GP) (h : q_H) (hs : q_Stat h) {b : Nat} (hb : sl_at h b) : q_Cd l g 1 mX6_copyFrom [.ref 34, .ref b] h none (q_wI (q_wI (q_wI (q_wI (q_wI h 34 (upd (upd (q_I h 34) 5 (q_I h b 5)) 6 (q_I h b 6))) 35 (q_cpy (q_I h (b + 1)) (q_I h 35) 72)) 36 (q_cpy (q_I h (b + 2)) (q_I h 36) 64)) 38 (q_cpy (q_I h (b + 4)) (q_I h 38) 300)) 39 (q_cpy (q_I h (b + 5)) (q_I h 39) 300)) := by
  have h170 := hb.2.2.2.2.2.2.2.2.2.2
  have hne : ∀ r, r < 170 → b ≠ r ∧ b + 1 ≠ r ∧ b + 2 ≠ r ∧ b + 4 ≠ r ∧ b + 5 ≠ r := fun r hr => by omega
  refine q_CdV mvX6_copyFrom (Nat.le_of_ble_eq_true rfl) ?_
  refine xe_aload_n dX6_copyFrom_0 rfl ?_
  refine xe_getP dX6_copyFrom_1 flX6_9 (by exact hb.1) (by decide) rfl hb.2.1 ?_
  refine xe_iconst dX6_copyFrom_4 kc_0 ?_
  refine xe_aload_n dX6_copyFrom_5 rfl ?_
  refine xe_getP dX6_copyFrom_6 flX6_9 (by exact st34 hs) (by decide) rfl (sp34_0 hs) ?_
  refine xe_iconst dX6_copyFrom_9 kc_0 ?_
  refine xe_aload_n dX6_copyFrom_10 rfl ?_
  refine xe_getP dX6_copyFrom_11 flX6_9 (by exact st34 hs) (by decide) rfl (sp34_0 hs) ?_
  refine xe_alen dX6_copyFrom_14 (by exact st35 hs) (by decide) ⟨0, _, rfl⟩ (v := nI 72) rfl ?_
  refine xe_copy dX6_copyFrom_15 mlX6_34 (by exact hb.2.2.2.2.2.2.1) (by exact st35 hs) (by decide) (by decide) (by decide) (by decide) (Nat.le_of_ble_eq_true rfl) ?_
  refine xe_heap (h2 := (q_wI h 35 (q_cpy (q_I h (b + 1)) (q_I h 35) 72))) (by repeat (first | rfl | rw [q_Ine (show (b + 1) ≠ _ by omega)])) ?_
  refine xe_aload_n dX6_copyFrom_18 rfl ?_
  refine xe_getP dX6_copyFrom_19 flX6_15 (by exact hb.1) (by decide) rfl hb.2.2.1 ?_
  refine xe_iconst dX6_copyFrom_22 kc_0 ?_
  refine xe_aload_n dX6_copyFrom_23 rfl ?_
  refine xe_getP dX6_copyFrom_24 flX6_15 (by exact st34 hs) (by decide) rfl (sp34_1 hs) ?_
  refine xe_iconst dX6_copyFrom_27 kc_0 ?_
  refine xe_aload_n dX6_copyFrom_28 rfl ?_
  refine xe_getP dX6_copyFrom_29 flX6_15 (by exact st34 hs) (by decide) rfl (sp34_1 hs) ?_
  refine xe_alen dX6_copyFrom_32 (by exact st36 hs) (by decide) ⟨0, _, rfl⟩ (v := nI 64) rfl ?_
  refine xe_copy dX6_copyFrom_33 mlX6_34 (by exact hb.2.2.2.2.2.2.2.1) (by exact st36 hs) (by decide) (by decide) (by decide) (by decide) (Nat.le_of_ble_eq_true rfl) ?_
  refine xe_heap (h2 := (q_wI (q_wI h 35 (q_cpy (q_I h (b + 1)) (q_I h 35) 72)) 36 (q_cpy (q_I h (b + 2)) (q_I h 36) 64))) (by repeat (first | rfl | rw [q_Ine (show (b + 2) ≠ _ by omega)])) ?_
  refine xe_aload_n dX6_copyFrom_36 rfl ?_
  refine xe_getP dX6_copyFrom_37 flX6_21 (by exact hb.1) (by decide) rfl hb.2.2.2.2.1 ?_
  refine xe_iconst dX6_copyFrom_40 kc_0 ?_
  refine xe_aload_n dX6_copyFrom_41 rfl ?_
  refine xe_getP dX6_copyFrom_42 flX6_21 (by exact st34 hs) (by decide) rfl (sp34_3 hs) ?_
  refine xe_iconst dX6_copyFrom_45 kc_0 ?_
  refine xe_sipush dX6_copyFrom_46 ks_300 ?_
  refine xe_copy dX6_copyFrom_49 mlX6_34 (by exact hb.2.2.2.2.2.2.2.2.1) (by exact st38 hs) (by decide) (by decide) (by decide) (by decide) (Nat.le_of_ble_eq_true rfl) ?_
  refine xe_heap (h2 := (q_wI (q_wI (q_wI h 35 (q_cpy (q_I h (b + 1)) (q_I h 35) 72)) 36 (q_cpy (q_I h (b + 2)) (q_I h 36) 64)) 38 (q_cpy (q_I h (b + 4)) (q_I h 38) 300))) (by repeat (first | rfl | rw [q_Ine (show (b + 4) ≠ _ by omega)])) ?_
  refine xe_aload_n dX6_copyFrom_52 rfl ?_
  refine xe_getP dX6_copyFrom_53 flX6_24 (by exact hb.1) (by decide) rfl hb.2.2.2.2.2.1 ?_
  refine xe_iconst dX6_copyFrom_56 kc_0 ?_
  refine xe_aload_n dX6_copyFrom_57 rfl ?_
  refine xe_getP dX6_copyFrom_58 flX6_24 (by exact st34 hs) (by decide) rfl (sp34_4 hs) ?_
  refine xe_iconst dX6_copyFrom_61 kc_0 ?_
  refine xe_sipush dX6_copyFrom_62 ks_300 ?_
  refine xe_copy dX6_copyFrom_65 mlX6_34 (by exact hb.2.2.2.2.2.2.2.2.2.1) (by exact st39 hs) (by decide) (by decide) (by decide) (by decide) (Nat.le_of_ble_eq_true rfl) ?_
  refine xe_heap (h2 := (q_wI (q_wI (q_wI (q_wI h 35 (q_cpy (q_I h (b + 1)) (q_I h 35) 72)) 36 (q_cpy (q_I h (b + 2)) (q_I h 36) 64)) 38 (q_cpy (q_I h (b + 4)) (q_I h 38) 300)) 39 (q_cpy (q_I h (b + 5)) (q_I h 39) 300))) (by repeat (first | rfl | rw [q_Ine (show (b + 5) ≠ _ by omega)])) ?_
  refine xe_aload_n dX6_copyFrom_68 rfl ?_
  refine xe_aload_n dX6_copyFrom_69 rfl ?_
  refine xe_getIv dX6_copyFrom_70 flX6_27 (by exact hb.1) (by decide) rfl (v := (q_I h b 5)) (by repeat (first | exact rfl | refine (congrFun (q_Ine (by omega)) 5).trans ?_)) ?_
  refine xe_putI dX6_copyFrom_73 flX6_27 (by exact st34 hs) (by decide) rfl (Or.inl rfl) rfl rfl ?_
  refine xe_aload_n dX6_copyFrom_76 rfl ?_
  refine xe_aload_n dX6_copyFrom_77 rfl ?_
  refine xe_getIv dX6_copyFrom_78 flX6_31 (by exact hb.1) (by decide) rfl (v := (q_I h b 6)) (by repeat (first | exact rfl | refine (congrFun (q_Ine (by omega)) 6).trans ?_)) ?_
  refine xe_putI dX6_copyFrom_81 flX6_31 (by exact st34 hs) (by decide) rfl (Or.inl rfl) rfl rfl ?_
  refine xe_return dX6_copyFrom_84 rfl ?_
  refine ⟨rfl, ?_⟩
  exact q_heq [34, 35, 36, 38, 39] (H := h) (by repeat (first | exact q_out_r | refine q_out_w rfl ?_)) (by repeat (first | exact q_out_r | refine q_out_w rfl ?_)) (And.intro rfl (And.intro rfl (And.intro rfl (And.intro rfl (And.intro rfl trivial)))))
/-- six new cells, a state -/
def si_A (b : Nat) (h h1 : q_H) : Prop := q_N h1 = q_N h + 5 ∧ q_K h1 = q_K h + 800 ∧ (∀ r, r < q_N h → q_I h1 r = q_I h r ∧ q_J h1 r = q_J h r ∧ q_T h1 r = q_T h r ∧ q_L h1 r = q_L h r) ∧ (∀ r, r < q_N h → r ≠ b → q_P h1 r = q_P h r) ∧ (∀ k, k < 5 → q_P h1 b k = some (q_N h + k)) ∧ q_Sh h1 (q_N h) 100 72 ∧ q_Sh h1 (q_N h + 1) 100 64 ∧ q_Sh h1 (q_N h + 2) 100 64 ∧ q_Sh h1 (q_N h + 3) 100 300 ∧ q_Sh h1 (q_N h + 4) 100 300
/-- one new row at field k of b -/
def si_1 (h : q_H) (b k n : Nat) : q_H := q_wP (q_new h 100 n) b (va_up (q_P (q_new h 100 n) b) k (some (q_N h)))
theorem si_1_N {h : q_H} {b k n : Nat} : q_N (si_1 h b k n) = q_N h + 1 := rfl
theorem si_1_o {h : q_H} {b k n r : Nat} (hr : r < q_N h) : q_I (si_1 h b k n) r = q_I h r ∧ q_J (si_1 h b k n) r = q_J h r ∧ q_T (si_1 h b k n) r = q_T h r ∧ q_L (si_1 h b k n) r = q_L h r := ⟨if_neg (by omega), if_neg (by omega), if_neg (by omega), if_neg (by omega)⟩
theorem si_1_P {h : q_H} {b k n r : Nat} (hr : r < q_N h) (hb : r ≠ b) : q_P (si_1 h b k n) r = q_P h r := (if_neg hb).trans (if_neg (by omega))
theorem si_1_b {h : q_H} {b k n j : Nat} (hb : b < q_N h) (hj : j ≠ k) : q_P (si_1 h b k n) b j = q_P h b j := by
  show (if b = b then va_up (q_P (q_new h 100 n) b) k (some (q_N h)) else _) j = _
  rw [if_pos rfl, va_up_ne _ _ hj]
  exact congrFun (if_neg (by omega)) j
theorem si_1_k {h : q_H} {b k n : Nat} : q_P (si_1 h b k n) b k = some (q_N h) := by
  show (if b = b then va_up (q_P (q_new h 100 n) b) k (some (q_N h)) else _) k = _
  rw [if_pos rfl, va_up_self]
theorem si_1_s {h : q_H} {b k n : Nat} : q_Sh (si_1 h b k n) (q_N h) 100 n := ⟨Nat.lt_succ_self _, if_pos rfl, if_pos rfl⟩
theorem si_1_k2 {h : q_H} {b k n r t m : Nat} (q : q_Sh h r t m) : q_Sh (si_1 h b k n) r t m := ⟨Nat.lt_succ_of_lt q.1, (si_1_o q.1).2.2.1.trans q.2.1, (si_1_o q.1).2.2.2.trans q.2.2⟩
def si_5 (h : q_H) (b : Nat) : q_H := si_1 (si_1 (si_1 (si_1 (si_1 h b 0 72) b 1 64) b 2 64) b 3 300) b 4 300
theorem si_5_A {h : q_H} {b : Nat} (hb : b < q_N h) : si_A b h (si_5 h b) := by
  have n1 : b < q_N (si_1 h b 0 72) := Nat.lt_succ_of_lt hb
  have n2 : b < q_N (si_1 (si_1 h b 0 72) b 1 64) := Nat.lt_succ_of_lt n1
  have n3 : b < q_N (si_1 (si_1 (si_1 h b 0 72) b 1 64) b 2 64) := Nat.lt_succ_of_lt n2
  have n4 : b < q_N (si_1 (si_1 (si_1 (si_1 h b 0 72) b 1 64) b 2 64) b 3 300) := Nat.lt_succ_of_lt n3
  refine ⟨rfl, rfl, fun r hr => ?_, fun r hr hne => ?_, fun k hk => ?_, si_1_k2 (si_1_k2 (si_1_k2 (si_1_k2 si_1_s))), si_1_k2 (si_1_k2 (si_1_k2 si_1_s)), si_1_k2 (si_1_k2 si_1_s), si_1_k2 si_1_s, si_1_s⟩
  · have r1 : r < q_N (si_1 h b 0 72) := Nat.lt_succ_of_lt hr
    have r2 : r < q_N (si_1 (si_1 h b 0 72) b 1 64) := Nat.lt_succ_of_lt r1
    have r3 : r < q_N (si_1 (si_1 (si_1 h b 0 72) b 1 64) b 2 64) := Nat.lt_succ_of_lt r2
    have r4 : r < q_N (si_1 (si_1 (si_1 (si_1 h b 0 72) b 1 64) b 2 64) b 3 300) := Nat.lt_succ_of_lt r3
    have a0 := si_1_o (b := b) (k := 0) (n := 72) hr
    have a1 := si_1_o (b := b) (k := 1) (n := 64) r1
    have a2 := si_1_o (b := b) (k := 2) (n := 64) r2
    have a3 := si_1_o (b := b) (k := 3) (n := 300) r3
    have a4 := si_1_o (b := b) (k := 4) (n := 300) r4
    exact ⟨a4.1.trans (a3.1.trans (a2.1.trans (a1.1.trans a0.1))), a4.2.1.trans (a3.2.1.trans (a2.2.1.trans (a1.2.1.trans a0.2.1))), a4.2.2.1.trans (a3.2.2.1.trans (a2.2.2.1.trans (a1.2.2.1.trans a0.2.2.1))), a4.2.2.2.trans (a3.2.2.2.trans (a2.2.2.2.trans (a1.2.2.2.trans a0.2.2.2)))⟩
  · have r1 : r < q_N (si_1 h b 0 72) := Nat.lt_succ_of_lt hr
    have r2 : r < q_N (si_1 (si_1 h b 0 72) b 1 64) := Nat.lt_succ_of_lt r1
    have r3 : r < q_N (si_1 (si_1 (si_1 h b 0 72) b 1 64) b 2 64) := Nat.lt_succ_of_lt r2
    have r4 : r < q_N (si_1 (si_1 (si_1 (si_1 h b 0 72) b 1 64) b 2 64) b 3 300) := Nat.lt_succ_of_lt r3
    exact (si_1_P r4 hne).trans ((si_1_P r3 hne).trans ((si_1_P r2 hne).trans ((si_1_P r1 hne).trans (si_1_P hr hne))))
  · rcases (by omega : k = 0 ∨ k = 1 ∨ k = 2 ∨ k = 3 ∨ k = 4) with rfl | rfl | rfl | rfl | rfl
    · exact (si_1_b n4 (by decide)).trans ((si_1_b n3 (by decide)).trans ((si_1_b n2 (by decide)).trans ((si_1_b n1 (by decide)).trans si_1_k)))
    · exact (si_1_b n4 (by decide)).trans ((si_1_b n3 (by decide)).trans ((si_1_b n2 (by decide)).trans si_1_k))
    · exact (si_1_b n4 (by decide)).trans ((si_1_b n3 (by decide)).trans si_1_k)
    · exact (si_1_b n4 (by decide)).trans si_1_k
    · exact si_1_k
theorem sh_new {h : q_H} {r t n t2 n2 : Nat} (q : q_Sh h r t n) : q_Sh (q_new h t2 n2) r t n := ⟨Nat.lt_succ_of_lt q.1, (if_neg (Nat.ne_of_lt q.1)).trans q.2.1, (if_neg (Nat.ne_of_lt q.1)).trans q.2.2⟩
theorem c_X6_init (l : Launch) (g : q_GP) (h : q_H) {b : Nat} (hb0 : q_Sh h b 6 7) (hN : q_N h < 900000000) : q_Ct l g 1 mX6_init [.ref b] h (fun r h1 => r = none ∧ si_A b h h1) := by
  refine q_Ct_of mnX6_init.2.2.2.2.2 (Nat.le_of_ble_eq_true rfl) ?_
  refine xe_aload_n dX6_init_0 rfl ?_
  refine xe_obj dX6_init_1 mlX6_3 (by decide) (Nat.le_of_ble_eq_true rfl) ?_
  refine xe_aload_n dX6_init_4 rfl ?_
  refine xe_bipush dX6_init_5 kb_72 ?_
  refine xe_newa_int (n := 72) dX6_init_7 (by decide) (show q_N h + 0 < 1000000000 by omega) ?_
  refine xe_putP (a := q_N h) (r := b) dX6_init_9 flX6_9 (sh_new hb0) (by decide) rfl (Or.inr ⟨rfl, rfl⟩) (fun _ => rfl) (fun _ => rfl) ?_
  refine xe_heap (h2 := (si_1 h b 0 72)) rfl ?_
  have hb1 : q_Sh (si_1 h b 0 72) b 6 7 := si_1_k2 hb0
  refine xe_aload_n dX6_init_12 rfl ?_
  refine xe_bipush dX6_init_13 kb_64 ?_
  refine xe_newa_int (n := 64) dX6_init_15 (by decide) (show q_N h + 1 < 1000000000 by omega) ?_
  refine xe_putP (a := q_N (si_1 h b 0 72)) (r := b) dX6_init_17 flX6_15 (sh_new hb1) (by decide) rfl (Or.inr ⟨rfl, rfl⟩) (fun _ => rfl) (fun _ => rfl) ?_
  refine xe_heap (h2 := (si_1 (si_1 h b 0 72) b 1 64)) rfl ?_
  have hb2 : q_Sh (si_1 (si_1 h b 0 72) b 1 64) b 6 7 := si_1_k2 hb1
  refine xe_aload_n dX6_init_20 rfl ?_
  refine xe_bipush dX6_init_21 kb_64 ?_
  refine xe_newa_int (n := 64) dX6_init_23 (by decide) (show q_N h + 2 < 1000000000 by omega) ?_
  refine xe_putP (a := q_N (si_1 (si_1 h b 0 72) b 1 64)) (r := b) dX6_init_25 flX6_18 (sh_new hb2) (by decide) rfl (Or.inr ⟨rfl, rfl⟩) (fun _ => rfl) (fun _ => rfl) ?_
  refine xe_heap (h2 := (si_1 (si_1 (si_1 h b 0 72) b 1 64) b 2 64)) rfl ?_
  have hb3 : q_Sh (si_1 (si_1 (si_1 h b 0 72) b 1 64) b 2 64) b 6 7 := si_1_k2 hb2
  refine xe_aload_n dX6_init_28 rfl ?_
  refine xe_sipush dX6_init_29 ks_300 ?_
  refine xe_newa_int (n := 300) dX6_init_32 (by decide) (show q_N h + 3 < 1000000000 by omega) ?_
  refine xe_putP (a := q_N (si_1 (si_1 (si_1 h b 0 72) b 1 64) b 2 64)) (r := b) dX6_init_34 flX6_21 (sh_new hb3) (by decide) rfl (Or.inr ⟨rfl, rfl⟩) (fun _ => rfl) (fun _ => rfl) ?_
  refine xe_heap (h2 := (si_1 (si_1 (si_1 (si_1 h b 0 72) b 1 64) b 2 64) b 3 300)) rfl ?_
  have hb4 : q_Sh (si_1 (si_1 (si_1 (si_1 h b 0 72) b 1 64) b 2 64) b 3 300) b 6 7 := si_1_k2 hb3
  refine xe_aload_n dX6_init_37 rfl ?_
  refine xe_sipush dX6_init_38 ks_300 ?_
  refine xe_newa_int (n := 300) dX6_init_41 (by decide) (show q_N h + 4 < 1000000000 by omega) ?_
  refine xe_putP (a := q_N (si_1 (si_1 (si_1 (si_1 h b 0 72) b 1 64) b 2 64) b 3 300)) (r := b) dX6_init_43 flX6_24 (sh_new hb4) (by decide) rfl (Or.inr ⟨rfl, rfl⟩) (fun _ => rfl) (fun _ => rfl) ?_
  refine xe_heap (h2 := (si_1 (si_1 (si_1 (si_1 (si_1 h b 0 72) b 1 64) b 2 64) b 3 300) b 4 300)) rfl ?_
  have hb5 : q_Sh (si_1 (si_1 (si_1 (si_1 (si_1 h b 0 72) b 1 64) b 2 64) b 3 300) b 4 300) b 6 7 := si_1_k2 hb4
  refine xe_return dX6_init_46 rfl ?_
  exact ⟨rfl, si_5_A hb0.1⟩
