/-! the constructors -/
def z_I : Nat → Nat → Int32 := fun _ _ => 0
def z_J : Nat → Nat → Int64 := fun _ _ => 0
/-- the letters of the words when i signs of them are read -/
def tw_c (i : Nat) : Nat := (os_b 0 i).toNatClampNeg
def tw_st : Nat → Nat × (Nat → Int64)
  | 0 => (0, fun _ => 0)
  | i + 1 => if tw_c i = 32 then ((tw_st i).1 + 1, (tw_st i).2) else ((tw_st i).1, vp_updL (tw_st i).2 (tw_st i).1 (tz_a ((tw_st i).2 (tw_st i).1) (tw_c i)))
theorem tw_lt : ∀ i, i < 85 → (tw_st i).1 < 17 := by decide +kernel
theorem tw_ch : ∀ i, i < 85 → os_b 0 i = nI (tw_c i) ∧ (tw_c i = 32 ∨ (97 ≤ tw_c i ∧ tw_c i ≤ 122)) := by decide +kernel
theorem tw_85 : ∀ w, w < 17 → (tw_st 85).2 w = q_e5 (tz_kw.getD w []) := by decide +kernel
def z_J1 : Nat → Nat → Int64 := fun r => if r = 6 then (tw_st 85).2 else fun _ => 0
theorem tw_loop (l : Launch) (g : q_GP) {LL : Nat} {xs : Nat → Int32} (hX : q_GX g LL xs) : ∀ m i : Nat, i + m = 85 → q_Ex l g 5 mX7_init 52 [(0, .ref 1), (1, .int (nI (tw_st i).1)), (2, .int (nI i))] [] (q_wJ (q_hc z_I z_J 7 5) 6 (tw_st i).2) (fun r h1 => r = none ∧ h1 = q_hc z_I z_J1 7 5) := by
  have hw1 : q_Sh (q_hc z_I z_J 7 5) 1 7 7 := hc_Sh (by decide) rfl
  have hw6 : q_Sh (q_hc z_I z_J 7 5) 6 103 17 := hc_Sh (by decide) rfl
  intro m
  induction m with
  | zero =>
    intro i hi
    obtain rfl : i = 85 := by omega
    refine xe_iload_n dX7_init_52 rfl ?_
    refine xe_ldcO dX7_init_53 (i := 2 * 0) (fun U hU => (hX U hU).2.1) ?_
    refine xe_callVO (i := 0) (d' := 1) (y' := mJ0_length_8abf5) (as := []) (rest := [.int (nI 85)]) dX7_init_55 mlX7_31 mvJ0_length_8abf5 rfl rfl hX (by decide) (by decide) (by decide) (Nat.le_of_ble_eq_true rfl) (cJ_length hX (i := 0) (by decide)) rfl (fun r h2 q => ?_)
    obtain ⟨rfl, rfl⟩ := q
    refine xn_icmp_ge (b := 85) (tgt := 108) dX7_init_58 rfl (by decide) (by decide) (fun _ => ?_) (fun q => absurd q (by decide))
    refine xe_return dX7_init_108 rfl ?_
    exact ⟨rfl, rfl⟩
  | succ m ih =>
    intro i hi
    have hi85 : i < 85 := by omega
    have hw := tw_lt i hi85
    obtain ⟨c1, c2⟩ := tw_ch i hi85
    have key : ∀ h2, h2 = q_wJ (q_hc z_I z_J 7 5) 6 (tw_st (i + 1)).2 → q_Ex l g 5 mX7_init 102 [(0, .ref 1), (1, .int (nI (tw_st (i + 1)).1)), (2, .int (nI i))] [] h2 (fun r h1 => r = none ∧ h1 = q_hc z_I z_J1 7 5) := fun h2 e => by
      subst e
      refine xn_iinc dX7_init_102 rfl kc_1 ?_
      refine xe_goto (tgt := 52) dX7_init_105 rfl ?_
      exact xe_locals (L' := [(0, .ref 1), (1, .int (nI (tw_st (i + 1)).1)), (2, .int (nI (i + 1)))]) ⟨rfl, rfl, rfl, trivial⟩ (ih (i + 1) (by omega))
    refine xe_iload_n dX7_init_52 rfl ?_
    refine xe_ldcO dX7_init_53 (i := 2 * 0) (fun U hU => (hX U hU).2.1) ?_
    refine xe_callVO (i := 0) (d' := 1) (y' := mJ0_length_8abf5) (as := []) (rest := [.int (nI i)]) dX7_init_55 mlX7_31 mvJ0_length_8abf5 rfl rfl hX (by decide) (by decide) (by decide) (Nat.le_of_ble_eq_true rfl) (cJ_length hX (i := 0) (by decide)) rfl (fun r h2 q => ?_)
    obtain ⟨rfl, rfl⟩ := q
    refine xn_icmp_ge (b := 85) (tgt := 108) dX7_init_58 rfl (by omega) (by decide) (fun q => absurd q (by omega)) (fun _ => ?_)
    refine xe_iload_n dX7_init_61 rfl ?_
    refine xe_bipush dX7_init_62 (v := nI 17) (by decide +kernel) ?_
    refine xn_icmp_ge (tgt := 108) dX7_init_64 rfl (by omega) (by decide) (fun q => absurd q (by omega)) (fun _ => ?_)
    refine xe_ldcO dX7_init_67 (i := 2 * 0) (fun U hU => (hX U hU).2.1) ?_
    refine xe_iload_n dX7_init_69 rfl ?_
    refine xe_callVO (i := 0) (d' := 3) (y' := mJ0_charAt_5068e) (as := [.int (nI i)]) (rest := []) dX7_init_70 mlX7_37 mvJ0_charAt_5068e rfl rfl hX (by decide) (by decide) (by decide) (Nat.le_of_ble_eq_true rfl) (cJ_charAt hX (i := 0) (by decide) hi85) rfl (fun r h2 q => ?_)
    obtain ⟨rfl, rfl⟩ := q
    refine xe_top (v' := nI (tw_c i)) c1 ?_
    refine xe_istore_n (i := 3) dX7_init_73 rfl (by decide) rfl ?_
    refine xe_iload_n dX7_init_74 rfl ?_
    refine xe_bipush dX7_init_75 (v := nI 32) (by decide +kernel) ?_
    refine xn_icmp_ne (tgt := 86) dX7_init_77 rfl (by omega) (by decide) (fun q => ?_) (fun q => ?_)
    · have e : tw_st (i + 1) = ((tw_st i).1, vp_updL (tw_st i).2 (tw_st i).1 (tz_a ((tw_st i).2 (tw_st i).1) (tw_c i))) := if_neg q
      refine xe_aload_n dX7_init_86 rfl ?_
      refine xe_getP (a := 6) dX7_init_87 flX7_26 (by exact hw1) (by decide) rfl (show hc_p 5 1 5 = some 6 by decide +kernel) ?_
      refine xe_iload_n dX7_init_90 rfl ?_
      refine xe_aload_n dX7_init_91 rfl ?_
      refine xe_getP (a := 6) dX7_init_92 flX7_26 (by exact hw1) (by decide) rfl (show hc_p 5 1 5 = some 6 by decide +kernel) ?_
      refine xe_iload_n dX7_init_95 rfl ?_
      refine xn_laldv (v := (tw_st i).2 (tw_st i).1) dX7_init_96 (by exact hw6) hw (by decide) rfl ?_
      refine xe_iload_n dX7_init_97 rfl ?_
      refine xe_callSJ (d' := 0) (y' := mX7_withLetter) (as := [.long ((tw_st i).2 (tw_st i).1), .int (nI (tw_c i))]) (rest := [.int (nI (tw_st i).1), .ref 6]) dX7_init_98 mlX7_41 msX7_withLetter rfl (by decide) (by decide) (Nat.le_of_ble_eq_true rfl) (c_X7_withLetter l g _ _ (by omega) (by omega)) rfl ?_
      refine xn_last dX7_init_101 (by exact hw6) hw (by decide) ?_
      refine xe_locals (L' := [(0, .ref 1), (1, .int (nI (tw_st (i + 1)).1)), (2, .int (nI i))]) ⟨rfl, by rw [e]; rfl, rfl, trivial⟩ (key _ ?_)
      rw [e]
      refine q_heqJ [] [6] (H := q_hc z_I z_J 7 5) (by repeat (first | exact q_outJ_r | refine q_outJ_w rfl ?_ | refine q_outJ_j rfl ?_)) (by repeat (first | exact q_outJ_r | refine q_outJ_w rfl ?_ | refine q_outJ_j rfl ?_)) trivial ⟨rfl, trivial⟩
    · have e : tw_st (i + 1) = ((tw_st i).1 + 1, (tw_st i).2) := if_pos (by omega)
      refine xn_iinc dX7_init_80 rfl kc_1 ?_
      refine xe_goto (tgt := 102) dX7_init_83 rfl ?_
      exact xe_locals (L' := [(0, .ref 1), (1, .int (nI (tw_st (i + 1)).1)), (2, .int (nI i))]) ⟨rfl, by rw [e]; rfl, rfl, trivial⟩ (key _ (by rw [e]))
theorem cn_X7_1 (l : Launch) (g : q_GP) {LL : Nat} {xs : Nat → Int32} (hX : q_GX g LL xs) : q_Cd l g 5 mX7_init [.ref 1] (q_hc z_I z_J 2 0) none (q_hc z_I z_J1 7 5) := by
  refine q_CdN mnX7_init (Nat.le_of_ble_eq_true rfl) ?_
  refine xe_aload_n dX7_init_0 rfl ?_
  refine xe_obj dX7_init_1 mlX7_3 (by decide) (Nat.le_of_ble_eq_true rfl) ?_
  refine xe_aload_n dX7_init_4 rfl ?_
  refine xe_sipush dX7_init_5 ks_2000 ?_
  refine xe_newa_byte (n := 2000) dX7_init_8 (by decide) (show 2 < 1000000000 by decide) ?_
  refine xe_heap (hc_new (t := 101) (n := 2000) rfl rfl rfl (by decide +kernel)) ?_
  refine xe_putP (a := 2) (r := 1) dX7_init_10 flX7_11 (hc_Sh (by decide) rfl) (by decide) rfl (Or.inr ⟨rfl, rfl⟩) (fun _ => rfl) (fun _ => rfl) ?_
  refine xe_heap (hc_P (k := 0) (a := 2) rfl (by decide +kernel)) ?_
  refine xe_aload_n dX7_init_13 rfl ?_
  refine xe_sipush dX7_init_14 ks_401 ?_
  refine xe_newa_int (n := 401) dX7_init_17 (by decide) (show 3 < 1000000000 by decide) ?_
  refine xe_heap (hc_new (t := 100) (n := 401) rfl rfl rfl (by decide +kernel)) ?_
  refine xe_putP (a := 3) (r := 1) dX7_init_19 flX7_15 (hc_Sh (by decide) rfl) (by decide) rfl (Or.inr ⟨rfl, rfl⟩) (fun _ => rfl) (fun _ => rfl) ?_
  refine xe_heap (hc_P (k := 2) (a := 3) rfl (by decide +kernel)) ?_
  refine xe_aload_n dX7_init_22 rfl ?_
  refine xe_sipush dX7_init_23 ks_401 ?_
  refine xe_newa_int (n := 401) dX7_init_26 (by decide) (show 4 < 1000000000 by decide) ?_
  refine xe_heap (hc_new (t := 100) (n := 401) rfl rfl rfl (by decide +kernel)) ?_
  refine xe_putP (a := 4) (r := 1) dX7_init_28 flX7_19 (hc_Sh (by decide) rfl) (by decide) rfl (Or.inr ⟨rfl, rfl⟩) (fun _ => rfl) (fun _ => rfl) ?_
  refine xe_heap (hc_P (k := 3) (a := 4) rfl (by decide +kernel)) ?_
  refine xe_aload_n dX7_init_31 rfl ?_
  refine xe_sipush dX7_init_32 ks_401 ?_
  refine xe_newa_long (n := 401) dX7_init_35 (by decide) (show 5 < 1000000000 by decide) ?_
  refine xe_heap (hc_new (t := 103) (n := 401) rfl rfl rfl (by decide +kernel)) ?_
  refine xe_putP (a := 5) (r := 1) dX7_init_37 flX7_22 (hc_Sh (by decide) rfl) (by decide) rfl (Or.inr ⟨rfl, rfl⟩) (fun _ => rfl) (fun _ => rfl) ?_
  refine xe_heap (hc_P (k := 4) (a := 5) rfl (by decide +kernel)) ?_
  refine xe_aload_n dX7_init_40 rfl ?_
  refine xe_bipush dX7_init_41 kb_17 ?_
  refine xe_newa_long (n := 17) dX7_init_43 (by decide) (show 6 < 1000000000 by decide) ?_
  refine xe_heap (hc_new (t := 103) (n := 17) rfl rfl rfl (by decide +kernel)) ?_
  refine xe_putP (a := 6) (r := 1) dX7_init_45 flX7_26 (hc_Sh (by decide) rfl) (by decide) rfl (Or.inr ⟨rfl, rfl⟩) (fun _ => rfl) (fun _ => rfl) ?_
  refine xe_heap (hc_P (k := 5) (a := 6) rfl (by decide +kernel)) ?_
  refine xe_iconst dX7_init_48 kc_0 ?_
  refine xe_istore_n (i := 1) dX7_init_49 rfl (by decide) rfl ?_
  refine xe_iconst dX7_init_50 kc_0 ?_
  refine xe_istore_n (i := 2) dX7_init_51 rfl (by decide) rfl ?_
  exact xe_fin (tw_loop l g hX 85 0 rfl) ⟨rfl, rfl, rfl, trivial⟩ (q_heqJ [] [6] (H := q_hc z_I z_J 7 5) (by repeat (first | exact q_outJ_r | refine q_outJ_w rfl ?_ | refine q_outJ_j rfl ?_)) (by repeat (first | exact q_outJ_r | refine q_outJ_w rfl ?_ | refine q_outJ_j rfl ?_)) trivial ⟨rfl, trivial⟩)
theorem cn_X5_7 (l : Launch) (g : q_GP) {LL : Nat} {xs : Nat → Int32} (hX : q_GX g LL xs) : q_Cd l g 1 mX5_init [.ref 7] (q_hc z_I z_J1 8 6) none (q_hc z_I z_J1 10 8) := by
  refine q_CdN mnX5_init (Nat.le_of_ble_eq_true rfl) ?_
  refine xe_aload_n dX5_init_0 rfl ?_
  refine xe_obj dX5_init_1 mlX5_9 (by decide) (Nat.le_of_ble_eq_true rfl) ?_
  refine xe_aload_n dX5_init_4 rfl ?_
  refine xe_bipush dX5_init_5 kb_8 ?_
  refine xe_newa_long (n := 8) dX5_init_7 (by decide) (show 8 < 1000000000 by decide) ?_
  refine xe_heap (hc_new (t := 103) (n := 8) rfl rfl rfl (by decide +kernel)) ?_
  refine xe_putP (a := 8) (r := 7) dX5_init_9 flX5_15 (hc_Sh (by decide) rfl) (by decide) rfl (Or.inr ⟨rfl, rfl⟩) (fun _ => rfl) (fun _ => rfl) ?_
  refine xe_heap (hc_P (k := 0) (a := 8) rfl (by decide +kernel)) ?_
  refine xe_aload_n dX5_init_12 rfl ?_
  refine xe_bipush dX5_init_13 kb_8 ?_
  refine xe_newa_long (n := 8) dX5_init_15 (by decide) (show 9 < 1000000000 by decide) ?_
  refine xe_heap (hc_new (t := 103) (n := 8) rfl rfl rfl (by decide +kernel)) ?_
  refine xe_putP (a := 9) (r := 7) dX5_init_17 flX5_19 (hc_Sh (by decide) rfl) (by decide) rfl (Or.inr ⟨rfl, rfl⟩) (fun _ => rfl) (fun _ => rfl) ?_
  refine xe_heap (hc_P (k := 1) (a := 9) rfl (by decide +kernel)) ?_
  refine xe_return dX5_init_20 rfl ?_
  exact ⟨rfl, rfl⟩
theorem cn_X3_10 (l : Launch) (g : q_GP) {LL : Nat} {xs : Nat → Int32} (hX : q_GX g LL xs) : q_Cd l g 1 mX3_init [.ref 10] (q_hc z_I z_J1 11 9) none (q_hc z_I z_J1 22 20) := by
  refine q_CdN mnX3_init (Nat.le_of_ble_eq_true rfl) ?_
  refine xe_aload_n dX3_init_0 rfl ?_
  refine xe_obj dX3_init_1 mlX3_5 (by decide) (Nat.le_of_ble_eq_true rfl) ?_
  refine xe_aload_n dX3_init_4 rfl ?_
  refine xe_sipush dX3_init_5 ks_416 ?_
  refine xe_newa_int (n := 416) dX3_init_8 (by decide) (show 11 < 1000000000 by decide) ?_
  refine xe_heap (hc_new (t := 100) (n := 416) rfl rfl rfl (by decide +kernel)) ?_
  refine xe_putP (a := 11) (r := 10) dX3_init_10 flX3_13 (hc_Sh (by decide) rfl) (by decide) rfl (Or.inr ⟨rfl, rfl⟩) (fun _ => rfl) (fun _ => rfl) ?_
  refine xe_heap (hc_P (k := 0) (a := 11) rfl (by decide +kernel)) ?_
  refine xe_aload_n dX3_init_13 rfl ?_
  refine xe_sipush dX3_init_14 ks_416 ?_
  refine xe_newa_int (n := 416) dX3_init_17 (by decide) (show 12 < 1000000000 by decide) ?_
  refine xe_heap (hc_new (t := 100) (n := 416) rfl rfl rfl (by decide +kernel)) ?_
  refine xe_putP (a := 12) (r := 10) dX3_init_19 flX3_17 (hc_Sh (by decide) rfl) (by decide) rfl (Or.inr ⟨rfl, rfl⟩) (fun _ => rfl) (fun _ => rfl) ?_
  refine xe_heap (hc_P (k := 1) (a := 12) rfl (by decide +kernel)) ?_
  refine xe_aload_n dX3_init_22 rfl ?_
  refine xe_bipush dX3_init_23 kb_8 ?_
  refine xe_newa_int (n := 8) dX3_init_25 (by decide) (show 13 < 1000000000 by decide) ?_
  refine xe_heap (hc_new (t := 100) (n := 8) rfl rfl rfl (by decide +kernel)) ?_
  refine xe_putP (a := 13) (r := 10) dX3_init_27 flX3_20 (hc_Sh (by decide) rfl) (by decide) rfl (Or.inr ⟨rfl, rfl⟩) (fun _ => rfl) (fun _ => rfl) ?_
  refine xe_heap (hc_P (k := 7) (a := 13) rfl (by decide +kernel)) ?_
  refine xe_aload_n dX3_init_30 rfl ?_
  refine xe_bipush dX3_init_31 kb_8 ?_
  refine xe_newa_int (n := 8) dX3_init_33 (by decide) (show 14 < 1000000000 by decide) ?_
  refine xe_heap (hc_new (t := 100) (n := 8) rfl rfl rfl (by decide +kernel)) ?_
  refine xe_putP (a := 14) (r := 10) dX3_init_35 flX3_23 (hc_Sh (by decide) rfl) (by decide) rfl (Or.inr ⟨rfl, rfl⟩) (fun _ => rfl) (fun _ => rfl) ?_
  refine xe_heap (hc_P (k := 8) (a := 14) rfl (by decide +kernel)) ?_
  refine xe_aload_n dX3_init_38 rfl ?_
  refine xe_bipush dX3_init_39 kb_12 ?_
  refine xe_newa_int (n := 12) dX3_init_41 (by decide) (show 15 < 1000000000 by decide) ?_
  refine xe_heap (hc_new (t := 100) (n := 12) rfl rfl rfl (by decide +kernel)) ?_
  refine xe_putP (a := 15) (r := 10) dX3_init_43 flX3_26 (hc_Sh (by decide) rfl) (by decide) rfl (Or.inr ⟨rfl, rfl⟩) (fun _ => rfl) (fun _ => rfl) ?_
  refine xe_heap (hc_P (k := 9) (a := 15) rfl (by decide +kernel)) ?_
  refine xe_aload_n dX3_init_46 rfl ?_
  refine xe_bipush dX3_init_47 kb_8 ?_
  refine xe_newa_int (n := 8) dX3_init_49 (by decide) (show 16 < 1000000000 by decide) ?_
  refine xe_heap (hc_new (t := 100) (n := 8) rfl rfl rfl (by decide +kernel)) ?_
  refine xe_putP (a := 16) (r := 10) dX3_init_51 flX3_29 (hc_Sh (by decide) rfl) (by decide) rfl (Or.inr ⟨rfl, rfl⟩) (fun _ => rfl) (fun _ => rfl) ?_
  refine xe_heap (hc_P (k := 10) (a := 16) rfl (by decide +kernel)) ?_
  refine xe_aload_n dX3_init_54 rfl ?_
  refine xe_bipush dX3_init_55 kb_8 ?_
  refine xe_newa_int (n := 8) dX3_init_57 (by decide) (show 17 < 1000000000 by decide) ?_
  refine xe_heap (hc_new (t := 100) (n := 8) rfl rfl rfl (by decide +kernel)) ?_
  refine xe_putP (a := 17) (r := 10) dX3_init_59 flX3_32 (hc_Sh (by decide) rfl) (by decide) rfl (Or.inr ⟨rfl, rfl⟩) (fun _ => rfl) (fun _ => rfl) ?_
  refine xe_heap (hc_P (k := 11) (a := 17) rfl (by decide +kernel)) ?_
  refine xe_aload_n dX3_init_62 rfl ?_
  refine xe_iconst dX3_init_63 kc_1 ?_
  refine xe_newa_int (n := 1) dX3_init_64 (by decide) (show 18 < 1000000000 by decide) ?_
  refine xe_heap (hc_new (t := 100) (n := 1) rfl rfl rfl (by decide +kernel)) ?_
  refine xe_putP (a := 18) (r := 10) dX3_init_66 flX3_35 (hc_Sh (by decide) rfl) (by decide) rfl (Or.inr ⟨rfl, rfl⟩) (fun _ => rfl) (fun _ => rfl) ?_
  refine xe_heap (hc_P (k := 12) (a := 18) rfl (by decide +kernel)) ?_
  refine xe_aload_n dX3_init_69 rfl ?_
  refine xe_iconst dX3_init_70 kc_1 ?_
  refine xe_newa_int (n := 1) dX3_init_71 (by decide) (show 19 < 1000000000 by decide) ?_
  refine xe_heap (hc_new (t := 100) (n := 1) rfl rfl rfl (by decide +kernel)) ?_
  refine xe_putP (a := 19) (r := 10) dX3_init_73 flX3_38 (hc_Sh (by decide) rfl) (by decide) rfl (Or.inr ⟨rfl, rfl⟩) (fun _ => rfl) (fun _ => rfl) ?_
  refine xe_heap (hc_P (k := 13) (a := 19) rfl (by decide +kernel)) ?_
  refine xe_aload_n dX3_init_76 rfl ?_
  refine xe_bipush dX3_init_77 kb_6 ?_
  refine xe_newa_int (n := 6) dX3_init_79 (by decide) (show 20 < 1000000000 by decide) ?_
  refine xe_heap (hc_new (t := 100) (n := 6) rfl rfl rfl (by decide +kernel)) ?_
  refine xe_putP (a := 20) (r := 10) dX3_init_81 flX3_41 (hc_Sh (by decide) rfl) (by decide) rfl (Or.inr ⟨rfl, rfl⟩) (fun _ => rfl) (fun _ => rfl) ?_
  refine xe_heap (hc_P (k := 14) (a := 20) rfl (by decide +kernel)) ?_
  refine xe_aload_n dX3_init_84 rfl ?_
  refine xe_bipush dX3_init_85 kb_32 ?_
  refine xe_newa_int (n := 32) dX3_init_87 (by decide) (show 21 < 1000000000 by decide) ?_
  refine xe_heap (hc_new (t := 100) (n := 32) rfl rfl rfl (by decide +kernel)) ?_
  refine xe_putP (a := 21) (r := 10) dX3_init_89 flX3_44 (hc_Sh (by decide) rfl) (by decide) rfl (Or.inr ⟨rfl, rfl⟩) (fun _ => rfl) (fun _ => rfl) ?_
  refine xe_heap (hc_P (k := 15) (a := 21) rfl (by decide +kernel)) ?_
  refine xe_return dX3_init_92 rfl ?_
  exact ⟨rfl, rfl⟩
theorem cn_X3_22 (l : Launch) (g : q_GP) {LL : Nat} {xs : Nat → Int32} (hX : q_GX g LL xs) : q_Cd l g 1 mX3_init [.ref 22] (q_hc z_I z_J1 23 21) none (q_hc z_I z_J1 34 32) := by
  refine q_CdN mnX3_init (Nat.le_of_ble_eq_true rfl) ?_
  refine xe_aload_n dX3_init_0 rfl ?_
  refine xe_obj dX3_init_1 mlX3_5 (by decide) (Nat.le_of_ble_eq_true rfl) ?_
  refine xe_aload_n dX3_init_4 rfl ?_
  refine xe_sipush dX3_init_5 ks_416 ?_
  refine xe_newa_int (n := 416) dX3_init_8 (by decide) (show 23 < 1000000000 by decide) ?_
  refine xe_heap (hc_new (t := 100) (n := 416) rfl rfl rfl (by decide +kernel)) ?_
  refine xe_putP (a := 23) (r := 22) dX3_init_10 flX3_13 (hc_Sh (by decide) rfl) (by decide) rfl (Or.inr ⟨rfl, rfl⟩) (fun _ => rfl) (fun _ => rfl) ?_
  refine xe_heap (hc_P (k := 0) (a := 23) rfl (by decide +kernel)) ?_
  refine xe_aload_n dX3_init_13 rfl ?_
  refine xe_sipush dX3_init_14 ks_416 ?_
  refine xe_newa_int (n := 416) dX3_init_17 (by decide) (show 24 < 1000000000 by decide) ?_
  refine xe_heap (hc_new (t := 100) (n := 416) rfl rfl rfl (by decide +kernel)) ?_
  refine xe_putP (a := 24) (r := 22) dX3_init_19 flX3_17 (hc_Sh (by decide) rfl) (by decide) rfl (Or.inr ⟨rfl, rfl⟩) (fun _ => rfl) (fun _ => rfl) ?_
  refine xe_heap (hc_P (k := 1) (a := 24) rfl (by decide +kernel)) ?_
  refine xe_aload_n dX3_init_22 rfl ?_
  refine xe_bipush dX3_init_23 kb_8 ?_
  refine xe_newa_int (n := 8) dX3_init_25 (by decide) (show 25 < 1000000000 by decide) ?_
  refine xe_heap (hc_new (t := 100) (n := 8) rfl rfl rfl (by decide +kernel)) ?_
  refine xe_putP (a := 25) (r := 22) dX3_init_27 flX3_20 (hc_Sh (by decide) rfl) (by decide) rfl (Or.inr ⟨rfl, rfl⟩) (fun _ => rfl) (fun _ => rfl) ?_
  refine xe_heap (hc_P (k := 7) (a := 25) rfl (by decide +kernel)) ?_
  refine xe_aload_n dX3_init_30 rfl ?_
  refine xe_bipush dX3_init_31 kb_8 ?_
  refine xe_newa_int (n := 8) dX3_init_33 (by decide) (show 26 < 1000000000 by decide) ?_
  refine xe_heap (hc_new (t := 100) (n := 8) rfl rfl rfl (by decide +kernel)) ?_
  refine xe_putP (a := 26) (r := 22) dX3_init_35 flX3_23 (hc_Sh (by decide) rfl) (by decide) rfl (Or.inr ⟨rfl, rfl⟩) (fun _ => rfl) (fun _ => rfl) ?_
  refine xe_heap (hc_P (k := 8) (a := 26) rfl (by decide +kernel)) ?_
  refine xe_aload_n dX3_init_38 rfl ?_
  refine xe_bipush dX3_init_39 kb_12 ?_
  refine xe_newa_int (n := 12) dX3_init_41 (by decide) (show 27 < 1000000000 by decide) ?_
  refine xe_heap (hc_new (t := 100) (n := 12) rfl rfl rfl (by decide +kernel)) ?_
  refine xe_putP (a := 27) (r := 22) dX3_init_43 flX3_26 (hc_Sh (by decide) rfl) (by decide) rfl (Or.inr ⟨rfl, rfl⟩) (fun _ => rfl) (fun _ => rfl) ?_
  refine xe_heap (hc_P (k := 9) (a := 27) rfl (by decide +kernel)) ?_
  refine xe_aload_n dX3_init_46 rfl ?_
  refine xe_bipush dX3_init_47 kb_8 ?_
  refine xe_newa_int (n := 8) dX3_init_49 (by decide) (show 28 < 1000000000 by decide) ?_
  refine xe_heap (hc_new (t := 100) (n := 8) rfl rfl rfl (by decide +kernel)) ?_
  refine xe_putP (a := 28) (r := 22) dX3_init_51 flX3_29 (hc_Sh (by decide) rfl) (by decide) rfl (Or.inr ⟨rfl, rfl⟩) (fun _ => rfl) (fun _ => rfl) ?_
  refine xe_heap (hc_P (k := 10) (a := 28) rfl (by decide +kernel)) ?_
  refine xe_aload_n dX3_init_54 rfl ?_
  refine xe_bipush dX3_init_55 kb_8 ?_
  refine xe_newa_int (n := 8) dX3_init_57 (by decide) (show 29 < 1000000000 by decide) ?_
  refine xe_heap (hc_new (t := 100) (n := 8) rfl rfl rfl (by decide +kernel)) ?_
  refine xe_putP (a := 29) (r := 22) dX3_init_59 flX3_32 (hc_Sh (by decide) rfl) (by decide) rfl (Or.inr ⟨rfl, rfl⟩) (fun _ => rfl) (fun _ => rfl) ?_
  refine xe_heap (hc_P (k := 11) (a := 29) rfl (by decide +kernel)) ?_
  refine xe_aload_n dX3_init_62 rfl ?_
  refine xe_iconst dX3_init_63 kc_1 ?_
  refine xe_newa_int (n := 1) dX3_init_64 (by decide) (show 30 < 1000000000 by decide) ?_
  refine xe_heap (hc_new (t := 100) (n := 1) rfl rfl rfl (by decide +kernel)) ?_
  refine xe_putP (a := 30) (r := 22) dX3_init_66 flX3_35 (hc_Sh (by decide) rfl) (by decide) rfl (Or.inr ⟨rfl, rfl⟩) (fun _ => rfl) (fun _ => rfl) ?_
  refine xe_heap (hc_P (k := 12) (a := 30) rfl (by decide +kernel)) ?_
  refine xe_aload_n dX3_init_69 rfl ?_
  refine xe_iconst dX3_init_70 kc_1 ?_
  refine xe_newa_int (n := 1) dX3_init_71 (by decide) (show 31 < 1000000000 by decide) ?_
  refine xe_heap (hc_new (t := 100) (n := 1) rfl rfl rfl (by decide +kernel)) ?_
  refine xe_putP (a := 31) (r := 22) dX3_init_73 flX3_38 (hc_Sh (by decide) rfl) (by decide) rfl (Or.inr ⟨rfl, rfl⟩) (fun _ => rfl) (fun _ => rfl) ?_
  refine xe_heap (hc_P (k := 13) (a := 31) rfl (by decide +kernel)) ?_
  refine xe_aload_n dX3_init_76 rfl ?_
  refine xe_bipush dX3_init_77 kb_6 ?_
  refine xe_newa_int (n := 6) dX3_init_79 (by decide) (show 32 < 1000000000 by decide) ?_
  refine xe_heap (hc_new (t := 100) (n := 6) rfl rfl rfl (by decide +kernel)) ?_
  refine xe_putP (a := 32) (r := 22) dX3_init_81 flX3_41 (hc_Sh (by decide) rfl) (by decide) rfl (Or.inr ⟨rfl, rfl⟩) (fun _ => rfl) (fun _ => rfl) ?_
  refine xe_heap (hc_P (k := 14) (a := 32) rfl (by decide +kernel)) ?_
  refine xe_aload_n dX3_init_84 rfl ?_
  refine xe_bipush dX3_init_85 kb_32 ?_
  refine xe_newa_int (n := 32) dX3_init_87 (by decide) (show 33 < 1000000000 by decide) ?_
  refine xe_heap (hc_new (t := 100) (n := 32) rfl rfl rfl (by decide +kernel)) ?_
  refine xe_putP (a := 33) (r := 22) dX3_init_89 flX3_44 (hc_Sh (by decide) rfl) (by decide) rfl (Or.inr ⟨rfl, rfl⟩) (fun _ => rfl) (fun _ => rfl) ?_
  refine xe_heap (hc_P (k := 15) (a := 33) rfl (by decide +kernel)) ?_
  refine xe_return dX3_init_92 rfl ?_
  exact ⟨rfl, rfl⟩
theorem cn_X6_34 (l : Launch) (g : q_GP) {LL : Nat} {xs : Nat → Int32} (hX : q_GX g LL xs) : q_Cd l g 1 mX6_init [.ref 34] (q_hc z_I z_J1 35 33) none (q_hc z_I z_J1 40 38) := by
  refine q_CdN mnX6_init (Nat.le_of_ble_eq_true rfl) ?_
  refine xe_aload_n dX6_init_0 rfl ?_
  refine xe_obj dX6_init_1 mlX6_3 (by decide) (Nat.le_of_ble_eq_true rfl) ?_
  refine xe_aload_n dX6_init_4 rfl ?_
  refine xe_bipush dX6_init_5 kb_72 ?_
  refine xe_newa_int (n := 72) dX6_init_7 (by decide) (show 35 < 1000000000 by decide) ?_
  refine xe_heap (hc_new (t := 100) (n := 72) rfl rfl rfl (by decide +kernel)) ?_
  refine xe_putP (a := 35) (r := 34) dX6_init_9 flX6_9 (hc_Sh (by decide) rfl) (by decide) rfl (Or.inr ⟨rfl, rfl⟩) (fun _ => rfl) (fun _ => rfl) ?_
  refine xe_heap (hc_P (k := 0) (a := 35) rfl (by decide +kernel)) ?_
  refine xe_aload_n dX6_init_12 rfl ?_
  refine xe_bipush dX6_init_13 kb_64 ?_
  refine xe_newa_int (n := 64) dX6_init_15 (by decide) (show 36 < 1000000000 by decide) ?_
  refine xe_heap (hc_new (t := 100) (n := 64) rfl rfl rfl (by decide +kernel)) ?_
  refine xe_putP (a := 36) (r := 34) dX6_init_17 flX6_15 (hc_Sh (by decide) rfl) (by decide) rfl (Or.inr ⟨rfl, rfl⟩) (fun _ => rfl) (fun _ => rfl) ?_
  refine xe_heap (hc_P (k := 1) (a := 36) rfl (by decide +kernel)) ?_
  refine xe_aload_n dX6_init_20 rfl ?_
  refine xe_bipush dX6_init_21 kb_64 ?_
  refine xe_newa_int (n := 64) dX6_init_23 (by decide) (show 37 < 1000000000 by decide) ?_
  refine xe_heap (hc_new (t := 100) (n := 64) rfl rfl rfl (by decide +kernel)) ?_
  refine xe_putP (a := 37) (r := 34) dX6_init_25 flX6_18 (hc_Sh (by decide) rfl) (by decide) rfl (Or.inr ⟨rfl, rfl⟩) (fun _ => rfl) (fun _ => rfl) ?_
  refine xe_heap (hc_P (k := 2) (a := 37) rfl (by decide +kernel)) ?_
  refine xe_aload_n dX6_init_28 rfl ?_
  refine xe_sipush dX6_init_29 ks_300 ?_
  refine xe_newa_int (n := 300) dX6_init_32 (by decide) (show 38 < 1000000000 by decide) ?_
  refine xe_heap (hc_new (t := 100) (n := 300) rfl rfl rfl (by decide +kernel)) ?_
  refine xe_putP (a := 38) (r := 34) dX6_init_34 flX6_21 (hc_Sh (by decide) rfl) (by decide) rfl (Or.inr ⟨rfl, rfl⟩) (fun _ => rfl) (fun _ => rfl) ?_
  refine xe_heap (hc_P (k := 3) (a := 38) rfl (by decide +kernel)) ?_
  refine xe_aload_n dX6_init_37 rfl ?_
  refine xe_sipush dX6_init_38 ks_300 ?_
  refine xe_newa_int (n := 300) dX6_init_41 (by decide) (show 39 < 1000000000 by decide) ?_
  refine xe_heap (hc_new (t := 100) (n := 300) rfl rfl rfl (by decide +kernel)) ?_
  refine xe_putP (a := 39) (r := 34) dX6_init_43 flX6_24 (hc_Sh (by decide) rfl) (by decide) rfl (Or.inr ⟨rfl, rfl⟩) (fun _ => rfl) (fun _ => rfl) ?_
  refine xe_heap (hc_P (k := 4) (a := 39) rfl (by decide +kernel)) ?_
  refine xe_return dX6_init_46 rfl ?_
  exact ⟨rfl, rfl⟩
theorem cn_X0_44 (l : Launch) (g : q_GP) {LL : Nat} {xs : Nat → Int32} (hX : q_GX g LL xs) : q_Cd l g 1 mX0_init [.ref 44] (q_hc z_I z_J1 45 42) none (q_hc z_I z_J1 46 43) := by
  refine q_CdN mnX0_init (Nat.le_of_ble_eq_true rfl) ?_
  refine xe_aload_n dX0_init_0 rfl ?_
  refine xe_obj dX0_init_1 mlX0_3 (by decide) (Nat.le_of_ble_eq_true rfl) ?_
  refine xe_aload_n dX0_init_4 rfl ?_
  refine xe_bipush dX0_init_5 kb_72 ?_
  refine xe_newa_int (n := 72) dX0_init_7 (by decide) (show 45 < 1000000000 by decide) ?_
  refine xe_heap (hc_new (t := 100) (n := 72) rfl rfl rfl (by decide +kernel)) ?_
  refine xe_putP (a := 45) (r := 44) dX0_init_9 flX0_9 (hc_Sh (by decide) rfl) (by decide) rfl (Or.inr ⟨rfl, rfl⟩) (fun _ => rfl) (fun _ => rfl) ?_
  refine xe_heap (hc_P (k := 0) (a := 45) rfl (by decide +kernel)) ?_
  refine xe_return dX0_init_12 rfl ?_
  exact ⟨rfl, rfl⟩
theorem cn_X0_46 (l : Launch) (g : q_GP) {LL : Nat} {xs : Nat → Int32} (hX : q_GX g LL xs) : q_Cd l g 1 mX0_init [.ref 46] (q_hc z_I z_J1 47 44) none (q_hc z_I z_J1 48 45) := by
  refine q_CdN mnX0_init (Nat.le_of_ble_eq_true rfl) ?_
  refine xe_aload_n dX0_init_0 rfl ?_
  refine xe_obj dX0_init_1 mlX0_3 (by decide) (Nat.le_of_ble_eq_true rfl) ?_
  refine xe_aload_n dX0_init_4 rfl ?_
  refine xe_bipush dX0_init_5 kb_72 ?_
  refine xe_newa_int (n := 72) dX0_init_7 (by decide) (show 47 < 1000000000 by decide) ?_
  refine xe_heap (hc_new (t := 100) (n := 72) rfl rfl rfl (by decide +kernel)) ?_
  refine xe_putP (a := 47) (r := 46) dX0_init_9 flX0_9 (hc_Sh (by decide) rfl) (by decide) rfl (Or.inr ⟨rfl, rfl⟩) (fun _ => rfl) (fun _ => rfl) ?_
  refine xe_heap (hc_P (k := 0) (a := 47) rfl (by decide +kernel)) ?_
  refine xe_return dX0_init_12 rfl ?_
  exact ⟨rfl, rfl⟩
theorem cn_X0_48 (l : Launch) (g : q_GP) {LL : Nat} {xs : Nat → Int32} (hX : q_GX g LL xs) : q_Cd l g 1 mX0_init [.ref 48] (q_hc z_I z_J1 49 46) none (q_hc z_I z_J1 50 47) := by
  refine q_CdN mnX0_init (Nat.le_of_ble_eq_true rfl) ?_
  refine xe_aload_n dX0_init_0 rfl ?_
  refine xe_obj dX0_init_1 mlX0_3 (by decide) (Nat.le_of_ble_eq_true rfl) ?_
  refine xe_aload_n dX0_init_4 rfl ?_
  refine xe_bipush dX0_init_5 kb_72 ?_
  refine xe_newa_int (n := 72) dX0_init_7 (by decide) (show 49 < 1000000000 by decide) ?_
  refine xe_heap (hc_new (t := 100) (n := 72) rfl rfl rfl (by decide +kernel)) ?_
  refine xe_putP (a := 49) (r := 48) dX0_init_9 flX0_9 (hc_Sh (by decide) rfl) (by decide) rfl (Or.inr ⟨rfl, rfl⟩) (fun _ => rfl) (fun _ => rfl) ?_
  refine xe_heap (hc_P (k := 0) (a := 49) rfl (by decide +kernel)) ?_
  refine xe_return dX0_init_12 rfl ?_
  exact ⟨rfl, rfl⟩
theorem cn_X0_50 (l : Launch) (g : q_GP) {LL : Nat} {xs : Nat → Int32} (hX : q_GX g LL xs) : q_Cd l g 1 mX0_init [.ref 50] (q_hc z_I z_J1 51 48) none (q_hc z_I z_J1 52 49) := by
  refine q_CdN mnX0_init (Nat.le_of_ble_eq_true rfl) ?_
  refine xe_aload_n dX0_init_0 rfl ?_
  refine xe_obj dX0_init_1 mlX0_3 (by decide) (Nat.le_of_ble_eq_true rfl) ?_
  refine xe_aload_n dX0_init_4 rfl ?_
  refine xe_bipush dX0_init_5 kb_72 ?_
  refine xe_newa_int (n := 72) dX0_init_7 (by decide) (show 51 < 1000000000 by decide) ?_
  refine xe_heap (hc_new (t := 100) (n := 72) rfl rfl rfl (by decide +kernel)) ?_
  refine xe_putP (a := 51) (r := 50) dX0_init_9 flX0_9 (hc_Sh (by decide) rfl) (by decide) rfl (Or.inr ⟨rfl, rfl⟩) (fun _ => rfl) (fun _ => rfl) ?_
  refine xe_heap (hc_P (k := 0) (a := 51) rfl (by decide +kernel)) ?_
  refine xe_return dX0_init_12 rfl ?_
  exact ⟨rfl, rfl⟩
theorem cn_X0_52 (l : Launch) (g : q_GP) {LL : Nat} {xs : Nat → Int32} (hX : q_GX g LL xs) : q_Cd l g 1 mX0_init [.ref 52] (q_hc z_I z_J1 53 50) none (q_hc z_I z_J1 54 51) := by
  refine q_CdN mnX0_init (Nat.le_of_ble_eq_true rfl) ?_
  refine xe_aload_n dX0_init_0 rfl ?_
  refine xe_obj dX0_init_1 mlX0_3 (by decide) (Nat.le_of_ble_eq_true rfl) ?_
  refine xe_aload_n dX0_init_4 rfl ?_
  refine xe_bipush dX0_init_5 kb_72 ?_
  refine xe_newa_int (n := 72) dX0_init_7 (by decide) (show 53 < 1000000000 by decide) ?_
  refine xe_heap (hc_new (t := 100) (n := 72) rfl rfl rfl (by decide +kernel)) ?_
  refine xe_putP (a := 53) (r := 52) dX0_init_9 flX0_9 (hc_Sh (by decide) rfl) (by decide) rfl (Or.inr ⟨rfl, rfl⟩) (fun _ => rfl) (fun _ => rfl) ?_
  refine xe_heap (hc_P (k := 0) (a := 53) rfl (by decide +kernel)) ?_
  refine xe_return dX0_init_12 rfl ?_
  exact ⟨rfl, rfl⟩
theorem cn_X0_54 (l : Launch) (g : q_GP) {LL : Nat} {xs : Nat → Int32} (hX : q_GX g LL xs) : q_Cd l g 1 mX0_init [.ref 54] (q_hc z_I z_J1 55 52) none (q_hc z_I z_J1 56 53) := by
  refine q_CdN mnX0_init (Nat.le_of_ble_eq_true rfl) ?_
  refine xe_aload_n dX0_init_0 rfl ?_
  refine xe_obj dX0_init_1 mlX0_3 (by decide) (Nat.le_of_ble_eq_true rfl) ?_
  refine xe_aload_n dX0_init_4 rfl ?_
  refine xe_bipush dX0_init_5 kb_72 ?_
  refine xe_newa_int (n := 72) dX0_init_7 (by decide) (show 55 < 1000000000 by decide) ?_
  refine xe_heap (hc_new (t := 100) (n := 72) rfl rfl rfl (by decide +kernel)) ?_
  refine xe_putP (a := 55) (r := 54) dX0_init_9 flX0_9 (hc_Sh (by decide) rfl) (by decide) rfl (Or.inr ⟨rfl, rfl⟩) (fun _ => rfl) (fun _ => rfl) ?_
  refine xe_heap (hc_P (k := 0) (a := 55) rfl (by decide +kernel)) ?_
  refine xe_return dX0_init_12 rfl ?_
  exact ⟨rfl, rfl⟩
theorem cn_X0_56 (l : Launch) (g : q_GP) {LL : Nat} {xs : Nat → Int32} (hX : q_GX g LL xs) : q_Cd l g 1 mX0_init [.ref 56] (q_hc z_I z_J1 57 54) none (q_hc z_I z_J1 58 55) := by
  refine q_CdN mnX0_init (Nat.le_of_ble_eq_true rfl) ?_
  refine xe_aload_n dX0_init_0 rfl ?_
  refine xe_obj dX0_init_1 mlX0_3 (by decide) (Nat.le_of_ble_eq_true rfl) ?_
  refine xe_aload_n dX0_init_4 rfl ?_
  refine xe_bipush dX0_init_5 kb_72 ?_
  refine xe_newa_int (n := 72) dX0_init_7 (by decide) (show 57 < 1000000000 by decide) ?_
  refine xe_heap (hc_new (t := 100) (n := 72) rfl rfl rfl (by decide +kernel)) ?_
  refine xe_putP (a := 57) (r := 56) dX0_init_9 flX0_9 (hc_Sh (by decide) rfl) (by decide) rfl (Or.inr ⟨rfl, rfl⟩) (fun _ => rfl) (fun _ => rfl) ?_
  refine xe_heap (hc_P (k := 0) (a := 57) rfl (by decide +kernel)) ?_
  refine xe_return dX0_init_12 rfl ?_
  exact ⟨rfl, rfl⟩
theorem cn_X0_58 (l : Launch) (g : q_GP) {LL : Nat} {xs : Nat → Int32} (hX : q_GX g LL xs) : q_Cd l g 1 mX0_init [.ref 58] (q_hc z_I z_J1 59 56) none (q_hc z_I z_J1 60 57) := by
  refine q_CdN mnX0_init (Nat.le_of_ble_eq_true rfl) ?_
  refine xe_aload_n dX0_init_0 rfl ?_
  refine xe_obj dX0_init_1 mlX0_3 (by decide) (Nat.le_of_ble_eq_true rfl) ?_
  refine xe_aload_n dX0_init_4 rfl ?_
  refine xe_bipush dX0_init_5 kb_72 ?_
  refine xe_newa_int (n := 72) dX0_init_7 (by decide) (show 59 < 1000000000 by decide) ?_
  refine xe_heap (hc_new (t := 100) (n := 72) rfl rfl rfl (by decide +kernel)) ?_
  refine xe_putP (a := 59) (r := 58) dX0_init_9 flX0_9 (hc_Sh (by decide) rfl) (by decide) rfl (Or.inr ⟨rfl, rfl⟩) (fun _ => rfl) (fun _ => rfl) ?_
  refine xe_heap (hc_P (k := 0) (a := 59) rfl (by decide +kernel)) ?_
  refine xe_return dX0_init_12 rfl ?_
  exact ⟨rfl, rfl⟩
theorem cn_X0_60 (l : Launch) (g : q_GP) {LL : Nat} {xs : Nat → Int32} (hX : q_GX g LL xs) : q_Cd l g 1 mX0_init [.ref 60] (q_hc z_I z_J1 61 58) none (q_hc z_I z_J1 62 59) := by
  refine q_CdN mnX0_init (Nat.le_of_ble_eq_true rfl) ?_
  refine xe_aload_n dX0_init_0 rfl ?_
  refine xe_obj dX0_init_1 mlX0_3 (by decide) (Nat.le_of_ble_eq_true rfl) ?_
  refine xe_aload_n dX0_init_4 rfl ?_
  refine xe_bipush dX0_init_5 kb_72 ?_
  refine xe_newa_int (n := 72) dX0_init_7 (by decide) (show 61 < 1000000000 by decide) ?_
  refine xe_heap (hc_new (t := 100) (n := 72) rfl rfl rfl (by decide +kernel)) ?_
  refine xe_putP (a := 61) (r := 60) dX0_init_9 flX0_9 (hc_Sh (by decide) rfl) (by decide) rfl (Or.inr ⟨rfl, rfl⟩) (fun _ => rfl) (fun _ => rfl) ?_
  refine xe_heap (hc_P (k := 0) (a := 61) rfl (by decide +kernel)) ?_
  refine xe_return dX0_init_12 rfl ?_
  exact ⟨rfl, rfl⟩
theorem cn_X0_62 (l : Launch) (g : q_GP) {LL : Nat} {xs : Nat → Int32} (hX : q_GX g LL xs) : q_Cd l g 1 mX0_init [.ref 62] (q_hc z_I z_J1 63 60) none (q_hc z_I z_J1 64 61) := by
  refine q_CdN mnX0_init (Nat.le_of_ble_eq_true rfl) ?_
  refine xe_aload_n dX0_init_0 rfl ?_
  refine xe_obj dX0_init_1 mlX0_3 (by decide) (Nat.le_of_ble_eq_true rfl) ?_
  refine xe_aload_n dX0_init_4 rfl ?_
  refine xe_bipush dX0_init_5 kb_72 ?_
  refine xe_newa_int (n := 72) dX0_init_7 (by decide) (show 63 < 1000000000 by decide) ?_
  refine xe_heap (hc_new (t := 100) (n := 72) rfl rfl rfl (by decide +kernel)) ?_
  refine xe_putP (a := 63) (r := 62) dX0_init_9 flX0_9 (hc_Sh (by decide) rfl) (by decide) rfl (Or.inr ⟨rfl, rfl⟩) (fun _ => rfl) (fun _ => rfl) ?_
  refine xe_heap (hc_P (k := 0) (a := 63) rfl (by decide +kernel)) ?_
  refine xe_return dX0_init_12 rfl ?_
  exact ⟨rfl, rfl⟩
theorem cn_X0_64 (l : Launch) (g : q_GP) {LL : Nat} {xs : Nat → Int32} (hX : q_GX g LL xs) : q_Cd l g 1 mX0_init [.ref 64] (q_hc z_I z_J1 65 62) none (q_hc z_I z_J1 66 63) := by
  refine q_CdN mnX0_init (Nat.le_of_ble_eq_true rfl) ?_
  refine xe_aload_n dX0_init_0 rfl ?_
  refine xe_obj dX0_init_1 mlX0_3 (by decide) (Nat.le_of_ble_eq_true rfl) ?_
  refine xe_aload_n dX0_init_4 rfl ?_
  refine xe_bipush dX0_init_5 kb_72 ?_
  refine xe_newa_int (n := 72) dX0_init_7 (by decide) (show 65 < 1000000000 by decide) ?_
  refine xe_heap (hc_new (t := 100) (n := 72) rfl rfl rfl (by decide +kernel)) ?_
  refine xe_putP (a := 65) (r := 64) dX0_init_9 flX0_9 (hc_Sh (by decide) rfl) (by decide) rfl (Or.inr ⟨rfl, rfl⟩) (fun _ => rfl) (fun _ => rfl) ?_
  refine xe_heap (hc_P (k := 0) (a := 65) rfl (by decide +kernel)) ?_
  refine xe_return dX0_init_12 rfl ?_
  exact ⟨rfl, rfl⟩
theorem cn_X0_66 (l : Launch) (g : q_GP) {LL : Nat} {xs : Nat → Int32} (hX : q_GX g LL xs) : q_Cd l g 1 mX0_init [.ref 66] (q_hc z_I z_J1 67 64) none (q_hc z_I z_J1 68 65) := by
  refine q_CdN mnX0_init (Nat.le_of_ble_eq_true rfl) ?_
  refine xe_aload_n dX0_init_0 rfl ?_
  refine xe_obj dX0_init_1 mlX0_3 (by decide) (Nat.le_of_ble_eq_true rfl) ?_
  refine xe_aload_n dX0_init_4 rfl ?_
  refine xe_bipush dX0_init_5 kb_72 ?_
  refine xe_newa_int (n := 72) dX0_init_7 (by decide) (show 67 < 1000000000 by decide) ?_
  refine xe_heap (hc_new (t := 100) (n := 72) rfl rfl rfl (by decide +kernel)) ?_
  refine xe_putP (a := 67) (r := 66) dX0_init_9 flX0_9 (hc_Sh (by decide) rfl) (by decide) rfl (Or.inr ⟨rfl, rfl⟩) (fun _ => rfl) (fun _ => rfl) ?_
  refine xe_heap (hc_P (k := 0) (a := 67) rfl (by decide +kernel)) ?_
  refine xe_return dX0_init_12 rfl ?_
  exact ⟨rfl, rfl⟩
theorem cn_X0_68 (l : Launch) (g : q_GP) {LL : Nat} {xs : Nat → Int32} (hX : q_GX g LL xs) : q_Cd l g 1 mX0_init [.ref 68] (q_hc z_I z_J1 69 66) none (q_hc z_I z_J1 70 67) := by
  refine q_CdN mnX0_init (Nat.le_of_ble_eq_true rfl) ?_
  refine xe_aload_n dX0_init_0 rfl ?_
  refine xe_obj dX0_init_1 mlX0_3 (by decide) (Nat.le_of_ble_eq_true rfl) ?_
  refine xe_aload_n dX0_init_4 rfl ?_
  refine xe_bipush dX0_init_5 kb_72 ?_
  refine xe_newa_int (n := 72) dX0_init_7 (by decide) (show 69 < 1000000000 by decide) ?_
  refine xe_heap (hc_new (t := 100) (n := 72) rfl rfl rfl (by decide +kernel)) ?_
  refine xe_putP (a := 69) (r := 68) dX0_init_9 flX0_9 (hc_Sh (by decide) rfl) (by decide) rfl (Or.inr ⟨rfl, rfl⟩) (fun _ => rfl) (fun _ => rfl) ?_
  refine xe_heap (hc_P (k := 0) (a := 69) rfl (by decide +kernel)) ?_
  refine xe_return dX0_init_12 rfl ?_
  exact ⟨rfl, rfl⟩
theorem cn_X0_70 (l : Launch) (g : q_GP) {LL : Nat} {xs : Nat → Int32} (hX : q_GX g LL xs) : q_Cd l g 1 mX0_init [.ref 70] (q_hc z_I z_J1 71 68) none (q_hc z_I z_J1 72 69) := by
  refine q_CdN mnX0_init (Nat.le_of_ble_eq_true rfl) ?_
  refine xe_aload_n dX0_init_0 rfl ?_
  refine xe_obj dX0_init_1 mlX0_3 (by decide) (Nat.le_of_ble_eq_true rfl) ?_
  refine xe_aload_n dX0_init_4 rfl ?_
  refine xe_bipush dX0_init_5 kb_72 ?_
  refine xe_newa_int (n := 72) dX0_init_7 (by decide) (show 71 < 1000000000 by decide) ?_
  refine xe_heap (hc_new (t := 100) (n := 72) rfl rfl rfl (by decide +kernel)) ?_
  refine xe_putP (a := 71) (r := 70) dX0_init_9 flX0_9 (hc_Sh (by decide) rfl) (by decide) rfl (Or.inr ⟨rfl, rfl⟩) (fun _ => rfl) (fun _ => rfl) ?_
  refine xe_heap (hc_P (k := 0) (a := 71) rfl (by decide +kernel)) ?_
  refine xe_return dX0_init_12 rfl ?_
  exact ⟨rfl, rfl⟩
theorem cn_X0_72 (l : Launch) (g : q_GP) {LL : Nat} {xs : Nat → Int32} (hX : q_GX g LL xs) : q_Cd l g 1 mX0_init [.ref 72] (q_hc z_I z_J1 73 70) none (q_hc z_I z_J1 74 71) := by
  refine q_CdN mnX0_init (Nat.le_of_ble_eq_true rfl) ?_
  refine xe_aload_n dX0_init_0 rfl ?_
  refine xe_obj dX0_init_1 mlX0_3 (by decide) (Nat.le_of_ble_eq_true rfl) ?_
  refine xe_aload_n dX0_init_4 rfl ?_
  refine xe_bipush dX0_init_5 kb_72 ?_
  refine xe_newa_int (n := 72) dX0_init_7 (by decide) (show 73 < 1000000000 by decide) ?_
  refine xe_heap (hc_new (t := 100) (n := 72) rfl rfl rfl (by decide +kernel)) ?_
  refine xe_putP (a := 73) (r := 72) dX0_init_9 flX0_9 (hc_Sh (by decide) rfl) (by decide) rfl (Or.inr ⟨rfl, rfl⟩) (fun _ => rfl) (fun _ => rfl) ?_
  refine xe_heap (hc_P (k := 0) (a := 73) rfl (by decide +kernel)) ?_
  refine xe_return dX0_init_12 rfl ?_
  exact ⟨rfl, rfl⟩
theorem cn_X0_74 (l : Launch) (g : q_GP) {LL : Nat} {xs : Nat → Int32} (hX : q_GX g LL xs) : q_Cd l g 1 mX0_init [.ref 74] (q_hc z_I z_J1 75 72) none (q_hc z_I z_J1 76 73) := by
  refine q_CdN mnX0_init (Nat.le_of_ble_eq_true rfl) ?_
  refine xe_aload_n dX0_init_0 rfl ?_
  refine xe_obj dX0_init_1 mlX0_3 (by decide) (Nat.le_of_ble_eq_true rfl) ?_
  refine xe_aload_n dX0_init_4 rfl ?_
  refine xe_bipush dX0_init_5 kb_72 ?_
  refine xe_newa_int (n := 72) dX0_init_7 (by decide) (show 75 < 1000000000 by decide) ?_
  refine xe_heap (hc_new (t := 100) (n := 72) rfl rfl rfl (by decide +kernel)) ?_
  refine xe_putP (a := 75) (r := 74) dX0_init_9 flX0_9 (hc_Sh (by decide) rfl) (by decide) rfl (Or.inr ⟨rfl, rfl⟩) (fun _ => rfl) (fun _ => rfl) ?_
  refine xe_heap (hc_P (k := 0) (a := 75) rfl (by decide +kernel)) ?_
  refine xe_return dX0_init_12 rfl ?_
  exact ⟨rfl, rfl⟩
theorem cn_X0_76 (l : Launch) (g : q_GP) {LL : Nat} {xs : Nat → Int32} (hX : q_GX g LL xs) : q_Cd l g 1 mX0_init [.ref 76] (q_hc z_I z_J1 77 74) none (q_hc z_I z_J1 78 75) := by
  refine q_CdN mnX0_init (Nat.le_of_ble_eq_true rfl) ?_
  refine xe_aload_n dX0_init_0 rfl ?_
  refine xe_obj dX0_init_1 mlX0_3 (by decide) (Nat.le_of_ble_eq_true rfl) ?_
  refine xe_aload_n dX0_init_4 rfl ?_
  refine xe_bipush dX0_init_5 kb_72 ?_
  refine xe_newa_int (n := 72) dX0_init_7 (by decide) (show 77 < 1000000000 by decide) ?_
  refine xe_heap (hc_new (t := 100) (n := 72) rfl rfl rfl (by decide +kernel)) ?_
  refine xe_putP (a := 77) (r := 76) dX0_init_9 flX0_9 (hc_Sh (by decide) rfl) (by decide) rfl (Or.inr ⟨rfl, rfl⟩) (fun _ => rfl) (fun _ => rfl) ?_
  refine xe_heap (hc_P (k := 0) (a := 77) rfl (by decide +kernel)) ?_
  refine xe_return dX0_init_12 rfl ?_
  exact ⟨rfl, rfl⟩
theorem cn_X0_78 (l : Launch) (g : q_GP) {LL : Nat} {xs : Nat → Int32} (hX : q_GX g LL xs) : q_Cd l g 1 mX0_init [.ref 78] (q_hc z_I z_J1 79 76) none (q_hc z_I z_J1 80 77) := by
  refine q_CdN mnX0_init (Nat.le_of_ble_eq_true rfl) ?_
  refine xe_aload_n dX0_init_0 rfl ?_
  refine xe_obj dX0_init_1 mlX0_3 (by decide) (Nat.le_of_ble_eq_true rfl) ?_
  refine xe_aload_n dX0_init_4 rfl ?_
  refine xe_bipush dX0_init_5 kb_72 ?_
  refine xe_newa_int (n := 72) dX0_init_7 (by decide) (show 79 < 1000000000 by decide) ?_
  refine xe_heap (hc_new (t := 100) (n := 72) rfl rfl rfl (by decide +kernel)) ?_
  refine xe_putP (a := 79) (r := 78) dX0_init_9 flX0_9 (hc_Sh (by decide) rfl) (by decide) rfl (Or.inr ⟨rfl, rfl⟩) (fun _ => rfl) (fun _ => rfl) ?_
  refine xe_heap (hc_P (k := 0) (a := 79) rfl (by decide +kernel)) ?_
  refine xe_return dX0_init_12 rfl ?_
  exact ⟨rfl, rfl⟩
theorem cn_X0_80 (l : Launch) (g : q_GP) {LL : Nat} {xs : Nat → Int32} (hX : q_GX g LL xs) : q_Cd l g 1 mX0_init [.ref 80] (q_hc z_I z_J1 81 78) none (q_hc z_I z_J1 82 79) := by
  refine q_CdN mnX0_init (Nat.le_of_ble_eq_true rfl) ?_
  refine xe_aload_n dX0_init_0 rfl ?_
  refine xe_obj dX0_init_1 mlX0_3 (by decide) (Nat.le_of_ble_eq_true rfl) ?_
  refine xe_aload_n dX0_init_4 rfl ?_
  refine xe_bipush dX0_init_5 kb_72 ?_
  refine xe_newa_int (n := 72) dX0_init_7 (by decide) (show 81 < 1000000000 by decide) ?_
  refine xe_heap (hc_new (t := 100) (n := 72) rfl rfl rfl (by decide +kernel)) ?_
  refine xe_putP (a := 81) (r := 80) dX0_init_9 flX0_9 (hc_Sh (by decide) rfl) (by decide) rfl (Or.inr ⟨rfl, rfl⟩) (fun _ => rfl) (fun _ => rfl) ?_
  refine xe_heap (hc_P (k := 0) (a := 81) rfl (by decide +kernel)) ?_
  refine xe_return dX0_init_12 rfl ?_
  exact ⟨rfl, rfl⟩
theorem cn_X0_82 (l : Launch) (g : q_GP) {LL : Nat} {xs : Nat → Int32} (hX : q_GX g LL xs) : q_Cd l g 1 mX0_init [.ref 82] (q_hc z_I z_J1 83 80) none (q_hc z_I z_J1 84 81) := by
  refine q_CdN mnX0_init (Nat.le_of_ble_eq_true rfl) ?_
  refine xe_aload_n dX0_init_0 rfl ?_
  refine xe_obj dX0_init_1 mlX0_3 (by decide) (Nat.le_of_ble_eq_true rfl) ?_
  refine xe_aload_n dX0_init_4 rfl ?_
  refine xe_bipush dX0_init_5 kb_72 ?_
  refine xe_newa_int (n := 72) dX0_init_7 (by decide) (show 83 < 1000000000 by decide) ?_
  refine xe_heap (hc_new (t := 100) (n := 72) rfl rfl rfl (by decide +kernel)) ?_
  refine xe_putP (a := 83) (r := 82) dX0_init_9 flX0_9 (hc_Sh (by decide) rfl) (by decide) rfl (Or.inr ⟨rfl, rfl⟩) (fun _ => rfl) (fun _ => rfl) ?_
  refine xe_heap (hc_P (k := 0) (a := 83) rfl (by decide +kernel)) ?_
  refine xe_return dX0_init_12 rfl ?_
  exact ⟨rfl, rfl⟩
theorem cn_X0_84 (l : Launch) (g : q_GP) {LL : Nat} {xs : Nat → Int32} (hX : q_GX g LL xs) : q_Cd l g 1 mX0_init [.ref 84] (q_hc z_I z_J1 85 82) none (q_hc z_I z_J1 86 83) := by
  refine q_CdN mnX0_init (Nat.le_of_ble_eq_true rfl) ?_
  refine xe_aload_n dX0_init_0 rfl ?_
  refine xe_obj dX0_init_1 mlX0_3 (by decide) (Nat.le_of_ble_eq_true rfl) ?_
  refine xe_aload_n dX0_init_4 rfl ?_
  refine xe_bipush dX0_init_5 kb_72 ?_
  refine xe_newa_int (n := 72) dX0_init_7 (by decide) (show 85 < 1000000000 by decide) ?_
  refine xe_heap (hc_new (t := 100) (n := 72) rfl rfl rfl (by decide +kernel)) ?_
  refine xe_putP (a := 85) (r := 84) dX0_init_9 flX0_9 (hc_Sh (by decide) rfl) (by decide) rfl (Or.inr ⟨rfl, rfl⟩) (fun _ => rfl) (fun _ => rfl) ?_
  refine xe_heap (hc_P (k := 0) (a := 85) rfl (by decide +kernel)) ?_
  refine xe_return dX0_init_12 rfl ?_
  exact ⟨rfl, rfl⟩
theorem cn_X0_86 (l : Launch) (g : q_GP) {LL : Nat} {xs : Nat → Int32} (hX : q_GX g LL xs) : q_Cd l g 1 mX0_init [.ref 86] (q_hc z_I z_J1 87 84) none (q_hc z_I z_J1 88 85) := by
  refine q_CdN mnX0_init (Nat.le_of_ble_eq_true rfl) ?_
  refine xe_aload_n dX0_init_0 rfl ?_
  refine xe_obj dX0_init_1 mlX0_3 (by decide) (Nat.le_of_ble_eq_true rfl) ?_
  refine xe_aload_n dX0_init_4 rfl ?_
  refine xe_bipush dX0_init_5 kb_72 ?_
  refine xe_newa_int (n := 72) dX0_init_7 (by decide) (show 87 < 1000000000 by decide) ?_
  refine xe_heap (hc_new (t := 100) (n := 72) rfl rfl rfl (by decide +kernel)) ?_
  refine xe_putP (a := 87) (r := 86) dX0_init_9 flX0_9 (hc_Sh (by decide) rfl) (by decide) rfl (Or.inr ⟨rfl, rfl⟩) (fun _ => rfl) (fun _ => rfl) ?_
  refine xe_heap (hc_P (k := 0) (a := 87) rfl (by decide +kernel)) ?_
  refine xe_return dX0_init_12 rfl ?_
  exact ⟨rfl, rfl⟩
theorem cn_X0_88 (l : Launch) (g : q_GP) {LL : Nat} {xs : Nat → Int32} (hX : q_GX g LL xs) : q_Cd l g 1 mX0_init [.ref 88] (q_hc z_I z_J1 89 86) none (q_hc z_I z_J1 90 87) := by
  refine q_CdN mnX0_init (Nat.le_of_ble_eq_true rfl) ?_
  refine xe_aload_n dX0_init_0 rfl ?_
  refine xe_obj dX0_init_1 mlX0_3 (by decide) (Nat.le_of_ble_eq_true rfl) ?_
  refine xe_aload_n dX0_init_4 rfl ?_
  refine xe_bipush dX0_init_5 kb_72 ?_
  refine xe_newa_int (n := 72) dX0_init_7 (by decide) (show 89 < 1000000000 by decide) ?_
  refine xe_heap (hc_new (t := 100) (n := 72) rfl rfl rfl (by decide +kernel)) ?_
  refine xe_putP (a := 89) (r := 88) dX0_init_9 flX0_9 (hc_Sh (by decide) rfl) (by decide) rfl (Or.inr ⟨rfl, rfl⟩) (fun _ => rfl) (fun _ => rfl) ?_
  refine xe_heap (hc_P (k := 0) (a := 89) rfl (by decide +kernel)) ?_
  refine xe_return dX0_init_12 rfl ?_
  exact ⟨rfl, rfl⟩
theorem cn_X0_90 (l : Launch) (g : q_GP) {LL : Nat} {xs : Nat → Int32} (hX : q_GX g LL xs) : q_Cd l g 1 mX0_init [.ref 90] (q_hc z_I z_J1 91 88) none (q_hc z_I z_J1 92 89) := by
  refine q_CdN mnX0_init (Nat.le_of_ble_eq_true rfl) ?_
  refine xe_aload_n dX0_init_0 rfl ?_
  refine xe_obj dX0_init_1 mlX0_3 (by decide) (Nat.le_of_ble_eq_true rfl) ?_
  refine xe_aload_n dX0_init_4 rfl ?_
  refine xe_bipush dX0_init_5 kb_72 ?_
  refine xe_newa_int (n := 72) dX0_init_7 (by decide) (show 91 < 1000000000 by decide) ?_
  refine xe_heap (hc_new (t := 100) (n := 72) rfl rfl rfl (by decide +kernel)) ?_
  refine xe_putP (a := 91) (r := 90) dX0_init_9 flX0_9 (hc_Sh (by decide) rfl) (by decide) rfl (Or.inr ⟨rfl, rfl⟩) (fun _ => rfl) (fun _ => rfl) ?_
  refine xe_heap (hc_P (k := 0) (a := 91) rfl (by decide +kernel)) ?_
  refine xe_return dX0_init_12 rfl ?_
  exact ⟨rfl, rfl⟩
theorem cn_X0_92 (l : Launch) (g : q_GP) {LL : Nat} {xs : Nat → Int32} (hX : q_GX g LL xs) : q_Cd l g 1 mX0_init [.ref 92] (q_hc z_I z_J1 93 90) none (q_hc z_I z_J1 94 91) := by
  refine q_CdN mnX0_init (Nat.le_of_ble_eq_true rfl) ?_
  refine xe_aload_n dX0_init_0 rfl ?_
  refine xe_obj dX0_init_1 mlX0_3 (by decide) (Nat.le_of_ble_eq_true rfl) ?_
  refine xe_aload_n dX0_init_4 rfl ?_
  refine xe_bipush dX0_init_5 kb_72 ?_
  refine xe_newa_int (n := 72) dX0_init_7 (by decide) (show 93 < 1000000000 by decide) ?_
  refine xe_heap (hc_new (t := 100) (n := 72) rfl rfl rfl (by decide +kernel)) ?_
  refine xe_putP (a := 93) (r := 92) dX0_init_9 flX0_9 (hc_Sh (by decide) rfl) (by decide) rfl (Or.inr ⟨rfl, rfl⟩) (fun _ => rfl) (fun _ => rfl) ?_
  refine xe_heap (hc_P (k := 0) (a := 93) rfl (by decide +kernel)) ?_
  refine xe_return dX0_init_12 rfl ?_
  exact ⟨rfl, rfl⟩
theorem cn_X1_42 (l : Launch) (g : q_GP) {LL : Nat} {xs : Nat → Int32} (hX : q_GX g LL xs) : q_Cd l g 2 mX1_init [.ref 42] (q_hc z_I z_J1 43 41) none (q_hc z_I z_J1 94 92) := by
  refine q_CdN mnX1_init (Nat.le_of_ble_eq_true rfl) ?_
  refine xe_aload_n dX1_init_0 rfl ?_
  refine xe_obj dX1_init_1 mlX1_3 (by decide) (Nat.le_of_ble_eq_true rfl) ?_
  refine xe_aload_n dX1_init_4 rfl ?_
  refine xe_bipush dX1_init_5 kb_25 ?_
  refine xe_newq (n := 25) (t := 104) (k0 := 4) dX1_init_7 clX1_9 (fun U hU => (hX U hU).2.2.2.2.2.1) (by decide) rfl (by decide) (show 43 < 1000000000 by decide) ?_
  refine xe_heap (hc_new (t := 104) (n := 25) rfl rfl rfl (by decide +kernel)) ?_
  refine xe_putP (a := 43) (r := 42) dX1_init_10 flX1_11 (hc_Sh (by decide) rfl) (by decide) rfl (Or.inr ⟨rfl, rfl⟩) (fun _ => rfl) (fun _ => rfl) ?_
  refine xe_heap (hc_P (k := 0) (a := 43) rfl (by decide +kernel)) ?_
  refine xe_iconst dX1_init_13 kc_0 ?_
  refine xe_istore_n (i := 1) dX1_init_14 rfl (by decide) rfl ?_
  refine xe_locals (L' := [(0, .ref 42), (1, .int (nI 0))]) ⟨rfl, rfl, trivial⟩ ?_
  refine xe_iload_n dX1_init_15 rfl ?_
  refine xe_bipush dX1_init_16 (v := nI 25) (by decide +kernel) ?_
  refine xn_icmp_ge (tgt := 40) dX1_init_18 rfl (by decide) (by decide) (fun q => absurd q (by decide)) (fun _ => ?_)
  refine xe_aload_n dX1_init_21 rfl ?_
  refine xe_getP (a := 43) dX1_init_22 flX1_11 (hc_Sh (by decide) rfl) (by decide) rfl (show hc_p 42 42 0 = some 43 by decide +kernel) ?_
  refine xe_iload_n dX1_init_25 rfl ?_
  refine xe_new (C := RX0) dX1_init_26 q_ck0 clX1_9 q_inst0 q_init0 (show 44 < 1000000000 by decide) (by decide) ?_
  refine xe_heap (hc_new (t := 0) (n := 6) rfl rfl rfl (by decide +kernel)) ?_
  refine xe_dup dX1_init_29 rfl ?_
  refine xe_callI (d' := 1) (y' := mX0_init) (as := []) (b := 44) (rest := [.ref 44, .int (nI 0), .ref 43]) dX1_init_30 (Or.inr ⟨RX9, fun U hU => (hX U hU).2.2.2.2.2.2.2.2.1.2.2.2.1⟩) (q_MK_of mnX0_init rfl) rfl (by decide) (by decide) (Nat.le_of_ble_eq_true rfl) (cn_X0_44 l g hX) rfl (fun r0 hh0 q => ?_)
  obtain ⟨rfl, rfl⟩ := q
  refine xe_aast (r := 43) (a := 44) (t := 104) (t0 := 4) dX1_init_33 (hc_Sh (by decide) rfl) (by decide) rfl q_ck0 (hc_Sh (by decide) rfl) (vp_in_nI (by decide) (by decide)) ?_
  refine xe_heap ((by rw [nI_clamp (by decide)] : _ = q_wP (q_hc z_I z_J1 46 43) 43 (va_up (q_P (q_hc z_I z_J1 46 43) 43) 0 (some 44))).trans (hc_P rfl (by decide +kernel))) ?_
  refine xn_iinc dX1_init_34 rfl kc_1 ?_
  refine xe_goto (tgt := 15) dX1_init_37 rfl ?_
  refine xe_locals (L' := [(0, .ref 42), (1, .int (nI 1))]) ⟨rfl, rfl, trivial⟩ ?_
  refine xe_iload_n dX1_init_15 rfl ?_
  refine xe_bipush dX1_init_16 (v := nI 25) (by decide +kernel) ?_
  refine xn_icmp_ge (tgt := 40) dX1_init_18 rfl (by decide) (by decide) (fun q => absurd q (by decide)) (fun _ => ?_)
  refine xe_aload_n dX1_init_21 rfl ?_
  refine xe_getP (a := 43) dX1_init_22 flX1_11 (hc_Sh (by decide) rfl) (by decide) rfl (show hc_p 44 42 0 = some 43 by decide +kernel) ?_
  refine xe_iload_n dX1_init_25 rfl ?_
  refine xe_new (C := RX0) dX1_init_26 q_ck0 clX1_9 q_inst0 q_init0 (show 46 < 1000000000 by decide) (by decide) ?_
  refine xe_heap (hc_new (t := 0) (n := 6) rfl rfl rfl (by decide +kernel)) ?_
  refine xe_dup dX1_init_29 rfl ?_
  refine xe_callI (d' := 1) (y' := mX0_init) (as := []) (b := 46) (rest := [.ref 46, .int (nI 1), .ref 43]) dX1_init_30 (Or.inr ⟨RX9, fun U hU => (hX U hU).2.2.2.2.2.2.2.2.1.2.2.2.1⟩) (q_MK_of mnX0_init rfl) rfl (by decide) (by decide) (Nat.le_of_ble_eq_true rfl) (cn_X0_46 l g hX) rfl (fun r1 hh1 q => ?_)
  obtain ⟨rfl, rfl⟩ := q
  refine xe_aast (r := 43) (a := 46) (t := 104) (t0 := 4) dX1_init_33 (hc_Sh (by decide) rfl) (by decide) rfl q_ck0 (hc_Sh (by decide) rfl) (vp_in_nI (by decide) (by decide)) ?_
  refine xe_heap ((by rw [nI_clamp (by decide)] : _ = q_wP (q_hc z_I z_J1 48 45) 43 (va_up (q_P (q_hc z_I z_J1 48 45) 43) 1 (some 46))).trans (hc_P rfl (by decide +kernel))) ?_
  refine xn_iinc dX1_init_34 rfl kc_1 ?_
  refine xe_goto (tgt := 15) dX1_init_37 rfl ?_
  refine xe_locals (L' := [(0, .ref 42), (1, .int (nI 2))]) ⟨rfl, rfl, trivial⟩ ?_
  refine xe_iload_n dX1_init_15 rfl ?_
  refine xe_bipush dX1_init_16 (v := nI 25) (by decide +kernel) ?_
  refine xn_icmp_ge (tgt := 40) dX1_init_18 rfl (by decide) (by decide) (fun q => absurd q (by decide)) (fun _ => ?_)
  refine xe_aload_n dX1_init_21 rfl ?_
  refine xe_getP (a := 43) dX1_init_22 flX1_11 (hc_Sh (by decide) rfl) (by decide) rfl (show hc_p 46 42 0 = some 43 by decide +kernel) ?_
  refine xe_iload_n dX1_init_25 rfl ?_
  refine xe_new (C := RX0) dX1_init_26 q_ck0 clX1_9 q_inst0 q_init0 (show 48 < 1000000000 by decide) (by decide) ?_
  refine xe_heap (hc_new (t := 0) (n := 6) rfl rfl rfl (by decide +kernel)) ?_
  refine xe_dup dX1_init_29 rfl ?_
  refine xe_callI (d' := 1) (y' := mX0_init) (as := []) (b := 48) (rest := [.ref 48, .int (nI 2), .ref 43]) dX1_init_30 (Or.inr ⟨RX9, fun U hU => (hX U hU).2.2.2.2.2.2.2.2.1.2.2.2.1⟩) (q_MK_of mnX0_init rfl) rfl (by decide) (by decide) (Nat.le_of_ble_eq_true rfl) (cn_X0_48 l g hX) rfl (fun r2 hh2 q => ?_)
  obtain ⟨rfl, rfl⟩ := q
  refine xe_aast (r := 43) (a := 48) (t := 104) (t0 := 4) dX1_init_33 (hc_Sh (by decide) rfl) (by decide) rfl q_ck0 (hc_Sh (by decide) rfl) (vp_in_nI (by decide) (by decide)) ?_
  refine xe_heap ((by rw [nI_clamp (by decide)] : _ = q_wP (q_hc z_I z_J1 50 47) 43 (va_up (q_P (q_hc z_I z_J1 50 47) 43) 2 (some 48))).trans (hc_P rfl (by decide +kernel))) ?_
  refine xn_iinc dX1_init_34 rfl kc_1 ?_
  refine xe_goto (tgt := 15) dX1_init_37 rfl ?_
  refine xe_locals (L' := [(0, .ref 42), (1, .int (nI 3))]) ⟨rfl, rfl, trivial⟩ ?_
  refine xe_iload_n dX1_init_15 rfl ?_
  refine xe_bipush dX1_init_16 (v := nI 25) (by decide +kernel) ?_
  refine xn_icmp_ge (tgt := 40) dX1_init_18 rfl (by decide) (by decide) (fun q => absurd q (by decide)) (fun _ => ?_)
  refine xe_aload_n dX1_init_21 rfl ?_
  refine xe_getP (a := 43) dX1_init_22 flX1_11 (hc_Sh (by decide) rfl) (by decide) rfl (show hc_p 48 42 0 = some 43 by decide +kernel) ?_
  refine xe_iload_n dX1_init_25 rfl ?_
  refine xe_new (C := RX0) dX1_init_26 q_ck0 clX1_9 q_inst0 q_init0 (show 50 < 1000000000 by decide) (by decide) ?_
  refine xe_heap (hc_new (t := 0) (n := 6) rfl rfl rfl (by decide +kernel)) ?_
  refine xe_dup dX1_init_29 rfl ?_
  refine xe_callI (d' := 1) (y' := mX0_init) (as := []) (b := 50) (rest := [.ref 50, .int (nI 3), .ref 43]) dX1_init_30 (Or.inr ⟨RX9, fun U hU => (hX U hU).2.2.2.2.2.2.2.2.1.2.2.2.1⟩) (q_MK_of mnX0_init rfl) rfl (by decide) (by decide) (Nat.le_of_ble_eq_true rfl) (cn_X0_50 l g hX) rfl (fun r3 hh3 q => ?_)
  obtain ⟨rfl, rfl⟩ := q
  refine xe_aast (r := 43) (a := 50) (t := 104) (t0 := 4) dX1_init_33 (hc_Sh (by decide) rfl) (by decide) rfl q_ck0 (hc_Sh (by decide) rfl) (vp_in_nI (by decide) (by decide)) ?_
  refine xe_heap ((by rw [nI_clamp (by decide)] : _ = q_wP (q_hc z_I z_J1 52 49) 43 (va_up (q_P (q_hc z_I z_J1 52 49) 43) 3 (some 50))).trans (hc_P rfl (by decide +kernel))) ?_
  refine xn_iinc dX1_init_34 rfl kc_1 ?_
  refine xe_goto (tgt := 15) dX1_init_37 rfl ?_
  refine xe_locals (L' := [(0, .ref 42), (1, .int (nI 4))]) ⟨rfl, rfl, trivial⟩ ?_
  refine xe_iload_n dX1_init_15 rfl ?_
  refine xe_bipush dX1_init_16 (v := nI 25) (by decide +kernel) ?_
  refine xn_icmp_ge (tgt := 40) dX1_init_18 rfl (by decide) (by decide) (fun q => absurd q (by decide)) (fun _ => ?_)
  refine xe_aload_n dX1_init_21 rfl ?_
  refine xe_getP (a := 43) dX1_init_22 flX1_11 (hc_Sh (by decide) rfl) (by decide) rfl (show hc_p 50 42 0 = some 43 by decide +kernel) ?_
  refine xe_iload_n dX1_init_25 rfl ?_
  refine xe_new (C := RX0) dX1_init_26 q_ck0 clX1_9 q_inst0 q_init0 (show 52 < 1000000000 by decide) (by decide) ?_
  refine xe_heap (hc_new (t := 0) (n := 6) rfl rfl rfl (by decide +kernel)) ?_
  refine xe_dup dX1_init_29 rfl ?_
  refine xe_callI (d' := 1) (y' := mX0_init) (as := []) (b := 52) (rest := [.ref 52, .int (nI 4), .ref 43]) dX1_init_30 (Or.inr ⟨RX9, fun U hU => (hX U hU).2.2.2.2.2.2.2.2.1.2.2.2.1⟩) (q_MK_of mnX0_init rfl) rfl (by decide) (by decide) (Nat.le_of_ble_eq_true rfl) (cn_X0_52 l g hX) rfl (fun r4 hh4 q => ?_)
  obtain ⟨rfl, rfl⟩ := q
  refine xe_aast (r := 43) (a := 52) (t := 104) (t0 := 4) dX1_init_33 (hc_Sh (by decide) rfl) (by decide) rfl q_ck0 (hc_Sh (by decide) rfl) (vp_in_nI (by decide) (by decide)) ?_
  refine xe_heap ((by rw [nI_clamp (by decide)] : _ = q_wP (q_hc z_I z_J1 54 51) 43 (va_up (q_P (q_hc z_I z_J1 54 51) 43) 4 (some 52))).trans (hc_P rfl (by decide +kernel))) ?_
  refine xn_iinc dX1_init_34 rfl kc_1 ?_
  refine xe_goto (tgt := 15) dX1_init_37 rfl ?_
  refine xe_locals (L' := [(0, .ref 42), (1, .int (nI 5))]) ⟨rfl, rfl, trivial⟩ ?_
  refine xe_iload_n dX1_init_15 rfl ?_
  refine xe_bipush dX1_init_16 (v := nI 25) (by decide +kernel) ?_
  refine xn_icmp_ge (tgt := 40) dX1_init_18 rfl (by decide) (by decide) (fun q => absurd q (by decide)) (fun _ => ?_)
  refine xe_aload_n dX1_init_21 rfl ?_
  refine xe_getP (a := 43) dX1_init_22 flX1_11 (hc_Sh (by decide) rfl) (by decide) rfl (show hc_p 52 42 0 = some 43 by decide +kernel) ?_
  refine xe_iload_n dX1_init_25 rfl ?_
  refine xe_new (C := RX0) dX1_init_26 q_ck0 clX1_9 q_inst0 q_init0 (show 54 < 1000000000 by decide) (by decide) ?_
  refine xe_heap (hc_new (t := 0) (n := 6) rfl rfl rfl (by decide +kernel)) ?_
  refine xe_dup dX1_init_29 rfl ?_
  refine xe_callI (d' := 1) (y' := mX0_init) (as := []) (b := 54) (rest := [.ref 54, .int (nI 5), .ref 43]) dX1_init_30 (Or.inr ⟨RX9, fun U hU => (hX U hU).2.2.2.2.2.2.2.2.1.2.2.2.1⟩) (q_MK_of mnX0_init rfl) rfl (by decide) (by decide) (Nat.le_of_ble_eq_true rfl) (cn_X0_54 l g hX) rfl (fun r5 hh5 q => ?_)
  obtain ⟨rfl, rfl⟩ := q
  refine xe_aast (r := 43) (a := 54) (t := 104) (t0 := 4) dX1_init_33 (hc_Sh (by decide) rfl) (by decide) rfl q_ck0 (hc_Sh (by decide) rfl) (vp_in_nI (by decide) (by decide)) ?_
  refine xe_heap ((by rw [nI_clamp (by decide)] : _ = q_wP (q_hc z_I z_J1 56 53) 43 (va_up (q_P (q_hc z_I z_J1 56 53) 43) 5 (some 54))).trans (hc_P rfl (by decide +kernel))) ?_
  refine xn_iinc dX1_init_34 rfl kc_1 ?_
  refine xe_goto (tgt := 15) dX1_init_37 rfl ?_
  refine xe_locals (L' := [(0, .ref 42), (1, .int (nI 6))]) ⟨rfl, rfl, trivial⟩ ?_
  refine xe_iload_n dX1_init_15 rfl ?_
  refine xe_bipush dX1_init_16 (v := nI 25) (by decide +kernel) ?_
  refine xn_icmp_ge (tgt := 40) dX1_init_18 rfl (by decide) (by decide) (fun q => absurd q (by decide)) (fun _ => ?_)
  refine xe_aload_n dX1_init_21 rfl ?_
  refine xe_getP (a := 43) dX1_init_22 flX1_11 (hc_Sh (by decide) rfl) (by decide) rfl (show hc_p 54 42 0 = some 43 by decide +kernel) ?_
  refine xe_iload_n dX1_init_25 rfl ?_
  refine xe_new (C := RX0) dX1_init_26 q_ck0 clX1_9 q_inst0 q_init0 (show 56 < 1000000000 by decide) (by decide) ?_
  refine xe_heap (hc_new (t := 0) (n := 6) rfl rfl rfl (by decide +kernel)) ?_
  refine xe_dup dX1_init_29 rfl ?_
  refine xe_callI (d' := 1) (y' := mX0_init) (as := []) (b := 56) (rest := [.ref 56, .int (nI 6), .ref 43]) dX1_init_30 (Or.inr ⟨RX9, fun U hU => (hX U hU).2.2.2.2.2.2.2.2.1.2.2.2.1⟩) (q_MK_of mnX0_init rfl) rfl (by decide) (by decide) (Nat.le_of_ble_eq_true rfl) (cn_X0_56 l g hX) rfl (fun r6 hh6 q => ?_)
  obtain ⟨rfl, rfl⟩ := q
  refine xe_aast (r := 43) (a := 56) (t := 104) (t0 := 4) dX1_init_33 (hc_Sh (by decide) rfl) (by decide) rfl q_ck0 (hc_Sh (by decide) rfl) (vp_in_nI (by decide) (by decide)) ?_
  refine xe_heap ((by rw [nI_clamp (by decide)] : _ = q_wP (q_hc z_I z_J1 58 55) 43 (va_up (q_P (q_hc z_I z_J1 58 55) 43) 6 (some 56))).trans (hc_P rfl (by decide +kernel))) ?_
  refine xn_iinc dX1_init_34 rfl kc_1 ?_
  refine xe_goto (tgt := 15) dX1_init_37 rfl ?_
  refine xe_locals (L' := [(0, .ref 42), (1, .int (nI 7))]) ⟨rfl, rfl, trivial⟩ ?_
  refine xe_iload_n dX1_init_15 rfl ?_
  refine xe_bipush dX1_init_16 (v := nI 25) (by decide +kernel) ?_
  refine xn_icmp_ge (tgt := 40) dX1_init_18 rfl (by decide) (by decide) (fun q => absurd q (by decide)) (fun _ => ?_)
  refine xe_aload_n dX1_init_21 rfl ?_
  refine xe_getP (a := 43) dX1_init_22 flX1_11 (hc_Sh (by decide) rfl) (by decide) rfl (show hc_p 56 42 0 = some 43 by decide +kernel) ?_
  refine xe_iload_n dX1_init_25 rfl ?_
  refine xe_new (C := RX0) dX1_init_26 q_ck0 clX1_9 q_inst0 q_init0 (show 58 < 1000000000 by decide) (by decide) ?_
  refine xe_heap (hc_new (t := 0) (n := 6) rfl rfl rfl (by decide +kernel)) ?_
  refine xe_dup dX1_init_29 rfl ?_
  refine xe_callI (d' := 1) (y' := mX0_init) (as := []) (b := 58) (rest := [.ref 58, .int (nI 7), .ref 43]) dX1_init_30 (Or.inr ⟨RX9, fun U hU => (hX U hU).2.2.2.2.2.2.2.2.1.2.2.2.1⟩) (q_MK_of mnX0_init rfl) rfl (by decide) (by decide) (Nat.le_of_ble_eq_true rfl) (cn_X0_58 l g hX) rfl (fun r7 hh7 q => ?_)
  obtain ⟨rfl, rfl⟩ := q
  refine xe_aast (r := 43) (a := 58) (t := 104) (t0 := 4) dX1_init_33 (hc_Sh (by decide) rfl) (by decide) rfl q_ck0 (hc_Sh (by decide) rfl) (vp_in_nI (by decide) (by decide)) ?_
  refine xe_heap ((by rw [nI_clamp (by decide)] : _ = q_wP (q_hc z_I z_J1 60 57) 43 (va_up (q_P (q_hc z_I z_J1 60 57) 43) 7 (some 58))).trans (hc_P rfl (by decide +kernel))) ?_
  refine xn_iinc dX1_init_34 rfl kc_1 ?_
  refine xe_goto (tgt := 15) dX1_init_37 rfl ?_
  refine xe_locals (L' := [(0, .ref 42), (1, .int (nI 8))]) ⟨rfl, rfl, trivial⟩ ?_
  refine xe_iload_n dX1_init_15 rfl ?_
  refine xe_bipush dX1_init_16 (v := nI 25) (by decide +kernel) ?_
  refine xn_icmp_ge (tgt := 40) dX1_init_18 rfl (by decide) (by decide) (fun q => absurd q (by decide)) (fun _ => ?_)
  refine xe_aload_n dX1_init_21 rfl ?_
  refine xe_getP (a := 43) dX1_init_22 flX1_11 (hc_Sh (by decide) rfl) (by decide) rfl (show hc_p 58 42 0 = some 43 by decide +kernel) ?_
  refine xe_iload_n dX1_init_25 rfl ?_
  refine xe_new (C := RX0) dX1_init_26 q_ck0 clX1_9 q_inst0 q_init0 (show 60 < 1000000000 by decide) (by decide) ?_
  refine xe_heap (hc_new (t := 0) (n := 6) rfl rfl rfl (by decide +kernel)) ?_
  refine xe_dup dX1_init_29 rfl ?_
  refine xe_callI (d' := 1) (y' := mX0_init) (as := []) (b := 60) (rest := [.ref 60, .int (nI 8), .ref 43]) dX1_init_30 (Or.inr ⟨RX9, fun U hU => (hX U hU).2.2.2.2.2.2.2.2.1.2.2.2.1⟩) (q_MK_of mnX0_init rfl) rfl (by decide) (by decide) (Nat.le_of_ble_eq_true rfl) (cn_X0_60 l g hX) rfl (fun r8 hh8 q => ?_)
  obtain ⟨rfl, rfl⟩ := q
  refine xe_aast (r := 43) (a := 60) (t := 104) (t0 := 4) dX1_init_33 (hc_Sh (by decide) rfl) (by decide) rfl q_ck0 (hc_Sh (by decide) rfl) (vp_in_nI (by decide) (by decide)) ?_
  refine xe_heap ((by rw [nI_clamp (by decide)] : _ = q_wP (q_hc z_I z_J1 62 59) 43 (va_up (q_P (q_hc z_I z_J1 62 59) 43) 8 (some 60))).trans (hc_P rfl (by decide +kernel))) ?_
  refine xn_iinc dX1_init_34 rfl kc_1 ?_
  refine xe_goto (tgt := 15) dX1_init_37 rfl ?_
  refine xe_locals (L' := [(0, .ref 42), (1, .int (nI 9))]) ⟨rfl, rfl, trivial⟩ ?_
  refine xe_iload_n dX1_init_15 rfl ?_
  refine xe_bipush dX1_init_16 (v := nI 25) (by decide +kernel) ?_
  refine xn_icmp_ge (tgt := 40) dX1_init_18 rfl (by decide) (by decide) (fun q => absurd q (by decide)) (fun _ => ?_)
  refine xe_aload_n dX1_init_21 rfl ?_
  refine xe_getP (a := 43) dX1_init_22 flX1_11 (hc_Sh (by decide) rfl) (by decide) rfl (show hc_p 60 42 0 = some 43 by decide +kernel) ?_
  refine xe_iload_n dX1_init_25 rfl ?_
  refine xe_new (C := RX0) dX1_init_26 q_ck0 clX1_9 q_inst0 q_init0 (show 62 < 1000000000 by decide) (by decide) ?_
  refine xe_heap (hc_new (t := 0) (n := 6) rfl rfl rfl (by decide +kernel)) ?_
  refine xe_dup dX1_init_29 rfl ?_
  refine xe_callI (d' := 1) (y' := mX0_init) (as := []) (b := 62) (rest := [.ref 62, .int (nI 9), .ref 43]) dX1_init_30 (Or.inr ⟨RX9, fun U hU => (hX U hU).2.2.2.2.2.2.2.2.1.2.2.2.1⟩) (q_MK_of mnX0_init rfl) rfl (by decide) (by decide) (Nat.le_of_ble_eq_true rfl) (cn_X0_62 l g hX) rfl (fun r9 hh9 q => ?_)
  obtain ⟨rfl, rfl⟩ := q
  refine xe_aast (r := 43) (a := 62) (t := 104) (t0 := 4) dX1_init_33 (hc_Sh (by decide) rfl) (by decide) rfl q_ck0 (hc_Sh (by decide) rfl) (vp_in_nI (by decide) (by decide)) ?_
  refine xe_heap ((by rw [nI_clamp (by decide)] : _ = q_wP (q_hc z_I z_J1 64 61) 43 (va_up (q_P (q_hc z_I z_J1 64 61) 43) 9 (some 62))).trans (hc_P rfl (by decide +kernel))) ?_
  refine xn_iinc dX1_init_34 rfl kc_1 ?_
  refine xe_goto (tgt := 15) dX1_init_37 rfl ?_
  refine xe_locals (L' := [(0, .ref 42), (1, .int (nI 10))]) ⟨rfl, rfl, trivial⟩ ?_
  refine xe_iload_n dX1_init_15 rfl ?_
  refine xe_bipush dX1_init_16 (v := nI 25) (by decide +kernel) ?_
  refine xn_icmp_ge (tgt := 40) dX1_init_18 rfl (by decide) (by decide) (fun q => absurd q (by decide)) (fun _ => ?_)
  refine xe_aload_n dX1_init_21 rfl ?_
  refine xe_getP (a := 43) dX1_init_22 flX1_11 (hc_Sh (by decide) rfl) (by decide) rfl (show hc_p 62 42 0 = some 43 by decide +kernel) ?_
  refine xe_iload_n dX1_init_25 rfl ?_
  refine xe_new (C := RX0) dX1_init_26 q_ck0 clX1_9 q_inst0 q_init0 (show 64 < 1000000000 by decide) (by decide) ?_
  refine xe_heap (hc_new (t := 0) (n := 6) rfl rfl rfl (by decide +kernel)) ?_
  refine xe_dup dX1_init_29 rfl ?_
  refine xe_callI (d' := 1) (y' := mX0_init) (as := []) (b := 64) (rest := [.ref 64, .int (nI 10), .ref 43]) dX1_init_30 (Or.inr ⟨RX9, fun U hU => (hX U hU).2.2.2.2.2.2.2.2.1.2.2.2.1⟩) (q_MK_of mnX0_init rfl) rfl (by decide) (by decide) (Nat.le_of_ble_eq_true rfl) (cn_X0_64 l g hX) rfl (fun r10 hh10 q => ?_)
  obtain ⟨rfl, rfl⟩ := q
  refine xe_aast (r := 43) (a := 64) (t := 104) (t0 := 4) dX1_init_33 (hc_Sh (by decide) rfl) (by decide) rfl q_ck0 (hc_Sh (by decide) rfl) (vp_in_nI (by decide) (by decide)) ?_
  refine xe_heap ((by rw [nI_clamp (by decide)] : _ = q_wP (q_hc z_I z_J1 66 63) 43 (va_up (q_P (q_hc z_I z_J1 66 63) 43) 10 (some 64))).trans (hc_P rfl (by decide +kernel))) ?_
  refine xn_iinc dX1_init_34 rfl kc_1 ?_
  refine xe_goto (tgt := 15) dX1_init_37 rfl ?_
  refine xe_locals (L' := [(0, .ref 42), (1, .int (nI 11))]) ⟨rfl, rfl, trivial⟩ ?_
  refine xe_iload_n dX1_init_15 rfl ?_
  refine xe_bipush dX1_init_16 (v := nI 25) (by decide +kernel) ?_
  refine xn_icmp_ge (tgt := 40) dX1_init_18 rfl (by decide) (by decide) (fun q => absurd q (by decide)) (fun _ => ?_)
  refine xe_aload_n dX1_init_21 rfl ?_
  refine xe_getP (a := 43) dX1_init_22 flX1_11 (hc_Sh (by decide) rfl) (by decide) rfl (show hc_p 64 42 0 = some 43 by decide +kernel) ?_
  refine xe_iload_n dX1_init_25 rfl ?_
  refine xe_new (C := RX0) dX1_init_26 q_ck0 clX1_9 q_inst0 q_init0 (show 66 < 1000000000 by decide) (by decide) ?_
  refine xe_heap (hc_new (t := 0) (n := 6) rfl rfl rfl (by decide +kernel)) ?_
  refine xe_dup dX1_init_29 rfl ?_
  refine xe_callI (d' := 1) (y' := mX0_init) (as := []) (b := 66) (rest := [.ref 66, .int (nI 11), .ref 43]) dX1_init_30 (Or.inr ⟨RX9, fun U hU => (hX U hU).2.2.2.2.2.2.2.2.1.2.2.2.1⟩) (q_MK_of mnX0_init rfl) rfl (by decide) (by decide) (Nat.le_of_ble_eq_true rfl) (cn_X0_66 l g hX) rfl (fun r11 hh11 q => ?_)
  obtain ⟨rfl, rfl⟩ := q
  refine xe_aast (r := 43) (a := 66) (t := 104) (t0 := 4) dX1_init_33 (hc_Sh (by decide) rfl) (by decide) rfl q_ck0 (hc_Sh (by decide) rfl) (vp_in_nI (by decide) (by decide)) ?_
  refine xe_heap ((by rw [nI_clamp (by decide)] : _ = q_wP (q_hc z_I z_J1 68 65) 43 (va_up (q_P (q_hc z_I z_J1 68 65) 43) 11 (some 66))).trans (hc_P rfl (by decide +kernel))) ?_
  refine xn_iinc dX1_init_34 rfl kc_1 ?_
  refine xe_goto (tgt := 15) dX1_init_37 rfl ?_
  refine xe_locals (L' := [(0, .ref 42), (1, .int (nI 12))]) ⟨rfl, rfl, trivial⟩ ?_
  refine xe_iload_n dX1_init_15 rfl ?_
  refine xe_bipush dX1_init_16 (v := nI 25) (by decide +kernel) ?_
  refine xn_icmp_ge (tgt := 40) dX1_init_18 rfl (by decide) (by decide) (fun q => absurd q (by decide)) (fun _ => ?_)
  refine xe_aload_n dX1_init_21 rfl ?_
  refine xe_getP (a := 43) dX1_init_22 flX1_11 (hc_Sh (by decide) rfl) (by decide) rfl (show hc_p 66 42 0 = some 43 by decide +kernel) ?_
  refine xe_iload_n dX1_init_25 rfl ?_
  refine xe_new (C := RX0) dX1_init_26 q_ck0 clX1_9 q_inst0 q_init0 (show 68 < 1000000000 by decide) (by decide) ?_
  refine xe_heap (hc_new (t := 0) (n := 6) rfl rfl rfl (by decide +kernel)) ?_
  refine xe_dup dX1_init_29 rfl ?_
  refine xe_callI (d' := 1) (y' := mX0_init) (as := []) (b := 68) (rest := [.ref 68, .int (nI 12), .ref 43]) dX1_init_30 (Or.inr ⟨RX9, fun U hU => (hX U hU).2.2.2.2.2.2.2.2.1.2.2.2.1⟩) (q_MK_of mnX0_init rfl) rfl (by decide) (by decide) (Nat.le_of_ble_eq_true rfl) (cn_X0_68 l g hX) rfl (fun r12 hh12 q => ?_)
  obtain ⟨rfl, rfl⟩ := q
  refine xe_aast (r := 43) (a := 68) (t := 104) (t0 := 4) dX1_init_33 (hc_Sh (by decide) rfl) (by decide) rfl q_ck0 (hc_Sh (by decide) rfl) (vp_in_nI (by decide) (by decide)) ?_
  refine xe_heap ((by rw [nI_clamp (by decide)] : _ = q_wP (q_hc z_I z_J1 70 67) 43 (va_up (q_P (q_hc z_I z_J1 70 67) 43) 12 (some 68))).trans (hc_P rfl (by decide +kernel))) ?_
  refine xn_iinc dX1_init_34 rfl kc_1 ?_
  refine xe_goto (tgt := 15) dX1_init_37 rfl ?_
  refine xe_locals (L' := [(0, .ref 42), (1, .int (nI 13))]) ⟨rfl, rfl, trivial⟩ ?_
  refine xe_iload_n dX1_init_15 rfl ?_
  refine xe_bipush dX1_init_16 (v := nI 25) (by decide +kernel) ?_
  refine xn_icmp_ge (tgt := 40) dX1_init_18 rfl (by decide) (by decide) (fun q => absurd q (by decide)) (fun _ => ?_)
  refine xe_aload_n dX1_init_21 rfl ?_
  refine xe_getP (a := 43) dX1_init_22 flX1_11 (hc_Sh (by decide) rfl) (by decide) rfl (show hc_p 68 42 0 = some 43 by decide +kernel) ?_
  refine xe_iload_n dX1_init_25 rfl ?_
  refine xe_new (C := RX0) dX1_init_26 q_ck0 clX1_9 q_inst0 q_init0 (show 70 < 1000000000 by decide) (by decide) ?_
  refine xe_heap (hc_new (t := 0) (n := 6) rfl rfl rfl (by decide +kernel)) ?_
  refine xe_dup dX1_init_29 rfl ?_
  refine xe_callI (d' := 1) (y' := mX0_init) (as := []) (b := 70) (rest := [.ref 70, .int (nI 13), .ref 43]) dX1_init_30 (Or.inr ⟨RX9, fun U hU => (hX U hU).2.2.2.2.2.2.2.2.1.2.2.2.1⟩) (q_MK_of mnX0_init rfl) rfl (by decide) (by decide) (Nat.le_of_ble_eq_true rfl) (cn_X0_70 l g hX) rfl (fun r13 hh13 q => ?_)
  obtain ⟨rfl, rfl⟩ := q
  refine xe_aast (r := 43) (a := 70) (t := 104) (t0 := 4) dX1_init_33 (hc_Sh (by decide) rfl) (by decide) rfl q_ck0 (hc_Sh (by decide) rfl) (vp_in_nI (by decide) (by decide)) ?_
  refine xe_heap ((by rw [nI_clamp (by decide)] : _ = q_wP (q_hc z_I z_J1 72 69) 43 (va_up (q_P (q_hc z_I z_J1 72 69) 43) 13 (some 70))).trans (hc_P rfl (by decide +kernel))) ?_
  refine xn_iinc dX1_init_34 rfl kc_1 ?_
  refine xe_goto (tgt := 15) dX1_init_37 rfl ?_
  refine xe_locals (L' := [(0, .ref 42), (1, .int (nI 14))]) ⟨rfl, rfl, trivial⟩ ?_
  refine xe_iload_n dX1_init_15 rfl ?_
  refine xe_bipush dX1_init_16 (v := nI 25) (by decide +kernel) ?_
  refine xn_icmp_ge (tgt := 40) dX1_init_18 rfl (by decide) (by decide) (fun q => absurd q (by decide)) (fun _ => ?_)
  refine xe_aload_n dX1_init_21 rfl ?_
  refine xe_getP (a := 43) dX1_init_22 flX1_11 (hc_Sh (by decide) rfl) (by decide) rfl (show hc_p 70 42 0 = some 43 by decide +kernel) ?_
  refine xe_iload_n dX1_init_25 rfl ?_
  refine xe_new (C := RX0) dX1_init_26 q_ck0 clX1_9 q_inst0 q_init0 (show 72 < 1000000000 by decide) (by decide) ?_
  refine xe_heap (hc_new (t := 0) (n := 6) rfl rfl rfl (by decide +kernel)) ?_
  refine xe_dup dX1_init_29 rfl ?_
  refine xe_callI (d' := 1) (y' := mX0_init) (as := []) (b := 72) (rest := [.ref 72, .int (nI 14), .ref 43]) dX1_init_30 (Or.inr ⟨RX9, fun U hU => (hX U hU).2.2.2.2.2.2.2.2.1.2.2.2.1⟩) (q_MK_of mnX0_init rfl) rfl (by decide) (by decide) (Nat.le_of_ble_eq_true rfl) (cn_X0_72 l g hX) rfl (fun r14 hh14 q => ?_)
  obtain ⟨rfl, rfl⟩ := q
  refine xe_aast (r := 43) (a := 72) (t := 104) (t0 := 4) dX1_init_33 (hc_Sh (by decide) rfl) (by decide) rfl q_ck0 (hc_Sh (by decide) rfl) (vp_in_nI (by decide) (by decide)) ?_
  refine xe_heap ((by rw [nI_clamp (by decide)] : _ = q_wP (q_hc z_I z_J1 74 71) 43 (va_up (q_P (q_hc z_I z_J1 74 71) 43) 14 (some 72))).trans (hc_P rfl (by decide +kernel))) ?_
  refine xn_iinc dX1_init_34 rfl kc_1 ?_
  refine xe_goto (tgt := 15) dX1_init_37 rfl ?_
  refine xe_locals (L' := [(0, .ref 42), (1, .int (nI 15))]) ⟨rfl, rfl, trivial⟩ ?_
  refine xe_iload_n dX1_init_15 rfl ?_
  refine xe_bipush dX1_init_16 (v := nI 25) (by decide +kernel) ?_
  refine xn_icmp_ge (tgt := 40) dX1_init_18 rfl (by decide) (by decide) (fun q => absurd q (by decide)) (fun _ => ?_)
  refine xe_aload_n dX1_init_21 rfl ?_
  refine xe_getP (a := 43) dX1_init_22 flX1_11 (hc_Sh (by decide) rfl) (by decide) rfl (show hc_p 72 42 0 = some 43 by decide +kernel) ?_
  refine xe_iload_n dX1_init_25 rfl ?_
  refine xe_new (C := RX0) dX1_init_26 q_ck0 clX1_9 q_inst0 q_init0 (show 74 < 1000000000 by decide) (by decide) ?_
  refine xe_heap (hc_new (t := 0) (n := 6) rfl rfl rfl (by decide +kernel)) ?_
  refine xe_dup dX1_init_29 rfl ?_
  refine xe_callI (d' := 1) (y' := mX0_init) (as := []) (b := 74) (rest := [.ref 74, .int (nI 15), .ref 43]) dX1_init_30 (Or.inr ⟨RX9, fun U hU => (hX U hU).2.2.2.2.2.2.2.2.1.2.2.2.1⟩) (q_MK_of mnX0_init rfl) rfl (by decide) (by decide) (Nat.le_of_ble_eq_true rfl) (cn_X0_74 l g hX) rfl (fun r15 hh15 q => ?_)
  obtain ⟨rfl, rfl⟩ := q
  refine xe_aast (r := 43) (a := 74) (t := 104) (t0 := 4) dX1_init_33 (hc_Sh (by decide) rfl) (by decide) rfl q_ck0 (hc_Sh (by decide) rfl) (vp_in_nI (by decide) (by decide)) ?_
  refine xe_heap ((by rw [nI_clamp (by decide)] : _ = q_wP (q_hc z_I z_J1 76 73) 43 (va_up (q_P (q_hc z_I z_J1 76 73) 43) 15 (some 74))).trans (hc_P rfl (by decide +kernel))) ?_
  refine xn_iinc dX1_init_34 rfl kc_1 ?_
  refine xe_goto (tgt := 15) dX1_init_37 rfl ?_
  refine xe_locals (L' := [(0, .ref 42), (1, .int (nI 16))]) ⟨rfl, rfl, trivial⟩ ?_
  refine xe_iload_n dX1_init_15 rfl ?_
  refine xe_bipush dX1_init_16 (v := nI 25) (by decide +kernel) ?_
  refine xn_icmp_ge (tgt := 40) dX1_init_18 rfl (by decide) (by decide) (fun q => absurd q (by decide)) (fun _ => ?_)
  refine xe_aload_n dX1_init_21 rfl ?_
  refine xe_getP (a := 43) dX1_init_22 flX1_11 (hc_Sh (by decide) rfl) (by decide) rfl (show hc_p 74 42 0 = some 43 by decide +kernel) ?_
  refine xe_iload_n dX1_init_25 rfl ?_
  refine xe_new (C := RX0) dX1_init_26 q_ck0 clX1_9 q_inst0 q_init0 (show 76 < 1000000000 by decide) (by decide) ?_
  refine xe_heap (hc_new (t := 0) (n := 6) rfl rfl rfl (by decide +kernel)) ?_
  refine xe_dup dX1_init_29 rfl ?_
  refine xe_callI (d' := 1) (y' := mX0_init) (as := []) (b := 76) (rest := [.ref 76, .int (nI 16), .ref 43]) dX1_init_30 (Or.inr ⟨RX9, fun U hU => (hX U hU).2.2.2.2.2.2.2.2.1.2.2.2.1⟩) (q_MK_of mnX0_init rfl) rfl (by decide) (by decide) (Nat.le_of_ble_eq_true rfl) (cn_X0_76 l g hX) rfl (fun r16 hh16 q => ?_)
  obtain ⟨rfl, rfl⟩ := q
  refine xe_aast (r := 43) (a := 76) (t := 104) (t0 := 4) dX1_init_33 (hc_Sh (by decide) rfl) (by decide) rfl q_ck0 (hc_Sh (by decide) rfl) (vp_in_nI (by decide) (by decide)) ?_
  refine xe_heap ((by rw [nI_clamp (by decide)] : _ = q_wP (q_hc z_I z_J1 78 75) 43 (va_up (q_P (q_hc z_I z_J1 78 75) 43) 16 (some 76))).trans (hc_P rfl (by decide +kernel))) ?_
  refine xn_iinc dX1_init_34 rfl kc_1 ?_
  refine xe_goto (tgt := 15) dX1_init_37 rfl ?_
  refine xe_locals (L' := [(0, .ref 42), (1, .int (nI 17))]) ⟨rfl, rfl, trivial⟩ ?_
  refine xe_iload_n dX1_init_15 rfl ?_
  refine xe_bipush dX1_init_16 (v := nI 25) (by decide +kernel) ?_
  refine xn_icmp_ge (tgt := 40) dX1_init_18 rfl (by decide) (by decide) (fun q => absurd q (by decide)) (fun _ => ?_)
  refine xe_aload_n dX1_init_21 rfl ?_
  refine xe_getP (a := 43) dX1_init_22 flX1_11 (hc_Sh (by decide) rfl) (by decide) rfl (show hc_p 76 42 0 = some 43 by decide +kernel) ?_
  refine xe_iload_n dX1_init_25 rfl ?_
  refine xe_new (C := RX0) dX1_init_26 q_ck0 clX1_9 q_inst0 q_init0 (show 78 < 1000000000 by decide) (by decide) ?_
  refine xe_heap (hc_new (t := 0) (n := 6) rfl rfl rfl (by decide +kernel)) ?_
  refine xe_dup dX1_init_29 rfl ?_
  refine xe_callI (d' := 1) (y' := mX0_init) (as := []) (b := 78) (rest := [.ref 78, .int (nI 17), .ref 43]) dX1_init_30 (Or.inr ⟨RX9, fun U hU => (hX U hU).2.2.2.2.2.2.2.2.1.2.2.2.1⟩) (q_MK_of mnX0_init rfl) rfl (by decide) (by decide) (Nat.le_of_ble_eq_true rfl) (cn_X0_78 l g hX) rfl (fun r17 hh17 q => ?_)
  obtain ⟨rfl, rfl⟩ := q
  refine xe_aast (r := 43) (a := 78) (t := 104) (t0 := 4) dX1_init_33 (hc_Sh (by decide) rfl) (by decide) rfl q_ck0 (hc_Sh (by decide) rfl) (vp_in_nI (by decide) (by decide)) ?_
  refine xe_heap ((by rw [nI_clamp (by decide)] : _ = q_wP (q_hc z_I z_J1 80 77) 43 (va_up (q_P (q_hc z_I z_J1 80 77) 43) 17 (some 78))).trans (hc_P rfl (by decide +kernel))) ?_
  refine xn_iinc dX1_init_34 rfl kc_1 ?_
  refine xe_goto (tgt := 15) dX1_init_37 rfl ?_
  refine xe_locals (L' := [(0, .ref 42), (1, .int (nI 18))]) ⟨rfl, rfl, trivial⟩ ?_
  refine xe_iload_n dX1_init_15 rfl ?_
  refine xe_bipush dX1_init_16 (v := nI 25) (by decide +kernel) ?_
  refine xn_icmp_ge (tgt := 40) dX1_init_18 rfl (by decide) (by decide) (fun q => absurd q (by decide)) (fun _ => ?_)
  refine xe_aload_n dX1_init_21 rfl ?_
  refine xe_getP (a := 43) dX1_init_22 flX1_11 (hc_Sh (by decide) rfl) (by decide) rfl (show hc_p 78 42 0 = some 43 by decide +kernel) ?_
  refine xe_iload_n dX1_init_25 rfl ?_
  refine xe_new (C := RX0) dX1_init_26 q_ck0 clX1_9 q_inst0 q_init0 (show 80 < 1000000000 by decide) (by decide) ?_
  refine xe_heap (hc_new (t := 0) (n := 6) rfl rfl rfl (by decide +kernel)) ?_
  refine xe_dup dX1_init_29 rfl ?_
  refine xe_callI (d' := 1) (y' := mX0_init) (as := []) (b := 80) (rest := [.ref 80, .int (nI 18), .ref 43]) dX1_init_30 (Or.inr ⟨RX9, fun U hU => (hX U hU).2.2.2.2.2.2.2.2.1.2.2.2.1⟩) (q_MK_of mnX0_init rfl) rfl (by decide) (by decide) (Nat.le_of_ble_eq_true rfl) (cn_X0_80 l g hX) rfl (fun r18 hh18 q => ?_)
  obtain ⟨rfl, rfl⟩ := q
  refine xe_aast (r := 43) (a := 80) (t := 104) (t0 := 4) dX1_init_33 (hc_Sh (by decide) rfl) (by decide) rfl q_ck0 (hc_Sh (by decide) rfl) (vp_in_nI (by decide) (by decide)) ?_
  refine xe_heap ((by rw [nI_clamp (by decide)] : _ = q_wP (q_hc z_I z_J1 82 79) 43 (va_up (q_P (q_hc z_I z_J1 82 79) 43) 18 (some 80))).trans (hc_P rfl (by decide +kernel))) ?_
  refine xn_iinc dX1_init_34 rfl kc_1 ?_
  refine xe_goto (tgt := 15) dX1_init_37 rfl ?_
  refine xe_locals (L' := [(0, .ref 42), (1, .int (nI 19))]) ⟨rfl, rfl, trivial⟩ ?_
  refine xe_iload_n dX1_init_15 rfl ?_
  refine xe_bipush dX1_init_16 (v := nI 25) (by decide +kernel) ?_
  refine xn_icmp_ge (tgt := 40) dX1_init_18 rfl (by decide) (by decide) (fun q => absurd q (by decide)) (fun _ => ?_)
  refine xe_aload_n dX1_init_21 rfl ?_
  refine xe_getP (a := 43) dX1_init_22 flX1_11 (hc_Sh (by decide) rfl) (by decide) rfl (show hc_p 80 42 0 = some 43 by decide +kernel) ?_
  refine xe_iload_n dX1_init_25 rfl ?_
  refine xe_new (C := RX0) dX1_init_26 q_ck0 clX1_9 q_inst0 q_init0 (show 82 < 1000000000 by decide) (by decide) ?_
  refine xe_heap (hc_new (t := 0) (n := 6) rfl rfl rfl (by decide +kernel)) ?_
  refine xe_dup dX1_init_29 rfl ?_
  refine xe_callI (d' := 1) (y' := mX0_init) (as := []) (b := 82) (rest := [.ref 82, .int (nI 19), .ref 43]) dX1_init_30 (Or.inr ⟨RX9, fun U hU => (hX U hU).2.2.2.2.2.2.2.2.1.2.2.2.1⟩) (q_MK_of mnX0_init rfl) rfl (by decide) (by decide) (Nat.le_of_ble_eq_true rfl) (cn_X0_82 l g hX) rfl (fun r19 hh19 q => ?_)
  obtain ⟨rfl, rfl⟩ := q
  refine xe_aast (r := 43) (a := 82) (t := 104) (t0 := 4) dX1_init_33 (hc_Sh (by decide) rfl) (by decide) rfl q_ck0 (hc_Sh (by decide) rfl) (vp_in_nI (by decide) (by decide)) ?_
  refine xe_heap ((by rw [nI_clamp (by decide)] : _ = q_wP (q_hc z_I z_J1 84 81) 43 (va_up (q_P (q_hc z_I z_J1 84 81) 43) 19 (some 82))).trans (hc_P rfl (by decide +kernel))) ?_
  refine xn_iinc dX1_init_34 rfl kc_1 ?_
  refine xe_goto (tgt := 15) dX1_init_37 rfl ?_
  refine xe_locals (L' := [(0, .ref 42), (1, .int (nI 20))]) ⟨rfl, rfl, trivial⟩ ?_
  refine xe_iload_n dX1_init_15 rfl ?_
  refine xe_bipush dX1_init_16 (v := nI 25) (by decide +kernel) ?_
  refine xn_icmp_ge (tgt := 40) dX1_init_18 rfl (by decide) (by decide) (fun q => absurd q (by decide)) (fun _ => ?_)
  refine xe_aload_n dX1_init_21 rfl ?_
  refine xe_getP (a := 43) dX1_init_22 flX1_11 (hc_Sh (by decide) rfl) (by decide) rfl (show hc_p 82 42 0 = some 43 by decide +kernel) ?_
  refine xe_iload_n dX1_init_25 rfl ?_
  refine xe_new (C := RX0) dX1_init_26 q_ck0 clX1_9 q_inst0 q_init0 (show 84 < 1000000000 by decide) (by decide) ?_
  refine xe_heap (hc_new (t := 0) (n := 6) rfl rfl rfl (by decide +kernel)) ?_
  refine xe_dup dX1_init_29 rfl ?_
  refine xe_callI (d' := 1) (y' := mX0_init) (as := []) (b := 84) (rest := [.ref 84, .int (nI 20), .ref 43]) dX1_init_30 (Or.inr ⟨RX9, fun U hU => (hX U hU).2.2.2.2.2.2.2.2.1.2.2.2.1⟩) (q_MK_of mnX0_init rfl) rfl (by decide) (by decide) (Nat.le_of_ble_eq_true rfl) (cn_X0_84 l g hX) rfl (fun r20 hh20 q => ?_)
  obtain ⟨rfl, rfl⟩ := q
  refine xe_aast (r := 43) (a := 84) (t := 104) (t0 := 4) dX1_init_33 (hc_Sh (by decide) rfl) (by decide) rfl q_ck0 (hc_Sh (by decide) rfl) (vp_in_nI (by decide) (by decide)) ?_
  refine xe_heap ((by rw [nI_clamp (by decide)] : _ = q_wP (q_hc z_I z_J1 86 83) 43 (va_up (q_P (q_hc z_I z_J1 86 83) 43) 20 (some 84))).trans (hc_P rfl (by decide +kernel))) ?_
  refine xn_iinc dX1_init_34 rfl kc_1 ?_
  refine xe_goto (tgt := 15) dX1_init_37 rfl ?_
  refine xe_locals (L' := [(0, .ref 42), (1, .int (nI 21))]) ⟨rfl, rfl, trivial⟩ ?_
  refine xe_iload_n dX1_init_15 rfl ?_
  refine xe_bipush dX1_init_16 (v := nI 25) (by decide +kernel) ?_
  refine xn_icmp_ge (tgt := 40) dX1_init_18 rfl (by decide) (by decide) (fun q => absurd q (by decide)) (fun _ => ?_)
  refine xe_aload_n dX1_init_21 rfl ?_
  refine xe_getP (a := 43) dX1_init_22 flX1_11 (hc_Sh (by decide) rfl) (by decide) rfl (show hc_p 84 42 0 = some 43 by decide +kernel) ?_
  refine xe_iload_n dX1_init_25 rfl ?_
  refine xe_new (C := RX0) dX1_init_26 q_ck0 clX1_9 q_inst0 q_init0 (show 86 < 1000000000 by decide) (by decide) ?_
  refine xe_heap (hc_new (t := 0) (n := 6) rfl rfl rfl (by decide +kernel)) ?_
  refine xe_dup dX1_init_29 rfl ?_
  refine xe_callI (d' := 1) (y' := mX0_init) (as := []) (b := 86) (rest := [.ref 86, .int (nI 21), .ref 43]) dX1_init_30 (Or.inr ⟨RX9, fun U hU => (hX U hU).2.2.2.2.2.2.2.2.1.2.2.2.1⟩) (q_MK_of mnX0_init rfl) rfl (by decide) (by decide) (Nat.le_of_ble_eq_true rfl) (cn_X0_86 l g hX) rfl (fun r21 hh21 q => ?_)
  obtain ⟨rfl, rfl⟩ := q
  refine xe_aast (r := 43) (a := 86) (t := 104) (t0 := 4) dX1_init_33 (hc_Sh (by decide) rfl) (by decide) rfl q_ck0 (hc_Sh (by decide) rfl) (vp_in_nI (by decide) (by decide)) ?_
  refine xe_heap ((by rw [nI_clamp (by decide)] : _ = q_wP (q_hc z_I z_J1 88 85) 43 (va_up (q_P (q_hc z_I z_J1 88 85) 43) 21 (some 86))).trans (hc_P rfl (by decide +kernel))) ?_
  refine xn_iinc dX1_init_34 rfl kc_1 ?_
  refine xe_goto (tgt := 15) dX1_init_37 rfl ?_
  refine xe_locals (L' := [(0, .ref 42), (1, .int (nI 22))]) ⟨rfl, rfl, trivial⟩ ?_
  refine xe_iload_n dX1_init_15 rfl ?_
  refine xe_bipush dX1_init_16 (v := nI 25) (by decide +kernel) ?_
  refine xn_icmp_ge (tgt := 40) dX1_init_18 rfl (by decide) (by decide) (fun q => absurd q (by decide)) (fun _ => ?_)
  refine xe_aload_n dX1_init_21 rfl ?_
  refine xe_getP (a := 43) dX1_init_22 flX1_11 (hc_Sh (by decide) rfl) (by decide) rfl (show hc_p 86 42 0 = some 43 by decide +kernel) ?_
  refine xe_iload_n dX1_init_25 rfl ?_
  refine xe_new (C := RX0) dX1_init_26 q_ck0 clX1_9 q_inst0 q_init0 (show 88 < 1000000000 by decide) (by decide) ?_
  refine xe_heap (hc_new (t := 0) (n := 6) rfl rfl rfl (by decide +kernel)) ?_
  refine xe_dup dX1_init_29 rfl ?_
  refine xe_callI (d' := 1) (y' := mX0_init) (as := []) (b := 88) (rest := [.ref 88, .int (nI 22), .ref 43]) dX1_init_30 (Or.inr ⟨RX9, fun U hU => (hX U hU).2.2.2.2.2.2.2.2.1.2.2.2.1⟩) (q_MK_of mnX0_init rfl) rfl (by decide) (by decide) (Nat.le_of_ble_eq_true rfl) (cn_X0_88 l g hX) rfl (fun r22 hh22 q => ?_)
  obtain ⟨rfl, rfl⟩ := q
  refine xe_aast (r := 43) (a := 88) (t := 104) (t0 := 4) dX1_init_33 (hc_Sh (by decide) rfl) (by decide) rfl q_ck0 (hc_Sh (by decide) rfl) (vp_in_nI (by decide) (by decide)) ?_
  refine xe_heap ((by rw [nI_clamp (by decide)] : _ = q_wP (q_hc z_I z_J1 90 87) 43 (va_up (q_P (q_hc z_I z_J1 90 87) 43) 22 (some 88))).trans (hc_P rfl (by decide +kernel))) ?_
  refine xn_iinc dX1_init_34 rfl kc_1 ?_
  refine xe_goto (tgt := 15) dX1_init_37 rfl ?_
  refine xe_locals (L' := [(0, .ref 42), (1, .int (nI 23))]) ⟨rfl, rfl, trivial⟩ ?_
  refine xe_iload_n dX1_init_15 rfl ?_
  refine xe_bipush dX1_init_16 (v := nI 25) (by decide +kernel) ?_
  refine xn_icmp_ge (tgt := 40) dX1_init_18 rfl (by decide) (by decide) (fun q => absurd q (by decide)) (fun _ => ?_)
  refine xe_aload_n dX1_init_21 rfl ?_
  refine xe_getP (a := 43) dX1_init_22 flX1_11 (hc_Sh (by decide) rfl) (by decide) rfl (show hc_p 88 42 0 = some 43 by decide +kernel) ?_
  refine xe_iload_n dX1_init_25 rfl ?_
  refine xe_new (C := RX0) dX1_init_26 q_ck0 clX1_9 q_inst0 q_init0 (show 90 < 1000000000 by decide) (by decide) ?_
  refine xe_heap (hc_new (t := 0) (n := 6) rfl rfl rfl (by decide +kernel)) ?_
  refine xe_dup dX1_init_29 rfl ?_
  refine xe_callI (d' := 1) (y' := mX0_init) (as := []) (b := 90) (rest := [.ref 90, .int (nI 23), .ref 43]) dX1_init_30 (Or.inr ⟨RX9, fun U hU => (hX U hU).2.2.2.2.2.2.2.2.1.2.2.2.1⟩) (q_MK_of mnX0_init rfl) rfl (by decide) (by decide) (Nat.le_of_ble_eq_true rfl) (cn_X0_90 l g hX) rfl (fun r23 hh23 q => ?_)
  obtain ⟨rfl, rfl⟩ := q
  refine xe_aast (r := 43) (a := 90) (t := 104) (t0 := 4) dX1_init_33 (hc_Sh (by decide) rfl) (by decide) rfl q_ck0 (hc_Sh (by decide) rfl) (vp_in_nI (by decide) (by decide)) ?_
  refine xe_heap ((by rw [nI_clamp (by decide)] : _ = q_wP (q_hc z_I z_J1 92 89) 43 (va_up (q_P (q_hc z_I z_J1 92 89) 43) 23 (some 90))).trans (hc_P rfl (by decide +kernel))) ?_
  refine xn_iinc dX1_init_34 rfl kc_1 ?_
  refine xe_goto (tgt := 15) dX1_init_37 rfl ?_
  refine xe_locals (L' := [(0, .ref 42), (1, .int (nI 24))]) ⟨rfl, rfl, trivial⟩ ?_
  refine xe_iload_n dX1_init_15 rfl ?_
  refine xe_bipush dX1_init_16 (v := nI 25) (by decide +kernel) ?_
  refine xn_icmp_ge (tgt := 40) dX1_init_18 rfl (by decide) (by decide) (fun q => absurd q (by decide)) (fun _ => ?_)
  refine xe_aload_n dX1_init_21 rfl ?_
  refine xe_getP (a := 43) dX1_init_22 flX1_11 (hc_Sh (by decide) rfl) (by decide) rfl (show hc_p 90 42 0 = some 43 by decide +kernel) ?_
  refine xe_iload_n dX1_init_25 rfl ?_
  refine xe_new (C := RX0) dX1_init_26 q_ck0 clX1_9 q_inst0 q_init0 (show 92 < 1000000000 by decide) (by decide) ?_
  refine xe_heap (hc_new (t := 0) (n := 6) rfl rfl rfl (by decide +kernel)) ?_
  refine xe_dup dX1_init_29 rfl ?_
  refine xe_callI (d' := 1) (y' := mX0_init) (as := []) (b := 92) (rest := [.ref 92, .int (nI 24), .ref 43]) dX1_init_30 (Or.inr ⟨RX9, fun U hU => (hX U hU).2.2.2.2.2.2.2.2.1.2.2.2.1⟩) (q_MK_of mnX0_init rfl) rfl (by decide) (by decide) (Nat.le_of_ble_eq_true rfl) (cn_X0_92 l g hX) rfl (fun r24 hh24 q => ?_)
  obtain ⟨rfl, rfl⟩ := q
  refine xe_aast (r := 43) (a := 92) (t := 104) (t0 := 4) dX1_init_33 (hc_Sh (by decide) rfl) (by decide) rfl q_ck0 (hc_Sh (by decide) rfl) (vp_in_nI (by decide) (by decide)) ?_
  refine xe_heap ((by rw [nI_clamp (by decide)] : _ = q_wP (q_hc z_I z_J1 94 91) 43 (va_up (q_P (q_hc z_I z_J1 94 91) 43) 24 (some 92))).trans (hc_P rfl (by decide +kernel))) ?_
  refine xn_iinc dX1_init_34 rfl kc_1 ?_
  refine xe_goto (tgt := 15) dX1_init_37 rfl ?_
  refine xe_locals (L' := [(0, .ref 42), (1, .int (nI 25))]) ⟨rfl, rfl, trivial⟩ ?_
  refine xe_iload_n dX1_init_15 rfl ?_
  refine xe_bipush dX1_init_16 (v := nI 25) (by decide +kernel) ?_
  refine xn_icmp_ge (tgt := 40) dX1_init_18 rfl (by decide) (by decide) (fun _ => ?_) (fun q => absurd q (by decide))
  refine xe_return dX1_init_40 rfl ?_
  exact ⟨rfl, rfl⟩
theorem cn_X8_94 (l : Launch) (g : q_GP) {LL : Nat} {xs : Nat → Int32} (hX : q_GX g LL xs) : q_Cd l g 1 mX8_init [.ref 94] (q_hc z_I z_J1 95 93) none (q_hc z_I z_J1 98 96) := by
  refine q_CdN mnX8_init (Nat.le_of_ble_eq_true rfl) ?_
  refine xe_aload_n dX8_init_0 rfl ?_
  refine xe_obj dX8_init_1 mlX8_3 (by decide) (Nat.le_of_ble_eq_true rfl) ?_
  refine xe_aload_n dX8_init_4 rfl ?_
  refine xe_bipush dX8_init_5 kb_20 ?_
  refine xe_newa_int (n := 20) dX8_init_7 (by decide) (show 95 < 1000000000 by decide) ?_
  refine xe_heap (hc_new (t := 100) (n := 20) rfl rfl rfl (by decide +kernel)) ?_
  refine xe_putP (a := 95) (r := 94) dX8_init_9 flX8_9 (hc_Sh (by decide) rfl) (by decide) rfl (Or.inr ⟨rfl, rfl⟩) (fun _ => rfl) (fun _ => rfl) ?_
  refine xe_heap (hc_P (k := 0) (a := 95) rfl (by decide +kernel)) ?_
  refine xe_aload_n dX8_init_12 rfl ?_
  refine xe_bipush dX8_init_13 kb_20 ?_
  refine xe_newa_int (n := 20) dX8_init_15 (by decide) (show 96 < 1000000000 by decide) ?_
  refine xe_heap (hc_new (t := 100) (n := 20) rfl rfl rfl (by decide +kernel)) ?_
  refine xe_putP (a := 96) (r := 94) dX8_init_17 flX8_15 (hc_Sh (by decide) rfl) (by decide) rfl (Or.inr ⟨rfl, rfl⟩) (fun _ => rfl) (fun _ => rfl) ?_
  refine xe_heap (hc_P (k := 1) (a := 96) rfl (by decide +kernel)) ?_
  refine xe_aload_n dX8_init_20 rfl ?_
  refine xe_bipush dX8_init_21 kb_20 ?_
  refine xe_newa_int (n := 20) dX8_init_23 (by decide) (show 97 < 1000000000 by decide) ?_
  refine xe_heap (hc_new (t := 100) (n := 20) rfl rfl rfl (by decide +kernel)) ?_
  refine xe_putP (a := 97) (r := 94) dX8_init_25 flX8_18 (hc_Sh (by decide) rfl) (by decide) rfl (Or.inr ⟨rfl, rfl⟩) (fun _ => rfl) (fun _ => rfl) ?_
  refine xe_heap (hc_P (k := 2) (a := 97) rfl (by decide +kernel)) ?_
  refine xe_return dX8_init_28 rfl ?_
  exact ⟨rfl, rfl⟩
theorem cn_X4_98 (l : Launch) (g : q_GP) {LL : Nat} {xs : Nat → Int32} (hX : q_GX g LL xs) : q_Cd l g 1 mX4_init [.ref 98] (q_hc z_I z_J1 99 97) none (q_hc z_I z_J1 116 114) := by
  refine q_CdN mnX4_init (Nat.le_of_ble_eq_true rfl) ?_
  refine xe_aload_n dX4_init_0 rfl ?_
  refine xe_obj dX4_init_1 mlX4_3 (by decide) (Nat.le_of_ble_eq_true rfl) ?_
  refine xe_aload_n dX4_init_4 rfl ?_
  refine xe_bipush dX4_init_5 kb_64 ?_
  refine xe_newa_int (n := 64) dX4_init_7 (by decide) (show 99 < 1000000000 by decide) ?_
  refine xe_heap (hc_new (t := 100) (n := 64) rfl rfl rfl (by decide +kernel)) ?_
  refine xe_putP (a := 99) (r := 98) dX4_init_9 flX4_9 (hc_Sh (by decide) rfl) (by decide) rfl (Or.inr ⟨rfl, rfl⟩) (fun _ => rfl) (fun _ => rfl) ?_
  refine xe_heap (hc_P (k := 0) (a := 99) rfl (by decide +kernel)) ?_
  refine xe_aload_n dX4_init_12 rfl ?_
  refine xe_bipush dX4_init_13 kb_8 ?_
  refine xe_newa_int (n := 8) dX4_init_15 (by decide) (show 100 < 1000000000 by decide) ?_
  refine xe_heap (hc_new (t := 100) (n := 8) rfl rfl rfl (by decide +kernel)) ?_
  refine xe_putP (a := 100) (r := 98) dX4_init_17 flX4_15 (hc_Sh (by decide) rfl) (by decide) rfl (Or.inr ⟨rfl, rfl⟩) (fun _ => rfl) (fun _ => rfl) ?_
  refine xe_heap (hc_P (k := 1) (a := 100) rfl (by decide +kernel)) ?_
  refine xe_aload_n dX4_init_20 rfl ?_
  refine xe_bipush dX4_init_21 kb_9 ?_
  refine xe_sipush dX4_init_23 ks_401 ?_
  refine xe_mna dX4_init_26 clX4_18 (fun U hU => (hX U hU).2.2.2.2.2.2.2.1) (show 101 + 10 < 1000000000 by decide) ?_
  refine xe_heap (hc_mna (fun r h1 h2 => rfl)) ?_
  refine xe_putP (a := 101) (r := 98) dX4_init_30 flX4_20 (hc_Sh (by decide) rfl) (by decide) rfl (Or.inr ⟨rfl, rfl⟩) (fun _ => rfl) (fun _ => rfl) ?_
  refine xe_heap (hc_P (k := 2) (a := 101) rfl (by decide +kernel)) ?_
  refine xe_aload_n dX4_init_33 rfl ?_
  refine xe_sipush dX4_init_34 ks_256 ?_
  refine xe_newa_int (n := 256) dX4_init_37 (by decide) (show 111 < 1000000000 by decide) ?_
  refine xe_heap (hc_new (t := 100) (n := 256) rfl rfl rfl (by decide +kernel)) ?_
  refine xe_putP (a := 111) (r := 98) dX4_init_39 flX4_23 (hc_Sh (by decide) rfl) (by decide) rfl (Or.inr ⟨rfl, rfl⟩) (fun _ => rfl) (fun _ => rfl) ?_
  refine xe_heap (hc_P (k := 3) (a := 111) rfl (by decide +kernel)) ?_
  refine xe_aload_n dX4_init_42 rfl ?_
  refine xe_sipush dX4_init_43 ks_256 ?_
  refine xe_newa_int (n := 256) dX4_init_46 (by decide) (show 112 < 1000000000 by decide) ?_
  refine xe_heap (hc_new (t := 100) (n := 256) rfl rfl rfl (by decide +kernel)) ?_
  refine xe_putP (a := 112) (r := 98) dX4_init_48 flX4_26 (hc_Sh (by decide) rfl) (by decide) rfl (Or.inr ⟨rfl, rfl⟩) (fun _ => rfl) (fun _ => rfl) ?_
  refine xe_heap (hc_P (k := 4) (a := 112) rfl (by decide +kernel)) ?_
  refine xe_aload_n dX4_init_51 rfl ?_
  refine xe_sipush dX4_init_52 ks_401 ?_
  refine xe_newa_int (n := 401) dX4_init_55 (by decide) (show 113 < 1000000000 by decide) ?_
  refine xe_heap (hc_new (t := 100) (n := 401) rfl rfl rfl (by decide +kernel)) ?_
  refine xe_putP (a := 113) (r := 98) dX4_init_57 flX4_29 (hc_Sh (by decide) rfl) (by decide) rfl (Or.inr ⟨rfl, rfl⟩) (fun _ => rfl) (fun _ => rfl) ?_
  refine xe_heap (hc_P (k := 5) (a := 113) rfl (by decide +kernel)) ?_
  refine xe_aload_n dX4_init_60 rfl ?_
  refine xe_sipush dX4_init_61 ks_401 ?_
  refine xe_newa_int (n := 401) dX4_init_64 (by decide) (show 114 < 1000000000 by decide) ?_
  refine xe_heap (hc_new (t := 100) (n := 401) rfl rfl rfl (by decide +kernel)) ?_
  refine xe_putP (a := 114) (r := 98) dX4_init_66 flX4_32 (hc_Sh (by decide) rfl) (by decide) rfl (Or.inr ⟨rfl, rfl⟩) (fun _ => rfl) (fun _ => rfl) ?_
  refine xe_heap (hc_P (k := 6) (a := 114) rfl (by decide +kernel)) ?_
  refine xe_aload_n dX4_init_69 rfl ?_
  refine xe_bipush dX4_init_70 kb_8 ?_
  refine xe_newa_int (n := 8) dX4_init_72 (by decide) (show 115 < 1000000000 by decide) ?_
  refine xe_heap (hc_new (t := 100) (n := 8) rfl rfl rfl (by decide +kernel)) ?_
  refine xe_putP (a := 115) (r := 98) dX4_init_74 flX4_35 (hc_Sh (by decide) rfl) (by decide) rfl (Or.inr ⟨rfl, rfl⟩) (fun _ => rfl) (fun _ => rfl) ?_
  refine xe_heap (hc_P (k := 7) (a := 115) rfl (by decide +kernel)) ?_
  refine xe_return dX4_init_77 rfl ?_
  exact ⟨rfl, rfl⟩
theorem cn_X2_116 (l : Launch) (g : q_GP) {LL : Nat} {xs : Nat → Int32} (hX : q_GX g LL xs) : q_Cd l g 1 mX2_init [.ref 116] (q_hc z_I z_J1 117 115) none (q_hc z_I z_J1 120 118) := by
  refine q_CdN mnX2_init (Nat.le_of_ble_eq_true rfl) ?_
  refine xe_aload_n dX2_init_0 rfl ?_
  refine xe_obj dX2_init_1 mlX2_3 (by decide) (Nat.le_of_ble_eq_true rfl) ?_
  refine xe_aload_n dX2_init_4 rfl ?_
  refine xe_bipush dX2_init_5 kb_64 ?_
  refine xe_newa_int (n := 64) dX2_init_7 (by decide) (show 117 < 1000000000 by decide) ?_
  refine xe_heap (hc_new (t := 100) (n := 64) rfl rfl rfl (by decide +kernel)) ?_
  refine xe_putP (a := 117) (r := 116) dX2_init_9 flX2_9 (hc_Sh (by decide) rfl) (by decide) rfl (Or.inr ⟨rfl, rfl⟩) (fun _ => rfl) (fun _ => rfl) ?_
  refine xe_heap (hc_P (k := 0) (a := 117) rfl (by decide +kernel)) ?_
  refine xe_aload_n dX2_init_12 rfl ?_
  refine xe_bipush dX2_init_13 kb_8 ?_
  refine xe_newa_int (n := 8) dX2_init_15 (by decide) (show 118 < 1000000000 by decide) ?_
  refine xe_heap (hc_new (t := 100) (n := 8) rfl rfl rfl (by decide +kernel)) ?_
  refine xe_putP (a := 118) (r := 116) dX2_init_17 flX2_15 (hc_Sh (by decide) rfl) (by decide) rfl (Or.inr ⟨rfl, rfl⟩) (fun _ => rfl) (fun _ => rfl) ?_
  refine xe_heap (hc_P (k := 1) (a := 118) rfl (by decide +kernel)) ?_
  refine xe_aload_n dX2_init_20 rfl ?_
  refine xe_bipush dX2_init_21 kb_8 ?_
  refine xe_newa_int (n := 8) dX2_init_23 (by decide) (show 119 < 1000000000 by decide) ?_
  refine xe_heap (hc_new (t := 100) (n := 8) rfl rfl rfl (by decide +kernel)) ?_
  refine xe_putP (a := 119) (r := 116) dX2_init_25 flX2_18 (hc_Sh (by decide) rfl) (by decide) rfl (Or.inr ⟨rfl, rfl⟩) (fun _ => rfl) (fun _ => rfl) ?_
  refine xe_heap (hc_P (k := 2) (a := 119) rfl (by decide +kernel)) ?_
  refine xe_return dX2_init_28 rfl ?_
  exact ⟨rfl, rfl⟩
theorem cn_X9_0 (l : Launch) (g : q_GP) {LL : Nat} {xs : Nat → Int32} (hX : q_GX g LL xs) : q_Cd l g 6 mX9_init [.ref 0] (q_hc z_I z_J 1 0) none (q_hc z_I z_J1 124 123) := by
  refine q_CdN mnX9_init (Nat.le_of_ble_eq_true rfl) ?_
  refine xe_aload_n dX9_init_0 rfl ?_
  refine xe_obj dX9_init_1 mlX9_3 (by decide) (Nat.le_of_ble_eq_true rfl) ?_
  refine xe_aload_n dX9_init_4 rfl ?_
  refine xe_new (C := RX7) dX9_init_5 q_ck7 clX9_9 q_inst7 q_init7 (show 1 < 1000000000 by decide) (by decide) ?_
  refine xe_heap (hc_new (t := 7) (n := 7) rfl rfl rfl (by decide +kernel)) ?_
  refine xe_dup dX9_init_8 rfl ?_
  refine xe_callI (d' := 5) (y' := mX7_init) (as := []) (b := 1) (rest := [.ref 1, .ref 0]) dX9_init_9 (Or.inl mlX9_11) (q_MK_of mnX7_init rfl) rfl (by decide) (by decide) (Nat.le_of_ble_eq_true rfl) (cn_X7_1 l g hX) rfl (fun r9 hh9 q => ?_)
  obtain ⟨rfl, rfl⟩ := q
  refine xe_putP (a := 1) (r := 0) dX9_init_12 flX9_12 (hc_Sh (by decide) rfl) (by decide) rfl (Or.inr ⟨rfl, rfl⟩) (fun _ => rfl) (fun _ => rfl) ?_
  refine xe_heap (hc_P (k := 0) (a := 1) rfl (by decide +kernel)) ?_
  refine xe_aload_n dX9_init_15 rfl ?_
  refine xe_new (C := RX5) dX9_init_16 q_ck5 clX9_16 q_inst5 q_init5 (show 7 < 1000000000 by decide) (by decide) ?_
  refine xe_heap (hc_new (t := 5) (n := 11) rfl rfl rfl (by decide +kernel)) ?_
  refine xe_dup dX9_init_19 rfl ?_
  refine xe_callI (d' := 1) (y' := mX5_init) (as := []) (b := 7) (rest := [.ref 7, .ref 0]) dX9_init_20 (Or.inr ⟨RX9, fun U hU => (hX U hU).2.2.2.2.2.2.2.2.1.1⟩) (q_MK_of mnX5_init rfl) rfl (by decide) (by decide) (Nat.le_of_ble_eq_true rfl) (cn_X5_7 l g hX) rfl (fun r20 hh20 q => ?_)
  obtain ⟨rfl, rfl⟩ := q
  refine xe_putP (a := 7) (r := 0) dX9_init_23 flX9_19 (hc_Sh (by decide) rfl) (by decide) rfl (Or.inr ⟨rfl, rfl⟩) (fun _ => rfl) (fun _ => rfl) ?_
  refine xe_heap (hc_P (k := 1) (a := 7) rfl (by decide +kernel)) ?_
  refine xe_aload_n dX9_init_26 rfl ?_
  refine xe_new (C := RX3) dX9_init_27 q_ck3 clX9_23 q_inst3 q_init3 (show 10 < 1000000000 by decide) (by decide) ?_
  refine xe_heap (hc_new (t := 3) (n := 16) rfl rfl rfl (by decide +kernel)) ?_
  refine xe_dup dX9_init_30 rfl ?_
  refine xe_callI (d' := 1) (y' := mX3_init) (as := []) (b := 10) (rest := [.ref 10, .ref 0]) dX9_init_31 (Or.inr ⟨RX9, fun U hU => (hX U hU).2.2.2.2.2.2.2.2.1.2.1⟩) (q_MK_of mnX3_init rfl) rfl (by decide) (by decide) (Nat.le_of_ble_eq_true rfl) (cn_X3_10 l g hX) rfl (fun r31 hh31 q => ?_)
  obtain ⟨rfl, rfl⟩ := q
  refine xe_putP (a := 10) (r := 0) dX9_init_34 flX9_26 (hc_Sh (by decide) rfl) (by decide) rfl (Or.inl rfl) (fun _ => rfl) (fun _ => rfl) ?_
  refine xe_heap (hc_P (k := 2) (a := 10) rfl (by decide +kernel)) ?_
  refine xe_aload_n dX9_init_37 rfl ?_
  refine xe_new (C := RX3) dX9_init_38 q_ck3 clX9_23 q_inst3 q_init3 (show 22 < 1000000000 by decide) (by decide) ?_
  refine xe_heap (hc_new (t := 3) (n := 16) rfl rfl rfl (by decide +kernel)) ?_
  refine xe_dup dX9_init_41 rfl ?_
  refine xe_callI (d' := 1) (y' := mX3_init) (as := []) (b := 22) (rest := [.ref 22, .ref 0]) dX9_init_42 (Or.inr ⟨RX9, fun U hU => (hX U hU).2.2.2.2.2.2.2.2.1.2.1⟩) (q_MK_of mnX3_init rfl) rfl (by decide) (by decide) (Nat.le_of_ble_eq_true rfl) (cn_X3_22 l g hX) rfl (fun r42 hh42 q => ?_)
  obtain ⟨rfl, rfl⟩ := q
  refine xe_putP (a := 22) (r := 0) dX9_init_45 flX9_30 (hc_Sh (by decide) rfl) (by decide) rfl (Or.inl rfl) (fun _ => rfl) (fun _ => rfl) ?_
  refine xe_heap (hc_P (k := 3) (a := 22) rfl (by decide +kernel)) ?_
  refine xe_aload_n dX9_init_48 rfl ?_
  refine xe_new (C := RX6) dX9_init_49 q_ck6 clX9_33 q_inst6 q_init6 (show 34 < 1000000000 by decide) (by decide) ?_
  refine xe_heap (hc_new (t := 6) (n := 7) rfl rfl rfl (by decide +kernel)) ?_
  refine xe_dup dX9_init_52 rfl ?_
  refine xe_callI (d' := 1) (y' := mX6_init) (as := []) (b := 34) (rest := [.ref 34, .ref 0]) dX9_init_53 (Or.inr ⟨RX9, fun U hU => (hX U hU).2.2.2.2.2.2.2.2.1.2.2.1⟩) (q_MK_of mnX6_init rfl) rfl (by decide) (by decide) (Nat.le_of_ble_eq_true rfl) (cn_X6_34 l g hX) rfl (fun r53 hh53 q => ?_)
  obtain ⟨rfl, rfl⟩ := q
  refine xe_putP (a := 34) (r := 0) dX9_init_56 flX9_36 (hc_Sh (by decide) rfl) (by decide) rfl (Or.inr ⟨rfl, rfl⟩) (fun _ => rfl) (fun _ => rfl) ?_
  refine xe_heap (hc_P (k := 4) (a := 34) rfl (by decide +kernel)) ?_
  refine xe_aload_n dX9_init_59 rfl ?_
  refine xe_iconst dX9_init_60 kc_3 ?_
  refine xe_newq (n := 3) (t := 105) (k0 := 5) dX9_init_61 clX9_33 (fun U hU => (hX U hU).2.2.2.2.2.2.1) (by decide) rfl (by decide) (show 40 < 1000000000 by decide) ?_
  refine xe_heap (hc_new (t := 105) (n := 3) rfl rfl rfl (by decide +kernel)) ?_
  refine xe_putP (a := 40) (r := 0) dX9_init_64 flX9_40 (hc_Sh (by decide) rfl) (by decide) rfl (Or.inr ⟨rfl, rfl⟩) (fun _ => rfl) (fun _ => rfl) ?_
  refine xe_heap (hc_P (k := 5) (a := 40) rfl (by decide +kernel)) ?_
  refine xe_aload_n dX9_init_67 rfl ?_
  refine xe_iconst dX9_init_68 kc_3 ?_
  refine xe_newa_boolean (n := 3) dX9_init_69 (by decide) (show 41 < 1000000000 by decide) ?_
  refine xe_heap (hc_new (t := 102) (n := 3) rfl rfl rfl (by decide +kernel)) ?_
  refine xe_putP (a := 41) (r := 0) dX9_init_71 flX9_44 (hc_Sh (by decide) rfl) (by decide) rfl (Or.inr ⟨rfl, rfl⟩) (fun _ => rfl) (fun _ => rfl) ?_
  refine xe_heap (hc_P (k := 6) (a := 41) rfl (by decide +kernel)) ?_
  refine xe_aload_n dX9_init_74 rfl ?_
  refine xe_new (C := RX1) dX9_init_75 q_ck1 clX9_48 q_inst1 q_init1 (show 42 < 1000000000 by decide) (by decide) ?_
  refine xe_heap (hc_new (t := 1) (n := 3) rfl rfl rfl (by decide +kernel)) ?_
  refine xe_dup dX9_init_78 rfl ?_
  refine xe_callI (d' := 2) (y' := mX1_init) (as := []) (b := 42) (rest := [.ref 42, .ref 0]) dX9_init_79 (Or.inl mlX9_50) (q_MK_of mnX1_init rfl) rfl (by decide) (by decide) (Nat.le_of_ble_eq_true rfl) (cn_X1_42 l g hX) rfl (fun r79 hh79 q => ?_)
  obtain ⟨rfl, rfl⟩ := q
  refine xe_putP (a := 42) (r := 0) dX9_init_82 flX9_51 (hc_Sh (by decide) rfl) (by decide) rfl (Or.inr ⟨rfl, rfl⟩) (fun _ => rfl) (fun _ => rfl) ?_
  refine xe_heap (hc_P (k := 7) (a := 42) rfl (by decide +kernel)) ?_
  refine xe_aload_n dX9_init_85 rfl ?_
  refine xe_new (C := RX8) dX9_init_86 q_ck8 clX9_55 q_inst8 q_init8 (show 94 < 1000000000 by decide) (by decide) ?_
  refine xe_heap (hc_new (t := 8) (n := 4) rfl rfl rfl (by decide +kernel)) ?_
  refine xe_dup dX9_init_89 rfl ?_
  refine xe_callI (d' := 1) (y' := mX8_init) (as := []) (b := 94) (rest := [.ref 94, .ref 0]) dX9_init_90 (Or.inr ⟨RX9, fun U hU => (hX U hU).2.2.2.2.2.2.2.2.1.2.2.2.2.1⟩) (q_MK_of mnX8_init rfl) rfl (by decide) (by decide) (Nat.le_of_ble_eq_true rfl) (cn_X8_94 l g hX) rfl (fun r90 hh90 q => ?_)
  obtain ⟨rfl, rfl⟩ := q
  refine xe_putP (a := 94) (r := 0) dX9_init_93 flX9_58 (hc_Sh (by decide) rfl) (by decide) rfl (Or.inr ⟨rfl, rfl⟩) (fun _ => rfl) (fun _ => rfl) ?_
  refine xe_heap (hc_P (k := 8) (a := 94) rfl (by decide +kernel)) ?_
  refine xe_aload_n dX9_init_96 rfl ?_
  refine xe_new (C := RX4) dX9_init_97 q_ck4 clX9_62 q_inst4 q_init4 (show 98 < 1000000000 by decide) (by decide) ?_
  refine xe_heap (hc_new (t := 4) (n := 10) rfl rfl rfl (by decide +kernel)) ?_
  refine xe_dup dX9_init_100 rfl ?_
  refine xe_callI (d' := 1) (y' := mX4_init) (as := []) (b := 98) (rest := [.ref 98, .ref 0]) dX9_init_101 (Or.inr ⟨RX9, fun U hU => (hX U hU).2.2.2.2.2.2.2.2.1.2.2.2.2.2.1⟩) (q_MK_of mnX4_init rfl) rfl (by decide) (by decide) (Nat.le_of_ble_eq_true rfl) (cn_X4_98 l g hX) rfl (fun r101 hh101 q => ?_)
  obtain ⟨rfl, rfl⟩ := q
  refine xe_putP (a := 98) (r := 0) dX9_init_104 flX9_65 (hc_Sh (by decide) rfl) (by decide) rfl (Or.inr ⟨rfl, rfl⟩) (fun _ => rfl) (fun _ => rfl) ?_
  refine xe_heap (hc_P (k := 9) (a := 98) rfl (by decide +kernel)) ?_
  refine xe_aload_n dX9_init_107 rfl ?_
  refine xe_new (C := RX2) dX9_init_108 q_ck2 clX9_69 q_inst2 q_init2 (show 116 < 1000000000 by decide) (by decide) ?_
  refine xe_heap (hc_new (t := 2) (n := 4) rfl rfl rfl (by decide +kernel)) ?_
  refine xe_dup dX9_init_111 rfl ?_
  refine xe_callI (d' := 1) (y' := mX2_init) (as := []) (b := 116) (rest := [.ref 116, .ref 0]) dX9_init_112 (Or.inr ⟨RX9, fun U hU => (hX U hU).2.2.2.2.2.2.2.2.1.2.2.2.2.2.2⟩) (q_MK_of mnX2_init rfl) rfl (by decide) (by decide) (Nat.le_of_ble_eq_true rfl) (cn_X2_116 l g hX) rfl (fun r112 hh112 q => ?_)
  obtain ⟨rfl, rfl⟩ := q
  refine xe_putP (a := 116) (r := 0) dX9_init_115 flX9_72 (hc_Sh (by decide) rfl) (by decide) rfl (Or.inr ⟨rfl, rfl⟩) (fun _ => rfl) (fun _ => rfl) ?_
  refine xe_heap (hc_P (k := 10) (a := 116) rfl (by decide +kernel)) ?_
  refine xe_aload_n dX9_init_118 rfl ?_
  refine xe_bipush dX9_init_119 kb_8 ?_
  refine xe_newa_int (n := 8) dX9_init_121 (by decide) (show 120 < 1000000000 by decide) ?_
  refine xe_heap (hc_new (t := 100) (n := 8) rfl rfl rfl (by decide +kernel)) ?_
  refine xe_putP (a := 120) (r := 0) dX9_init_123 flX9_76 (hc_Sh (by decide) rfl) (by decide) rfl (Or.inr ⟨rfl, rfl⟩) (fun _ => rfl) (fun _ => rfl) ?_
  refine xe_heap (hc_P (k := 11) (a := 120) rfl (by decide +kernel)) ?_
  refine xe_aload_n dX9_init_126 rfl ?_
  refine xe_iconst dX9_init_127 kc_1 ?_
  refine xe_newa_int (n := 1) dX9_init_128 (by decide) (show 121 < 1000000000 by decide) ?_
  refine xe_heap (hc_new (t := 100) (n := 1) rfl rfl rfl (by decide +kernel)) ?_
  refine xe_putP (a := 121) (r := 0) dX9_init_130 flX9_80 (hc_Sh (by decide) rfl) (by decide) rfl (Or.inr ⟨rfl, rfl⟩) (fun _ => rfl) (fun _ => rfl) ?_
  refine xe_heap (hc_P (k := 12) (a := 121) rfl (by decide +kernel)) ?_
  refine xe_aload_n dX9_init_133 rfl ?_
  refine xe_sipush dX9_init_134 ks_256 ?_
  refine xe_newa_int (n := 256) dX9_init_137 (by decide) (show 122 < 1000000000 by decide) ?_
  refine xe_heap (hc_new (t := 100) (n := 256) rfl rfl rfl (by decide +kernel)) ?_
  refine xe_putP (a := 122) (r := 0) dX9_init_139 flX9_83 (hc_Sh (by decide) rfl) (by decide) rfl (Or.inr ⟨rfl, rfl⟩) (fun _ => rfl) (fun _ => rfl) ?_
  refine xe_heap (hc_P (k := 13) (a := 122) rfl (by decide +kernel)) ?_
  refine xe_aload_n dX9_init_142 rfl ?_
  refine xe_sipush dX9_init_143 ks_256 ?_
  refine xe_newa_int (n := 256) dX9_init_146 (by decide) (show 123 < 1000000000 by decide) ?_
  refine xe_heap (hc_new (t := 100) (n := 256) rfl rfl rfl (by decide +kernel)) ?_
  refine xe_putP (a := 123) (r := 0) dX9_init_148 flX9_86 (hc_Sh (by decide) rfl) (by decide) rfl (Or.inr ⟨rfl, rfl⟩) (fun _ => rfl) (fun _ => rfl) ?_
  refine xe_heap (hc_P (k := 14) (a := 123) rfl (by decide +kernel)) ?_
  refine xe_return dX9_init_151 rfl ?_
  exact ⟨rfl, rfl⟩
