/-! String's own methods on the text constants -/
theorem fJ_38 : Cond.fieldLink RJ0 38 "java/lang/String" "COMPACT_STRINGS" "Z" ∈ q_tab := q_at t1_42.1 rfl
theorem fJ_9 : Cond.fieldLink RJ0 9 "java/lang/String" "value" "[B" ∈ q_tab := q_at t7_122.1 rfl
theorem fJ_15 : Cond.fieldLink RJ0 15 "java/lang/String" "coder" "B" ∈ q_tab := q_at t7_123.1 rfl
theorem fJ_1053 : Cond.fieldLink RJ0 1053 "jdk/internal/util/Preconditions" "SIOOBE_FORMATTER" "Ljava/util/function/BiFunction;" ∈ q_tab := q_at t1_58.1 rfl
def os_n (i : Nat) : Nat := q_osl.getD i 0
def os_b (i j : Nat) : Int32 := (q_osb.getD i []).getD j 0
theorem os_nlt {i : Nat} (hi : i < 2) : os_n i < 100 := by
  rcases Nat.lt_succ_iff_lt_or_eq.mp hi with q | rfl
  · rw [Nat.lt_one_iff.mp q]; decide
  · decide
theorem os_byt {i j : Nat} (hi : i < 2) (hj : j < os_n i) : ((os_b i j &&& 255).toUInt32 % 65536).toInt32 = os_b i j := by
  have H : ∀ i, i < 2 → ∀ j, j < os_n i → ((os_b i j &&& 255).toUInt32 % 65536).toInt32 = os_b i j := by decide +kernel
  exact H i hi j hj
theorem os_nar {i j : Nat} (hi : i < 2) (hj : j < os_n i) : narrow .char (.int (os_b i j)) = .int (os_b i j) := by
  have H : ∀ i, i < 2 → ∀ j, j < os_n i → ((os_b i j).toUInt32 % 65536).toInt32 = os_b i j := by decide +kernel
  exact congrArg Value.int (H i hi j hj)
theorem os_eq {i j n : Nat} (hi : i < 2) (hj : j < os_n i) (hn : n < 256) : os_b i j = (nI n).toInt8.toInt32 ↔ os_b i j = nI n := by
  have H : ∀ i, i < 2 → ∀ j, j < os_n i → ∀ n, n < 256 → (os_b i j = (nI n).toInt8.toInt32 ↔ os_b i j = nI n) := by decide +kernel
  exact H i hi j hj n hn
section
variable {l : Launch} {g : q_GP} {h : q_H} {LL : Nat} {xs : Nat → Int32}
theorem os_cs (hX : q_GX g LL xs) (U : State) (hU : q_X g U) : va_Z "java/lang/String" "COMPACT_STRINGS" "Z" (q_cv g (.int 1)) (q_A g) U U.heap := (hX U hU).2.2.2.1
theorem os_cod (hX : q_GX g LL xs) {i : Nat} (hi : i < 2) (U : State) (hU : q_X g U) : va_OF "java/lang/String" "coder" "B" (q_cv g (.int 0)) (q_SA g (2 * i)) (q_A g) U U.heap := ((hX U hU).1.1 i hi).2.1
theorem os_val (hX : q_GX g LL xs) {i : Nat} (hi : i < 2) (U : State) (hU : q_X g U) : va_OF "java/lang/String" "value" "[B" (q_cv g (.ref (1000000000 + (2 * i + 1)))) (q_SA g (2 * i)) (q_A g) U U.heap := by
  rw [show q_cv g (.ref (1000000000 + (2 * i + 1))) = .ref (q_SA g (2 * i + 1)) from congrArg Value.ref q_ad_o]
  exact ((hX U hU).1.1 i hi).2.2.1
theorem os_arr (hX : q_GX g LL xs) {i : Nat} (hi : i < 2) (U : State) (hU : q_X g U) : va_T .byte (q_SA g (2 * i + 1)) (os_n i) (fun j => .int (os_b i j)) (q_A g) U U.heap := ((hX U hU).1.1 i hi).2.2.2
theorem os_si (hX : q_GX g LL xs) {v : Value} (hv : q_cv g v = (if q_SA g 6 = 0 then .null else .ref (q_SA g 5))) (U : State) (hU : q_X g U) : va_Z "jdk/internal/util/Preconditions" "SIOOBE_FORMATTER" "Ljava/util/function/BiFunction;" (q_cv g v) (q_A g) U U.heap := by
  rw [hv]
  exact (hX U hU).2.2.2.2.1
theorem cJ_isLatin1 (hX : q_GX g LL xs) {i : Nat} (hi : i < 2) : q_Cd l g 0 mJ0_isLatin1_aae02 [.ref (1000000000 + 2 * i)] h (some (.int (nI 1))) h := by
  refine q_CdV mvJ0_isLatin1_aae02 (Nat.le_of_ble_eq_true rfl) ?_
  refine xe_getsO dJ0_isLatin1_aae02_0 fJ_38 (v := .int 1) (os_cs hX) ?_
  refine xe_if_eq (tgt := 17) dJ0_isLatin1_aae02_3 rfl (fun q => absurd q (by decide)) (fun _ => ?_)
  refine xe_aload_n dJ0_isLatin1_aae02_6 rfl ?_
  refine xe_getO dJ0_isLatin1_aae02_7 fJ_15 (v := .int 0) (os_cod hX hi) ?_
  refine xe_if_ne (tgt := 17) dJ0_isLatin1_aae02_10 rfl (fun q => absurd rfl q) (fun _ => ?_)
  refine xe_iconst dJ0_isLatin1_aae02_13 kc_1 ?_
  refine xe_goto (tgt := 18) dJ0_isLatin1_aae02_14 rfl ?_
  refine xe_ireturn dJ0_isLatin1_aae02_18 rfl (by first | rfl | decide +kernel) ?_
  exact ⟨rfl, rfl⟩
theorem cJ_coder (hX : q_GX g LL xs) {i : Nat} (hi : i < 2) : q_Cd l g 0 mJ0_coder_7d493 [.ref (1000000000 + 2 * i)] h (some (.int 0)) h := by
  refine q_CdV mvJ0_coder_7d493 (Nat.le_of_ble_eq_true rfl) ?_
  refine xe_getsO dJ0_coder_7d493_0 fJ_38 (v := .int 1) (os_cs hX) ?_
  refine xe_if_eq (tgt := 13) dJ0_coder_7d493_3 rfl (fun q => absurd q (by decide)) (fun _ => ?_)
  refine xe_aload_n dJ0_coder_7d493_6 rfl ?_
  refine xe_getO dJ0_coder_7d493_7 fJ_15 (v := .int 0) (os_cod hX hi) ?_
  refine xe_goto (tgt := 14) dJ0_coder_7d493_10 rfl ?_
  refine xe_ireturn dJ0_coder_7d493_14 rfl (by first | rfl | decide +kernel) ?_
  exact ⟨rfl, rfl⟩
theorem cJ_length (hX : q_GX g LL xs) {i : Nat} (hi : i < 2) : q_Cd l g 1 mJ0_length_8abf5 [.ref (1000000000 + 2 * i)] h (some (.int (nI (os_n i)))) h := by
  refine q_CdV mvJ0_length_8abf5 (Nat.le_of_ble_eq_true rfl) ?_
  refine xe_aload_n dJ0_length_8abf5_0 rfl ?_
  refine xe_getO dJ0_length_8abf5_1 fJ_9 (v := .ref (1000000000 + (2 * i + 1))) (os_val hX hi) ?_
  refine xe_alenO dJ0_length_8abf5_4 (os_arr hX hi) ?_
  refine xe_aload_n dJ0_length_8abf5_5 rfl ?_
  refine xe_callVO (d' := 0) (y' := mJ0_coder_7d493) (as := []) (rest := [.int (nI (os_n i))]) dJ0_length_8abf5_6 mlJ0_335 mvJ0_coder_7d493 rfl rfl hX hi (by decide) (by decide) (Nat.le_of_ble_eq_true rfl) (cJ_coder hX hi) rfl (fun r h2 q => ?_)
  obtain ⟨rfl, rfl⟩ := q
  refine xe_ishr dJ0_length_8abf5_9 ?_
  refine xe_top (v' := nI (os_n i)) (sc_shr0 (Nat.lt_trans (os_nlt hi) (by decide))) ?_
  refine xe_ireturn dJ0_length_8abf5_10 rfl (by first | rfl | decide +kernel) ?_
  exact ⟨rfl, rfl⟩
theorem cJ_pre (v : Value) (hc : v = .null ∨ ∃ r, v = .ref r) {k n : Nat} (hk : k < n) (hn : n < 100) : q_Cd l g 0 mJ3_checkIndex_8e157 [.int (nI k), .int (nI n), v] h (some (.int (nI k))) h := by
  refine q_CdS msJ3_checkIndex_8e157 (by rcases hc with rfl | ⟨r, rfl⟩ <;> exact Nat.le_of_ble_eq_true rfl) ?_
  refine xe_iload_n dJ3_checkIndex_8e157_0 rfl ?_
  refine xn_if_lt (tgt := 9) dJ3_checkIndex_8e157_1 rfl (by omega) ?_
  refine xe_iload_n dJ3_checkIndex_8e157_4 rfl ?_
  refine xe_iload_n dJ3_checkIndex_8e157_5 rfl ?_
  refine xn_icmp_lt (tgt := 16) dJ3_checkIndex_8e157_6 rfl (by omega) (by omega) (fun _ => ?_) (fun q => absurd hk q)
  refine xe_iload_n dJ3_checkIndex_8e157_16 rfl ?_
  refine xe_ireturn dJ3_checkIndex_8e157_17 rfl (by first | rfl | decide +kernel) ?_
  exact ⟨rfl, rfl⟩
theorem cJ_check (hX : q_GX g LL xs) {k n : Nat} (hk : k < n) (hn : n < 100) : q_Cd l g 1 mJ0_checkIndex_df160 [.int (nI k), .int (nI n)] h none h := by
  have hv : ∃ v : Value, q_cv g v = (if q_SA g 6 = 0 then .null else .ref (q_SA g 5)) ∧ (v = .null ∨ ∃ r, v = .ref r) := by
    by_cases q : q_SA g 6 = 0
    · exact ⟨.null, by rw [if_pos q]; rfl, Or.inl rfl⟩
    · exact ⟨.ref (1000000000 + 5), by rw [if_neg q]; exact congrArg Value.ref q_ad_o, Or.inr ⟨_, rfl⟩⟩
  obtain ⟨v, hv, hc⟩ := hv
  refine q_CdS msJ0_checkIndex_df160 (Nat.le_of_ble_eq_true rfl) ?_
  refine xe_iload_n dJ0_checkIndex_df160_0 rfl ?_
  refine xe_iload_n dJ0_checkIndex_df160_1 rfl ?_
  refine xe_getsO dJ0_checkIndex_df160_2 fJ_1053 (v := v) (os_si hX hv) ?_
  refine xe_callSI (d' := 0) (y' := mJ3_checkIndex_8e157) (as := [.int (nI k), .int (nI n), v]) (rest := []) dJ0_checkIndex_df160_5 mlJ0_1059 msJ3_checkIndex_8e157 rfl (by decide) (by decide) (Nat.le_of_ble_eq_true rfl) (cJ_pre v hc hk hn) rfl ?_
  refine xe_pop dJ0_checkIndex_df160_8 rfl ?_
  refine xe_return dJ0_checkIndex_df160_9 rfl ?_
  exact ⟨rfl, rfl⟩
theorem cJ_charAt1 (hX : q_GX g LL xs) {i k : Nat} (hi : i < 2) (hk : k < os_n i) : q_Cd l g 2 mJ1_charAt_3b067 [.ref (1000000000 + (2 * i + 1)), .int (nI k)] h (some (.int (os_b i k))) h := by
  refine q_CdS msJ1_charAt_3b067 (Nat.le_of_ble_eq_true rfl) ?_
  refine xe_iload_n dJ1_charAt_3b067_0 rfl ?_
  refine xe_aload_n dJ1_charAt_3b067_1 rfl ?_
  refine xe_alenO dJ1_charAt_3b067_2 (os_arr hX hi) ?_
  refine xe_callSV (d' := 1) (y' := mJ0_checkIndex_df160) (as := [.int (nI k), .int (nI (os_n i))]) (rest := []) dJ1_charAt_3b067_3 mlJ1_9 msJ0_checkIndex_df160 rfl (by decide) (by decide) (Nat.le_of_ble_eq_true rfl) (cJ_check hX hk (os_nlt hi)) rfl ?_
  refine xe_aload_n dJ1_charAt_3b067_6 rfl ?_
  refine xe_iload_n dJ1_charAt_3b067_7 rfl ?_
  refine xe_baldO dJ1_charAt_3b067_8 (os_arr hX hi) hk (Nat.lt_trans (os_nlt hi) (by decide)) ?_
  refine xe_sipush dJ1_charAt_3b067_9 (v := 255) (by decide +kernel) ?_
  refine xe_iand dJ1_charAt_3b067_12 ?_
  refine xe_i2c dJ1_charAt_3b067_13 (os_byt hi hk) ?_
  refine xe_ireturn dJ1_charAt_3b067_14 rfl (os_nar hi hk) ?_
  exact ⟨rfl, rfl⟩
theorem cJ_charAt (hX : q_GX g LL xs) {i k : Nat} (hi : i < 2) (hk : k < os_n i) : q_Cd l g 3 mJ0_charAt_5068e [.ref (1000000000 + 2 * i), .int (nI k)] h (some (.int (os_b i k))) h := by
  refine q_CdV mvJ0_charAt_5068e (Nat.le_of_ble_eq_true rfl) ?_
  refine xe_aload_n dJ0_charAt_5068e_0 rfl ?_
  refine xe_callVO (d' := 0) (y' := mJ0_isLatin1_aae02) (as := []) (rest := []) dJ0_charAt_5068e_1 mlJ0_492 mvJ0_isLatin1_aae02 rfl rfl hX hi (by decide) (by decide) (Nat.le_of_ble_eq_true rfl) (cJ_isLatin1 hX hi) rfl (fun r h2 q => ?_)
  obtain ⟨rfl, rfl⟩ := q
  refine xe_if_eq (tgt := 16) dJ0_charAt_5068e_4 rfl (fun q => absurd q (by decide)) (fun _ => ?_)
  refine xe_aload_n dJ0_charAt_5068e_7 rfl ?_
  refine xe_getO dJ0_charAt_5068e_8 fJ_9 (v := .ref (1000000000 + (2 * i + 1))) (os_val hX hi) ?_
  refine xe_iload_n dJ0_charAt_5068e_11 rfl ?_
  refine xe_callSI (d' := 2) (y' := mJ1_charAt_3b067) (as := [.ref (1000000000 + (2 * i + 1)), .int (nI k)]) (rest := []) dJ0_charAt_5068e_12 mlJ0_495 msJ1_charAt_3b067 rfl (by decide) (by decide) (Nat.le_of_ble_eq_true rfl) (cJ_charAt1 hX hi hk) rfl ?_
  refine xe_ireturn dJ0_charAt_5068e_15 rfl (os_nar hi hk) ?_
  exact ⟨rfl, rfl⟩
theorem cJ_can {n : Nat} (hn : n < 256) : q_Cd l g 0 mJ1_canEncode_9a6ad [.int (nI n)] h (some (.int (nI 1))) h := by
  refine q_CdS msJ1_canEncode_9a6ad (Nat.le_of_ble_eq_true rfl) ?_
  refine xe_iload_n dJ1_canEncode_9a6ad_0 rfl ?_
  refine xn_if_lt (tgt := 15) dJ1_canEncode_9a6ad_1 rfl (by omega) ?_
  refine xe_iload_n dJ1_canEncode_9a6ad_4 rfl ?_
  refine xe_sipush dJ1_canEncode_9a6ad_5 (v := nI 255) (by decide +kernel) ?_
  refine xn_icmp_gt (tgt := 15) dJ1_canEncode_9a6ad_8 rfl (by omega) (by omega) (fun q => absurd q (by omega)) (fun _ => ?_)
  refine xe_iconst dJ1_canEncode_9a6ad_11 kc_1 ?_
  refine xe_goto (tgt := 16) dJ1_canEncode_9a6ad_12 rfl ?_
  refine xe_ireturn dJ1_canEncode_9a6ad_16 rfl (by first | rfl | decide +kernel) ?_
  exact ⟨rfl, rfl⟩
/-- what an indexOf answers -/
def os_in (i n : Nat) (v : Int32) : Prop := (0 ≤ v ↔ ∃ j, j < os_n i ∧ os_b i j = nI n) ∧ (v = -1 ∨ 0 ≤ v)
theorem cJ_ixl (hX : q_GX g LL xs) {i n : Nat} (hi : i < 2) (hn : n < 256) : ∀ m j : Nat, j + m = os_n i → (∀ j', j' < j → os_b i j' ≠ nI n) →
    q_Ex l g 0 mJ1_indexOfChar_4cfef 7 [(5, .int (nI j)), (4, .int ((nI n).toInt8.toInt32)), (0, .ref (1000000000 + (2 * i + 1))), (3, .int (nI (os_n i)))] [] h (fun r h1 => (∃ v : Int32, r = some (.int v) ∧ os_in i n v) ∧ h1 = h) := by
  have hz := os_nlt hi
  intro m
  induction m with
  | zero =>
    intro j hj hne
    refine xe_iload dJ1_indexOfChar_4cfef_7 rfl ?_
    refine xe_iload_n dJ1_indexOfChar_4cfef_9 rfl ?_
    refine xn_icmp_ge (tgt := 31) dJ1_indexOfChar_4cfef_10 rfl (by omega) (by omega) (fun _ => ?_) (fun q => absurd q (by omega))
    refine xe_iconst dJ1_indexOfChar_4cfef_31 (v := -1) (by decide +kernel) ?_
    refine xe_ireturn dJ1_indexOfChar_4cfef_32 rfl (by first | rfl | decide +kernel) ?_
    refine ⟨⟨_, rfl, ⟨fun q => absurd q (by decide), fun ⟨j', h1, h2⟩ => absurd h2 (hne j' (by omega))⟩, Or.inl rfl⟩, rfl⟩
  | succ m ih =>
    intro j hj hne
    refine xe_iload dJ1_indexOfChar_4cfef_7 rfl ?_
    refine xe_iload_n dJ1_indexOfChar_4cfef_9 rfl ?_
    refine xn_icmp_ge (tgt := 31) dJ1_indexOfChar_4cfef_10 rfl (by omega) (by omega) (fun q => absurd q (by omega)) (fun _ => ?_)
    refine xe_aload_n dJ1_indexOfChar_4cfef_13 rfl ?_
    refine xe_iload dJ1_indexOfChar_4cfef_14 rfl ?_
    refine xe_baldO dJ1_indexOfChar_4cfef_16 (os_arr hX hi) (by omega) (by omega) ?_
    refine xe_iload dJ1_indexOfChar_4cfef_17 rfl ?_
    refine xe_icmp_ne (tgt := 25) dJ1_indexOfChar_4cfef_19 rfl (fun q => ?_) (fun q => ?_)
    · refine xn_iinc dJ1_indexOfChar_4cfef_25 rfl kc_1 ?_
      refine xe_goto (tgt := 7) dJ1_indexOfChar_4cfef_28 rfl ?_
      refine xe_locals (L' := [(5, .int (nI (j + 1))), (4, .int ((nI n).toInt8.toInt32)), (0, .ref (1000000000 + (2 * i + 1))), (3, .int (nI (os_n i)))]) ⟨rfl, rfl, rfl, rfl, trivial⟩ (ih (j + 1) (by omega) (fun j' hj' e => ?_))
      rcases Nat.lt_succ_iff_lt_or_eq.mp hj' with h1 | rfl
      · exact hne j' h1 e
      · exact q ((os_eq hi (by omega) hn).mpr e)
    · refine xe_iload dJ1_indexOfChar_4cfef_22 rfl ?_
      refine xe_ireturn dJ1_indexOfChar_4cfef_24 rfl (by first | rfl | decide +kernel) ?_
      have q' : os_b i j = nI n := (os_eq hi (by omega) hn).mp (by first | exact q | exact Classical.not_not.mp q)
      exact ⟨⟨_, rfl, ⟨fun _ => ⟨j, by omega, q'⟩, fun _ => nI_pos' (by omega)⟩, Or.inr (nI_pos' (by omega))⟩, rfl⟩
theorem cJ_ixC (hX : q_GX g LL xs) {i n : Nat} (hi : i < 2) (hn : n < 256) : q_Ct l g 0 mJ1_indexOfChar_4cfef [.ref (1000000000 + (2 * i + 1)), .int (nI n), .int (nI 0), .int (nI (os_n i))] h (fun r h1 => (∃ v : Int32, r = some (.int v) ∧ os_in i n v) ∧ h1 = h) := by
  refine q_CtS msJ1_indexOfChar_4cfef (Nat.le_of_ble_eq_true rfl) ?_
  refine xe_iload_n dJ1_indexOfChar_4cfef_0 rfl ?_
  refine xe_i2b dJ1_indexOfChar_4cfef_1 rfl ?_
  refine xe_istore dJ1_indexOfChar_4cfef_2 (by decide) rfl ?_
  refine xe_iload_n dJ1_indexOfChar_4cfef_4 rfl ?_
  refine xe_istore dJ1_indexOfChar_4cfef_5 (by decide) rfl ?_
  exact xe_locals (L' := [(5, .int (nI 0)), (4, .int ((nI n).toInt8.toInt32)), (0, .ref (1000000000 + (2 * i + 1))), (3, .int (nI (os_n i)))]) ⟨rfl, rfl, rfl, rfl, trivial⟩ (cJ_ixl hX hi hn (os_n i) 0 (by omega) (fun j' hj' => absurd hj' (Nat.not_lt_zero _)))
theorem cJ_ix4 (hX : q_GX g LL xs) {i n : Nat} (hi : i < 2) (hn : n < 256) (h0 : 0 < os_n i) : q_Ct l g 1 mJ1_indexOf_4cfef [.ref (1000000000 + (2 * i + 1)), .int (nI n), .int (nI 0), .int (nI (os_n i))] h (fun r h1 => (∃ v : Int32, r = some (.int v) ∧ os_in i n v) ∧ h1 = h) := by
  have hz := os_nlt hi
  refine q_CtS msJ1_indexOf_4cfef (Nat.le_of_ble_eq_true rfl) ?_
  refine xe_iload_n dJ1_indexOf_4cfef_0 rfl ?_
  refine xe_callSI (d' := 0) (y' := mJ1_canEncode_9a6ad) (as := [.int (nI n)]) (rest := []) dJ1_indexOf_4cfef_1 mlJ1_88 msJ1_canEncode_9a6ad rfl (by decide) (by decide) (Nat.le_of_ble_eq_true rfl) (cJ_can hn) rfl ?_
  refine xe_if_ne (tgt := 9) dJ1_indexOf_4cfef_4 rfl (fun _ => ?_) (fun q => absurd q (by decide))
  refine xe_iload_n dJ1_indexOf_4cfef_9 rfl ?_
  refine xe_iconst dJ1_indexOf_4cfef_10 kc_0 ?_
  refine xe_max dJ1_indexOf_4cfef_11 mlJ1_92 q_mmax (by decide) (Nat.le_of_ble_eq_true rfl) ?_
  refine xe_top (v' := nI 0) (by decide) ?_
  refine xe_istore_n (i := 2) dJ1_indexOf_4cfef_14 rfl (by decide) rfl ?_
  refine xe_iload_n dJ1_indexOf_4cfef_15 rfl ?_
  refine xe_aload_n dJ1_indexOf_4cfef_16 rfl ?_
  refine xe_alenO dJ1_indexOf_4cfef_17 (os_arr hX hi) ?_
  refine xe_min dJ1_indexOf_4cfef_18 mlJ1_38 q_mmin (by decide) (Nat.le_of_ble_eq_true rfl) ?_
  refine xe_top (v' := nI (os_n i)) (by split <;> rfl) ?_
  refine xe_istore_n (i := 3) dJ1_indexOf_4cfef_21 rfl (by decide) rfl ?_
  refine xe_iload_n dJ1_indexOf_4cfef_22 rfl ?_
  refine xe_iload_n dJ1_indexOf_4cfef_23 rfl ?_
  refine xn_icmp_lt (tgt := 29) dJ1_indexOf_4cfef_24 rfl (by omega) (by omega) (fun _ => ?_) (fun q => absurd h0 q)
  refine xe_aload_n dJ1_indexOf_4cfef_29 rfl ?_
  refine xe_iload_n dJ1_indexOf_4cfef_30 rfl ?_
  refine xe_iload_n dJ1_indexOf_4cfef_31 rfl ?_
  refine xe_iload_n dJ1_indexOf_4cfef_32 rfl ?_
  refine xe_callS (d' := 0) (y' := mJ1_indexOfChar_4cfef) (as := [.ref (1000000000 + (2 * i + 1)), .int (nI n), .int (nI 0), .int (nI (os_n i))]) (rest := []) dJ1_indexOf_4cfef_33 mlJ1_95 msJ1_indexOfChar_4cfef rfl (by decide) (by decide) (Nat.le_of_ble_eq_true rfl) (cJ_ixC hX hi hn) rfl (fun r h2 q => ?_)
  obtain ⟨⟨v, rfl, q⟩, rfl⟩ := q
  refine xe_ireturn dJ1_indexOf_4cfef_36 rfl rfl ?_
  exact ⟨⟨v, rfl, q⟩, rfl⟩
theorem cJ_ix2 (hX : q_GX g LL xs) {i n : Nat} (hi : i < 2) (hn : n < 256) (h0 : 0 < os_n i) : q_Ct l g 2 mJ0_indexOf_7cf53 [.ref (1000000000 + 2 * i), .int (nI n), .int (nI 0)] h (fun r h1 => (∃ v : Int32, r = some (.int v) ∧ os_in i n v) ∧ h1 = h) := by
  refine q_CtV mvJ0_indexOf_7cf53 (Nat.le_of_ble_eq_true rfl) ?_
  refine xe_aload_n dJ0_indexOf_7cf53_0 rfl ?_
  refine xe_callVO (d' := 0) (y' := mJ0_isLatin1_aae02) (as := []) (rest := []) dJ0_indexOf_7cf53_1 mlJ0_492 mvJ0_isLatin1_aae02 rfl rfl hX hi (by decide) (by decide) (Nat.le_of_ble_eq_true rfl) (cJ_isLatin1 hX hi) rfl (fun r h2 q => ?_)
  obtain ⟨rfl, rfl⟩ := q
  refine xe_if_eq (tgt := 23) dJ0_indexOf_7cf53_4 rfl (fun q => absurd q (by decide)) (fun _ => ?_)
  refine xe_aload_n dJ0_indexOf_7cf53_7 rfl ?_
  refine xe_getO dJ0_indexOf_7cf53_8 fJ_9 (v := .ref (1000000000 + (2 * i + 1))) (os_val hX hi) ?_
  refine xe_iload_n dJ0_indexOf_7cf53_11 rfl ?_
  refine xe_iload_n dJ0_indexOf_7cf53_12 rfl ?_
  refine xe_aload_n dJ0_indexOf_7cf53_13 rfl ?_
  refine xe_callVO (d' := 1) (y' := mJ0_length_8abf5) (as := []) (rest := [.int (nI 0), .int (nI n), .ref (1000000000 + (2 * i + 1))]) dJ0_indexOf_7cf53_14 mlJ0_505 mvJ0_length_8abf5 rfl rfl hX hi (by decide) (by decide) (Nat.le_of_ble_eq_true rfl) (cJ_length hX hi) rfl (fun r h2 q => ?_)
  obtain ⟨rfl, rfl⟩ := q
  refine xe_callS (d' := 1) (y' := mJ1_indexOf_4cfef) (as := [.ref (1000000000 + (2 * i + 1)), .int (nI n), .int (nI 0), .int (nI (os_n i))]) (rest := []) dJ0_indexOf_7cf53_17 mlJ0_637 msJ1_indexOf_4cfef rfl (by decide) (by decide) (Nat.le_of_ble_eq_true rfl) (cJ_ix4 hX hi hn h0) rfl (fun r h2 q => ?_)
  obtain ⟨⟨v, rfl, q⟩, rfl⟩ := q
  refine xe_goto (tgt := 36) dJ0_indexOf_7cf53_20 rfl ?_
  refine xe_ireturn dJ0_indexOf_7cf53_36 rfl rfl ?_
  exact ⟨⟨v, rfl, q⟩, rfl⟩
theorem cJ_indexOf (hX : q_GX g LL xs) {i n : Nat} (hi : i < 2) (hn : n < 256) (h0 : 0 < os_n i) : q_Ct l g 3 mJ0_indexOf_0f7a4 [.ref (1000000000 + 2 * i), .int (nI n)] h (fun r h1 => (∃ v : Int32, r = some (.int v) ∧ os_in i n v) ∧ h1 = h) := by
  refine q_CtV mvJ0_indexOf_0f7a4 (Nat.le_of_ble_eq_true rfl) ?_
  refine xe_aload_n dJ0_indexOf_0f7a4_0 rfl ?_
  refine xe_iload_n dJ0_indexOf_0f7a4_1 rfl ?_
  refine xe_iconst dJ0_indexOf_0f7a4_2 kc_0 ?_
  refine xe_callVO (d' := 2) (y' := mJ0_indexOf_7cf53) (as := [.int (nI n), .int (nI 0)]) (rest := []) dJ0_indexOf_0f7a4_3 mlJ0_633 mvJ0_indexOf_7cf53 rfl rfl hX hi (by decide) (by decide) (Nat.le_of_ble_eq_true rfl) (cJ_ix2 hX hi hn h0) rfl (fun r h2 q => ?_)
  obtain ⟨⟨v, rfl, q⟩, rfl⟩ := q
  refine xe_ireturn dJ0_indexOf_0f7a4_6 rfl rfl ?_
  exact ⟨⟨v, rfl, q⟩, rfl⟩
end
