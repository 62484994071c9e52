/-! the reference: small calls -/
def q_isN (x : Int32) (n : Nat) : Prop := 0 ≤ x ∧ x < nI n
theorem q_isN_of {x : Int32} {n : Nat} (hn : n < 2 ^ 31) (h : q_isN x n) : ∃ k, k < n ∧ x = nI k := by
  obtain ⟨k, hk, rfl⟩ := nI_of (x := x) (Int32.not_lt.mpr h.1)
  exact ⟨k, (nI_ltI hk hn).mp h.2, rfl⟩
theorem q_isN_nI {k n : Nat} (hn : n < 2 ^ 31) (h : k < n) : q_isN (nI k) n := ⟨nI_pos' (by omega), (nI_ltI (by omega) hn).mpr h⟩
theorem q_ltn_t {k n : Nat} (hn : n < 2 ^ 31) (h : k < n) : q_ltn (nI k) n = nI 1 := by
  unfold q_ltn q_in
  have e : nI n - nI 1 = nI (n - 1) := pk_sub (by omega)
  rw [e, if_neg, if_neg]
  · exact nI_nlt (by omega) (by omega)
  · exact nI_pos (by omega)
theorem q_ltn_f {x : Int32} {n : Nat} (hn : n < 2 ^ 31) (h : ¬ q_isN x n) : q_ltn x n = nI 0 := by
  unfold q_ltn q_in
  by_cases h0 : x < nI 0
  · rw [if_pos h0]
  · rw [if_neg h0]
    obtain ⟨k, hk, rfl⟩ := nI_of (x := x) h0
    have hkn : ¬ k < n := fun q => h (q_isN_nI hn q)
    rcases Nat.eq_zero_or_pos n with rfl | hp
    · have e : nI 0 - nI 1 < nI k := by
        have h1 : nI 0 - nI 1 < nI 0 := by decide
        have h2 : nI 0 ≤ nI k := nI_pos' hk
        exact Int32.lt_of_lt_of_le h1 h2
      rw [if_pos e]
    · have e : nI n - nI 1 = nI (n - 1) := pk_sub (by omega)
      rw [e, if_pos ((nI_ltI (by omega) hk).mpr (by omega))]
theorem q_isN_dec (x : Int32) (n : Nat) : q_isN x n ∨ ¬ q_isN x n := Classical.em _
theorem c_X10_isManv (l : Launch) (g : q_GP) (h : q_H) (hs : q_Stat h) {lv nm nd nc mo : Nat} (hp : rm_P h lv nm nd nc mo) (x : Int32) {v : Int32} (hv : q_ltn x nm = v) : q_Cd l g 1 mX10_isMan [.ref 124, .int x] h (some (.int v)) h := hv ▸ c_X10_isMan l g h hs hp x
theorem c_X10_isDeedv (l : Launch) (g : q_GP) (h : q_H) (hs : q_Stat h) {lv nm nd nc mo : Nat} (hp : rm_P h lv nm nd nc mo) (x : Int32) {v : Int32} (hv : q_ltn x nd = v) : q_Cd l g 1 mX10_isDeed [.ref 124, .int x] h (some (.int v)) h := hv ▸ c_X10_isDeed l g h hs hp x
def q_two (x z : Int32) (n : Nat) : Prop := q_isN x n ∧ q_isN z n ∧ ¬ x = z
theorem c_X10_areTwo_t (l : Launch) (g : q_GP) (h : q_H) (hs : q_Stat h) {lv nm nd nc mo : Nat} (hp : rm_P h lv nm nd nc mo) {a b : Nat} (ha : a < nm) (hb : b < nm) (hab : ¬ a = b) : q_Cd l g 2 mX10_areTwo [.ref 124, .int (nI a), .int (nI b)] h (some (.int (nI 1))) h := by
  obtain ⟨p1, p2, p3, p4, p5, p6, p7, p8, p9, p10⟩ := id hp
  have h1 := q_ltn_t (by omega : nm < 2 ^ 31) ha
  have h2 := q_ltn_t (by omega : nm < 2 ^ 31) hb
  refine q_CdV mvX10_areTwo (Nat.le_of_ble_eq_true rfl) ?_
  refine xe_aload_n dX10_areTwo_0 rfl ?_
  refine xe_iload_n dX10_areTwo_1 rfl ?_
  refine xe_callVI (d' := 1) (y' := mX10_isMan) dX10_areTwo_2 mlX10_340 mvX10_isMan rfl (st124 hs) (by decide) rfl (by decide) (by decide) (Nat.le_of_ble_eq_true rfl) (c_X10_isManv l g _ (by exact hs) (by exact hp) _ (by assumption)) rfl ?_
  refine xn_if_eq (tgt := 25) dX10_areTwo_5 rfl (by omega) (fun c1 => ?_) (fun c1 => ?_)
  · omega
  · refine xe_aload_n dX10_areTwo_8 rfl ?_
    refine xe_iload_n dX10_areTwo_9 rfl ?_
    refine xe_callVI (d' := 1) (y' := mX10_isMan) dX10_areTwo_10 mlX10_340 mvX10_isMan rfl (st124 hs) (by decide) rfl (by decide) (by decide) (Nat.le_of_ble_eq_true rfl) (c_X10_isManv l g _ (by exact hs) (by exact hp) _ (by assumption)) rfl ?_
    refine xn_if_eq (tgt := 25) dX10_areTwo_13 rfl (by omega) (fun c2 => ?_) (fun c2 => ?_)
    · omega
    · refine xe_iload_n dX10_areTwo_16 rfl ?_
      refine xe_iload_n dX10_areTwo_17 rfl ?_
      refine xn_icmp_eq (tgt := 25) dX10_areTwo_18 rfl (by omega) (by omega) (fun c3 => ?_) (fun c3 => ?_)
      · omega
      · refine xe_iconst dX10_areTwo_21 kc_1 ?_
        refine xe_goto (tgt := 26) dX10_areTwo_22 rfl ?_
        refine xe_ireturn dX10_areTwo_26 rfl (by first | rfl | decide +kernel) ?_
        exact ⟨rfl, rfl⟩
theorem c_X10_areTwo_f (l : Launch) (g : q_GP) (h : q_H) (hs : q_Stat h) {lv nm nd nc mo : Nat} (hp : rm_P h lv nm nd nc mo) (x z : Int32) (hxz : ¬ q_two x z nm) : q_Cd l g 2 mX10_areTwo [.ref 124, .int x, .int z] h (some (.int (nI 0))) h := by
  obtain ⟨p1, p2, p3, p4, p5, p6, p7, p8, p9, p10⟩ := id hp
  by_cases h1 : q_isN x nm
  · have e1 : q_ltn x nm = nI 1 := by
      obtain ⟨k, hk, rfl⟩ := q_isN_of (by omega) h1
      exact q_ltn_t (by omega) hk
    by_cases h2 : q_isN z nm
    · have e2 : q_ltn z nm = nI 1 := by
        obtain ⟨k, hk, rfl⟩ := q_isN_of (by omega) h2
        exact q_ltn_t (by omega) hk
      have h3 : x = z := Classical.not_not.mp (fun q => hxz ⟨h1, h2, q⟩)
      refine q_CdV mvX10_areTwo (Nat.le_of_ble_eq_true rfl) ?_
      refine xe_aload_n dX10_areTwo_0 rfl ?_
      refine xe_iload_n dX10_areTwo_1 rfl ?_
      refine xe_callVI (d' := 1) (y' := mX10_isMan) dX10_areTwo_2 mlX10_340 mvX10_isMan rfl (st124 hs) (by decide) rfl (by decide) (by decide) (Nat.le_of_ble_eq_true rfl) (c_X10_isManv l g _ (by exact hs) (by exact hp) _ (by assumption)) rfl ?_
      refine xn_if_eq (tgt := 25) dX10_areTwo_5 rfl (by omega) (fun c1 => ?_) (fun c1 => ?_)
      · omega
      · refine xe_aload_n dX10_areTwo_8 rfl ?_
        refine xe_iload_n dX10_areTwo_9 rfl ?_
        refine xe_callVI (d' := 1) (y' := mX10_isMan) dX10_areTwo_10 mlX10_340 mvX10_isMan rfl (st124 hs) (by decide) rfl (by decide) (by decide) (Nat.le_of_ble_eq_true rfl) (c_X10_isManv l g _ (by exact hs) (by exact hp) _ (by assumption)) rfl ?_
        refine xn_if_eq (tgt := 25) dX10_areTwo_13 rfl (by omega) (fun c2 => ?_) (fun c2 => ?_)
        · omega
        · refine xe_iload_n dX10_areTwo_16 rfl ?_
          refine xe_iload_n dX10_areTwo_17 rfl ?_
          refine xe_icmp_eq (tgt := 25) dX10_areTwo_18 rfl (fun c3 => ?_) (fun c3 => ?_)
          · refine xe_iconst dX10_areTwo_25 kc_0 ?_
            refine xe_ireturn dX10_areTwo_26 rfl (by first | rfl | decide +kernel) ?_
            exact ⟨rfl, rfl⟩
          · exact absurd h3 c3
    · have e2 := q_ltn_f (by omega : nm < 2 ^ 31) h2
      refine q_CdV mvX10_areTwo (Nat.le_of_ble_eq_true rfl) ?_
      refine xe_aload_n dX10_areTwo_0 rfl ?_
      refine xe_iload_n dX10_areTwo_1 rfl ?_
      refine xe_callVI (d' := 1) (y' := mX10_isMan) dX10_areTwo_2 mlX10_340 mvX10_isMan rfl (st124 hs) (by decide) rfl (by decide) (by decide) (Nat.le_of_ble_eq_true rfl) (c_X10_isManv l g _ (by exact hs) (by exact hp) _ (by assumption)) rfl ?_
      refine xn_if_eq (tgt := 25) dX10_areTwo_5 rfl (by omega) (fun c1 => ?_) (fun c1 => ?_)
      · omega
      · refine xe_aload_n dX10_areTwo_8 rfl ?_
        refine xe_iload_n dX10_areTwo_9 rfl ?_
        refine xe_callVI (d' := 1) (y' := mX10_isMan) dX10_areTwo_10 mlX10_340 mvX10_isMan rfl (st124 hs) (by decide) rfl (by decide) (by decide) (Nat.le_of_ble_eq_true rfl) (c_X10_isManv l g _ (by exact hs) (by exact hp) _ (by assumption)) rfl ?_
        refine xn_if_eq (tgt := 25) dX10_areTwo_13 rfl (by omega) (fun c2 => ?_) (fun c2 => ?_)
        · refine xe_iconst dX10_areTwo_25 kc_0 ?_
          refine xe_ireturn dX10_areTwo_26 rfl (by first | rfl | decide +kernel) ?_
          exact ⟨rfl, rfl⟩
        · omega
  · have e1 := q_ltn_f (by omega : nm < 2 ^ 31) h1
    refine q_CdV mvX10_areTwo (Nat.le_of_ble_eq_true rfl) ?_
    refine xe_aload_n dX10_areTwo_0 rfl ?_
    refine xe_iload_n dX10_areTwo_1 rfl ?_
    refine xe_callVI (d' := 1) (y' := mX10_isMan) dX10_areTwo_2 mlX10_340 mvX10_isMan rfl (st124 hs) (by decide) rfl (by decide) (by decide) (Nat.le_of_ble_eq_true rfl) (c_X10_isManv l g _ (by exact hs) (by exact hp) _ (by assumption)) rfl ?_
    refine xn_if_eq (tgt := 25) dX10_areTwo_5 rfl (by omega) (fun c1 => ?_) (fun c1 => ?_)
    · refine xe_iconst dX10_areTwo_25 kc_0 ?_
      refine xe_ireturn dX10_areTwo_26 rfl (by first | rfl | decide +kernel) ?_
      exact ⟨rfl, rfl⟩
    · omega
theorem q_nIm1 {a : Nat} (ha : a < 2 ^ 31) : ¬ nI a = -1 := by
  intro h
  have h1 := congrArg Int32.toInt h
  rw [nI_toInt ha] at h1
  have h2 : (-1 : Int32).toInt = -1 := by decide
  omega
theorem c_X10_led_t (l : Launch) (g : q_GP) (h : q_H) (hs : q_Stat h) {lv nm nd nc mo : Nat} (hp : rm_P h lv nm nd nc mo) {a b : Nat} (ha : a < nm) (hb : b < nm) : q_Cd l g 2 mX10_led [.ref 124, .int (nI a), .int (nI b)] h (some (.int (q_I h 154 (8 * a + b)))) h := by
  obtain ⟨p1, p2, p3, p4, p5, p6, p7, p8, p9, p10⟩ := id hp
  have h1 := q_ltn_t (by omega : nm < 2 ^ 31) ha
  have h2 := q_ltn_t (by omega : nm < 2 ^ 31) hb
  refine q_CdV mvX10_led (Nat.le_of_ble_eq_true rfl) ?_
  refine xe_iload_n dX10_led_0 rfl ?_
  refine xe_iconst dX10_led_1 kc_m1 ?_
  refine xe_icmp_eq (tgt := 13) dX10_led_2 rfl (fun c1 => ?_) (fun c1 => ?_)
  · exact absurd c1 (q_nIm1 (by omega))
  · refine xe_aload_n dX10_led_5 rfl ?_
    refine xe_iload_n dX10_led_6 rfl ?_
    refine xe_callVI (d' := 1) (y' := mX10_isMan) dX10_led_7 mlX10_340 mvX10_isMan rfl (st124 hs) (by decide) rfl (by decide) (by decide) (Nat.le_of_ble_eq_true rfl) (c_X10_isManv l g _ (by exact hs) (by exact hp) _ (by assumption)) rfl ?_
    refine xn_if_eq (tgt := 21) dX10_led_10 rfl (by omega) (fun c2 => ?_) (fun c2 => ?_)
    · omega
    · refine xe_aload_n dX10_led_13 rfl ?_
      refine xe_iload_n dX10_led_14 rfl ?_
      refine xe_callVI (d' := 1) (y' := mX10_isMan) dX10_led_15 mlX10_340 mvX10_isMan rfl (st124 hs) (by decide) rfl (by decide) (by decide) (Nat.le_of_ble_eq_true rfl) (c_X10_isManv l g _ (by exact hs) (by exact hp) _ (by assumption)) rfl ?_
      refine xn_if_ne (tgt := 23) dX10_led_18 rfl (by omega) (fun c3 => ?_) (fun c3 => ?_)
      · refine xe_aload_n dX10_led_23 rfl ?_
        refine xe_getP dX10_led_24 flX10_107 (st124 hs) (by decide) rfl (sp124_47 hs) ?_
        refine xe_bipush dX10_led_27 kb_8 ?_
        refine xe_iload_n dX10_led_29 rfl ?_
        refine xe_iconst dX10_led_30 kc_m1 ?_
        refine xe_icmp_ne (tgt := 39) dX10_led_31 rfl (fun c4 => ?_) (fun c4 => ?_)
        · refine xe_iload_n dX10_led_39 rfl ?_
          refine xn_imul dX10_led_40 ?_
          refine xe_iload_n dX10_led_41 rfl ?_
          refine xn_iadd dX10_led_42 ?_
          refine xn_ialdf dX10_led_43 (st154 hs) (by omega) (by decide) (f := q_I h 154) rfl ?_
          refine xe_ireturn dX10_led_44 rfl (by first | rfl | decide +kernel) ?_
          exact ⟨rfl, rfl⟩
        · exact absurd c4 (q_nIm1 (by omega))
      · omega
theorem c_X10_led_c (l : Launch) (g : q_GP) (h : q_H) (hs : q_Stat h) {lv nm nd nc mo : Nat} (hp : rm_P h lv nm nd nc mo) {b : Nat} (hb : b < nm) : q_Cd l g 2 mX10_led [.ref 124, .int (-1), .int (nI b)] h (some (.int (q_I h 154 (64 + b)))) h := by
  obtain ⟨p1, p2, p3, p4, p5, p6, p7, p8, p9, p10⟩ := id hp
  have h2 := q_ltn_t (by omega : nm < 2 ^ 31) hb
  refine q_CdV mvX10_led (Nat.le_of_ble_eq_true rfl) ?_
  refine xe_iload_n dX10_led_0 rfl ?_
  refine xe_iconst dX10_led_1 kc_m1 ?_
  refine xe_icmp_eq (tgt := 13) dX10_led_2 rfl (fun c1 => ?_) (fun c1 => ?_)
  · refine xe_aload_n dX10_led_13 rfl ?_
    refine xe_iload_n dX10_led_14 rfl ?_
    refine xe_callVI (d' := 1) (y' := mX10_isMan) dX10_led_15 mlX10_340 mvX10_isMan rfl (st124 hs) (by decide) rfl (by decide) (by decide) (Nat.le_of_ble_eq_true rfl) (c_X10_isManv l g _ (by exact hs) (by exact hp) _ (by assumption)) rfl ?_
    refine xn_if_ne (tgt := 23) dX10_led_18 rfl (by omega) (fun c2 => ?_) (fun c2 => ?_)
    · refine xe_aload_n dX10_led_23 rfl ?_
      refine xe_getP dX10_led_24 flX10_107 (st124 hs) (by decide) rfl (sp124_47 hs) ?_
      refine xe_bipush dX10_led_27 kb_8 ?_
      refine xe_iload_n dX10_led_29 rfl ?_
      refine xe_iconst dX10_led_30 kc_m1 ?_
      refine xe_icmp_ne (tgt := 39) dX10_led_31 rfl (fun c3 => ?_) (fun c3 => ?_)
      · exact absurd rfl c3
      · refine xe_bipush dX10_led_34 kb_8 ?_
        refine xe_goto (tgt := 40) dX10_led_36 rfl ?_
        refine xn_imul dX10_led_40 ?_
        refine xe_iload_n dX10_led_41 rfl ?_
        refine xn_iadd dX10_led_42 ?_
        refine xn_ialdf dX10_led_43 (st154 hs) (by omega) (by decide) (f := q_I h 154) rfl ?_
        refine xe_ireturn dX10_led_44 rfl (by first | rfl | decide +kernel) ?_
        exact ⟨rfl, rfl⟩
    · omega
  · exact absurd rfl c1
theorem c_X10_led_f (l : Launch) (g : q_GP) (h : q_H) (hs : q_Stat h) {lv nm nd nc mo : Nat} (hp : rm_P h lv nm nd nc mo) (x z : Int32) (hxz : ¬ (q_isN z nm ∧ (x = -1 ∨ q_isN x nm))) : q_Cd l g 2 mX10_led [.ref 124, .int x, .int z] h (some (.int (-1))) h := by
  obtain ⟨p1, p2, p3, p4, p5, p6, p7, p8, p9, p10⟩ := id hp
  by_cases h1 : x = -1
  · have e2 := q_ltn_f (by omega : nm < 2 ^ 31) (fun q => hxz ⟨q, Or.inl h1⟩)
    refine q_CdV mvX10_led (Nat.le_of_ble_eq_true rfl) ?_
    refine xe_iload_n dX10_led_0 rfl ?_
    refine xe_iconst dX10_led_1 kc_m1 ?_
    refine xe_icmp_eq (tgt := 13) dX10_led_2 rfl (fun c1 => ?_) (fun c1 => ?_)
    · refine xe_aload_n dX10_led_13 rfl ?_
      refine xe_iload_n dX10_led_14 rfl ?_
      refine xe_callVI (d' := 1) (y' := mX10_isMan) dX10_led_15 mlX10_340 mvX10_isMan rfl (st124 hs) (by decide) rfl (by decide) (by decide) (Nat.le_of_ble_eq_true rfl) (c_X10_isManv l g _ (by exact hs) (by exact hp) _ (by assumption)) rfl ?_
      refine xn_if_ne (tgt := 23) dX10_led_18 rfl (by omega) (fun c2 => ?_) (fun c2 => ?_)
      · omega
      · refine xe_iconst dX10_led_21 kc_m1 ?_
        refine xe_ireturn dX10_led_22 rfl (by first | rfl | decide +kernel) ?_
        exact ⟨rfl, rfl⟩
    · exact absurd h1 c1
  · by_cases h2 : q_isN x nm
    · have e1 : q_ltn x nm = nI 1 := by
        obtain ⟨k, hk, rfl⟩ := q_isN_of (by omega) h2
        exact q_ltn_t (by omega) hk
      have e2 := q_ltn_f (by omega : nm < 2 ^ 31) (fun q => hxz ⟨q, Or.inr h2⟩)
      refine q_CdV mvX10_led (Nat.le_of_ble_eq_true rfl) ?_
      refine xe_iload_n dX10_led_0 rfl ?_
      refine xe_iconst dX10_led_1 kc_m1 ?_
      refine xe_icmp_eq (tgt := 13) dX10_led_2 rfl (fun c1 => ?_) (fun c1 => ?_)
      · exact absurd c1 h1
      · refine xe_aload_n dX10_led_5 rfl ?_
        refine xe_iload_n dX10_led_6 rfl ?_
        refine xe_callVI (d' := 1) (y' := mX10_isMan) dX10_led_7 mlX10_340 mvX10_isMan rfl (st124 hs) (by decide) rfl (by decide) (by decide) (Nat.le_of_ble_eq_true rfl) (c_X10_isManv l g _ (by exact hs) (by exact hp) _ (by assumption)) rfl ?_
        refine xn_if_eq (tgt := 21) dX10_led_10 rfl (by omega) (fun c2 => ?_) (fun c2 => ?_)
        · omega
        · refine xe_aload_n dX10_led_13 rfl ?_
          refine xe_iload_n dX10_led_14 rfl ?_
          refine xe_callVI (d' := 1) (y' := mX10_isMan) dX10_led_15 mlX10_340 mvX10_isMan rfl (st124 hs) (by decide) rfl (by decide) (by decide) (Nat.le_of_ble_eq_true rfl) (c_X10_isManv l g _ (by exact hs) (by exact hp) _ (by assumption)) rfl ?_
          refine xn_if_ne (tgt := 23) dX10_led_18 rfl (by omega) (fun c3 => ?_) (fun c3 => ?_)
          · omega
          · refine xe_iconst dX10_led_21 kc_m1 ?_
            refine xe_ireturn dX10_led_22 rfl (by first | rfl | decide +kernel) ?_
            exact ⟨rfl, rfl⟩
    · have e1 := q_ltn_f (by omega : nm < 2 ^ 31) h2
      refine q_CdV mvX10_led (Nat.le_of_ble_eq_true rfl) ?_
      refine xe_iload_n dX10_led_0 rfl ?_
      refine xe_iconst dX10_led_1 kc_m1 ?_
      refine xe_icmp_eq (tgt := 13) dX10_led_2 rfl (fun c1 => ?_) (fun c1 => ?_)
      · exact absurd c1 h1
      · refine xe_aload_n dX10_led_5 rfl ?_
        refine xe_iload_n dX10_led_6 rfl ?_
        refine xe_callVI (d' := 1) (y' := mX10_isMan) dX10_led_7 mlX10_340 mvX10_isMan rfl (st124 hs) (by decide) rfl (by decide) (by decide) (Nat.le_of_ble_eq_true rfl) (c_X10_isManv l g _ (by exact hs) (by exact hp) _ (by assumption)) rfl ?_
        refine xn_if_eq (tgt := 21) dX10_led_10 rfl (by omega) (fun c2 => ?_) (fun c2 => ?_)
        · refine xe_iconst dX10_led_21 kc_m1 ?_
          refine xe_ireturn dX10_led_22 rfl (by first | rfl | decide +kernel) ?_
          exact ⟨rfl, rfl⟩
        · omega
theorem c_X10_debt_t (l : Launch) (g : q_GP) (h : q_H) (hs : q_Stat h) {lv nm nd nc mo : Nat} (hp : rm_P h lv nm nd nc mo) {a b : Nat} (ha : a < nm) (hb : b < nm) (hab : ¬ a = b) : q_Cd l g 3 mX10_debt [.ref 124, .int (nI a), .int (nI b)] h (some (.int (q_I h 154 (72 + 8 * a + b)))) h := by
  obtain ⟨p1, p2, p3, p4, p5, p6, p7, p8, p9, p10⟩ := id hp
  refine q_CdV mvX10_debt (Nat.le_of_ble_eq_true rfl) ?_
  refine xe_aload_n dX10_debt_0 rfl ?_
  refine xe_iload_n dX10_debt_1 rfl ?_
  refine xe_iload_n dX10_debt_2 rfl ?_
  refine xe_callVI (d' := 2) (y' := mX10_areTwo) dX10_debt_3 mlX10_355 mvX10_areTwo rfl (st124 hs) (by decide) rfl (by decide) (by decide) (Nat.le_of_ble_eq_true rfl) (c_X10_areTwo_t l g _ (by exact hs) (by exact hp) (by omega) (by omega) (by omega)) rfl ?_
  refine xn_if_eq (tgt := 26) dX10_debt_6 rfl (by omega) (fun c1 => ?_) (fun c1 => ?_)
  · omega
  · refine xe_aload_n dX10_debt_9 rfl ?_
    refine xe_getP dX10_debt_10 flX10_107 (st124 hs) (by decide) rfl (sp124_47 hs) ?_
    refine xe_bipush dX10_debt_13 kb_72 ?_
    refine xe_bipush dX10_debt_15 kb_8 ?_
    refine xe_iload_n dX10_debt_17 rfl ?_
    refine xn_imul dX10_debt_18 ?_
    refine xn_iadd dX10_debt_19 ?_
    refine xe_iload_n dX10_debt_20 rfl ?_
    refine xn_iadd dX10_debt_21 ?_
    refine xn_ialdf dX10_debt_22 (st154 hs) (by omega) (by decide) (f := q_I h 154) rfl ?_
    refine xe_goto (tgt := 27) dX10_debt_23 rfl ?_
    refine xe_ireturn dX10_debt_27 rfl (by first | rfl | decide +kernel) ?_
    exact ⟨rfl, rfl⟩
theorem c_X10_debt_f (l : Launch) (g : q_GP) (h : q_H) (hs : q_Stat h) {lv nm nd nc mo : Nat} (hp : rm_P h lv nm nd nc mo) (x z : Int32) (hxz : ¬ q_two x z nm) : q_Cd l g 3 mX10_debt [.ref 124, .int x, .int z] h (some (.int (-1))) h := by
  obtain ⟨p1, p2, p3, p4, p5, p6, p7, p8, p9, p10⟩ := id hp
  refine q_CdV mvX10_debt (Nat.le_of_ble_eq_true rfl) ?_
  refine xe_aload_n dX10_debt_0 rfl ?_
  refine xe_iload_n dX10_debt_1 rfl ?_
  refine xe_iload_n dX10_debt_2 rfl ?_
  refine xe_callVI (d' := 2) (y' := mX10_areTwo) dX10_debt_3 mlX10_355 mvX10_areTwo rfl (st124 hs) (by decide) rfl (by decide) (by decide) (Nat.le_of_ble_eq_true rfl) (c_X10_areTwo_f l g _ (by exact hs) (by exact hp) _ _ hxz) rfl ?_
  refine xn_if_eq (tgt := 26) dX10_debt_6 rfl (by omega) (fun c1 => ?_) (fun c1 => ?_)
  · refine xe_iconst dX10_debt_26 kc_m1 ?_
    refine xe_ireturn dX10_debt_27 rfl (by first | rfl | decide +kernel) ?_
    exact ⟨rfl, rfl⟩
  · omega
/-- a row written from 0 on -/
def q_fil (f g : Nat → Int32) (n : Nat) : Nat → Int32 := fun k => if k < n then f k else g k
theorem q_fil0 (f g : Nat → Int32) : q_fil f g 0 = g := by
  funext k
  simp [q_fil]
theorem q_filS (f g : Nat → Int32) (n : Nat) : upd (q_fil f g n) n (f n) = q_fil f g (n + 1) := q_cpyS f g n
theorem c_X10_fillsHave (l : Launch) (g : q_GP) (h : q_H) (hs : q_Stat h) : q_Cd l g 1 mX10_fillsHave [.ref 124] h none (q_wI h 156 (q_fil (fun k => q_s8 (q_I h 155) (8 * k)) (q_I h 156) 8)) := by
  refine q_CdV mvX10_fillsHave (Nat.le_of_ble_eq_true rfl) ?_
  refine xe_iconst dX10_fillsHave_0 kc_0 ?_
  refine xe_istore_n (i := 1) dX10_fillsHave_1 rfl (by decide) rfl ?_
  refine xe_locals (L' := (fun i => [(0, .ref 124), (1, .int (nI i))]) 0) (And.intro rfl (And.intro rfl trivial)) ?_
  refine xe_heap (h2 := q_wI h 156 (q_fil (fun k => q_s8 (q_I h 155) (8 * k)) (q_I h 156) 0)) (by rw [q_fil0, q_wsI]) ?_
  refine xe_for 8 (fun i => [(0, .ref 124), (1, .int (nI i))]) (fun i => q_wI h 156 (q_fil (fun k => q_s8 (q_I h 155) (8 * k)) (q_I h 156) i)) (fun i hi K => ?_) ?_
  · refine xe_iload_n dX10_fillsHave_2 rfl ?_
    refine xe_bipush dX10_fillsHave_3 kb_8 ?_
    refine xn_icmp_ge (tgt := 25) dX10_fillsHave_5 rfl (by omega) (by omega) (fun c1 => ?_) (fun c1 => ?_)
    · omega
    · refine xe_aload_n dX10_fillsHave_8 rfl ?_
      refine xe_getP dX10_fillsHave_9 flX10_113 (st124 hs) (by decide) rfl (sp124_49 hs) ?_
      refine xe_iload_n dX10_fillsHave_12 rfl ?_
      refine xe_aload_n dX10_fillsHave_13 rfl ?_
      refine xe_iload_n dX10_fillsHave_14 rfl ?_
      refine xe_callVI (d' := 0) (y' := mX10_haveOf) dX10_fillsHave_15 mlX10_319 mvX10_haveOf rfl (st124 hs) (by decide) rfl (by decide) (by decide) (Nat.le_of_ble_eq_true rfl) (c_X10_haveOf l g _ (by exact hs) _ (by omega)) rfl ?_
      refine xn_iast dX10_fillsHave_18 (st156 hs) (by omega) (by decide) ?_
      refine xn_iinc dX10_fillsHave_19 rfl kc_1 ?_
      refine xe_goto (tgt := 2) dX10_fillsHave_22 rfl ?_
      refine xe_heap (h2 := q_wI h 156 (q_fil (fun k => q_s8 (q_I h 155) (8 * k)) (q_I h 156) (i + 1))) (by rw [q_wup]; exact congrArg (q_wI h 156) (q_filS (fun k => q_s8 (q_I h 155) (8 * k)) (q_I h 156) i)) ?_
      refine xe_locals (L' := (fun i => [(0, .ref 124), (1, .int (nI i))]) (i + 1)) (And.intro rfl (And.intro rfl trivial)) ?_
      exact K
  · refine xe_iload_n dX10_fillsHave_2 rfl ?_
    refine xe_bipush dX10_fillsHave_3 kb_8 ?_
    refine xn_icmp_ge (tgt := 25) dX10_fillsHave_5 rfl (by omega) (by omega) (fun c2 => ?_) (fun c2 => ?_)
    · refine xe_return dX10_fillsHave_25 rfl ?_
      exact ⟨rfl, rfl⟩
    · omega
theorem c_X10_place (l : Launch) (g : q_GP) (h : q_H) (hs : q_Stat h) : q_Cd l g 0 mX10_place [.ref 124] h (some (.int (q_I h 124 17))) h := by
  refine q_CdV mvX10_place (Nat.le_of_ble_eq_true rfl) ?_
  refine xe_aload_n dX10_place_0 rfl ?_
  refine xe_getIv dX10_place_1 flX10_37 (st124 hs) (by decide) rfl (v := q_I h 124 17) rfl ?_
  refine xe_ireturn dX10_place_4 rfl (by first | rfl | decide +kernel) ?_
  exact ⟨rfl, rfl⟩
theorem c_X10_forget (l : Launch) (g : q_GP) (h : q_H) (hs : q_Stat h) : q_Cd l g 0 mX10_forget [.ref 124] h (some (.int (q_I h 124 62))) (q_wI h 124 (upd (q_I h 124) 62 (nI 0))) := by
  refine q_CdV mvX10_forget (Nat.le_of_ble_eq_true rfl) ?_
  refine xe_aload_n dX10_forget_0 rfl ?_
  refine xe_getIv dX10_forget_1 flX10_249 (st124 hs) (by decide) rfl (v := q_I h 124 62) rfl ?_
  refine xe_istore_n (i := 1) dX10_forget_4 rfl (by decide) rfl ?_
  refine xe_aload_n dX10_forget_5 rfl ?_
  refine xe_iconst dX10_forget_6 kc_0 ?_
  refine xe_putI dX10_forget_7 flX10_249 (st124 hs) (by decide) rfl (Or.inl rfl) rfl rfl ?_
  refine xe_iload_n dX10_forget_10 rfl ?_
  refine xe_ireturn dX10_forget_11 rfl (by first | rfl | decide +kernel) ?_
  exact ⟨rfl, rfl⟩
theorem c_X10_bits (l : Launch) (g : q_GP) (h : q_H) (x : Int32) : q_Cd l g 0 mX10_bits [.int x] h (some (.int (q_sum (fun k => x >>> (nI k &&& 31) &&& nI 1) 8))) h := by
  refine q_CdS msX10_bits (Nat.le_of_ble_eq_true rfl) ?_
  refine xe_iconst dX10_bits_0 kc_0 ?_
  refine xe_istore_n (i := 1) dX10_bits_1 rfl (by decide) rfl ?_
  refine xe_iconst dX10_bits_2 kc_0 ?_
  refine xe_istore_n (i := 2) dX10_bits_3 rfl (by decide) rfl ?_
  refine xe_locals (L' := (fun i => [(0, .int x), (1, .int (q_sum (fun k => x >>> (nI k &&& 31) &&& nI 1) i)), (2, .int (nI i))]) 0) (And.intro rfl (And.intro rfl (And.intro rfl trivial))) ?_
  refine xe_for 8 (fun i => [(0, .int x), (1, .int (q_sum (fun k => x >>> (nI k &&& 31) &&& nI 1) i)), (2, .int (nI i))]) (fun _ => h) (fun i hi K => ?_) ?_
  · refine xe_iload_n dX10_bits_4 rfl ?_
    refine xe_bipush dX10_bits_5 kb_8 ?_
    refine xn_icmp_ge (tgt := 24) dX10_bits_7 rfl (by omega) (by omega) (fun c1 => ?_) (fun c1 => ?_)
    · omega
    · refine xe_iload_n dX10_bits_10 rfl ?_
      refine xe_iload_n dX10_bits_11 rfl ?_
      refine xe_iload_n dX10_bits_12 rfl ?_
      refine xe_ishr dX10_bits_13 ?_
      refine xe_iconst dX10_bits_14 kc_1 ?_
      refine xe_iand dX10_bits_15 ?_
      refine xe_iadd dX10_bits_16 ?_
      refine xe_istore_n (i := 1) dX10_bits_17 rfl (by decide) rfl ?_
      refine xn_iinc dX10_bits_18 rfl kc_1 ?_
      refine xe_goto (tgt := 4) dX10_bits_21 rfl ?_
      refine xe_locals (L' := (fun i => [(0, .int x), (1, .int (q_sum (fun k => x >>> (nI k &&& 31) &&& nI 1) i)), (2, .int (nI i))]) (i + 1)) (And.intro rfl (And.intro rfl (And.intro rfl trivial))) ?_
      exact K
  · refine xe_iload_n dX10_bits_4 rfl ?_
    refine xe_bipush dX10_bits_5 kb_8 ?_
    refine xn_icmp_ge (tgt := 24) dX10_bits_7 rfl (by omega) (by omega) (fun c2 => ?_) (fun c2 => ?_)
    · refine xe_iload_n dX10_bits_24 rfl ?_
      refine xe_ireturn dX10_bits_25 rfl (by first | rfl | decide +kernel) ?_
      exact ⟨rfl, rfl⟩
    · omega
