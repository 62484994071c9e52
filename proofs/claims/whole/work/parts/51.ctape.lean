/-! the class: the tape, place -/
/-- n bytes come onto the class's tape -/
def q_tk (h : q_H) (f : Nat → Int32) (t n : Nat) : q_H := q_wI (q_wI h 1 (upd (q_I h 1) 1 (nI (t + n)))) 2 (q_put (q_I h 2) f t n)
theorem c_X7_append2 (l : Launch) (g : q_GP) (h : q_H) (hs : q_Stat h) {t : Nat} (ht : q_I h 1 1 = nI t) (ht2 : t + 4 ≤ 2000) (x : Int32) : q_Cd l g 0 mX7_append [.ref 1, .int x] h none (q_tk h (q_by x) t 4) := c_X7_append l g h hs ht ht2 x
theorem c_X9_feed_t (l : Launch) (g : q_GP) (h : q_H) (hs : q_Stat h) {t : Nat} (ht : q_I h 1 1 = nI t) (ht2 : t + 20 ≤ 2000) (a b c d e : Int32) : q_Cd l g 1 mX9_feed [.ref 0, .int a, .int b, .int c, .int d, .int e] h (some (.int (nI (t + 20)))) (q_tk (q_tk (q_tk (q_tk (q_tk h (q_by a) t 4) (q_by b) (t + 4) 4) (q_by c) (t + 4 + 4) 4) (q_by d) (t + 4 + 4 + 4) 4) (q_by e) (t + 4 + 4 + 4 + 4) 4) := by
  refine q_CdV mvX9_feed (Nat.le_of_ble_eq_true rfl) ?_
  refine xe_aload_n dX9_feed_0 rfl ?_
  refine xe_getP dX9_feed_1 flX9_12 (st0 hs) (by decide) rfl (sp0_0 hs) ?_
  refine xe_bipush dX9_feed_4 kb_20 ?_
  refine xe_callVI (d' := 0) (y' := mX7_hasRoomFor) dX9_feed_6 mlX9_89 mvX7_hasRoomFor rfl (st1 hs) (by decide) rfl (by decide) (by decide) (Nat.le_of_ble_eq_true rfl) (c_X7_hasRoomFor l g _ (by exact hs) ht (by omega)) rfl ?_
  refine xe_top (v' := nI 1) (if_pos (by omega)) ?_
  refine xn_if_ne (tgt := 14) dX9_feed_9 rfl (by omega) (fun c1 => ?_) (fun c1 => ?_)
  · refine xe_aload_n dX9_feed_14 rfl ?_
    refine xe_getP dX9_feed_15 flX9_12 (st0 hs) (by decide) rfl (sp0_0 hs) ?_
    refine xe_iload_n dX9_feed_18 rfl ?_
    refine xe_callVV (d' := 0) (y' := mX7_append) dX9_feed_19 mlX9_93 mvX7_append rfl (st1 hs) (by decide) rfl (by decide) (by decide) (Nat.le_of_ble_eq_true rfl) (c_X7_append2 l g _ (by exact hs) (t := t) (by first | exact ht | rfl) (by omega) _) rfl ?_
    refine xe_aload_n dX9_feed_22 rfl ?_
    refine xe_getP dX9_feed_23 flX9_12 (st0 hs) (by decide) rfl (sp0_0 hs) ?_
    refine xe_iload_n dX9_feed_26 rfl ?_
    refine xe_callVV (d' := 0) (y' := mX7_append) dX9_feed_27 mlX9_93 mvX7_append rfl (st1 hs) (by decide) rfl (by decide) (by decide) (Nat.le_of_ble_eq_true rfl) (c_X7_append2 l g _ (by exact hs) (t := t + 4) (by first | exact ht | rfl) (by omega) _) rfl ?_
    refine xe_aload_n dX9_feed_30 rfl ?_
    refine xe_getP dX9_feed_31 flX9_12 (st0 hs) (by decide) rfl (sp0_0 hs) ?_
    refine xe_iload_n dX9_feed_34 rfl ?_
    refine xe_callVV (d' := 0) (y' := mX7_append) dX9_feed_35 mlX9_93 mvX7_append rfl (st1 hs) (by decide) rfl (by decide) (by decide) (Nat.le_of_ble_eq_true rfl) (c_X7_append2 l g _ (by exact hs) (t := t + 4 + 4) (by first | exact ht | rfl) (by omega) _) rfl ?_
    refine xe_aload_n dX9_feed_38 rfl ?_
    refine xe_getP dX9_feed_39 flX9_12 (st0 hs) (by decide) rfl (sp0_0 hs) ?_
    refine xe_iload dX9_feed_42 rfl ?_
    refine xe_callVV (d' := 0) (y' := mX7_append) dX9_feed_44 mlX9_93 mvX7_append rfl (st1 hs) (by decide) rfl (by decide) (by decide) (Nat.le_of_ble_eq_true rfl) (c_X7_append2 l g _ (by exact hs) (t := t + 4 + 4 + 4) (by first | exact ht | rfl) (by omega) _) rfl ?_
    refine xe_aload_n dX9_feed_47 rfl ?_
    refine xe_getP dX9_feed_48 flX9_12 (st0 hs) (by decide) rfl (sp0_0 hs) ?_
    refine xe_iload dX9_feed_51 rfl ?_
    refine xe_callVV (d' := 0) (y' := mX7_append) dX9_feed_53 mlX9_93 mvX7_append rfl (st1 hs) (by decide) rfl (by decide) (by decide) (Nat.le_of_ble_eq_true rfl) (c_X7_append2 l g _ (by exact hs) (t := t + 4 + 4 + 4 + 4) (by first | exact ht | rfl) (by omega) _) rfl ?_
    refine xe_aload_n dX9_feed_56 rfl ?_
    refine xe_getP dX9_feed_57 flX9_12 (st0 hs) (by decide) rfl (sp0_0 hs) ?_
    refine xe_getIv dX9_feed_60 flX9_97 (st1 hs) (by decide) rfl (v := nI (t + 20)) (rfl) ?_
    refine xe_ireturn dX9_feed_63 rfl (by first | rfl | decide +kernel) ?_
    exact ⟨rfl, rfl⟩
  · omega
theorem c_X9_feed_f (l : Launch) (g : q_GP) (h : q_H) (hs : q_Stat h) {t : Nat} (ht : q_I h 1 1 = nI t) (ht2 : t ≤ 2000) (ht3 : 2000 < t + 20) (a b c d e : Int32) : q_Cd l g 1 mX9_feed [.ref 0, .int a, .int b, .int c, .int d, .int e] h (some (.int (-1))) h := by
  refine q_CdV mvX9_feed (Nat.le_of_ble_eq_true rfl) ?_
  refine xe_aload_n dX9_feed_0 rfl ?_
  refine xe_getP dX9_feed_1 flX9_12 (st0 hs) (by decide) rfl (sp0_0 hs) ?_
  refine xe_bipush dX9_feed_4 kb_20 ?_
  refine xe_callVI (d' := 0) (y' := mX7_hasRoomFor) dX9_feed_6 mlX9_89 mvX7_hasRoomFor rfl (st1 hs) (by decide) rfl (by decide) (by decide) (Nat.le_of_ble_eq_true rfl) (c_X7_hasRoomFor l g _ (by exact hs) ht (by omega)) rfl ?_
  refine xe_top (v' := nI 0) (if_neg (by omega)) ?_
  refine xn_if_ne (tgt := 14) dX9_feed_9 rfl (by omega) (fun c1 => ?_) (fun c1 => ?_)
  · omega
  · refine xe_iconst dX9_feed_12 kc_m1 ?_
    refine xe_ireturn dX9_feed_13 rfl (by first | rfl | decide +kernel) ?_
    exact ⟨rfl, rfl⟩
theorem c_X9_back_t (l : Launch) (g : q_GP) (h : q_H) (hs : q_Stat h) {t : Nat} (ht : q_I h 1 1 = nI t) (ht2 : t ≤ 2000) {k : Nat} (hk : k ≤ t) : q_Cd l g 0 mX9_back [.ref 0, .int (nI k)] h (some (.int (nI (t - k)))) (q_wI h 1 (upd (q_I h 1) 1 (nI (t - k)))) := by
  refine q_CdV mvX9_back (Nat.le_of_ble_eq_true rfl) ?_
  refine xe_iload_n dX9_back_0 rfl ?_
  refine xn_if_lt (tgt := 15) dX9_back_1 rfl (by omega) ?_
  refine xe_iload_n dX9_back_4 rfl ?_
  refine xe_aload_n dX9_back_5 rfl ?_
  refine xe_getP dX9_back_6 flX9_12 (st0 hs) (by decide) rfl (sp0_0 hs) ?_
  refine xe_getIv dX9_back_9 flX9_97 (st1 hs) (by decide) rfl (v := nI t) (ht) ?_
  refine xn_icmp_le (tgt := 17) dX9_back_12 rfl (by omega) (by omega) (fun c2 => ?_) (fun c2 => ?_)
  · refine xe_aload_n dX9_back_17 rfl ?_
    refine xe_getP dX9_back_18 flX9_12 (st0 hs) (by decide) rfl (sp0_0 hs) ?_
    refine xe_dup dX9_back_21 rfl ?_
    refine xe_getIv dX9_back_22 flX9_97 (st1 hs) (by decide) rfl (v := nI t) (ht) ?_
    refine xe_iload_n dX9_back_25 rfl ?_
    refine xn_isub dX9_back_26 (by omega) ?_
    refine xe_putI dX9_back_27 flX9_97 (st1 hs) (by decide) rfl (Or.inl rfl) rfl rfl ?_
    refine xe_aload_n dX9_back_30 rfl ?_
    refine xe_getP dX9_back_31 flX9_12 (st0 hs) (by decide) rfl (sp0_0 hs) ?_
    refine xe_getIv dX9_back_34 flX9_97 (st1 hs) (by decide) rfl (v := nI (t - k)) (rfl) ?_
    refine xe_ireturn dX9_back_37 rfl (by first | rfl | decide +kernel) ?_
    exact ⟨rfl, rfl⟩
  · omega
theorem c_X9_back_f (l : Launch) (g : q_GP) (h : q_H) (hs : q_Stat h) {t : Nat} (ht : q_I h 1 1 = nI t) (ht2 : t ≤ 2000) {x : Int32} (hx : ¬ ∃ k, 0 ≤ k ∧ k ≤ t ∧ x = nI k) : q_Cd l g 0 mX9_back [.ref 0, .int x] h (some (.int (-1))) h := by
  refine q_CdV mvX9_back (Nat.le_of_ble_eq_true rfl) ?_
  refine xe_iload_n dX9_back_0 rfl ?_
  refine xe_if_lt (tgt := 15) dX9_back_1 rfl (fun c_1 => ?_) (fun c_1 => ?_)
  · refine xe_iconst dX9_back_15 kc_m1 ?_
    refine xe_ireturn dX9_back_16 rfl (by first | rfl | decide +kernel) ?_
    exact ⟨rfl, rfl⟩
  · refine xe_iload_n dX9_back_4 rfl ?_
    refine xe_aload_n dX9_back_5 rfl ?_
    refine xe_getP dX9_back_6 flX9_12 (st0 hs) (by decide) rfl (sp0_0 hs) ?_
    refine xe_getIv dX9_back_9 flX9_97 (st1 hs) (by decide) rfl (v := nI t) (ht) ?_
    refine xe_icmp_le (tgt := 17) dX9_back_12 rfl (fun c1 => ?_) (fun c1 => ?_)
    · exact absurd (q_rng (Int32.not_lt.mp c_1) c1 (by omega)) hx
    · refine xe_iconst dX9_back_15 kc_m1 ?_
      refine xe_ireturn dX9_back_16 rfl (by first | rfl | decide +kernel) ?_
      exact ⟨rfl, rfl⟩
theorem c_X9_place (l : Launch) (g : q_GP) (h : q_H) (hs : q_Stat h) : q_Cd l g 0 mX9_place [.ref 0] h (some (.int (if q_I h 7 7 = 0 then (-1) else q_I h 7 8))) h := by
  refine q_CdV mvX9_place (Nat.le_of_ble_eq_true rfl) ?_
  refine xe_aload_n dX9_place_0 rfl ?_
  refine xe_getP dX9_place_1 flX9_19 (st0 hs) (by decide) rfl (sp0_1 hs) ?_
  refine xe_getIv dX9_place_4 flX9_108 (st7 hs) (by decide) rfl (v := (q_I h 7 7)) (rfl) ?_
  refine xe_if_ne (tgt := 14) dX9_place_7 rfl (fun c1 => ?_) (fun c1 => ?_)
  · refine xe_aload_n dX9_place_14 rfl ?_
    refine xe_getP dX9_place_15 flX9_19 (st0 hs) (by decide) rfl (sp0_1 hs) ?_
    refine xe_getIv dX9_place_18 flX9_128 (st7 hs) (by decide) rfl (v := (q_I h 7 8)) (rfl) ?_
    refine xe_ireturn dX9_place_21 rfl (by first | rfl | decide +kernel) ?_
    exact ⟨congrArg (fun v => some (Value.int v)) (if_neg c1).symm, rfl⟩
  · refine xe_iconst dX9_place_10 kc_m1 ?_
    refine xe_goto (tgt := 21) dX9_place_11 rfl ?_
    refine xe_ireturn dX9_place_21 rfl (by first | rfl | decide +kernel) ?_
    exact ⟨congrArg (fun v => some (Value.int v)) (if_pos c1).symm, rfl⟩
