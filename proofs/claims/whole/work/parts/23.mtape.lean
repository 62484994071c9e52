/-! the reference: the tape; warm, bald -/
def q_kI (i : Nat) : Int32 := Int32.ofInt (24 - 8 * (i : Int))
theorem q_kI_S {i : Nat} (h : i < 4) : q_kI i + Int32.ofInt (-8) = q_kI (i + 1) := by
  rcases (show i = 0 ∨ i = 1 ∨ i = 2 ∨ i = 3 by omega) with rfl | rfl | rfl | rfl <;> decide +kernel
theorem q_kI_p {i : Nat} (h : i < 4) : ¬ q_kI i < 0 := by
  rcases (show i = 0 ∨ i = 1 ∨ i = 2 ∨ i = 3 by omega) with rfl | rfl | rfl | rfl <;> decide +kernel
/-- byte i of an int, the highest first -/
def q_by (x : Int32) (i : Nat) : Int32 := (x >>> (q_kI i &&& 31)).toInt8.toInt32
/-- n bytes come onto the tape -/
def q_tp (h : q_H) (f : Nat → Int32) (t n : Nat) : q_H := q_wI (q_wI h 125 (q_put (q_I h 125) f t n)) 124 (upd (q_I h 124) 2 (nI (t + n)))
theorem q_tp_S (h : q_H) (f : Nat → Int32) (t n : Nat) : q_wI (q_wI (q_tp h f t n) 125 (upd (q_I (q_tp h f t n) 125) (t + n) (f n))) 124 (upd (q_I (q_wI (q_tp h f t n) 125 (upd (q_I (q_tp h f t n) 125) (t + n) (f n))) 124) 2 (nI (t + n + 1))) = q_tp h f t (n + 1) := by
  unfold q_tp
  have e1 : q_I (q_wI (q_wI h 125 (q_put (q_I h 125) f t n)) 124 (upd (q_I h 124) 2 (nI (t + n)))) 125 = q_put (q_I h 125) f t n := rfl
  rw [e1, q_w2 h (by decide), q_putS]
  have e2 : q_I (q_wI (q_wI h 125 (q_put (q_I h 125) f t (n + 1))) 124 (upd (q_I h 124) 2 (nI (t + n)))) 124 = upd (q_I h 124) 2 (nI (t + n)) := rfl
  rw [e2, q_upd_upd, q_wwI]
  rfl
theorem q_tp_0 (h : q_H) (f : Nat → Int32) {t : Nat} (ht : q_I h 124 2 = nI t) : q_tp h f t 0 = h := by
  unfold q_tp
  rw [q_put0, q_wsI, Nat.add_zero, q_upd_same ht, q_wsI]
theorem c_X10_put (l : Launch) (g : q_GP) (h : q_H) (hs : q_Stat h) {t : Nat} (ht : q_I h 124 2 = nI t) (ht2 : t + 4 ≤ 2000) (x : Int32) : q_Cd l g 0 mX10_put [.ref 124, .int x] h none (q_tp h (q_by x) t 4) := by
  refine q_CdV mvX10_put (Nat.le_of_ble_eq_true rfl) ?_
  refine xe_bipush dX10_put_0 kb_24 ?_
  refine xe_istore_n (i := 2) dX10_put_2 rfl (by decide) rfl ?_
  refine xe_locals (L' := (fun i => [(0, .ref 124), (1, .int x), (2, .int (q_kI i))]) 0) (And.intro rfl (And.intro rfl (And.intro rfl trivial))) ?_
  refine xe_heap (q_tp_0 h (q_by x) ht).symm ?_
  refine xe_for 4 (fun i => [(0, .ref 124), (1, .int x), (2, .int (q_kI i))]) (fun i => q_tp h (q_by x) t i) (fun i hi K => ?_) ?_
  · refine xe_iload_n dX10_put_3 rfl ?_
    refine xe_if_lt (tgt := 36) dX10_put_4 rfl (fun c1 => ?_) (fun c1 => ?_)
    · exact absurd c1 (q_kI_p hi)
    · refine xe_aload_n dX10_put_7 rfl ?_
      refine xe_getP dX10_put_8 flX10_13 (st124 hs) (by decide) rfl (sp124_1 hs) ?_
      refine xe_aload_n dX10_put_11 rfl ?_
      refine xe_getIv dX10_put_12 flX10_160 (st124 hs) (by decide) rfl (v := nI (t + i)) (rfl) ?_
      refine xe_iload_n dX10_put_15 rfl ?_
      refine xe_iload_n dX10_put_16 rfl ?_
      refine xe_ishr dX10_put_17 ?_
      refine xe_i2b dX10_put_18 rfl ?_
      refine xn_bast dX10_put_19 (st125 hs) (by omega) (by decide) (v := q_by x i) (Value.int.inj (pk_nb (x >>> (q_kI i &&& 31)))) ?_
      refine xe_aload_n dX10_put_20 rfl ?_
      refine xe_dup dX10_put_21 rfl ?_
      refine xe_getIv dX10_put_22 flX10_160 (st124 hs) (by decide) rfl (v := nI (t + i)) (rfl) ?_
      refine xe_iconst dX10_put_25 kc_1 ?_
      refine xn_iadd dX10_put_26 ?_
      refine xe_putI dX10_put_27 flX10_160 (st124 hs) (by decide) rfl (Or.inl rfl) rfl rfl ?_
      refine xe_iinc dX10_put_30 rfl (v := q_kI (i + 1)) (q_kI_S hi) ?_
      refine xe_goto (tgt := 3) dX10_put_33 rfl ?_
      refine xe_heap (q_tp_S h (q_by x) t i) ?_
      refine xe_locals (L' := (fun i => [(0, .ref 124), (1, .int x), (2, .int (q_kI i))]) (i + 1)) (And.intro rfl (And.intro rfl (And.intro rfl trivial))) ?_
      exact K
  · refine xe_iload_n dX10_put_3 rfl ?_
    refine xe_if_lt (tgt := 36) dX10_put_4 rfl (fun c2 => ?_) (fun c2 => ?_)
    · refine xe_return dX10_put_36 rfl ?_
      exact ⟨rfl, rfl⟩
    · exact absurd (by decide +kernel) c2
theorem c_X10_feed_t (l : Launch) (g : q_GP) (h : q_H) (hs : q_Stat h) {t : Nat} (ht : q_I h 124 2 = nI t) (ht2 : t + 20 ≤ 2000) (a b c d e : Int32) : q_Cd l g 1 mX10_feed [.ref 124, .int a, .int b, .int c, .int d, .int e] h (some (.int (nI (t + 20)))) (q_tp (q_tp (q_tp (q_tp (q_tp h (q_by a) t 4) (q_by b) (t + 4) 4) (q_by c) (t + 4 + 4) 4) (q_by d) (t + 4 + 4 + 4) 4) (q_by e) (t + 4 + 4 + 4 + 4) 4) := by
  refine q_CdV mvX10_feed (Nat.le_of_ble_eq_true rfl) ?_
  refine xe_aload_n dX10_feed_0 rfl ?_
  refine xe_getIv dX10_feed_1 flX10_160 (st124 hs) (by decide) rfl (v := nI t) (ht) ?_
  refine xe_bipush dX10_feed_4 kb_20 ?_
  refine xn_iadd dX10_feed_6 ?_
  refine xe_sipush dX10_feed_7 ks_2000 ?_
  refine xn_icmp_le (tgt := 15) dX10_feed_10 rfl (by omega) (by omega) (fun c1 => ?_) (fun c1 => ?_)
  · refine xe_aload_n dX10_feed_15 rfl ?_
    refine xe_iload_n dX10_feed_16 rfl ?_
    refine xe_callVV (d' := 0) (y' := mX10_put) dX10_feed_17 mlX10_163 mvX10_put rfl (st124 hs) (by decide) rfl (by decide) (by decide) (Nat.le_of_ble_eq_true rfl) (c_X10_put l g _ (by exact hs) (t := t) (by first | exact ht | rfl) (by omega) _) rfl ?_
    refine xe_aload_n dX10_feed_20 rfl ?_
    refine xe_iload_n dX10_feed_21 rfl ?_
    refine xe_callVV (d' := 0) (y' := mX10_put) dX10_feed_22 mlX10_163 mvX10_put rfl (st124 hs) (by decide) rfl (by decide) (by decide) (Nat.le_of_ble_eq_true rfl) (c_X10_put l g _ (by exact hs) (t := t + 4) (by first | exact ht | rfl) (by omega) _) rfl ?_
    refine xe_aload_n dX10_feed_25 rfl ?_
    refine xe_iload_n dX10_feed_26 rfl ?_
    refine xe_callVV (d' := 0) (y' := mX10_put) dX10_feed_27 mlX10_163 mvX10_put rfl (st124 hs) (by decide) rfl (by decide) (by decide) (Nat.le_of_ble_eq_true rfl) (c_X10_put l g _ (by exact hs) (t := t + 4 + 4) (by first | exact ht | rfl) (by omega) _) rfl ?_
    refine xe_aload_n dX10_feed_30 rfl ?_
    refine xe_iload dX10_feed_31 rfl ?_
    refine xe_callVV (d' := 0) (y' := mX10_put) dX10_feed_33 mlX10_163 mvX10_put rfl (st124 hs) (by decide) rfl (by decide) (by decide) (Nat.le_of_ble_eq_true rfl) (c_X10_put l g _ (by exact hs) (t := t + 4 + 4 + 4) (by first | exact ht | rfl) (by omega) _) rfl ?_
    refine xe_aload_n dX10_feed_36 rfl ?_
    refine xe_iload dX10_feed_37 rfl ?_
    refine xe_callVV (d' := 0) (y' := mX10_put) dX10_feed_39 mlX10_163 mvX10_put rfl (st124 hs) (by decide) rfl (by decide) (by decide) (Nat.le_of_ble_eq_true rfl) (c_X10_put l g _ (by exact hs) (t := t + 4 + 4 + 4 + 4) (by first | exact ht | rfl) (by omega) _) rfl ?_
    refine xe_aload_n dX10_feed_42 rfl ?_
    refine xe_getIv dX10_feed_43 flX10_160 (st124 hs) (by decide) rfl (v := nI (t + 20)) (rfl) ?_
    refine xe_ireturn dX10_feed_46 rfl (by first | rfl | decide +kernel) ?_
    exact ⟨rfl, rfl⟩
  · omega
theorem c_X10_feed_f (l : Launch) (g : q_GP) (h : q_H) (hs : q_Stat h) {t : Nat} (ht : q_I h 124 2 = nI t) (ht2 : t ≤ 2000) (ht3 : 2000 < t + 20) (a b c d e : Int32) : q_Cd l g 1 mX10_feed [.ref 124, .int a, .int b, .int c, .int d, .int e] h (some (.int (-1))) h := by
  refine q_CdV mvX10_feed (Nat.le_of_ble_eq_true rfl) ?_
  refine xe_aload_n dX10_feed_0 rfl ?_
  refine xe_getIv dX10_feed_1 flX10_160 (st124 hs) (by decide) rfl (v := nI t) (ht) ?_
  refine xe_bipush dX10_feed_4 kb_20 ?_
  refine xn_iadd dX10_feed_6 ?_
  refine xe_sipush dX10_feed_7 ks_2000 ?_
  refine xn_icmp_le (tgt := 15) dX10_feed_10 rfl (by omega) (by omega) (fun c1 => ?_) (fun c1 => ?_)
  · omega
  · refine xe_iconst dX10_feed_13 kc_m1 ?_
    refine xe_ireturn dX10_feed_14 rfl (by first | rfl | decide +kernel) ?_
    exact ⟨rfl, rfl⟩
theorem c_X10_back_t (l : Launch) (g : q_GP) (h : q_H) (hs : q_Stat h) {t : Nat} (ht : q_I h 124 2 = nI t) (ht2 : t ≤ 2000) (n : Nat) (hn : n ≤ t) : q_Cd l g 0 mX10_back [.ref 124, .int (nI n)] h (some (.int (nI (t - n)))) (q_wI h 124 (upd (q_I h 124) 2 (nI (t - n)))) := by
  refine q_CdV mvX10_back (Nat.le_of_ble_eq_true rfl) ?_
  refine xe_iload_n dX10_back_0 rfl ?_
  refine xn_if_lt (tgt := 12) dX10_back_1 rfl (by omega) ?_
  refine xe_iload_n dX10_back_4 rfl ?_
  refine xe_aload_n dX10_back_5 rfl ?_
  refine xe_getIv dX10_back_6 flX10_160 (st124 hs) (by decide) rfl (v := nI t) (ht) ?_
  refine xn_icmp_le (tgt := 14) dX10_back_9 rfl (by omega) (by omega) (fun c2 => ?_) (fun c2 => ?_)
  · refine xe_aload_n dX10_back_14 rfl ?_
    refine xe_dup dX10_back_15 rfl ?_
    refine xe_getIv dX10_back_16 flX10_160 (st124 hs) (by decide) rfl (v := nI t) (ht) ?_
    refine xe_iload_n dX10_back_19 rfl ?_
    refine xn_isub dX10_back_20 (by omega) ?_
    refine xe_putI dX10_back_21 flX10_160 (st124 hs) (by decide) rfl (Or.inl rfl) rfl rfl ?_
    refine xe_aload_n dX10_back_24 rfl ?_
    refine xe_getIv dX10_back_25 flX10_160 (st124 hs) (by decide) rfl (v := nI (t - n)) (rfl) ?_
    refine xe_ireturn dX10_back_28 rfl (by first | rfl | decide +kernel) ?_
    exact ⟨rfl, rfl⟩
  · omega
theorem c_X10_back_f (l : Launch) (g : q_GP) (h : q_H) (hs : q_Stat h) {t : Nat} (ht : q_I h 124 2 = nI t) (ht2 : t ≤ 2000) (x : Int32) (hx : ¬ ∃ k, 0 ≤ k ∧ k ≤ t ∧ x = nI k) : q_Cd l g 0 mX10_back [.ref 124, .int x] h (some (.int (-1))) h := by
  rcases Classical.em (x < 0) with h0 | h0
  · refine q_CdV mvX10_back (Nat.le_of_ble_eq_true rfl) ?_
    refine xe_iload_n dX10_back_0 rfl ?_
    refine xe_if_lt (tgt := 12) dX10_back_1 rfl (fun c1 => ?_) (fun c1 => ?_)
    · refine xe_iconst dX10_back_12 kc_m1 ?_
      refine xe_ireturn dX10_back_13 rfl (by first | rfl | decide +kernel) ?_
      exact ⟨rfl, rfl⟩
    · exact absurd h0 c1
  · obtain ⟨k, hk, rfl⟩ := nI_of h0
    have hkt : t < k := Nat.lt_of_not_le (fun q => hx ⟨k, Nat.zero_le _, q, rfl⟩)
    refine q_CdV mvX10_back (Nat.le_of_ble_eq_true rfl) ?_
    refine xe_iload_n dX10_back_0 rfl ?_
    refine xn_if_lt (tgt := 12) dX10_back_1 rfl (by omega) ?_
    refine xe_iload_n dX10_back_4 rfl ?_
    refine xe_aload_n dX10_back_5 rfl ?_
    refine xe_getIv dX10_back_6 flX10_160 (st124 hs) (by decide) rfl (v := nI t) (ht) ?_
    refine xn_icmp_le (tgt := 14) dX10_back_9 rfl (by omega) (by omega) (fun c2 => ?_) (fun c2 => ?_)
    · omega
    · refine xe_iconst dX10_back_12 kc_m1 ?_
      refine xe_ireturn dX10_back_13 rfl (by first | rfl | decide +kernel) ?_
      exact ⟨rfl, rfl⟩
/-- the first k from a place on, of n, with P -/
def q_fnd (P : Nat → Bool) : Nat → Nat → Option Nat
  | 0, _ => none
  | n + 1, k => if P k then some k else q_fnd P n (k + 1)
def q_fndv (o : Option Nat) : Int32 := match o with
  | some k => nI k
  | none => -2
def q_wat (C : Nat → Int32) (LW : q_LW) (lv nm nc mo w : Nat) (R : Nat → Int32) (m k : Nat) : Bool := decide (0 < q_wrm (q_wks C LW lv nm nc mo w R k) C LW lv nc (w + k) m)
theorem c_X10_warmBy_t (l : Launch) (g : q_GP) (h : q_H) (hs : q_Stat h) {lv nm nd nc mo : Nat} (hp : rm_P h lv nm nd nc mo) {LW : q_LW} (hL : rm_L h lv LW) {w : Nat} (hw : q_I h 154 200 = nI w) (hw2 : w < 2 ^ 19) {m : Nat} (hm : m < nm) : q_Ct l g 3 mX10_warmBy [.ref 124, .int (nI m)] h (fun r h1 => r = some (.int (q_fndv (q_fnd (q_wat (q_I h 140) LW lv nm nc mo w (q_cpy (q_I h 154) (q_I h 155) 210) m) 201 0))) ∧ q_mag h h1) := by
  obtain ⟨p1, p2, p3, p4, p5, p6, p7, p8, p9, p10⟩ := id hp
  have h1 := q_ltn_t (by omega : nm < 2 ^ 31) hm
  refine q_CtV mvX10_warmBy (Nat.le_of_ble_eq_true rfl) ?_
  refine xe_aload_n dX10_warmBy_0 rfl ?_
  refine xe_iload_n dX10_warmBy_1 rfl ?_
  refine xe_callVI (d' := 1) (y' := mX10_isMan) dX10_warmBy_2 mlX10_340 mvX10_isMan rfl (st124 hs) (by decide) rfl (by decide) (by decide) (Nat.le_of_ble_eq_true rfl) (c_X10_isManv l g _ (by exact hs) (by exact hp) _ (by assumption)) rfl ?_
  refine xn_if_ne (tgt := 10) dX10_warmBy_5 rfl (by omega) (fun c1 => ?_) (fun c1 => ?_)
  · refine xe_aload_n dX10_warmBy_10 rfl ?_
    refine xe_callVV (d' := 0) (y' := mX10_copies) dX10_warmBy_11 mlX10_343 mvX10_copies rfl (st124 hs) (by decide) rfl (by decide) (by decide) (Nat.le_of_ble_eq_true rfl) (c_X10_copies l g _ (by exact hs)) rfl ?_
    refine xe_iconst dX10_warmBy_14 kc_0 ?_
    refine xe_istore_n (i := 2) dX10_warmBy_15 rfl (by decide) rfl ?_
    have key : ∀ n i s, i + n = 201 → q_fnd (q_wat (q_I h 140) LW lv nm nc mo w (q_cpy (q_I h 154) (q_I h 155) 210) m) 201 0 = q_fnd (q_wat (q_I h 140) LW lv nm nc mo w (q_cpy (q_I h 154) (q_I h 155) 210) m) n i → q_Ex l g 3 mX10_warmBy 16 ((fun i => [(0, .ref 124), (1, .int (nI m)), (2, .int (nI i))]) i) [] (q_h3 (q_wI h 155 (q_wks (q_I h 140) LW lv nm nc mo w (q_cpy (q_I h 154) (q_I h 155) 210) i)) s) (fun r h1 => r = some (.int (q_fndv (q_fnd (q_wat (q_I h 140) LW lv nm nc mo w (q_cpy (q_I h 154) (q_I h 155) 210) m) 201 0))) ∧ q_mag h h1) := by
      intro n
      induction n with
      | zero =>
        intro i s hin hf
        refine xe_iload_n dX10_warmBy_16 rfl ?_
        refine xe_sipush dX10_warmBy_17 ks_200 ?_
        refine xn_icmp_gt (tgt := 43) dX10_warmBy_20 rfl (by omega) (by omega) (fun c1 => ?_) (fun c1 => ?_)
        · refine xe_bipush dX10_warmBy_43 kb_m2 ?_
          refine xe_ireturn dX10_warmBy_45 rfl (by first | rfl | decide +kernel) ?_
          exact ⟨by rw [hf]; rfl, q_mag_row _ _ _ _ _⟩
        · omega
      | succ n ih =>
        intro i s hin hf
        refine xe_iload_n dX10_warmBy_16 rfl ?_
        refine xe_sipush dX10_warmBy_17 ks_200 ?_
        refine xn_icmp_gt (tgt := 43) dX10_warmBy_20 rfl (by omega) (by omega) (fun c1 => ?_) (fun c1 => ?_)
        · omega
        · refine xe_aload_n dX10_warmBy_23 rfl ?_
          refine xe_iload_n dX10_warmBy_24 rfl ?_
          refine xe_callVIq (d' := 2) (y' := mX10_isWarm) dX10_warmBy_25 mlX10_349 mvX10_isWarm rfl (st124 hs) (by decide) rfl (by decide) (by decide) (Nat.le_of_ble_eq_true rfl) (c_X10_isWarm l g _ (by exact hs) (by exact hp) (by exact rm_L_of (h := h) ⟨rfl, rfl, rfl, rfl, rfl, rfl, rfl, rfl, rfl⟩ hL) (w := w + i) (by exact q_wks_200 _ _ _ _ _ _ _ (q_cpy (q_I h 154) (q_I h 155) 210) hw i) (by omega) _ (by omega)) rfl (fun h1 hq => ?_)
          obtain ⟨V1, p1, b1, rfl⟩ := hq
          rw [show q_s3 (q_h3 (q_wI h 155 (q_wks (q_I h 140) LW lv nm nc mo w (q_cpy (q_I h 154) (q_I h 155) 210) i)) s) V1 p1 b1 = q_h3 (q_wI h 155 (q_wks (q_I h 140) LW lv nm nc mo w (q_cpy (q_I h 154) (q_I h 155) 210) i)) (V1, p1, b1) from q_s3_s3 _ _ _ _ _ _ _]
          refine xe_if_eq (tgt := 33) dX10_warmBy_28 rfl (fun c2 => ?_) (fun c2 => ?_)
          · have c_w : ¬ 0 < q_wrm (q_wks (q_I h 140) LW lv nm nc mo w (q_cpy (q_I h 154) (q_I h 155) 210) i) (q_I h 140) LW lv nc (w + i) m := q_ite_0 _ c2
            refine xe_aload_n dX10_warmBy_33 rfl ?_
            refine xe_callVVq (d' := 2) (y' := mX10_weekGoes) dX10_warmBy_34 mlX10_379 mvX10_weekGoes rfl (st124 hs) (by decide) rfl (by decide) (by decide) (Nat.le_of_ble_eq_true rfl) (c_X10_weekGoes l g _ (by exact hs) (by exact hp) (by exact rm_L_of (h := h) ⟨rfl, rfl, rfl, rfl, rfl, rfl, rfl, rfl, rfl⟩ hL) (w := w + i) (by exact q_wks_200 _ _ _ _ _ _ _ (q_cpy (q_I h 154) (q_I h 155) 210) hw i) (by omega)) rfl (fun h1 hq => ?_)
            obtain ⟨V2, p2, b2, rfl⟩ := hq
            refine xn_iinc dX10_warmBy_37 rfl kc_1 ?_
            refine xe_goto (tgt := 16) dX10_warmBy_40 rfl ?_
            refine xe_locals (L' := (fun i => [(0, .ref 124), (1, .int (nI m)), (2, .int (nI i))]) (i + 1)) (And.intro rfl (And.intro rfl (And.intro rfl trivial))) ?_
            refine xe_heap ((q_s3_155 (h := h) (q_wks (q_I h 140) LW lv nm nc mo w (q_cpy (q_I h 154) (q_I h 155) 210) i) _ _ _ _ _ _ _).trans rfl) ?_
            exact ih (i + 1) (V2, p2, b2) (by omega) (hf.trans (if_neg (by unfold q_wat; rw [decide_eq_true_eq]; exact c_w)))
          · have c_w : 0 < q_wrm (q_wks (q_I h 140) LW lv nm nc mo w (q_cpy (q_I h 154) (q_I h 155) 210) i) (q_I h 140) LW lv nc (w + i) m := q_ite_1 _ c2
            refine xe_iload_n dX10_warmBy_31 rfl ?_
            refine xe_ireturn dX10_warmBy_32 rfl (by first | rfl | decide +kernel) ?_
            have hw9 : q_wat (q_I h 140) LW lv nm nc mo w (q_cpy (q_I h 154) (q_I h 155) 210) m i = true := decide_eq_true c_w
            exact ⟨by rw [hf, q_fnd, if_pos hw9]; rfl, q_mag_row _ _ _ _ _⟩
    refine xe_locals (L' := (fun i => [(0, .ref 124), (1, .int (nI m)), (2, .int (nI i))]) 0) (And.intro rfl (And.intro rfl (And.intro rfl trivial))) ?_
    refine xe_heap (h2 := q_h3 (q_wI h 155 (q_wks (q_I h 140) LW lv nm nc mo w (q_cpy (q_I h 154) (q_I h 155) 210) 0)) (q_I h 152, q_I h 153, q_I h 124 46)) (q_h3_0 (q_wI h 155 (q_cpy (q_I h 154) (q_I h 155) 210))).symm ?_
    exact key 201 0 _ rfl rfl
  · omega
theorem c_X10_warmBy_f (l : Launch) (g : q_GP) (h : q_H) (hs : q_Stat h) {lv nm nd nc mo : Nat} (hp : rm_P h lv nm nd nc mo) (x : Int32) (hx : ¬ q_isN x nm) : q_Cd l g 3 mX10_warmBy [.ref 124, .int x] h (some (.int (-1))) h := by
  obtain ⟨p1, p2, p3, p4, p5, p6, p7, p8, p9, p10⟩ := id hp
  have h1 := q_ltn_f (by omega : nm < 2 ^ 31) hx
  refine q_CdV mvX10_warmBy (Nat.le_of_ble_eq_true rfl) ?_
  refine xe_aload_n dX10_warmBy_0 rfl ?_
  refine xe_iload_n dX10_warmBy_1 rfl ?_
  refine xe_callVI (d' := 1) (y' := mX10_isMan) dX10_warmBy_2 mlX10_340 mvX10_isMan rfl (st124 hs) (by decide) rfl (by decide) (by decide) (Nat.le_of_ble_eq_true rfl) (c_X10_isManv l g _ (by exact hs) (by exact hp) _ (by assumption)) rfl ?_
  refine xn_if_ne (tgt := 10) dX10_warmBy_5 rfl (by omega) (fun c1 => ?_) (fun c1 => ?_)
  · omega
  · refine xe_iconst dX10_warmBy_8 kc_m1 ?_
    refine xe_ireturn dX10_warmBy_9 rfl (by first | rfl | decide +kernel) ?_
    exact ⟨rfl, rfl⟩
/-- a set of bits -/
def q_set (P : Nat → Bool) : Nat → Int32
  | 0 => nI 0
  | i + 1 => if P i then q_set P i ||| nI 1 <<< (nI i &&& 31) else q_set P i
def q_wst (R C : Nat → Int32) (LW : q_LW) (lv nc w : Nat) (n : Nat) : Int32 := q_set (fun m => decide (0 < q_wrm R C LW lv nc w m)) n
theorem c_X10_warm_t (l : Launch) (g : q_GP) (h : q_H) (hs : q_Stat h) {lv nm nd nc mo : Nat} (hp : rm_P h lv nm nd nc mo) {LW : q_LW} (hL : rm_L h lv LW) {w : Nat} (hw : q_I h 154 200 = nI w) (hw2 : w < 2 ^ 19) {n : Nat} (hn : n ≤ 200) : q_Ct l g 3 mX10_warm [.ref 124, .int (nI n)] h (fun r h1 => r = some (.int (q_wst (q_wks (q_I h 140) LW lv nm nc mo w (q_cpy (q_I h 154) (q_I h 155) 210) n) (q_I h 140) LW lv nc (w + n) nm)) ∧ q_mag h h1) := by
  obtain ⟨p1, p2, p3, p4, p5, p6, p7, p8, p9, p10⟩ := id hp
  refine q_CtV mvX10_warm (Nat.le_of_ble_eq_true rfl) ?_
  refine xe_iload_n dX10_warm_0 rfl ?_
  refine xe_iconst dX10_warm_1 kc_0 ?_
  refine xe_sipush dX10_warm_2 ks_200 ?_
  refine xe_callSI (d' := 0) (y' := mX10_in) dX10_warm_5 mlX10_312 msX10_in rfl (by decide) (by decide) (Nat.le_of_ble_eq_true rfl) (c_X10_inv l g _ _ _ _ (q_in_t (by omega) (by omega) (by decide))) rfl ?_
  refine xn_if_ne (tgt := 13) dX10_warm_8 rfl (by omega) (fun c1 => ?_) (fun c1 => ?_)
  · refine xe_aload_n dX10_warm_13 rfl ?_
    refine xe_callVV (d' := 0) (y' := mX10_copies) dX10_warm_14 mlX10_343 mvX10_copies rfl (st124 hs) (by decide) rfl (by decide) (by decide) (Nat.le_of_ble_eq_true rfl) (c_X10_copies l g _ (by exact hs)) rfl ?_
    refine xe_iconst dX10_warm_17 kc_0 ?_
    refine xe_istore_n (i := 2) dX10_warm_18 rfl (by decide) rfl ?_
    refine xe_locals (L' := (fun i => [(0, .ref 124), (1, .int (nI n)), (2, .int (nI i))]) 0) (And.intro rfl (And.intro rfl (And.intro rfl trivial))) ?_
    refine xe_heap (h2 := q_h3 (q_wI h 155 (q_wks (q_I h 140) LW lv nm nc mo w (q_cpy (q_I h 154) (q_I h 155) 210) 0)) (q_I h 152, q_I h 153, q_I h 124 46)) (q_h3_0 (q_wI h 155 (q_cpy (q_I h 154) (q_I h 155) 210))).symm ?_
    refine xe_forE n (fun i => [(0, .ref 124), (1, .int (nI n)), (2, .int (nI i))]) (fun i s => q_h3 (q_wI h 155 (q_wks (q_I h 140) LW lv nm nc mo w (q_cpy (q_I h 154) (q_I h 155) 210) i)) s) (fun i s hi K => ?_) (fun s => ?_) _
    · refine xe_iload_n dX10_warm_19 rfl ?_
      refine xe_iload_n dX10_warm_20 rfl ?_
      refine xn_icmp_ge (tgt := 34) dX10_warm_21 rfl (by omega) (by omega) (fun c1 => ?_) (fun c1 => ?_)
      · omega
      · refine xe_aload_n dX10_warm_24 rfl ?_
        refine xe_callVVq (d' := 2) (y' := mX10_weekGoes) dX10_warm_25 mlX10_379 mvX10_weekGoes rfl (st124 hs) (by decide) rfl (by decide) (by decide) (Nat.le_of_ble_eq_true rfl) (c_X10_weekGoes l g _ (by exact hs) (by exact hp) (by exact rm_L_of (h := h) ⟨rfl, rfl, rfl, rfl, rfl, rfl, rfl, rfl, rfl⟩ hL) (by exact q_wks_200 _ _ _ _ _ _ _ (q_cpy (q_I h 154) (q_I h 155) 210) hw i) (by omega)) rfl (fun h1 hq => ?_)
        obtain ⟨V1, p1, b1, rfl⟩ := hq
        refine xn_iinc dX10_warm_28 rfl kc_1 ?_
        refine xe_goto (tgt := 19) dX10_warm_31 rfl ?_
        refine xe_locals (L' := (fun i => [(0, .ref 124), (1, .int (nI n)), (2, .int (nI i))]) (i + 1)) (And.intro rfl (And.intro rfl (And.intro rfl trivial))) ?_
        refine xe_heap (q_s3_155 h (q_wks (q_I h 140) LW lv nm nc mo w (q_cpy (q_I h 154) (q_I h 155) 210) i) _ s.1 s.2.1 V1 p1 s.2.2 b1) ?_
        exact K (V1, p1, b1)
    · refine xe_iload_n dX10_warm_19 rfl ?_
      refine xe_iload_n dX10_warm_20 rfl ?_
      refine xn_icmp_ge (tgt := 34) dX10_warm_21 rfl (by omega) (by omega) (fun c1 => ?_) (fun c1 => ?_)
      · refine xe_iconst dX10_warm_34 kc_0 ?_
        refine xe_istore_n (i := 2) dX10_warm_35 rfl (by decide) rfl ?_
        refine xe_iconst dX10_warm_36 kc_0 ?_
        refine xe_istore_n (i := 3) dX10_warm_37 rfl (by decide) rfl ?_
        refine xe_locals (L' := (fun i => [(0, .ref 124), (2, .int (q_wst (q_wks (q_I h 140) LW lv nm nc mo w (q_cpy (q_I h 154) (q_I h 155) 210) n) (q_I h 140) LW lv nc (w + n) i)), (3, .int (nI i))]) 0) (And.intro rfl (And.intro rfl (And.intro rfl trivial))) ?_
        refine xe_forE nm (fun i => [(0, .ref 124), (2, .int (q_wst (q_wks (q_I h 140) LW lv nm nc mo w (q_cpy (q_I h 154) (q_I h 155) 210) n) (q_I h 140) LW lv nc (w + n) i)), (3, .int (nI i))]) (fun i s => q_h3 (q_wI h 155 (q_wks (q_I h 140) LW lv nm nc mo w (q_cpy (q_I h 154) (q_I h 155) 210) n)) s) (fun i s hi K => ?_) (fun s => ?_) s
        · refine xe_iload_n dX10_warm_38 rfl ?_
          refine xe_aload_n dX10_warm_39 rfl ?_
          refine xe_getP dX10_warm_40 flX10_49 (st124 hs) (by decide) rfl (sp124_24 hs) ?_
          refine xe_aload_n dX10_warm_43 rfl ?_
          refine xe_getIv dX10_warm_44 flX10_228 (st124 hs) (by decide) rfl (v := nI lv) (p1) ?_
          refine xn_ialdv dX10_warm_47 (st135 hs) (by omega) (by decide) (v := nI nm) (p3) ?_
          refine xn_icmp_ge (tgt := 71) dX10_warm_48 rfl (by omega) (by omega) (fun c1 => ?_) (fun c1 => ?_)
          · omega
          · refine xe_aload_n dX10_warm_51 rfl ?_
            refine xe_iload_n dX10_warm_52 rfl ?_
            refine xe_callVIq (d' := 2) (y' := mX10_isWarm) dX10_warm_53 mlX10_349 mvX10_isWarm rfl (st124 hs) (by decide) rfl (by decide) (by decide) (Nat.le_of_ble_eq_true rfl) (c_X10_isWarm l g _ (by exact hs) (by exact hp) (by exact rm_L_of (h := h) ⟨rfl, rfl, rfl, rfl, rfl, rfl, rfl, rfl, rfl⟩ hL) (w := w + n) (by exact q_wks_200 _ _ _ _ _ _ _ (q_cpy (q_I h 154) (q_I h 155) 210) hw n) (by omega) _ (by omega)) rfl (fun h1 hq => ?_)
            obtain ⟨V1, p1, b1, rfl⟩ := hq
            rw [show q_s3 (q_h3 (q_wI h 155 (q_wks (q_I h 140) LW lv nm nc mo w (q_cpy (q_I h 154) (q_I h 155) 210) n)) s) V1 p1 b1 = q_h3 (q_wI h 155 (q_wks (q_I h 140) LW lv nm nc mo w (q_cpy (q_I h 154) (q_I h 155) 210) n)) (V1, p1, b1) from q_s3_s3 _ _ _ _ _ _ _]
            refine xe_if_eq (tgt := 65) dX10_warm_56 rfl (fun c2 => ?_) (fun c2 => ?_)
            · have c_w : ¬ 0 < q_wrm (q_wks (q_I h 140) LW lv nm nc mo w (q_cpy (q_I h 154) (q_I h 155) 210) n) (q_I h 140) LW lv nc (w + n) i := q_ite_0 _ c2
              refine xn_iinc dX10_warm_65 rfl kc_1 ?_
              refine xe_goto (tgt := 38) dX10_warm_68 rfl ?_
              have eB : q_wst (q_wks (q_I h 140) LW lv nm nc mo w (q_cpy (q_I h 154) (q_I h 155) 210) n) (q_I h 140) LW lv nc (w + n) (i + 1) = q_wst (q_wks (q_I h 140) LW lv nm nc mo w (q_cpy (q_I h 154) (q_I h 155) 210) n) (q_I h 140) LW lv nc (w + n) i := if_neg (fun q => c_w (of_decide_eq_true q))
              refine xe_locals (L' := (fun i => [(0, .ref 124), (2, .int (q_wst (q_wks (q_I h 140) LW lv nm nc mo w (q_cpy (q_I h 154) (q_I h 155) 210) n) (q_I h 140) LW lv nc (w + n) i)), (3, .int (nI i))]) (i + 1)) (And.intro rfl (And.intro (by exact congrArg (fun v => some (Value.int v)) eB.symm) (And.intro rfl trivial))) ?_
              exact K (V1, p1, b1)
            · have c_w : 0 < q_wrm (q_wks (q_I h 140) LW lv nm nc mo w (q_cpy (q_I h 154) (q_I h 155) 210) n) (q_I h 140) LW lv nc (w + n) i := q_ite_1 _ c2
              refine xe_iload_n dX10_warm_59 rfl ?_
              refine xe_iconst dX10_warm_60 kc_1 ?_
              refine xe_iload_n dX10_warm_61 rfl ?_
              refine xe_ishl dX10_warm_62 ?_
              refine xe_ior dX10_warm_63 ?_
              refine xe_istore_n (i := 2) dX10_warm_64 rfl (by decide) rfl ?_
              refine xn_iinc dX10_warm_65 rfl kc_1 ?_
              refine xe_goto (tgt := 38) dX10_warm_68 rfl ?_
              have eB : q_wst (q_wks (q_I h 140) LW lv nm nc mo w (q_cpy (q_I h 154) (q_I h 155) 210) n) (q_I h 140) LW lv nc (w + n) (i + 1) = q_wst (q_wks (q_I h 140) LW lv nm nc mo w (q_cpy (q_I h 154) (q_I h 155) 210) n) (q_I h 140) LW lv nc (w + n) i ||| nI 1 <<< (nI i &&& 31) := if_pos (decide_eq_true c_w)
              refine xe_locals (L' := (fun i => [(0, .ref 124), (2, .int (q_wst (q_wks (q_I h 140) LW lv nm nc mo w (q_cpy (q_I h 154) (q_I h 155) 210) n) (q_I h 140) LW lv nc (w + n) i)), (3, .int (nI i))]) (i + 1)) (And.intro rfl (And.intro (by exact congrArg (fun v => some (Value.int v)) eB.symm) (And.intro rfl trivial))) ?_
              exact K (V1, p1, b1)
        · refine xe_iload_n dX10_warm_38 rfl ?_
          refine xe_aload_n dX10_warm_39 rfl ?_
          refine xe_getP dX10_warm_40 flX10_49 (st124 hs) (by decide) rfl (sp124_24 hs) ?_
          refine xe_aload_n dX10_warm_43 rfl ?_
          refine xe_getIv dX10_warm_44 flX10_228 (st124 hs) (by decide) rfl (v := nI lv) (p1) ?_
          refine xn_ialdv dX10_warm_47 (st135 hs) (by omega) (by decide) (v := nI nm) (p3) ?_
          refine xn_icmp_ge (tgt := 71) dX10_warm_48 rfl (by omega) (by omega) (fun c1 => ?_) (fun c1 => ?_)
          · refine xe_iload_n dX10_warm_71 rfl ?_
            refine xe_ireturn dX10_warm_72 rfl (by first | rfl | decide +kernel) ?_
            exact ⟨rfl, q_mag_row _ _ _ _ _⟩
          · omega
      · omega
  · omega
theorem c_X10_warm_f (l : Launch) (g : q_GP) (h : q_H) (hs : q_Stat h) {lv nm nd nc mo : Nat} (hp : rm_P h lv nm nd nc mo) (x : Int32) (hx : ¬ ∃ k, 0 ≤ k ∧ k ≤ 200 ∧ x = nI k) : q_Cd l g 3 mX10_warm [.ref 124, .int x] h (some (.int (-1))) h := by
  obtain ⟨p1, p2, p3, p4, p5, p6, p7, p8, p9, p10⟩ := id hp
  refine q_CdV mvX10_warm (Nat.le_of_ble_eq_true rfl) ?_
  refine xe_iload_n dX10_warm_0 rfl ?_
  refine xe_iconst dX10_warm_1 kc_0 ?_
  refine xe_sipush dX10_warm_2 ks_200 ?_
  refine xe_callSI (d' := 0) (y' := mX10_in) dX10_warm_5 mlX10_312 msX10_in rfl (by decide) (by decide) (Nat.le_of_ble_eq_true rfl) (c_X10_inv l g _ _ _ _ (q_in_f (by decide) (by decide) hx)) rfl ?_
  refine xn_if_ne (tgt := 13) dX10_warm_8 rfl (by omega) (fun c1 => ?_) (fun c1 => ?_)
  · omega
  · refine xe_iconst dX10_warm_11 kc_m1 ?_
    refine xe_ireturn dX10_warm_12 rfl (by first | rfl | decide +kernel) ?_
    exact ⟨rfl, rfl⟩
