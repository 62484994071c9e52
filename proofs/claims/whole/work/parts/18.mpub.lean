/-! the reference: what stays; reads that the law asks for -/
/-- rows of the reference that hold nothing from call to call -/
def q_msc (r : Nat) : Bool := r == 126 || r == 127 || r == 128 || r == 129 || r == 133 || r == 134 || r == 151 || r == 152 || r == 153 || r == 155 || r == 156 || r == 157 || r == 159 || r == 160 || r == 161 || r == 162 || r == 163 || r == 164 || r == 165
/-- its fields that hold nothing from call to call -/
def q_mfk (k : Nat) : Bool := k == 4 || k == 10 || k == 11 || k == 12 || k == 13 || k == 14 || k == 15 || k == 16 || k == 19 || k == 20 || k == 33 || k == 39 || k == 43 || k == 46 || k == 60 || k == 61
/-- all but scratch is the same -/
def q_mag (h h1 : q_H) : Prop := (∀ r, r ≠ 124 → q_msc r = false → q_I h1 r = q_I h r) ∧ (∀ k, q_mfk k = false → q_I h1 124 k = q_I h 124 k) ∧ (∀ r, r ≠ 130 → r ≠ 132 → q_J h1 r = q_J h r) ∧ h1.2.2 = h.2.2
theorem q_mag_r (h : q_H) : q_mag h h := ⟨fun _ _ _ => rfl, fun _ _ => rfl, fun _ _ _ => rfl, rfl⟩
theorem q_mag_t {h h1 h2 : q_H} (a : q_mag h h1) (b : q_mag h1 h2) : q_mag h h2 := ⟨fun r h3 h4 => (b.1 r h3 h4).trans (a.1 r h3 h4), fun k hk => (b.2.1 k hk).trans (a.2.1 k hk), fun r h3 h4 => (b.2.2.1 r h3 h4).trans (a.2.2.1 r h3 h4), b.2.2.2.trans a.2.2.2⟩
theorem q_mag_w {h h1 : q_H} (a : q_mag h h1) {r : Nat} (f : Nat → Int32) (hr : q_msc r = true) (hr2 : r ≠ 124) : q_mag h (q_wI h1 r f) := by
  refine ⟨fun r' h3 h4 => ?_, fun k hk => ?_, a.2.2.1, a.2.2.2⟩
  · have hne : r' ≠ r := fun q => by rw [q, hr] at h4; cases h4
    rw [q_IwI, if_neg hne]
    exact a.1 r' h3 h4
  · rw [q_IwI, if_neg (Ne.symm hr2)]
    exact a.2.1 k hk
theorem q_mag_f {h h1 : q_H} (a : q_mag h h1) (k : Nat) (v : Int32) (hk : q_mfk k = true) : q_mag h (q_wI h1 124 (upd (q_I h1 124) k v)) := by
  refine ⟨fun r' h3 h4 => ?_, fun j hj => ?_, a.2.2.1, a.2.2.2⟩
  · rw [q_IwI, if_neg h3]
    exact a.1 r' h3 h4
  · have hne : j ≠ k := fun q => by rw [q, hk] at hj; cases hj
    rw [q_Iw, pk_un hne]
    exact a.2.1 j hj
theorem q_mag_s3 {h h1 : q_H} (a : q_mag h h1) (V p : Nat → Int32) (b : Int32) : q_mag h (q_s3 h1 V p b) := q_mag_f (q_mag_w (q_mag_w a V rfl (by decide)) p rfl (by decide)) 46 b rfl
theorem q_mag_row (h : q_H) (R V p : Nat → Int32) (b : Int32) : q_mag h (q_s3 (q_wI h 155 R) V p b) := q_mag_s3 (q_mag_w (q_mag_r h) R rfl (by decide)) V p b
/-! sums that see the same -/
theorem q_sum_co {f g : Nat → Int32} : ∀ {n : Nat}, (∀ k, k < n → f k = g k) → q_sum f n = q_sum g n
  | 0, _ => rfl
  | n + 1, h => by
    unfold q_sum
    rw [h n (by omega), q_sum_co (fun k hk => h k (by omega))]
theorem q_s8_co {f g : Nat → Int32} {b : Nat} (h : ∀ k, k < 8 → f (b + k) = g (b + k)) : q_s8 f b = q_s8 g b := q_sum_co h
/-- two rows that agree on what is looked at -/
def q_req (R R' : Nat → Int32) : Prop := ∀ k, k < 210 → R k = R' k
theorem q_req_cpy (f g : Nat → Int32) {n : Nat} (hn : 210 ≤ n) : q_req (q_cpy f g n) f := fun k hk => if_pos (by omega)
theorem q_s8_rq {R R' : Nat → Int32} (h : q_req R R') {b : Nat} (hb : b + 8 ≤ 210) : q_s8 R b = q_s8 R' b := q_s8_co (fun k hk => h _ (by omega))
theorem q_see_rq {R R' : Nat → Int32} (h : q_req R R') (C : Nat → Int32) (lv nc w m : Nat) (a b : Int32) : q_see R C lv nc w m a b = q_see R' C lv nc w m a b := by
  unfold q_see
  rw [q_s8_rq h (by decide)]
theorem q_fin_rq {R R' : Nat → Int32} (h : q_req R R') (C : Nat → Int32) (LW : q_LW) (lv nc w : Nat) {m d : Nat} (hm : m < 8) (hd : d < 8) : q_fin R C LW lv nc w m d = q_fin R' C LW lv nc w m d := by
  unfold q_fin
  rw [q_see_rq h, q_s8_rq h (by omega), h _ (by omega)]
theorem q_wrm_rq {R R' : Nat → Int32} (h : q_req R R') (C : Nat → Int32) (LW : q_LW) (lv nc w : Nat) {m : Nat} (hm : m < 8) : q_wrm R C LW lv nc w m = q_wrm R' C LW lv nc w m := by
  unfold q_wrm
  rw [q_see_rq h, q_s8_rq h (by omega), q_s8_rq h (by omega)]
theorem q_vv_rq {R R' : Nat → Int32} (h : q_req R R') (C : Nat → Int32) {H H' : Nat → Int32} (LW : q_LW) (lv nc w m : Nat) {o : Nat} (ho : o < 8) (hH : H o = H' o) : q_vv R C H LW lv nc w m o = q_vv R' C H' LW lv nc w m o := by
  unfold q_vv
  rw [q_see_rq h, q_s8_rq h (by omega), hH]
theorem q_vb_co {f g : Nat → Int32} : ∀ {n : Nat}, (∀ k, k < n → f k = g k) → q_vb f n = q_vb g n
  | 0, _ => rfl
  | n + 1, h => by
    unfold q_vb
    rw [h n (by omega), q_vb_co (fun k hk => h k (by omega))]
theorem c_X10_tariff_t (l : Launch) (g : q_GP) (h : q_H) (hs : q_Stat h) {lv nm nd nc mo : Nat} (hp : rm_P h lv nm nd nc mo) {LW : q_LW} (hL : rm_L h lv LW) {w : Nat} (hw : q_I h 154 200 = nI w) (hw2 : w < 2 ^ 20) {m d : Nat} (hm : m < nm) (hd : d < nd) : q_Ct l g 3 mX10_tariff [.ref 124, .int (nI m), .int (nI d)] h (fun r h1 => r = some (.int (q_fin (q_I h 154) (q_I h 140) LW lv nc w m d)) ∧ q_mag h h1) := by
  obtain ⟨p1, p2, p3, p4, p5, p6, p7, p8, p9, p10⟩ := id hp
  have h1 := q_ltn_t (by omega : nm < 2 ^ 31) hm
  have h2 := q_ltn_t (by omega : nd < 2 ^ 31) hd
  refine q_CtV mvX10_tariff (Nat.le_of_ble_eq_true rfl) ?_
  refine xe_aload_n dX10_tariff_0 rfl ?_
  refine xe_iload_n dX10_tariff_1 rfl ?_
  refine xe_callVI (d' := 1) (y' := mX10_isMan) dX10_tariff_2 mlX10_340 mvX10_isMan rfl (st124 hs) (by decide) rfl (by decide) (by decide) (Nat.le_of_ble_eq_true rfl) (c_X10_isManv l g _ (by exact hs) (by exact hp) _ (by assumption)) rfl ?_
  refine xn_if_eq (tgt := 16) dX10_tariff_5 rfl (by omega) (fun c1 => ?_) (fun c1 => ?_)
  · omega
  · refine xe_aload_n dX10_tariff_8 rfl ?_
    refine xe_iload_n dX10_tariff_9 rfl ?_
    refine xe_callVI (d' := 1) (y' := mX10_isDeed) dX10_tariff_10 mlX10_359 mvX10_isDeed rfl (st124 hs) (by decide) rfl (by decide) (by decide) (Nat.le_of_ble_eq_true rfl) (c_X10_isDeedv l g _ (by exact hs) (by exact hp) _ (by assumption)) rfl ?_
    refine xn_if_ne (tgt := 18) dX10_tariff_13 rfl (by omega) (fun c2 => ?_) (fun c2 => ?_)
    · refine xe_aload_n dX10_tariff_18 rfl ?_
      refine xe_callVV (d' := 0) (y' := mX10_copies) dX10_tariff_19 mlX10_343 mvX10_copies rfl (st124 hs) (by decide) rfl (by decide) (by decide) (Nat.le_of_ble_eq_true rfl) (c_X10_copies l g _ (by exact hs)) rfl ?_
      refine xe_aload_n dX10_tariff_22 rfl ?_
      refine xe_iload_n dX10_tariff_23 rfl ?_
      refine xe_iload_n dX10_tariff_24 rfl ?_
      refine xe_callVIq (d' := 2) (y' := mX10_fineOf) dX10_tariff_25 mlX10_362 mvX10_fineOf rfl (st124 hs) (by decide) rfl (by decide) (by decide) (Nat.le_of_ble_eq_true rfl) (c_X10_fineOf l g _ (by exact hs) (by exact hp) (by exact rm_L_of (h := h) ⟨rfl, rfl, rfl, rfl, rfl, rfl, rfl, rfl, rfl⟩ hL) (by exact hw) (by omega) _ _ (by omega) (by omega)) rfl (fun h1 hq => ?_)
      obtain ⟨V1, p1, b1, rfl⟩ := hq
      refine xe_ireturn dX10_tariff_28 rfl (by first | rfl | decide +kernel) ?_
      exact ⟨congrArg (fun v => some (Value.int v)) (q_fin_rq (q_req_cpy _ _ (by decide)) _ _ _ _ _ (by omega) (by omega)), q_mag_row _ _ _ _ _⟩
    · omega
theorem c_X10_tariff_f (l : Launch) (g : q_GP) (h : q_H) (hs : q_Stat h) {lv nm nd nc mo : Nat} (hp : rm_P h lv nm nd nc mo) (x z : Int32) (hxz : ¬ (q_isN x nm ∧ q_isN z nd)) : q_Cd l g 3 mX10_tariff [.ref 124, .int x, .int z] h (some (.int (-1))) h := by
  obtain ⟨p1, p2, p3, p4, p5, p6, p7, p8, p9, p10⟩ := id hp
  by_cases h1 : q_isN x nm
  · have e1 : q_ltn x nm = nI 1 := by
      obtain ⟨k, hk, rfl⟩ := q_isN_of (by omega) h1
      exact q_ltn_t (by omega) hk
    have e2 := q_ltn_f (by omega : nd < 2 ^ 31) (fun q => hxz ⟨h1, q⟩)
    refine q_CdV mvX10_tariff (Nat.le_of_ble_eq_true rfl) ?_
    refine xe_aload_n dX10_tariff_0 rfl ?_
    refine xe_iload_n dX10_tariff_1 rfl ?_
    refine xe_callVI (d' := 1) (y' := mX10_isMan) dX10_tariff_2 mlX10_340 mvX10_isMan rfl (st124 hs) (by decide) rfl (by decide) (by decide) (Nat.le_of_ble_eq_true rfl) (c_X10_isManv l g _ (by exact hs) (by exact hp) _ (by assumption)) rfl ?_
    refine xn_if_eq (tgt := 16) dX10_tariff_5 rfl (by omega) (fun c1 => ?_) (fun c1 => ?_)
    · omega
    · refine xe_aload_n dX10_tariff_8 rfl ?_
      refine xe_iload_n dX10_tariff_9 rfl ?_
      refine xe_callVI (d' := 1) (y' := mX10_isDeed) dX10_tariff_10 mlX10_359 mvX10_isDeed rfl (st124 hs) (by decide) rfl (by decide) (by decide) (Nat.le_of_ble_eq_true rfl) (c_X10_isDeedv l g _ (by exact hs) (by exact hp) _ (by assumption)) rfl ?_
      refine xn_if_ne (tgt := 18) dX10_tariff_13 rfl (by omega) (fun c2 => ?_) (fun c2 => ?_)
      · omega
      · refine xe_iconst dX10_tariff_16 kc_m1 ?_
        refine xe_ireturn dX10_tariff_17 rfl (by first | rfl | decide +kernel) ?_
        exact ⟨rfl, rfl⟩
  · have e1 := q_ltn_f (by omega : nm < 2 ^ 31) h1
    refine q_CdV mvX10_tariff (Nat.le_of_ble_eq_true rfl) ?_
    refine xe_aload_n dX10_tariff_0 rfl ?_
    refine xe_iload_n dX10_tariff_1 rfl ?_
    refine xe_callVI (d' := 1) (y' := mX10_isMan) dX10_tariff_2 mlX10_340 mvX10_isMan rfl (st124 hs) (by decide) rfl (by decide) (by decide) (Nat.le_of_ble_eq_true rfl) (c_X10_isManv l g _ (by exact hs) (by exact hp) _ (by assumption)) rfl ?_
    refine xn_if_eq (tgt := 16) dX10_tariff_5 rfl (by omega) (fun c1 => ?_) (fun c1 => ?_)
    · refine xe_iconst dX10_tariff_16 kc_m1 ?_
      refine xe_ireturn dX10_tariff_17 rfl (by first | rfl | decide +kernel) ?_
      exact ⟨rfl, rfl⟩
    · omega
/-- who is elected, if the geese have H -/
def q_who (R C H : Nat → Int32) (LW : q_LW) (lv nm nc w : Nat) : Nat := q_el (q_vt (fun m => (q_vb (q_vv R C H LW lv nc w m) nm).1) (fun _ => nI 0) nm) H (nm - 1)
def q_vts (R C H : Nat → Int32) (LW : q_LW) (lv nm nc w : Nat) : Nat → Int32 := q_vt (fun m => (q_vb (q_vv R C H LW lv nc w m) nm).1) (fun _ => nI 0) nm
theorem q_vt_co {f g : Nat → Nat} {V V' : Nat → Int32} (hV : ∀ k, k < 8 → V k = V' k) : ∀ {n : Nat}, (∀ k, k < n → f k = g k) → (∀ k, k < n → g k < 8) → ∀ k, k < 8 → q_vt f V n k = q_vt g V' n k
  | 0, _, _ => hV
  | n + 1, h, h2 => by
    intro k hk
    have ih := q_vt_co hV (n := n) (fun k hk => h k (by omega)) (fun k hk => h2 k (by omega))
    show upd (q_vt f V n) (f n) (q_vt f V n (f n) + nI 1) k = upd (q_vt g V' n) (g n) (q_vt g V' n (g n) + nI 1) k
    rw [h n (by omega), ih _ (h2 n (by omega))]
    unfold upd
    split
    · rfl
    · exact ih k hk
theorem q_el_co {V V' H H' : Nat → Int32} : ∀ {n : Nat}, (∀ k, k ≤ n → V k = V' k) → (∀ k, k ≤ n → H k = H' k) → q_el V H n = q_el V' H' n
  | 0, _, _ => rfl
  | n + 1, h, h2 => by
    have ih := q_el_co (n := n) (fun k hk => h k (by omega)) (fun k hk => h2 k (by omega))
    have hl := q_el_lt V' H' n
    unfold q_el
    rw [ih, h (n + 1) (by omega), h2 (n + 1) (by omega), h _ (by omega), h2 _ (by omega)]
theorem q_who_co {R R' : Nat → Int32} (h : q_req R R') (C : Nat → Int32) {H H' V0 : Nat → Int32} (LW : q_LW) (lv : Nat) {nm : Nat} (hn : 0 < nm) (hnm : nm ≤ 8) (nc w : Nat) (hH : ∀ k, k < 8 → H k = H' k) (hV : ∀ k, k < 8 → V0 k = nI 0) :
    q_el (q_vt (fun m => (q_vb (q_vv R C H LW lv nc w m) nm).1) V0 nm) H (nm - 1) = q_who R' C H' LW lv nm nc w ∧ ∀ k, k < 8 → q_vt (fun m => (q_vb (q_vv R C H LW lv nc w m) nm).1) V0 nm k = q_vts R' C H' LW lv nm nc w k := by
  have e1 : ∀ m, (q_vb (q_vv R C H LW lv nc w m) nm).1 = (q_vb (q_vv R' C H' LW lv nc w m) nm).1 := fun m => by
    rw [q_vb_co (fun o ho => q_vv_rq h C LW lv nc w m (by omega) (hH o (by omega)))]
  have e2 := q_vt_co (f := fun m => (q_vb (q_vv R C H LW lv nc w m) nm).1) (g := fun m => (q_vb (q_vv R' C H' LW lv nc w m) nm).1) (V := V0) (V' := fun _ => nI 0) hV (n := nm) (fun k _ => e1 k) (fun k _ => Nat.lt_of_lt_of_le (q_vb_lt2 _ nm hn) hnm)
  exact ⟨q_el_co (fun k hk => e2 k (by omega)) (fun k hk => hH k (by omega)), e2⟩
theorem c_X10_inv (l : Launch) (g : q_GP) (h : q_H) (x a b : Int32) {v : Int32} (hv : q_in x a b = v) : q_Cd l g 0 mX10_in [.int x, .int a, .int b] h (some (.int v)) h := hv ▸ c_X10_in l g h x a b
theorem q_in_t {a b k : Nat} (ha : a ≤ k) (hb : k ≤ b) (h : b < 2 ^ 31) : q_in (nI k) (nI a) (nI b) = nI 1 := by
  unfold q_in
  rw [if_neg (nI_nlt ha (by omega)), if_neg (nI_nlt hb h)]
theorem q_in_f {a b : Nat} {x : Int32} (h : b < 2 ^ 31) (ha : a < 2 ^ 31) (hx : ¬ ∃ k, a ≤ k ∧ k ≤ b ∧ x = nI k) : q_in x (nI a) (nI b) = nI 0 := by
  unfold q_in
  by_cases h0 : x < nI a
  · rw [if_pos h0]
  · rw [if_neg h0]
    have h1 : ¬ x < 0 := by
      intro q
      exact h0 (Int32.lt_of_lt_of_le q (nI_pos' ha))
    obtain ⟨k, hk, rfl⟩ := nI_of h1
    have h2 : a ≤ k := by
      rcases Nat.lt_or_ge k a with q | q
      · exact absurd ((nI_ltI hk ha).mpr q) h0
      · exact q
    rw [if_pos ((nI_ltI h hk).mpr (by
      rcases Nat.lt_or_ge b k with q | q
      · exact q
      · exact absurd ⟨k, h2, q, rfl⟩ hx))]
theorem c_X10_elected_0 (l : Launch) (g : q_GP) (h : q_H) (hs : q_Stat h) {lv nm nd nc mo : Nat} (hp : rm_P h lv nm nd nc mo) {LW : q_LW} (hL : rm_L h lv LW) {w : Nat} (hw : q_I h 154 200 = nI w) (hw2 : w < 2 ^ 20) (hn : 0 < nm) : q_Ct l g 4 mX10_elected [.ref 124, .int (nI 0)] h (fun r h1 => r = some (.int (nI (q_who (q_I h 154) (q_I h 140) (fun k => q_s8 (q_I h 154) (8 * k)) LW lv nm nc w))) ∧ q_mag h h1) := by
  obtain ⟨p1, p2, p3, p4, p5, p6, p7, p8, p9, p10⟩ := id hp
  refine q_CtV mvX10_elected (Nat.le_of_ble_eq_true rfl) ?_
  refine xe_iload_n dX10_elected_0 rfl ?_
  refine xe_iconst dX10_elected_1 kc_0 ?_
  refine xe_iconst dX10_elected_2 kc_1 ?_
  refine xe_callSI (d' := 0) (y' := mX10_in) dX10_elected_3 mlX10_312 msX10_in rfl (by decide) (by decide) (Nat.le_of_ble_eq_true rfl) (c_X10_inv l g _ _ _ _ (q_in_t (by decide) (by decide) (by decide))) rfl ?_
  refine xn_if_ne (tgt := 11) dX10_elected_6 rfl (by omega) (fun c1 => ?_) (fun c1 => ?_)
  · refine xe_aload_n dX10_elected_11 rfl ?_
    refine xe_getP dX10_elected_12 flX10_49 (st124 hs) (by decide) rfl (sp124_24 hs) ?_
    refine xe_aload_n dX10_elected_15 rfl ?_
    refine xe_getIv dX10_elected_16 flX10_228 (st124 hs) (by decide) rfl (v := nI lv) (p1) ?_
    refine xn_ialdv dX10_elected_19 (st135 hs) (by omega) (by decide) (v := nI nm) (p3) ?_
    refine xn_if_ne (tgt := 26) dX10_elected_20 rfl (by omega) (fun c2 => ?_) (fun c2 => ?_)
    · refine xe_aload_n dX10_elected_26 rfl ?_
      refine xe_callVV (d' := 0) (y' := mX10_copies) dX10_elected_27 mlX10_343 mvX10_copies rfl (st124 hs) (by decide) rfl (by decide) (by decide) (Nat.le_of_ble_eq_true rfl) (c_X10_copies l g _ (by exact hs)) rfl ?_
      refine xe_aload_n dX10_elected_30 rfl ?_
      refine xe_callVV (d' := 1) (y' := mX10_fillsHave) dX10_elected_31 mlX10_352 mvX10_fillsHave rfl (st124 hs) (by decide) rfl (by decide) (by decide) (Nat.le_of_ble_eq_true rfl) (c_X10_fillsHave l g _ (by exact hs)) rfl ?_
      refine xe_aload_n dX10_elected_34 rfl ?_
      refine xe_callVIq (d' := 3) (y' := mX10_electedNow) dX10_elected_35 mlX10_395 mvX10_electedNow rfl (st124 hs) (by decide) rfl (by decide) (by decide) (Nat.le_of_ble_eq_true rfl) (c_X10_electedNow l g _ (by exact hs) (by exact hp) (by exact rm_L_of (h := h) ⟨rfl, rfl, rfl, rfl, rfl, rfl, rfl, rfl, rfl⟩ hL) (by exact hw) (by omega)) rfl (fun h1 hq => ?_)
      obtain ⟨V1, p1, b1, rfl⟩ := hq
      refine xe_istore_n (i := 2) dX10_elected_38 rfl (by decide) rfl ?_
      refine xe_iload_n dX10_elected_39 rfl ?_
      refine xn_if_ne (tgt := 47) dX10_elected_40 rfl (by omega) (fun c3 => ?_) (fun c3 => ?_)
      · omega
      · refine xe_iload_n dX10_elected_43 rfl ?_
        refine xe_goto (tgt := 53) dX10_elected_44 rfl ?_
        refine xe_ireturn dX10_elected_53 rfl (by first | rfl | decide +kernel) ?_
        have hq2 := q_who_co (q_req_cpy (q_I h 154) (q_I h 155) (n := 210) (by decide)) (q_I h 140) LW lv (nm := nm) (H := q_fil (fun k => q_s8 (q_cpy (q_I h 154) (q_I h 155) 210) (8 * k)) (q_I h 156) 8) (H' := (fun k => q_s8 (q_I h 154) (8 * k))) (V0 := q_fil (fun _ => nI 0) (q_I h 157) 8) (by omega) (by omega) nc w (fun k hk => (if_pos hk).trans (q_s8_rq (q_req_cpy _ _ (by decide)) (by omega))) (fun k hk => if_pos hk)
        exact ⟨congrArg (fun v => some (Value.int (nI v))) hq2.1, q_mag_s3 (q_mag_w (q_mag_w (q_mag_w (q_mag_r h) _ rfl (by decide)) _ rfl (by decide)) _ rfl (by decide)) _ _ _⟩
    · omega
  · omega
theorem q_who_lt (R C H : Nat → Int32) (LW : q_LW) (lv nm nc w : Nat) (hn : 0 < nm) : q_who R C H LW lv nm nc w < nm := by
  have := q_el_lt (q_vt (fun m => (q_vb (q_vv R C H LW lv nc w m) nm).1) (fun _ => nI 0) nm) H (nm - 1)
  unfold q_who
  omega
theorem c_X10_elected_1 (l : Launch) (g : q_GP) (h : q_H) (hs : q_Stat h) {lv nm nd nc mo : Nat} (hp : rm_P h lv nm nd nc mo) {LW : q_LW} (hL : rm_L h lv LW) {w : Nat} (hw : q_I h 154 200 = nI w) (hw2 : w < 2 ^ 20) (hn : 0 < nm) : q_Ct l g 4 mX10_elected [.ref 124, .int (nI 1)] h (fun r h1 => r = some (.int (q_vts (q_I h 154) (q_I h 140) (fun k => q_s8 (q_I h 154) (8 * k)) LW lv nm nc w (q_who (q_I h 154) (q_I h 140) (fun k => q_s8 (q_I h 154) (8 * k)) LW lv nm nc w))) ∧ q_mag h h1) := by
  obtain ⟨p1, p2, p3, p4, p5, p6, p7, p8, p9, p10⟩ := id hp
  refine q_CtV mvX10_elected (Nat.le_of_ble_eq_true rfl) ?_
  refine xe_iload_n dX10_elected_0 rfl ?_
  refine xe_iconst dX10_elected_1 kc_0 ?_
  refine xe_iconst dX10_elected_2 kc_1 ?_
  refine xe_callSI (d' := 0) (y' := mX10_in) dX10_elected_3 mlX10_312 msX10_in rfl (by decide) (by decide) (Nat.le_of_ble_eq_true rfl) (c_X10_inv l g _ _ _ _ (q_in_t (by decide) (by decide) (by decide))) rfl ?_
  refine xn_if_ne (tgt := 11) dX10_elected_6 rfl (by omega) (fun c1 => ?_) (fun c1 => ?_)
  · refine xe_aload_n dX10_elected_11 rfl ?_
    refine xe_getP dX10_elected_12 flX10_49 (st124 hs) (by decide) rfl (sp124_24 hs) ?_
    refine xe_aload_n dX10_elected_15 rfl ?_
    refine xe_getIv dX10_elected_16 flX10_228 (st124 hs) (by decide) rfl (v := nI lv) (p1) ?_
    refine xn_ialdv dX10_elected_19 (st135 hs) (by omega) (by decide) (v := nI nm) (p3) ?_
    refine xn_if_ne (tgt := 26) dX10_elected_20 rfl (by omega) (fun c2 => ?_) (fun c2 => ?_)
    · refine xe_aload_n dX10_elected_26 rfl ?_
      refine xe_callVV (d' := 0) (y' := mX10_copies) dX10_elected_27 mlX10_343 mvX10_copies rfl (st124 hs) (by decide) rfl (by decide) (by decide) (Nat.le_of_ble_eq_true rfl) (c_X10_copies l g _ (by exact hs)) rfl ?_
      refine xe_aload_n dX10_elected_30 rfl ?_
      refine xe_callVV (d' := 1) (y' := mX10_fillsHave) dX10_elected_31 mlX10_352 mvX10_fillsHave rfl (st124 hs) (by decide) rfl (by decide) (by decide) (Nat.le_of_ble_eq_true rfl) (c_X10_fillsHave l g _ (by exact hs)) rfl ?_
      refine xe_aload_n dX10_elected_34 rfl ?_
      refine xe_callVIq (d' := 3) (y' := mX10_electedNow) dX10_elected_35 mlX10_395 mvX10_electedNow rfl (st124 hs) (by decide) rfl (by decide) (by decide) (Nat.le_of_ble_eq_true rfl) (c_X10_electedNow l g _ (by exact hs) (by exact hp) (by exact rm_L_of (h := h) ⟨rfl, rfl, rfl, rfl, rfl, rfl, rfl, rfl, rfl⟩ hL) (by exact hw) (by omega)) rfl (fun h1 hq => ?_)
      obtain ⟨V1, p1, b1, rfl⟩ := hq
      have hq2 := q_who_co (q_req_cpy (q_I h 154) (q_I h 155) (n := 210) (by decide)) (q_I h 140) LW lv (nm := nm) (H := q_fil (fun k => q_s8 (q_cpy (q_I h 154) (q_I h 155) 210) (8 * k)) (q_I h 156) 8) (H' := (fun k => q_s8 (q_I h 154) (8 * k))) (V0 := q_fil (fun _ => nI 0) (q_I h 157) 8) (by omega) (by omega) nc w (fun k hk => (if_pos hk).trans (q_s8_rq (q_req_cpy _ _ (by decide)) (by omega))) (fun k hk => if_pos hk)
      refine xe_top (v' := nI (q_who (q_I h 154) (q_I h 140) (fun k => q_s8 (q_I h 154) (8 * k)) LW lv nm nc w)) (congrArg nI hq2.1) ?_
      have hwl := q_who_lt (q_I h 154) (q_I h 140) (fun k => q_s8 (q_I h 154) (8 * k)) LW lv nm nc w hn
      refine xe_istore_n (i := 2) dX10_elected_38 rfl (by decide) rfl ?_
      refine xe_iload_n dX10_elected_39 rfl ?_
      refine xn_if_ne (tgt := 47) dX10_elected_40 rfl (by omega) (fun c3 => ?_) (fun c3 => ?_)
      · refine xe_aload_n dX10_elected_47 rfl ?_
        refine xe_getP dX10_elected_48 flX10_116 (st124 hs) (by decide) rfl (sp124_50 hs) ?_
        refine xe_iload_n dX10_elected_51 rfl ?_
        refine xn_iald dX10_elected_52 (st157 hs) (by omega) (by decide) ?_
        refine xe_ireturn dX10_elected_53 rfl (by first | rfl | decide +kernel) ?_
        exact ⟨congrArg (fun v => some (Value.int v)) (hq2.2 _ (by omega)), q_mag_s3 (q_mag_w (q_mag_w (q_mag_w (q_mag_r h) _ rfl (by decide)) _ rfl (by decide)) _ rfl (by decide)) _ _ _⟩
      · omega
    · omega
  · omega
theorem c_X10_elected_n (l : Launch) (g : q_GP) (h : q_H) (hs : q_Stat h) {lv nm nd nc mo : Nat} (hp : rm_P h lv nm nd nc mo) (hn : nm = 0) (x : Nat) (hx : x < 2) : q_Cd l g 4 mX10_elected [.ref 124, .int (nI x)] h (some (.int (-2))) h := by
  obtain ⟨p1, p2, p3, p4, p5, p6, p7, p8, p9, p10⟩ := id hp
  refine q_CdV mvX10_elected (Nat.le_of_ble_eq_true rfl) ?_
  refine xe_iload_n dX10_elected_0 rfl ?_
  refine xe_iconst dX10_elected_1 kc_0 ?_
  refine xe_iconst dX10_elected_2 kc_1 ?_
  refine xe_callSI (d' := 0) (y' := mX10_in) dX10_elected_3 mlX10_312 msX10_in rfl (by decide) (by decide) (Nat.le_of_ble_eq_true rfl) (c_X10_inv l g _ _ _ _ (q_in_t (by omega) (by omega) (by decide))) rfl ?_
  refine xn_if_ne (tgt := 11) dX10_elected_6 rfl (by omega) (fun c1 => ?_) (fun c1 => ?_)
  · refine xe_aload_n dX10_elected_11 rfl ?_
    refine xe_getP dX10_elected_12 flX10_49 (st124 hs) (by decide) rfl (sp124_24 hs) ?_
    refine xe_aload_n dX10_elected_15 rfl ?_
    refine xe_getIv dX10_elected_16 flX10_228 (st124 hs) (by decide) rfl (v := nI lv) (p1) ?_
    refine xn_ialdv dX10_elected_19 (st135 hs) (by omega) (by decide) (v := nI nm) (p3) ?_
    refine xn_if_ne (tgt := 26) dX10_elected_20 rfl (by omega) (fun c2 => ?_) (fun c2 => ?_)
    · omega
    · refine xe_bipush dX10_elected_23 kb_m2 ?_
      refine xe_ireturn dX10_elected_25 rfl (by first | rfl | decide +kernel) ?_
      exact ⟨rfl, rfl⟩
  · omega
theorem c_X10_elected_f (l : Launch) (g : q_GP) (h : q_H) (hs : q_Stat h) {lv nm nd nc mo : Nat} (hp : rm_P h lv nm nd nc mo) (x : Int32) (hx : ¬ ∃ k, 0 ≤ k ∧ k ≤ 1 ∧ x = nI k) : q_Cd l g 4 mX10_elected [.ref 124, .int x] h (some (.int (-1))) h := by
  obtain ⟨p1, p2, p3, p4, p5, p6, p7, p8, p9, p10⟩ := id hp
  refine q_CdV mvX10_elected (Nat.le_of_ble_eq_true rfl) ?_
  refine xe_iload_n dX10_elected_0 rfl ?_
  refine xe_iconst dX10_elected_1 kc_0 ?_
  refine xe_iconst dX10_elected_2 kc_1 ?_
  refine xe_callSI (d' := 0) (y' := mX10_in) dX10_elected_3 mlX10_312 msX10_in rfl (by decide) (by decide) (Nat.le_of_ble_eq_true rfl) (c_X10_inv l g _ _ _ _ (q_in_f (by decide) (by decide) hx)) rfl ?_
  refine xn_if_ne (tgt := 11) dX10_elected_6 rfl (by omega) (fun c1 => ?_) (fun c1 => ?_)
  · omega
  · refine xe_iconst dX10_elected_9 kc_m1 ?_
    refine xe_ireturn dX10_elected_10 rfl (by first | rfl | decide +kernel) ?_
    exact ⟨rfl, rfl⟩
