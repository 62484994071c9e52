/-! weeks: both sides alike; warm, warmBy -/
theorem gv_n {v : Nat} (hv : v < 2 ^ 30) (t : Int32) : ∃ g, g ≤ 999 ∧ (if nI v + q_held t ≤ nI 9999 then q_held t else if nI v ≤ nI 9999 then nI 9999 - nI v else nI 0) = nI g ∧ nI v + (if nI 0 < (if nI 9999 - nI v < q_held t then nI 9999 - nI v else q_held t) then (if nI 9999 - nI v < q_held t then nI 9999 - nI v else q_held t) else nI 0) = nI (v + g) := by
  obtain ⟨k, hk, e⟩ := q_held_n t
  rw [e]
  by_cases h : v ≤ 9999
  · rw [pk_sub h]
    by_cases h2 : v + k ≤ 9999
    · have c1 : nI (v + k) ≤ nI 9999 := (nI_leI (a := v + k) (b := 9999) (by omega) (by decide)).mpr h2
      have c2 : ¬ nI (9999 - v) < nI k := fun q => by
        have := (nI_ltI (a := 9999 - v) (b := k) (by omega) (by omega)).mp q
        omega
      refine ⟨k, hk, ?_, ?_⟩
      · rw [nI_add, if_pos c1]
      · rw [if_neg c2]
        by_cases h0 : 0 < k
        · have c3 : nI 0 < nI k := (nI_ltI (a := 0) (b := k) (by decide) (by omega)).mpr h0
          rw [if_pos c3, nI_add]
        · rw [show k = 0 by omega, if_neg (Int32.lt_irrefl), nI_add]
    · have c1 : ¬ nI (v + k) ≤ nI 9999 := fun q => h2 ((nI_leI (a := v + k) (b := 9999) (by omega) (by decide)).mp q)
      have c2 : nI v ≤ nI 9999 := (nI_leI (a := v) (b := 9999) (by omega) (by decide)).mpr h
      have c3 : nI (9999 - v) < nI k := (nI_ltI (a := 9999 - v) (b := k) (by omega) (by omega)).mpr (by omega)
      refine ⟨9999 - v, by omega, ?_, ?_⟩
      · rw [nI_add, if_neg c1, if_pos c2]
      · rw [if_pos c3]
        by_cases h0 : 0 < 9999 - v
        · have c4 : nI 0 < nI (9999 - v) := (nI_ltI (a := 0) (b := 9999 - v) (by decide) (by omega)).mpr h0
          rw [if_pos c4, nI_add]
        · rw [show 9999 - v = 0 by omega, if_neg (Int32.lt_irrefl), nI_add]
  · have hn : (nI 9999 - nI v).toInt = 9999 - (v : Int) := by
      rw [Int32.toInt_sub, nI_toInt (by decide), nI_toInt (by omega)]
      exact Int.bmod_eq_of_le (by omega) (by omega)
    have hneg : nI 9999 - nI v < nI 0 := by
      rw [Int32.lt_iff_toInt_lt, hn, nI_toInt (by decide)]
      omega
    have hlk : nI 9999 - nI v < nI k := Int32.lt_of_lt_of_le hneg (nI_le (Nat.zero_le k) (by omega))
    have hno : ¬ nI 0 < nI 9999 - nI v := fun q => by
      rw [Int32.lt_iff_toInt_lt, hn, nI_toInt (by decide)] at q
      omega
    have c1 : ¬ nI (v + k) ≤ nI 9999 := fun q => by
      have := (nI_leI (a := v + k) (b := 9999) (by omega) (by decide)).mp q
      omega
    have c2 : ¬ nI v ≤ nI 9999 := fun q => h ((nI_leI (a := v) (b := 9999) (by omega) (by decide)).mp q)
    refine ⟨0, by decide, ?_, ?_⟩
    · rw [nI_add, if_neg c1, if_neg c2]
    · rw [if_pos hlk, if_neg hno, nI_add]
theorem up_hv {f : Nat → Nat} {m k v : Nat} (hk : k < 8) : q_hv (q_up f (8 * m + k) v) m + f (8 * m + k) = q_hv f m + v := by
  have e : q_hv (q_up f (8 * m + k) v) m = q_ns (q_up (fun j => f (8 * m + j)) k v) 8 := q_ns_co (fun j hj => by
    unfold q_up
    by_cases q : j = k
    · rw [if_pos (by rw [q]), if_pos q]
    · rw [if_neg (by omega), if_neg q])
  rw [e]
  exact q_ns_up (f := fun j => f (8 * m + j)) 8 hk
theorem up_hv_ne {f : Nat → Nat} {m i v : Nat} (h : i / 8 ≠ m) : q_hv (q_up f i v) m = q_hv f m := q_ns_co (fun j hj => q_up_n (by omega))
def wk_N (v t : Int32) : Int32 := v + (if nI 0 < (if nI 9999 - v < q_held t then nI 9999 - v else q_held t) then (if nI 9999 - v < q_held t then nI 9999 - v else q_held t) else nI 0)
def wk_t (C : Nat → Int32) (LW : q_LW) (lv nc w : Nat) (R : Nat → Int32) (m : Nat) : Int32 := q_tel (q_see R C lv nc w m (q_s8 R (8 * m)) (q_s8 R (136 + 8 * m))) (LW 16) (nI 0)
section
variable {C C' : Nat → Int32} {LW : q_LW} {lv nm nc mo w : Nat} {R : Nat → Int32} {f : Nat → Nat}
theorem gv_co {m : Nat} (hm : m < 8) : q_gv C LW lv nc w (q_gr C LW lv nc w R m) m = q_gv C LW lv nc w R m := by
  have e1 : q_s8 (q_gr C LW lv nc w R m) (8 * m) = q_s8 R (8 * m) := q_s8_co (fun k hk => q_gr_ne C LW lv nc w R m _ (fun j hj => by omega))
  have e2 : q_s8 (q_gr C LW lv nc w R m) (136 + 8 * m) = q_s8 R (136 + 8 * m) := q_s8_co (fun k hk => q_gr_ne C LW lv nc w R m _ (fun j hj => by omega))
  have e3 : q_s8 (q_gr C LW lv nc w R m) 64 = q_s8 R 64 := q_s8_co (fun k hk => q_gr_ne C LW lv nc w R m _ (fun j hj => by omega))
  unfold q_gv q_see
  rw [e1, e2, e3]
theorem gr_n (hr : q_rn R f) (ht : q_ns f 72 < 2 ^ 30) : ∀ m, m ≤ 8 → ∃ f', q_rn (q_gr C LW lv nc w R m) f' ∧ q_ns f' 72 ≤ q_ns f 72 + 999 * m ∧ (∀ j, (∀ i, i < m → j ≠ 9 * i) → f' j = f j) ∧ (∀ i, i < m → nI (q_hv f' i) = wk_N (nI (q_hv f i)) (wk_t C LW lv nc w R i)) ∧ ∀ i, m ≤ i → q_hv f' i = q_hv f i
  | 0, _ => ⟨f, hr, Nat.le_refl _, fun _ _ => rfl, fun i hi => absurd hi (Nat.not_lt_zero _), fun _ _ => rfl⟩
  | m + 1, hm => by
    obtain ⟨f', h1, h2, h3, h4, h5⟩ := gr_n hr ht m (by omega)
    have hv : q_hv f m < 2 ^ 30 := by have := q_hv_le f (g := m) (by omega); omega
    obtain ⟨g, hg, g1, g2⟩ := gv_n hv (wk_t C LW lv nc w R m)
    have eg : q_gv C LW lv nc w (q_gr C LW lv nc w R m) m = nI g := by
      rw [gv_co (by omega), ← g1]
      unfold q_gv
      rw [show q_s8 R (8 * m) = nI (q_hv f m) from q_rn_s8 hr (by omega)]
      unfold wk_t
      rw [show q_s8 R (8 * m) = nI (q_hv f m) from q_rn_s8 hr (by omega)]
    have e9 : q_gr C LW lv nc w R m (9 * m) + nI g = nI (f' (9 * m) + g) := by rw [h1 _ (by omega), nI_add]
    have es : q_gr C LW lv nc w R (m + 1) = upd (q_gr C LW lv nc w R m) (9 * m) (nI (f' (9 * m) + g)) := by
      show upd _ (9 * m) (q_gr C LW lv nc w R m (9 * m) + q_gv C LW lv nc w (q_gr C LW lv nc w R m) m) = _
      rw [eg, e9]
    refine ⟨q_up f' (9 * m) (f' (9 * m) + g), by rw [es]; exact q_rn_up h1 _ _, ?_, fun j hj => ?_, fun i hi => ?_, fun i hi => ?_⟩
    · have := q_ns_up (f := f') (k := 9 * m) (v := f' (9 * m) + g) 72 (by omega)
      omega
    · rw [q_up_n (hj m (by omega))]
      exact h3 j (fun i hi => hj i (by omega))
    · by_cases q : i = m
      · subst q
        have u := up_hv (f := f') (m := i) (k := i) (v := f' (9 * i) + g) (by omega)
        rw [show 8 * i + i = 9 * i by omega, h5 i (Nat.le_refl _)] at u
        rw [show q_hv (q_up f' (9 * i) (f' (9 * i) + g)) i = q_hv f i + g by omega, ← g2]
        rfl
      · rw [up_hv_ne (by omega)]
        exact h4 i (by omega)
    · rw [up_hv_ne (by omega)]
      exact h5 i (by omega)
theorem mlt_n {w k mo : Nat} : (0 < mo ∧ w / mo < (w + (k + 1)) / mo) ↔ ((mo ≠ 0 ∧ (w + k + 1) % mo = 0) ∨ (0 < mo ∧ w / mo < (w + k) / mo)) := by
  have hm : w / mo ≤ (w + k) / mo := Nat.div_le_div_right (by omega)
  have e := Nat.succ_div (a := w + k) (b := mo)
  rw [show w + (k + 1) = w + k + 1 by omega, e]
  by_cases h0 : mo = 0
  · subst h0
    simp
  · by_cases hd : mo ∣ w + k + 1
    · rw [if_pos hd]
      have := Nat.mod_eq_zero_of_dvd hd
      constructor
      · intro _
        exact Or.inl ⟨h0, this⟩
      · intro _
        exact ⟨by omega, by omega⟩
    · rw [if_neg hd]
      have : ¬ (w + k + 1) % mo = 0 := fun q => hd (Nat.dvd_of_mod_eq_zero q)
      constructor
      · intro q
        exact Or.inr ⟨q.1, by omega⟩
      · intro q
        rcases q with q | q
        · exact absurd q.2 this
        · exact ⟨q.1, by omega⟩
def wk_ok (C : Nat → Int32) (LW : q_LW) (nm nc mo w : Nat) (R : Nat → Int32) (f : Nat → Nat) (k : Nat) (R' : Nat → Int32) (f' : Nat → Nat) : Prop :=
  q_rn R' f' ∧ q_ns f' 72 ≤ q_ns f 72 + 7992 * k ∧ (∀ j, (∀ i, i < nm → j ≠ 9 * i) → f' j = f j) ∧ (∀ i, i < nm → nI (q_hv f' i) = q_kB R C LW nc mo w i k) ∧ (∀ j, j < 64 → R' (136 + j) = if 0 < mo ∧ w / mo < (w + k) / mo then nI 0 else R (136 + j)) ∧ (∀ j, 72 ≤ j → j < 136 ∨ 200 < j → R' j = R j) ∧ R' 200 = nI (w + k)
theorem wk_s8t {k : Nat} {R' : Nat → Int32} {f' : Nat → Nat} (a : wk_ok C LW nm nc mo w R f k R' f') {m : Nat} (hm : m < 8) : q_s8 R' (136 + 8 * m) = q_kT R mo w m (w + k) := by
  obtain ⟨a1, a2, a3, a4, a5, a6, a7⟩ := a
  unfold q_kT
  by_cases h : 0 < mo ∧ w / mo < (w + k) / mo
  · rw [if_pos h]
    have e : q_s8 R' (136 + 8 * m) = q_s8 (fun _ => nI 0) (136 + 8 * m) := q_s8_co (fun j hj => by
      have := a5 (8 * m + j) (by omega)
      rw [if_pos h, ← Nat.add_assoc] at this
      exact this)
    rw [e]
    rfl
  · rw [if_neg h]
    exact q_s8_co (fun j hj => by
      have := a5 (8 * m + j) (by omega)
      rw [if_neg h, ← Nat.add_assoc] at this
      exact this)
theorem wk_see (hC : sC C C' lv nc) (hnm : nm ≤ 8) (hr : q_rn R f) {k : Nat} {R' : Nat → Int32} {f' : Nat → Nat} (a : wk_ok C LW nm nc mo w R f k R' f') {m : Nat} (hm : m < nm) : q_see R' C' lv nc (w + k) m (q_s8 R' (8 * m)) (q_s8 R' (136 + 8 * m)) = q_see R C 0 nc (w + k) m (q_kB R C LW nc mo w m k) (q_kT R mo w m (w + k)) ∧ q_s8 R' (8 * m) = q_kB R C LW nc mo w m k := by
  have e1 : q_s8 R' (8 * m) = q_kB R C LW nc mo w m k := (q_rn_s8 a.1 (by omega)).trans (a.2.2.2.1 m hm)
  have e2 : q_s8 R' 64 = q_s8 R 64 := q_s8_co (fun j hj => by
    rw [a.1 _ (by omega), hr _ (by omega), a.2.2.1 _ (fun i hi => by omega)])
  refine ⟨?_, e1⟩
  unfold q_see
  rw [e1, e2, wk_s8t a (by omega), hC (w + k)]
theorem wks_n (hC : sC C C' lv nc) (hnm : nm ≤ 8) (hr : q_rn R f) (ht : q_ns f 72 < 2 ^ 29) (hw : R 200 = nI w) : ∀ k, k ≤ 200 → ∃ f', wk_ok C LW nm nc mo w R f k (q_wks C' LW lv nm nc mo w R k) f'
  | 0, _ => ⟨f, hr, Nat.le_refl _, fun _ _ => rfl, fun i hi => (q_rn_s8 hr (by omega)).symm, fun j hj => by rw [Nat.add_zero, if_neg (fun q => Nat.lt_irrefl _ q.2)]; rfl, fun _ _ _ => rfl, hw⟩
  | k + 1, hk => by
    obtain ⟨f', a⟩ := wks_n hC hnm hr ht hw k (by omega)
    have hb : q_ns f' 72 < 2 ^ 30 := by have := a.2.1; omega
    obtain ⟨f2, b1, b2, b3, b4, b5⟩ := gr_n (C := C') (LW := LW) (lv := lv) (nc := nc) (w := w + k) a.1 hb nm hnm
    have eW : q_wks C' LW lv nm nc mo w R (k + 1) = upd (if mo ≠ 0 ∧ (w + k + 1) % mo = 0 then q_clr (q_gr C' LW lv nc (w + k) (q_wks C' LW lv nm nc mo w R k) nm) 64 else q_gr C' LW lv nc (w + k) (q_wks C' LW lv nm nc mo w R k) nm) 200 (nI (w + k + 1)) := rfl
    have lo : ∀ j, j < 136 ∨ 200 < j → q_wks C' LW lv nm nc mo w R (k + 1) j = q_gr C' LW lv nc (w + k) (q_wks C' LW lv nm nc mo w R k) nm j := fun j hj => by
      rw [eW, pk_un (by omega)]
      split
      · unfold q_clr
        rw [if_neg (by omega)]
      · rfl
    refine ⟨f2, fun j hj => (lo j (by omega)).trans (b1 j hj), by have := a.2.1; omega, fun j hj => (b3 j hj).trans (a.2.2.1 j hj), fun i hi => ?_, fun j hj => ?_, fun j h1 h2 => ?_, ?_⟩
    · rw [b4 i hi, a.2.2.2.1 i hi]
      unfold wk_t
      rw [(wk_see hC hnm hr a hi).1]
      rfl
    · rw [eW, pk_un (by omega)]
      have eg := q_gr_ne C' LW lv nc (w + k) (q_wks C' LW lv nm nc mo w R k) nm (136 + j) (fun i hi => by omega)
      by_cases hc : mo ≠ 0 ∧ (w + k + 1) % mo = 0
      · rw [if_pos hc, if_pos (mlt_n.mpr (Or.inl hc))]
        unfold q_clr
        rw [if_pos (by omega)]
      · rw [if_neg hc, eg, a.2.2.2.2.1 j hj]
        by_cases h2 : 0 < mo ∧ w / mo < (w + k) / mo
        · rw [if_pos h2, if_pos (mlt_n.mpr (Or.inr h2))]
        · rw [if_neg h2, if_neg (fun q => (mlt_n.mp q).elim hc h2)]
    · rw [lo j h2, q_gr_ne C' LW lv nc (w + k) _ nm j (fun i hi => by omega)]
      exact a.2.2.2.2.2.1 j h1 h2
    · rw [eW, pk_us]
      rfl
theorem wrm_n (hC : sC C C' lv nc) (hnm : nm ≤ 8) (hr : q_rn R f) (ht : q_ns f 72 < 2 ^ 29) (hw : R 200 = nI w) {k m : Nat} (hk : k ≤ 200) (hm : m < nm) : q_wrm (q_wks C' LW lv nm nc mo w R k) C' LW lv nc (w + k) m = q_kW R C LW nc mo w m (q_kB R C LW nc mo w m k) (w + k) := by
  obtain ⟨f', a⟩ := wks_n (LW := LW) (mo := mo) hC hnm hr ht hw k hk
  obtain ⟨e1, e2⟩ := wk_see hC hnm hr a hm
  unfold q_wrm q_kW
  rw [e1, e2, hC (w + k)]
theorem kA_co {R R' : Nat → Int32} (hq : q_req R R') {m : Nat} (hm : m < 8) (k : Nat) : q_kA R C LW nc mo w m k = q_kA R' C LW nc mo w m k := by
  have e1 : q_s8 R (8 * m) = q_s8 R' (8 * m) := q_s8_rq hq (by omega)
  have e2 : q_s8 R 64 = q_s8 R' 64 := q_s8_rq hq (by omega)
  have e3 : q_s8 R (136 + 8 * m) = q_s8 R' (136 + 8 * m) := q_s8_rq hq (by omega)
  have e4 := q_kB_co (C := C) (LW := LW) (nc := nc) (mo := mo) (w := w) e1 e2 e3 k
  unfold q_kA q_kW q_kT q_see
  rw [e2, e3, e4]
end
theorem kA_w {C C' : Nat → Int32} {LW : q_LW} {lv nm nc mo w : Nat} {R R' : Nat → Int32} {f : Nat → Nat} (hq : q_req R R') (hC : sC C C' lv nc) (hnm : nm ≤ 8) (hr : q_rn R' f) (ht : q_ns f 72 < 2 ^ 29) (hw : R' 200 = nI w) {k m : Nat} (hk : k ≤ 200) (hm : m < nm) : decide (0 < q_wrm (q_wks C' LW lv nm nc mo w R' k) C' LW lv nc (w + k) m) = q_kA R C LW nc mo w m k := by
  rw [kA_co hq (by omega), wrm_n (C := C) hC hnm hr ht hw hk hm]
  rfl
theorem set_co {P P' : Nat → Bool} : ∀ n, (∀ k, k < n → P k = P' k) → q_set P n = q_set P' n
  | 0, _ => rfl
  | n + 1, h => by
    unfold q_set
    rw [set_co n (fun k hk => h k (by omega)), h n (by omega)]
theorem fnd_co {P P' : Nat → Bool} : ∀ n k, (∀ i, i < n → P (k + i) = P' (k + i)) → q_fnd P n k = q_fnd P' n k
  | 0, _, _ => rfl
  | n + 1, k, h => by
    unfold q_fnd
    rw [show P k = P' k from h 0 (by omega), fnd_co (P := P) (P' := P') n (k + 1) (fun i hi => by rw [show k + 1 + i = k + (i + 1) by omega]; exact h (i + 1) (by omega))]
theorem kag2_p {h : q_H} {p : Nat} (hp : p = 10 ∨ p = 22) (V S : Nat → Int32) : q_kag2 h (q_wI (q_wI h (p + 10) V) (p + 11) S) := by
  rcases hp with rfl | rfl
  · exact q_kag_2 (q_kag_o (by repeat (first | exact q_out_r | refine q_out_w rfl ?_)))
  · exact q_kag_2 (q_kag_o (by repeat (first | exact q_out_r | refine q_out_w rfl ?_)))
theorem q_Ct_p {l : Launch} {g : q_GP} {d : Nat} {y : q_MI} {as : List Value} {h : q_H} {v : Int32} {p : Nat} (hp : p = 10 ∨ p = 22) (C : q_Ct l g d y as h (fun r h1 => r = some (.int v) ∧ ∃ V S, h1 = q_wI (q_wI h (p + 10) V) (p + 11) S)) : q_Ct l g d y as h (fun r h1 => r = some (.int v) ∧ q_kag2 h h1) := q_Ct_post (fun r h1 q => by
  obtain ⟨q1, V, S, rfl⟩ := q
  exact ⟨q1, kag2_p hp V S⟩) C
theorem st_warmBy (l : Launch) (g : q_GP) {i : Nat} {h : q_H} (hi : i ≤ 512) (hR : RR i h) (x : Int32) : q_2 l g i h mX9_warmBy [.ref 0, .int x] mX10_warmBy [.ref 124, .int x] := by
  obtain ⟨aS, aT, aP, aW, aZ, p, nm, nd, nc, mo, n, lv, LW, gu, aL, aN, aU, aH, aD⟩ := id hR
  have hs := aS.1
  obtain ⟨hp, hLk, hm, hLm, aP3, aG, aC, aV⟩ := id aL
  have hnm : nm ≤ 8 := hp.2.2.2.2.2.1
  have hnd : nd ≤ 8 := hp.2.2.2.2.2.2.2.1
  have hq := rel_req aN
  have hC := sC_of aC
  obtain ⟨w, E, em, ed, ew, ep, ea, f, rw_, sv, tm⟩ := id aN
  have hwc : q_I h 34 6 = nI w := sv.1
  have hwr : q_I h 154 200 = nI w := rw_.1
  have hw2 : w < 2 ^ 19 := by have := rw_.2.1; omega
  have hw3 : w < 2 ^ 20 := by omega
  have hE1 : q_I h 34 5 = nI E := sv.2.1
  have hEr : q_I h 154 201 = nI E := rw_.2.2.1
  have hE2 : E ≤ 300 := rw_.2.2.2.1
  have hEE := rel_E (by omega) hnm rw_ sv
  have hrn := rw_.2.2.2.2.2.2.1
  have hns : q_ns f 72 < 2 ^ 30 := by have := rw_.2.2.2.2.2.2.2.1; omega
  have hs8 : ∀ k, k < 9 → q_s8 (q_cr h) (8 * k) = q_s8 (q_I h 154) (8 * k) := fun k hk => q_s8_rq hq (by omega)
  have hhv : ∀ k, k < 9 → q_s8 (q_I h 154) (8 * k) = nI (q_hv f k) ∧ q_hv f k < 2 ^ 30 := fun k hk => ⟨q_rn_s8 hrn hk, by have := q_hv_le f hk; omega⟩
  have hR2 : ∀ T : Nat → Int32, q_req (q_cr h) (q_cpy (q_I h 154) T 210) := fun T k hk => (hq k hk).trans (if_pos hk : q_cpy (q_I h 154) T 210 k = q_I h 154 k).symm
  have hr2 : ∀ T : Nat → Int32, q_rn (q_cpy (q_I h 154) T 210) f := fun T k hk => (if_pos (by omega) : q_cpy (q_I h 154) T 210 k = q_I h 154 k).trans (hrn k hk)
  have ht2 : q_ns f 72 < 2 ^ 29 := by have := rw_.2.2.2.2.2.2.2.1; omega
  have hw4 : ∀ T : Nat → Int32, q_cpy (q_I h 154) T 210 200 = nI w := fun T => (if_pos (by decide) : q_cpy (q_I h 154) T 210 200 = q_I h 154 200).trans hwr
  by_cases hx : q_isN x nm
  · obtain ⟨m, hm8, rfl⟩ := isN_e (by omega) hx
    exact q_2q hR (v2 := q_fndv (q_fnd (q_wat (q_I h 140) LW lv nm nc mo w (q_cpy (q_I h 154) (q_I h 155) 210) m) 201 0)) (d2 := 3) (by decide) (by decide) (q_Ct_p hp.2.1 (c_X9_warmBy_t l g h hs hp (hLk (by omega)) hwc hw3 hm8)) ((congrArg q_fndv (fnd_co 201 0 (fun k hk => kA_w (hR2 _) hC hnm (hr2 _) ht2 (hw4 _) (by omega) hm8))).trans fnd_fst) (fun h1 hk => by
    obtain ⟨hs1, aL1, er⟩ := rel_1 hk hs aL
    have e154 := er 154 (by decide)
    have e140 := er 140 (by decide)
    have e124 := er 124 (by decide)
    have c := c_X10_warmBy_t l g h1 hs1 aL1.2.2.1 aL1.2.2.2.1 (by rw [e154]; exact hwr) hw2 hm8
    (try simp only [e154, e140, e124] at c)
    rw [er 155 (by decide)] at c
    exact c)
  · exact q_2q hR  (d2 := 3) (by decide) (by decide) (q_Ct_d (c_X9_warmBy_f l g h hs hp hx)) (rfl) (fun h1 hk => by
    obtain ⟨hs1, aL1, er⟩ := rel_1 hk hs aL
    have e154 := er 154 (by decide)
    have e140 := er 140 (by decide)
    have e124 := er 124 (by decide)
    have c := c_X10_warmBy_f l g h1 hs1 aL1.2.2.1 x hx
    (try simp only [e154, e140, e124] at c)
    exact q_Ct_m c)
theorem st_warm (l : Launch) (g : q_GP) {i : Nat} {h : q_H} (hi : i ≤ 512) (hR : RR i h) (x : Int32) : q_2 l g i h mX9_warm [.ref 0, .int x] mX10_warm [.ref 124, .int x] := by
  obtain ⟨aS, aT, aP, aW, aZ, p, nm, nd, nc, mo, n, lv, LW, gu, aL, aN, aU, aH, aD⟩ := id hR
  have hs := aS.1
  obtain ⟨hp, hLk, hm, hLm, aP3, aG, aC, aV⟩ := id aL
  have hnm : nm ≤ 8 := hp.2.2.2.2.2.1
  have hnd : nd ≤ 8 := hp.2.2.2.2.2.2.2.1
  have hq := rel_req aN
  have hC := sC_of aC
  obtain ⟨w, E, em, ed, ew, ep, ea, f, rw_, sv, tm⟩ := id aN
  have hwc : q_I h 34 6 = nI w := sv.1
  have hwr : q_I h 154 200 = nI w := rw_.1
  have hw2 : w < 2 ^ 19 := by have := rw_.2.1; omega
  have hw3 : w < 2 ^ 20 := by omega
  have hE1 : q_I h 34 5 = nI E := sv.2.1
  have hEr : q_I h 154 201 = nI E := rw_.2.2.1
  have hE2 : E ≤ 300 := rw_.2.2.2.1
  have hEE := rel_E (by omega) hnm rw_ sv
  have hrn := rw_.2.2.2.2.2.2.1
  have hns : q_ns f 72 < 2 ^ 30 := by have := rw_.2.2.2.2.2.2.2.1; omega
  have hs8 : ∀ k, k < 9 → q_s8 (q_cr h) (8 * k) = q_s8 (q_I h 154) (8 * k) := fun k hk => q_s8_rq hq (by omega)
  have hhv : ∀ k, k < 9 → q_s8 (q_I h 154) (8 * k) = nI (q_hv f k) ∧ q_hv f k < 2 ^ 30 := fun k hk => ⟨q_rn_s8 hrn hk, by have := q_hv_le f hk; omega⟩
  have hR2 : ∀ T : Nat → Int32, q_req (q_cr h) (q_cpy (q_I h 154) T 210) := fun T k hk => (hq k hk).trans (if_pos hk : q_cpy (q_I h 154) T 210 k = q_I h 154 k).symm
  have hr2 : ∀ T : Nat → Int32, q_rn (q_cpy (q_I h 154) T 210) f := fun T k hk => (if_pos (by omega) : q_cpy (q_I h 154) T 210 k = q_I h 154 k).trans (hrn k hk)
  have ht2 : q_ns f 72 < 2 ^ 29 := by have := rw_.2.2.2.2.2.2.2.1; omega
  have hw4 : ∀ T : Nat → Int32, q_cpy (q_I h 154) T 210 200 = nI w := fun T => (if_pos (by decide) : q_cpy (q_I h 154) T 210 200 = q_I h 154 200).trans hwr
  by_cases hx : ∃ k, 0 ≤ k ∧ k ≤ 200 ∧ x = nI k
  · obtain ⟨k, -, hk2, rfl⟩ := hx
    exact q_2q hR (v2 := q_wst (q_wks (q_I h 140) LW lv nm nc mo w (q_cpy (q_I h 154) (q_I h 155) 210) k) (q_I h 140) LW lv nc (w + k) nm) (d2 := 3) (by decide) (by decide) (q_Ct_p hp.2.1 (c_X9_warm_t l g h hs hp hLk hwc hw3 hk2)) (set_co nm (fun m hm => kA_w (hR2 _) hC hnm (hr2 _) ht2 (hw4 _) hk2 hm)) (fun h1 hk => by
    obtain ⟨hs1, aL1, er⟩ := rel_1 hk hs aL
    have e154 := er 154 (by decide)
    have e140 := er 140 (by decide)
    have e124 := er 124 (by decide)
    have c := c_X10_warm_t l g h1 hs1 aL1.2.2.1 aL1.2.2.2.1 (by rw [e154]; exact hwr) hw2 hk2
    (try simp only [e154, e140, e124] at c)
    rw [er 155 (by decide)] at c
    exact c)
  · exact q_2q hR  (d2 := 3) (by decide) (by decide) (q_Ct_d (c_X9_warm_f l g h hs hx)) (rfl) (fun h1 hk => by
    obtain ⟨hs1, aL1, er⟩ := rel_1 hk hs aL
    have e154 := er 154 (by decide)
    have e140 := er 140 (by decide)
    have e124 := er 124 (by decide)
    have c := c_X10_warm_f l g h1 hs1 aL1.2.2.1 x hx
    (try simp only [e154, e140, e124] at c)
    exact q_Ct_m c)
