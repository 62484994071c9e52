/-! questions: both answer alike -/
theorem isN_e {x : Int32} {n : Nat} (hn : n < 2 ^ 31) (h : q_isN x n) : ∃ k, k < n ∧ x = nI k := by
  obtain ⟨k, hk, rfl⟩ := nI_of (Int32.not_lt.mpr h.1)
  exact ⟨k, (nI_ltI hk hn).mp h.2, rfl⟩
theorem isN_n {k n : Nat} (hn : n < 2 ^ 31) (h : k < n) : q_isN (nI k) n := ⟨nI_pos' (by omega), nI_lt h hn⟩
theorem sw_n {z : Int32} {n : Nat} (hn : n < 2 ^ 31) (h : ¬ ∃ k, 0 ≤ k ∧ k ≤ n ∧ z = nI k) : z.toInt < 0 ∨ (n : Int) < z.toInt := by
  by_cases h0 : z < 0
  · exact Or.inl (Int32.lt_iff_toInt_lt.mp h0)
  · obtain ⟨k, hk, rfl⟩ := nI_of h0
    right
    rw [nI_toInt hk]
    rcases Nat.lt_or_ge n k with q | q
    · omega
    · exact absurd ⟨k, Nat.zero_le _, q, rfl⟩ h
theorem two_e {x z : Int32} {n : Nat} (hn : n < 2 ^ 31) (h : q_two x z n) : ∃ a b, a < n ∧ b < n ∧ ¬ a = b ∧ x = nI a ∧ z = nI b := by
  obtain ⟨a, ha, rfl⟩ := isN_e hn h.1
  obtain ⟨b, hb, rfl⟩ := isN_e hn h.2.1
  exact ⟨a, b, ha, hb, fun q => h.2.2 (by rw [q]), rfl, rfl⟩
theorem rel_req {i : Nat} {h : q_H} {mo nm : Nat} (a : RN i h mo nm) : q_req (q_cr h) (q_I h 154) := by
  obtain ⟨w, E, em, ed, ew, ep, ea, f, r, v, t⟩ := a
  intro k hk
  unfold q_cr
  by_cases h1 : k < 72
  · rw [if_pos h1]
    exact v.2.2.2.1 k h1
  · rw [if_neg h1]
    by_cases h2 : k < 136
    · rw [if_pos h2]
      have := v.2.2.2.2 (k - 72) (by omega)
      rw [show 72 + (k - 72) = k by omega] at this
      exact this
    · rw [if_neg h2]
      by_cases h3 : k < 200
      · rw [if_pos h3]
        have := t (k - 136) (by omega)
        rw [show 136 + (k - 136) = k by omega] at this
        exact this
      · rw [if_neg h3]
        by_cases h4 : k = 200
        · rw [if_pos h4, h4]
          exact v.1.trans r.1.symm
        · rw [if_neg h4]
          by_cases h5 : k = 201
          · rw [if_pos h5, h5]
            exact v.2.1.trans r.2.2.1.symm
          · rw [if_neg h5]
            exact (r.2.2.2.2.1 k (by omega) hk).symm
theorem rel_1 {h h1 : q_H} (hk : q_kag2 h h1) (hs : q_Stat h) {p nm nd nc mo n lv : Nat} {LW : q_LW} {gu : Nat → Nat} (aL : RLW h p nm nd nc mo n lv LW gu) : q_Stat h1 ∧ RLW h1 p nm nd nc mo n lv LW gu ∧ ∀ r, 123 < r → q_I h1 r = q_I h r := by
  obtain ⟨k1, k2⟩ := kag2_k hk
  exact ⟨q_Stat_2 k1 hs, RLW_k (congrArg (fun z => z.2.1 0) k1) (fun r r1 r2 r3 r4 => k2 r (by omega)) (congrFun (k2 124 (by decide)) 18) (fun r r1 r2 => k2 r (by omega)) aL, fun r hr => k2 r (by omega)⟩
theorem rel_E {i : Nat} {h : q_H} {mo nm w E : Nat} {em ed ew ep ea f : Nat → Nat} (hi : i ≤ 600) (hnm : nm ≤ 8) (r : rw_ok i mo nm (q_I h 154) w E em ed ew ep ea f) (v : sv_ok h 34 35 36 38 39 (q_I h 154) w E em ed ew ep ea) : rk_E h E em ed ew ep ea := fun j hj => by
  obtain ⟨b1, b2, b3, b4, b5, b6, b7, b8, b9, b10⟩ := r.2.2.2.2.2.1 j hj
  obtain ⟨c1, c2⟩ := v.2.2.1 j hj
  have hwi := r.2.1
  exact ⟨c1, c2, by omega, b7, b8, b9, by omega⟩
theorem sum_ext0 {F : Nat → Int32} {n : Nat} : ∀ m, (∀ k, n ≤ k → k < n + m → F k = 0) → q_sum F (n + m) = q_sum F n
  | 0, _ => rfl
  | m + 1, h => by
    show q_sum F (n + m) + F (n + m) = _
    rw [h (n + m) (by omega) (by omega), sum_ext0 m (fun k h1 h2 => h k h1 (by omega)), Int32.add_zero]
theorem sl_co {st st' : Nat → Nat → Int32 ⊕ Nat} : ∀ n j c, (∀ k, j ≤ k → k < j + n → ∀ c, st k c = st' k c) → q_sl st n j c = q_sl st' n j c
  | 0, _, _, _ => rfl
  | n + 1, j, c, h => by
    unfold q_sl
    rw [h j (by omega) (by omega) c]
    cases st' j c with
    | inl v => rfl
    | inr c' => exact sl_co n (j + 1) c' (fun k h1 h2 c => h k (by omega) (by omega) c)
theorem isn_co {R R' : Nat → Int32} (hR : q_req R R') (S x : Int32) : ∀ n, n ≤ 8 → q_isn R S x n = q_isn R' S x n
  | 0, _ => rfl
  | n + 1, h => by
    unfold q_isn
    rw [isn_co hR S x n (by omega), q_s8_rq hR (b := 8 * n) (by omega), hR (9 * n) (by omega)]
theorem stf_co {R R' S S' T T' : Nat → Int32} {nm most k : Nat} {i : Int32} (hR : q_req R R') (hnm : nm ≤ 8) (hS : ∀ j, j < k → S j = S' j ∧ T j = T' j) : q_stf R S T nm most k i = q_stf R' S' T' nm most k i := by
  unfold q_stf
  have e : q_sl (fun f c => q_sl (q_sft R S T nm most k i f) nm 0 c) nm 0 0 = q_sl (fun f c => q_sl (q_sft R' S' T' nm most k i f) nm 0 c) nm 0 0 := by
    refine sl_co nm 0 0 (fun f _ hf c => ?_)
    refine sl_co nm 0 c (fun t _ ht c => ?_)
    unfold q_sft
    rw [hR (9 * f) (by omega)]
    have e2 : (fun a => q_all (q_sok R S T nm t (nI a)) k) = (fun a => q_all (q_sok R' S' T' nm t (nI a)) k) := by
      funext a
      refine q_all_co (fun j hj => ?_)
      unfold q_sok
      rw [(hS j hj).1, (hS j hj).2, isn_co hR _ _ nm hnm]
    rw [e2]
  rw [e]
theorem st_place (l : Launch) (g : q_GP) {i : Nat} {h : q_H} (hi : i ≤ 512) (hR : RR i h) : q_2 l g i h mX9_place [.ref 0] mX10_place [.ref 124] := by
  obtain ⟨aS, aT, aP, aW, aZ, p, nm, nd, nc, mo, n, lv, LW, gu, aL, aN, aU, aH, aD⟩ := id hR
  have hs := aS.1
  obtain ⟨hp, hLk, hm, hLm, aP3, aG, aC, aV⟩ := id aL
  have hnm : nm ≤ 8 := hp.2.2.2.2.2.1
  have hnd : nd ≤ 8 := hp.2.2.2.2.2.2.2.1
  have hq := rel_req aN
  have hC := sC_of aC
  obtain ⟨w, E, em, ed, ew, ep, ea, f, rw_, sv, tm⟩ := id aN
  have hwc : q_I h 34 6 = nI w := sv.1
  have hwr : q_I h 154 200 = nI w := rw_.1
  have hw2 : w < 2 ^ 19 := by have := rw_.2.1; omega
  have hw3 : w < 2 ^ 20 := by omega
  have hE1 : q_I h 34 5 = nI E := sv.2.1
  have hEr : q_I h 154 201 = nI E := rw_.2.2.1
  have hE2 : E ≤ 300 := rw_.2.2.2.1
  have hEE := rel_E (by omega) hnm rw_ sv
  have hrn := rw_.2.2.2.2.2.2.1
  have hns : q_ns f 72 < 2 ^ 30 := by have := rw_.2.2.2.2.2.2.2.1; omega
  have hs8 : ∀ k, k < 9 → q_s8 (q_cr h) (8 * k) = q_s8 (q_I h 154) (8 * k) := fun k hk => q_s8_rq hq (by omega)
  have hhv : ∀ k, k < 9 → q_s8 (q_I h 154) (8 * k) = nI (q_hv f k) ∧ q_hv f k < 2 ^ 30 := fun k hk => ⟨q_rn_s8 hrn hk, by have := q_hv_le f hk; omega⟩
  exact q_2q hR (d2 := 0) (by decide) (by decide) (q_Ct_d (c_X9_place l g h hs)) (show q_I h 124 17 = _ from aP.symm) (fun h1 hk => by
    obtain ⟨hs1, aL1, er⟩ := rel_1 hk hs aL
    have e154 := er 154 (by decide)
    have e140 := er 140 (by decide)
    have e124 := er 124 (by decide)
    have c := c_X10_place l g h1 hs1 
    (try simp only [e154, e140, e124] at c)
    exact q_Ct_m c)
theorem st_man (l : Launch) (g : q_GP) {i : Nat} {h : q_H} (hi : i ≤ 512) (hR : RR i h) (x z : Int32) : q_2 l g i h mX9_man [.ref 0, .int x, .int z] mX10_man [.ref 124, .int x, .int z] := by
  obtain ⟨aS, aT, aP, aW, aZ, p, nm, nd, nc, mo, n, lv, LW, gu, aL, aN, aU, aH, aD⟩ := id hR
  have hs := aS.1
  obtain ⟨hp, hLk, hm, hLm, aP3, aG, aC, aV⟩ := id aL
  have hnm : nm ≤ 8 := hp.2.2.2.2.2.1
  have hnd : nd ≤ 8 := hp.2.2.2.2.2.2.2.1
  have hq := rel_req aN
  have hC := sC_of aC
  obtain ⟨w, E, em, ed, ew, ep, ea, f, rw_, sv, tm⟩ := id aN
  have hwc : q_I h 34 6 = nI w := sv.1
  have hwr : q_I h 154 200 = nI w := rw_.1
  have hw2 : w < 2 ^ 19 := by have := rw_.2.1; omega
  have hw3 : w < 2 ^ 20 := by omega
  have hE1 : q_I h 34 5 = nI E := sv.2.1
  have hEr : q_I h 154 201 = nI E := rw_.2.2.1
  have hE2 : E ≤ 300 := rw_.2.2.2.1
  have hEE := rel_E (by omega) hnm rw_ sv
  have hrn := rw_.2.2.2.2.2.2.1
  have hns : q_ns f 72 < 2 ^ 30 := by have := rw_.2.2.2.2.2.2.2.1; omega
  have hs8 : ∀ k, k < 9 → q_s8 (q_cr h) (8 * k) = q_s8 (q_I h 154) (8 * k) := fun k hk => q_s8_rq hq (by omega)
  have hhv : ∀ k, k < 9 → q_s8 (q_I h 154) (8 * k) = nI (q_hv f k) ∧ q_hv f k < 2 ^ 30 := fun k hk => ⟨q_rn_s8 hrn hk, by have := q_hv_le f hk; omega⟩
  by_cases hx : q_isN x nm
  · obtain ⟨m, hm8, rfl⟩ := isN_e (by omega) hx
    by_cases hz : ∃ k, 0 ≤ k ∧ k ≤ 6 ∧ z = nI k
    · obtain ⟨k, -, hk6, rfl⟩ := hz
      rcases (by omega : k = 0 ∨ k = 1 ∨ k = 2 ∨ k = 3 ∨ k = 4 ∨ k = 5 ∨ k = 6) with rfl | rfl | rfl | rfl | rfl | rfl | rfl
      · exact q_2q hR  (d2 := 4) (by decide) (by decide) (q_Ct_k (c_X9_man_0 l g h hs hp (hLk (by omega)) hwc hw3 hm8)) ((hs8 m (by omega)).symm) (fun h1 hk => by
    obtain ⟨hs1, aL1, er⟩ := rel_1 hk hs aL
    have e154 := er 154 (by decide)
    have e140 := er 140 (by decide)
    have e124 := er 124 (by decide)
    have c := c_X10_man_0 l g h1 hs1 aL1.2.2.1 aL1.2.2.2.1 (by rw [e154]; exact hwr) hw3 hm8
    (try simp only [e154, e140, e124] at c)
    exact c)
      · exact q_2q hR  (d2 := 4) (by decide) (by decide) (q_Ct_k (c_X9_man_1 l g h hs hp (hLk (by omega)) hwc hw3 hm8)) ((hq (9 * m) (by omega)).symm) (fun h1 hk => by
    obtain ⟨hs1, aL1, er⟩ := rel_1 hk hs aL
    have e154 := er 154 (by decide)
    have e140 := er 140 (by decide)
    have e124 := er 124 (by decide)
    have c := c_X10_man_1 l g h1 hs1 aL1.2.2.1 aL1.2.2.2.1 (by rw [e154]; exact hwr) hw3 hm8
    (try simp only [e154, e140, e124] at c)
    exact c)
      · exact q_2q hR  (d2 := 4) (by decide) (by decide) (q_Ct_k (c_X9_man_2 l g h hs hp (hLk (by omega)) hwc hw3 hm8)) ((q_s8_rq hq (b := 136 + 8 * m) (by omega)).symm) (fun h1 hk => by
    obtain ⟨hs1, aL1, er⟩ := rel_1 hk hs aL
    have e154 := er 154 (by decide)
    have e140 := er 140 (by decide)
    have e124 := er 124 (by decide)
    have c := c_X10_man_2 l g h1 hs1 aL1.2.2.1 aL1.2.2.2.1 (by rw [e154]; exact hwr) hw3 hm8
    (try simp only [e154, e140, e124] at c)
    exact c)
      · exact q_2q hR  (d2 := 4) (by decide) (by decide) (q_Ct_k (c_X9_man_3 l g h hs hp (hLk (by omega)) hwc hw3 hm8)) (q_sum_co (fun k hk => by rw [hq (72 + 8 * k + m) (by omega), hq (72 + 8 * m + k) (by omega)])) (fun h1 hk => by
    obtain ⟨hs1, aL1, er⟩ := rel_1 hk hs aL
    have e154 := er 154 (by decide)
    have e140 := er 140 (by decide)
    have e124 := er 124 (by decide)
    have c := c_X10_man_3 l g h1 hs1 aL1.2.2.1 aL1.2.2.2.1 (by rw [e154]; exact hwr) hw3 hm8
    (try simp only [e154, e140, e124] at c)
    exact c)
      · exact q_2q hR  (d2 := 4) (by decide) (by decide) (q_Ct_k (c_X9_man_4 l g h hs hp (hLk (by omega)) hwc hw3 hm8)) (by rw [wrm_RC hq hC w (by omega)]) (fun h1 hk => by
    obtain ⟨hs1, aL1, er⟩ := rel_1 hk hs aL
    have e154 := er 154 (by decide)
    have e140 := er 140 (by decide)
    have e124 := er 124 (by decide)
    have c := c_X10_man_4 l g h1 hs1 aL1.2.2.1 aL1.2.2.2.1 (by rw [e154]; exact hwr) hw3 hm8
    (try simp only [e154, e140, e124] at c)
    exact c)
      · exact q_2q hR  (d2 := 4) (by decide) (by decide) (q_Ct_k (c_X9_man_5 l g h hs hp (hLk (by omega)) hwc hw3 hm8)) (by rw [vb_RC hq hC hnm w m (fun k hk => hs8 k (by omega))]) (fun h1 hk => by
    obtain ⟨hs1, aL1, er⟩ := rel_1 hk hs aL
    have e154 := er 154 (by decide)
    have e140 := er 140 (by decide)
    have e124 := er 124 (by decide)
    have c := c_X10_man_5 l g h1 hs1 aL1.2.2.1 aL1.2.2.2.1 (by rw [e154]; exact hwr) hw3 hm8
    (try simp only [e154, e140, e124] at c)
    exact c)
      · exact q_2q hR  (d2 := 4) (by decide) (by decide) (q_Ct_k (c_X9_man_6 l g h hs hp (hLk (by omega)) hwc hw3 hm8)) ((els_rq hq (by omega)).symm) (fun h1 hk => by
    obtain ⟨hs1, aL1, er⟩ := rel_1 hk hs aL
    have e154 := er 154 (by decide)
    have e140 := er 140 (by decide)
    have e124 := er 124 (by decide)
    have c := c_X10_man_6 l g h1 hs1 aL1.2.2.1 aL1.2.2.2.1 (by rw [e154]; exact hwr) hw3 hm8
    (try simp only [e154, e140, e124] at c)
    exact c)
    · exact q_2q hR  (d2 := 4) (by decide) (by decide) (q_Ct_k (c_X9_man_b l g h hs hp (hLk (by omega)) hwc hw3 hm8 z (sw_n (by decide) hz))) (rfl) (fun h1 hk => by
    obtain ⟨hs1, aL1, er⟩ := rel_1 hk hs aL
    have e154 := er 154 (by decide)
    have e140 := er 140 (by decide)
    have e124 := er 124 (by decide)
    have c := c_X10_man_b l g h1 hs1 aL1.2.2.1 aL1.2.2.2.1 (by rw [e154]; exact hwr) hw3 hm8 z (sw_n (by decide) hz)
    (try simp only [e154, e140, e124] at c)
    exact c)
  · exact q_2q hR  (d2 := 4) (by decide) (by decide) (q_Ct_d (c_X9_man_f l g h hs hp z hx)) (rfl) (fun h1 hk => by
    obtain ⟨hs1, aL1, er⟩ := rel_1 hk hs aL
    have e154 := er 154 (by decide)
    have e140 := er 140 (by decide)
    have e124 := er 124 (by decide)
    have c := c_X10_man_f l g h1 hs1 aL1.2.2.1 x z hx
    (try simp only [e154, e140, e124] at c)
    exact q_Ct_m c)
theorem st_led (l : Launch) (g : q_GP) {i : Nat} {h : q_H} (hi : i ≤ 512) (hR : RR i h) (x z : Int32) : q_2 l g i h mX9_led [.ref 0, .int x, .int z] mX10_led [.ref 124, .int x, .int z] := by
  obtain ⟨aS, aT, aP, aW, aZ, p, nm, nd, nc, mo, n, lv, LW, gu, aL, aN, aU, aH, aD⟩ := id hR
  have hs := aS.1
  obtain ⟨hp, hLk, hm, hLm, aP3, aG, aC, aV⟩ := id aL
  have hnm : nm ≤ 8 := hp.2.2.2.2.2.1
  have hnd : nd ≤ 8 := hp.2.2.2.2.2.2.2.1
  have hq := rel_req aN
  have hC := sC_of aC
  obtain ⟨w, E, em, ed, ew, ep, ea, f, rw_, sv, tm⟩ := id aN
  have hwc : q_I h 34 6 = nI w := sv.1
  have hwr : q_I h 154 200 = nI w := rw_.1
  have hw2 : w < 2 ^ 19 := by have := rw_.2.1; omega
  have hw3 : w < 2 ^ 20 := by omega
  have hE1 : q_I h 34 5 = nI E := sv.2.1
  have hEr : q_I h 154 201 = nI E := rw_.2.2.1
  have hE2 : E ≤ 300 := rw_.2.2.2.1
  have hEE := rel_E (by omega) hnm rw_ sv
  have hrn := rw_.2.2.2.2.2.2.1
  have hns : q_ns f 72 < 2 ^ 30 := by have := rw_.2.2.2.2.2.2.2.1; omega
  have hs8 : ∀ k, k < 9 → q_s8 (q_cr h) (8 * k) = q_s8 (q_I h 154) (8 * k) := fun k hk => q_s8_rq hq (by omega)
  have hhv : ∀ k, k < 9 → q_s8 (q_I h 154) (8 * k) = nI (q_hv f k) ∧ q_hv f k < 2 ^ 30 := fun k hk => ⟨q_rn_s8 hrn hk, by have := q_hv_le f hk; omega⟩
  by_cases hx : q_isN z nm ∧ (x = -1 ∨ q_isN x nm)
  · obtain ⟨hz, hx⟩ := hx
    obtain ⟨b, hb8, rfl⟩ := isN_e (by omega) hz
    rcases hx with rfl | hx
    · exact q_2q hR  (d2 := 2) (by decide) (by decide) (q_Ct_d (c_X9_led_c l g h hs hp hb8)) ((hq (64 + b) (by omega)).symm) (fun h1 hk => by
    obtain ⟨hs1, aL1, er⟩ := rel_1 hk hs aL
    have e154 := er 154 (by decide)
    have e140 := er 140 (by decide)
    have e124 := er 124 (by decide)
    have c := c_X10_led_c l g h1 hs1 aL1.2.2.1 hb8
    (try simp only [e154, e140, e124] at c)
    exact q_Ct_m c)
    · obtain ⟨a, ha8, rfl⟩ := isN_e (by omega) hx
      exact q_2q hR  (d2 := 2) (by decide) (by decide) (q_Ct_d (c_X9_led_t l g h hs hp ha8 hb8)) ((hq (8 * a + b) (by omega)).symm) (fun h1 hk => by
    obtain ⟨hs1, aL1, er⟩ := rel_1 hk hs aL
    have e154 := er 154 (by decide)
    have e140 := er 140 (by decide)
    have e124 := er 124 (by decide)
    have c := c_X10_led_t l g h1 hs1 aL1.2.2.1 ha8 hb8
    (try simp only [e154, e140, e124] at c)
    exact q_Ct_m c)
  · exact q_2q hR  (d2 := 2) (by decide) (by decide) (q_Ct_d (c_X9_led_f l g h hs hp x z hx)) (rfl) (fun h1 hk => by
    obtain ⟨hs1, aL1, er⟩ := rel_1 hk hs aL
    have e154 := er 154 (by decide)
    have e140 := er 140 (by decide)
    have e124 := er 124 (by decide)
    have c := c_X10_led_f l g h1 hs1 aL1.2.2.1 x z hx
    (try simp only [e154, e140, e124] at c)
    exact q_Ct_m c)
theorem st_debt (l : Launch) (g : q_GP) {i : Nat} {h : q_H} (hi : i ≤ 512) (hR : RR i h) (x z : Int32) : q_2 l g i h mX9_debt [.ref 0, .int x, .int z] mX10_debt [.ref 124, .int x, .int z] := by
  obtain ⟨aS, aT, aP, aW, aZ, p, nm, nd, nc, mo, n, lv, LW, gu, aL, aN, aU, aH, aD⟩ := id hR
  have hs := aS.1
  obtain ⟨hp, hLk, hm, hLm, aP3, aG, aC, aV⟩ := id aL
  have hnm : nm ≤ 8 := hp.2.2.2.2.2.1
  have hnd : nd ≤ 8 := hp.2.2.2.2.2.2.2.1
  have hq := rel_req aN
  have hC := sC_of aC
  obtain ⟨w, E, em, ed, ew, ep, ea, f, rw_, sv, tm⟩ := id aN
  have hwc : q_I h 34 6 = nI w := sv.1
  have hwr : q_I h 154 200 = nI w := rw_.1
  have hw2 : w < 2 ^ 19 := by have := rw_.2.1; omega
  have hw3 : w < 2 ^ 20 := by omega
  have hE1 : q_I h 34 5 = nI E := sv.2.1
  have hEr : q_I h 154 201 = nI E := rw_.2.2.1
  have hE2 : E ≤ 300 := rw_.2.2.2.1
  have hEE := rel_E (by omega) hnm rw_ sv
  have hrn := rw_.2.2.2.2.2.2.1
  have hns : q_ns f 72 < 2 ^ 30 := by have := rw_.2.2.2.2.2.2.2.1; omega
  have hs8 : ∀ k, k < 9 → q_s8 (q_cr h) (8 * k) = q_s8 (q_I h 154) (8 * k) := fun k hk => q_s8_rq hq (by omega)
  have hhv : ∀ k, k < 9 → q_s8 (q_I h 154) (8 * k) = nI (q_hv f k) ∧ q_hv f k < 2 ^ 30 := fun k hk => ⟨q_rn_s8 hrn hk, by have := q_hv_le f hk; omega⟩
  by_cases hx : q_two x z nm
  · obtain ⟨a, b, ha8, hb8, hab, rfl, rfl⟩ := two_e (by omega) hx
    exact q_2q hR  (d2 := 3) (by decide) (by decide) (q_Ct_d (c_X9_debt_t l g h hs hp ha8 hb8 hab)) ((hq (72 + 8 * a + b) (by omega)).symm) (fun h1 hk => by
    obtain ⟨hs1, aL1, er⟩ := rel_1 hk hs aL
    have e154 := er 154 (by decide)
    have e140 := er 140 (by decide)
    have e124 := er 124 (by decide)
    have c := c_X10_debt_t l g h1 hs1 aL1.2.2.1 ha8 hb8 hab
    (try simp only [e154, e140, e124] at c)
    exact q_Ct_m c)
  · exact q_2q hR  (d2 := 3) (by decide) (by decide) (q_Ct_d (c_X9_debt_f l g h hs hp x z hx)) (rfl) (fun h1 hk => by
    obtain ⟨hs1, aL1, er⟩ := rel_1 hk hs aL
    have e154 := er 154 (by decide)
    have e140 := er 140 (by decide)
    have e124 := er 124 (by decide)
    have c := c_X10_debt_f l g h1 hs1 aL1.2.2.1 x z hx
    (try simp only [e154, e140, e124] at c)
    exact q_Ct_m c)
theorem st_tariff (l : Launch) (g : q_GP) {i : Nat} {h : q_H} (hi : i ≤ 512) (hR : RR i h) (x z : Int32) : q_2 l g i h mX9_tariff [.ref 0, .int x, .int z] mX10_tariff [.ref 124, .int x, .int z] := by
  obtain ⟨aS, aT, aP, aW, aZ, p, nm, nd, nc, mo, n, lv, LW, gu, aL, aN, aU, aH, aD⟩ := id hR
  have hs := aS.1
  obtain ⟨hp, hLk, hm, hLm, aP3, aG, aC, aV⟩ := id aL
  have hnm : nm ≤ 8 := hp.2.2.2.2.2.1
  have hnd : nd ≤ 8 := hp.2.2.2.2.2.2.2.1
  have hq := rel_req aN
  have hC := sC_of aC
  obtain ⟨w, E, em, ed, ew, ep, ea, f, rw_, sv, tm⟩ := id aN
  have hwc : q_I h 34 6 = nI w := sv.1
  have hwr : q_I h 154 200 = nI w := rw_.1
  have hw2 : w < 2 ^ 19 := by have := rw_.2.1; omega
  have hw3 : w < 2 ^ 20 := by omega
  have hE1 : q_I h 34 5 = nI E := sv.2.1
  have hEr : q_I h 154 201 = nI E := rw_.2.2.1
  have hE2 : E ≤ 300 := rw_.2.2.2.1
  have hEE := rel_E (by omega) hnm rw_ sv
  have hrn := rw_.2.2.2.2.2.2.1
  have hns : q_ns f 72 < 2 ^ 30 := by have := rw_.2.2.2.2.2.2.2.1; omega
  have hs8 : ∀ k, k < 9 → q_s8 (q_cr h) (8 * k) = q_s8 (q_I h 154) (8 * k) := fun k hk => q_s8_rq hq (by omega)
  have hhv : ∀ k, k < 9 → q_s8 (q_I h 154) (8 * k) = nI (q_hv f k) ∧ q_hv f k < 2 ^ 30 := fun k hk => ⟨q_rn_s8 hrn hk, by have := q_hv_le f hk; omega⟩
  by_cases hx : q_isN x nm ∧ q_isN z nd
  · obtain ⟨m, hm8, rfl⟩ := isN_e (by omega) hx.1
    obtain ⟨d, hd8, rfl⟩ := isN_e (by omega) hx.2
    exact q_2q hR  (d2 := 3) (by decide) (by decide) (q_Ct_k (c_X9_tariff_t l g h hs hp (hLk (by omega)) hwc hw3 hm8 hd8)) ((fin_RC hq hC w (by omega) (by omega)).symm) (fun h1 hk => by
    obtain ⟨hs1, aL1, er⟩ := rel_1 hk hs aL
    have e154 := er 154 (by decide)
    have e140 := er 140 (by decide)
    have e124 := er 124 (by decide)
    have c := c_X10_tariff_t l g h1 hs1 aL1.2.2.1 aL1.2.2.2.1 (by rw [e154]; exact hwr) hw3 hm8 hd8
    (try simp only [e154, e140, e124] at c)
    exact c)
  · exact q_2q hR  (d2 := 3) (by decide) (by decide) (q_Ct_d (c_X9_tariff_f l g h hs hp x z hx)) (rfl) (fun h1 hk => by
    obtain ⟨hs1, aL1, er⟩ := rel_1 hk hs aL
    have e154 := er 154 (by decide)
    have e140 := er 140 (by decide)
    have e124 := er 124 (by decide)
    have c := c_X10_tariff_f l g h1 hs1 aL1.2.2.1 x z hx
    (try simp only [e154, e140, e124] at c)
    exact q_Ct_m c)
theorem st_entry (l : Launch) (g : q_GP) {i : Nat} {h : q_H} (hi : i ≤ 512) (hR : RR i h) (x z : Int32) : q_2 l g i h mX9_entry [.ref 0, .int x, .int z] mX10_entry [.ref 124, .int x, .int z] := by
  obtain ⟨aS, aT, aP, aW, aZ, p, nm, nd, nc, mo, n, lv, LW, gu, aL, aN, aU, aH, aD⟩ := id hR
  have hs := aS.1
  obtain ⟨hp, hLk, hm, hLm, aP3, aG, aC, aV⟩ := id aL
  have hnm : nm ≤ 8 := hp.2.2.2.2.2.1
  have hnd : nd ≤ 8 := hp.2.2.2.2.2.2.2.1
  have hq := rel_req aN
  have hC := sC_of aC
  obtain ⟨w, E, em, ed, ew, ep, ea, f, rw_, sv, tm⟩ := id aN
  have hwc : q_I h 34 6 = nI w := sv.1
  have hwr : q_I h 154 200 = nI w := rw_.1
  have hw2 : w < 2 ^ 19 := by have := rw_.2.1; omega
  have hw3 : w < 2 ^ 20 := by omega
  have hE1 : q_I h 34 5 = nI E := sv.2.1
  have hEr : q_I h 154 201 = nI E := rw_.2.2.1
  have hE2 : E ≤ 300 := rw_.2.2.2.1
  have hEE := rel_E (by omega) hnm rw_ sv
  have hrn := rw_.2.2.2.2.2.2.1
  have hns : q_ns f 72 < 2 ^ 30 := by have := rw_.2.2.2.2.2.2.2.1; omega
  have hs8 : ∀ k, k < 9 → q_s8 (q_cr h) (8 * k) = q_s8 (q_I h 154) (8 * k) := fun k hk => q_s8_rq hq (by omega)
  have hhv : ∀ k, k < 9 → q_s8 (q_I h 154) (8 * k) = nI (q_hv f k) ∧ q_hv f k < 2 ^ 30 := fun k hk => ⟨q_rn_s8 hrn hk, by have := q_hv_le f hk; omega⟩
  by_cases hx : q_isN x E
  · obtain ⟨j, hj, rfl⟩ := isN_e (by omega) hx
    obtain ⟨b1, b2, b3, b4, b5, -⟩ := rw_.2.2.2.2.2.1 j hj
    by_cases hz : ∃ k, 0 ≤ k ∧ k ≤ 4 ∧ z = nI k
    · obtain ⟨k, -, hk4, rfl⟩ := hz
      rcases (by omega : k = 0 ∨ k = 1 ∨ k = 2 ∨ k = 3 ∨ k = 4) with rfl | rfl | rfl | rfl | rfl
      · exact q_2q hR  (d2 := 1) (by decide) (by decide) (q_Ct_d (c_X9_entry_0 l g h hs hE1 hE2 hEE hj)) ((show q_I h 154 (210 + 5 * j + 0) = _ from b1)) (fun h1 hk => by
    obtain ⟨hs1, aL1, er⟩ := rel_1 hk hs aL
    have e154 := er 154 (by decide)
    have e140 := er 140 (by decide)
    have e124 := er 124 (by decide)
    have c := c_X10_entry_t l g h1 hs1 (E := E) (by rw [e154]; exact hEr) hE2 j 0 hj (by decide)
    (try simp only [e154, e140, e124] at c)
    exact q_Ct_m c)
      · exact q_2q hR  (d2 := 1) (by decide) (by decide) (q_Ct_d (c_X9_entry_1 l g h hs hE1 hE2 hEE hj)) ((show q_I h 154 (210 + 5 * j + 1) = _ from b2)) (fun h1 hk => by
    obtain ⟨hs1, aL1, er⟩ := rel_1 hk hs aL
    have e154 := er 154 (by decide)
    have e140 := er 140 (by decide)
    have e124 := er 124 (by decide)
    have c := c_X10_entry_t l g h1 hs1 (E := E) (by rw [e154]; exact hEr) hE2 j 1 hj (by decide)
    (try simp only [e154, e140, e124] at c)
    exact q_Ct_m c)
      · exact q_2q hR  (d2 := 1) (by decide) (by decide) (q_Ct_d (c_X9_entry_2 l g h hs hE1 hE2 hEE hj)) ((show q_I h 154 (210 + 5 * j + 2) = _ from b3)) (fun h1 hk => by
    obtain ⟨hs1, aL1, er⟩ := rel_1 hk hs aL
    have e154 := er 154 (by decide)
    have e140 := er 140 (by decide)
    have e124 := er 124 (by decide)
    have c := c_X10_entry_t l g h1 hs1 (E := E) (by rw [e154]; exact hEr) hE2 j 2 hj (by decide)
    (try simp only [e154, e140, e124] at c)
    exact q_Ct_m c)
      · exact q_2q hR  (d2 := 1) (by decide) (by decide) (q_Ct_d (c_X9_entry_3 l g h hs hE1 hE2 hEE hj)) ((show q_I h 154 (210 + 5 * j + 3) = _ from b4)) (fun h1 hk => by
    obtain ⟨hs1, aL1, er⟩ := rel_1 hk hs aL
    have e154 := er 154 (by decide)
    have e140 := er 140 (by decide)
    have e124 := er 124 (by decide)
    have c := c_X10_entry_t l g h1 hs1 (E := E) (by rw [e154]; exact hEr) hE2 j 3 hj (by decide)
    (try simp only [e154, e140, e124] at c)
    exact q_Ct_m c)
      · exact q_2q hR  (d2 := 1) (by decide) (by decide) (q_Ct_d (c_X9_entry_4 l g h hs hE1 hE2 hEE hj)) ((show q_I h 154 (210 + 5 * j + 4) = _ from b5)) (fun h1 hk => by
    obtain ⟨hs1, aL1, er⟩ := rel_1 hk hs aL
    have e154 := er 154 (by decide)
    have e140 := er 140 (by decide)
    have e124 := er 124 (by decide)
    have c := c_X10_entry_t l g h1 hs1 (E := E) (by rw [e154]; exact hEr) hE2 j 4 hj (by decide)
    (try simp only [e154, e140, e124] at c)
    exact q_Ct_m c)
    · exact q_2q hR  (d2 := 1) (by decide) (by decide) (q_Ct_d (c_X9_entry_b l g h hs hE1 hE2 hj z (sw_n (by decide) hz))) (rfl) (fun h1 hk => by
    obtain ⟨hs1, aL1, er⟩ := rel_1 hk hs aL
    have e154 := er 154 (by decide)
    have e140 := er 140 (by decide)
    have e124 := er 124 (by decide)
    have c := c_X10_entry_b l g h1 hs1 (E := E) (by rw [e154]; exact hEr) hE2 j z hj hz
    (try simp only [e154, e140, e124] at c)
    exact q_Ct_m c)
  · exact q_2q hR  (d2 := 1) (by decide) (by decide) (q_Ct_d (c_X9_entry_f l g h hs hE1 hE2 z hx)) (rfl) (fun h1 hk => by
    obtain ⟨hs1, aL1, er⟩ := rel_1 hk hs aL
    have e154 := er 154 (by decide)
    have e140 := er 140 (by decide)
    have e124 := er 124 (by decide)
    have c := c_X10_entry_f l g h1 hs1 (E := E) (by rw [e154]; exact hEr) hE2 x z hx
    (try simp only [e154, e140, e124] at c)
    exact q_Ct_m c)
theorem st_elected (l : Launch) (g : q_GP) {i : Nat} {h : q_H} (hi : i ≤ 512) (hR : RR i h) (x : Int32) : q_2 l g i h mX9_elected [.ref 0, .int x] mX10_elected [.ref 124, .int x] := by
  obtain ⟨aS, aT, aP, aW, aZ, p, nm, nd, nc, mo, n, lv, LW, gu, aL, aN, aU, aH, aD⟩ := id hR
  have hs := aS.1
  obtain ⟨hp, hLk, hm, hLm, aP3, aG, aC, aV⟩ := id aL
  have hnm : nm ≤ 8 := hp.2.2.2.2.2.1
  have hnd : nd ≤ 8 := hp.2.2.2.2.2.2.2.1
  have hq := rel_req aN
  have hC := sC_of aC
  obtain ⟨w, E, em, ed, ew, ep, ea, f, rw_, sv, tm⟩ := id aN
  have hwc : q_I h 34 6 = nI w := sv.1
  have hwr : q_I h 154 200 = nI w := rw_.1
  have hw2 : w < 2 ^ 19 := by have := rw_.2.1; omega
  have hw3 : w < 2 ^ 20 := by omega
  have hE1 : q_I h 34 5 = nI E := sv.2.1
  have hEr : q_I h 154 201 = nI E := rw_.2.2.1
  have hE2 : E ≤ 300 := rw_.2.2.2.1
  have hEE := rel_E (by omega) hnm rw_ sv
  have hrn := rw_.2.2.2.2.2.2.1
  have hns : q_ns f 72 < 2 ^ 30 := by have := rw_.2.2.2.2.2.2.2.1; omega
  have hs8 : ∀ k, k < 9 → q_s8 (q_cr h) (8 * k) = q_s8 (q_I h 154) (8 * k) := fun k hk => q_s8_rq hq (by omega)
  have hhv : ∀ k, k < 9 → q_s8 (q_I h 154) (8 * k) = nI (q_hv f k) ∧ q_hv f k < 2 ^ 30 := fun k hk => ⟨q_rn_s8 hrn hk, by have := q_hv_le f hk; omega⟩
  by_cases hx : ∃ k, 0 ≤ k ∧ k ≤ 1 ∧ x = nI k
  · obtain ⟨k, -, hk1, rfl⟩ := hx
    by_cases hn : nm = 0
    · exact q_2q hR  (d2 := 4) (by decide) (by decide) (q_Ct_d (c_X9_elected_n l g h hs hp hn k (by omega))) (rfl) (fun h1 hk => by
    obtain ⟨hs1, aL1, er⟩ := rel_1 hk hs aL
    have e154 := er 154 (by decide)
    have e140 := er 140 (by decide)
    have e124 := er 124 (by decide)
    have c := c_X10_elected_n l g h1 hs1 aL1.2.2.1 hn k (by omega)
    (try simp only [e154, e140, e124] at c)
    exact q_Ct_m c)
    · have hn0 : 0 < nm := by omega
      have hH : ∀ k, k < 8 → q_s8 (q_cr h) (8 * k) = q_s8 (q_I h 154) (8 * k) := fun k hk => hs8 k (by omega)
      rcases (by omega : k = 0 ∨ k = 1) with rfl | rfl
      · exact q_2q hR (v2 := nI (q_who (q_I h 154) (q_I h 140) (fun k => q_s8 (q_I h 154) (8 * k)) LW lv nm nc w)) (d2 := 4) (by decide) (by decide) (q_Ct_k (c_X9_elected_0 l g h hs hp (hLk (by omega)) hwc hw3 hn0)) (by rw [who_RC hq hC hn0 hnm w hH]) (fun h1 hk => by
    obtain ⟨hs1, aL1, er⟩ := rel_1 hk hs aL
    have e154 := er 154 (by decide)
    have e140 := er 140 (by decide)
    have e124 := er 124 (by decide)
    have c := c_X10_elected_0 l g h1 hs1 aL1.2.2.1 aL1.2.2.2.1 (by rw [e154]; exact hwr) hw3 hn0
    (try simp only [e154, e140, e124] at c)
    exact c)
      · exact q_2q hR (v2 := q_vts (q_I h 154) (q_I h 140) (fun k => q_s8 (q_I h 154) (8 * k)) LW lv nm nc w (q_who (q_I h 154) (q_I h 140) (fun k => q_s8 (q_I h 154) (8 * k)) LW lv nm nc w)) (d2 := 4) (by decide) (by decide) (q_Ct_k (c_X9_elected_1 l g h hs hp (hLk (by omega)) hwc hw3 hn0)) (by rw [who_RC hq hC hn0 hnm w hH]; exact (vts_RC hq hC hn0 hnm w hH (Nat.lt_of_lt_of_le (who_lt hn0) hnm)).symm) (fun h1 hk => by
    obtain ⟨hs1, aL1, er⟩ := rel_1 hk hs aL
    have e154 := er 154 (by decide)
    have e140 := er 140 (by decide)
    have e124 := er 124 (by decide)
    have c := c_X10_elected_1 l g h1 hs1 aL1.2.2.1 aL1.2.2.2.1 (by rw [e154]; exact hwr) hw3 hn0
    (try simp only [e154, e140, e124] at c)
    exact c)
  · exact q_2q hR  (d2 := 4) (by decide) (by decide) (q_Ct_d (c_X9_elected_f l g h hs hx)) (rfl) (fun h1 hk => by
    obtain ⟨hs1, aL1, er⟩ := rel_1 hk hs aL
    have e154 := er 154 (by decide)
    have e140 := er 140 (by decide)
    have e124 := er 124 (by decide)
    have c := c_X10_elected_f l g h1 hs1 aL1.2.2.1 x hx
    (try simp only [e154, e140, e124] at c)
    exact q_Ct_m c)
theorem st_bald (l : Launch) (g : q_GP) {i : Nat} {h : q_H} (hi : i ≤ 512) (hR : RR i h) (x : Int32) : q_2 l g i h mX9_bald [.ref 0, .int x] mX10_bald [.ref 124, .int x] := by
  obtain ⟨aS, aT, aP, aW, aZ, p, nm, nd, nc, mo, n, lv, LW, gu, aL, aN, aU, aH, aD⟩ := id hR
  have hs := aS.1
  obtain ⟨hp, hLk, hm, hLm, aP3, aG, aC, aV⟩ := id aL
  have hnm : nm ≤ 8 := hp.2.2.2.2.2.1
  have hnd : nd ≤ 8 := hp.2.2.2.2.2.2.2.1
  have hq := rel_req aN
  have hC := sC_of aC
  obtain ⟨w, E, em, ed, ew, ep, ea, f, rw_, sv, tm⟩ := id aN
  have hwc : q_I h 34 6 = nI w := sv.1
  have hwr : q_I h 154 200 = nI w := rw_.1
  have hw2 : w < 2 ^ 19 := by have := rw_.2.1; omega
  have hw3 : w < 2 ^ 20 := by omega
  have hE1 : q_I h 34 5 = nI E := sv.2.1
  have hEr : q_I h 154 201 = nI E := rw_.2.2.1
  have hE2 : E ≤ 300 := rw_.2.2.2.1
  have hEE := rel_E (by omega) hnm rw_ sv
  have hrn := rw_.2.2.2.2.2.2.1
  have hns : q_ns f 72 < 2 ^ 30 := by have := rw_.2.2.2.2.2.2.2.1; omega
  have hs8 : ∀ k, k < 9 → q_s8 (q_cr h) (8 * k) = q_s8 (q_I h 154) (8 * k) := fun k hk => q_s8_rq hq (by omega)
  have hhv : ∀ k, k < 9 → q_s8 (q_I h 154) (8 * k) = nI (q_hv f k) ∧ q_hv f k < 2 ^ 30 := fun k hk => ⟨q_rn_s8 hrn hk, by have := q_hv_le f hk; omega⟩
  by_cases hx : q_isN x nm
  · obtain ⟨m, hm8, rfl⟩ := isN_e (by omega) hx
    obtain ⟨v1, v2⟩ := hhv m (by omega)
    exact q_2q hR (v2 := q_fndv (q_fnd (q_balP (q_I h 154) (q_I h 140) LW lv nm nc w m (q_hv f m)) (q_hv f m + 1) 0)) (d2 := 4) (by decide) (by decide) (q_Ct_k (c_X9_bald_t l g h hs hp (hLk (by omega)) hwc hw3 hm8 (hv := q_hv f m) ((hs8 m (by omega)).trans v1) v2)) (by rw [fnd_fst, fst_co (fun j _ => balP_RC hq hC (by omega) hnm w m (q_hv f m) j)]) (fun h1 hk => by
    obtain ⟨hs1, aL1, er⟩ := rel_1 hk hs aL
    have e154 := er 154 (by decide)
    have e140 := er 140 (by decide)
    have e124 := er 124 (by decide)
    have c := c_X10_bald_t l g h1 hs1 aL1.2.2.1 aL1.2.2.2.1 (by rw [e154]; exact hwr) hw3 hm8 (hv := q_hv f m) (by rw [e154]; exact v1) v2
    (try simp only [e154, e140, e124] at c)
    exact c)
  · exact q_2q hR  (d2 := 4) (by decide) (by decide) (q_Ct_d (c_X9_bald_f l g h hs hp hx)) (rfl) (fun h1 hk => by
    obtain ⟨hs1, aL1, er⟩ := rel_1 hk hs aL
    have e154 := er 154 (by decide)
    have e140 := er 140 (by decide)
    have e124 := er 124 (by decide)
    have c := c_X10_bald_f l g h1 hs1 aL1.2.2.1 x hx
    (try simp only [e154, e140, e124] at c)
    exact q_Ct_m c)
